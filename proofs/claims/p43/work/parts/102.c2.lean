def rm_X3_isFirstDue : Room := { frames := 0, cells := 0, slots := 0, locals := 0 }
theorem hin_X3_isFirstDue_RX1 : ∀ w ∈ wsX10, w ∈ vsX3_isFirstDue := fun w h => inM (inlX1 w h)
theorem fl_X3_isFirstDue_104 : xFl vsX3_isFirstDue RX3 104 1 0 := ⟨RX1, TX1, 14, rfl, by decide, hin_X3_isFirstDue_RX1, inM mq_19_23, rfl⟩
theorem fl_X3_isFirstDue_107 : xFl vsX3_isFirstDue RX3 107 1 4 := ⟨RX1, TX1, 14, rfl, by decide, hin_X3_isFirstDue_RX1, inM mq_20_0, rfl⟩
theorem nyS_X3_isFirstDue : yX3_isFirstDue.cls ≠ "java/lang/invoke/MethodHandle" ∧ yX3_isFirstDue.cls ≠ "java/lang/invoke/VarHandle" ∧ (parseMethodDescriptor yX3_isFirstDue.desc).map (fun d => d.parameters.length) = some 3 := by decide +kernel
set_option maxHeartbeats 4000000 in
set_option maxRecDepth 100000 in
theorem w_X3_isFirstDue {G : xG} {p : Program} {l : Launch} {e : Env} {s : State} {m : MethodId} {args : Array Value} {below : List Frame} {meth : Method} {c : Code} (C : xK G p s m args meth c cX3_isFirstDue 3 vsX3_isFirstDue RX3 (some .boolean)) (r : Int) (S' : xS) : ∀ k : Nat,
  (∀ (S : xS) (p0 : Nat) (i0 i1 : Int) (H : Heap) (locs : List Loc) (ls : Array Slot), g_X3_isFirstDue k 0 S p0 i0 i1 = some (r, S') → xI G S s H locs → lv_has ls 3 [(0, .ref (xB G + p0)), (1, .int (iI i0)), (2, .int (iI i1))] → W p l e rm_X3_isFirstDue s m args below meth c H locs 0 0 (MQ below (xQi G r S') args s 0 0 (xA G)) (F0 m 0 ls [])) ∧
  (∀ (S : xS) (p0 : Nat) (i0 i1 : Int) (H : Heap) (locs : List Loc) (ls : Array Slot), g_X3_isFirstDue k 1 S p0 i0 i1 = some (r, S') → xI G S s H locs → lv_has ls 3 [] → W p l e rm_X3_isFirstDue s m args below meth c H locs 0 0 (MQ below (xQi G r S') args s 0 0 (xA G)) (F0 m 67 ls [])) ∧
  (∀ (S : xS) (p0 : Nat) (i0 i1 : Int) (H : Heap) (locs : List Loc) (ls : Array Slot), g_X3_isFirstDue k 2 S p0 i0 i1 = some (r, S') → xI G S s H locs → lv_has ls 3 [] → W p l e rm_X3_isFirstDue s m args below meth c H locs 0 0 (MQ below (xQi G r S') args s 0 0 (xA G)) (F0 m 114 ls [])) ∧
  (∀ (S : xS) (p0 : Nat) (i0 i1 : Int) (H : Heap) (locs : List Loc) (ls : Array Slot), g_X3_isFirstDue k 3 S p0 i0 i1 = some (r, S') → xI G S s H locs → lv_has ls 3 [(0, .ref (xB G + p0)), (2, .int (iI i0))] → W p l e rm_X3_isFirstDue s m args below meth c H locs 0 0 (MQ below (xQi G r S') args s 0 0 (xA G)) (F0 m 134 ls [])) := by
  intro k
  induction k with
  | zero => exact ⟨fun _ _ _ _ _ _ _ hf => (by cases hf), fun _ _ _ _ _ _ _ hf => (by cases hf), fun _ _ _ _ _ _ _ hf => (by cases hf), fun _ _ _ _ _ _ _ hf => (by cases hf)⟩
  | succ fu ih =>
    obtain ⟨ih0, ih1, ih2, ih3⟩ := ih
    refine ⟨?_, ?_, ?_, ?_⟩
    · intro S p0 i0 i1 H locs ls hf I hl
      replace hf : b_X3_isFirstDue_0 (g_X3_isFirstDue fu) fu S p0 i0 i1 = some (r, S') := hf
      unfold b_X3_isFirstDue_0 at hf
      refine kx_iload_n 0 C dX3_isFirstDue_0 (lv_at hl 1 rfl) ?_
      by_cases c1 : wI i0 = 0
      · have hf := ifp c1 hf
        refine kx_tabIn 1 52 C 0 dX3_isFirstDue_1 c1 (by decide) rfl (by decide) ?_
        refine kx_iload_n 52 C dX3_isFirstDue_52 (lv_at hl 2 rfl) ?_
        refine kx_iconst 53 C dX3_isFirstDue_53 ?_
        refine kx_icmp_lt 54 67 C dX3_isFirstDue_54 (by decide) (fun c2 => ?_) (fun c2 => ?_)
        · have hf := ifp c2 hf
          exact ih1 _ _ _ _ _ _ _ hf I (lv_sub hl [] rfl)
        · have hf := ifn c2 hf
          refine kx_iload_n 57 C dX3_isFirstDue_57 (lv_at hl 2 rfl) ?_
          refine kx_bipush 58 C dX3_isFirstDue_58 (by decide) ?_
          refine kx_icmp_gt 60 67 C dX3_isFirstDue_60 (by decide) (fun c3 => ?_) (fun c3 => ?_)
          · have hf := ifp c3 hf
            exact ih1 _ _ _ _ _ _ _ hf I (lv_sub hl [] rfl)
          · have hf := ifn c3 hf
            refine kx_iconst 63 C dX3_isFirstDue_63 ?_
            refine kx_goto 64 68 C dX3_isFirstDue_64 (by decide) ?_
            exact kx_zret 68 C I (by decide) hf dX3_isFirstDue_68
      have hf := ifn c1 hf
      by_cases c4 : wI i0 = 1
      · have hf := ifp c4 hf
        refine kx_tabIn 1 69 C 1 dX3_isFirstDue_1 c4 (by decide) rfl (by decide) ?_
        refine kx_iload_n 69 C dX3_isFirstDue_69 (lv_at hl 2 rfl) ?_
        refine kx_iconst 70 C dX3_isFirstDue_70 ?_
        refine kx_icmp_lt 71 78 C dX3_isFirstDue_71 (by decide) (fun c5 => ?_) (fun c5 => ?_)
        · have hf := ifp c5 hf
          refine kx_iconst 78 C dX3_isFirstDue_78 ?_
          exact kx_zret 79 C I (by decide) hf dX3_isFirstDue_79
        · have hf := ifn c5 hf
          refine kx_iconst 74 C dX3_isFirstDue_74 ?_
          refine kx_goto 75 79 C dX3_isFirstDue_75 (by decide) ?_
          exact kx_zret 79 C I (by decide) hf dX3_isFirstDue_79
      have hf := ifn c4 hf
      by_cases c6 : wI i0 = 2
      · have hf := ifp c6 hf
        refine kx_tabIn 1 80 C 2 dX3_isFirstDue_1 c6 (by decide) rfl (by decide) ?_
        refine kx_iload_n 80 C dX3_isFirstDue_80 (lv_at hl 2 rfl) ?_
        refine kx_bipush 81 C dX3_isFirstDue_81 (by decide) ?_
        refine kx_icmp_gt 83 90 C dX3_isFirstDue_83 (by decide) (fun c7 => ?_) (fun c7 => ?_)
        · have hf := ifp c7 hf
          refine kx_iconst 90 C dX3_isFirstDue_90 ?_
          exact kx_zret 91 C I (by decide) hf dX3_isFirstDue_91
        · have hf := ifn c7 hf
          refine kx_iconst 86 C dX3_isFirstDue_86 ?_
          refine kx_goto 87 91 C dX3_isFirstDue_87 (by decide) ?_
          exact kx_zret 91 C I (by decide) hf dX3_isFirstDue_91
      have hf := ifn c6 hf
      by_cases c8 : wI i0 = 3
      · have hf := ifp c8 hf
        refine kx_tabIn 1 134 C 3 dX3_isFirstDue_1 c8 (by decide) rfl (by decide) ?_
        exact ih3 _ _ _ _ _ _ _ hf I (lv_sub hl [0, 2] rfl)
      have hf := ifn c8 hf
      by_cases c9 : wI i0 = 4
      · have hf := ifp c9 hf
        refine kx_tabIn 1 134 C 4 dX3_isFirstDue_1 c9 (by decide) rfl (by decide) ?_
        exact ih3 _ _ _ _ _ _ _ hf I (lv_sub hl [0, 2] rfl)
      have hf := ifn c9 hf
      by_cases c10 : wI i0 = 5
      · have hf := ifp c10 hf
        refine kx_tabIn 1 134 C 5 dX3_isFirstDue_1 c10 (by decide) rfl (by decide) ?_
        exact ih3 _ _ _ _ _ _ _ hf I (lv_sub hl [0, 2] rfl)
      have hf := ifn c10 hf
      by_cases c11 : wI i0 = 6
      · have hf := ifp c11 hf
        refine kx_tabIn 1 134 C 6 dX3_isFirstDue_1 c11 (by decide) rfl (by decide) ?_
        exact ih3 _ _ _ _ _ _ _ hf I (lv_sub hl [0, 2] rfl)
      have hf := ifn c11 hf
      by_cases c12 : wI i0 = 7
      · have hf := ifp c12 hf
        refine kx_tabIn 1 92 C 7 dX3_isFirstDue_1 c12 (by decide) rfl (by decide) ?_
        refine kx_iload_n 92 C dX3_isFirstDue_92 (lv_at hl 2 rfl) ?_
        refine kx_aload_n 93 C dX3_isFirstDue_93 (lv_at hl 0 rfl) ?_
        obtain ⟨x14, h13, hf⟩ := ob hf
        refine kx_geti 94 C I fl_X3_isFirstDue_104 h13 dX3_isFirstDue_94 ?_
        refine kx_icmp_ge 97 114 C dX3_isFirstDue_97 (by decide) (fun c15 => ?_) (fun c15 => ?_)
        · have hf := ifp c15 hf
          exact ih2 _ _ _ _ _ _ _ hf I (lv_sub hl [] rfl)
        · have hf := ifn c15 hf
          refine kx_aload_n 100 C dX3_isFirstDue_100 (lv_at hl 0 rfl) ?_
          obtain ⟨q17, h16, hf⟩ := ob hf
          refine kx_getp 101 C I fl_X3_isFirstDue_107 h16 dX3_isFirstDue_101 ?_
          refine kx_iload_n 104 C dX3_isFirstDue_104 (lv_at hl 2 rfl) ?_
          obtain ⟨x18, h19, hf⟩ := ob hf
          refine kx_iald 105 C I h19 dX3_isFirstDue_105 ?_
          refine kx_iconst 106 C dX3_isFirstDue_106 ?_
          refine kx_icmp_ne 107 114 C dX3_isFirstDue_107 (by decide) (fun c20 => ?_) (fun c20 => ?_)
          · have hf := ifn c20 hf
            exact ih2 _ _ _ _ _ _ _ hf I (lv_sub hl [] rfl)
          · have hf := ifp c20 hf
            refine kx_iconst 110 C dX3_isFirstDue_110 ?_
            refine kx_goto 111 115 C dX3_isFirstDue_111 (by decide) ?_
            exact kx_zret 115 C I (by decide) hf dX3_isFirstDue_115
      have hf := ifn c12 hf
      by_cases c21 : wI i0 = 8
      · have hf := ifp c21 hf
        refine kx_tabIn 1 116 C 8 dX3_isFirstDue_1 c21 (by decide) rfl (by decide) ?_
        refine kx_iload_n 116 C dX3_isFirstDue_116 (lv_at hl 2 rfl) ?_
        refine kx_getsN 117 C I C.en.2.1.2.2.2.1 dX3_isFirstDue_117 ?_
        refine kx_aload_n 120 C dX3_isFirstDue_120 (lv_at hl 0 rfl) ?_
        obtain ⟨x23, h22, hf⟩ := ob hf
        refine kx_geti 121 C I fl_X3_isFirstDue_104 h22 dX3_isFirstDue_121 ?_
        obtain ⟨x24, h25, hf⟩ := ob hf
        refine kx_tab 124 C I h25 dX3_isFirstDue_124 ?_
        refine kx_icmp_ge 125 132 C dX3_isFirstDue_125 (by decide) (fun c26 => ?_) (fun c26 => ?_)
        · have hf := ifp c26 hf
          refine kx_iconst 132 C dX3_isFirstDue_132 ?_
          exact kx_zret 133 C I (by decide) hf dX3_isFirstDue_133
        · have hf := ifn c26 hf
          refine kx_iconst 128 C dX3_isFirstDue_128 ?_
          refine kx_goto 129 133 C dX3_isFirstDue_129 (by decide) ?_
          exact kx_zret 133 C I (by decide) hf dX3_isFirstDue_133
      have hf := ifn c21 hf
      refine kx_tabOut 1 134 C dX3_isFirstDue_1 (by omega) (by decide) ?_
      exact ih3 _ _ _ _ _ _ _ hf I (lv_sub hl [0, 2] rfl)
    · intro S p0 i0 i1 H locs ls hf I hl
      replace hf : b_X3_isFirstDue_1 (g_X3_isFirstDue fu) fu S p0 i0 i1 = some (r, S') := hf
      unfold b_X3_isFirstDue_1 at hf
      refine kx_iconst 67 C dX3_isFirstDue_67 ?_
      exact kx_zret 68 C I (by decide) hf dX3_isFirstDue_68
    · intro S p0 i0 i1 H locs ls hf I hl
      replace hf : b_X3_isFirstDue_2 (g_X3_isFirstDue fu) fu S p0 i0 i1 = some (r, S') := hf
      unfold b_X3_isFirstDue_2 at hf
      refine kx_iconst 114 C dX3_isFirstDue_114 ?_
      exact kx_zret 115 C I (by decide) hf dX3_isFirstDue_115
    · intro S p0 i0 i1 H locs ls hf I hl
      replace hf : b_X3_isFirstDue_3 (g_X3_isFirstDue fu) fu S p0 i0 i1 = some (r, S') := hf
      unfold b_X3_isFirstDue_3 at hf
      refine kx_iload_n 134 C dX3_isFirstDue_134 (lv_at hl 1 rfl) ?_
      refine kx_aload_n 135 C dX3_isFirstDue_135 (lv_at hl 0 rfl) ?_
      obtain ⟨x28, h27, hf⟩ := ob hf
      refine kx_geti 136 C I fl_X3_isFirstDue_104 h27 dX3_isFirstDue_136 ?_
      refine kx_icmp_ge 139 146 C dX3_isFirstDue_139 (by decide) (fun c29 => ?_) (fun c29 => ?_)
      · have hf := ifp c29 hf
        refine kx_iconst 146 C dX3_isFirstDue_146 ?_
        exact kx_zret 147 C I (by decide) hf dX3_isFirstDue_147
      · have hf := ifn c29 hf
        refine kx_iconst 142 C dX3_isFirstDue_142 ?_
        refine kx_goto 143 147 C dX3_isFirstDue_143 (by decide) ?_
        exact kx_zret 147 C I (by decide) hf dX3_isFirstDue_147
set_option maxHeartbeats 4000000 in
set_option maxRecDepth 100000 in
theorem c_X3_isFirstDue (G : xG) (l : Launch) (fu : Nat) (S S' : xS) (p0 : Nat) (i0 : Int) (i1 : Int) (r : Int) (hf : f_X3_isFirstDue fu S p0 i0 i1 = some (r, S')) : Met l yX3_isFirstDue vsX3_isFirstDue rm_X3_isFirstDue (va_Pc [.ref (xB G + p0), .int (iI i0), .int (iI i1)] (xPre G S)) (xQi G r S') 0 0 (xA G) := by
  refine kx_met (ret := (some .boolean)) RX3 [(0, .ref (xB G + p0)), (1, .int (iI i0)), (2, .int (iI i1))] (by decide) rfl rfl (Nat.le_of_ble_eq_true rfl) rfl (fun p e s m below meth c ls C hin I hl => ?_)
  exact (w_X3_isFirstDue C r S' fu).1 S _ _ _ _ _ _ hf I hl
def rm_X3_hasTwoNumbers : Room := { frames := 0, cells := 0, slots := 0, locals := 0 }
theorem nyS_X3_hasTwoNumbers : yX3_hasTwoNumbers.cls ≠ "java/lang/invoke/MethodHandle" ∧ yX3_hasTwoNumbers.cls ≠ "java/lang/invoke/VarHandle" ∧ (parseMethodDescriptor yX3_hasTwoNumbers.desc).map (fun d => d.parameters.length) = some 1 := by decide +kernel
set_option maxHeartbeats 4000000 in
set_option maxRecDepth 100000 in
theorem w_X3_hasTwoNumbers {G : xG} {p : Program} {l : Launch} {e : Env} {s : State} {m : MethodId} {args : Array Value} {below : List Frame} {meth : Method} {c : Code} (C : xK G p s m args meth c cX3_hasTwoNumbers 1 vsX3_hasTwoNumbers RX3 (some .boolean)) (r : Int) (S' : xS) : ∀ k : Nat,
  (∀ (S : xS) (i0 : Int) (H : Heap) (locs : List Loc) (ls : Array Slot), g_X3_hasTwoNumbers k 0 S i0 = some (r, S') → xI G S s H locs → lv_has ls 1 [(0, .int (iI i0))] → W p l e rm_X3_hasTwoNumbers s m args below meth c H locs 0 0 (MQ below (xQi G r S') args s 0 0 (xA G)) (F0 m 0 ls [])) ∧
  (∀ (S : xS) (i0 : Int) (H : Heap) (locs : List Loc) (ls : Array Slot), g_X3_hasTwoNumbers k 1 S i0 = some (r, S') → xI G S s H locs → lv_has ls 1 [] → W p l e rm_X3_hasTwoNumbers s m args below meth c H locs 0 0 (MQ below (xQi G r S') args s 0 0 (xA G)) (F0 m 21 ls [])) := by
  intro k
  induction k with
  | zero => exact ⟨fun _ _ _ _ _ hf => (by cases hf), fun _ _ _ _ _ hf => (by cases hf)⟩
  | succ fu ih =>
    obtain ⟨ih0, ih1⟩ := ih
    refine ⟨?_, ?_⟩
    · intro S i0 H locs ls hf I hl
      replace hf : b_X3_hasTwoNumbers_0 (g_X3_hasTwoNumbers fu) fu S i0 = some (r, S') := hf
      unfold b_X3_hasTwoNumbers_0 at hf
      refine kx_iload_n 0 C dX3_hasTwoNumbers_0 (lv_at hl 0 rfl) ?_
      refine kx_iconst 1 C dX3_hasTwoNumbers_1 ?_
      refine kx_icmp_eq 2 21 C dX3_hasTwoNumbers_2 (by decide) (fun c1 => ?_) (fun c1 => ?_)
      · have hf := ifp c1 hf
        exact ih1 _ _ _ _ _ hf I (lv_sub hl [] rfl)
      · have hf := ifn c1 hf
        refine kx_iload_n 5 C dX3_hasTwoNumbers_5 (lv_at hl 0 rfl) ?_
        refine kx_iconst 6 C dX3_hasTwoNumbers_6 ?_
        refine kx_icmp_eq 7 21 C dX3_hasTwoNumbers_7 (by decide) (fun c2 => ?_) (fun c2 => ?_)
        · have hf := ifp c2 hf
          exact ih1 _ _ _ _ _ hf I (lv_sub hl [] rfl)
        · have hf := ifn c2 hf
          refine kx_iload_n 10 C dX3_hasTwoNumbers_10 (lv_at hl 0 rfl) ?_
          refine kx_iconst 11 C dX3_hasTwoNumbers_11 ?_
          refine kx_icmp_eq 12 21 C dX3_hasTwoNumbers_12 (by decide) (fun c3 => ?_) (fun c3 => ?_)
          · have hf := ifp c3 hf
            exact ih1 _ _ _ _ _ hf I (lv_sub hl [] rfl)
          · have hf := ifn c3 hf
            refine kx_iload_n 15 C dX3_hasTwoNumbers_15 (lv_at hl 0 rfl) ?_
            refine kx_bipush 16 C dX3_hasTwoNumbers_16 (by decide) ?_
            refine kx_icmp_ne 18 25 C dX3_hasTwoNumbers_18 (by decide) (fun c4 => ?_) (fun c4 => ?_)
            · have hf := ifn c4 hf
              refine kx_iconst 25 C dX3_hasTwoNumbers_25 ?_
              exact kx_zret 26 C I (by decide) hf dX3_hasTwoNumbers_26
            · have hf := ifp c4 hf
              exact ih1 _ _ _ _ _ hf I (lv_sub hl [] rfl)
    · intro S i0 H locs ls hf I hl
      replace hf : b_X3_hasTwoNumbers_1 (g_X3_hasTwoNumbers fu) fu S i0 = some (r, S') := hf
      unfold b_X3_hasTwoNumbers_1 at hf
      refine kx_iconst 21 C dX3_hasTwoNumbers_21 ?_
      refine kx_goto 22 26 C dX3_hasTwoNumbers_22 (by decide) ?_
      exact kx_zret 26 C I (by decide) hf dX3_hasTwoNumbers_26
set_option maxHeartbeats 4000000 in
set_option maxRecDepth 100000 in
theorem c_X3_hasTwoNumbers (G : xG) (l : Launch) (fu : Nat) (S S' : xS) (i0 : Int) (r : Int) (hf : f_X3_hasTwoNumbers fu S i0 = some (r, S')) : Met l yX3_hasTwoNumbers vsX3_hasTwoNumbers rm_X3_hasTwoNumbers (va_Pc [.int (iI i0)] (xPre G S)) (xQi G r S') 0 0 (xA G) := by
  refine kx_met (ret := (some .boolean)) RX3 [(0, .int (iI i0))] (by decide) rfl rfl (Nat.le_of_ble_eq_true rfl) rfl (fun p e s m below meth c ls C hin I hl => ?_)
  exact (w_X3_hasTwoNumbers C r S' fu).1 S _ _ _ _ hf I hl
def rm_X3_isSecondDue : Room := { frames := 1, cells := 0, slots := 0, locals := 22 }
theorem hin_X3_isSecondDue_RX1 : ∀ w ∈ wsX10, w ∈ vsX3_isSecondDue := fun w h => inM (inlX1 w h)
theorem fl_X3_isSecondDue_104 : xFl vsX3_isSecondDue RX3 104 1 0 := ⟨RX1, TX1, 14, rfl, by decide, hin_X3_isSecondDue_RX1, inM mq_19_23, rfl⟩
theorem nyS_X3_isSecondDue : yX3_isSecondDue.cls ≠ "java/lang/invoke/MethodHandle" ∧ yX3_isSecondDue.cls ≠ "java/lang/invoke/VarHandle" ∧ (parseMethodDescriptor yX3_isSecondDue.desc).map (fun d => d.parameters.length) = some 4 := by decide +kernel
set_option maxHeartbeats 4000000 in
set_option maxRecDepth 100000 in
theorem w_X3_isSecondDue {G : xG} {p : Program} {l : Launch} {e : Env} {s : State} {m : MethodId} {args : Array Value} {below : List Frame} {meth : Method} {c : Code} (C : xK G p s m args meth c cX3_isSecondDue 4 vsX3_isSecondDue RX3 (some .boolean)) (r : Int) (S' : xS) : ∀ k : Nat,
  (∀ (S : xS) (p0 : Nat) (i0 i1 i2 : Int) (H : Heap) (locs : List Loc) (ls : Array Slot), g_X3_isSecondDue k 0 S p0 i0 i1 i2 = some (r, S') → xI G S s H locs → lv_has ls 4 [(0, .ref (xB G + p0)), (1, .int (iI i0)), (2, .int (iI i1)), (3, .int (iI i2))] → W p l e rm_X3_isSecondDue s m args below meth c H locs 0 0 (MQ below (xQi G r S') args s 0 0 (xA G)) (F0 m 0 ls [])) ∧
  (∀ (S : xS) (p0 : Nat) (i0 i1 i2 : Int) (H : Heap) (locs : List Loc) (ls : Array Slot), g_X3_isSecondDue k 1 S p0 i0 i1 i2 = some (r, S') → xI G S s H locs → lv_has ls 4 [] → W p l e rm_X3_isSecondDue s m args below meth c H locs 0 0 (MQ below (xQi G r S') args s 0 0 (xA G)) (F0 m 57 ls [])) ∧
  (∀ (S : xS) (p0 : Nat) (i0 i1 i2 : Int) (H : Heap) (locs : List Loc) (ls : Array Slot), g_X3_isSecondDue k 2 S p0 i0 i1 i2 = some (r, S') → xI G S s H locs → lv_has ls 4 [] → W p l e rm_X3_isSecondDue s m args below meth c H locs 0 0 (MQ below (xQi G r S') args s 0 0 (xA G)) (F0 m 76 ls [])) ∧
  (∀ (S : xS) (p0 : Nat) (i0 i1 i2 : Int) (H : Heap) (locs : List Loc) (ls : Array Slot), g_X3_isSecondDue k 3 S p0 i0 i1 i2 = some (r, S') → xI G S s H locs → lv_has ls 4 [] → W p l e rm_X3_isSecondDue s m args below meth c H locs 0 0 (MQ below (xQi G r S') args s 0 0 (xA G)) (F0 m 98 ls [])) := by
  intro k
  induction k with
  | zero => exact ⟨fun _ _ _ _ _ _ _ _ hf => (by cases hf), fun _ _ _ _ _ _ _ _ hf => (by cases hf), fun _ _ _ _ _ _ _ _ hf => (by cases hf), fun _ _ _ _ _ _ _ _ hf => (by cases hf)⟩
  | succ fu ih =>
    obtain ⟨ih0, ih1, ih2, ih3⟩ := ih
    refine ⟨?_, ?_, ?_, ?_⟩
    · intro S p0 i0 i1 i2 H locs ls hf I hl
      replace hf : b_X3_isSecondDue_0 (g_X3_isSecondDue fu) fu S p0 i0 i1 i2 = some (r, S') := hf
      unfold b_X3_isSecondDue_0 at hf
      refine kx_iload_n 0 C dX3_isSecondDue_0 (lv_at hl 1 rfl) ?_
      by_cases c1 : wI i0 = 3
      · have hf := ifp c1 hf
        refine kx_tabIn 1 28 C 3 dX3_isSecondDue_1 c1 (by decide) rfl (by decide) ?_
        refine kx_iload_n 28 C dX3_isSecondDue_28 (lv_at hl 3 rfl) ?_
        refine kx_bipush 29 C dX3_isSecondDue_29 (by decide) ?_
        refine kx_icmp_ge 31 38 C dX3_isSecondDue_31 (by decide) (fun c2 => ?_) (fun c2 => ?_)
        · have hf := ifp c2 hf
          refine kx_iconst 38 C dX3_isSecondDue_38 ?_
          exact kx_zret 39 C I (by decide) hf dX3_isSecondDue_39
        · have hf := ifn c2 hf
          refine kx_iconst 34 C dX3_isSecondDue_34 ?_
          refine kx_goto 35 39 C dX3_isSecondDue_35 (by decide) ?_
          exact kx_zret 39 C I (by decide) hf dX3_isSecondDue_39
      have hf := ifn c1 hf
      by_cases c3 : wI i0 = 4
      · have hf := ifp c3 hf
        refine kx_tabIn 1 40 C 4 dX3_isSecondDue_1 c3 (by decide) rfl (by decide) ?_
        refine kx_iload_n 40 C dX3_isSecondDue_40 (lv_at hl 3 rfl) ?_
        refine kx_aload_n 41 C dX3_isSecondDue_41 (lv_at hl 0 rfl) ?_
        obtain ⟨x5, h4, hf⟩ := ob hf
        refine kx_geti 42 C I fl_X3_isSecondDue_104 h4 dX3_isSecondDue_42 ?_
        refine kx_icmp_ge 45 57 C dX3_isSecondDue_45 (by decide) (fun c6 => ?_) (fun c6 => ?_)
        · have hf := ifp c6 hf
          exact ih1 _ _ _ _ _ _ _ _ hf I (lv_sub hl [] rfl)
        · have hf := ifn c6 hf
          refine kx_iload_n 48 C dX3_isSecondDue_48 (lv_at hl 3 rfl) ?_
          refine kx_iload_n 49 C dX3_isSecondDue_49 (lv_at hl 2 rfl) ?_
          refine kx_icmp_eq 50 57 C dX3_isSecondDue_50 (by decide) (fun c7 => ?_) (fun c7 => ?_)
          · have hf := ifp c7 hf
            exact ih1 _ _ _ _ _ _ _ _ hf I (lv_sub hl [] rfl)
          · have hf := ifn c7 hf
            refine kx_iconst 53 C dX3_isSecondDue_53 ?_
            refine kx_goto 54 58 C dX3_isSecondDue_54 (by decide) ?_
            exact kx_zret 58 C I (by decide) hf dX3_isSecondDue_58
      have hf := ifn c3 hf
      by_cases c8 : wI i0 = 5
      · have hf := ifp c8 hf
        refine kx_tabIn 1 59 C 5 dX3_isSecondDue_1 c8 (by decide) rfl (by decide) ?_
        refine kx_iload_n 59 C dX3_isSecondDue_59 (lv_at hl 3 rfl) ?_
        refine kx_iconst 60 C dX3_isSecondDue_60 ?_
        refine kx_icmp_lt 61 76 C dX3_isSecondDue_61 (by decide) (fun c9 => ?_) (fun c9 => ?_)
        · have hf := ifp c9 hf
          exact ih2 _ _ _ _ _ _ _ _ hf I (lv_sub hl [] rfl)
        · have hf := ifn c9 hf
          refine kx_iload_n 64 C dX3_isSecondDue_64 (lv_at hl 3 rfl) ?_
          refine kx_aload_n 65 C dX3_isSecondDue_65 (lv_at hl 0 rfl) ?_
          obtain ⟨x11, h10, hf⟩ := ob hf
          refine kx_geti 66 C I fl_X3_isSecondDue_104 h10 dX3_isSecondDue_66 ?_
          refine kx_icmp_gt 69 76 C dX3_isSecondDue_69 (by decide) (fun c12 => ?_) (fun c12 => ?_)
          · have hf := ifp c12 hf
            exact ih2 _ _ _ _ _ _ _ _ hf I (lv_sub hl [] rfl)
          · have hf := ifn c12 hf
            refine kx_iconst 72 C dX3_isSecondDue_72 ?_
            refine kx_goto 73 77 C dX3_isSecondDue_73 (by decide) ?_
            exact kx_zret 77 C I (by decide) hf dX3_isSecondDue_77
      have hf := ifn c8 hf
      refine kx_tabOut 1 78 C dX3_isSecondDue_1 (by omega) (by decide) ?_
      refine kx_iload_n 78 C dX3_isSecondDue_78 (lv_at hl 3 rfl) ?_
      refine kx_aload_n 79 C dX3_isSecondDue_79 (lv_at hl 0 rfl) ?_
      obtain ⟨x14, h13, hf⟩ := ob hf
      refine kx_geti 80 C I fl_X3_isSecondDue_104 h13 dX3_isSecondDue_80 ?_
      refine kx_icmp_ge 83 98 C dX3_isSecondDue_83 (by decide) (fun c15 => ?_) (fun c15 => ?_)
      · have hf := ifp c15 hf
        exact ih3 _ _ _ _ _ _ _ _ hf I (lv_sub hl [] rfl)
      · have hf := ifn c15 hf
        refine kx_aload_n 86 C dX3_isSecondDue_86 (lv_at hl 0 rfl) ?_
        refine kx_iload_n 87 C dX3_isSecondDue_87 (lv_at hl 3 rfl) ?_
        obtain ⟨h19, hf⟩ := ift hf
        obtain ⟨x18, S16, h17, hf⟩ := ob2 hf
        refine kx_callVi 88 C hl I (ci := 1) (As := [.int (iI i2)]) (rest := []) (c_X1_isKnownSlip G l fu _ _ _ _ _ h17) (cwV 1 C.ts gX3_isSecondDue_X1_isKnownSlip rfl rfl rfl nyV_X1_isKnownSlip ⟨Nat.le_of_ble_eq_true rfl, Nat.le_of_ble_eq_true rfl⟩) rfl h19 rfl rfl (Nat.le_of_ble_eq_true rfl) dX3_isSecondDue_88 ⟨Nat.le_of_ble_eq_true rfl, Nat.le_of_ble_eq_true rfl⟩ (fun H locs I => ?_)
        refine kx_if_ne 91 98 C dX3_isSecondDue_91 (by decide) (fun c20 => ?_) (fun c20 => ?_)
        · have hf := ifn c20 hf
          exact ih3 _ _ _ _ _ _ _ _ hf I (lv_sub hl [] rfl)
        · have hf := ifp c20 hf
          refine kx_iconst 94 C dX3_isSecondDue_94 ?_
          refine kx_goto 95 99 C dX3_isSecondDue_95 (by decide) ?_
          exact kx_zret 99 C I (by decide) hf dX3_isSecondDue_99
    · intro S p0 i0 i1 i2 H locs ls hf I hl
      replace hf : b_X3_isSecondDue_1 (g_X3_isSecondDue fu) fu S p0 i0 i1 i2 = some (r, S') := hf
      unfold b_X3_isSecondDue_1 at hf
      refine kx_iconst 57 C dX3_isSecondDue_57 ?_
      exact kx_zret 58 C I (by decide) hf dX3_isSecondDue_58
    · intro S p0 i0 i1 i2 H locs ls hf I hl
      replace hf : b_X3_isSecondDue_2 (g_X3_isSecondDue fu) fu S p0 i0 i1 i2 = some (r, S') := hf
      unfold b_X3_isSecondDue_2 at hf
      refine kx_iconst 76 C dX3_isSecondDue_76 ?_
      exact kx_zret 77 C I (by decide) hf dX3_isSecondDue_77
    · intro S p0 i0 i1 i2 H locs ls hf I hl
      replace hf : b_X3_isSecondDue_3 (g_X3_isSecondDue fu) fu S p0 i0 i1 i2 = some (r, S') := hf
      unfold b_X3_isSecondDue_3 at hf
      refine kx_iconst 98 C dX3_isSecondDue_98 ?_
      exact kx_zret 99 C I (by decide) hf dX3_isSecondDue_99
set_option maxHeartbeats 4000000 in
set_option maxRecDepth 100000 in
theorem c_X3_isSecondDue (G : xG) (l : Launch) (fu : Nat) (S S' : xS) (p0 : Nat) (i0 : Int) (i1 : Int) (i2 : Int) (r : Int) (hf : f_X3_isSecondDue fu S p0 i0 i1 i2 = some (r, S')) : Met l yX3_isSecondDue vsX3_isSecondDue rm_X3_isSecondDue (va_Pc [.ref (xB G + p0), .int (iI i0), .int (iI i1), .int (iI i2)] (xPre G S)) (xQi G r S') 0 0 (xA G) := by
  refine kx_met (ret := (some .boolean)) RX3 [(0, .ref (xB G + p0)), (1, .int (iI i0)), (2, .int (iI i1)), (3, .int (iI i2))] (by decide) rfl rfl (Nat.le_of_ble_eq_true rfl) rfl (fun p e s m below meth c ls C hin I hl => ?_)
  exact (w_X3_isSecondDue C r S' fu).1 S _ _ _ _ _ _ _ hf I hl
def rm_X4_exchange : Room := { frames := 0, cells := 0, slots := 0, locals := 0 }
theorem nyS_X4_exchange : yX4_exchange.cls ≠ "java/lang/invoke/MethodHandle" ∧ yX4_exchange.cls ≠ "java/lang/invoke/VarHandle" ∧ (parseMethodDescriptor yX4_exchange.desc).map (fun d => d.parameters.length) = some 3 := by decide +kernel
set_option maxHeartbeats 4000000 in
set_option maxRecDepth 100000 in
theorem c_X4_exchange (G : xG) (l : Launch) (fu : Nat) (S S' : xS) (p0 : Nat) (i0 : Int) (i1 : Int) (r : Int) (hf : f_X4_exchange fu S p0 i0 i1 = some (r, S')) : Met l yX4_exchange vsX4_exchange rm_X4_exchange (va_Pc [.ref (xB G + p0), .int (iI i0), .int (iI i1)] (xPre G S)) (xQv G S') 0 0 (xA G) := by
  refine kx_met (ret := none) RX4 [(0, .ref (xB G + p0)), (1, .int (iI i0)), (2, .int (iI i1))] (by decide) rfl rfl (Nat.le_of_ble_eq_true rfl) rfl (fun p e s m below meth c ls C hin I hl => ?_)
  unfold f_X4_exchange at hf
  refine kx_aload_n 0 C dX4_exchange_0 (lv_at hl 0 rfl) ?_
  refine kx_iload_n 1 C dX4_exchange_1 (lv_at hl 1 rfl) ?_
  obtain ⟨x1, h2, hf⟩ := ob hf
  refine kx_iald 2 C I h2 dX4_exchange_2 ?_
  refine kx_istore_n 3 C (lv' := [(3, .int (iI x1)), (0, .ref (xB G + p0)), (1, .int (iI i0)), (2, .int (iI i1))]) dX4_exchange_3 hl (by decide) rfl rfl (fun ls hl => ?_)
  refine kx_aload_n 4 C dX4_exchange_4 (lv_at hl 1 rfl) ?_
  refine kx_iload_n 5 C dX4_exchange_5 (lv_at hl 2 rfl) ?_
  refine kx_aload_n 6 C dX4_exchange_6 (lv_at hl 1 rfl) ?_
  refine kx_iload_n 7 C dX4_exchange_7 (lv_at hl 3 rfl) ?_
  obtain ⟨x3, h4, hf⟩ := ob hf
  refine kx_iald 8 C I h4 dX4_exchange_8 ?_
  obtain ⟨S6, h5, hf⟩ := ob hf
  refine kx_iast 9 C I h5 dX4_exchange_9 (fun H locs I => ?_)
  refine kx_aload_n 10 C dX4_exchange_10 (lv_at hl 1 rfl) ?_
  refine kx_iload_n 11 C dX4_exchange_11 (lv_at hl 3 rfl) ?_
  refine kx_iload_n 12 C dX4_exchange_12 (lv_at hl 0 rfl) ?_
  obtain ⟨S8, h7, hf⟩ := ob hf
  refine kx_iast 13 C I h7 dX4_exchange_13 (fun H locs I => ?_)
  exact kx_vret 14 C I hf dX4_exchange_14
def rm_X3_takeEffect : Room := { frames := 2, cells := 0, slots := 0, locals := 44 }
theorem hin_X3_takeEffect_RX1 : ∀ w ∈ wsX10, w ∈ vsX3_takeEffect := fun w h => inM (inlX1 w h)
theorem fl_X3_takeEffect_104 : xFl vsX3_takeEffect RX3 104 1 0 := ⟨RX1, TX1, 14, rfl, by decide, hin_X3_takeEffect_RX1, inM mq_19_23, rfl⟩
theorem fl_X3_takeEffect_107 : xFl vsX3_takeEffect RX3 107 1 4 := ⟨RX1, TX1, 14, rfl, by decide, hin_X3_takeEffect_RX1, inM mq_20_0, rfl⟩
theorem fl_X3_takeEffect_126 : xFl vsX3_takeEffect RX3 126 1 1 := ⟨RX1, TX1, 14, rfl, by decide, hin_X3_takeEffect_RX1, inM mq_20_11, rfl⟩
theorem fl_X3_takeEffect_128 : xFl vsX3_takeEffect RX3 128 1 2 := ⟨RX1, TX1, 14, rfl, by decide, hin_X3_takeEffect_RX1, inM mq_20_12, rfl⟩
theorem fl_X3_takeEffect_130 : xFl vsX3_takeEffect RX3 130 1 5 := ⟨RX1, TX1, 14, rfl, by decide, hin_X3_takeEffect_RX1, inM mq_20_13, rfl⟩
theorem fl_X3_takeEffect_133 : xFl vsX3_takeEffect RX3 133 1 3 := ⟨RX1, TX1, 14, rfl, by decide, hin_X3_takeEffect_RX1, inM mq_20_14, rfl⟩
theorem mw_X3_takeEffect_0 : Cond.methodLink RX3 120 Lib.Math.min.name ∈ vsX3_takeEffect := inM mq_16_19
theorem mw_X3_takeEffect_1 : Cond.static Lib.Math.min.name ∈ vsX3_takeEffect := inM mq_16_20
theorem mw_X3_takeEffect_2 : Cond.initialized "java/lang/Math" ∈ vsX3_takeEffect := inM mq_16_21
theorem mw_X3_takeEffect_3 : Cond.code Lib.Math.min.name Lib.Math.min.code 2 (some .int) ∈ vsX3_takeEffect := inM mq_16_22
theorem nyS_X3_takeEffect : yX3_takeEffect.cls ≠ "java/lang/invoke/MethodHandle" ∧ yX3_takeEffect.cls ≠ "java/lang/invoke/VarHandle" ∧ (parseMethodDescriptor yX3_takeEffect.desc).map (fun d => d.parameters.length) = some 4 := by decide +kernel
set_option maxHeartbeats 4000000 in
set_option maxRecDepth 100000 in
theorem c_X3_takeEffect (G : xG) (l : Launch) (fu : Nat) (S S' : xS) (p0 : Nat) (i0 : Int) (i1 : Int) (i2 : Int) (r : Int) (hf : f_X3_takeEffect fu S p0 i0 i1 i2 = some (r, S')) : Met l yX3_takeEffect vsX3_takeEffect rm_X3_takeEffect (va_Pc [.ref (xB G + p0), .int (iI i0), .int (iI i1), .int (iI i2)] (xPre G S)) (xQv G S') 0 0 (xA G) := by
  refine kx_met (ret := none) RX3 [(0, .ref (xB G + p0)), (1, .int (iI i0)), (2, .int (iI i1)), (3, .int (iI i2))] (by decide) rfl rfl (Nat.le_of_ble_eq_true rfl) rfl (fun p e s m below meth c ls C hin I hl => ?_)
  unfold f_X3_takeEffect at hf
  refine kx_iload_n 0 C dX3_takeEffect_0 (lv_at hl 1 rfl) ?_
  by_cases c1 : wI i0 = 0
  · have hf := ifp c1 hf
    refine kx_tabIn 1 48 C 0 dX3_takeEffect_1 c1 (by decide) rfl (by decide) ?_
    refine kx_aload_n 48 C dX3_takeEffect_48 (lv_at hl 0 rfl) ?_
    refine kx_iload_n 49 C dX3_takeEffect_49 (lv_at hl 2 rfl) ?_
    obtain ⟨h5, hf⟩ := ift hf
    obtain ⟨z4, S2, h3, hf⟩ := ob2 hf
    refine kx_callVv 50 C hl I (ci := 1) (As := [.int (iI i1)]) (rest := []) (c_X1_setAsAtFirst G l fu _ _ _ _ _ h3) (cwV 1 C.ts gX3_takeEffect_X1_setAsAtFirst rfl rfl rfl nyV_X1_setAsAtFirst ⟨Nat.le_of_ble_eq_true rfl, Nat.le_of_ble_eq_true rfl⟩) rfl h5 rfl rfl (Nat.le_of_ble_eq_true rfl) dX3_takeEffect_50 ⟨Nat.le_of_ble_eq_true rfl, Nat.le_of_ble_eq_true rfl⟩ (fun H locs I => ?_)
    refine kx_goto 53 137 C dX3_takeEffect_53 (by decide) ?_
    exact kx_vret 137 C I hf dX3_takeEffect_137
  have hf := ifn c1 hf
  by_cases c6 : wI i0 = 1
  · have hf := ifp c6 hf
    refine kx_tabIn 1 56 C 1 dX3_takeEffect_1 c6 (by decide) rfl (by decide) ?_
    refine kx_aload_n 56 C dX3_takeEffect_56 (lv_at hl 0 rfl) ?_
    refine kx_iload_n 57 C dX3_takeEffect_57 (lv_at hl 2 rfl) ?_
    refine kx_aload_n 58 C dX3_takeEffect_58 (lv_at hl 0 rfl) ?_
    obtain ⟨x8, h7, hf⟩ := ob hf
    refine kx_geti 59 C I fl_X3_takeEffect_104 h7 dX3_takeEffect_59 ?_
    refine kx_mmin 62 C hl mw_X3_takeEffect_0 mw_X3_takeEffect_1 mw_X3_takeEffect_2 mw_X3_takeEffect_3 ⟨Nat.le_of_ble_eq_true rfl, Nat.le_of_ble_eq_true rfl⟩ ⟨Nat.le_of_ble_eq_true rfl, Nat.le_of_ble_eq_true rfl⟩ dX3_takeEffect_62 ?_
    obtain ⟨S10, h9, hf⟩ := ob hf
    refine kx_puti 65 C I fl_X3_takeEffect_126 fw_RX1_1 h9 dX3_takeEffect_65 (fun H locs I => ?_)
    refine kx_goto 68 137 C dX3_takeEffect_68 (by decide) ?_
    exact kx_vret 137 C I hf dX3_takeEffect_137
  have hf := ifn c6 hf
  by_cases c11 : wI i0 = 2
  · have hf := ifp c11 hf
    refine kx_tabIn 1 71 C 2 dX3_takeEffect_1 c11 (by decide) rfl (by decide) ?_
    refine kx_aload_n 71 C dX3_takeEffect_71 (lv_at hl 0 rfl) ?_
    refine kx_iload_n 72 C dX3_takeEffect_72 (lv_at hl 2 rfl) ?_
    obtain ⟨S13, h12, hf⟩ := ob hf
    refine kx_puti 73 C I fl_X3_takeEffect_128 fw_RX1_2 h12 dX3_takeEffect_73 (fun H locs I => ?_)
    refine kx_goto 76 137 C dX3_takeEffect_76 (by decide) ?_
    exact kx_vret 137 C I hf dX3_takeEffect_137
  have hf := ifn c11 hf
  by_cases c14 : wI i0 = 3
  · have hf := ifp c14 hf
    refine kx_tabIn 1 79 C 3 dX3_takeEffect_1 c14 (by decide) rfl (by decide) ?_
    refine kx_aload_n 79 C dX3_takeEffect_79 (lv_at hl 0 rfl) ?_
    obtain ⟨q16, h15, hf⟩ := ob hf
    refine kx_getp 80 C I fl_X3_takeEffect_130 h15 dX3_takeEffect_80 ?_
    refine kx_iload_n 83 C dX3_takeEffect_83 (lv_at hl 2 rfl) ?_
    refine kx_iload_n 84 C dX3_takeEffect_84 (lv_at hl 3 rfl) ?_
    obtain ⟨S18, h17, hf⟩ := ob hf
    refine kx_iast 85 C I h17 dX3_takeEffect_85 (fun H locs I => ?_)
    refine kx_goto 86 137 C dX3_takeEffect_86 (by decide) ?_
    exact kx_vret 137 C I hf dX3_takeEffect_137
  have hf := ifn c14 hf
  by_cases c19 : wI i0 = 4
  · have hf := ifp c19 hf
    refine kx_tabIn 1 89 C 4 dX3_takeEffect_1 c19 (by decide) rfl (by decide) ?_
    refine kx_aload_n 89 C dX3_takeEffect_89 (lv_at hl 0 rfl) ?_
    obtain ⟨q21, h20, hf⟩ := ob hf
    refine kx_getp 90 C I fl_X3_takeEffect_133 h20 dX3_takeEffect_90 ?_
    refine kx_iload_n 93 C dX3_takeEffect_93 (lv_at hl 2 rfl) ?_
    refine kx_iload_n 94 C dX3_takeEffect_94 (lv_at hl 3 rfl) ?_
    obtain ⟨z24, S22, h23, hf⟩ := ob2 hf
    refine kx_callSv 95 C hl I (As := [.ref (xB G + q21), .int (iI i1), .int (iI i2)]) (rest := []) (c_X4_exchange G l fu _ _ _ _ _ _ h23) (va_cwS 3 C.ts gX3_takeEffect_X4_exchange rfl rfl rfl nyS_X4_exchange ⟨Nat.le_of_ble_eq_true rfl, Nat.le_of_ble_eq_true rfl⟩) rfl rfl (Nat.le_of_ble_eq_true rfl) dX3_takeEffect_95 ⟨Nat.le_of_ble_eq_true rfl, Nat.le_of_ble_eq_true rfl⟩ (fun H locs I => ?_)
    refine kx_goto 98 137 C dX3_takeEffect_98 (by decide) ?_
    exact kx_vret 137 C I hf dX3_takeEffect_137
  have hf := ifn c19 hf
  by_cases c25 : wI i0 = 5
  · have hf := ifp c25 hf
    refine kx_tabIn 1 101 C 5 dX3_takeEffect_1 c25 (by decide) rfl (by decide) ?_
    refine kx_aload_n 101 C dX3_takeEffect_101 (lv_at hl 0 rfl) ?_
    refine kx_iload_n 102 C dX3_takeEffect_102 (lv_at hl 2 rfl) ?_
    refine kx_iload_n 103 C dX3_takeEffect_103 (lv_at hl 3 rfl) ?_
    obtain ⟨h29, hf⟩ := ift hf
    obtain ⟨x28, S26, h27, hf⟩ := ob2 hf
    refine kx_callVi 104 C hl I (ci := 1) (As := [.int (iI i1), .int (iI i2)]) (rest := []) (c_X1_addReport G l fu _ _ _ _ _ _ h27) (cwV 2 C.ts gX3_takeEffect_X1_addReport rfl rfl rfl nyV_X1_addReport ⟨Nat.le_of_ble_eq_true rfl, Nat.le_of_ble_eq_true rfl⟩) rfl h29 rfl rfl (Nat.le_of_ble_eq_true rfl) dX3_takeEffect_104 ⟨Nat.le_of_ble_eq_true rfl, Nat.le_of_ble_eq_true rfl⟩ (fun H locs I => ?_)
    refine kx_pop 107 C dX3_takeEffect_107 rfl ?_
    refine kx_goto 108 137 C dX3_takeEffect_108 (by decide) ?_
    exact kx_vret 137 C I hf dX3_takeEffect_137
  have hf := ifn c25 hf
  by_cases c30 : wI i0 = 6
  · have hf := ifp c30 hf
    refine kx_tabIn 1 111 C 6 dX3_takeEffect_1 c30 (by decide) rfl (by decide) ?_
    refine kx_aload_n 111 C dX3_takeEffect_111 (lv_at hl 0 rfl) ?_
    refine kx_iload_n 112 C dX3_takeEffect_112 (lv_at hl 2 rfl) ?_
    refine kx_iconst 113 C dX3_takeEffect_113 ?_
    obtain ⟨h34, hf⟩ := ift hf
    obtain ⟨x33, S31, h32, hf⟩ := ob2 hf
    refine kx_callVi 114 C hl I (ci := 1) (As := [.int (iI i1), .int (iI 0)]) (rest := []) (c_X1_addReport G l fu _ _ _ _ _ _ h32) (cwV 2 C.ts gX3_takeEffect_X1_addReport rfl rfl rfl nyV_X1_addReport ⟨Nat.le_of_ble_eq_true rfl, Nat.le_of_ble_eq_true rfl⟩) rfl h34 rfl rfl (Nat.le_of_ble_eq_true rfl) dX3_takeEffect_114 ⟨Nat.le_of_ble_eq_true rfl, Nat.le_of_ble_eq_true rfl⟩ (fun H locs I => ?_)
    refine kx_pop 117 C dX3_takeEffect_117 rfl ?_
    refine kx_goto 118 137 C dX3_takeEffect_118 (by decide) ?_
    exact kx_vret 137 C I hf dX3_takeEffect_137
  have hf := ifn c30 hf
  by_cases c35 : wI i0 = 7
  · have hf := ifp c35 hf
    refine kx_tabIn 1 121 C 7 dX3_takeEffect_1 c35 (by decide) rfl (by decide) ?_
    refine kx_aload_n 121 C dX3_takeEffect_121 (lv_at hl 0 rfl) ?_
    obtain ⟨q37, h36, hf⟩ := ob hf
    refine kx_getp 122 C I fl_X3_takeEffect_107 h36 dX3_takeEffect_122 ?_
    refine kx_iload_n 125 C dX3_takeEffect_125 (lv_at hl 2 rfl) ?_
    refine kx_iload_n 126 C dX3_takeEffect_126 (lv_at hl 3 rfl) ?_
    obtain ⟨S39, h38, hf⟩ := ob hf
    refine kx_iast 127 C I h38 dX3_takeEffect_127 (fun H locs I => ?_)
    refine kx_goto 128 137 C dX3_takeEffect_128 (by decide) ?_
    exact kx_vret 137 C I hf dX3_takeEffect_137
  have hf := ifn c35 hf
  refine kx_tabOut 1 131 C dX3_takeEffect_1 (by omega) (by decide) ?_
  refine kx_aload_n 131 C dX3_takeEffect_131 (lv_at hl 0 rfl) ?_
  refine kx_iload_n 132 C dX3_takeEffect_132 (lv_at hl 2 rfl) ?_
  obtain ⟨h43, hf⟩ := ift hf
  obtain ⟨x42, S40, h41, hf⟩ := ob2 hf
  refine kx_callVi 133 C hl I (ci := 1) (As := [.int (iI i1)]) (rest := []) (c_X1_addMove G l fu _ _ _ _ _ h41) (cwV 1 C.ts gX3_takeEffect_X1_addMove rfl rfl rfl nyV_X1_addMove ⟨Nat.le_of_ble_eq_true rfl, Nat.le_of_ble_eq_true rfl⟩) rfl h43 rfl rfl (Nat.le_of_ble_eq_true rfl) dX3_takeEffect_133 ⟨Nat.le_of_ble_eq_true rfl, Nat.le_of_ble_eq_true rfl⟩ (fun H locs I => ?_)
  refine kx_pop 136 C dX3_takeEffect_136 rfl ?_
  exact kx_vret 137 C I hf dX3_takeEffect_137
def rm_X3_takeItem : Room := { frames := 7, cells := 0, slots := 0, locals := 164 }
theorem hin_X3_takeItem_RX3 : ∀ w ∈ wsX30, w ∈ vsX3_takeItem := fun w h => inM (inlX3 w h)
theorem fl_X3_takeItem_22 : xFl vsX3_takeItem RX3 22 3 3 := ⟨RX3, TX3, 6, rfl, by decide, hin_X3_takeItem_RX3, inM mq_4_1, rfl⟩
theorem fl_X3_takeItem_28 : xFl vsX3_takeItem RX3 28 3 5 := ⟨RX3, TX3, 6, rfl, by decide, hin_X3_takeItem_RX3, inM mq_4_3, rfl⟩
theorem nyS_X3_takeItem : yX3_takeItem.cls ≠ "java/lang/invoke/MethodHandle" ∧ yX3_takeItem.cls ≠ "java/lang/invoke/VarHandle" ∧ (parseMethodDescriptor yX3_takeItem.desc).map (fun d => d.parameters.length) = some 2 := by decide +kernel
theorem nyV_X3_takeItem : yX3_takeItem.cls = RX3 ∧ yX3_takeItem.cls ≠ "java/lang/invoke/MethodHandle" ∧ yX3_takeItem.cls ≠ "java/lang/invoke/VarHandle" ∧ (parseMethodDescriptor yX3_takeItem.desc).map (fun d => d.parameters.length) = some 2 := by decide +kernel
set_option maxHeartbeats 4000000 in
set_option maxRecDepth 100000 in
theorem w_X3_takeItem {G : xG} {p : Program} {l : Launch} {e : Env} {s : State} {m : MethodId} {args : Array Value} {below : List Frame} {meth : Method} {c : Code} (C : xK G p s m args meth c cX3_takeItem 6 vsX3_takeItem RX3 (some .boolean)) (r : Int) (S' : xS) : ∀ k : Nat,
  (∀ (S : xS) (p0 p1 : Nat) (i0 i1 i2 : Int) (H : Heap) (locs : List Loc) (ls : Array Slot), g_X3_takeItem k 0 S p0 p1 i0 i1 i2 = some (r, S') → xI G S s H locs → lv_has ls 6 [(0, .ref (xB G + p0)), (1, .ref (xB G + p1)), (2, .int (iI i0))] → W p l e rm_X3_takeItem s m args below meth c H locs 0 0 (MQ below (xQi G r S') args s 0 0 (xA G)) (F0 m 0 ls [])) ∧
  (∀ (S : xS) (p0 p1 : Nat) (i0 i1 i2 : Int) (H : Heap) (locs : List Loc) (ls : Array Slot), g_X3_takeItem k 1 S p0 p1 i0 i1 i2 = some (r, S') → xI G S s H locs → lv_has ls 6 [(0, .ref (xB G + p0)), (1, .ref (xB G + p1)), (2, .int (iI i0))] → W p l e rm_X3_takeItem s m args below meth c H locs 0 0 (MQ below (xQi G r S') args s 0 0 (xA G)) (F0 m 16 ls [.int (iI i1)])) ∧
  (∀ (S : xS) (p0 p1 : Nat) (i0 i1 i2 : Int) (H : Heap) (locs : List Loc) (ls : Array Slot), g_X3_takeItem k 2 S p0 p1 i0 i1 i2 = some (r, S') → xI G S s H locs → lv_has ls 6 [(0, .ref (xB G + p0)), (1, .ref (xB G + p1)), (3, .int (iI i0))] → W p l e rm_X3_takeItem s m args below meth c H locs 0 0 (MQ below (xQi G r S') args s 0 0 (xA G)) (F0 m 32 ls [.int (iI i2), .int (iI i1)])) ∧
  (∀ (S : xS) (p0 p1 : Nat) (i0 i1 i2 : Int) (H : Heap) (locs : List Loc) (ls : Array Slot), g_X3_takeItem k 3 S p0 p1 i0 i1 i2 = some (r, S') → xI G S s H locs → lv_has ls 6 [(0, .ref (xB G + p0)), (1, .ref (xB G + p1)), (3, .int (iI i0)), (4, .int (iI i1)), (5, .int (iI i2))] → W p l e rm_X3_takeItem s m args below meth c H locs 0 0 (MQ below (xQi G r S') args s 0 0 (xA G)) (F0 m 117 ls [])) := by
  intro k
  induction k with
  | zero => exact ⟨fun _ _ _ _ _ _ _ _ _ hf => (by cases hf), fun _ _ _ _ _ _ _ _ _ hf => (by cases hf), fun _ _ _ _ _ _ _ _ _ hf => (by cases hf), fun _ _ _ _ _ _ _ _ _ hf => (by cases hf)⟩
  | succ fu ih =>
    obtain ⟨ih0, ih1, ih2, ih3⟩ := ih
    refine ⟨?_, ?_, ?_, ?_⟩
    · intro S p0 p1 i0 i1 i2 H locs ls hf I hl
      replace hf : b_X3_takeItem_0 (g_X3_takeItem fu) fu S p0 p1 i0 i1 i2 = some (r, S') := hf
      unfold b_X3_takeItem_0 at hf
      refine kx_aload_n 0 C dX3_takeItem_0 (lv_at hl 0 rfl) ?_
      obtain ⟨x2, h1, hf⟩ := ob hf
      refine kx_geti 1 C I fl_X3_takeItem_22 h1 dX3_takeItem_1 ?_
      refine kx_iconst 4 C dX3_takeItem_4 ?_
      refine kx_icmp_ne 5 15 C dX3_takeItem_5 (by decide) (fun c3 => ?_) (fun c3 => ?_)
      · have hf := ifn c3 hf
        refine kx_iconst 15 C dX3_takeItem_15 ?_
        exact ih1 _ _ _ _ _ _ _ _ _ hf I (lv_sub hl [0, 1, 2] rfl)
      · have hf := ifp c3 hf
        refine kx_aload_n 8 C dX3_takeItem_8 (lv_at hl 0 rfl) ?_
        obtain ⟨h7, hf⟩ := ift hf
        obtain ⟨x6, S4, h5, hf⟩ := ob2 hf
        refine kx_callVi 9 C hl I (ci := 3) (As := []) (rest := []) (c_X3_wordNow G l fu _ _ _ _ h5) (cwV 0 C.ts gX3_takeItem_X3_wordNow rfl rfl rfl nyV_X3_wordNow ⟨Nat.le_of_ble_eq_true rfl, Nat.le_of_ble_eq_true rfl⟩) rfl h7 rfl rfl (Nat.le_of_ble_eq_true rfl) dX3_takeItem_9 ⟨Nat.le_of_ble_eq_true rfl, Nat.le_of_ble_eq_true rfl⟩ (fun H locs I => ?_)
        refine kx_goto 12 16 C dX3_takeItem_12 (by decide) ?_
        exact ih1 _ _ _ _ _ _ _ _ _ hf I (lv_sub hl [0, 1, 2] rfl)
    · intro S p0 p1 i0 i1 i2 H locs ls hf I hl
      replace hf : b_X3_takeItem_1 (g_X3_takeItem fu) fu S p0 p1 i0 i1 i2 = some (r, S') := hf
      unfold b_X3_takeItem_1 at hf
      refine kx_istore_n 16 C (lv' := [(3, .int (iI i1)), (0, .ref (xB G + p0)), (1, .ref (xB G + p1)), (2, .int (iI i0))]) dX3_takeItem_16 hl (by decide) rfl rfl (fun ls hl => ?_)
      refine kx_iload_n 17 C dX3_takeItem_17 (lv_at hl 0 rfl) ?_
      refine kx_iconst 18 C dX3_takeItem_18 ?_
      refine kx_icmp_eq 19 43 C dX3_takeItem_19 (by decide) (fun c8 => ?_) (fun c8 => ?_)
      · have hf := ifp c8 hf
        refine kx_iconst 43 C dX3_takeItem_43 ?_
        exact kx_zret 44 C I (by decide) hf dX3_takeItem_44
      · have hf := ifn c8 hf
        refine kx_iload_n 22 C dX3_takeItem_22 (lv_at hl 3 rfl) ?_
        refine kx_iload_n 23 C dX3_takeItem_23 (lv_at hl 0 rfl) ?_
        refine kx_if_ne 24 31 C dX3_takeItem_24 (by decide) (fun c9 => ?_) (fun c9 => ?_)
        · have hf := ifn c9 hf
          refine kx_iconst 31 C dX3_takeItem_31 ?_
          exact ih2 _ _ _ _ _ _ _ _ _ hf I (lv_sub hl [1, 2, 0] rfl)
        · have hf := ifp c9 hf
          refine kx_iconst 27 C dX3_takeItem_27 ?_
          refine kx_goto 28 32 C dX3_takeItem_28 (by decide) ?_
          exact ih2 _ _ _ _ _ _ _ _ _ hf I (lv_sub hl [1, 2, 0] rfl)
    · intro S p0 p1 i0 i1 i2 H locs ls hf I hl
      replace hf : b_X3_takeItem_2 (g_X3_takeItem fu) fu S p0 p1 i0 i1 i2 = some (r, S') := hf
      unfold b_X3_takeItem_2 at hf
      refine kx_icmp_ne 32 43 C dX3_takeItem_32 (by decide) (fun c10 => ?_) (fun c10 => ?_)
      · have hf := ifn c10 hf
        refine kx_iconst 43 C dX3_takeItem_43 ?_
        exact kx_zret 44 C I (by decide) hf dX3_takeItem_44
      · have hf := ifp c10 hf
        refine kx_aload_n 35 C dX3_takeItem_35 (lv_at hl 1 rfl) ?_
        refine kx_iload_n 36 C dX3_takeItem_36 (lv_at hl 2 rfl) ?_
        obtain ⟨x13, S11, h12, hf⟩ := ob2 hf
        refine kx_callSi 37 C hl I (As := [.ref (xB G + p1), .int (iI i0)]) (rest := []) (c_X3_hasPlace G l fu _ _ _ _ _ h12) (va_cwS 2 C.ts gX3_takeItem_X3_hasPlace rfl rfl rfl nyS_X3_hasPlace ⟨Nat.le_of_ble_eq_true rfl, Nat.le_of_ble_eq_true rfl⟩) rfl rfl (Nat.le_of_ble_eq_true rfl) dX3_takeItem_37 ⟨Nat.le_of_ble_eq_true rfl, Nat.le_of_ble_eq_true rfl⟩ (fun H locs I => ?_)
        refine kx_if_ne 40 45 C dX3_takeItem_40 (by decide) (fun c14 => ?_) (fun c14 => ?_)
        · have hf := ifn c14 hf
          refine kx_aload_n 45 C dX3_takeItem_45 (lv_at hl 0 rfl) ?_
          obtain ⟨h18, hf⟩ := ift hf
          obtain ⟨z17, S15, h16, hf⟩ := ob2 hf
          refine kx_callVv 46 C hl I (ci := 3) (As := []) (rest := []) (c_X3_toNextToken G l fu _ _ _ _ h16) (cwV 0 C.ts gX3_takeItem_X3_toNextToken rfl rfl rfl nyV_X3_toNextToken ⟨Nat.le_of_ble_eq_true rfl, Nat.le_of_ble_eq_true rfl⟩) rfl h18 rfl rfl (Nat.le_of_ble_eq_true rfl) dX3_takeItem_46 ⟨Nat.le_of_ble_eq_true rfl, Nat.le_of_ble_eq_true rfl⟩ (fun H locs I => ?_)
          refine kx_aload_n 49 C dX3_takeItem_49 (lv_at hl 0 rfl) ?_
          obtain ⟨x20, h19, hf⟩ := ob hf
          refine kx_geti 50 C I fl_X3_takeItem_28 h19 dX3_takeItem_50 ?_
          refine kx_istore 53 C (lv' := [(4, .int (iI x20)), (0, .ref (xB G + p0)), (1, .ref (xB G + p1)), (3, .int (iI i0))]) dX3_takeItem_53 hl (by decide) rfl rfl (fun ls hl => ?_)
          refine kx_aload_n 55 C dX3_takeItem_55 (lv_at hl 1 rfl) ?_
          obtain ⟨x22, h21, hf⟩ := ob hf
          refine kx_geti 56 C I fl_X3_takeItem_22 h21 dX3_takeItem_56 ?_
          refine kx_iconst 59 C dX3_takeItem_59 ?_
          refine kx_icmp_ne 60 73 C dX3_takeItem_60 (by decide) (fun c23 => ?_) (fun c23 => ?_)
          · have hf := ifn c23 hf
            refine kx_iconst 73 C dX3_takeItem_73 ?_
            exact kx_zret 74 C I (by decide) hf dX3_takeItem_74
          · have hf := ifp c23 hf
            refine kx_aload_n 63 C dX3_takeItem_63 (lv_at hl 2 rfl) ?_
            refine kx_iload_n 64 C dX3_takeItem_64 (lv_at hl 3 rfl) ?_
            refine kx_iload 65 C dX3_takeItem_65 (lv_at hl 0 rfl) ?_
            obtain ⟨x26, S24, h25, hf⟩ := ob2 hf
            refine kx_callSi 67 C hl I (As := [.ref (xB G + p1), .int (iI i0), .int (iI x20)]) (rest := []) (c_X3_isFirstDue G l fu _ _ _ _ _ _ h25) (va_cwS 3 C.ts gX3_takeItem_X3_isFirstDue rfl rfl rfl nyS_X3_isFirstDue ⟨Nat.le_of_ble_eq_true rfl, Nat.le_of_ble_eq_true rfl⟩) rfl rfl (Nat.le_of_ble_eq_true rfl) dX3_takeItem_67 ⟨Nat.le_of_ble_eq_true rfl, Nat.le_of_ble_eq_true rfl⟩ (fun H locs I => ?_)
            refine kx_if_ne 70 75 C dX3_takeItem_70 (by decide) (fun c27 => ?_) (fun c27 => ?_)
            · have hf := ifn c27 hf
              refine kx_iconst 75 C dX3_takeItem_75 ?_
              refine kx_istore 76 C (lv' := [(5, .int (iI ((-1)))), (4, .int (iI x20)), (0, .ref (xB G + p0)), (1, .ref (xB G + p1)), (3, .int (iI i0))]) dX3_takeItem_76 hl (by decide) rfl rfl (fun ls hl => ?_)
              refine kx_iload_n 78 C dX3_takeItem_78 (lv_at hl 4 rfl) ?_
              obtain ⟨x30, S28, h29, hf⟩ := ob2 hf
              refine kx_callSi 79 C hl I (As := [.int (iI i0)]) (rest := []) (c_X3_hasTwoNumbers G l fu _ _ _ _ h29) (va_cwS 1 C.ts gX3_takeItem_X3_hasTwoNumbers rfl rfl rfl nyS_X3_hasTwoNumbers ⟨Nat.le_of_ble_eq_true rfl, Nat.le_of_ble_eq_true rfl⟩) rfl rfl (Nat.le_of_ble_eq_true rfl) dX3_takeItem_79 ⟨Nat.le_of_ble_eq_true rfl, Nat.le_of_ble_eq_true rfl⟩ (fun H locs I => ?_)
              refine kx_if_eq 82 117 C dX3_takeItem_82 (by decide) (fun c31 => ?_) (fun c31 => ?_)
              · have hf := ifp c31 hf
                exact ih3 _ _ _ _ _ _ _ _ _ hf I (lv_sub hl [2, 3, 4, 1, 0] rfl)
              · have hf := ifn c31 hf
                refine kx_aload_n 85 C dX3_takeItem_85 (lv_at hl 2 rfl) ?_
                obtain ⟨h35, hf⟩ := ift hf
                obtain ⟨z34, S32, h33, hf⟩ := ob2 hf
                refine kx_callVv 86 C hl I (ci := 3) (As := []) (rest := []) (c_X3_toNextToken G l fu _ _ _ _ h33) (cwV 0 C.ts gX3_takeItem_X3_toNextToken rfl rfl rfl nyV_X3_toNextToken ⟨Nat.le_of_ble_eq_true rfl, Nat.le_of_ble_eq_true rfl⟩) rfl h35 rfl rfl (Nat.le_of_ble_eq_true rfl) dX3_takeItem_86 ⟨Nat.le_of_ble_eq_true rfl, Nat.le_of_ble_eq_true rfl⟩ (fun H locs I => ?_)
                refine kx_aload_n 89 C dX3_takeItem_89 (lv_at hl 2 rfl) ?_
                obtain ⟨x37, h36, hf⟩ := ob hf
                refine kx_geti 90 C I fl_X3_takeItem_28 h36 dX3_takeItem_90 ?_
                refine kx_istore 93 C (lv' := [(5, .int (iI x37)), (4, .int (iI x20)), (0, .ref (xB G + p0)), (1, .ref (xB G + p1)), (3, .int (iI i0))]) dX3_takeItem_93 hl (by decide) rfl rfl (fun ls hl => ?_)
                refine kx_aload_n 95 C dX3_takeItem_95 (lv_at hl 2 rfl) ?_
                obtain ⟨x39, h38, hf⟩ := ob hf
                refine kx_geti 96 C I fl_X3_takeItem_22 h38 dX3_takeItem_96 ?_
                refine kx_iconst 99 C dX3_takeItem_99 ?_
                refine kx_icmp_ne 100 115 C dX3_takeItem_100 (by decide) (fun c40 => ?_) (fun c40 => ?_)
                · have hf := ifn c40 hf
                  refine kx_iconst 115 C dX3_takeItem_115 ?_
                  exact kx_zret 116 C I (by decide) hf dX3_takeItem_116
                · have hf := ifp c40 hf
                  refine kx_aload_n 103 C dX3_takeItem_103 (lv_at hl 3 rfl) ?_
                  refine kx_iload_n 104 C dX3_takeItem_104 (lv_at hl 4 rfl) ?_
                  refine kx_iload 105 C dX3_takeItem_105 (lv_at hl 1 rfl) ?_
                  refine kx_iload 107 C dX3_takeItem_107 (lv_at hl 0 rfl) ?_
                  obtain ⟨x43, S41, h42, hf⟩ := ob2 hf
                  refine kx_callSi 109 C hl I (As := [.ref (xB G + p1), .int (iI i0), .int (iI x20), .int (iI x37)]) (rest := []) (c_X3_isSecondDue G l fu _ _ _ _ _ _ _ h42) (va_cwS 4 C.ts gX3_takeItem_X3_isSecondDue rfl rfl rfl nyS_X3_isSecondDue ⟨Nat.le_of_ble_eq_true rfl, Nat.le_of_ble_eq_true rfl⟩) rfl rfl (Nat.le_of_ble_eq_true rfl) dX3_takeItem_109 ⟨Nat.le_of_ble_eq_true rfl, Nat.le_of_ble_eq_true rfl⟩ (fun H locs I => ?_)
                  refine kx_if_ne 112 117 C dX3_takeItem_112 (by decide) (fun c44 => ?_) (fun c44 => ?_)
                  · have hf := ifn c44 hf
                    exact ih3 _ _ _ _ _ _ _ _ _ hf I (lv_sub hl [2, 3, 4, 1, 0] rfl)
                  · have hf := ifp c44 hf
                    refine kx_iconst 115 C dX3_takeItem_115 ?_
                    exact kx_zret 116 C I (by decide) hf dX3_takeItem_116
            · have hf := ifp c27 hf
              refine kx_iconst 73 C dX3_takeItem_73 ?_
              exact kx_zret 74 C I (by decide) hf dX3_takeItem_74
        · have hf := ifp c14 hf
          refine kx_iconst 43 C dX3_takeItem_43 ?_
          exact kx_zret 44 C I (by decide) hf dX3_takeItem_44
    · intro S p0 p1 i0 i1 i2 H locs ls hf I hl
      replace hf : b_X3_takeItem_3 (g_X3_takeItem fu) fu S p0 p1 i0 i1 i2 = some (r, S') := hf
      unfold b_X3_takeItem_3 at hf
      refine kx_aload_n 117 C dX3_takeItem_117 (lv_at hl 1 rfl) ?_
      refine kx_iload_n 118 C dX3_takeItem_118 (lv_at hl 2 rfl) ?_
      refine kx_iload 119 C dX3_takeItem_119 (lv_at hl 3 rfl) ?_
      refine kx_iload 121 C dX3_takeItem_121 (lv_at hl 4 rfl) ?_
      obtain ⟨z47, S45, h46, hf⟩ := ob2 hf
      refine kx_callSv 123 C hl I (As := [.ref (xB G + p1), .int (iI i0), .int (iI i1), .int (iI i2)]) (rest := []) (c_X3_takeEffect G l fu _ _ _ _ _ _ _ h46) (va_cwS 4 C.ts gX3_takeItem_X3_takeEffect rfl rfl rfl nyS_X3_takeEffect ⟨Nat.le_of_ble_eq_true rfl, Nat.le_of_ble_eq_true rfl⟩) rfl rfl (Nat.le_of_ble_eq_true rfl) dX3_takeItem_123 ⟨Nat.le_of_ble_eq_true rfl, Nat.le_of_ble_eq_true rfl⟩ (fun H locs I => ?_)
      refine kx_aload_n 126 C dX3_takeItem_126 (lv_at hl 0 rfl) ?_
      obtain ⟨h51, hf⟩ := ift hf
      obtain ⟨z50, S48, h49, hf⟩ := ob2 hf
      refine kx_callVv 127 C hl I (ci := 3) (As := []) (rest := []) (c_X3_toNextToken G l fu _ _ _ _ h49) (cwV 0 C.ts gX3_takeItem_X3_toNextToken rfl rfl rfl nyV_X3_toNextToken ⟨Nat.le_of_ble_eq_true rfl, Nat.le_of_ble_eq_true rfl⟩) rfl h51 rfl rfl (Nat.le_of_ble_eq_true rfl) dX3_takeItem_127 ⟨Nat.le_of_ble_eq_true rfl, Nat.le_of_ble_eq_true rfl⟩ (fun H locs I => ?_)
      refine kx_aload_n 130 C dX3_takeItem_130 (lv_at hl 0 rfl) ?_
      obtain ⟨x53, h52, hf⟩ := ob hf
      refine kx_geti 131 C I fl_X3_takeItem_22 h52 dX3_takeItem_131 ?_
      refine kx_iconst 134 C dX3_takeItem_134 ?_
      refine kx_icmp_ne 135 142 C dX3_takeItem_135 (by decide) (fun c54 => ?_) (fun c54 => ?_)
      · have hf := ifn c54 hf
        refine kx_iconst 142 C dX3_takeItem_142 ?_
        exact kx_zret 143 C I (by decide) hf dX3_takeItem_143
      · have hf := ifp c54 hf
        refine kx_iconst 138 C dX3_takeItem_138 ?_
        refine kx_goto 139 143 C dX3_takeItem_139 (by decide) ?_
        exact kx_zret 143 C I (by decide) hf dX3_takeItem_143
set_option maxHeartbeats 4000000 in
set_option maxRecDepth 100000 in
theorem c_X3_takeItem (G : xG) (l : Launch) (fu : Nat) (S S' : xS) (p0 : Nat) (p1 : Nat) (i0 : Int) (r : Int) (hf : f_X3_takeItem fu S p0 p1 i0 = some (r, S')) : Met l yX3_takeItem vsX3_takeItem rm_X3_takeItem (va_Pc [.ref (xB G + p0), .ref (xB G + p1), .int (iI i0)] (xPre G S)) (xQi G r S') 0 0 (xA G) := by
  refine kx_met (ret := (some .boolean)) RX3 [(0, .ref (xB G + p0)), (1, .ref (xB G + p1)), (2, .int (iI i0))] (by decide) rfl rfl (Nat.le_of_ble_eq_true rfl) rfl (fun p e s m below meth c ls C hin I hl => ?_)
  exact (w_X3_takeItem C r S' fu).1 S _ _ _ _ _ _ _ _ hf I hl
def rm_X3_tellItems : Room := { frames := 8, cells := 0, slots := 0, locals := 189 }
theorem hin_X3_tellItems_RX3 : ∀ w ∈ wsX30, w ∈ vsX3_tellItems := fun w h => inM (inlX3 w h)
theorem fl_X3_tellItems_19 : xFl vsX3_tellItems RX3 19 3 2 := ⟨RX3, TX3, 6, rfl, by decide, hin_X3_tellItems_RX3, inM mq_4_0, rfl⟩
theorem fl_X3_tellItems_22 : xFl vsX3_tellItems RX3 22 3 3 := ⟨RX3, TX3, 6, rfl, by decide, hin_X3_tellItems_RX3, inM mq_4_1, rfl⟩
theorem fl_X3_tellItems_25 : xFl vsX3_tellItems RX3 25 3 4 := ⟨RX3, TX3, 6, rfl, by decide, hin_X3_tellItems_RX3, inM mq_4_2, rfl⟩
theorem nyS_X3_tellItems : yX3_tellItems.cls ≠ "java/lang/invoke/MethodHandle" ∧ yX3_tellItems.cls ≠ "java/lang/invoke/VarHandle" ∧ (parseMethodDescriptor yX3_tellItems.desc).map (fun d => d.parameters.length) = some 1 := by decide +kernel
theorem nyV_X3_tellItems : yX3_tellItems.cls = RX3 ∧ yX3_tellItems.cls ≠ "java/lang/invoke/MethodHandle" ∧ yX3_tellItems.cls ≠ "java/lang/invoke/VarHandle" ∧ (parseMethodDescriptor yX3_tellItems.desc).map (fun d => d.parameters.length) = some 1 := by decide +kernel
set_option maxHeartbeats 4000000 in
set_option maxRecDepth 100000 in
theorem w_X3_tellItems {G : xG} {p : Program} {l : Launch} {e : Env} {s : State} {m : MethodId} {args : Array Value} {below : List Frame} {meth : Method} {c : Code} (C : xK G p s m args meth c cX3_tellItems 3 vsX3_tellItems RX3 (some .int)) (r : Int) (S' : xS) : ∀ k : Nat,
  (∀ (S : xS) (p0 p1 p2 p3 : Nat) (i0 i1 : Int) (H : Heap) (locs : List Loc) (ls : Array Slot), g_X3_tellItems k 0 S p0 p1 p2 p3 i0 i1 = some (r, S') → xI G S s H locs → lv_has ls 3 [(0, .ref (xB G + p0)), (1, .ref (xB G + p1))] → W p l e rm_X3_tellItems s m args below meth c H locs 0 0 (MQ below (xQi G r S') args s 0 0 (xA G)) (F0 m 0 ls [])) ∧
  (∀ (S : xS) (p0 p1 p2 p3 : Nat) (i0 i1 : Int) (H : Heap) (locs : List Loc) (ls : Array Slot), g_X3_tellItems k 1 S p0 p1 p2 p3 i0 i1 = some (r, S') → xI G S s H locs → lv_has ls 3 [(0, .ref (xB G + p0)), (1, .ref (xB G + p1)), (2, .int (iI i0))] → W p l e rm_X3_tellItems s m args below meth c H locs 0 0 (MQ below (xQi G r S') args s 0 0 (xA G)) (F0 m 7 ls [])) ∧
  (∀ (S : xS) (p0 p1 p2 p3 : Nat) (i0 i1 : Int) (H : Heap) (locs : List Loc) (ls : Array Slot), g_X3_tellItems k 2 S p0 p1 p2 p3 i0 i1 = some (r, S') → xI G S s H locs → lv_has ls 3 [(0, .ref (xB G + p0)), (1, .ref (xB G + p1)), (2, .int (iI i0))] → W p l e rm_X3_tellItems s m args below meth c H locs 0 0 (MQ below (xQi G r S') args s 0 0 (xA G)) (F0 m 31 ls [])) ∧
  (∀ (S : xS) (p0 p1 p2 p3 : Nat) (i0 i1 : Int) (H : Heap) (locs : List Loc) (ls : Array Slot), g_X3_tellItems k 3 S p0 p1 p2 p3 i0 i1 = some (r, S') → xI G S s H locs → lv_has ls 3 [(0, .ref (xB G + p0)), (1, .ref (xB G + p1)), (2, .int (iI i0))] → W p l e rm_X3_tellItems s m args below meth c H locs 0 0 (MQ below (xQi G r S') args s 0 0 (xA G)) (F0 m 42 ls [.int (iI i1), .ref (xB G + p3), .ref (xB G + p2)])) := by
  intro k
  induction k with
  | zero => exact ⟨fun _ _ _ _ _ _ _ _ _ _ hf => (by cases hf), fun _ _ _ _ _ _ _ _ _ _ hf => (by cases hf), fun _ _ _ _ _ _ _ _ _ _ hf => (by cases hf), fun _ _ _ _ _ _ _ _ _ _ hf => (by cases hf)⟩
  | succ fu ih =>
    obtain ⟨ih0, ih1, ih2, ih3⟩ := ih
    refine ⟨?_, ?_, ?_, ?_⟩
    · intro S p0 p1 p2 p3 i0 i1 H locs ls hf I hl
      replace hf : b_X3_tellItems_0 (g_X3_tellItems fu) fu S p0 p1 p2 p3 i0 i1 = some (r, S') := hf
      unfold b_X3_tellItems_0 at hf
      refine kx_aload_n 0 C dX3_tellItems_0 (lv_at hl 0 rfl) ?_
      refine kx_iconst 1 C dX3_tellItems_1 ?_
      obtain ⟨S2, h1, hf⟩ := ob hf
      refine kx_puti 2 C I fl_X3_tellItems_19 fw_RX3_2 h1 dX3_tellItems_2 (fun H locs I => ?_)
      refine kx_iconst 5 C dX3_tellItems_5 ?_
      refine kx_istore_n 6 C (lv' := [(2, .int (iI 0)), (0, .ref (xB G + p0)), (1, .ref (xB G + p1))]) dX3_tellItems_6 hl (by decide) rfl rfl (fun ls hl => ?_)
      exact ih1 _ _ _ _ _ _ _ _ _ _ hf I (lv_sub hl [1, 2, 0] rfl)
    · intro S p0 p1 p2 p3 i0 i1 H locs ls hf I hl
      replace hf : b_X3_tellItems_1 (g_X3_tellItems fu) fu S p0 p1 p2 p3 i0 i1 = some (r, S') := hf
      unfold b_X3_tellItems_1 at hf
      refine kx_iload_n 7 C dX3_tellItems_7 (lv_at hl 2 rfl) ?_
      refine kx_sipush 8 C dX3_tellItems_8 (by decide) ?_
      refine kx_icmp_ge 11 62 C dX3_tellItems_11 (by decide) (fun c3 => ?_) (fun c3 => ?_)
      · have hf := ifp c3 hf
        refine kx_bipush 62 C dX3_tellItems_62 (by decide) ?_
        refine kx_aload_n 64 C dX3_tellItems_64 (lv_at hl 0 rfl) ?_
        obtain ⟨x5, h4, hf⟩ := ob hf
        refine kx_geti 65 C I fl_X3_tellItems_25 h4 dX3_tellItems_65 ?_
        refine kx_isub 68 C dX3_tellItems_68 ?_
        exact kx_iret 69 C I hf dX3_tellItems_69
      · have hf := ifn c3 hf
        refine kx_aload_n 14 C dX3_tellItems_14 (lv_at hl 0 rfl) ?_
        obtain ⟨h9, hf⟩ := ift hf
        obtain ⟨z8, S6, h7, hf⟩ := ob2 hf
        refine kx_callVv 15 C hl I (ci := 3) (As := []) (rest := []) (c_X3_toNextToken G l fu _ _ _ _ h7) (cwV 0 C.ts gX3_tellItems_X3_toNextToken rfl rfl rfl nyV_X3_toNextToken ⟨Nat.le_of_ble_eq_true rfl, Nat.le_of_ble_eq_true rfl⟩) rfl h9 rfl rfl (Nat.le_of_ble_eq_true rfl) dX3_tellItems_15 ⟨Nat.le_of_ble_eq_true rfl, Nat.le_of_ble_eq_true rfl⟩ (fun H locs I => ?_)
        refine kx_aload_n 18 C dX3_tellItems_18 (lv_at hl 0 rfl) ?_
        obtain ⟨x11, h10, hf⟩ := ob hf
        refine kx_geti 19 C I fl_X3_tellItems_22 h10 dX3_tellItems_19 ?_
        refine kx_if_ne 22 31 C dX3_tellItems_22 (by decide) (fun c12 => ?_) (fun c12 => ?_)
        · have hf := ifn c12 hf
          exact ih2 _ _ _ _ _ _ _ _ _ _ hf I (lv_sub hl [0, 1, 2] rfl)
        · have hf := ifp c12 hf
          refine kx_iload_n 25 C dX3_tellItems_25 (lv_at hl 2 rfl) ?_
          refine kx_if_le 26 31 C dX3_tellItems_26 (by decide) (fun c13 => ?_) (fun c13 => ?_)
          · have hf := ifp c13 hf
            exact ih2 _ _ _ _ _ _ _ _ _ _ hf I (lv_sub hl [0, 1, 2] rfl)
          · have hf := ifn c13 hf
            refine kx_iload_n 29 C dX3_tellItems_29 (lv_at hl 2 rfl) ?_
            exact kx_iret 30 C I hf dX3_tellItems_30
    · intro S p0 p1 p2 p3 i0 i1 H locs ls hf I hl
      replace hf : b_X3_tellItems_2 (g_X3_tellItems fu) fu S p0 p1 p2 p3 i0 i1 = some (r, S') := hf
      unfold b_X3_tellItems_2 at hf
      refine kx_aload_n 31 C dX3_tellItems_31 (lv_at hl 0 rfl) ?_
      refine kx_aload_n 32 C dX3_tellItems_32 (lv_at hl 1 rfl) ?_
      refine kx_iload_n 33 C dX3_tellItems_33 (lv_at hl 2 rfl) ?_
      refine kx_if_ne 34 41 C dX3_tellItems_34 (by decide) (fun c14 => ?_) (fun c14 => ?_)
      · have hf := ifn c14 hf
        refine kx_iconst 41 C dX3_tellItems_41 ?_
        exact ih3 _ _ _ _ _ _ _ _ _ _ hf I (lv_sub hl [0, 1, 2] rfl)
      · have hf := ifp c14 hf
        refine kx_iconst 37 C dX3_tellItems_37 ?_
        refine kx_goto 38 42 C dX3_tellItems_38 (by decide) ?_
        exact ih3 _ _ _ _ _ _ _ _ _ _ hf I (lv_sub hl [0, 1, 2] rfl)
    · intro S p0 p1 p2 p3 i0 i1 H locs ls hf I hl
      replace hf : b_X3_tellItems_3 (g_X3_tellItems fu) fu S p0 p1 p2 p3 i0 i1 = some (r, S') := hf
      unfold b_X3_tellItems_3 at hf
      obtain ⟨h18, hf⟩ := ift hf
      obtain ⟨x17, S15, h16, hf⟩ := ob2 hf
      refine kx_callVi 42 C hl I (ci := 3) (As := [.ref (xB G + p3), .int (iI i1)]) (rest := []) (c_X3_takeItem G l fu _ _ _ _ _ _ h16) (cwV 2 C.ts gX3_tellItems_X3_takeItem rfl rfl rfl nyV_X3_takeItem ⟨Nat.le_of_ble_eq_true rfl, Nat.le_of_ble_eq_true rfl⟩) rfl h18 rfl rfl (Nat.le_of_ble_eq_true rfl) dX3_tellItems_42 ⟨Nat.le_of_ble_eq_true rfl, Nat.le_of_ble_eq_true rfl⟩ (fun H locs I => ?_)
      refine kx_if_ne 45 56 C dX3_tellItems_45 (by decide) (fun c19 => ?_) (fun c19 => ?_)
      · have hf := ifn c19 hf
        obtain ⟨x20, e21, hf⟩ := nmx_e hf
        refine kx_iinc 56 C (lv' := [(2, .int (iI x20)), (0, .ref (xB G + p0)), (1, .ref (xB G + p1))]) dX3_tellItems_56 hl 2 rfl e21 (by decide) rfl (fun ls hl => ?_)
        refine kx_goto 59 7 C dX3_tellItems_59 (by decide) ?_
        exact ih1 _ _ _ _ _ _ _ _ _ _ hf I (lv_sub hl [1, 2, 0] rfl)
      · have hf := ifp c19 hf
        refine kx_bipush 48 C dX3_tellItems_48 (by decide) ?_
        refine kx_aload_n 50 C dX3_tellItems_50 (lv_at hl 0 rfl) ?_
        obtain ⟨x23, h22, hf⟩ := ob hf
        refine kx_geti 51 C I fl_X3_tellItems_25 h22 dX3_tellItems_51 ?_
        refine kx_isub 54 C dX3_tellItems_54 ?_
        exact kx_iret 55 C I hf dX3_tellItems_55
set_option maxHeartbeats 4000000 in
set_option maxRecDepth 100000 in
theorem c_X3_tellItems (G : xG) (l : Launch) (fu : Nat) (S S' : xS) (p0 : Nat) (p1 : Nat) (r : Int) (hf : f_X3_tellItems fu S p0 p1 = some (r, S')) : Met l yX3_tellItems vsX3_tellItems rm_X3_tellItems (va_Pc [.ref (xB G + p0), .ref (xB G + p1)] (xPre G S)) (xQi G r S') 0 0 (xA G) := by
  refine kx_met (ret := (some .int)) RX3 [(0, .ref (xB G + p0)), (1, .ref (xB G + p1))] (by decide) rfl rfl (Nat.le_of_ble_eq_true rfl) rfl (fun p e s m below meth c ls C hin I hl => ?_)
  exact (w_X3_tellItems C r S' fu).1 S _ _ _ _ _ _ _ _ _ hf I hl
def rm_X4_setToNext : Room := { frames := 1, cells := 0, slots := 0, locals := 23 }
theorem nyS_X4_setToNext : yX4_setToNext.cls ≠ "java/lang/invoke/MethodHandle" ∧ yX4_setToNext.cls ≠ "java/lang/invoke/VarHandle" ∧ (parseMethodDescriptor yX4_setToNext.desc).map (fun d => d.parameters.length) = some 2 := by decide +kernel
set_option maxHeartbeats 4000000 in
set_option maxRecDepth 100000 in
theorem w_X4_setToNext {G : xG} {p : Program} {l : Launch} {e : Env} {s : State} {m : MethodId} {args : Array Value} {below : List Frame} {meth : Method} {c : Code} (C : xK G p s m args meth c cX4_setToNext 5 vsX4_setToNext RX4 none) (r : Int) (S' : xS) : ∀ k : Nat,
  (∀ (S : xS) (p0 : Nat) (i0 i1 i2 : Int) (H : Heap) (locs : List Loc) (ls : Array Slot), g_X4_setToNext k 0 S p0 i0 i1 i2 = some (r, S') → xI G S s H locs → lv_has ls 5 [(0, .ref (xB G + p0)), (1, .int (iI i0))] → W p l e rm_X4_setToNext s m args below meth c H locs 0 0 (MQ below (xQv G S') args s 0 0 (xA G)) (F0 m 0 ls [])) ∧
  (∀ (S : xS) (p0 : Nat) (i0 i1 i2 : Int) (H : Heap) (locs : List Loc) (ls : Array Slot), g_X4_setToNext k 1 S p0 i0 i1 i2 = some (r, S') → xI G S s H locs → lv_has ls 5 [(0, .ref (xB G + p0)), (1, .int (iI i0)), (2, .int (iI i1))] → W p l e rm_X4_setToNext s m args below meth c H locs 0 0 (MQ below (xQv G S') args s 0 0 (xA G)) (F0 m 4 ls [])) ∧
  (∀ (S : xS) (p0 : Nat) (i0 i1 i2 : Int) (H : Heap) (locs : List Loc) (ls : Array Slot), g_X4_setToNext k 2 S p0 i0 i1 i2 = some (r, S') → xI G S s H locs → lv_has ls 5 [(0, .ref (xB G + p0)), (1, .int (iI i0)), (2, .int (iI i1))] → W p l e rm_X4_setToNext s m args below meth c H locs 0 0 (MQ below (xQv G S') args s 0 0 (xA G)) (F0 m 25 ls [])) ∧
  (∀ (S : xS) (p0 : Nat) (i0 i1 i2 : Int) (H : Heap) (locs : List Loc) (ls : Array Slot), g_X4_setToNext k 3 S p0 i0 i1 i2 = some (r, S') → xI G S s H locs → lv_has ls 5 [(0, .ref (xB G + p0)), (1, .int (iI i0)), (2, .int (iI i1)), (3, .int (iI i2))] → W p l e rm_X4_setToNext s m args below meth c H locs 0 0 (MQ below (xQv G S') args s 0 0 (xA G)) (F0 m 33 ls [])) ∧
  (∀ (S : xS) (p0 : Nat) (i0 i1 i2 : Int) (H : Heap) (locs : List Loc) (ls : Array Slot), g_X4_setToNext k 4 S p0 i0 i1 i2 = some (r, S') → xI G S s H locs → lv_has ls 5 [(0, .ref (xB G + p0)), (1, .int (iI i0)), (2, .int (iI i1)), (3, .int (iI i2))] → W p l e rm_X4_setToNext s m args below meth c H locs 0 0 (MQ below (xQv G S') args s 0 0 (xA G)) (F0 m 53 ls [])) ∧
  (∀ (S : xS) (p0 : Nat) (i0 i1 i2 : Int) (H : Heap) (locs : List Loc) (ls : Array Slot), g_X4_setToNext k 5 S p0 i0 i1 i2 = some (r, S') → xI G S s H locs → lv_has ls 5 [(0, .ref (xB G + p0)), (1, .int (iI i0)), (2, .int (iI i1))] → W p l e rm_X4_setToNext s m args below meth c H locs 0 0 (MQ below (xQv G S') args s 0 0 (xA G)) (F0 m 59 ls [])) ∧
  (∀ (S : xS) (p0 : Nat) (i0 i1 i2 : Int) (H : Heap) (locs : List Loc) (ls : Array Slot), g_X4_setToNext k 6 S p0 i0 i1 i2 = some (r, S') → xI G S s H locs → lv_has ls 5 [(0, .ref (xB G + p0)), (3, .int (iI i0)), (4, .int (iI i1))] → W p l e rm_X4_setToNext s m args below meth c H locs 0 0 (MQ below (xQv G S') args s 0 0 (xA G)) (F0 m 68 ls [])) := by
  intro k
  induction k with
  | zero => exact ⟨fun _ _ _ _ _ _ _ _ hf => (by cases hf), fun _ _ _ _ _ _ _ _ hf => (by cases hf), fun _ _ _ _ _ _ _ _ hf => (by cases hf), fun _ _ _ _ _ _ _ _ hf => (by cases hf), fun _ _ _ _ _ _ _ _ hf => (by cases hf), fun _ _ _ _ _ _ _ _ hf => (by cases hf), fun _ _ _ _ _ _ _ _ hf => (by cases hf)⟩
  | succ fu ih =>
    obtain ⟨ih0, ih1, ih2, ih3, ih4, ih5, ih6⟩ := ih
    refine ⟨?_, ?_, ?_, ?_, ?_, ?_, ?_⟩
    · intro S p0 i0 i1 i2 H locs ls hf I hl
      replace hf : b_X4_setToNext_0 (g_X4_setToNext fu) fu S p0 i0 i1 i2 = some (r, S') := hf
      unfold b_X4_setToNext_0 at hf
      refine kx_iload_n 0 C dX4_setToNext_0 (lv_at hl 1 rfl) ?_
      refine kx_iconst 1 C dX4_setToNext_1 ?_
      refine kx_isub 2 C dX4_setToNext_2 ?_
      obtain ⟨x1, e2, hf⟩ := nmx_e hf
      refine kx_istore_n 3 C (lv' := [(2, .int (iI x1)), (0, .ref (xB G + p0)), (1, .int (iI i0))]) dX4_setToNext_3 hl (by decide) e2 rfl (fun ls hl => ?_)
      exact ih1 _ _ _ _ _ _ _ _ hf I (lv_sub hl [1, 2, 0] rfl)
    · intro S p0 i0 i1 i2 H locs ls hf I hl
      replace hf : b_X4_setToNext_1 (g_X4_setToNext fu) fu S p0 i0 i1 i2 = some (r, S') := hf
      unfold b_X4_setToNext_1 at hf
      refine kx_iload_n 4 C dX4_setToNext_4 (lv_at hl 2 rfl) ?_
      refine kx_if_lt 5 25 C dX4_setToNext_5 (by decide) (fun c3 => ?_) (fun c3 => ?_)
      · have hf := ifp c3 hf
        exact ih2 _ _ _ _ _ _ _ _ hf I (lv_sub hl [0, 1, 2] rfl)
      · have hf := ifn c3 hf
        refine kx_aload_n 8 C dX4_setToNext_8 (lv_at hl 0 rfl) ?_
        refine kx_iload_n 9 C dX4_setToNext_9 (lv_at hl 2 rfl) ?_
        obtain ⟨x4, h5, hf⟩ := ob hf
        refine kx_iald 10 C I h5 dX4_setToNext_10 ?_
        refine kx_aload_n 11 C dX4_setToNext_11 (lv_at hl 0 rfl) ?_
        refine kx_iload_n 12 C dX4_setToNext_12 (lv_at hl 2 rfl) ?_
        refine kx_iconst 13 C dX4_setToNext_13 ?_
        refine kx_iadd 14 C dX4_setToNext_14 ?_
        obtain ⟨x6, h7, hf⟩ := ob hf
        refine kx_iald 15 C I h7 dX4_setToNext_15 ?_
        refine kx_icmp_le 16 25 C dX4_setToNext_16 (by decide) (fun c8 => ?_) (fun c8 => ?_)
        · have hf := ifp c8 hf
          exact ih2 _ _ _ _ _ _ _ _ hf I (lv_sub hl [0, 1, 2] rfl)
        · have hf := ifn c8 hf
          obtain ⟨x9, e10, hf⟩ := nmx_e hf
          refine kx_iinc 19 C (lv' := [(2, .int (iI x9)), (0, .ref (xB G + p0)), (1, .int (iI i0))]) dX4_setToNext_19 hl 2 rfl e10 (by decide) rfl (fun ls hl => ?_)
          refine kx_goto 22 4 C dX4_setToNext_22 (by decide) ?_
          exact ih1 _ _ _ _ _ _ _ _ hf I (lv_sub hl [1, 2, 0] rfl)
    · intro S p0 i0 i1 i2 H locs ls hf I hl
      replace hf : b_X4_setToNext_2 (g_X4_setToNext fu) fu S p0 i0 i1 i2 = some (r, S') := hf
      unfold b_X4_setToNext_2 at hf
      refine kx_iload_n 25 C dX4_setToNext_25 (lv_at hl 2 rfl) ?_
      refine kx_if_lt 26 59 C dX4_setToNext_26 (by decide) (fun c11 => ?_) (fun c11 => ?_)
      · have hf := ifp c11 hf
        exact ih5 _ _ _ _ _ _ _ _ hf I (lv_sub hl [0, 1, 2] rfl)
      · have hf := ifn c11 hf
        refine kx_iload_n 29 C dX4_setToNext_29 (lv_at hl 1 rfl) ?_
        refine kx_iconst 30 C dX4_setToNext_30 ?_
        refine kx_isub 31 C dX4_setToNext_31 ?_
        obtain ⟨x12, e13, hf⟩ := nmx_e hf
        refine kx_istore_n 32 C (lv' := [(3, .int (iI x12)), (0, .ref (xB G + p0)), (1, .int (iI i0)), (2, .int (iI i1))]) dX4_setToNext_32 hl (by decide) e13 rfl (fun ls hl => ?_)
        exact ih3 _ _ _ _ _ _ _ _ hf I (lv_sub hl [1, 2, 3, 0] rfl)
    · intro S p0 i0 i1 i2 H locs ls hf I hl
      replace hf : b_X4_setToNext_3 (g_X4_setToNext fu) fu S p0 i0 i1 i2 = some (r, S') := hf
      unfold b_X4_setToNext_3 at hf
      refine kx_iload_n 33 C dX4_setToNext_33 (lv_at hl 3 rfl) ?_
      refine kx_iload_n 34 C dX4_setToNext_34 (lv_at hl 2 rfl) ?_
      refine kx_icmp_le 35 53 C dX4_setToNext_35 (by decide) (fun c14 => ?_) (fun c14 => ?_)
      · have hf := ifp c14 hf
        exact ih4 _ _ _ _ _ _ _ _ hf I (lv_sub hl [0, 1, 2, 3] rfl)
      · have hf := ifn c14 hf
        refine kx_aload_n 38 C dX4_setToNext_38 (lv_at hl 0 rfl) ?_
        refine kx_iload_n 39 C dX4_setToNext_39 (lv_at hl 3 rfl) ?_
        obtain ⟨x15, h16, hf⟩ := ob hf
        refine kx_iald 40 C I h16 dX4_setToNext_40 ?_
        refine kx_aload_n 41 C dX4_setToNext_41 (lv_at hl 0 rfl) ?_
        refine kx_iload_n 42 C dX4_setToNext_42 (lv_at hl 2 rfl) ?_
        obtain ⟨x17, h18, hf⟩ := ob hf
        refine kx_iald 43 C I h18 dX4_setToNext_43 ?_
        refine kx_icmp_ge 44 53 C dX4_setToNext_44 (by decide) (fun c19 => ?_) (fun c19 => ?_)
        · have hf := ifp c19 hf
          exact ih4 _ _ _ _ _ _ _ _ hf I (lv_sub hl [0, 1, 2, 3] rfl)
        · have hf := ifn c19 hf
          obtain ⟨x20, e21, hf⟩ := nmx_e hf
          refine kx_iinc 47 C (lv' := [(3, .int (iI x20)), (0, .ref (xB G + p0)), (1, .int (iI i0)), (2, .int (iI i1))]) dX4_setToNext_47 hl 3 rfl e21 (by decide) rfl (fun ls hl => ?_)
          refine kx_goto 50 33 C dX4_setToNext_50 (by decide) ?_
          exact ih3 _ _ _ _ _ _ _ _ hf I (lv_sub hl [1, 2, 3, 0] rfl)
    · intro S p0 i0 i1 i2 H locs ls hf I hl
      replace hf : b_X4_setToNext_4 (g_X4_setToNext fu) fu S p0 i0 i1 i2 = some (r, S') := hf
      unfold b_X4_setToNext_4 at hf
      refine kx_aload_n 53 C dX4_setToNext_53 (lv_at hl 0 rfl) ?_
      refine kx_iload_n 54 C dX4_setToNext_54 (lv_at hl 2 rfl) ?_
      refine kx_iload_n 55 C dX4_setToNext_55 (lv_at hl 3 rfl) ?_
      obtain ⟨z24, S22, h23, hf⟩ := ob2 hf
      refine kx_callSv 56 C hl I (As := [.ref (xB G + p0), .int (iI i1), .int (iI i2)]) (rest := []) (c_X4_exchange G l fu _ _ _ _ _ _ h23) (va_cwS 3 C.ts gX4_setToNext_X4_exchange rfl rfl rfl nyS_X4_exchange ⟨Nat.le_of_ble_eq_true rfl, Nat.le_of_ble_eq_true rfl⟩) rfl rfl (Nat.le_of_ble_eq_true rfl) dX4_setToNext_56 ⟨Nat.le_of_ble_eq_true rfl, Nat.le_of_ble_eq_true rfl⟩ (fun H locs I => ?_)
      exact ih5 _ _ _ _ _ _ _ _ hf I (lv_sub hl [0, 1, 2] rfl)
    · intro S p0 i0 i1 i2 H locs ls hf I hl
      replace hf : b_X4_setToNext_5 (g_X4_setToNext fu) fu S p0 i0 i1 i2 = some (r, S') := hf
      unfold b_X4_setToNext_5 at hf
      refine kx_iload_n 59 C dX4_setToNext_59 (lv_at hl 2 rfl) ?_
      refine kx_iconst 60 C dX4_setToNext_60 ?_
      refine kx_iadd 61 C dX4_setToNext_61 ?_
      obtain ⟨x25, e26, hf⟩ := nmx_e hf
      refine kx_istore_n 62 C (lv' := [(3, .int (iI x25)), (0, .ref (xB G + p0)), (1, .int (iI i0)), (2, .int (iI i1))]) dX4_setToNext_62 hl (by decide) e26 rfl (fun ls hl => ?_)
      refine kx_iload_n 63 C dX4_setToNext_63 (lv_at hl 2 rfl) ?_
      refine kx_iconst 64 C dX4_setToNext_64 ?_
      refine kx_isub 65 C dX4_setToNext_65 ?_
      obtain ⟨x27, e28, hf⟩ := nmx_e hf
      refine kx_istore 66 C (lv' := [(4, .int (iI x27)), (3, .int (iI x25)), (0, .ref (xB G + p0)), (1, .int (iI i0)), (2, .int (iI i1))]) dX4_setToNext_66 hl (by decide) e28 rfl (fun ls hl => ?_)
      exact ih6 _ _ _ _ _ _ _ _ hf I (lv_sub hl [2, 1, 0] rfl)
    · intro S p0 i0 i1 i2 H locs ls hf I hl
      replace hf : b_X4_setToNext_6 (g_X4_setToNext fu) fu S p0 i0 i1 i2 = some (r, S') := hf
      unfold b_X4_setToNext_6 at hf
      refine kx_iload_n 68 C dX4_setToNext_68 (lv_at hl 1 rfl) ?_
      refine kx_iload 69 C dX4_setToNext_69 (lv_at hl 2 rfl) ?_
      refine kx_icmp_ge 71 90 C dX4_setToNext_71 (by decide) (fun c29 => ?_) (fun c29 => ?_)
      · have hf := ifp c29 hf
        exact kx_vret 90 C I hf dX4_setToNext_90
      · have hf := ifn c29 hf
        refine kx_aload_n 74 C dX4_setToNext_74 (lv_at hl 0 rfl) ?_
        refine kx_iload_n 75 C dX4_setToNext_75 (lv_at hl 1 rfl) ?_
        refine kx_iload 76 C dX4_setToNext_76 (lv_at hl 2 rfl) ?_
        obtain ⟨z32, S30, h31, hf⟩ := ob2 hf
        refine kx_callSv 78 C hl I (As := [.ref (xB G + p0), .int (iI i0), .int (iI i1)]) (rest := []) (c_X4_exchange G l fu _ _ _ _ _ _ h31) (va_cwS 3 C.ts gX4_setToNext_X4_exchange rfl rfl rfl nyS_X4_exchange ⟨Nat.le_of_ble_eq_true rfl, Nat.le_of_ble_eq_true rfl⟩) rfl rfl (Nat.le_of_ble_eq_true rfl) dX4_setToNext_78 ⟨Nat.le_of_ble_eq_true rfl, Nat.le_of_ble_eq_true rfl⟩ (fun H locs I => ?_)
        obtain ⟨x33, e34, hf⟩ := nmx_e hf
        refine kx_iinc 81 C (lv' := [(3, .int (iI x33)), (0, .ref (xB G + p0)), (4, .int (iI i1))]) dX4_setToNext_81 hl 1 rfl e34 (by decide) rfl (fun ls hl => ?_)
        obtain ⟨x35, e36, hf⟩ := nmx_e hf
        refine kx_iinc 84 C (lv' := [(4, .int (iI x35)), (3, .int (iI x33)), (0, .ref (xB G + p0))]) dX4_setToNext_84 hl 2 rfl e36 (by decide) rfl (fun ls hl => ?_)
        refine kx_goto 87 68 C dX4_setToNext_87 (by decide) ?_
        exact ih6 _ _ _ _ _ _ _ _ hf I (lv_sub hl [2, 1, 0] rfl)
set_option maxHeartbeats 4000000 in
set_option maxRecDepth 100000 in
theorem c_X4_setToNext (G : xG) (l : Launch) (fu : Nat) (S S' : xS) (p0 : Nat) (i0 : Int) (r : Int) (hf : f_X4_setToNext fu S p0 i0 = some (r, S')) : Met l yX4_setToNext vsX4_setToNext rm_X4_setToNext (va_Pc [.ref (xB G + p0), .int (iI i0)] (xPre G S)) (xQv G S') 0 0 (xA G) := by
  refine kx_met (ret := none) RX4 [(0, .ref (xB G + p0)), (1, .int (iI i0))] (by decide) rfl rfl (Nat.le_of_ble_eq_true rfl) rfl (fun p e s m below meth c ls C hin I hl => ?_)
  exact (w_X4_setToNext C r S' fu).1 S _ _ _ _ _ _ _ hf I hl
def rm_X4_setBySeed : Room := { frames := 1, cells := 0, slots := 0, locals := 23 }
theorem mw_X4_setBySeed_0 : Cond.constantLong RX4 33 (1103515245) ∈ vsX4_setBySeed := inM mq_43_21
theorem mw_X4_setBySeed_1 : Cond.constantLong RX4 35 (12345) ∈ vsX4_setBySeed := inM mq_43_22
theorem mw_X4_setBySeed_2 : Cond.constantLong RX4 37 (2147483648) ∈ vsX4_setBySeed := inM mq_43_23
theorem mw_X4_setBySeed_3 : Cond.constantLong RX4 39 (65536) ∈ vsX4_setBySeed := inM mq_44_0
theorem nyS_X4_setBySeed : yX4_setBySeed.cls ≠ "java/lang/invoke/MethodHandle" ∧ yX4_setBySeed.cls ≠ "java/lang/invoke/VarHandle" ∧ (parseMethodDescriptor yX4_setBySeed.desc).map (fun d => d.parameters.length) = some 3 := by decide +kernel
set_option maxHeartbeats 4000000 in
set_option maxRecDepth 100000 in
theorem w_X4_setBySeed {G : xG} {p : Program} {l : Launch} {e : Env} {s : State} {m : MethodId} {args : Array Value} {below : List Frame} {meth : Method} {c : Code} (C : xK G p s m args meth c cX4_setBySeed 6 vsX4_setBySeed RX4 none) (r : Int) (S' : xS) : ∀ k : Nat,
  (∀ (S : xS) (p0 : Nat) (i0 i1 : Int) (H : Heap) (locs : List Loc) (ls : Array Slot), g_X4_setBySeed k 0 S p0 i0 i1 = some (r, S') → xI G S s H locs → lv_has ls 6 [(0, .ref (xB G + p0)), (1, .int (iI i0)), (2, .int (iI i1))] → W p l e rm_X4_setBySeed s m args below meth c H locs 0 0 (MQ below (xQv G S') args s 0 0 (xA G)) (F0 m 0 ls [])) ∧
  (∀ (S : xS) (p0 : Nat) (i0 i1 : Int) (H : Heap) (locs : List Loc) (ls : Array Slot), g_X4_setBySeed k 1 S p0 i0 i1 = some (r, S') → xI G S s H locs → lv_has ls 6 [(0, .ref (xB G + p0)), (3, .long (lI i0)), (5, .int (iI i1))] → W p l e rm_X4_setBySeed s m args below meth c H locs 0 0 (MQ below (xQv G S') args s 0 0 (xA G)) (F0 m 13 ls [])) := by
  intro k
  induction k with
  | zero => exact ⟨fun _ _ _ _ _ _ _ hf => (by cases hf), fun _ _ _ _ _ _ _ hf => (by cases hf)⟩
  | succ fu ih =>
    obtain ⟨ih0, ih1⟩ := ih
    refine ⟨?_, ?_⟩
    · intro S p0 i0 i1 H locs ls hf I hl
      replace hf : b_X4_setBySeed_0 (g_X4_setBySeed fu) fu S p0 i0 i1 = some (r, S') := hf
      unfold b_X4_setBySeed_0 at hf
      refine kx_aload_n 0 C dX4_setBySeed_0 (lv_at hl 0 rfl) ?_
      refine kx_iload_n 1 C dX4_setBySeed_1 (lv_at hl 1 rfl) ?_
      obtain ⟨z3, S1, h2, hf⟩ := ob2 hf
      refine kx_callSv 2 C hl I (As := [.ref (xB G + p0), .int (iI i0)]) (rest := []) (c_X4_setToFirst G l fu _ _ _ _ _ h2) (va_cwS 2 C.ts gX4_setBySeed_X4_setToFirst rfl rfl rfl nyS_X4_setToFirst ⟨Nat.le_of_ble_eq_true rfl, Nat.le_of_ble_eq_true rfl⟩) rfl rfl (Nat.le_of_ble_eq_true rfl) dX4_setBySeed_2 ⟨Nat.le_of_ble_eq_true rfl, Nat.le_of_ble_eq_true rfl⟩ (fun H locs I => ?_)
      refine kx_iload_n 5 C dX4_setBySeed_5 (lv_at hl 2 rfl) ?_
      refine kx_i2l 6 C dX4_setBySeed_6 ?_
      obtain ⟨x4, e5, hf⟩ := nmx_e hf
      refine kx_lstore_n 7 C (lv' := [(3, .long (lI x4)), (0, .ref (xB G + p0)), (1, .int (iI i0)), (2, .int (iI i1))]) dX4_setBySeed_7 hl (by decide) e5 rfl (fun ls hl => ?_)
      refine kx_iload_n 8 C dX4_setBySeed_8 (lv_at hl 2 rfl) ?_
      refine kx_iconst 9 C dX4_setBySeed_9 ?_
      refine kx_isub 10 C dX4_setBySeed_10 ?_
      obtain ⟨x6, e7, hf⟩ := nmx_e hf
      refine kx_istore 11 C (lv' := [(5, .int (iI x6)), (3, .long (lI x4)), (0, .ref (xB G + p0)), (1, .int (iI i0)), (2, .int (iI i1))]) dX4_setBySeed_11 hl (by decide) e7 rfl (fun ls hl => ?_)
      exact ih1 _ _ _ _ _ _ _ hf I (lv_sub hl [2, 1, 0] rfl)
    · intro S p0 i0 i1 H locs ls hf I hl
      replace hf : b_X4_setBySeed_1 (g_X4_setBySeed fu) fu S p0 i0 i1 = some (r, S') := hf
      unfold b_X4_setBySeed_1 at hf
      refine kx_iload 13 C dX4_setBySeed_13 (lv_at hl 2 rfl) ?_
      refine kx_iconst 15 C dX4_setBySeed_15 ?_
      refine kx_icmp_lt 16 57 C dX4_setBySeed_16 (by decide) (fun c8 => ?_) (fun c8 => ?_)
      · have hf := ifp c8 hf
        exact kx_vret 57 C I hf dX4_setBySeed_57
      · have hf := ifn c8 hf
        refine kx_lload_n 19 C dX4_setBySeed_19 (lv_at hl 1 rfl) ?_
        refine kx_ldc2 20 C (z := 1103515245) mw_X4_setBySeed_0 dX4_setBySeed_20 (by decide) ?_
        refine kx_lmul 23 C dX4_setBySeed_23 ?_
        refine kx_ldc2 24 C (z := 12345) mw_X4_setBySeed_1 dX4_setBySeed_24 (by decide) ?_
        refine kx_ladd 27 C dX4_setBySeed_27 ?_
        refine kx_ldc2 28 C (z := 2147483648) mw_X4_setBySeed_2 dX4_setBySeed_28 (by decide) ?_
        obtain ⟨h9, hf⟩ := ifz hf
        refine kx_lrem 31 C dX4_setBySeed_31 h9 ?_
        obtain ⟨x10, e11, hf⟩ := nmx_e hf
        refine kx_lstore_n 32 C (lv' := [(3, .long (lI x10)), (0, .ref (xB G + p0)), (5, .int (iI i1))]) dX4_setBySeed_32 hl (by decide) e11 rfl (fun ls hl => ?_)
        refine kx_aload_n 33 C dX4_setBySeed_33 (lv_at hl 1 rfl) ?_
        refine kx_iload 34 C dX4_setBySeed_34 (lv_at hl 2 rfl) ?_
        refine kx_lload_n 36 C dX4_setBySeed_36 (lv_at hl 0 rfl) ?_
        refine kx_ldc2 37 C (z := 65536) mw_X4_setBySeed_3 dX4_setBySeed_37 (by decide) ?_
        obtain ⟨h12, hf⟩ := ifz hf
        refine kx_ldiv 40 C dX4_setBySeed_40 h12 ?_
        refine kx_iload 41 C dX4_setBySeed_41 (lv_at hl 2 rfl) ?_
        refine kx_iconst 43 C dX4_setBySeed_43 ?_
        refine kx_iadd 44 C dX4_setBySeed_44 ?_
        refine kx_i2l 45 C dX4_setBySeed_45 ?_
        obtain ⟨h13, hf⟩ := ifz hf
        refine kx_lrem 46 C dX4_setBySeed_46 h13 ?_
        refine kx_l2i 47 C dX4_setBySeed_47 ?_
        obtain ⟨z16, S14, h15, hf⟩ := ob2 hf
        refine kx_callSv 48 C hl I (As := [.ref (xB G + p0), .int (iI i1), .int (iI ((wL ((wL x10).tdiv (wL 65536))).tmod (wL (wI (i1 + 1)))))]) (rest := []) (c_X4_exchange G l fu _ _ _ _ _ _ h15) (va_cwS 3 C.ts gX4_setBySeed_X4_exchange rfl rfl rfl nyS_X4_exchange ⟨Nat.le_of_ble_eq_true rfl, Nat.le_of_ble_eq_true rfl⟩) rfl rfl (Nat.le_of_ble_eq_true rfl) dX4_setBySeed_48 ⟨Nat.le_of_ble_eq_true rfl, Nat.le_of_ble_eq_true rfl⟩ (fun H locs I => ?_)
        obtain ⟨x17, e18, hf⟩ := nmx_e hf
        refine kx_iinc 51 C (lv' := [(5, .int (iI x17)), (3, .long (lI x10)), (0, .ref (xB G + p0))]) dX4_setBySeed_51 hl 2 rfl e18 (by decide) rfl (fun ls hl => ?_)
        refine kx_goto 54 13 C dX4_setBySeed_54 (by decide) ?_
        exact ih1 _ _ _ _ _ _ _ hf I (lv_sub hl [2, 1, 0] rfl)
set_option maxHeartbeats 4000000 in
set_option maxRecDepth 100000 in
theorem c_X4_setBySeed (G : xG) (l : Launch) (fu : Nat) (S S' : xS) (p0 : Nat) (i0 : Int) (i1 : Int) (r : Int) (hf : f_X4_setBySeed fu S p0 i0 i1 = some (r, S')) : Met l yX4_setBySeed vsX4_setBySeed rm_X4_setBySeed (va_Pc [.ref (xB G + p0), .int (iI i0), .int (iI i1)] (xPre G S)) (xQv G S') 0 0 (xA G) := by
  refine kx_met (ret := none) RX4 [(0, .ref (xB G + p0)), (1, .int (iI i0)), (2, .int (iI i1))] (by decide) rfl rfl (Nat.le_of_ble_eq_true rfl) rfl (fun p e s m below meth c ls C hin I hl => ?_)
  exact (w_X4_setBySeed C r S' fu).1 S _ _ _ _ _ _ hf I hl
def rm_X4_stepsFrom : Room := { frames := 0, cells := 0, slots := 0, locals := 0 }
theorem nyS_X4_stepsFrom : yX4_stepsFrom.cls ≠ "java/lang/invoke/MethodHandle" ∧ yX4_stepsFrom.cls ≠ "java/lang/invoke/VarHandle" ∧ (parseMethodDescriptor yX4_stepsFrom.desc).map (fun d => d.parameters.length) = some 3 := by decide +kernel
set_option maxHeartbeats 4000000 in
set_option maxRecDepth 100000 in
theorem w_X4_stepsFrom {G : xG} {p : Program} {l : Launch} {e : Env} {s : State} {m : MethodId} {args : Array Value} {below : List Frame} {meth : Method} {c : Code} (C : xK G p s m args meth c cX4_stepsFrom 5 vsX4_stepsFrom RX4 (some .int)) (r : Int) (S' : xS) : ∀ k : Nat,
  (∀ (S : xS) (p0 : Nat) (i0 i1 i2 : Int) (H : Heap) (locs : List Loc) (ls : Array Slot), g_X4_stepsFrom k 0 S p0 i0 i1 i2 = some (r, S') → xI G S s H locs → lv_has ls 5 [(0, .ref (xB G + p0)), (1, .int (iI i0)), (2, .int (iI i1))] → W p l e rm_X4_stepsFrom s m args below meth c H locs 0 0 (MQ below (xQi G r S') args s 0 0 (xA G)) (F0 m 0 ls [])) ∧
  (∀ (S : xS) (p0 : Nat) (i0 i1 i2 : Int) (H : Heap) (locs : List Loc) (ls : Array Slot), g_X4_stepsFrom k 1 S p0 i0 i1 i2 = some (r, S') → xI G S s H locs → lv_has ls 5 [(0, .ref (xB G + p0)), (2, .int (iI i0)), (3, .int (iI i1)), (4, .int (iI i2))] → W p l e rm_X4_stepsFrom s m args below meth c H locs 0 0 (MQ below (xQi G r S') args s 0 0 (xA G)) (F0 m 5 ls [])) := by
  intro k
  induction k with
  | zero => exact ⟨fun _ _ _ _ _ _ _ _ hf => (by cases hf), fun _ _ _ _ _ _ _ _ hf => (by cases hf)⟩
  | succ fu ih =>
    obtain ⟨ih0, ih1⟩ := ih
    refine ⟨?_, ?_⟩
    · intro S p0 i0 i1 i2 H locs ls hf I hl
      replace hf : b_X4_stepsFrom_0 (g_X4_stepsFrom fu) fu S p0 i0 i1 i2 = some (r, S') := hf
      unfold b_X4_stepsFrom_0 at hf
      refine kx_iload_n 0 C dX4_stepsFrom_0 (lv_at hl 1 rfl) ?_
      refine kx_istore_n 1 C (lv' := [(3, .int (iI i0)), (0, .ref (xB G + p0)), (1, .int (iI i0)), (2, .int (iI i1))]) dX4_stepsFrom_1 hl (by decide) rfl rfl (fun ls hl => ?_)
      refine kx_iconst 2 C dX4_stepsFrom_2 ?_
      refine kx_istore 3 C (lv' := [(4, .int (iI 0)), (3, .int (iI i0)), (0, .ref (xB G + p0)), (1, .int (iI i0)), (2, .int (iI i1))]) dX4_stepsFrom_3 hl (by decide) rfl rfl (fun ls hl => ?_)
      exact ih1 _ _ _ _ _ _ _ _ hf I (lv_sub hl [2, 4, 1, 0] rfl)
    · intro S p0 i0 i1 i2 H locs ls hf I hl
      replace hf : b_X4_stepsFrom_1 (g_X4_stepsFrom fu) fu S p0 i0 i1 i2 = some (r, S') := hf
      unfold b_X4_stepsFrom_1 at hf
      refine kx_iload 5 C dX4_stepsFrom_5 (lv_at hl 3 rfl) ?_
      refine kx_iload_n 7 C dX4_stepsFrom_7 (lv_at hl 1 rfl) ?_
      refine kx_icmp_ge 8 21 C dX4_stepsFrom_8 (by decide) (fun c1 => ?_) (fun c1 => ?_)
      · have hf := ifp c1 hf
        refine kx_iload_n 21 C dX4_stepsFrom_21 (lv_at hl 2 rfl) ?_
        exact kx_iret 22 C I hf dX4_stepsFrom_22
      · have hf := ifn c1 hf
        refine kx_aload_n 11 C dX4_stepsFrom_11 (lv_at hl 0 rfl) ?_
        refine kx_iload_n 12 C dX4_stepsFrom_12 (lv_at hl 2 rfl) ?_
        obtain ⟨x2, h3, hf⟩ := ob hf
        refine kx_iald 13 C I h3 dX4_stepsFrom_13 ?_
        refine kx_istore_n 14 C (lv' := [(3, .int (iI x2)), (0, .ref (xB G + p0)), (2, .int (iI i0)), (4, .int (iI i2))]) dX4_stepsFrom_14 hl (by decide) rfl rfl (fun ls hl => ?_)
        obtain ⟨x4, e5, hf⟩ := nmx_e hf
        refine kx_iinc 15 C (lv' := [(4, .int (iI x4)), (3, .int (iI x2)), (0, .ref (xB G + p0)), (2, .int (iI i0))]) dX4_stepsFrom_15 hl 3 rfl e5 (by decide) rfl (fun ls hl => ?_)
        refine kx_goto 18 5 C dX4_stepsFrom_18 (by decide) ?_
        exact ih1 _ _ _ _ _ _ _ _ hf I (lv_sub hl [2, 3, 1, 0] rfl)
set_option maxHeartbeats 4000000 in
set_option maxRecDepth 100000 in
theorem c_X4_stepsFrom (G : xG) (l : Launch) (fu : Nat) (S S' : xS) (p0 : Nat) (i0 : Int) (i1 : Int) (r : Int) (hf : f_X4_stepsFrom fu S p0 i0 i1 = some (r, S')) : Met l yX4_stepsFrom vsX4_stepsFrom rm_X4_stepsFrom (va_Pc [.ref (xB G + p0), .int (iI i0), .int (iI i1)] (xPre G S)) (xQi G r S') 0 0 (xA G) := by
  refine kx_met (ret := (some .int)) RX4 [(0, .ref (xB G + p0)), (1, .int (iI i0)), (2, .int (iI i1))] (by decide) rfl rfl (Nat.le_of_ble_eq_true rfl) rfl (fun p e s m below meth c ls C hin I hl => ?_)
  exact (w_X4_stepsFrom C r S' fu).1 S _ _ _ _ _ _ _ hf I hl
def rm_X4_ringLength : Room := { frames := 0, cells := 0, slots := 0, locals := 0 }
theorem nyS_X4_ringLength : yX4_ringLength.cls ≠ "java/lang/invoke/MethodHandle" ∧ yX4_ringLength.cls ≠ "java/lang/invoke/VarHandle" ∧ (parseMethodDescriptor yX4_ringLength.desc).map (fun d => d.parameters.length) = some 3 := by decide +kernel
set_option maxHeartbeats 4000000 in
set_option maxRecDepth 100000 in
theorem w_X4_ringLength {G : xG} {p : Program} {l : Launch} {e : Env} {s : State} {m : MethodId} {args : Array Value} {below : List Frame} {meth : Method} {c : Code} (C : xK G p s m args meth c cX4_ringLength 5 vsX4_ringLength RX4 (some .int)) (r : Int) (S' : xS) : ∀ k : Nat,
  (∀ (S : xS) (p0 : Nat) (i0 i1 i2 i3 : Int) (H : Heap) (locs : List Loc) (ls : Array Slot), g_X4_ringLength k 0 S p0 i0 i1 i2 i3 = some (r, S') → xI G S s H locs → lv_has ls 5 [(0, .ref (xB G + p0)), (1, .int (iI i0)), (2, .int (iI i1))] → W p l e rm_X4_ringLength s m args below meth c H locs 0 0 (MQ below (xQi G r S') args s 0 0 (xA G)) (F0 m 0 ls [])) ∧
  (∀ (S : xS) (p0 : Nat) (i0 i1 i2 i3 : Int) (H : Heap) (locs : List Loc) (ls : Array Slot), g_X4_ringLength k 1 S p0 i0 i1 i2 i3 = some (r, S') → xI G S s H locs → lv_has ls 5 [(0, .ref (xB G + p0)), (1, .int (iI i0)), (2, .int (iI i1)), (3, .int (iI i2)), (4, .int (iI i3))] → W p l e rm_X4_ringLength s m args below meth c H locs 0 0 (MQ below (xQi G r S') args s 0 0 (xA G)) (F0 m 7 ls [])) := by
  intro k
  induction k with
  | zero => exact ⟨fun _ _ _ _ _ _ _ _ _ hf => (by cases hf), fun _ _ _ _ _ _ _ _ _ hf => (by cases hf)⟩
  | succ fu ih =>
    obtain ⟨ih0, ih1⟩ := ih
    refine ⟨?_, ?_⟩
    · intro S p0 i0 i1 i2 i3 H locs ls hf I hl
      replace hf : b_X4_ringLength_0 (g_X4_ringLength fu) fu S p0 i0 i1 i2 i3 = some (r, S') := hf
      unfold b_X4_ringLength_0 at hf
      refine kx_iconst 0 C dX4_ringLength_0 ?_
      refine kx_istore_n 1 C (lv' := [(3, .int (iI 1)), (0, .ref (xB G + p0)), (1, .int (iI i0)), (2, .int (iI i1))]) dX4_ringLength_1 hl (by decide) rfl rfl (fun ls hl => ?_)
      refine kx_aload_n 2 C dX4_ringLength_2 (lv_at hl 1 rfl) ?_
      refine kx_iload_n 3 C dX4_ringLength_3 (lv_at hl 3 rfl) ?_
      obtain ⟨x1, h2, hf⟩ := ob hf
      refine kx_iald 4 C I h2 dX4_ringLength_4 ?_
      refine kx_istore 5 C (lv' := [(4, .int (iI x1)), (3, .int (iI 1)), (0, .ref (xB G + p0)), (1, .int (iI i0)), (2, .int (iI i1))]) dX4_ringLength_5 hl (by decide) rfl rfl (fun ls hl => ?_)
      exact ih1 _ _ _ _ _ _ _ _ _ hf I (lv_sub hl [2, 3, 4, 1, 0] rfl)
    · intro S p0 i0 i1 i2 i3 H locs ls hf I hl
      replace hf : b_X4_ringLength_1 (g_X4_ringLength fu) fu S p0 i0 i1 i2 i3 = some (r, S') := hf
      unfold b_X4_ringLength_1 at hf
      refine kx_iload 7 C dX4_ringLength_7 (lv_at hl 4 rfl) ?_
      refine kx_iload_n 9 C dX4_ringLength_9 (lv_at hl 2 rfl) ?_
      refine kx_icmp_eq 10 30 C dX4_ringLength_10 (by decide) (fun c3 => ?_) (fun c3 => ?_)
      · have hf := ifp c3 hf
        refine kx_iload_n 30 C dX4_ringLength_30 (lv_at hl 3 rfl) ?_
        exact kx_iret 31 C I hf dX4_ringLength_31
      · have hf := ifn c3 hf
        refine kx_iload_n 13 C dX4_ringLength_13 (lv_at hl 3 rfl) ?_
        refine kx_iload_n 14 C dX4_ringLength_14 (lv_at hl 1 rfl) ?_
        refine kx_icmp_ge 15 30 C dX4_ringLength_15 (by decide) (fun c4 => ?_) (fun c4 => ?_)
        · have hf := ifp c4 hf
          refine kx_iload_n 30 C dX4_ringLength_30 (lv_at hl 3 rfl) ?_
          exact kx_iret 31 C I hf dX4_ringLength_31
        · have hf := ifn c4 hf
          refine kx_aload_n 18 C dX4_ringLength_18 (lv_at hl 0 rfl) ?_
          refine kx_iload 19 C dX4_ringLength_19 (lv_at hl 4 rfl) ?_
          obtain ⟨x5, h6, hf⟩ := ob hf
          refine kx_iald 21 C I h6 dX4_ringLength_21 ?_
          refine kx_istore 22 C (lv' := [(4, .int (iI x5)), (0, .ref (xB G + p0)), (1, .int (iI i0)), (2, .int (iI i1)), (3, .int (iI i2))]) dX4_ringLength_22 hl (by decide) rfl rfl (fun ls hl => ?_)
          obtain ⟨x7, e8, hf⟩ := nmx_e hf
          refine kx_iinc 24 C (lv' := [(3, .int (iI x7)), (4, .int (iI x5)), (0, .ref (xB G + p0)), (1, .int (iI i0)), (2, .int (iI i1))]) dX4_ringLength_24 hl 4 rfl e8 (by decide) rfl (fun ls hl => ?_)
          refine kx_goto 27 7 C dX4_ringLength_27 (by decide) ?_
          exact ih1 _ _ _ _ _ _ _ _ _ hf I (lv_sub hl [2, 3, 4, 0, 1] rfl)
set_option maxHeartbeats 4000000 in
set_option maxRecDepth 100000 in
theorem c_X4_ringLength (G : xG) (l : Launch) (fu : Nat) (S S' : xS) (p0 : Nat) (i0 : Int) (i1 : Int) (r : Int) (hf : f_X4_ringLength fu S p0 i0 i1 = some (r, S')) : Met l yX4_ringLength vsX4_ringLength rm_X4_ringLength (va_Pc [.ref (xB G + p0), .int (iI i0), .int (iI i1)] (xPre G S)) (xQi G r S') 0 0 (xA G) := by
  refine kx_met (ret := (some .int)) RX4 [(0, .ref (xB G + p0)), (1, .int (iI i0)), (2, .int (iI i1))] (by decide) rfl rfl (Nat.le_of_ble_eq_true rfl) rfl (fun p e s m below meth c ls C hin I hl => ?_)
  exact (w_X4_ringLength C r S' fu).1 S _ _ _ _ _ _ _ _ hf I hl
def rm_X4_ringCount : Room := { frames := 0, cells := 0, slots := 0, locals := 0 }
theorem nyS_X4_ringCount : yX4_ringCount.cls ≠ "java/lang/invoke/MethodHandle" ∧ yX4_ringCount.cls ≠ "java/lang/invoke/VarHandle" ∧ (parseMethodDescriptor yX4_ringCount.desc).map (fun d => d.parameters.length) = some 2 := by decide +kernel
set_option maxHeartbeats 4000000 in
set_option maxRecDepth 100000 in
theorem w_X4_ringCount {G : xG} {p : Program} {l : Launch} {e : Env} {s : State} {m : MethodId} {args : Array Value} {below : List Frame} {meth : Method} {c : Code} (C : xK G p s m args meth c cX4_ringCount 7 vsX4_ringCount RX4 (some .int)) (r : Int) (S' : xS) : ∀ k : Nat,
  (∀ (S : xS) (p0 : Nat) (i0 i1 i2 i3 i4 i5 : Int) (H : Heap) (locs : List Loc) (ls : Array Slot), g_X4_ringCount k 0 S p0 i0 i1 i2 i3 i4 i5 = some (r, S') → xI G S s H locs → lv_has ls 7 [(0, .ref (xB G + p0)), (1, .int (iI i0))] → W p l e rm_X4_ringCount s m args below meth c H locs 0 0 (MQ below (xQi G r S') args s 0 0 (xA G)) (F0 m 0 ls [])) ∧
  (∀ (S : xS) (p0 : Nat) (i0 i1 i2 i3 i4 i5 : Int) (H : Heap) (locs : List Loc) (ls : Array Slot), g_X4_ringCount k 1 S p0 i0 i1 i2 i3 i4 i5 = some (r, S') → xI G S s H locs → lv_has ls 7 [(0, .ref (xB G + p0)), (1, .int (iI i0)), (2, .int (iI i1)), (3, .int (iI i2)), (4, .int (iI i3))] → W p l e rm_X4_ringCount s m args below meth c H locs 0 0 (MQ below (xQi G r S') args s 0 0 (xA G)) (F0 m 7 ls [])) ∧
  (∀ (S : xS) (p0 : Nat) (i0 i1 i2 i3 i4 i5 : Int) (H : Heap) (locs : List Loc) (ls : Array Slot), g_X4_ringCount k 2 S p0 i0 i1 i2 i3 i4 i5 = some (r, S') → xI G S s H locs → lv_has ls 7 [(0, .ref (xB G + p0)), (1, .int (iI i0)), (2, .int (iI i1)), (3, .int (iI i2)), (4, .int (iI i3)), (5, .int (iI i4)), (6, .int (iI i5))] → W p l e rm_X4_ringCount s m args below meth c H locs 0 0 (MQ below (xQi G r S') args s 0 0 (xA G)) (F0 m 32 ls [])) ∧
  (∀ (S : xS) (p0 : Nat) (i0 i1 i2 i3 i4 i5 : Int) (H : Heap) (locs : List Loc) (ls : Array Slot), g_X4_ringCount k 3 S p0 i0 i1 i2 i3 i4 i5 = some (r, S') → xI G S s H locs → lv_has ls 7 [(0, .ref (xB G + p0)), (1, .int (iI i0)), (2, .int (iI i1)), (3, .int (iI i2)), (4, .int (iI i3))] → W p l e rm_X4_ringCount s m args below meth c H locs 0 0 (MQ below (xQi G r S') args s 0 0 (xA G)) (F0 m 57 ls [])) := by
  intro k
  induction k with
  | zero => exact ⟨fun _ _ _ _ _ _ _ _ _ _ _ hf => (by cases hf), fun _ _ _ _ _ _ _ _ _ _ _ hf => (by cases hf), fun _ _ _ _ _ _ _ _ _ _ _ hf => (by cases hf), fun _ _ _ _ _ _ _ _ _ _ _ hf => (by cases hf)⟩
  | succ fu ih =>
    obtain ⟨ih0, ih1, ih2, ih3⟩ := ih
    refine ⟨?_, ?_, ?_, ?_⟩
    · intro S p0 i0 i1 i2 i3 i4 i5 H locs ls hf I hl
      replace hf : b_X4_ringCount_0 (g_X4_ringCount fu) fu S p0 i0 i1 i2 i3 i4 i5 = some (r, S') := hf
      unfold b_X4_ringCount_0 at hf
      refine kx_iconst 0 C dX4_ringCount_0 ?_
      refine kx_istore_n 1 C (lv' := [(2, .int (iI 0)), (0, .ref (xB G + p0)), (1, .int (iI i0))]) dX4_ringCount_1 hl (by decide) rfl rfl (fun ls hl => ?_)
      refine kx_iconst 2 C dX4_ringCount_2 ?_
      refine kx_istore_n 3 C (lv' := [(3, .int (iI 0)), (2, .int (iI 0)), (0, .ref (xB G + p0)), (1, .int (iI i0))]) dX4_ringCount_3 hl (by decide) rfl rfl (fun ls hl => ?_)
      refine kx_iconst 4 C dX4_ringCount_4 ?_
      refine kx_istore 5 C (lv' := [(4, .int (iI 0)), (3, .int (iI 0)), (2, .int (iI 0)), (0, .ref (xB G + p0)), (1, .int (iI i0))]) dX4_ringCount_5 hl (by decide) rfl rfl (fun ls hl => ?_)
      exact ih1 _ _ _ _ _ _ _ _ _ _ _ hf I (lv_sub hl [3, 4, 2, 1, 0] rfl)
    · intro S p0 i0 i1 i2 i3 i4 i5 H locs ls hf I hl
      replace hf : b_X4_ringCount_1 (g_X4_ringCount fu) fu S p0 i0 i1 i2 i3 i4 i5 = some (r, S') := hf
      unfold b_X4_ringCount_1 at hf
      refine kx_iload 7 C dX4_ringCount_7 (lv_at hl 4 rfl) ?_
      refine kx_iload_n 9 C dX4_ringCount_9 (lv_at hl 1 rfl) ?_
      refine kx_icmp_ge 10 63 C dX4_ringCount_10 (by decide) (fun c1 => ?_) (fun c1 => ?_)
      · have hf := ifp c1 hf
        refine kx_iload_n 63 C dX4_ringCount_63 (lv_at hl 3 rfl) ?_
        exact kx_iret 64 C I hf dX4_ringCount_64
      · have hf := ifn c1 hf
        refine kx_iload_n 13 C dX4_ringCount_13 (lv_at hl 2 rfl) ?_
        refine kx_iload 14 C dX4_ringCount_14 (lv_at hl 4 rfl) ?_
        refine kx_ishr 16 C dX4_ringCount_16 ?_
        refine kx_iconst 17 C dX4_ringCount_17 ?_
        refine kx_iand 18 C dX4_ringCount_18 ?_
        refine kx_if_ne 19 57 C dX4_ringCount_19 (by decide) (fun c2 => ?_) (fun c2 => ?_)
        · have hf := ifn c2 hf
          exact ih3 _ _ _ _ _ _ _ _ _ _ _ hf I (lv_sub hl [0, 1, 2, 3, 4] rfl)
        · have hf := ifp c2 hf
          obtain ⟨x3, e4, hf⟩ := nmx_e hf
          refine kx_iinc 22 C (lv' := [(3, .int (iI x3)), (0, .ref (xB G + p0)), (1, .int (iI i0)), (2, .int (iI i1)), (4, .int (iI i3))]) dX4_ringCount_22 hl 3 rfl e4 (by decide) rfl (fun ls hl => ?_)
          refine kx_iload 25 C dX4_ringCount_25 (lv_at hl 4 rfl) ?_
          refine kx_istore 27 C (lv' := [(5, .int (iI i3)), (3, .int (iI x3)), (0, .ref (xB G + p0)), (1, .int (iI i0)), (2, .int (iI i1)), (4, .int (iI i3))]) dX4_ringCount_27 hl (by decide) rfl rfl (fun ls hl => ?_)
          refine kx_iconst 29 C dX4_ringCount_29 ?_
          refine kx_istore 30 C (lv' := [(6, .int (iI 0)), (5, .int (iI i3)), (3, .int (iI x3)), (0, .ref (xB G + p0)), (1, .int (iI i0)), (2, .int (iI i1)), (4, .int (iI i3))]) dX4_ringCount_30 hl (by decide) rfl rfl (fun ls hl => ?_)
          exact ih2 _ _ _ _ _ _ _ _ _ _ _ hf I (lv_sub hl [3, 4, 5, 2, 6, 1, 0] rfl)
    · intro S p0 i0 i1 i2 i3 i4 i5 H locs ls hf I hl
      replace hf : b_X4_ringCount_2 (g_X4_ringCount fu) fu S p0 i0 i1 i2 i3 i4 i5 = some (r, S') := hf
      unfold b_X4_ringCount_2 at hf
      refine kx_iload 32 C dX4_ringCount_32 (lv_at hl 6 rfl) ?_
      refine kx_iload_n 34 C dX4_ringCount_34 (lv_at hl 1 rfl) ?_
      refine kx_icmp_ge 35 57 C dX4_ringCount_35 (by decide) (fun c5 => ?_) (fun c5 => ?_)
      · have hf := ifp c5 hf
        exact ih3 _ _ _ _ _ _ _ _ _ _ _ hf I (lv_sub hl [0, 1, 2, 3, 4] rfl)
      · have hf := ifn c5 hf
        refine kx_iload_n 38 C dX4_ringCount_38 (lv_at hl 2 rfl) ?_
        refine kx_iconst 39 C dX4_ringCount_39 ?_
        refine kx_iload 40 C dX4_ringCount_40 (lv_at hl 5 rfl) ?_
        refine kx_ishl 42 C dX4_ringCount_42 ?_
        refine kx_ior 43 C dX4_ringCount_43 ?_
        obtain ⟨x6, e7, hf⟩ := nmx_e hf
        refine kx_istore_n 44 C (lv' := [(2, .int (iI x6)), (0, .ref (xB G + p0)), (1, .int (iI i0)), (3, .int (iI i2)), (4, .int (iI i3)), (5, .int (iI i4)), (6, .int (iI i5))]) dX4_ringCount_44 hl (by decide) e7 rfl (fun ls hl => ?_)
        refine kx_aload_n 45 C dX4_ringCount_45 (lv_at hl 1 rfl) ?_
        refine kx_iload 46 C dX4_ringCount_46 (lv_at hl 5 rfl) ?_
        obtain ⟨x8, h9, hf⟩ := ob hf
        refine kx_iald 48 C I h9 dX4_ringCount_48 ?_
        refine kx_istore 49 C (lv' := [(5, .int (iI x8)), (2, .int (iI x6)), (0, .ref (xB G + p0)), (1, .int (iI i0)), (3, .int (iI i2)), (4, .int (iI i3)), (6, .int (iI i5))]) dX4_ringCount_49 hl (by decide) rfl rfl (fun ls hl => ?_)
        obtain ⟨x10, e11, hf⟩ := nmx_e hf
        refine kx_iinc 51 C (lv' := [(6, .int (iI x10)), (5, .int (iI x8)), (2, .int (iI x6)), (0, .ref (xB G + p0)), (1, .int (iI i0)), (3, .int (iI i2)), (4, .int (iI i3))]) dX4_ringCount_51 hl 6 rfl e11 (by decide) rfl (fun ls hl => ?_)
        refine kx_goto 54 32 C dX4_ringCount_54 (by decide) ?_
        exact ih2 _ _ _ _ _ _ _ _ _ _ _ hf I (lv_sub hl [3, 4, 2, 5, 6, 1, 0] rfl)
    · intro S p0 i0 i1 i2 i3 i4 i5 H locs ls hf I hl
      replace hf : b_X4_ringCount_3 (g_X4_ringCount fu) fu S p0 i0 i1 i2 i3 i4 i5 = some (r, S') := hf
      unfold b_X4_ringCount_3 at hf
      obtain ⟨x12, e13, hf⟩ := nmx_e hf
      refine kx_iinc 57 C (lv' := [(4, .int (iI x12)), (0, .ref (xB G + p0)), (1, .int (iI i0)), (2, .int (iI i1)), (3, .int (iI i2))]) dX4_ringCount_57 hl 4 rfl e13 (by decide) rfl (fun ls hl => ?_)
      refine kx_goto 60 7 C dX4_ringCount_60 (by decide) ?_
      exact ih1 _ _ _ _ _ _ _ _ _ _ _ hf I (lv_sub hl [1, 2, 3, 4, 0] rfl)
set_option maxHeartbeats 4000000 in
set_option maxRecDepth 100000 in
theorem c_X4_ringCount (G : xG) (l : Launch) (fu : Nat) (S S' : xS) (p0 : Nat) (i0 : Int) (r : Int) (hf : f_X4_ringCount fu S p0 i0 = some (r, S')) : Met l yX4_ringCount vsX4_ringCount rm_X4_ringCount (va_Pc [.ref (xB G + p0), .int (iI i0)] (xPre G S)) (xQi G r S') 0 0 (xA G) := by
  refine kx_met (ret := (some .int)) RX4 [(0, .ref (xB G + p0)), (1, .int (iI i0))] (by decide) rfl rfl (Nat.le_of_ble_eq_true rfl) rfl (fun p e s m below meth c ls C hin I hl => ?_)
  exact (w_X4_ringCount C r S' fu).1 S _ _ _ _ _ _ _ _ _ _ hf I hl
def rm_X4_ringMark : Room := { frames := 1, cells := 0, slots := 0, locals := 24 }
theorem nyS_X4_ringMark : yX4_ringMark.cls ≠ "java/lang/invoke/MethodHandle" ∧ yX4_ringMark.cls ≠ "java/lang/invoke/VarHandle" ∧ (parseMethodDescriptor yX4_ringMark.desc).map (fun d => d.parameters.length) = some 2 := by decide +kernel
set_option maxHeartbeats 4000000 in
set_option maxRecDepth 100000 in
theorem w_X4_ringMark {G : xG} {p : Program} {l : Launch} {e : Env} {s : State} {m : MethodId} {args : Array Value} {below : List Frame} {meth : Method} {c : Code} (C : xK G p s m args meth c cX4_ringMark 5 vsX4_ringMark RX4 (some .long)) (r : Int) (S' : xS) : ∀ k : Nat,
  (∀ (S : xS) (p0 : Nat) (i0 i1 i2 : Int) (H : Heap) (locs : List Loc) (ls : Array Slot), g_X4_ringMark k 0 S p0 i0 i1 i2 = some (r, S') → xI G S s H locs → lv_has ls 5 [(0, .ref (xB G + p0)), (1, .int (iI i0))] → W p l e rm_X4_ringMark s m args below meth c H locs 0 0 (MQ below (xQl G r S') args s 0 0 (xA G)) (F0 m 0 ls [])) ∧
  (∀ (S : xS) (p0 : Nat) (i0 i1 i2 : Int) (H : Heap) (locs : List Loc) (ls : Array Slot), g_X4_ringMark k 1 S p0 i0 i1 i2 = some (r, S') → xI G S s H locs → lv_has ls 5 [(0, .ref (xB G + p0)), (1, .int (iI i0)), (2, .long (lI i1)), (4, .int (iI i2))] → W p l e rm_X4_ringMark s m args below meth c H locs 0 0 (MQ below (xQl G r S') args s 0 0 (xA G)) (F0 m 5 ls [])) := by
  intro k
  induction k with
  | zero => exact ⟨fun _ _ _ _ _ _ _ _ hf => (by cases hf), fun _ _ _ _ _ _ _ _ hf => (by cases hf)⟩
  | succ fu ih =>
    obtain ⟨ih0, ih1⟩ := ih
    refine ⟨?_, ?_⟩
    · intro S p0 i0 i1 i2 H locs ls hf I hl
      replace hf : b_X4_ringMark_0 (g_X4_ringMark fu) fu S p0 i0 i1 i2 = some (r, S') := hf
      unfold b_X4_ringMark_0 at hf
      refine kx_lconst 0 C (z := 0) dX4_ringMark_0 rfl ?_
      refine kx_lstore_n 1 C (lv' := [(2, .long (lI 0)), (0, .ref (xB G + p0)), (1, .int (iI i0))]) dX4_ringMark_1 hl (by decide) rfl rfl (fun ls hl => ?_)
      refine kx_iconst 2 C dX4_ringMark_2 ?_
      refine kx_istore 3 C (lv' := [(4, .int (iI 0)), (2, .long (lI 0)), (0, .ref (xB G + p0)), (1, .int (iI i0))]) dX4_ringMark_3 hl (by decide) rfl rfl (fun ls hl => ?_)
      exact ih1 _ _ _ _ _ _ _ _ hf I (lv_sub hl [2, 3, 1, 0] rfl)
    · intro S p0 i0 i1 i2 H locs ls hf I hl
      replace hf : b_X4_ringMark_1 (g_X4_ringMark fu) fu S p0 i0 i1 i2 = some (r, S') := hf
      unfold b_X4_ringMark_1 at hf
      refine kx_iload 5 C dX4_ringMark_5 (lv_at hl 3 rfl) ?_
      refine kx_iload_n 7 C dX4_ringMark_7 (lv_at hl 1 rfl) ?_
      refine kx_icmp_ge 8 31 C dX4_ringMark_8 (by decide) (fun c1 => ?_) (fun c1 => ?_)
      · have hf := ifp c1 hf
        refine kx_lload_n 31 C dX4_ringMark_31 (lv_at hl 2 rfl) ?_
        exact kx_lret 32 C I hf dX4_ringMark_32
      · have hf := ifn c1 hf
        refine kx_lload_n 11 C dX4_ringMark_11 (lv_at hl 2 rfl) ?_
        refine kx_lconst 12 C (z := 1) dX4_ringMark_12 rfl ?_
        refine kx_iconst 13 C dX4_ringMark_13 ?_
        refine kx_aload_n 14 C dX4_ringMark_14 (lv_at hl 0 rfl) ?_
        refine kx_iload_n 15 C dX4_ringMark_15 (lv_at hl 1 rfl) ?_
        refine kx_iload 16 C dX4_ringMark_16 (lv_at hl 3 rfl) ?_
        obtain ⟨x4, S2, h3, hf⟩ := ob2 hf
        refine kx_callSi 18 C hl I (As := [.ref (xB G + p0), .int (iI i0), .int (iI i2)]) (rest := [.int (iI 4), .long (lI 1), .long (lI i1)]) (c_X4_ringLength G l fu _ _ _ _ _ _ h3) (va_cwS 3 C.ts gX4_ringMark_X4_ringLength rfl rfl rfl nyS_X4_ringLength ⟨Nat.le_of_ble_eq_true rfl, Nat.le_of_ble_eq_true rfl⟩) rfl rfl (Nat.le_of_ble_eq_true rfl) dX4_ringMark_18 ⟨Nat.le_of_ble_eq_true rfl, Nat.le_of_ble_eq_true rfl⟩ (fun H locs I => ?_)
        refine kx_imul 21 C dX4_ringMark_21 ?_
        refine kx_lshl 22 C dX4_ringMark_22 ?_
        refine kx_ladd 23 C dX4_ringMark_23 ?_
        obtain ⟨x5, e6, hf⟩ := nmx_e hf
        refine kx_lstore_n 24 C (lv' := [(2, .long (lI x5)), (0, .ref (xB G + p0)), (1, .int (iI i0)), (4, .int (iI i2))]) dX4_ringMark_24 hl (by decide) e6 rfl (fun ls hl => ?_)
        obtain ⟨x7, e8, hf⟩ := nmx_e hf
        refine kx_iinc 25 C (lv' := [(4, .int (iI x7)), (2, .long (lI x5)), (0, .ref (xB G + p0)), (1, .int (iI i0))]) dX4_ringMark_25 hl 3 rfl e8 (by decide) rfl (fun ls hl => ?_)
        refine kx_goto 28 5 C dX4_ringMark_28 (by decide) ?_
        exact ih1 _ _ _ _ _ _ _ _ hf I (lv_sub hl [2, 3, 1, 0] rfl)
set_option maxHeartbeats 4000000 in
set_option maxRecDepth 100000 in
theorem c_X4_ringMark (G : xG) (l : Launch) (fu : Nat) (S S' : xS) (p0 : Nat) (i0 : Int) (r : Int) (hf : f_X4_ringMark fu S p0 i0 = some (r, S')) : Met l yX4_ringMark vsX4_ringMark rm_X4_ringMark (va_Pc [.ref (xB G + p0), .int (iI i0)] (xPre G S)) (xQl G r S') 0 0 (xA G) := by
  refine kx_met (ret := (some .long)) RX4 [(0, .ref (xB G + p0)), (1, .int (iI i0))] (by decide) rfl rfl (Nat.le_of_ble_eq_true rfl) rfl (fun p e s m below meth c ls C hin I hl => ?_)
  exact (w_X4_ringMark C r S' fu).1 S _ _ _ _ _ _ _ hf I hl
def rm_X4_boxOf : Room := { frames := 0, cells := 0, slots := 0, locals := 0 }
theorem nyS_X4_boxOf : yX4_boxOf.cls ≠ "java/lang/invoke/MethodHandle" ∧ yX4_boxOf.cls ≠ "java/lang/invoke/VarHandle" ∧ (parseMethodDescriptor yX4_boxOf.desc).map (fun d => d.parameters.length) = some 3 := by decide +kernel
set_option maxHeartbeats 4000000 in
set_option maxRecDepth 100000 in
theorem w_X4_boxOf {G : xG} {p : Program} {l : Launch} {e : Env} {s : State} {m : MethodId} {args : Array Value} {below : List Frame} {meth : Method} {c : Code} (C : xK G p s m args meth c cX4_boxOf 4 vsX4_boxOf RX4 (some .int)) (r : Int) (S' : xS) : ∀ k : Nat,
  (∀ (S : xS) (p0 : Nat) (i0 i1 i2 : Int) (H : Heap) (locs : List Loc) (ls : Array Slot), g_X4_boxOf k 0 S p0 i0 i1 i2 = some (r, S') → xI G S s H locs → lv_has ls 4 [(0, .ref (xB G + p0)), (1, .int (iI i0)), (2, .int (iI i1))] → W p l e rm_X4_boxOf s m args below meth c H locs 0 0 (MQ below (xQi G r S') args s 0 0 (xA G)) (F0 m 0 ls [])) ∧
  (∀ (S : xS) (p0 : Nat) (i0 i1 i2 : Int) (H : Heap) (locs : List Loc) (ls : Array Slot), g_X4_boxOf k 1 S p0 i0 i1 i2 = some (r, S') → xI G S s H locs → lv_has ls 4 [(0, .ref (xB G + p0)), (1, .int (iI i0)), (2, .int (iI i1)), (3, .int (iI i2))] → W p l e rm_X4_boxOf s m args below meth c H locs 0 0 (MQ below (xQi G r S') args s 0 0 (xA G)) (F0 m 2 ls [])) := by
  intro k
  induction k with
  | zero => exact ⟨fun _ _ _ _ _ _ _ _ hf => (by cases hf), fun _ _ _ _ _ _ _ _ hf => (by cases hf)⟩
  | succ fu ih =>
    obtain ⟨ih0, ih1⟩ := ih
    refine ⟨?_, ?_⟩
    · intro S p0 i0 i1 i2 H locs ls hf I hl
      replace hf : b_X4_boxOf_0 (g_X4_boxOf fu) fu S p0 i0 i1 i2 = some (r, S') := hf
      unfold b_X4_boxOf_0 at hf
      refine kx_iconst 0 C dX4_boxOf_0 ?_
      refine kx_istore_n 1 C (lv' := [(3, .int (iI 0)), (0, .ref (xB G + p0)), (1, .int (iI i0)), (2, .int (iI i1))]) dX4_boxOf_1 hl (by decide) rfl rfl (fun ls hl => ?_)
      exact ih1 _ _ _ _ _ _ _ _ hf I (lv_sub hl [1, 2, 3, 0] rfl)
    · intro S p0 i0 i1 i2 H locs ls hf I hl
      replace hf : b_X4_boxOf_1 (g_X4_boxOf fu) fu S p0 i0 i1 i2 = some (r, S') := hf
      unfold b_X4_boxOf_1 at hf
      refine kx_iload_n 2 C dX4_boxOf_2 (lv_at hl 3 rfl) ?_
      refine kx_iload_n 3 C dX4_boxOf_3 (lv_at hl 1 rfl) ?_
      refine kx_icmp_ge 4 22 C dX4_boxOf_4 (by decide) (fun c1 => ?_) (fun c1 => ?_)
      · have hf := ifp c1 hf
        refine kx_iconst 22 C dX4_boxOf_22 ?_
        exact kx_iret 23 C I hf dX4_boxOf_23
      · have hf := ifn c1 hf
        refine kx_aload_n 7 C dX4_boxOf_7 (lv_at hl 0 rfl) ?_
        refine kx_iload_n 8 C dX4_boxOf_8 (lv_at hl 3 rfl) ?_
        obtain ⟨x2, h3, hf⟩ := ob hf
        refine kx_iald 9 C I h3 dX4_boxOf_9 ?_
        refine kx_iload_n 10 C dX4_boxOf_10 (lv_at hl 2 rfl) ?_
        refine kx_icmp_ne 11 16 C dX4_boxOf_11 (by decide) (fun c4 => ?_) (fun c4 => ?_)
        · have hf := ifn c4 hf
          obtain ⟨x5, e6, hf⟩ := nmx_e hf
          refine kx_iinc 16 C (lv' := [(3, .int (iI x5)), (0, .ref (xB G + p0)), (1, .int (iI i0)), (2, .int (iI i1))]) dX4_boxOf_16 hl 3 rfl e6 (by decide) rfl (fun ls hl => ?_)
          refine kx_goto 19 2 C dX4_boxOf_19 (by decide) ?_
          exact ih1 _ _ _ _ _ _ _ _ hf I (lv_sub hl [1, 2, 3, 0] rfl)
        · have hf := ifp c4 hf
          refine kx_iload_n 14 C dX4_boxOf_14 (lv_at hl 3 rfl) ?_
          exact kx_iret 15 C I hf dX4_boxOf_15
set_option maxHeartbeats 4000000 in
set_option maxRecDepth 100000 in
theorem c_X4_boxOf (G : xG) (l : Launch) (fu : Nat) (S S' : xS) (p0 : Nat) (i0 : Int) (i1 : Int) (r : Int) (hf : f_X4_boxOf fu S p0 i0 i1 = some (r, S')) : Met l yX4_boxOf vsX4_boxOf rm_X4_boxOf (va_Pc [.ref (xB G + p0), .int (iI i0), .int (iI i1)] (xPre G S)) (xQi G r S') 0 0 (xA G) := by
  refine kx_met (ret := (some .int)) RX4 [(0, .ref (xB G + p0)), (1, .int (iI i0)), (2, .int (iI i1))] (by decide) rfl rfl (Nat.le_of_ble_eq_true rfl) rfl (fun p e s m below meth c ls C hin I hl => ?_)
  exact (w_X4_boxOf C r S' fu).1 S _ _ _ _ _ _ _ hf I hl
def rm_X4_swapsBetween : Room := { frames := 1, cells := 0, slots := 0, locals := 23 }
theorem nyS_X4_swapsBetween : yX4_swapsBetween.cls ≠ "java/lang/invoke/MethodHandle" ∧ yX4_swapsBetween.cls ≠ "java/lang/invoke/VarHandle" ∧ (parseMethodDescriptor yX4_swapsBetween.desc).map (fun d => d.parameters.length) = some 3 := by decide +kernel
set_option maxHeartbeats 4000000 in
set_option maxRecDepth 100000 in
theorem w_X4_swapsBetween {G : xG} {p : Program} {l : Launch} {e : Env} {s : State} {m : MethodId} {args : Array Value} {below : List Frame} {meth : Method} {c : Code} (C : xK G p s m args meth c cX4_swapsBetween 8 vsX4_swapsBetween RX4 (some .int)) (r : Int) (S' : xS) : ∀ k : Nat,
  (∀ (S : xS) (p0 p1 : Nat) (i0 i1 i2 i3 i4 i5 : Int) (H : Heap) (locs : List Loc) (ls : Array Slot), g_X4_swapsBetween k 0 S p0 p1 i0 i1 i2 i3 i4 i5 = some (r, S') → xI G S s H locs → lv_has ls 8 [(0, .ref (xB G + p0)), (1, .ref (xB G + p1)), (2, .int (iI i0))] → W p l e rm_X4_swapsBetween s m args below meth c H locs 0 0 (MQ below (xQi G r S') args s 0 0 (xA G)) (F0 m 0 ls [])) ∧
  (∀ (S : xS) (p0 p1 : Nat) (i0 i1 i2 i3 i4 i5 : Int) (H : Heap) (locs : List Loc) (ls : Array Slot), g_X4_swapsBetween k 1 S p0 p1 i0 i1 i2 i3 i4 i5 = some (r, S') → xI G S s H locs → lv_has ls 8 [(0, .ref (xB G + p0)), (1, .ref (xB G + p1)), (2, .int (iI i0)), (3, .int (iI i1)), (4, .int (iI i2)), (5, .int (iI i3))] → W p l e rm_X4_swapsBetween s m args below meth c H locs 0 0 (MQ below (xQi G r S') args s 0 0 (xA G)) (F0 m 8 ls [])) ∧
  (∀ (S : xS) (p0 p1 : Nat) (i0 i1 i2 i3 i4 i5 : Int) (H : Heap) (locs : List Loc) (ls : Array Slot), g_X4_swapsBetween k 2 S p0 p1 i0 i1 i2 i3 i4 i5 = some (r, S') → xI G S s H locs → lv_has ls 8 [(0, .ref (xB G + p0)), (1, .ref (xB G + p1)), (2, .int (iI i0)), (3, .int (iI i1)), (4, .int (iI i2)), (5, .int (iI i3)), (6, .int (iI i4)), (7, .int (iI i5))] → W p l e rm_X4_swapsBetween s m args below meth c H locs 0 0 (MQ below (xQi G r S') args s 0 0 (xA G)) (F0 m 33 ls [])) ∧
  (∀ (S : xS) (p0 p1 : Nat) (i0 i1 i2 i3 i4 i5 : Int) (H : Heap) (locs : List Loc) (ls : Array Slot), g_X4_swapsBetween k 3 S p0 p1 i0 i1 i2 i3 i4 i5 = some (r, S') → xI G S s H locs → lv_has ls 8 [(0, .ref (xB G + p0)), (1, .ref (xB G + p1)), (2, .int (iI i0)), (3, .int (iI i1)), (4, .int (iI i2)), (5, .int (iI i3))] → W p l e rm_X4_swapsBetween s m args below meth c H locs 0 0 (MQ below (xQi G r S') args s 0 0 (xA G)) (F0 m 63 ls [])) := by
  intro k
  induction k with
  | zero => exact ⟨fun _ _ _ _ _ _ _ _ _ _ _ _ hf => (by cases hf), fun _ _ _ _ _ _ _ _ _ _ _ _ hf => (by cases hf), fun _ _ _ _ _ _ _ _ _ _ _ _ hf => (by cases hf), fun _ _ _ _ _ _ _ _ _ _ _ _ hf => (by cases hf)⟩
  | succ fu ih =>
    obtain ⟨ih0, ih1, ih2, ih3⟩ := ih
    refine ⟨?_, ?_, ?_, ?_⟩
    · intro S p0 p1 i0 i1 i2 i3 i4 i5 H locs ls hf I hl
      replace hf : b_X4_swapsBetween_0 (g_X4_swapsBetween fu) fu S p0 p1 i0 i1 i2 i3 i4 i5 = some (r, S') := hf
      unfold b_X4_swapsBetween_0 at hf
      refine kx_iconst 0 C dX4_swapsBetween_0 ?_
      refine kx_istore_n 1 C (lv' := [(3, .int (iI 0)), (0, .ref (xB G + p0)), (1, .ref (xB G + p1)), (2, .int (iI i0))]) dX4_swapsBetween_1 hl (by decide) rfl rfl (fun ls hl => ?_)
      refine kx_iconst 2 C dX4_swapsBetween_2 ?_
      refine kx_istore 3 C (lv' := [(4, .int (iI 0)), (3, .int (iI 0)), (0, .ref (xB G + p0)), (1, .ref (xB G + p1)), (2, .int (iI i0))]) dX4_swapsBetween_3 hl (by decide) rfl rfl (fun ls hl => ?_)
      refine kx_iconst 5 C dX4_swapsBetween_5 ?_
      refine kx_istore 6 C (lv' := [(5, .int (iI 0)), (4, .int (iI 0)), (3, .int (iI 0)), (0, .ref (xB G + p0)), (1, .ref (xB G + p1)), (2, .int (iI i0))]) dX4_swapsBetween_6 hl (by decide) rfl rfl (fun ls hl => ?_)
      exact ih1 _ _ _ _ _ _ _ _ _ _ _ _ hf I (lv_sub hl [3, 4, 5, 2, 1, 0] rfl)
    · intro S p0 p1 i0 i1 i2 i3 i4 i5 H locs ls hf I hl
      replace hf : b_X4_swapsBetween_1 (g_X4_swapsBetween fu) fu S p0 p1 i0 i1 i2 i3 i4 i5 = some (r, S') := hf
      unfold b_X4_swapsBetween_1 at hf
      refine kx_iload 8 C dX4_swapsBetween_8 (lv_at hl 5 rfl) ?_
      refine kx_iload_n 10 C dX4_swapsBetween_10 (lv_at hl 2 rfl) ?_
      refine kx_icmp_ge 11 69 C dX4_swapsBetween_11 (by decide) (fun c1 => ?_) (fun c1 => ?_)
      · have hf := ifp c1 hf
        refine kx_iload_n 69 C dX4_swapsBetween_69 (lv_at hl 2 rfl) ?_
        refine kx_iload 70 C dX4_swapsBetween_70 (lv_at hl 4 rfl) ?_
        refine kx_isub 72 C dX4_swapsBetween_72 ?_
        exact kx_iret 73 C I hf dX4_swapsBetween_73
      · have hf := ifn c1 hf
        refine kx_iload_n 14 C dX4_swapsBetween_14 (lv_at hl 3 rfl) ?_
        refine kx_iload 15 C dX4_swapsBetween_15 (lv_at hl 5 rfl) ?_
        refine kx_ishr 17 C dX4_swapsBetween_17 ?_
        refine kx_iconst 18 C dX4_swapsBetween_18 ?_
        refine kx_iand 19 C dX4_swapsBetween_19 ?_
        refine kx_if_ne 20 63 C dX4_swapsBetween_20 (by decide) (fun c2 => ?_) (fun c2 => ?_)
        · have hf := ifn c2 hf
          exact ih3 _ _ _ _ _ _ _ _ _ _ _ _ hf I (lv_sub hl [0, 1, 2, 3, 4, 5] rfl)
        · have hf := ifp c2 hf
          obtain ⟨x3, e4, hf⟩ := nmx_e hf
          refine kx_iinc 23 C (lv' := [(4, .int (iI x3)), (0, .ref (xB G + p0)), (1, .ref (xB G + p1)), (2, .int (iI i0)), (3, .int (iI i1)), (5, .int (iI i3))]) dX4_swapsBetween_23 hl 4 rfl e4 (by decide) rfl (fun ls hl => ?_)
          refine kx_iload 26 C dX4_swapsBetween_26 (lv_at hl 5 rfl) ?_
          refine kx_istore 28 C (lv' := [(6, .int (iI i3)), (4, .int (iI x3)), (0, .ref (xB G + p0)), (1, .ref (xB G + p1)), (2, .int (iI i0)), (3, .int (iI i1)), (5, .int (iI i3))]) dX4_swapsBetween_28 hl (by decide) rfl rfl (fun ls hl => ?_)
          refine kx_iconst 30 C dX4_swapsBetween_30 ?_
          refine kx_istore 31 C (lv' := [(7, .int (iI 0)), (6, .int (iI i3)), (4, .int (iI x3)), (0, .ref (xB G + p0)), (1, .ref (xB G + p1)), (2, .int (iI i0)), (3, .int (iI i1)), (5, .int (iI i3))]) dX4_swapsBetween_31 hl (by decide) rfl rfl (fun ls hl => ?_)
          exact ih2 _ _ _ _ _ _ _ _ _ _ _ _ hf I (lv_sub hl [3, 4, 5, 6, 2, 7, 1, 0] rfl)
    · intro S p0 p1 i0 i1 i2 i3 i4 i5 H locs ls hf I hl
      replace hf : b_X4_swapsBetween_2 (g_X4_swapsBetween fu) fu S p0 p1 i0 i1 i2 i3 i4 i5 = some (r, S') := hf
      unfold b_X4_swapsBetween_2 at hf
      refine kx_iload 33 C dX4_swapsBetween_33 (lv_at hl 7 rfl) ?_
      refine kx_iload_n 35 C dX4_swapsBetween_35 (lv_at hl 2 rfl) ?_
      refine kx_icmp_ge 36 63 C dX4_swapsBetween_36 (by decide) (fun c5 => ?_) (fun c5 => ?_)
      · have hf := ifp c5 hf
        exact ih3 _ _ _ _ _ _ _ _ _ _ _ _ hf I (lv_sub hl [0, 1, 2, 3, 4, 5] rfl)
      · have hf := ifn c5 hf
        refine kx_iload_n 39 C dX4_swapsBetween_39 (lv_at hl 3 rfl) ?_
        refine kx_iconst 40 C dX4_swapsBetween_40 ?_
        refine kx_iload 41 C dX4_swapsBetween_41 (lv_at hl 6 rfl) ?_
        refine kx_ishl 43 C dX4_swapsBetween_43 ?_
        refine kx_ior 44 C dX4_swapsBetween_44 ?_
        obtain ⟨x6, e7, hf⟩ := nmx_e hf
        refine kx_istore_n 45 C (lv' := [(3, .int (iI x6)), (0, .ref (xB G + p0)), (1, .ref (xB G + p1)), (2, .int (iI i0)), (4, .int (iI i2)), (5, .int (iI i3)), (6, .int (iI i4)), (7, .int (iI i5))]) dX4_swapsBetween_45 hl (by decide) e7 rfl (fun ls hl => ?_)
        refine kx_aload_n 46 C dX4_swapsBetween_46 (lv_at hl 1 rfl) ?_
        refine kx_iload_n 47 C dX4_swapsBetween_47 (lv_at hl 3 rfl) ?_
        refine kx_aload_n 48 C dX4_swapsBetween_48 (lv_at hl 2 rfl) ?_
        refine kx_iload 49 C dX4_swapsBetween_49 (lv_at hl 6 rfl) ?_
        obtain ⟨x8, h9, hf⟩ := ob hf
        refine kx_iald 51 C I h9 dX4_swapsBetween_51 ?_
        obtain ⟨x12, S10, h11, hf⟩ := ob2 hf
        refine kx_callSi 52 C hl I (As := [.ref (xB G + p0), .int (iI i0), .int (iI x8)]) (rest := []) (c_X4_boxOf G l fu _ _ _ _ _ _ h11) (va_cwS 3 C.ts gX4_swapsBetween_X4_boxOf rfl rfl rfl nyS_X4_boxOf ⟨Nat.le_of_ble_eq_true rfl, Nat.le_of_ble_eq_true rfl⟩) rfl rfl (Nat.le_of_ble_eq_true rfl) dX4_swapsBetween_52 ⟨Nat.le_of_ble_eq_true rfl, Nat.le_of_ble_eq_true rfl⟩ (fun H locs I => ?_)
        refine kx_istore 55 C (lv' := [(6, .int (iI x12)), (3, .int (iI x6)), (0, .ref (xB G + p0)), (1, .ref (xB G + p1)), (2, .int (iI i0)), (4, .int (iI i2)), (5, .int (iI i3)), (7, .int (iI i5))]) dX4_swapsBetween_55 hl (by decide) rfl rfl (fun ls hl => ?_)
        obtain ⟨x13, e14, hf⟩ := nmx_e hf
        refine kx_iinc 57 C (lv' := [(7, .int (iI x13)), (6, .int (iI x12)), (3, .int (iI x6)), (0, .ref (xB G + p0)), (1, .ref (xB G + p1)), (2, .int (iI i0)), (4, .int (iI i2)), (5, .int (iI i3))]) dX4_swapsBetween_57 hl 7 rfl e14 (by decide) rfl (fun ls hl => ?_)
        refine kx_goto 60 33 C dX4_swapsBetween_60 (by decide) ?_
        exact ih2 _ _ _ _ _ _ _ _ _ _ _ _ hf I (lv_sub hl [3, 4, 5, 2, 6, 7, 1, 0] rfl)
    · intro S p0 p1 i0 i1 i2 i3 i4 i5 H locs ls hf I hl
      replace hf : b_X4_swapsBetween_3 (g_X4_swapsBetween fu) fu S p0 p1 i0 i1 i2 i3 i4 i5 = some (r, S') := hf
      unfold b_X4_swapsBetween_3 at hf
      obtain ⟨x15, e16, hf⟩ := nmx_e hf
      refine kx_iinc 63 C (lv' := [(5, .int (iI x15)), (0, .ref (xB G + p0)), (1, .ref (xB G + p1)), (2, .int (iI i0)), (3, .int (iI i1)), (4, .int (iI i2))]) dX4_swapsBetween_63 hl 5 rfl e16 (by decide) rfl (fun ls hl => ?_)
      refine kx_goto 66 8 C dX4_swapsBetween_66 (by decide) ?_
      exact ih1 _ _ _ _ _ _ _ _ _ _ _ _ hf I (lv_sub hl [1, 2, 3, 4, 5, 0] rfl)
set_option maxHeartbeats 4000000 in
set_option maxRecDepth 100000 in
theorem c_X4_swapsBetween (G : xG) (l : Launch) (fu : Nat) (S S' : xS) (p0 : Nat) (p1 : Nat) (i0 : Int) (r : Int) (hf : f_X4_swapsBetween fu S p0 p1 i0 = some (r, S')) : Met l yX4_swapsBetween vsX4_swapsBetween rm_X4_swapsBetween (va_Pc [.ref (xB G + p0), .ref (xB G + p1), .int (iI i0)] (xPre G S)) (xQi G r S') 0 0 (xA G) := by
  refine kx_met (ret := (some .int)) RX4 [(0, .ref (xB G + p0)), (1, .ref (xB G + p1)), (2, .int (iI i0))] (by decide) rfl rfl (Nat.le_of_ble_eq_true rfl) rfl (fun p e s m below meth c ls C hin I hl => ?_)
  exact (w_X4_swapsBetween C r S' fu).1 S _ _ _ _ _ _ _ _ _ _ _ hf I hl
