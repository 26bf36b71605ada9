noncomputable section
variable {p : Program} {l : Launch} {e : Env} {s : State} {m : MethodId} {args : Array Value} {below : List Frame} {meth : Method} {c : Code} {K : Kt}
abbrev rmX6_count : Room := { frames := 1, cells := 0, slots := 0, locals := 22 }
def P_X6_count_L81 : Nat → Nat → Int32 → Int32 → Hp → Option (Int32 × Hp)
  | 0, _, _, _, _ => none
  | n + 1, q4, v6, v7, h1 =>
    gr h1 q4 6 1 fun q5 =>
    al h1 q5 0 fun v8 =>
    if v8 ≤ v7 then (
    some (v6, h1))
    else (
    gr h1 q4 6 1 fun q6 =>
    al h1 q6 (4 + v7) fun v9 =>
    if v9 = 0 then (
    lt ((v6 + 0) : Int32) fun v12 =>
    lt ((v7 + 1) : Int32) fun v13 =>
    P_X6_count_L81 n q4 v12 v13 h1)
    else (
    lt ((v6 + 1) : Int32) fun v10 =>
    lt ((v7 + 1) : Int32) fun v11 =>
    P_X6_count_L81 n q4 v10 v11 h1))

def P_X6_count (p0 : Nat) (a1 : Int32) (h0 : Hp) : Option (Int32 × Hp) :=
    if a1 ≤ 10 then (
    lt (0 : Int32) fun v1 =>
    if a1 = 0 then (
    gr h0 p0 6 1 fun q1 =>
    al h0 q1 a1 fun v2 =>
    some (v2, h0))
    else if a1 = 1 then (
    gr h0 p0 6 1 fun q2 =>
    al h0 q2 a1 fun v3 =>
    some (v3, h0))
    else if a1 = 2 then (
    gr h0 p0 6 1 fun q3 =>
    al h0 q3 a1 fun v4 =>
    some (v4, h0))
    else if a1 = 3 then (
    lt (0 : Int32) fun v5 =>
    P_X6_count_L81 FU p0 v1 v5 h0)
    else if a1 = 4 then (
    rc h0 p0 6 <| ci (P_X6_stuck p0 h0) fun v14 h2 =>
    some (v14, h2))
    else if a1 = 5 then (
    gr h0 p0 6 1 fun q7 =>
    al h0 q7 3 fun v15 =>
    some (v15, h0))
    else if a1 = 6 then (
    gi h0 p0 6 7 fun v16 =>
    some (v16, h0))
    else if a1 = 7 then (
    gr h0 p0 6 1 fun q8 =>
    al h0 q8 78 fun v17 =>
    some (v17, h0))
    else (
    some ((-9), h0)))
    else (
    if 17 ≤ a1 then (
    lt (0 : Int32) fun v18 =>
    if a1 = 0 then (
    gr h0 p0 6 1 fun q9 =>
    al h0 q9 a1 fun v19 =>
    some (v19, h0))
    else if a1 = 1 then (
    gr h0 p0 6 1 fun q10 =>
    al h0 q10 a1 fun v20 =>
    some (v20, h0))
    else if a1 = 2 then (
    gr h0 p0 6 1 fun q11 =>
    al h0 q11 a1 fun v21 =>
    some (v21, h0))
    else if a1 = 3 then (
    lt (0 : Int32) fun v22 =>
    P_X6_count_L81 FU p0 v18 v22 h0)
    else if a1 = 4 then (
    rc h0 p0 6 <| ci (P_X6_stuck p0 h0) fun v23 h3 =>
    some (v23, h3))
    else if a1 = 5 then (
    gr h0 p0 6 1 fun q12 =>
    al h0 q12 3 fun v24 =>
    some (v24, h0))
    else if a1 = 6 then (
    gi h0 p0 6 7 fun v25 =>
    some (v25, h0))
    else if a1 = 7 then (
    gr h0 p0 6 1 fun q13 =>
    al h0 q13 78 fun v26 =>
    some (v26, h0))
    else (
    some ((-9), h0)))
    else (
    gr h0 p0 6 0 fun q14 =>
    al h0 q14 (a1 - 10) fun v27 =>
    some (v27, h0)))

set_option maxHeartbeats 4000000 in
set_option maxRecDepth 100000 in
theorem wl_X6_count_L81 (C : CX K p m c cX6_count 4 s args RX6) (hr : meth.sig.returnType = (some FieldType.int)) (hlk : meth.locks = false) {r : Int32} {h' : Hp} : ∀ (n : Nat) (q4 : Nat) (v6 : Int32) (v7 : Int32) (h1 : Hp) (H : Heap) (locs : List Loc) (ls : Array Slot), HX K s.heap H locs h1 → lv_has ls 4 [(0, .ref (K.1 + q4)), (2, .int v6), (3, .int v7)] → P_X6_count_L81 n q4 v6 v7 h1 = some (r, h') → W p l e rmX6_count s m args below meth c H locs 0 0 (MQ below (Qi K r h') args s rmX6_count.cells rmX6_count.slots (KA K)) (F0 m 81 ls []) := by
  intro n
  induction n with
  | zero =>
    intro  q4 v6 v7 h1 H locs ls X hl hp
    cases hp
  | succ n ih =>
    intro  q4 v6 v7 h1 H locs ls X hl hp
    unfold P_X6_count_L81 at hp
    refine lv_iload_n C.1 C.2.1 dX6_count_81 rfl (lv_at hl 2 rfl) ?_
    refine lv_aload_n C.1 C.2.1 dX6_count_82 rfl (lv_at hl 0 rfl) ?_
    refine w_gr C X fX6_13 rfl dX6_count_83 hp (fun q5 hp => ?_)
    refine lv_iconst (v := 0) C.1 C.2.1 dX6_count_86 (by decide) ?_
    refine w_al C X dX6_count_87 hp (fun v8 hp => ?_)
    refine lv_icmp_ge (tgt := 116) C.1 C.2.1 dX6_count_88 (by decide) (fun c6 => ?_) (fun c6 => ?_)
    · have hp := if_p _ c6 hp
      refine lv_iload_n C.1 C.2.1 dX6_count_116 rfl (lv_at hl 1 rfl) ?_
      exact w_reti C X hr hlk (by decide) dX6_count_117 hp
    · have hp := if_n _ c6 hp
      refine lv_iload_n C.1 C.2.1 dX6_count_91 rfl (lv_at hl 1 rfl) ?_
      refine lv_aload_n C.1 C.2.1 dX6_count_92 rfl (lv_at hl 0 rfl) ?_
      refine w_gr C X fX6_13 rfl dX6_count_93 hp (fun q6 hp => ?_)
      refine lv_iconst (v := 4) C.1 C.2.1 dX6_count_96 (by decide) ?_
      refine lv_iload_n C.1 C.2.1 dX6_count_97 rfl (lv_at hl 2 rfl) ?_
      refine lv_iadd C.1 C.2.1 dX6_count_98 ?_
      refine w_al C X dX6_count_99 hp (fun v9 hp => ?_)
      refine lv_if_ne (tgt := 107) C.1 C.2.1 dX6_count_100 (by decide) (fun c7 => ?_) (fun c7 => ?_)
      · have hp := if_n _ c7 hp
        refine lv_iconst (v := 1) C.1 C.2.1 dX6_count_107 (by decide) ?_
        refine lv_iadd C.1 C.2.1 dX6_count_108 ?_
        refine w_istn C (fun v => [(2, .int (v)), (0, .ref (K.1 + q4)), (3, .int v7)]) dX6_count_109 rfl hl (by decide) (fun _ => rfl) hp (fun v10 ls hl hp => ?_)
        refine w_inc (k := 2) C (fun v => [(3, .int (v)), (2, .int v10), (0, .ref (K.1 + q4))]) dX6_count_110 hl rfl (y := (v7 + 1)) rfl (by decide) (fun _ => rfl) hp (fun v11 ls hl hp => ?_)
        refine lv_goto (tgt := 81) C.1 C.2.1 dX6_count_113 (by decide) ?_
        exact ih _ _ _ _ _ _ _ X (lv_sub hl [2, 1, 0] rfl) hp
      · have hp := if_p _ c7 hp
        refine lv_iconst (v := 0) C.1 C.2.1 dX6_count_103 (by decide) ?_
        refine lv_goto (tgt := 108) C.1 C.2.1 dX6_count_104 (by decide) ?_
        refine lv_iadd C.1 C.2.1 dX6_count_108 ?_
        refine w_istn C (fun v => [(2, .int (v)), (0, .ref (K.1 + q4)), (3, .int v7)]) dX6_count_109 rfl hl (by decide) (fun _ => rfl) hp (fun v12 ls hl hp => ?_)
        refine w_inc (k := 2) C (fun v => [(3, .int (v)), (2, .int v12), (0, .ref (K.1 + q4))]) dX6_count_110 hl rfl (y := (v7 + 1)) rfl (by decide) (fun _ => rfl) hp (fun v13 ls hl hp => ?_)
        refine lv_goto (tgt := 81) C.1 C.2.1 dX6_count_113 (by decide) ?_
        exact ih _ _ _ _ _ _ _ X (lv_sub hl [2, 1, 0] rfl) hp

set_option maxHeartbeats 4000000 in
set_option maxRecDepth 100000 in
theorem ct_X6_count (l : Launch) (K : Kt) (p0 : Nat) (a1 : Int32) (h0 : Hp) {r : Int32} {h' : Hp} (hp : P_X6_count p0 a1 h0 = some (r, h')) : CT l K yX6_count cX6_count 4 (some FieldType.int) rmX6_count [.ref (K.1 + p0), .int a1] h0 (Qi K r h') := by
  refine ct_of (own := RX6) (by decide +kernel) rfl (Nat.le_of_ble_eq_true rfl) ?_
  intro p e s m args below meth c C X hr hlk hm ls hl
  have hl : lv_has ls 4 [(0, .ref (K.1 + p0)), (1, .int a1)] := hl
  unfold P_X6_count at hp
  refine lv_iload_n C.1 C.2.1 dX6_count_0 rfl (lv_at hl 1 rfl) ?_
  refine lv_bipush (v := 10) C.1 C.2.1 dX6_count_1 (by decide) ?_
  refine lv_icmp_le (tgt := 22) C.1 C.2.1 dX6_count_3 (by decide) (fun c1 => ?_) (fun c1 => ?_)
  · have hp := if_p _ c1 hp
    refine lv_iconst (v := 0) C.1 C.2.1 dX6_count_22 (by decide) ?_
    refine w_istn C (fun v => [(2, .int (v)), (0, .ref (K.1 + p0)), (1, .int a1)]) dX6_count_23 rfl hl (by decide) (fun _ => rfl) hp (fun v1 ls hl hp => ?_)
    refine lv_iload_n C.1 C.2.1 dX6_count_24 rfl (lv_at hl 2 rfl) ?_
    by_cases c2 : a1 = 0
    · have hp := if_p _ c2 hp
      refine w_tsC (tgt := 72) C dX6_count_25 c2 (by decide) (by decide) rfl (by decide) ?_
      refine lv_aload_n C.1 C.2.1 dX6_count_72 rfl (lv_at hl 1 rfl) ?_
      refine w_gr C X fX6_13 rfl dX6_count_73 hp (fun q1 hp => ?_)
      refine lv_iload_n C.1 C.2.1 dX6_count_76 rfl (lv_at hl 2 rfl) ?_
      refine w_al C X dX6_count_77 hp (fun v2 hp => ?_)
      exact w_reti C X hr hlk (by decide) dX6_count_78 hp
    · have hp := if_n _ c2 hp
      by_cases c3 : a1 = 1
      · have hp := if_p _ c3 hp
        refine w_tsC (tgt := 72) C dX6_count_25 c3 (by decide) (by decide) rfl (by decide) ?_
        refine lv_aload_n C.1 C.2.1 dX6_count_72 rfl (lv_at hl 1 rfl) ?_
        refine w_gr C X fX6_13 rfl dX6_count_73 hp (fun q2 hp => ?_)
        refine lv_iload_n C.1 C.2.1 dX6_count_76 rfl (lv_at hl 2 rfl) ?_
        refine w_al C X dX6_count_77 hp (fun v3 hp => ?_)
        exact w_reti C X hr hlk (by decide) dX6_count_78 hp
      · have hp := if_n _ c3 hp
        by_cases c4 : a1 = 2
        · have hp := if_p _ c4 hp
          refine w_tsC (tgt := 72) C dX6_count_25 c4 (by decide) (by decide) rfl (by decide) ?_
          refine lv_aload_n C.1 C.2.1 dX6_count_72 rfl (lv_at hl 1 rfl) ?_
          refine w_gr C X fX6_13 rfl dX6_count_73 hp (fun q3 hp => ?_)
          refine lv_iload_n C.1 C.2.1 dX6_count_76 rfl (lv_at hl 2 rfl) ?_
          refine w_al C X dX6_count_77 hp (fun v4 hp => ?_)
          exact w_reti C X hr hlk (by decide) dX6_count_78 hp
        · have hp := if_n _ c4 hp
          by_cases c5 : a1 = 3
          · have hp := if_p _ c5 hp
            refine w_tsC (tgt := 79) C dX6_count_25 c5 (by decide) (by decide) rfl (by decide) ?_
            refine lv_iconst (v := 0) C.1 C.2.1 dX6_count_79 (by decide) ?_
            refine w_istn C (fun v => [(3, .int (v)), (2, .int v1), (0, .ref (K.1 + p0)), (1, .int a1)]) dX6_count_80 rfl hl (by decide) (fun _ => rfl) hp (fun v5 ls hl hp => ?_)
            exact wl_X6_count_L81 C hr hlk _ _ _ _ _ _ _ _ X (lv_sub hl [2, 1, 0] rfl) hp
          · have hp := if_n _ c5 hp
            by_cases c8 : a1 = 4
            · have hp := if_p _ c8 hp
              refine w_tsC (tgt := 118) C dX6_count_25 c8 (by decide) (by decide) rfl (by decide) ?_
              refine lv_aload_n C.1 C.2.1 dX6_count_118 rfl (lv_at hl 1 rfl) ?_
              have hrc := (rc_some hp).1
              have hp := (rc_some hp).2
              refine w_ci (cells' := 0) (slots' := 0) X (fun _ _ e => run_V (As := []) (c0 := 6) C X mX6_stuck miX6_stuck lX6_183 (by decide) rfl hrc (ct_X6_stuck l K p0 h0 e) (by decide) (by decide) rfl (by decide) rfl hl.1 dX6_count_119) (by decide) hp (fun v14 h2 H locs X hp => ?_)
              exact w_reti C X hr hlk (by decide) dX6_count_122 hp
            · have hp := if_n _ c8 hp
              by_cases c9 : a1 = 5
              · have hp := if_p _ c9 hp
                refine w_tsC (tgt := 123) C dX6_count_25 c9 (by decide) (by decide) rfl (by decide) ?_
                refine lv_aload_n C.1 C.2.1 dX6_count_123 rfl (lv_at hl 1 rfl) ?_
                refine w_gr C X fX6_13 rfl dX6_count_124 hp (fun q7 hp => ?_)
                refine lv_iconst (v := 3) C.1 C.2.1 dX6_count_127 (by decide) ?_
                refine w_al C X dX6_count_128 hp (fun v15 hp => ?_)
                exact w_reti C X hr hlk (by decide) dX6_count_129 hp
              · have hp := if_n _ c9 hp
                by_cases c10 : a1 = 6
                · have hp := if_p _ c10 hp
                  refine w_tsC (tgt := 130) C dX6_count_25 c10 (by decide) (by decide) rfl (by decide) ?_
                  refine lv_aload_n C.1 C.2.1 dX6_count_130 rfl (lv_at hl 1 rfl) ?_
                  refine w_gi C X fX6_48 rfl dX6_count_131 hp (fun v16 hp => ?_)
                  exact w_reti C X hr hlk (by decide) dX6_count_134 hp
                · have hp := if_n _ c10 hp
                  by_cases c11 : a1 = 7
                  · have hp := if_p _ c11 hp
                    refine w_tsC (tgt := 135) C dX6_count_25 c11 (by decide) (by decide) rfl (by decide) ?_
                    refine lv_aload_n C.1 C.2.1 dX6_count_135 rfl (lv_at hl 1 rfl) ?_
                    refine w_gr C X fX6_13 rfl dX6_count_136 hp (fun q8 hp => ?_)
                    refine lv_bipush (v := 78) C.1 C.2.1 dX6_count_139 (by decide) ?_
                    refine w_al C X dX6_count_141 hp (fun v17 hp => ?_)
                    exact w_reti C X hr hlk (by decide) dX6_count_142 hp
                  · have hp := if_n _ c11 hp
                    refine w_tsD (tgt := 143) C [0, 1, 2, 3, 4, 5, 6, 7] dX6_count_25 (by intro k hk; simp only [List.mem_cons, List.not_mem_nil, or_false] at hk; rcases hk with hk | hk | hk | hk | hk | hk | hk | hk <;> subst hk <;> assumption) (by decide) (by decide) (by decide) ?_
                    refine lv_bipush (v := -9) C.1 C.2.1 dX6_count_143 (by decide) ?_
                    exact w_reti C X hr hlk (by decide) dX6_count_145 hp
  · have hp := if_n _ c1 hp
    refine lv_iload_n C.1 C.2.1 dX6_count_6 rfl (lv_at hl 1 rfl) ?_
    refine lv_bipush (v := 17) C.1 C.2.1 dX6_count_7 (by decide) ?_
    refine lv_icmp_ge (tgt := 22) C.1 C.2.1 dX6_count_9 (by decide) (fun c12 => ?_) (fun c12 => ?_)
    · have hp := if_p _ c12 hp
      refine lv_iconst (v := 0) C.1 C.2.1 dX6_count_22 (by decide) ?_
      refine w_istn C (fun v => [(2, .int (v)), (0, .ref (K.1 + p0)), (1, .int a1)]) dX6_count_23 rfl hl (by decide) (fun _ => rfl) hp (fun v18 ls hl hp => ?_)
      refine lv_iload_n C.1 C.2.1 dX6_count_24 rfl (lv_at hl 2 rfl) ?_
      by_cases c13 : a1 = 0
      · have hp := if_p _ c13 hp
        refine w_tsC (tgt := 72) C dX6_count_25 c13 (by decide) (by decide) rfl (by decide) ?_
        refine lv_aload_n C.1 C.2.1 dX6_count_72 rfl (lv_at hl 1 rfl) ?_
        refine w_gr C X fX6_13 rfl dX6_count_73 hp (fun q9 hp => ?_)
        refine lv_iload_n C.1 C.2.1 dX6_count_76 rfl (lv_at hl 2 rfl) ?_
        refine w_al C X dX6_count_77 hp (fun v19 hp => ?_)
        exact w_reti C X hr hlk (by decide) dX6_count_78 hp
      · have hp := if_n _ c13 hp
        by_cases c14 : a1 = 1
        · have hp := if_p _ c14 hp
          refine w_tsC (tgt := 72) C dX6_count_25 c14 (by decide) (by decide) rfl (by decide) ?_
          refine lv_aload_n C.1 C.2.1 dX6_count_72 rfl (lv_at hl 1 rfl) ?_
          refine w_gr C X fX6_13 rfl dX6_count_73 hp (fun q10 hp => ?_)
          refine lv_iload_n C.1 C.2.1 dX6_count_76 rfl (lv_at hl 2 rfl) ?_
          refine w_al C X dX6_count_77 hp (fun v20 hp => ?_)
          exact w_reti C X hr hlk (by decide) dX6_count_78 hp
        · have hp := if_n _ c14 hp
          by_cases c15 : a1 = 2
          · have hp := if_p _ c15 hp
            refine w_tsC (tgt := 72) C dX6_count_25 c15 (by decide) (by decide) rfl (by decide) ?_
            refine lv_aload_n C.1 C.2.1 dX6_count_72 rfl (lv_at hl 1 rfl) ?_
            refine w_gr C X fX6_13 rfl dX6_count_73 hp (fun q11 hp => ?_)
            refine lv_iload_n C.1 C.2.1 dX6_count_76 rfl (lv_at hl 2 rfl) ?_
            refine w_al C X dX6_count_77 hp (fun v21 hp => ?_)
            exact w_reti C X hr hlk (by decide) dX6_count_78 hp
          · have hp := if_n _ c15 hp
            by_cases c16 : a1 = 3
            · have hp := if_p _ c16 hp
              refine w_tsC (tgt := 79) C dX6_count_25 c16 (by decide) (by decide) rfl (by decide) ?_
              refine lv_iconst (v := 0) C.1 C.2.1 dX6_count_79 (by decide) ?_
              refine w_istn C (fun v => [(3, .int (v)), (2, .int v18), (0, .ref (K.1 + p0)), (1, .int a1)]) dX6_count_80 rfl hl (by decide) (fun _ => rfl) hp (fun v22 ls hl hp => ?_)
              exact wl_X6_count_L81 C hr hlk _ _ _ _ _ _ _ _ X (lv_sub hl [2, 1, 0] rfl) hp
            · have hp := if_n _ c16 hp
              by_cases c17 : a1 = 4
              · have hp := if_p _ c17 hp
                refine w_tsC (tgt := 118) C dX6_count_25 c17 (by decide) (by decide) rfl (by decide) ?_
                refine lv_aload_n C.1 C.2.1 dX6_count_118 rfl (lv_at hl 1 rfl) ?_
                have hrc := (rc_some hp).1
                have hp := (rc_some hp).2
                refine w_ci (cells' := 0) (slots' := 0) X (fun _ _ e => run_V (As := []) (c0 := 6) C X mX6_stuck miX6_stuck lX6_183 (by decide) rfl hrc (ct_X6_stuck l K p0 h0 e) (by decide) (by decide) rfl (by decide) rfl hl.1 dX6_count_119) (by decide) hp (fun v23 h3 H locs X hp => ?_)
                exact w_reti C X hr hlk (by decide) dX6_count_122 hp
              · have hp := if_n _ c17 hp
                by_cases c18 : a1 = 5
                · have hp := if_p _ c18 hp
                  refine w_tsC (tgt := 123) C dX6_count_25 c18 (by decide) (by decide) rfl (by decide) ?_
                  refine lv_aload_n C.1 C.2.1 dX6_count_123 rfl (lv_at hl 1 rfl) ?_
                  refine w_gr C X fX6_13 rfl dX6_count_124 hp (fun q12 hp => ?_)
                  refine lv_iconst (v := 3) C.1 C.2.1 dX6_count_127 (by decide) ?_
                  refine w_al C X dX6_count_128 hp (fun v24 hp => ?_)
                  exact w_reti C X hr hlk (by decide) dX6_count_129 hp
                · have hp := if_n _ c18 hp
                  by_cases c19 : a1 = 6
                  · have hp := if_p _ c19 hp
                    refine w_tsC (tgt := 130) C dX6_count_25 c19 (by decide) (by decide) rfl (by decide) ?_
                    refine lv_aload_n C.1 C.2.1 dX6_count_130 rfl (lv_at hl 1 rfl) ?_
                    refine w_gi C X fX6_48 rfl dX6_count_131 hp (fun v25 hp => ?_)
                    exact w_reti C X hr hlk (by decide) dX6_count_134 hp
                  · have hp := if_n _ c19 hp
                    by_cases c20 : a1 = 7
                    · have hp := if_p _ c20 hp
                      refine w_tsC (tgt := 135) C dX6_count_25 c20 (by decide) (by decide) rfl (by decide) ?_
                      refine lv_aload_n C.1 C.2.1 dX6_count_135 rfl (lv_at hl 1 rfl) ?_
                      refine w_gr C X fX6_13 rfl dX6_count_136 hp (fun q13 hp => ?_)
                      refine lv_bipush (v := 78) C.1 C.2.1 dX6_count_139 (by decide) ?_
                      refine w_al C X dX6_count_141 hp (fun v26 hp => ?_)
                      exact w_reti C X hr hlk (by decide) dX6_count_142 hp
                    · have hp := if_n _ c20 hp
                      refine w_tsD (tgt := 143) C [0, 1, 2, 3, 4, 5, 6, 7] dX6_count_25 (by intro k hk; simp only [List.mem_cons, List.not_mem_nil, or_false] at hk; rcases hk with hk | hk | hk | hk | hk | hk | hk | hk <;> subst hk <;> assumption) (by decide) (by decide) (by decide) ?_
                      refine lv_bipush (v := -9) C.1 C.2.1 dX6_count_143 (by decide) ?_
                      exact w_reti C X hr hlk (by decide) dX6_count_145 hp
    · have hp := if_n _ c12 hp
      refine lv_aload_n C.1 C.2.1 dX6_count_12 rfl (lv_at hl 0 rfl) ?_
      refine w_gr C X fX6_7 rfl dX6_count_13 hp (fun q14 hp => ?_)
      refine lv_iload_n C.1 C.2.1 dX6_count_16 rfl (lv_at hl 1 rfl) ?_
      refine lv_bipush (v := 10) C.1 C.2.1 dX6_count_17 (by decide) ?_
      refine lv_isub C.1 C.2.1 dX6_count_19 ?_
      refine w_al C X dX6_count_20 hp (fun v27 hp => ?_)
      exact w_reti C X hr hlk (by decide) dX6_count_21 hp

end
