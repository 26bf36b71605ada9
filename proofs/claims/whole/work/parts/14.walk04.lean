noncomputable section
variable {p : Program} {l : Launch} {e : Env} {s : State} {m : MethodId} {args : Array Value} {below : List Frame} {meth : Method} {c : Code} {K : Kt}
abbrev rmX5_refusalsTold : Room := { frames := 0, cells := 0, slots := 0, locals := 0 }
def P_X5_refusalsTold (p0 : Nat) (a1 : Int32) (h0 : Hp) : Option (Int32 × Hp) :=
    if a1 < 1 then (
    some ((-9), h0))
    else (
    gr h0 p0 5 7 fun q1 =>
    ln h0 q1 fun v1 =>
    if v1 ≤ a1 then (
    some ((-9), h0))
    else (
    gr h0 p0 5 7 fun q2 =>
    al h0 q2 a1 fun v2 =>
    some (v2, h0)))

set_option maxHeartbeats 4000000 in
set_option maxRecDepth 100000 in
theorem ct_X5_refusalsTold (l : Launch) (K : Kt) (p0 : Nat) (a1 : Int32) (h0 : Hp) {r : Int32} {h' : Hp} (hp : P_X5_refusalsTold p0 a1 h0 = some (r, h')) : CT l K yX5_refusalsTold cX5_refusalsTold 2 (some FieldType.int) rmX5_refusalsTold [.ref (K.1 + p0), .int a1] h0 (Qi K r h') := by
  refine ct_of (own := RX5) (by decide +kernel) rfl (Nat.le_of_ble_eq_true rfl) ?_
  intro p e s m args below meth c C X hr hlk hm ls hl
  have hl : lv_has ls 2 [(0, .ref (K.1 + p0)), (1, .int a1)] := hl
  unfold P_X5_refusalsTold at hp
  refine lv_iload_n C.1 C.2.1 dX5_refusalsTold_0 rfl (lv_at hl 1 rfl) ?_
  refine lv_iconst (v := 1) C.1 C.2.1 dX5_refusalsTold_1 (by decide) ?_
  refine lv_icmp_lt (tgt := 23) C.1 C.2.1 dX5_refusalsTold_2 (by decide) (fun c1 => ?_) (fun c1 => ?_)
  · have hp := if_p _ c1 hp
    refine lv_bipush (v := -9) C.1 C.2.1 dX5_refusalsTold_23 (by decide) ?_
    exact w_reti C X hr hlk (by decide) dX5_refusalsTold_25 hp
  · have hp := if_n _ c1 hp
    refine lv_iload_n C.1 C.2.1 dX5_refusalsTold_5 rfl (lv_at hl 1 rfl) ?_
    refine lv_aload_n C.1 C.2.1 dX5_refusalsTold_6 rfl (lv_at hl 0 rfl) ?_
    refine w_gr C X fX5_47 rfl dX5_refusalsTold_7 hp (fun q1 hp => ?_)
    refine w_ln C X dX5_refusalsTold_10 hp (fun v1 hp => ?_)
    refine lv_icmp_ge (tgt := 23) C.1 C.2.1 dX5_refusalsTold_11 (by decide) (fun c2 => ?_) (fun c2 => ?_)
    · have hp := if_p _ c2 hp
      refine lv_bipush (v := -9) C.1 C.2.1 dX5_refusalsTold_23 (by decide) ?_
      exact w_reti C X hr hlk (by decide) dX5_refusalsTold_25 hp
    · have hp := if_n _ c2 hp
      refine lv_aload_n C.1 C.2.1 dX5_refusalsTold_14 rfl (lv_at hl 0 rfl) ?_
      refine w_gr C X fX5_47 rfl dX5_refusalsTold_15 hp (fun q2 hp => ?_)
      refine lv_iload_n C.1 C.2.1 dX5_refusalsTold_18 rfl (lv_at hl 1 rfl) ?_
      refine w_al C X dX5_refusalsTold_19 hp (fun v2 hp => ?_)
      refine lv_goto (tgt := 25) C.1 C.2.1 dX5_refusalsTold_20 (by decide) ?_
      exact w_reti C X hr hlk (by decide) dX5_refusalsTold_25 hp

abbrev rmX5_count : Room := { frames := 1, cells := 0, slots := 0, locals := 21 }
def P_X5_count (p0 : Nat) (a1 : Int32) (h0 : Hp) : Option (Int32 × Hp) :=
    if a1 = 0 then (
    gr h0 p0 5 1 fun q1 =>
    gi h0 q1 0 0 fun v1 =>
    some (v1, h0))
    else if a1 = 1 then (
    gr h0 p0 5 1 fun q2 =>
    gi h0 q2 0 1 fun v2 =>
    some (v2, h0))
    else if a1 = 2 then (
    gr h0 p0 5 1 fun q3 =>
    gi h0 q3 0 2 fun v3 =>
    some (v3, h0))
    else if a1 = 3 then (
    gr h0 p0 5 1 fun q4 =>
    gi h0 q4 0 7 fun v4 =>
    ci (P_X5_notAtZero v4 h0) fun v5 h1 =>
    ci (P_J6_bitCount_0f7a4 v5 h1) fun v6 h2 =>
    some (v6, h2))
    else if a1 = 4 then (
    gr h0 p0 5 1 fun q5 =>
    gi h0 q5 0 4 fun v7 =>
    ci (P_J6_bitCount_0f7a4 v7 h0) fun v8 h3 =>
    some (v8, h3))
    else if a1 = 5 then (
    gr h0 p0 5 1 fun q6 =>
    gi h0 q6 0 10 fun v9 =>
    some (v9, h0))
    else if a1 = 6 then (
    gr h0 p0 5 0 fun q7 =>
    gi h0 q7 3 1 fun v10 =>
    some (v10, h0))
    else if a1 = 7 then (
    gr h0 p0 5 1 fun q8 =>
    gi h0 q8 0 8 fun v11 =>
    some (v11, h0))
    else (
    rc h0 p0 5 <| ci (P_X5_refusalsTold p0 (a1 - 10) h0) fun v12 h4 =>
    some (v12, h4))

set_option maxHeartbeats 4000000 in
set_option maxRecDepth 100000 in
theorem ct_X5_count (l : Launch) (K : Kt) (p0 : Nat) (a1 : Int32) (h0 : Hp) {r : Int32} {h' : Hp} (hp : P_X5_count p0 a1 h0 = some (r, h')) : CT l K yX5_count cX5_count 2 (some FieldType.int) rmX5_count [.ref (K.1 + p0), .int a1] h0 (Qi K r h') := by
  refine ct_of (own := RX5) (by decide +kernel) rfl (Nat.le_of_ble_eq_true rfl) ?_
  intro p e s m args below meth c C X hr hlk hm ls hl
  have hl : lv_has ls 2 [(0, .ref (K.1 + p0)), (1, .int a1)] := hl
  unfold P_X5_count at hp
  refine lv_iload_n C.1 C.2.1 dX5_count_0 rfl (lv_at hl 1 rfl) ?_
  by_cases c1 : a1 = 0
  · have hp := if_p _ c1 hp
    refine w_tsC (tgt := 48) C dX5_count_1 c1 (by decide) (by decide) rfl (by decide) ?_
    refine lv_aload_n C.1 C.2.1 dX5_count_48 rfl (lv_at hl 0 rfl) ?_
    refine w_gr C X fX5_19 rfl dX5_count_49 hp (fun q1 hp => ?_)
    refine w_gi C X fX5_146 rfl dX5_count_52 hp (fun v1 hp => ?_)
    exact w_reti C X hr hlk (by decide) dX5_count_55 hp
  · have hp := if_n _ c1 hp
    by_cases c2 : a1 = 1
    · have hp := if_p _ c2 hp
      refine w_tsC (tgt := 56) C dX5_count_1 c2 (by decide) (by decide) rfl (by decide) ?_
      refine lv_aload_n C.1 C.2.1 dX5_count_56 rfl (lv_at hl 0 rfl) ?_
      refine w_gr C X fX5_19 rfl dX5_count_57 hp (fun q2 hp => ?_)
      refine w_gi C X fX5_133 rfl dX5_count_60 hp (fun v2 hp => ?_)
      exact w_reti C X hr hlk (by decide) dX5_count_63 hp
    · have hp := if_n _ c2 hp
      by_cases c3 : a1 = 2
      · have hp := if_p _ c3 hp
        refine w_tsC (tgt := 64) C dX5_count_1 c3 (by decide) (by decide) rfl (by decide) ?_
        refine lv_aload_n C.1 C.2.1 dX5_count_64 rfl (lv_at hl 0 rfl) ?_
        refine w_gr C X fX5_19 rfl dX5_count_65 hp (fun q3 hp => ?_)
        refine w_gi C X fX5_202 rfl dX5_count_68 hp (fun v3 hp => ?_)
        exact w_reti C X hr hlk (by decide) dX5_count_71 hp
      · have hp := if_n _ c3 hp
        by_cases c4 : a1 = 3
        · have hp := if_p _ c4 hp
          refine w_tsC (tgt := 72) C dX5_count_1 c4 (by decide) (by decide) rfl (by decide) ?_
          refine lv_aload_n C.1 C.2.1 dX5_count_72 rfl (lv_at hl 0 rfl) ?_
          refine w_gr C X fX5_19 rfl dX5_count_73 hp (fun q4 hp => ?_)
          refine w_gi C X fX5_93 rfl dX5_count_76 hp (fun v4 hp => ?_)
          refine w_ci (cells' := 0) (slots' := 0) X (fun _ _ e => run_S (As := [.int v4]) C X mX5_notAtZero msX5_notAtZero lX5_242 (ct_X5_notAtZero l K v4 h0 e) (by decide) (by decide) rfl (by decide) rfl hl.1 dX5_count_79) (by decide) hp (fun v5 h1 H locs X hp => ?_)
          refine w_ci (cells' := 0) (slots' := 0) X (fun _ _ e => run_S (As := [.int v5]) C X mJ6_bitCount_0f7a4 msJ6_bitCount_0f7a4 lX5_205 (ct_J6_bitCount_0f7a4 l K v5 h1 e) (by decide) (by decide) rfl (by decide) rfl hl.1 dX5_count_82) (by decide) hp (fun v6 h2 H locs X hp => ?_)
          exact w_reti C X hr hlk (by decide) dX5_count_85 hp
        · have hp := if_n _ c4 hp
          by_cases c5 : a1 = 4
          · have hp := if_p _ c5 hp
            refine w_tsC (tgt := 86) C dX5_count_1 c5 (by decide) (by decide) rfl (by decide) ?_
            refine lv_aload_n C.1 C.2.1 dX5_count_86 rfl (lv_at hl 0 rfl) ?_
            refine w_gr C X fX5_19 rfl dX5_count_87 hp (fun q5 hp => ?_)
            refine w_gi C X fX5_256 rfl dX5_count_90 hp (fun v7 hp => ?_)
            refine w_ci (cells' := 0) (slots' := 0) X (fun _ _ e => run_S (As := [.int v7]) C X mJ6_bitCount_0f7a4 msJ6_bitCount_0f7a4 lX5_205 (ct_J6_bitCount_0f7a4 l K v7 h0 e) (by decide) (by decide) rfl (by decide) rfl hl.1 dX5_count_93) (by decide) hp (fun v8 h3 H locs X hp => ?_)
            exact w_reti C X hr hlk (by decide) dX5_count_96 hp
          · have hp := if_n _ c5 hp
            by_cases c6 : a1 = 5
            · have hp := if_p _ c6 hp
              refine w_tsC (tgt := 97) C dX5_count_1 c6 (by decide) (by decide) rfl (by decide) ?_
              refine lv_aload_n C.1 C.2.1 dX5_count_97 rfl (lv_at hl 0 rfl) ?_
              refine w_gr C X fX5_19 rfl dX5_count_98 hp (fun q6 hp => ?_)
              refine w_gi C X fX5_224 rfl dX5_count_101 hp (fun v9 hp => ?_)
              exact w_reti C X hr hlk (by decide) dX5_count_104 hp
            · have hp := if_n _ c6 hp
              by_cases c7 : a1 = 6
              · have hp := if_p _ c7 hp
                refine w_tsC (tgt := 105) C dX5_count_1 c7 (by decide) (by decide) rfl (by decide) ?_
                refine lv_aload_n C.1 C.2.1 dX5_count_105 rfl (lv_at hl 0 rfl) ?_
                refine w_gr C X fX5_10 rfl dX5_count_106 hp (fun q7 hp => ?_)
                refine w_gi C X fX5_54 rfl dX5_count_109 hp (fun v10 hp => ?_)
                exact w_reti C X hr hlk (by decide) dX5_count_112 hp
              · have hp := if_n _ c7 hp
                by_cases c8 : a1 = 7
                · have hp := if_p _ c8 hp
                  refine w_tsC (tgt := 113) C dX5_count_1 c8 (by decide) (by decide) rfl (by decide) ?_
                  refine lv_aload_n C.1 C.2.1 dX5_count_113 rfl (lv_at hl 0 rfl) ?_
                  refine w_gr C X fX5_19 rfl dX5_count_114 hp (fun q8 hp => ?_)
                  refine w_gi C X fX5_259 rfl dX5_count_117 hp (fun v11 hp => ?_)
                  exact w_reti C X hr hlk (by decide) dX5_count_120 hp
                · have hp := if_n _ c8 hp
                  refine w_tsD (tgt := 121) C [0, 1, 2, 3, 4, 5, 6, 7] dX5_count_1 (by intro k hk; simp only [List.mem_cons, List.not_mem_nil, or_false] at hk; rcases hk with hk | hk | hk | hk | hk | hk | hk | hk <;> subst hk <;> assumption) (by decide) (by decide) (by decide) ?_
                  refine lv_aload_n C.1 C.2.1 dX5_count_121 rfl (lv_at hl 0 rfl) ?_
                  refine lv_iload_n C.1 C.2.1 dX5_count_122 rfl (lv_at hl 1 rfl) ?_
                  refine lv_bipush (v := 10) C.1 C.2.1 dX5_count_123 (by decide) ?_
                  refine lv_isub C.1 C.2.1 dX5_count_125 ?_
                  have hrc := (rc_some hp).1
                  have hp := (rc_some hp).2
                  refine w_ci (cells' := 0) (slots' := 0) X (fun _ _ e => run_V (As := [.int (a1 - 10)]) (c0 := 5) C X mX5_refusalsTold miX5_refusalsTold lX5_262 (by decide) rfl hrc (ct_X5_refusalsTold l K p0 (a1 - 10) h0 e) (by decide) (by decide) rfl (by decide) rfl hl.1 dX5_count_126) (by decide) hp (fun v12 h4 H locs X hp => ?_)
                  exact w_reti C X hr hlk (by decide) dX5_count_129 hp

abbrev rmX6_init : Room := { frames := 1, cells := 10, slots := 2545, locals := 20 }
def P_X6_init_L102 : Nat → Nat → Int32 → Hp → Option (Hp)
  | 0, _, _, _ => none
  | n + 1, q13, v2, h23 =>
    if 12 ≤ v2 then (
    some h23)
    else (
    gr h23 q13 6 1 fun q14 =>
    as h23 q14 (16 + v2) 9 fun h24 =>
    lt ((v2 + 1) : Int32) fun v3 =>
    P_X6_init_L102 n q13 v3 h24)

def P_X6_init (p0 : Nat) (h0 : Hp) : Option (Hp) :=
    na h0 7 fun q1 h1 =>
    pr h1 p0 6 0 q1 fun h2 =>
    na h2 79 fun q2 h3 =>
    pr h3 p0 6 1 q2 fun h4 =>
    na h4 79 fun q3 h5 =>
    pr h5 p0 6 2 q3 fun h6 =>
    na h6 79 fun q4 h7 =>
    pr h7 p0 6 3 q4 fun h8 =>
    na h8 64 fun q5 h9 =>
    pr h9 p0 6 5 q5 fun h10 =>
    na h10 12 fun q6 h11 =>
    pr h11 p0 6 6 q6 fun h12 =>
    na h12 13 fun q7 h13 =>
    pr h13 p0 6 10 q7 fun h14 =>
    na h14 13 fun q8 h15 =>
    pr h15 p0 6 11 q8 fun h16 =>
    na h16 12 fun q9 h17 =>
    pr h17 p0 6 12 q9 fun h18 =>
    na h18 2187 fun q10 h19 =>
    pr h19 p0 6 15 q10 fun h20 =>
    gr h20 p0 6 1 fun q11 =>
    as h20 q11 0 6 fun h21 =>
    gr h21 p0 6 1 fun q12 =>
    as h21 q12 1 2 fun h22 =>
    lt (0 : Int32) fun v1 =>
    P_X6_init_L102 FU p0 v1 h22

set_option maxHeartbeats 4000000 in
set_option maxRecDepth 100000 in
theorem wl_X6_init_L102 (C : CX K p m c cX6_init 2 s args RX6) (hr : meth.sig.returnType = none) (hlk : meth.locks = false) (hm : meth.name = "<init>") {h' : Hp} : ∀ (n : Nat) (q13 : Nat) (v2 : Int32) (h23 : Hp) (H : Heap) (locs : List Loc) (ls : Array Slot), HX K s.heap H locs h23 → lv_has ls 2 [(0, .ref (K.1 + q13)), (1, .int v2)] → P_X6_init_L102 n q13 v2 h23 = some h' → W p l e rmX6_init s m args below meth c H locs 10 2545 (MQ below (Qv K h') args s rmX6_init.cells rmX6_init.slots (KA K)) (F0 m 102 ls []) := by
  intro n
  induction n with
  | zero =>
    intro  q13 v2 h23 H locs ls X hl hp
    cases hp
  | succ n ih =>
    intro  q13 v2 h23 H locs ls X hl hp
    unfold P_X6_init_L102 at hp
    refine lv_iload_n C.1 C.2.1 dX6_init_102 rfl (lv_at hl 1 rfl) ?_
    refine lv_bipush (v := 12) C.1 C.2.1 dX6_init_103 (by decide) ?_
    refine lv_icmp_ge (tgt := 125) C.1 C.2.1 dX6_init_105 (by decide) (fun c1 => ?_) (fun c1 => ?_)
    · have hp := if_p _ c1 hp
      exact w_retv C X hr hlk (by decide) dX6_init_125 hp
    · have hp := if_n _ c1 hp
      refine lv_aload_n C.1 C.2.1 dX6_init_108 rfl (lv_at hl 0 rfl) ?_
      refine w_gr C X fX6_13 rfl dX6_init_109 hp (fun q14 hp => ?_)
      refine lv_bipush (v := 16) C.1 C.2.1 dX6_init_112 (by decide) ?_
      refine lv_iload_n C.1 C.2.1 dX6_init_114 rfl (lv_at hl 1 rfl) ?_
      refine lv_iadd C.1 C.2.1 dX6_init_115 ?_
      refine lv_bipush (v := 9) C.1 C.2.1 dX6_init_116 (by decide) ?_
      refine w_as C X dX6_init_118 hp (fun H locs h24 X hp => ?_)
      refine w_inc (k := 1) C (fun v => [(1, .int (v)), (0, .ref (K.1 + q13))]) dX6_init_119 hl rfl (y := (v2 + 1)) rfl (by decide) (fun _ => rfl) hp (fun v3 ls hl hp => ?_)
      refine lv_goto (tgt := 102) C.1 C.2.1 dX6_init_122 (by decide) ?_
      exact ih _ _ _ _ _ _ X (lv_sub hl [1, 0] rfl) hp

set_option maxHeartbeats 4000000 in
set_option maxRecDepth 100000 in
theorem ct_X6_init (l : Launch) (K : Kt) (p0 : Nat) (h0 : Hp) {h' : Hp} (hp : P_X6_init p0 h0 = some h') : CT l K yX6_init cX6_init 2 none rmX6_init [.ref (K.1 + p0)] h0 (Qv K h') := by
  refine ct_of (own := RX6) (by decide +kernel) rfl (Nat.le_of_ble_eq_true rfl) ?_
  intro p e s m args below meth c C X hr hlk hm ls hl
  have hl : lv_has ls 2 [(0, .ref (K.1 + p0))] := hl
  unfold P_X6_init at hp
  refine lv_aload_n C.1 C.2.1 dX6_init_0 rfl (lv_at hl 0 rfl) ?_
  refine w_oi0 C lX6_1 hl.1 (by decide) (by decide) dX6_init_1 ?_
  refine lv_aload_n C.1 C.2.1 dX6_init_4 rfl (lv_at hl 0 rfl) ?_
  refine lv_bipush (v := 7) C.1 C.2.1 dX6_init_5 (by decide) ?_
  refine w_na (cells' := 1) (slots' := 7) (N := 7) C X (by decide +kernel) (by decide) (by decide) (by decide) dX6_init_7 hp (fun q1 h1 H locs X hp => ?_)
  refine w_prf C X fX6_7 rfl rfl hm rfl flX6_7 (fun _ => rfl) (fun _ => rfl) dX6_init_9 hp (fun H locs h2 X hp => ?_)
  refine lv_aload_n C.1 C.2.1 dX6_init_12 rfl (lv_at hl 0 rfl) ?_
  refine lv_bipush (v := 79) C.1 C.2.1 dX6_init_13 (by decide) ?_
  refine w_na (cells' := 2) (slots' := 86) (N := 79) C X (by decide +kernel) (by decide) (by decide) (by decide) dX6_init_15 hp (fun q2 h3 H locs X hp => ?_)
  refine w_prf C X fX6_13 rfl rfl hm rfl flX6_13 (fun _ => rfl) (fun _ => rfl) dX6_init_17 hp (fun H locs h4 X hp => ?_)
  refine lv_aload_n C.1 C.2.1 dX6_init_20 rfl (lv_at hl 0 rfl) ?_
  refine lv_bipush (v := 79) C.1 C.2.1 dX6_init_21 (by decide) ?_
  refine w_na (cells' := 3) (slots' := 165) (N := 79) C X (by decide +kernel) (by decide) (by decide) (by decide) dX6_init_23 hp (fun q3 h5 H locs X hp => ?_)
  refine w_prf C X fX6_16 rfl rfl hm rfl flX6_16 (fun _ => rfl) (fun _ => rfl) dX6_init_25 hp (fun H locs h6 X hp => ?_)
  refine lv_aload_n C.1 C.2.1 dX6_init_28 rfl (lv_at hl 0 rfl) ?_
  refine lv_bipush (v := 79) C.1 C.2.1 dX6_init_29 (by decide) ?_
  refine w_na (cells' := 4) (slots' := 244) (N := 79) C X (by decide +kernel) (by decide) (by decide) (by decide) dX6_init_31 hp (fun q4 h7 H locs X hp => ?_)
  refine w_prf C X fX6_19 rfl rfl hm rfl flX6_19 (fun _ => rfl) (fun _ => rfl) dX6_init_33 hp (fun H locs h8 X hp => ?_)
  refine lv_aload_n C.1 C.2.1 dX6_init_36 rfl (lv_at hl 0 rfl) ?_
  refine lv_bipush (v := 64) C.1 C.2.1 dX6_init_37 (by decide) ?_
  refine w_na (cells' := 5) (slots' := 308) (N := 64) C X (by decide +kernel) (by decide) (by decide) (by decide) dX6_init_39 hp (fun q5 h9 H locs X hp => ?_)
  refine w_prf C X fX6_22 rfl rfl hm rfl flX6_22 (fun _ => rfl) (fun _ => rfl) dX6_init_41 hp (fun H locs h10 X hp => ?_)
  refine lv_aload_n C.1 C.2.1 dX6_init_44 rfl (lv_at hl 0 rfl) ?_
  refine lv_bipush (v := 12) C.1 C.2.1 dX6_init_45 (by decide) ?_
  refine w_na (cells' := 6) (slots' := 320) (N := 12) C X (by decide +kernel) (by decide) (by decide) (by decide) dX6_init_47 hp (fun q6 h11 H locs X hp => ?_)
  refine w_prf C X fX6_25 rfl rfl hm rfl flX6_25 (fun _ => rfl) (fun _ => rfl) dX6_init_49 hp (fun H locs h12 X hp => ?_)
  refine lv_aload_n C.1 C.2.1 dX6_init_52 rfl (lv_at hl 0 rfl) ?_
  refine lv_bipush (v := 13) C.1 C.2.1 dX6_init_53 (by decide) ?_
  refine w_na (cells' := 7) (slots' := 333) (N := 13) C X (by decide +kernel) (by decide) (by decide) (by decide) dX6_init_55 hp (fun q7 h13 H locs X hp => ?_)
  refine w_prf C X fX6_28 rfl rfl hm rfl flX6_28 (fun _ => rfl) (fun _ => rfl) dX6_init_57 hp (fun H locs h14 X hp => ?_)
  refine lv_aload_n C.1 C.2.1 dX6_init_60 rfl (lv_at hl 0 rfl) ?_
  refine lv_bipush (v := 13) C.1 C.2.1 dX6_init_61 (by decide) ?_
  refine w_na (cells' := 8) (slots' := 346) (N := 13) C X (by decide +kernel) (by decide) (by decide) (by decide) dX6_init_63 hp (fun q8 h15 H locs X hp => ?_)
  refine w_prf C X fX6_31 rfl rfl hm rfl flX6_31 (fun _ => rfl) (fun _ => rfl) dX6_init_65 hp (fun H locs h16 X hp => ?_)
  refine lv_aload_n C.1 C.2.1 dX6_init_68 rfl (lv_at hl 0 rfl) ?_
  refine lv_bipush (v := 12) C.1 C.2.1 dX6_init_69 (by decide) ?_
  refine w_na (cells' := 9) (slots' := 358) (N := 12) C X (by decide +kernel) (by decide) (by decide) (by decide) dX6_init_71 hp (fun q9 h17 H locs X hp => ?_)
  refine w_prf C X fX6_34 rfl rfl hm rfl flX6_34 (fun _ => rfl) (fun _ => rfl) dX6_init_73 hp (fun H locs h18 X hp => ?_)
  refine lv_aload_n C.1 C.2.1 dX6_init_76 rfl (lv_at hl 0 rfl) ?_
  refine lv_sipush (v := 2187) C.1 C.2.1 dX6_init_77 (by decide) ?_
  refine w_na (cells' := 10) (slots' := 2545) (N := 2187) C X (by decide +kernel) (by decide) (by decide) (by decide) dX6_init_80 hp (fun q10 h19 H locs X hp => ?_)
  refine w_prf C X fX6_37 rfl rfl hm rfl flX6_37 (fun _ => rfl) (fun _ => rfl) dX6_init_82 hp (fun H locs h20 X hp => ?_)
  refine lv_aload_n C.1 C.2.1 dX6_init_85 rfl (lv_at hl 0 rfl) ?_
  refine w_gr C X fX6_13 rfl dX6_init_86 hp (fun q11 hp => ?_)
  refine lv_iconst (v := 0) C.1 C.2.1 dX6_init_89 (by decide) ?_
  refine lv_bipush (v := 6) C.1 C.2.1 dX6_init_90 (by decide) ?_
  refine w_as C X dX6_init_92 hp (fun H locs h21 X hp => ?_)
  refine lv_aload_n C.1 C.2.1 dX6_init_93 rfl (lv_at hl 0 rfl) ?_
  refine w_gr C X fX6_13 rfl dX6_init_94 hp (fun q12 hp => ?_)
  refine lv_iconst (v := 1) C.1 C.2.1 dX6_init_97 (by decide) ?_
  refine lv_iconst (v := 2) C.1 C.2.1 dX6_init_98 (by decide) ?_
  refine w_as C X dX6_init_99 hp (fun H locs h22 X hp => ?_)
  refine lv_iconst (v := 0) C.1 C.2.1 dX6_init_100 (by decide) ?_
  refine w_istn C (fun v => [(1, .int (v)), (0, .ref (K.1 + p0))]) dX6_init_101 rfl hl (by decide) (fun _ => rfl) hp (fun v1 ls hl hp => ?_)
  exact wl_X6_init_L102 C hr hlk hm _ _ _ _ _ _ _ X (lv_sub hl [1, 0] rfl) hp

abbrev rmX6_refuse : Room := { frames := 0, cells := 0, slots := 0, locals := 0 }
def P_X6_refuse (p0 : Nat) (a1 : Int32) (h0 : Hp) : Option (Int32 × Hp) :=
    gr h0 p0 6 0 fun q1 =>
    al h0 q1 (-a1) fun v1 =>
    as h0 q1 (-a1) (v1 + 1) fun h1 =>
    some (a1, h1)

set_option maxHeartbeats 4000000 in
set_option maxRecDepth 100000 in
theorem ct_X6_refuse (l : Launch) (K : Kt) (p0 : Nat) (a1 : Int32) (h0 : Hp) {r : Int32} {h' : Hp} (hp : P_X6_refuse p0 a1 h0 = some (r, h')) : CT l K yX6_refuse cX6_refuse 2 (some FieldType.int) rmX6_refuse [.ref (K.1 + p0), .int a1] h0 (Qi K r h') := by
  refine ct_of (own := RX6) (by decide +kernel) rfl (Nat.le_of_ble_eq_true rfl) ?_
  intro p e s m args below meth c C X hr hlk hm ls hl
  have hl : lv_has ls 2 [(0, .ref (K.1 + p0)), (1, .int a1)] := hl
  unfold P_X6_refuse at hp
  refine lv_aload_n C.1 C.2.1 dX6_refuse_0 rfl (lv_at hl 0 rfl) ?_
  refine w_gr C X fX6_7 rfl dX6_refuse_1 hp (fun q1 hp => ?_)
  refine lv_iload_n C.1 C.2.1 dX6_refuse_4 rfl (lv_at hl 1 rfl) ?_
  refine lv_ineg C.1 C.2.1 dX6_refuse_5 ?_
  refine lv_dup2_11 C.1 C.2.1 dX6_refuse_6 rfl rfl ?_
  refine w_al C X dX6_refuse_7 hp (fun v1 hp => ?_)
  refine lv_iconst (v := 1) C.1 C.2.1 dX6_refuse_8 (by decide) ?_
  refine lv_iadd C.1 C.2.1 dX6_refuse_9 ?_
  refine w_as C X dX6_refuse_10 hp (fun H locs h1 X hp => ?_)
  refine lv_iload_n C.1 C.2.1 dX6_refuse_11 rfl (lv_at hl 1 rfl) ?_
  exact w_reti C X hr hlk (by decide) dX6_refuse_12 hp

abbrev rmX6_isIn : Room := { frames := 0, cells := 0, slots := 0, locals := 0 }
def P_X6_isIn (a0 : Int32) (a1 : Int32) (h0 : Hp) : Option (Int32 × Hp) :=
    if a0 < 0 then (
    some (0, h0))
    else (
    if a1 ≤ a0 then (
    some (0, h0))
    else (
    some (1, h0)))

set_option maxHeartbeats 4000000 in
set_option maxRecDepth 100000 in
theorem ct_X6_isIn (l : Launch) (K : Kt) (a0 : Int32) (a1 : Int32) (h0 : Hp) {r : Int32} {h' : Hp} (hp : P_X6_isIn a0 a1 h0 = some (r, h')) : CT l K yX6_isIn cX6_isIn 2 (some FieldType.boolean) rmX6_isIn [.int a0, .int a1] h0 (Qi K r h') := by
  refine ct_of (own := RX6) (by decide +kernel) rfl (Nat.le_of_ble_eq_true rfl) ?_
  intro p e s m args below meth c C X hr hlk hm ls hl
  have hl : lv_has ls 2 [(0, .int a0), (1, .int a1)] := hl
  unfold P_X6_isIn at hp
  refine lv_iload_n C.1 C.2.1 dX6_isIn_0 rfl (lv_at hl 0 rfl) ?_
  refine lv_if_lt (tgt := 13) C.1 C.2.1 dX6_isIn_1 (by decide) (fun c1 => ?_) (fun c1 => ?_)
  · have hp := if_p _ c1 hp
    refine lv_iconst (v := 0) C.1 C.2.1 dX6_isIn_13 (by decide) ?_
    exact w_retz C X hr hlk (by decide) (by decide) dX6_isIn_14 hp
  · have hp := if_n _ c1 hp
    refine lv_iload_n C.1 C.2.1 dX6_isIn_4 rfl (lv_at hl 0 rfl) ?_
    refine lv_iload_n C.1 C.2.1 dX6_isIn_5 rfl (lv_at hl 1 rfl) ?_
    refine lv_icmp_ge (tgt := 13) C.1 C.2.1 dX6_isIn_6 (by decide) (fun c2 => ?_) (fun c2 => ?_)
    · have hp := if_p _ c2 hp
      refine lv_iconst (v := 0) C.1 C.2.1 dX6_isIn_13 (by decide) ?_
      exact w_retz C X hr hlk (by decide) (by decide) dX6_isIn_14 hp
    · have hp := if_n _ c2 hp
      refine lv_iconst (v := 1) C.1 C.2.1 dX6_isIn_9 (by decide) ?_
      refine lv_goto (tgt := 14) C.1 C.2.1 dX6_isIn_10 (by decide) ?_
      exact w_retz C X hr hlk (by decide) (by decide) dX6_isIn_14 hp

abbrev rmX6_within : Room := { frames := 0, cells := 0, slots := 0, locals := 0 }
def P_X6_within (a0 : Int32) (a1 : Int32) (a2 : Int32) (h0 : Hp) : Option (Int32 × Hp) :=
    if a1 ≤ a0 then (
    if a0 ≤ a2 then (
    some (0, h0))
    else (
    some ((-6), h0)))
    else (
    some ((-4), h0))

set_option maxHeartbeats 4000000 in
set_option maxRecDepth 100000 in
theorem ct_X6_within (l : Launch) (K : Kt) (a0 : Int32) (a1 : Int32) (a2 : Int32) (h0 : Hp) {r : Int32} {h' : Hp} (hp : P_X6_within a0 a1 a2 h0 = some (r, h')) : CT l K yX6_within cX6_within 3 (some FieldType.int) rmX6_within [.int a0, .int a1, .int a2] h0 (Qi K r h') := by
  refine ct_of (own := RX6) (by decide +kernel) rfl (Nat.le_of_ble_eq_true rfl) ?_
  intro p e s m args below meth c C X hr hlk hm ls hl
  have hl : lv_has ls 3 [(0, .int a0), (1, .int a1), (2, .int a2)] := hl
  unfold P_X6_within at hp
  refine lv_iload_n C.1 C.2.1 dX6_within_0 rfl (lv_at hl 0 rfl) ?_
  refine lv_iload_n C.1 C.2.1 dX6_within_1 rfl (lv_at hl 1 rfl) ?_
  refine lv_icmp_ge (tgt := 10) C.1 C.2.1 dX6_within_2 (by decide) (fun c1 => ?_) (fun c1 => ?_)
  · have hp := if_p _ c1 hp
    refine lv_iload_n C.1 C.2.1 dX6_within_10 rfl (lv_at hl 0 rfl) ?_
    refine lv_iload_n C.1 C.2.1 dX6_within_11 rfl (lv_at hl 2 rfl) ?_
    refine lv_icmp_le (tgt := 20) C.1 C.2.1 dX6_within_12 (by decide) (fun c2 => ?_) (fun c2 => ?_)
    · have hp := if_p _ c2 hp
      refine lv_iconst (v := 0) C.1 C.2.1 dX6_within_20 (by decide) ?_
      exact w_reti C X hr hlk (by decide) dX6_within_21 hp
    · have hp := if_n _ c2 hp
      refine lv_bipush (v := -6) C.1 C.2.1 dX6_within_15 (by decide) ?_
      refine lv_goto (tgt := 21) C.1 C.2.1 dX6_within_17 (by decide) ?_
      exact w_reti C X hr hlk (by decide) dX6_within_21 hp
  · have hp := if_n _ c1 hp
    refine lv_bipush (v := -4) C.1 C.2.1 dX6_within_5 (by decide) ?_
    refine lv_goto (tgt := 21) C.1 C.2.1 dX6_within_7 (by decide) ?_
    exact w_reti C X hr hlk (by decide) dX6_within_21 hp

abbrev rmX6_copies : Room := { frames := 0, cells := 0, slots := 0, locals := 0 }
def P_X6_copies_L2 : Nat → Nat → Nat → Int32 → Hp → Option (Hp)
  | 0, _, _, _, _ => none
  | n + 1, q1, q2, v2, h1 =>
    if 79 ≤ v2 then (
    some h1)
    else (
    al h1 q1 v2 fun v3 =>
    as h1 q2 v2 v3 fun h2 =>
    lt ((v2 + 1) : Int32) fun v4 =>
    P_X6_copies_L2 n q1 q2 v4 h2)

def P_X6_copies (p0 : Nat) (p1 : Nat) (h0 : Hp) : Option (Hp) :=
    lt (0 : Int32) fun v1 =>
    P_X6_copies_L2 FU p0 p1 v1 h0

set_option maxHeartbeats 4000000 in
set_option maxRecDepth 100000 in
theorem wl_X6_copies_L2 (C : CX K p m c cX6_copies 3 s args RX6) (hr : meth.sig.returnType = none) (hlk : meth.locks = false) {h' : Hp} : ∀ (n : Nat) (q1 : Nat) (q2 : Nat) (v2 : Int32) (h1 : Hp) (H : Heap) (locs : List Loc) (ls : Array Slot), HX K s.heap H locs h1 → lv_has ls 3 [(0, .ref (K.1 + q1)), (1, .ref (K.1 + q2)), (2, .int v2)] → P_X6_copies_L2 n q1 q2 v2 h1 = some h' → W p l e rmX6_copies s m args below meth c H locs 0 0 (MQ below (Qv K h') args s rmX6_copies.cells rmX6_copies.slots (KA K)) (F0 m 2 ls []) := by
  intro n
  induction n with
  | zero =>
    intro  q1 q2 v2 h1 H locs ls X hl hp
    cases hp
  | succ n ih =>
    intro  q1 q2 v2 h1 H locs ls X hl hp
    unfold P_X6_copies_L2 at hp
    refine lv_iload_n C.1 C.2.1 dX6_copies_2 rfl (lv_at hl 2 rfl) ?_
    refine lv_bipush (v := 79) C.1 C.2.1 dX6_copies_3 (by decide) ?_
    refine lv_icmp_ge (tgt := 20) C.1 C.2.1 dX6_copies_5 (by decide) (fun c1 => ?_) (fun c1 => ?_)
    · have hp := if_p _ c1 hp
      exact w_retv C X hr hlk (by decide) dX6_copies_20 hp
    · have hp := if_n _ c1 hp
      refine lv_aload_n C.1 C.2.1 dX6_copies_8 rfl (lv_at hl 1 rfl) ?_
      refine lv_iload_n C.1 C.2.1 dX6_copies_9 rfl (lv_at hl 2 rfl) ?_
      refine lv_aload_n C.1 C.2.1 dX6_copies_10 rfl (lv_at hl 0 rfl) ?_
      refine lv_iload_n C.1 C.2.1 dX6_copies_11 rfl (lv_at hl 2 rfl) ?_
      refine w_al C X dX6_copies_12 hp (fun v3 hp => ?_)
      refine w_as C X dX6_copies_13 hp (fun H locs h2 X hp => ?_)
      refine w_inc (k := 2) C (fun v => [(2, .int (v)), (0, .ref (K.1 + q1)), (1, .ref (K.1 + q2))]) dX6_copies_14 hl rfl (y := (v2 + 1)) rfl (by decide) (fun _ => rfl) hp (fun v4 ls hl hp => ?_)
      refine lv_goto (tgt := 2) C.1 C.2.1 dX6_copies_17 (by decide) ?_
      exact ih _ _ _ _ _ _ _ X (lv_sub hl [1, 2, 0] rfl) hp

set_option maxHeartbeats 4000000 in
set_option maxRecDepth 100000 in
theorem ct_X6_copies (l : Launch) (K : Kt) (p0 : Nat) (p1 : Nat) (h0 : Hp) {h' : Hp} (hp : P_X6_copies p0 p1 h0 = some h') : CT l K yX6_copies cX6_copies 3 none rmX6_copies [.ref (K.1 + p0), .ref (K.1 + p1)] h0 (Qv K h') := by
  refine ct_of (own := RX6) (by decide +kernel) rfl (Nat.le_of_ble_eq_true rfl) ?_
  intro p e s m args below meth c C X hr hlk hm ls hl
  have hl : lv_has ls 3 [(0, .ref (K.1 + p0)), (1, .ref (K.1 + p1))] := hl
  unfold P_X6_copies at hp
  refine lv_iconst (v := 0) C.1 C.2.1 dX6_copies_0 (by decide) ?_
  refine w_istn C (fun v => [(2, .int (v)), (0, .ref (K.1 + p0)), (1, .ref (K.1 + p1))]) dX6_copies_1 rfl hl (by decide) (fun _ => rfl) hp (fun v1 ls hl hp => ?_)
  exact wl_X6_copies_L2 C hr hlk _ _ _ _ _ _ _ _ X (lv_sub hl [1, 2, 0] rfl) hp

abbrev rmX6_isDoor : Room := { frames := 0, cells := 0, slots := 0, locals := 0 }
def P_X6_isDoor (p0 : Nat) (a1 : Int32) (h0 : Hp) : Option (Int32 × Hp) :=
    if a1 < 1 then (
    some (0, h0))
    else (
    gr h0 p0 6 1 fun q1 =>
    al h0 q1 0 fun v1 =>
    if v1 < a1 then (
    some (0, h0))
    else (
    some (1, h0)))

set_option maxHeartbeats 4000000 in
set_option maxRecDepth 100000 in
theorem ct_X6_isDoor (l : Launch) (K : Kt) (p0 : Nat) (a1 : Int32) (h0 : Hp) {r : Int32} {h' : Hp} (hp : P_X6_isDoor p0 a1 h0 = some (r, h')) : CT l K yX6_isDoor cX6_isDoor 2 (some FieldType.boolean) rmX6_isDoor [.ref (K.1 + p0), .int a1] h0 (Qi K r h') := by
  refine ct_of (own := RX6) (by decide +kernel) rfl (Nat.le_of_ble_eq_true rfl) ?_
  intro p e s m args below meth c C X hr hlk hm ls hl
  have hl : lv_has ls 2 [(0, .ref (K.1 + p0)), (1, .int a1)] := hl
  unfold P_X6_isDoor at hp
  refine lv_iload_n C.1 C.2.1 dX6_isDoor_0 rfl (lv_at hl 1 rfl) ?_
  refine lv_iconst (v := 1) C.1 C.2.1 dX6_isDoor_1 (by decide) ?_
  refine lv_icmp_lt (tgt := 19) C.1 C.2.1 dX6_isDoor_2 (by decide) (fun c1 => ?_) (fun c1 => ?_)
  · have hp := if_p _ c1 hp
    refine lv_iconst (v := 0) C.1 C.2.1 dX6_isDoor_19 (by decide) ?_
    exact w_retz C X hr hlk (by decide) (by decide) dX6_isDoor_20 hp
  · have hp := if_n _ c1 hp
    refine lv_iload_n C.1 C.2.1 dX6_isDoor_5 rfl (lv_at hl 1 rfl) ?_
    refine lv_aload_n C.1 C.2.1 dX6_isDoor_6 rfl (lv_at hl 0 rfl) ?_
    refine w_gr C X fX6_13 rfl dX6_isDoor_7 hp (fun q1 hp => ?_)
    refine lv_iconst (v := 0) C.1 C.2.1 dX6_isDoor_10 (by decide) ?_
    refine w_al C X dX6_isDoor_11 hp (fun v1 hp => ?_)
    refine lv_icmp_gt (tgt := 19) C.1 C.2.1 dX6_isDoor_12 (by decide) (fun c2 => ?_) (fun c2 => ?_)
    · have hp := if_p _ c2 hp
      refine lv_iconst (v := 0) C.1 C.2.1 dX6_isDoor_19 (by decide) ?_
      exact w_retz C X hr hlk (by decide) (by decide) dX6_isDoor_20 hp
    · have hp := if_n _ c2 hp
      refine lv_iconst (v := 1) C.1 C.2.1 dX6_isDoor_15 (by decide) ?_
      refine lv_goto (tgt := 20) C.1 C.2.1 dX6_isDoor_16 (by decide) ?_
      exact w_retz C X hr hlk (by decide) (by decide) dX6_isDoor_20 hp

abbrev rmX6_isPerson : Room := { frames := 1, cells := 0, slots := 0, locals := 21 }
def P_X6_isPerson (p0 : Nat) (a1 : Int32) (h0 : Hp) : Option (Int32 × Hp) :=
    gr h0 p0 6 1 fun q1 =>
    al h0 q1 2 fun v1 =>
    ci (P_X6_isIn a1 v1 h0) fun v2 h1 =>
    bz v2 <| some (v2, h1)

set_option maxHeartbeats 4000000 in
set_option maxRecDepth 100000 in
theorem ct_X6_isPerson (l : Launch) (K : Kt) (p0 : Nat) (a1 : Int32) (h0 : Hp) {r : Int32} {h' : Hp} (hp : P_X6_isPerson p0 a1 h0 = some (r, h')) : CT l K yX6_isPerson cX6_isPerson 2 (some FieldType.boolean) rmX6_isPerson [.ref (K.1 + p0), .int a1] h0 (Qi K r h') := by
  refine ct_of (own := RX6) (by decide +kernel) rfl (Nat.le_of_ble_eq_true rfl) ?_
  intro p e s m args below meth c C X hr hlk hm ls hl
  have hl : lv_has ls 2 [(0, .ref (K.1 + p0)), (1, .int a1)] := hl
  unfold P_X6_isPerson at hp
  refine lv_iload_n C.1 C.2.1 dX6_isPerson_0 rfl (lv_at hl 1 rfl) ?_
  refine lv_aload_n C.1 C.2.1 dX6_isPerson_1 rfl (lv_at hl 0 rfl) ?_
  refine w_gr C X fX6_13 rfl dX6_isPerson_2 hp (fun q1 hp => ?_)
  refine lv_iconst (v := 2) C.1 C.2.1 dX6_isPerson_5 (by decide) ?_
  refine w_al C X dX6_isPerson_6 hp (fun v1 hp => ?_)
  refine w_ci (cells' := 0) (slots' := 0) X (fun _ _ e => run_S (As := [.int a1, .int v1]) C X mX6_isIn msX6_isIn lX6_40 (ct_X6_isIn l K a1 v1 h0 e) (by decide) (by decide) rfl (by decide) rfl hl.1 dX6_isPerson_7) (by decide) hp (fun v2 h1 H locs X hp => ?_)
  exact w_retz C X hr hlk (by decide) (bz_some hp).1 dX6_isPerson_10 (bz_some hp).2

abbrev rmX6_get : Room := { frames := 0, cells := 0, slots := 0, locals := 0 }
def P_X6_get (p0 : Nat) (a1 : Int32) (a2 : Int32) (h0 : Hp) : Option (Int32 × Hp) :=
    gr h0 p0 6 1 fun q1 =>
    al h0 q1 ((40 + (4 * a1)) + a2) fun v1 =>
    some (v1, h0)

set_option maxHeartbeats 4000000 in
set_option maxRecDepth 100000 in
theorem ct_X6_get (l : Launch) (K : Kt) (p0 : Nat) (a1 : Int32) (a2 : Int32) (h0 : Hp) {r : Int32} {h' : Hp} (hp : P_X6_get p0 a1 a2 h0 = some (r, h')) : CT l K yX6_get cX6_get 3 (some FieldType.int) rmX6_get [.ref (K.1 + p0), .int a1, .int a2] h0 (Qi K r h') := by
  refine ct_of (own := RX6) (by decide +kernel) rfl (Nat.le_of_ble_eq_true rfl) ?_
  intro p e s m args below meth c C X hr hlk hm ls hl
  have hl : lv_has ls 3 [(0, .ref (K.1 + p0)), (1, .int a1), (2, .int a2)] := hl
  unfold P_X6_get at hp
  refine lv_aload_n C.1 C.2.1 dX6_get_0 rfl (lv_at hl 0 rfl) ?_
  refine w_gr C X fX6_13 rfl dX6_get_1 hp (fun q1 hp => ?_)
  refine lv_bipush (v := 40) C.1 C.2.1 dX6_get_4 (by decide) ?_
  refine lv_iconst (v := 4) C.1 C.2.1 dX6_get_6 (by decide) ?_
  refine lv_iload_n C.1 C.2.1 dX6_get_7 rfl (lv_at hl 1 rfl) ?_
  refine lv_imul C.1 C.2.1 dX6_get_8 ?_
  refine lv_iadd C.1 C.2.1 dX6_get_9 ?_
  refine lv_iload_n C.1 C.2.1 dX6_get_10 rfl (lv_at hl 2 rfl) ?_
  refine lv_iadd C.1 C.2.1 dX6_get_11 ?_
  refine w_al C X dX6_get_12 hp (fun v1 hp => ?_)
  exact w_reti C X hr hlk (by decide) dX6_get_13 hp

abbrev rmX6_letter : Room := { frames := 1, cells := 0, slots := 0, locals := 22 }
def P_X6_letter (p0 : Nat) (a1 : Int32) (h0 : Hp) : Option (Int32 × Hp) :=
    ci (P_X6_within a1 0 255 h0) fun v1 h1 =>
    lt (v1 : Int32) fun v2 =>
    if v2 = 0 then (
    gi h1 p0 6 7 fun v7 =>
    if v7 = 64 then (
    lt ((-6) : Int32) fun v12 =>
    if v12 = 0 then (
    gr h1 p0 6 5 fun q3 =>
    gi h1 p0 6 7 fun v13 =>
    as h1 q3 v13 a1 fun h8 =>
    gi h8 p0 6 7 fun v14 =>
    pi h8 p0 6 7 (v14 + 1) fun h9 =>
    gi h9 p0 6 7 fun v15 =>
    some (v15, h9))
    else (
    rc h1 p0 6 <| ci (P_X6_refuse p0 v12 h1) fun v16 h10 =>
    some (v16, h10)))
    else (
    if v2 = 0 then (
    gr h1 p0 6 5 fun q2 =>
    gi h1 p0 6 7 fun v8 =>
    as h1 q2 v8 a1 fun h5 =>
    gi h5 p0 6 7 fun v9 =>
    pi h5 p0 6 7 (v9 + 1) fun h6 =>
    gi h6 p0 6 7 fun v10 =>
    some (v10, h6))
    else (
    rc h1 p0 6 <| ci (P_X6_refuse p0 v2 h1) fun v11 h7 =>
    some (v11, h7))))
    else (
    if v2 = 0 then (
    gr h1 p0 6 5 fun q1 =>
    gi h1 p0 6 7 fun v3 =>
    as h1 q1 v3 a1 fun h2 =>
    gi h2 p0 6 7 fun v4 =>
    pi h2 p0 6 7 (v4 + 1) fun h3 =>
    gi h3 p0 6 7 fun v5 =>
    some (v5, h3))
    else (
    rc h1 p0 6 <| ci (P_X6_refuse p0 v2 h1) fun v6 h4 =>
    some (v6, h4)))

set_option maxHeartbeats 4000000 in
set_option maxRecDepth 100000 in
theorem ct_X6_letter (l : Launch) (K : Kt) (p0 : Nat) (a1 : Int32) (h0 : Hp) {r : Int32} {h' : Hp} (hp : P_X6_letter p0 a1 h0 = some (r, h')) : CT l K yX6_letter cX6_letter 3 (some FieldType.int) rmX6_letter [.ref (K.1 + p0), .int a1] h0 (Qi K r h') := by
  refine ct_of (own := RX6) (by decide +kernel) rfl (Nat.le_of_ble_eq_true rfl) ?_
  intro p e s m args below meth c C X hr hlk hm ls hl
  have hl : lv_has ls 3 [(0, .ref (K.1 + p0)), (1, .int a1)] := hl
  unfold P_X6_letter at hp
  refine lv_iload_n C.1 C.2.1 dX6_letter_0 rfl (lv_at hl 1 rfl) ?_
  refine lv_iconst (v := 0) C.1 C.2.1 dX6_letter_1 (by decide) ?_
  refine lv_sipush (v := 255) C.1 C.2.1 dX6_letter_2 (by decide) ?_
  refine w_ci (cells' := 0) (slots' := 0) X (fun _ _ e => run_S (As := [.int a1, .int 0, .int 255]) C X mX6_within msX6_within lX6_44 (ct_X6_within l K a1 0 255 h0 e) (by decide) (by decide) rfl (by decide) rfl hl.1 dX6_letter_5) (by decide) hp (fun v1 h1 H locs X hp => ?_)
  refine w_istn C (fun v => [(2, .int (v)), (0, .ref (K.1 + p0)), (1, .int a1)]) dX6_letter_8 rfl hl (by decide) (fun _ => rfl) hp (fun v2 ls hl hp => ?_)
  refine lv_iload_n C.1 C.2.1 dX6_letter_9 rfl (lv_at hl 0 rfl) ?_
  refine lv_if_ne (tgt := 25) C.1 C.2.1 dX6_letter_10 (by decide) (fun c1 => ?_) (fun c1 => ?_)
  · have hp := if_n _ c1 hp
    refine lv_iload_n C.1 C.2.1 dX6_letter_25 rfl (lv_at hl 0 rfl) ?_
    refine lv_if_eq (tgt := 35) C.1 C.2.1 dX6_letter_26 (by decide) (fun c2 => ?_) (fun c2 => ?_)
    · have hp := if_p _ c2 hp
      refine lv_aload_n C.1 C.2.1 dX6_letter_35 rfl (lv_at hl 1 rfl) ?_
      refine w_gr C X fX6_22 rfl dX6_letter_36 hp (fun q1 hp => ?_)
      refine lv_aload_n C.1 C.2.1 dX6_letter_39 rfl (lv_at hl 1 rfl) ?_
      refine w_gi C X fX6_48 rfl dX6_letter_40 hp (fun v3 hp => ?_)
      refine lv_iload_n C.1 C.2.1 dX6_letter_43 rfl (lv_at hl 2 rfl) ?_
      refine w_as C X dX6_letter_44 hp (fun H locs h2 X hp => ?_)
      refine lv_aload_n C.1 C.2.1 dX6_letter_45 rfl (lv_at hl 1 rfl) ?_
      refine lv_dup C.1 C.2.1 dX6_letter_46 rfl ?_
      refine w_gi C X fX6_48 rfl dX6_letter_47 hp (fun v4 hp => ?_)
      refine lv_iconst (v := 1) C.1 C.2.1 dX6_letter_50 (by decide) ?_
      refine lv_iadd C.1 C.2.1 dX6_letter_51 ?_
      refine w_pi C X fX6_48 rfl rfl rfl rfl dX6_letter_52 hp (fun H locs h3 X hp => ?_)
      refine lv_aload_n C.1 C.2.1 dX6_letter_55 rfl (lv_at hl 1 rfl) ?_
      refine w_gi C X fX6_48 rfl dX6_letter_56 hp (fun v5 hp => ?_)
      exact w_reti C X hr hlk (by decide) dX6_letter_59 hp
    · have hp := if_n _ c2 hp
      refine lv_aload_n C.1 C.2.1 dX6_letter_29 rfl (lv_at hl 1 rfl) ?_
      refine lv_iload_n C.1 C.2.1 dX6_letter_30 rfl (lv_at hl 0 rfl) ?_
      have hrc := (rc_some hp).1
      have hp := (rc_some hp).2
      refine w_ci (cells' := 0) (slots' := 0) X (fun _ _ e => run_V (As := [.int v2]) (c0 := 6) C X mX6_refuse miX6_refuse lX6_52 (by decide) rfl hrc (ct_X6_refuse l K p0 v2 h1 e) (by decide) (by decide) rfl (by decide) rfl hl.1 dX6_letter_31) (by decide) hp (fun v6 h4 H locs X hp => ?_)
      exact w_reti C X hr hlk (by decide) dX6_letter_34 hp
  · have hp := if_p _ c1 hp
    refine lv_aload_n C.1 C.2.1 dX6_letter_13 rfl (lv_at hl 1 rfl) ?_
    refine w_gi C X fX6_48 rfl dX6_letter_14 hp (fun v7 hp => ?_)
    refine lv_bipush (v := 64) C.1 C.2.1 dX6_letter_17 (by decide) ?_
    refine lv_icmp_ne (tgt := 25) C.1 C.2.1 dX6_letter_19 (by decide) (fun c3 => ?_) (fun c3 => ?_)
    · have hp := if_n _ c3 hp
      refine lv_iload_n C.1 C.2.1 dX6_letter_25 rfl (lv_at hl 0 rfl) ?_
      refine lv_if_eq (tgt := 35) C.1 C.2.1 dX6_letter_26 (by decide) (fun c4 => ?_) (fun c4 => ?_)
      · have hp := if_p _ c4 hp
        refine lv_aload_n C.1 C.2.1 dX6_letter_35 rfl (lv_at hl 1 rfl) ?_
        refine w_gr C X fX6_22 rfl dX6_letter_36 hp (fun q2 hp => ?_)
        refine lv_aload_n C.1 C.2.1 dX6_letter_39 rfl (lv_at hl 1 rfl) ?_
        refine w_gi C X fX6_48 rfl dX6_letter_40 hp (fun v8 hp => ?_)
        refine lv_iload_n C.1 C.2.1 dX6_letter_43 rfl (lv_at hl 2 rfl) ?_
        refine w_as C X dX6_letter_44 hp (fun H locs h5 X hp => ?_)
        refine lv_aload_n C.1 C.2.1 dX6_letter_45 rfl (lv_at hl 1 rfl) ?_
        refine lv_dup C.1 C.2.1 dX6_letter_46 rfl ?_
        refine w_gi C X fX6_48 rfl dX6_letter_47 hp (fun v9 hp => ?_)
        refine lv_iconst (v := 1) C.1 C.2.1 dX6_letter_50 (by decide) ?_
        refine lv_iadd C.1 C.2.1 dX6_letter_51 ?_
        refine w_pi C X fX6_48 rfl rfl rfl rfl dX6_letter_52 hp (fun H locs h6 X hp => ?_)
        refine lv_aload_n C.1 C.2.1 dX6_letter_55 rfl (lv_at hl 1 rfl) ?_
        refine w_gi C X fX6_48 rfl dX6_letter_56 hp (fun v10 hp => ?_)
        exact w_reti C X hr hlk (by decide) dX6_letter_59 hp
      · have hp := if_n _ c4 hp
        refine lv_aload_n C.1 C.2.1 dX6_letter_29 rfl (lv_at hl 1 rfl) ?_
        refine lv_iload_n C.1 C.2.1 dX6_letter_30 rfl (lv_at hl 0 rfl) ?_
        have hrc := (rc_some hp).1
        have hp := (rc_some hp).2
        refine w_ci (cells' := 0) (slots' := 0) X (fun _ _ e => run_V (As := [.int v2]) (c0 := 6) C X mX6_refuse miX6_refuse lX6_52 (by decide) rfl hrc (ct_X6_refuse l K p0 v2 h1 e) (by decide) (by decide) rfl (by decide) rfl hl.1 dX6_letter_31) (by decide) hp (fun v11 h7 H locs X hp => ?_)
        exact w_reti C X hr hlk (by decide) dX6_letter_34 hp
    · have hp := if_p _ c3 hp
      refine lv_bipush (v := -6) C.1 C.2.1 dX6_letter_22 (by decide) ?_
      refine w_istn C (fun v => [(2, .int (v)), (0, .ref (K.1 + p0)), (1, .int a1)]) dX6_letter_24 rfl hl (by decide) (fun _ => rfl) hp (fun v12 ls hl hp => ?_)
      refine lv_iload_n C.1 C.2.1 dX6_letter_25 rfl (lv_at hl 0 rfl) ?_
      refine lv_if_eq (tgt := 35) C.1 C.2.1 dX6_letter_26 (by decide) (fun c5 => ?_) (fun c5 => ?_)
      · have hp := if_p _ c5 hp
        refine lv_aload_n C.1 C.2.1 dX6_letter_35 rfl (lv_at hl 1 rfl) ?_
        refine w_gr C X fX6_22 rfl dX6_letter_36 hp (fun q3 hp => ?_)
        refine lv_aload_n C.1 C.2.1 dX6_letter_39 rfl (lv_at hl 1 rfl) ?_
        refine w_gi C X fX6_48 rfl dX6_letter_40 hp (fun v13 hp => ?_)
        refine lv_iload_n C.1 C.2.1 dX6_letter_43 rfl (lv_at hl 2 rfl) ?_
        refine w_as C X dX6_letter_44 hp (fun H locs h8 X hp => ?_)
        refine lv_aload_n C.1 C.2.1 dX6_letter_45 rfl (lv_at hl 1 rfl) ?_
        refine lv_dup C.1 C.2.1 dX6_letter_46 rfl ?_
        refine w_gi C X fX6_48 rfl dX6_letter_47 hp (fun v14 hp => ?_)
        refine lv_iconst (v := 1) C.1 C.2.1 dX6_letter_50 (by decide) ?_
        refine lv_iadd C.1 C.2.1 dX6_letter_51 ?_
        refine w_pi C X fX6_48 rfl rfl rfl rfl dX6_letter_52 hp (fun H locs h9 X hp => ?_)
        refine lv_aload_n C.1 C.2.1 dX6_letter_55 rfl (lv_at hl 1 rfl) ?_
        refine w_gi C X fX6_48 rfl dX6_letter_56 hp (fun v15 hp => ?_)
        exact w_reti C X hr hlk (by decide) dX6_letter_59 hp
      · have hp := if_n _ c5 hp
        refine lv_aload_n C.1 C.2.1 dX6_letter_29 rfl (lv_at hl 1 rfl) ?_
        refine lv_iload_n C.1 C.2.1 dX6_letter_30 rfl (lv_at hl 0 rfl) ?_
        have hrc := (rc_some hp).1
        have hp := (rc_some hp).2
        refine w_ci (cells' := 0) (slots' := 0) X (fun _ _ e => run_V (As := [.int v12]) (c0 := 6) C X mX6_refuse miX6_refuse lX6_52 (by decide) rfl hrc (ct_X6_refuse l K p0 v12 h1 e) (by decide) (by decide) rfl (by decide) rfl hl.1 dX6_letter_31) (by decide) hp (fun v16 h10 H locs X hp => ?_)
        exact w_reti C X hr hlk (by decide) dX6_letter_34 hp

abbrev rmX6_sign : Room := { frames := 0, cells := 0, slots := 0, locals := 0 }
def P_X6_sign (p0 : Nat) (h0 : Hp) : Option (Int32 × Hp) :=
    gi h0 p0 6 8 fun v1 =>
    gi h0 p0 6 7 fun v2 =>
    if v2 ≤ v1 then (
    some ((-1), h0))
    else (
    gr h0 p0 6 5 fun q1 =>
    gi h0 p0 6 8 fun v3 =>
    al h0 q1 v3 fun v4 =>
    some (v4, h0))

set_option maxHeartbeats 4000000 in
set_option maxRecDepth 100000 in
theorem ct_X6_sign (l : Launch) (K : Kt) (p0 : Nat) (h0 : Hp) {r : Int32} {h' : Hp} (hp : P_X6_sign p0 h0 = some (r, h')) : CT l K yX6_sign cX6_sign 1 (some FieldType.int) rmX6_sign [.ref (K.1 + p0)] h0 (Qi K r h') := by
  refine ct_of (own := RX6) (by decide +kernel) rfl (Nat.le_of_ble_eq_true rfl) ?_
  intro p e s m args below meth c C X hr hlk hm ls hl
  have hl : lv_has ls 1 [(0, .ref (K.1 + p0))] := hl
  unfold P_X6_sign at hp
  refine lv_aload_n C.1 C.2.1 dX6_sign_0 rfl (lv_at hl 0 rfl) ?_
  refine w_gi C X fX6_56 rfl dX6_sign_1 hp (fun v1 hp => ?_)
  refine lv_aload_n C.1 C.2.1 dX6_sign_4 rfl (lv_at hl 0 rfl) ?_
  refine w_gi C X fX6_48 rfl dX6_sign_5 hp (fun v2 hp => ?_)
  refine lv_icmp_ge (tgt := 23) C.1 C.2.1 dX6_sign_8 (by decide) (fun c1 => ?_) (fun c1 => ?_)
  · have hp := if_p _ c1 hp
    refine lv_iconst (v := -1) C.1 C.2.1 dX6_sign_23 (by decide) ?_
    exact w_reti C X hr hlk (by decide) dX6_sign_24 hp
  · have hp := if_n _ c1 hp
    refine lv_aload_n C.1 C.2.1 dX6_sign_11 rfl (lv_at hl 0 rfl) ?_
    refine w_gr C X fX6_22 rfl dX6_sign_12 hp (fun q1 hp => ?_)
    refine lv_aload_n C.1 C.2.1 dX6_sign_15 rfl (lv_at hl 0 rfl) ?_
    refine w_gi C X fX6_56 rfl dX6_sign_16 hp (fun v3 hp => ?_)
    refine w_al C X dX6_sign_19 hp (fun v4 hp => ?_)
    refine lv_goto (tgt := 24) C.1 C.2.1 dX6_sign_20 (by decide) ?_
    exact w_reti C X hr hlk (by decide) dX6_sign_24 hp

abbrev rmX6_takes : Room := { frames := 1, cells := 0, slots := 0, locals := 20 }
def P_X6_takes (p0 : Nat) (a1 : Int32) (h0 : Hp) : Option (Int32 × Hp) :=
    rc h0 p0 6 <| ci (P_X6_sign p0 h0) fun v1 h1 =>
    if v1 = a1 then (
    gi h1 p0 6 8 fun v2 =>
    pi h1 p0 6 8 (v2 + 1) fun h2 =>
    some (1, h2))
    else (
    some (0, h1))

set_option maxHeartbeats 4000000 in
set_option maxRecDepth 100000 in
theorem ct_X6_takes (l : Launch) (K : Kt) (p0 : Nat) (a1 : Int32) (h0 : Hp) {r : Int32} {h' : Hp} (hp : P_X6_takes p0 a1 h0 = some (r, h')) : CT l K yX6_takes cX6_takes 2 (some FieldType.boolean) rmX6_takes [.ref (K.1 + p0), .int a1] h0 (Qi K r h') := by
  refine ct_of (own := RX6) (by decide +kernel) rfl (Nat.le_of_ble_eq_true rfl) ?_
  intro p e s m args below meth c C X hr hlk hm ls hl
  have hl : lv_has ls 2 [(0, .ref (K.1 + p0)), (1, .int a1)] := hl
  unfold P_X6_takes at hp
  refine lv_aload_n C.1 C.2.1 dX6_takes_0 rfl (lv_at hl 0 rfl) ?_
  have hrc := (rc_some hp).1
  have hp := (rc_some hp).2
  refine w_ci (cells' := 0) (slots' := 0) X (fun _ _ e => run_V (As := []) (c0 := 6) C X mX6_sign miX6_sign lX6_59 (by decide) rfl hrc (ct_X6_sign l K p0 h0 e) (by decide) (by decide) rfl (by decide) rfl hl.1 dX6_takes_1) (by decide) hp (fun v1 h1 H locs X hp => ?_)
  refine lv_iload_n C.1 C.2.1 dX6_takes_4 rfl (lv_at hl 1 rfl) ?_
  refine lv_icmp_eq (tgt := 10) C.1 C.2.1 dX6_takes_5 (by decide) (fun c1 => ?_) (fun c1 => ?_)
  · have hp := if_p _ c1 hp
    refine lv_aload_n C.1 C.2.1 dX6_takes_10 rfl (lv_at hl 0 rfl) ?_
    refine lv_dup C.1 C.2.1 dX6_takes_11 rfl ?_
    refine w_gi C X fX6_56 rfl dX6_takes_12 hp (fun v2 hp => ?_)
    refine lv_iconst (v := 1) C.1 C.2.1 dX6_takes_15 (by decide) ?_
    refine lv_iadd C.1 C.2.1 dX6_takes_16 ?_
    refine w_pi C X fX6_56 rfl rfl rfl rfl dX6_takes_17 hp (fun H locs h2 X hp => ?_)
    refine lv_iconst (v := 1) C.1 C.2.1 dX6_takes_20 (by decide) ?_
    exact w_retz C X hr hlk (by decide) (by decide) dX6_takes_21 hp
  · have hp := if_n _ c1 hp
    refine lv_iconst (v := 0) C.1 C.2.1 dX6_takes_8 (by decide) ?_
    exact w_retz C X hr hlk (by decide) (by decide) dX6_takes_9 hp

abbrev rmX6_isDigit : Room := { frames := 1, cells := 0, slots := 0, locals := 20 }
def P_X6_isDigit (p0 : Nat) (h0 : Hp) : Option (Int32 × Hp) :=
    rc h0 p0 6 <| ci (P_X6_sign p0 h0) fun v1 h1 =>
    if v1 < 48 then (
    some (0, h1))
    else (
    rc h1 p0 6 <| ci (P_X6_sign p0 h1) fun v2 h2 =>
    if 57 < v2 then (
    some (0, h2))
    else (
    some (1, h2)))

set_option maxHeartbeats 4000000 in
set_option maxRecDepth 100000 in
theorem ct_X6_isDigit (l : Launch) (K : Kt) (p0 : Nat) (h0 : Hp) {r : Int32} {h' : Hp} (hp : P_X6_isDigit p0 h0 = some (r, h')) : CT l K yX6_isDigit cX6_isDigit 1 (some FieldType.boolean) rmX6_isDigit [.ref (K.1 + p0)] h0 (Qi K r h') := by
  refine ct_of (own := RX6) (by decide +kernel) rfl (Nat.le_of_ble_eq_true rfl) ?_
  intro p e s m args below meth c C X hr hlk hm ls hl
  have hl : lv_has ls 1 [(0, .ref (K.1 + p0))] := hl
  unfold P_X6_isDigit at hp
  refine lv_aload_n C.1 C.2.1 dX6_isDigit_0 rfl (lv_at hl 0 rfl) ?_
  have hrc := (rc_some hp).1
  have hp := (rc_some hp).2
  refine w_ci (cells' := 0) (slots' := 0) X (fun _ _ e => run_V (As := []) (c0 := 6) C X mX6_sign miX6_sign lX6_59 (by decide) rfl hrc (ct_X6_sign l K p0 h0 e) (by decide) (by decide) rfl (by decide) rfl hl.1 dX6_isDigit_1) (by decide) hp (fun v1 h1 H locs X hp => ?_)
  refine lv_bipush (v := 48) C.1 C.2.1 dX6_isDigit_4 (by decide) ?_
  refine lv_icmp_lt (tgt := 22) C.1 C.2.1 dX6_isDigit_6 (by decide) (fun c1 => ?_) (fun c1 => ?_)
  · have hp := if_p _ c1 hp
    refine lv_iconst (v := 0) C.1 C.2.1 dX6_isDigit_22 (by decide) ?_
    exact w_retz C X hr hlk (by decide) (by decide) dX6_isDigit_23 hp
  · have hp := if_n _ c1 hp
    refine lv_aload_n C.1 C.2.1 dX6_isDigit_9 rfl (lv_at hl 0 rfl) ?_
    have hrc := (rc_some hp).1
    have hp := (rc_some hp).2
    refine w_ci (cells' := 0) (slots' := 0) X (fun _ _ e => run_V (As := []) (c0 := 6) C X mX6_sign miX6_sign lX6_59 (by decide) rfl hrc (ct_X6_sign l K p0 h1 e) (by decide) (by decide) rfl (by decide) rfl hl.1 dX6_isDigit_10) (by decide) hp (fun v2 h2 H locs X hp => ?_)
    refine lv_bipush (v := 57) C.1 C.2.1 dX6_isDigit_13 (by decide) ?_
    refine lv_icmp_gt (tgt := 22) C.1 C.2.1 dX6_isDigit_15 (by decide) (fun c2 => ?_) (fun c2 => ?_)
    · have hp := if_p _ c2 hp
      refine lv_iconst (v := 0) C.1 C.2.1 dX6_isDigit_22 (by decide) ?_
      exact w_retz C X hr hlk (by decide) (by decide) dX6_isDigit_23 hp
    · have hp := if_n _ c2 hp
      refine lv_iconst (v := 1) C.1 C.2.1 dX6_isDigit_18 (by decide) ?_
      refine lv_goto (tgt := 23) C.1 C.2.1 dX6_isDigit_19 (by decide) ?_
      exact w_retz C X hr hlk (by decide) (by decide) dX6_isDigit_23 hp

abbrev rmX6_readsNumber : Room := { frames := 2, cells := 0, slots := 0, locals := 40 }
def P_X6_readsNumber_L9 : Nat → Nat → Int32 → Int32 → Int32 → Hp → Option (Int32 × Hp)
  | 0, _, _, _, _, _ => none
  | n + 1, q2, v2, v3, v4, h2 =>
    if v3 ≤ v4 then (
    if v4 ≤ 0 then (
    some (0, h2))
    else (
    some (1, h2)))
    else (
    rc h2 q2 6 <| ci (P_X6_isDigit q2 h2) fun v5 h3 =>
    if v5 = 0 then (
    if v4 ≤ 0 then (
    some (0, h3))
    else (
    some (1, h3)))
    else (
    gr h3 q2 6 6 fun q3 =>
    gr h3 q2 6 6 fun q4 =>
    al h3 q4 v2 fun v6 =>
    rc h3 q2 6 <| ci (P_X6_sign q2 h3) fun v7 h4 =>
    as h4 q3 v2 (((10 * v6) + v7) - 48) fun h5 =>
    gi h5 q2 6 8 fun v8 =>
    pi h5 q2 6 8 (v8 + 1) fun h6 =>
    lt ((v4 + 1) : Int32) fun v9 =>
    P_X6_readsNumber_L9 n q2 v2 v3 v9 h6))

def P_X6_readsNumber (p0 : Nat) (a1 : Int32) (a2 : Int32) (h0 : Hp) : Option (Int32 × Hp) :=
    gr h0 p0 6 6 fun q1 =>
    as h0 q1 a1 0 fun h1 =>
    lt (0 : Int32) fun v1 =>
    P_X6_readsNumber_L9 FU p0 a1 a2 v1 h1

set_option maxHeartbeats 4000000 in
set_option maxRecDepth 100000 in
theorem wl_X6_readsNumber_L9 (C : CX K p m c cX6_readsNumber 4 s args RX6) (hr : meth.sig.returnType = (some FieldType.boolean)) (hlk : meth.locks = false) {r : Int32} {h' : Hp} : ∀ (n : Nat) (q2 : Nat) (v2 : Int32) (v3 : Int32) (v4 : Int32) (h2 : Hp) (H : Heap) (locs : List Loc) (ls : Array Slot), HX K s.heap H locs h2 → lv_has ls 4 [(0, .ref (K.1 + q2)), (1, .int v2), (2, .int v3), (3, .int v4)] → P_X6_readsNumber_L9 n q2 v2 v3 v4 h2 = some (r, h') → W p l e rmX6_readsNumber s m args below meth c H locs 0 0 (MQ below (Qi K r h') args s rmX6_readsNumber.cells rmX6_readsNumber.slots (KA K)) (F0 m 9 ls []) := by
  intro n
  induction n with
  | zero =>
    intro  q2 v2 v3 v4 h2 H locs ls X hl hp
    cases hp
  | succ n ih =>
    intro  q2 v2 v3 v4 h2 H locs ls X hl hp
    unfold P_X6_readsNumber_L9 at hp
    refine lv_iload_n C.1 C.2.1 dX6_readsNumber_9 rfl (lv_at hl 3 rfl) ?_
    refine lv_iload_n C.1 C.2.1 dX6_readsNumber_10 rfl (lv_at hl 2 rfl) ?_
    refine lv_icmp_ge (tgt := 60) C.1 C.2.1 dX6_readsNumber_11 (by decide) (fun c1 => ?_) (fun c1 => ?_)
    · have hp := if_p _ c1 hp
      refine lv_iload_n C.1 C.2.1 dX6_readsNumber_60 rfl (lv_at hl 3 rfl) ?_
      refine lv_if_le (tgt := 68) C.1 C.2.1 dX6_readsNumber_61 (by decide) (fun c2 => ?_) (fun c2 => ?_)
      · have hp := if_p _ c2 hp
        refine lv_iconst (v := 0) C.1 C.2.1 dX6_readsNumber_68 (by decide) ?_
        exact w_retz C X hr hlk (by decide) (by decide) dX6_readsNumber_69 hp
      · have hp := if_n _ c2 hp
        refine lv_iconst (v := 1) C.1 C.2.1 dX6_readsNumber_64 (by decide) ?_
        refine lv_goto (tgt := 69) C.1 C.2.1 dX6_readsNumber_65 (by decide) ?_
        exact w_retz C X hr hlk (by decide) (by decide) dX6_readsNumber_69 hp
    · have hp := if_n _ c1 hp
      refine lv_aload_n C.1 C.2.1 dX6_readsNumber_14 rfl (lv_at hl 0 rfl) ?_
      have hrc := (rc_some hp).1
      have hp := (rc_some hp).2
      refine w_ci (cells' := 0) (slots' := 0) X (fun _ _ e => run_V (As := []) (c0 := 6) C X mX6_isDigit miX6_isDigit lX6_63 (by decide) rfl hrc (ct_X6_isDigit l K q2 h2 e) (by decide) (by decide) rfl (by decide) rfl hl.1 dX6_readsNumber_15) (by decide) hp (fun v5 h3 H locs X hp => ?_)
      refine lv_if_eq (tgt := 60) C.1 C.2.1 dX6_readsNumber_18 (by decide) (fun c3 => ?_) (fun c3 => ?_)
      · have hp := if_p _ c3 hp
        refine lv_iload_n C.1 C.2.1 dX6_readsNumber_60 rfl (lv_at hl 3 rfl) ?_
        refine lv_if_le (tgt := 68) C.1 C.2.1 dX6_readsNumber_61 (by decide) (fun c4 => ?_) (fun c4 => ?_)
        · have hp := if_p _ c4 hp
          refine lv_iconst (v := 0) C.1 C.2.1 dX6_readsNumber_68 (by decide) ?_
          exact w_retz C X hr hlk (by decide) (by decide) dX6_readsNumber_69 hp
        · have hp := if_n _ c4 hp
          refine lv_iconst (v := 1) C.1 C.2.1 dX6_readsNumber_64 (by decide) ?_
          refine lv_goto (tgt := 69) C.1 C.2.1 dX6_readsNumber_65 (by decide) ?_
          exact w_retz C X hr hlk (by decide) (by decide) dX6_readsNumber_69 hp
      · have hp := if_n _ c3 hp
        refine lv_aload_n C.1 C.2.1 dX6_readsNumber_21 rfl (lv_at hl 0 rfl) ?_
        refine w_gr C X fX6_25 rfl dX6_readsNumber_22 hp (fun q3 hp => ?_)
        refine lv_iload_n C.1 C.2.1 dX6_readsNumber_25 rfl (lv_at hl 1 rfl) ?_
        refine lv_bipush (v := 10) C.1 C.2.1 dX6_readsNumber_26 (by decide) ?_
        refine lv_aload_n C.1 C.2.1 dX6_readsNumber_28 rfl (lv_at hl 0 rfl) ?_
        refine w_gr C X fX6_25 rfl dX6_readsNumber_29 hp (fun q4 hp => ?_)
        refine lv_iload_n C.1 C.2.1 dX6_readsNumber_32 rfl (lv_at hl 1 rfl) ?_
        refine w_al C X dX6_readsNumber_33 hp (fun v6 hp => ?_)
        refine lv_imul C.1 C.2.1 dX6_readsNumber_34 ?_
        refine lv_aload_n C.1 C.2.1 dX6_readsNumber_35 rfl (lv_at hl 0 rfl) ?_
        have hrc := (rc_some hp).1
        have hp := (rc_some hp).2
        refine w_ci (cells' := 0) (slots' := 0) X (fun _ _ e => run_V (As := []) (c0 := 6) C X mX6_sign miX6_sign lX6_59 (by decide) rfl hrc (ct_X6_sign l K q2 h3 e) (by decide) (by decide) rfl (Nat.le_of_ble_eq_true rfl) rfl hl.1 dX6_readsNumber_36) (by decide) hp (fun v7 h4 H locs X hp => ?_)
        refine lv_iadd C.1 C.2.1 dX6_readsNumber_39 ?_
        refine lv_bipush (v := 48) C.1 C.2.1 dX6_readsNumber_40 (by decide) ?_
        refine lv_isub C.1 C.2.1 dX6_readsNumber_42 ?_
        refine w_as C X dX6_readsNumber_43 hp (fun H locs h5 X hp => ?_)
        refine lv_aload_n C.1 C.2.1 dX6_readsNumber_44 rfl (lv_at hl 0 rfl) ?_
        refine lv_dup C.1 C.2.1 dX6_readsNumber_45 rfl ?_
        refine w_gi C X fX6_56 rfl dX6_readsNumber_46 hp (fun v8 hp => ?_)
        refine lv_iconst (v := 1) C.1 C.2.1 dX6_readsNumber_49 (by decide) ?_
        refine lv_iadd C.1 C.2.1 dX6_readsNumber_50 ?_
        refine w_pi C X fX6_56 rfl rfl rfl rfl dX6_readsNumber_51 hp (fun H locs h6 X hp => ?_)
        refine w_inc (k := 3) C (fun v => [(3, .int (v)), (0, .ref (K.1 + q2)), (1, .int v2), (2, .int v3)]) dX6_readsNumber_54 hl rfl (y := (v4 + 1)) rfl (by decide) (fun _ => rfl) hp (fun v9 ls hl hp => ?_)
        refine lv_goto (tgt := 9) C.1 C.2.1 dX6_readsNumber_57 (by decide) ?_
        exact ih _ _ _ _ _ _ _ _ X (lv_sub hl [1, 2, 3, 0] rfl) hp

set_option maxHeartbeats 4000000 in
set_option maxRecDepth 100000 in
theorem ct_X6_readsNumber (l : Launch) (K : Kt) (p0 : Nat) (a1 : Int32) (a2 : Int32) (h0 : Hp) {r : Int32} {h' : Hp} (hp : P_X6_readsNumber p0 a1 a2 h0 = some (r, h')) : CT l K yX6_readsNumber cX6_readsNumber 4 (some FieldType.boolean) rmX6_readsNumber [.ref (K.1 + p0), .int a1, .int a2] h0 (Qi K r h') := by
  refine ct_of (own := RX6) (by decide +kernel) rfl (Nat.le_of_ble_eq_true rfl) ?_
  intro p e s m args below meth c C X hr hlk hm ls hl
  have hl : lv_has ls 4 [(0, .ref (K.1 + p0)), (1, .int a1), (2, .int a2)] := hl
  unfold P_X6_readsNumber at hp
  refine lv_aload_n C.1 C.2.1 dX6_readsNumber_0 rfl (lv_at hl 0 rfl) ?_
  refine w_gr C X fX6_25 rfl dX6_readsNumber_1 hp (fun q1 hp => ?_)
  refine lv_iload_n C.1 C.2.1 dX6_readsNumber_4 rfl (lv_at hl 1 rfl) ?_
  refine lv_iconst (v := 0) C.1 C.2.1 dX6_readsNumber_5 (by decide) ?_
  refine w_as C X dX6_readsNumber_6 hp (fun H locs h1 X hp => ?_)
  refine lv_iconst (v := 0) C.1 C.2.1 dX6_readsNumber_7 (by decide) ?_
  refine w_istn C (fun v => [(3, .int (v)), (0, .ref (K.1 + p0)), (1, .int a1), (2, .int a2)]) dX6_readsNumber_8 rfl hl (by decide) (fun _ => rfl) hp (fun v1 ls hl hp => ?_)
  exact wl_X6_readsNumber_L9 C hr hlk _ _ _ _ _ _ _ _ _ X (lv_sub hl [1, 2, 3, 0] rfl) hp

abbrev rmX6_readsRow : Room := { frames := 2, cells := 0, slots := 0, locals := 40 }
def P_X6_readsRow_L5 : Nat → Nat → Hp → Option (Int32 × Hp)
  | 0, _, _ => none
  | n + 1, q1, h2 =>
    gi h2 q1 6 9 fun v1 =>
    if 12 ≤ v1 then (
    gi h2 q1 6 9 fun v2 =>
    if v2 ≤ 0 then (
    some (0, h2))
    else (
    some (1, h2)))
    else (
    rc h2 q1 6 <| ci (P_X6_isDigit q1 h2) fun v3 h3 =>
    if v3 = 0 then (
    gi h3 q1 6 9 fun v4 =>
    if v4 ≤ 0 then (
    some (0, h3))
    else (
    some (1, h3)))
    else (
    gr h3 q1 6 6 fun q2 =>
    gi h3 q1 6 9 fun v5 =>
    rc h3 q1 6 <| ci (P_X6_sign q1 h3) fun v6 h4 =>
    as h4 q2 v5 (v6 - 48) fun h5 =>
    gi h5 q1 6 9 fun v7 =>
    pi h5 q1 6 9 (v7 + 1) fun h6 =>
    gi h6 q1 6 8 fun v8 =>
    pi h6 q1 6 8 (v8 + 1) fun h7 =>
    P_X6_readsRow_L5 n q1 h7))

def P_X6_readsRow (p0 : Nat) (h0 : Hp) : Option (Int32 × Hp) :=
    pi h0 p0 6 9 0 fun h1 =>
    P_X6_readsRow_L5 FU p0 h1

set_option maxHeartbeats 4000000 in
set_option maxRecDepth 100000 in
theorem wl_X6_readsRow_L5 (C : CX K p m c cX6_readsRow 1 s args RX6) (hr : meth.sig.returnType = (some FieldType.boolean)) (hlk : meth.locks = false) {r : Int32} {h' : Hp} : ∀ (n : Nat) (q1 : Nat) (h2 : Hp) (H : Heap) (locs : List Loc) (ls : Array Slot), HX K s.heap H locs h2 → lv_has ls 1 [(0, .ref (K.1 + q1))] → P_X6_readsRow_L5 n q1 h2 = some (r, h') → W p l e rmX6_readsRow s m args below meth c H locs 0 0 (MQ below (Qi K r h') args s rmX6_readsRow.cells rmX6_readsRow.slots (KA K)) (F0 m 5 ls []) := by
  intro n
  induction n with
  | zero =>
    intro  q1 h2 H locs ls X hl hp
    cases hp
  | succ n ih =>
    intro  q1 h2 H locs ls X hl hp
    unfold P_X6_readsRow_L5 at hp
    refine lv_aload_n C.1 C.2.1 dX6_readsRow_5 rfl (lv_at hl 0 rfl) ?_
    refine w_gi C X fX6_67 rfl dX6_readsRow_6 hp (fun v1 hp => ?_)
    refine lv_bipush (v := 12) C.1 C.2.1 dX6_readsRow_9 (by decide) ?_
    refine lv_icmp_ge (tgt := 60) C.1 C.2.1 dX6_readsRow_11 (by decide) (fun c1 => ?_) (fun c1 => ?_)
    · have hp := if_p _ c1 hp
      refine lv_aload_n C.1 C.2.1 dX6_readsRow_60 rfl (lv_at hl 0 rfl) ?_
      refine w_gi C X fX6_67 rfl dX6_readsRow_61 hp (fun v2 hp => ?_)
      refine lv_if_le (tgt := 71) C.1 C.2.1 dX6_readsRow_64 (by decide) (fun c2 => ?_) (fun c2 => ?_)
      · have hp := if_p _ c2 hp
        refine lv_iconst (v := 0) C.1 C.2.1 dX6_readsRow_71 (by decide) ?_
        exact w_retz C X hr hlk (by decide) (by decide) dX6_readsRow_72 hp
      · have hp := if_n _ c2 hp
        refine lv_iconst (v := 1) C.1 C.2.1 dX6_readsRow_67 (by decide) ?_
        refine lv_goto (tgt := 72) C.1 C.2.1 dX6_readsRow_68 (by decide) ?_
        exact w_retz C X hr hlk (by decide) (by decide) dX6_readsRow_72 hp
    · have hp := if_n _ c1 hp
      refine lv_aload_n C.1 C.2.1 dX6_readsRow_14 rfl (lv_at hl 0 rfl) ?_
      have hrc := (rc_some hp).1
      have hp := (rc_some hp).2
      refine w_ci (cells' := 0) (slots' := 0) X (fun _ _ e => run_V (As := []) (c0 := 6) C X mX6_isDigit miX6_isDigit lX6_63 (by decide) rfl hrc (ct_X6_isDigit l K q1 h2 e) (by decide) (by decide) rfl (by decide) rfl hl.1 dX6_readsRow_15) (by decide) hp (fun v3 h3 H locs X hp => ?_)
      refine lv_if_eq (tgt := 60) C.1 C.2.1 dX6_readsRow_18 (by decide) (fun c3 => ?_) (fun c3 => ?_)
      · have hp := if_p _ c3 hp
        refine lv_aload_n C.1 C.2.1 dX6_readsRow_60 rfl (lv_at hl 0 rfl) ?_
        refine w_gi C X fX6_67 rfl dX6_readsRow_61 hp (fun v4 hp => ?_)
        refine lv_if_le (tgt := 71) C.1 C.2.1 dX6_readsRow_64 (by decide) (fun c4 => ?_) (fun c4 => ?_)
        · have hp := if_p _ c4 hp
          refine lv_iconst (v := 0) C.1 C.2.1 dX6_readsRow_71 (by decide) ?_
          exact w_retz C X hr hlk (by decide) (by decide) dX6_readsRow_72 hp
        · have hp := if_n _ c4 hp
          refine lv_iconst (v := 1) C.1 C.2.1 dX6_readsRow_67 (by decide) ?_
          refine lv_goto (tgt := 72) C.1 C.2.1 dX6_readsRow_68 (by decide) ?_
          exact w_retz C X hr hlk (by decide) (by decide) dX6_readsRow_72 hp
      · have hp := if_n _ c3 hp
        refine lv_aload_n C.1 C.2.1 dX6_readsRow_21 rfl (lv_at hl 0 rfl) ?_
        refine w_gr C X fX6_25 rfl dX6_readsRow_22 hp (fun q2 hp => ?_)
        refine lv_aload_n C.1 C.2.1 dX6_readsRow_25 rfl (lv_at hl 0 rfl) ?_
        refine w_gi C X fX6_67 rfl dX6_readsRow_26 hp (fun v5 hp => ?_)
        refine lv_aload_n C.1 C.2.1 dX6_readsRow_29 rfl (lv_at hl 0 rfl) ?_
        have hrc := (rc_some hp).1
        have hp := (rc_some hp).2
        refine w_ci (cells' := 0) (slots' := 0) X (fun _ _ e => run_V (As := []) (c0 := 6) C X mX6_sign miX6_sign lX6_59 (by decide) rfl hrc (ct_X6_sign l K q1 h3 e) (by decide) (by decide) rfl (Nat.le_of_ble_eq_true rfl) rfl hl.1 dX6_readsRow_30) (by decide) hp (fun v6 h4 H locs X hp => ?_)
        refine lv_bipush (v := 48) C.1 C.2.1 dX6_readsRow_33 (by decide) ?_
        refine lv_isub C.1 C.2.1 dX6_readsRow_35 ?_
        refine w_as C X dX6_readsRow_36 hp (fun H locs h5 X hp => ?_)
        refine lv_aload_n C.1 C.2.1 dX6_readsRow_37 rfl (lv_at hl 0 rfl) ?_
        refine lv_dup C.1 C.2.1 dX6_readsRow_38 rfl ?_
        refine w_gi C X fX6_67 rfl dX6_readsRow_39 hp (fun v7 hp => ?_)
        refine lv_iconst (v := 1) C.1 C.2.1 dX6_readsRow_42 (by decide) ?_
        refine lv_iadd C.1 C.2.1 dX6_readsRow_43 ?_
        refine w_pi C X fX6_67 rfl rfl rfl rfl dX6_readsRow_44 hp (fun H locs h6 X hp => ?_)
        refine lv_aload_n C.1 C.2.1 dX6_readsRow_47 rfl (lv_at hl 0 rfl) ?_
        refine lv_dup C.1 C.2.1 dX6_readsRow_48 rfl ?_
        refine w_gi C X fX6_56 rfl dX6_readsRow_49 hp (fun v8 hp => ?_)
        refine lv_iconst (v := 1) C.1 C.2.1 dX6_readsRow_52 (by decide) ?_
        refine lv_iadd C.1 C.2.1 dX6_readsRow_53 ?_
        refine w_pi C X fX6_56 rfl rfl rfl rfl dX6_readsRow_54 hp (fun H locs h7 X hp => ?_)
        refine lv_goto (tgt := 5) C.1 C.2.1 dX6_readsRow_57 (by decide) ?_
        exact ih _ _ _ _ _ X (lv_sub hl [0] rfl) hp

set_option maxHeartbeats 4000000 in
set_option maxRecDepth 100000 in
theorem ct_X6_readsRow (l : Launch) (K : Kt) (p0 : Nat) (h0 : Hp) {r : Int32} {h' : Hp} (hp : P_X6_readsRow p0 h0 = some (r, h')) : CT l K yX6_readsRow cX6_readsRow 1 (some FieldType.boolean) rmX6_readsRow [.ref (K.1 + p0)] h0 (Qi K r h') := by
  refine ct_of (own := RX6) (by decide +kernel) rfl (Nat.le_of_ble_eq_true rfl) ?_
  intro p e s m args below meth c C X hr hlk hm ls hl
  have hl : lv_has ls 1 [(0, .ref (K.1 + p0))] := hl
  unfold P_X6_readsRow at hp
  refine lv_aload_n C.1 C.2.1 dX6_readsRow_0 rfl (lv_at hl 0 rfl) ?_
  refine lv_iconst (v := 0) C.1 C.2.1 dX6_readsRow_1 (by decide) ?_
  refine w_pi C X fX6_67 rfl rfl rfl rfl dX6_readsRow_2 hp (fun H locs h1 X hp => ?_)
  exact wl_X6_readsRow_L5 C hr hlk _ _ _ _ _ _ X (lv_sub hl [0] rfl) hp

abbrev rmX6_kindOf : Room := { frames := 0, cells := 0, slots := 0, locals := 0 }
def P_X6_kindOf (a0 : Int32) (h0 : Hp) : Option (Int32 × Hp) :=
    if a0 = 98 then (
    some (2, h0))
    else if a0 = 100 then (
    some (1, h0))
    else if a0 = 101 then (
    some (3, h0))
    else if a0 = 109 then (
    some (0, h0))
    else if a0 = 117 then (
    some (5, h0))
    else if a0 = 120 then (
    some (4, h0))
    else (
    some ((-9), h0))

set_option maxHeartbeats 4000000 in
set_option maxRecDepth 100000 in
theorem ct_X6_kindOf (l : Launch) (K : Kt) (a0 : Int32) (h0 : Hp) {r : Int32} {h' : Hp} (hp : P_X6_kindOf a0 h0 = some (r, h')) : CT l K yX6_kindOf cX6_kindOf 1 (some FieldType.int) rmX6_kindOf [.int a0] h0 (Qi K r h') := by
  refine ct_of (own := RX6) (by decide +kernel) rfl (Nat.le_of_ble_eq_true rfl) ?_
  intro p e s m args below meth c C X hr hlk hm ls hl
  have hl : lv_has ls 1 [(0, .int a0)] := hl
  unfold P_X6_kindOf at hp
  refine lv_iload_n C.1 C.2.1 dX6_kindOf_0 rfl (lv_at hl 0 rfl) ?_
  by_cases c1 : a0 = 98
  · have hp := if_p _ c1 hp
    refine w_lkC (tgt := 64) (off := 63) C dX6_kindOf_1 (by decide) c1 (by decide) (by decide) ?_
    refine lv_iconst (v := 2) C.1 C.2.1 dX6_kindOf_64 (by decide) ?_
    exact w_reti C X hr hlk (by decide) dX6_kindOf_65 hp
  · have hp := if_n _ c1 hp
    by_cases c2 : a0 = 100
    · have hp := if_p _ c2 hp
      refine w_lkC (tgt := 62) (off := 61) C dX6_kindOf_1 (by decide) c2 (by decide) (by decide) ?_
      refine lv_iconst (v := 1) C.1 C.2.1 dX6_kindOf_62 (by decide) ?_
      exact w_reti C X hr hlk (by decide) dX6_kindOf_63 hp
    · have hp := if_n _ c2 hp
      by_cases c3 : a0 = 101
      · have hp := if_p _ c3 hp
        refine w_lkC (tgt := 66) (off := 65) C dX6_kindOf_1 (by decide) c3 (by decide) (by decide) ?_
        refine lv_iconst (v := 3) C.1 C.2.1 dX6_kindOf_66 (by decide) ?_
        exact w_reti C X hr hlk (by decide) dX6_kindOf_67 hp
      · have hp := if_n _ c3 hp
        by_cases c4 : a0 = 109
        · have hp := if_p _ c4 hp
          refine w_lkC (tgt := 60) (off := 59) C dX6_kindOf_1 (by decide) c4 (by decide) (by decide) ?_
          refine lv_iconst (v := 0) C.1 C.2.1 dX6_kindOf_60 (by decide) ?_
          exact w_reti C X hr hlk (by decide) dX6_kindOf_61 hp
        · have hp := if_n _ c4 hp
          by_cases c5 : a0 = 117
          · have hp := if_p _ c5 hp
            refine w_lkC (tgt := 70) (off := 69) C dX6_kindOf_1 (by decide) c5 (by decide) (by decide) ?_
            refine lv_iconst (v := 5) C.1 C.2.1 dX6_kindOf_70 (by decide) ?_
            exact w_reti C X hr hlk (by decide) dX6_kindOf_71 hp
          · have hp := if_n _ c5 hp
            by_cases c6 : a0 = 120
            · have hp := if_p _ c6 hp
              refine w_lkC (tgt := 68) (off := 67) C dX6_kindOf_1 (by decide) c6 (by decide) (by decide) ?_
              refine lv_iconst (v := 4) C.1 C.2.1 dX6_kindOf_68 (by decide) ?_
              exact w_reti C X hr hlk (by decide) dX6_kindOf_69 hp
            · have hp := if_n _ c6 hp
              refine w_lkD (tgt := 72) C [98, 100, 101, 109, 117, 120] dX6_kindOf_1 (by decide) (by intro k hk; simp only [List.mem_cons, List.not_mem_nil, or_false] at hk; rcases hk with hk | hk | hk | hk | hk | hk <;> subst hk <;> assumption) (by decide) (by decide) ?_
              refine lv_bipush (v := -9) C.1 C.2.1 dX6_kindOf_72 (by decide) ?_
              exact w_reti C X hr hlk (by decide) dX6_kindOf_74 hp

abbrev rmX6_readsKind : Room := { frames := 1, cells := 0, slots := 0, locals := 20 }
def P_X6_readsKind (p0 : Nat) (h0 : Hp) : Option (Int32 × Hp) :=
    gr h0 p0 6 6 fun q1 =>
    rc h0 p0 6 <| ci (P_X6_sign p0 h0) fun v1 h1 =>
    ci (P_X6_kindOf v1 h1) fun v2 h2 =>
    as h2 q1 0 v2 fun h3 =>
    gr h3 p0 6 6 fun q2 =>
    al h3 q2 0 fun v3 =>
    if 0 ≤ v3 then (
    gi h3 p0 6 8 fun v4 =>
    pi h3 p0 6 8 (v4 + 1) fun h4 =>
    some (1, h4))
    else (
    some (0, h3))

set_option maxHeartbeats 4000000 in
set_option maxRecDepth 100000 in
theorem ct_X6_readsKind (l : Launch) (K : Kt) (p0 : Nat) (h0 : Hp) {r : Int32} {h' : Hp} (hp : P_X6_readsKind p0 h0 = some (r, h')) : CT l K yX6_readsKind cX6_readsKind 1 (some FieldType.boolean) rmX6_readsKind [.ref (K.1 + p0)] h0 (Qi K r h') := by
  refine ct_of (own := RX6) (by decide +kernel) rfl (Nat.le_of_ble_eq_true rfl) ?_
  intro p e s m args below meth c C X hr hlk hm ls hl
  have hl : lv_has ls 1 [(0, .ref (K.1 + p0))] := hl
  unfold P_X6_readsKind at hp
  refine lv_aload_n C.1 C.2.1 dX6_readsKind_0 rfl (lv_at hl 0 rfl) ?_
  refine w_gr C X fX6_25 rfl dX6_readsKind_1 hp (fun q1 hp => ?_)
  refine lv_iconst (v := 0) C.1 C.2.1 dX6_readsKind_4 (by decide) ?_
  refine lv_aload_n C.1 C.2.1 dX6_readsKind_5 rfl (lv_at hl 0 rfl) ?_
  have hrc := (rc_some hp).1
  have hp := (rc_some hp).2
  refine w_ci (cells' := 0) (slots' := 0) X (fun _ _ e => run_V (As := []) (c0 := 6) C X mX6_sign miX6_sign lX6_59 (by decide) rfl hrc (ct_X6_sign l K p0 h0 e) (by decide) (by decide) rfl (Nat.le_of_ble_eq_true rfl) rfl hl.1 dX6_readsKind_6) (by decide) hp (fun v1 h1 H locs X hp => ?_)
  refine w_ci (cells' := 0) (slots' := 0) X (fun _ _ e => run_S (As := [.int v1]) C X mX6_kindOf msX6_kindOf lX6_70 (ct_X6_kindOf l K v1 h1 e) (by decide) (by decide) rfl (Nat.le_of_ble_eq_true rfl) rfl hl.1 dX6_readsKind_9) (by decide) hp (fun v2 h2 H locs X hp => ?_)
  refine w_as C X dX6_readsKind_12 hp (fun H locs h3 X hp => ?_)
  refine lv_aload_n C.1 C.2.1 dX6_readsKind_13 rfl (lv_at hl 0 rfl) ?_
  refine w_gr C X fX6_25 rfl dX6_readsKind_14 hp (fun q2 hp => ?_)
  refine lv_iconst (v := 0) C.1 C.2.1 dX6_readsKind_17 (by decide) ?_
  refine w_al C X dX6_readsKind_18 hp (fun v3 hp => ?_)
  refine lv_if_ge (tgt := 24) C.1 C.2.1 dX6_readsKind_19 (by decide) (fun c1 => ?_) (fun c1 => ?_)
  · have hp := if_p _ c1 hp
    refine lv_aload_n C.1 C.2.1 dX6_readsKind_24 rfl (lv_at hl 0 rfl) ?_
    refine lv_dup C.1 C.2.1 dX6_readsKind_25 rfl ?_
    refine w_gi C X fX6_56 rfl dX6_readsKind_26 hp (fun v4 hp => ?_)
    refine lv_iconst (v := 1) C.1 C.2.1 dX6_readsKind_29 (by decide) ?_
    refine lv_iadd C.1 C.2.1 dX6_readsKind_30 ?_
    refine w_pi C X fX6_56 rfl rfl rfl rfl dX6_readsKind_31 hp (fun H locs h4 X hp => ?_)
    refine lv_iconst (v := 1) C.1 C.2.1 dX6_readsKind_34 (by decide) ?_
    exact w_retz C X hr hlk (by decide) (by decide) dX6_readsKind_35 hp
  · have hp := if_n _ c1 hp
    refine lv_iconst (v := 0) C.1 C.2.1 dX6_readsKind_22 (by decide) ?_
    exact w_retz C X hr hlk (by decide) (by decide) dX6_readsKind_23 hp

abbrev rmX6_readsStatement : Room := { frames := 3, cells := 0, slots := 0, locals := 63 }
def P_X6_readsStatement (p0 : Nat) (h0 : Hp) : Option (Int32 × Hp) :=
    rc h0 p0 6 <| ci (P_X6_sign p0 h0) fun v1 h1 =>
    lt (v1 : Int32) fun v2 =>
    lt (0 : Int32) fun v3 =>
    gi h1 p0 6 8 fun v4 =>
    pi h1 p0 6 8 (v4 + 1) fun h2 =>
    if v2 = 104 then (
    rc h2 p0 6 <| ci (P_X6_readsRow p0 h2) fun v5 h3 =>
    lt (v5 : Int32) fun v6 =>
    if v6 = 0 then (
    some (0, h3))
    else (
    rc h3 p0 6 <| ci (P_X6_takes p0 59 h3) fun v7 h4 =>
    if v7 = 0 then (
    some (0, h4))
    else (
    some (1, h4))))
    else if v2 = 107 then (
    rc h2 p0 6 <| ci (P_X6_readsNumber p0 0 1 h2) fun v8 h5 =>
    lt (v8 : Int32) fun v9 =>
    if v9 = 0 then (
    some (0, h5))
    else (
    rc h5 p0 6 <| ci (P_X6_takes p0 59 h5) fun v10 h6 =>
    if v10 = 0 then (
    some (0, h6))
    else (
    some (1, h6))))
    else if v2 = 110 then (
    rc h2 p0 6 <| ci (P_X6_readsNumber p0 0 2 h2) fun v11 h7 =>
    lt (v11 : Int32) fun v12 =>
    if v12 = 0 then (
    some (0, h7))
    else (
    rc h7 p0 6 <| ci (P_X6_takes p0 59 h7) fun v13 h8 =>
    if v13 = 0 then (
    some (0, h8))
    else (
    some (1, h8))))
    else if v2 = 112 then (
    rc h2 p0 6 <| ci (P_X6_readsKind p0 h2) fun v14 h9 =>
    if v14 = 0 then (
    lt (0 : Int32) fun v15 =>
    if v15 = 0 then (
    some (0, h9))
    else (
    rc h9 p0 6 <| ci (P_X6_takes p0 59 h9) fun v16 h10 =>
    if v16 = 0 then (
    some (0, h10))
    else (
    some (1, h10))))
    else (
    rc h9 p0 6 <| ci (P_X6_readsNumber p0 1 2 h9) fun v17 h11 =>
    if v17 = 0 then (
    lt (0 : Int32) fun v18 =>
    if v18 = 0 then (
    some (0, h11))
    else (
    rc h11 p0 6 <| ci (P_X6_takes p0 59 h11) fun v19 h12 =>
    if v19 = 0 then (
    some (0, h12))
    else (
    some (1, h12))))
    else (
    rc h11 p0 6 <| ci (P_X6_takes p0 44 h11) fun v20 h13 =>
    if v20 = 0 then (
    lt (0 : Int32) fun v21 =>
    if v21 = 0 then (
    some (0, h13))
    else (
    rc h13 p0 6 <| ci (P_X6_takes p0 59 h13) fun v22 h14 =>
    if v22 = 0 then (
    some (0, h14))
    else (
    some (1, h14))))
    else (
    rc h13 p0 6 <| ci (P_X6_readsNumber p0 2 2 h13) fun v23 h15 =>
    if v23 = 0 then (
    lt (0 : Int32) fun v24 =>
    if v24 = 0 then (
    some (0, h15))
    else (
    rc h15 p0 6 <| ci (P_X6_takes p0 59 h15) fun v25 h16 =>
    if v25 = 0 then (
    some (0, h16))
    else (
    some (1, h16))))
    else (
    rc h15 p0 6 <| ci (P_X6_takes p0 44 h15) fun v26 h17 =>
    if v26 = 0 then (
    lt (0 : Int32) fun v27 =>
    if v27 = 0 then (
    some (0, h17))
    else (
    rc h17 p0 6 <| ci (P_X6_takes p0 59 h17) fun v28 h18 =>
    if v28 = 0 then (
    some (0, h18))
    else (
    some (1, h18))))
    else (
    rc h17 p0 6 <| ci (P_X6_readsNumber p0 3 1 h17) fun v29 h19 =>
    if v29 = 0 then (
    lt (0 : Int32) fun v30 =>
    if v30 = 0 then (
    some (0, h19))
    else (
    rc h19 p0 6 <| ci (P_X6_takes p0 59 h19) fun v31 h20 =>
    if v31 = 0 then (
    some (0, h20))
    else (
    some (1, h20))))
    else (
    lt (1 : Int32) fun v32 =>
    if v32 = 0 then (
    some (0, h19))
    else (
    rc h19 p0 6 <| ci (P_X6_takes p0 59 h19) fun v33 h21 =>
    if v33 = 0 then (
    some (0, h21))
    else (
    some (1, h21))))))))))
    else if v2 = 115 then (
    rc h2 p0 6 <| ci (P_X6_readsNumber p0 0 2 h2) fun v34 h22 =>
    lt (v34 : Int32) fun v35 =>
    if v35 = 0 then (
    some (0, h22))
    else (
    rc h22 p0 6 <| ci (P_X6_takes p0 59 h22) fun v36 h23 =>
    if v36 = 0 then (
    some (0, h23))
    else (
    some (1, h23))))
    else if v2 = 119 then (
    rc h2 p0 6 <| ci (P_X6_readsRow p0 h2) fun v37 h24 =>
    lt (v37 : Int32) fun v38 =>
    if v38 = 0 then (
    some (0, h24))
    else (
    rc h24 p0 6 <| ci (P_X6_takes p0 59 h24) fun v39 h25 =>
    if v39 = 0 then (
    some (0, h25))
    else (
    some (1, h25))))
    else (
    gi h2 p0 6 8 fun v40 =>
    pi h2 p0 6 8 (v40 - 1) fun h26 =>
    some (0, h26))

set_option maxHeartbeats 4000000 in
set_option maxRecDepth 100000 in
theorem ct_X6_readsStatement (l : Launch) (K : Kt) (p0 : Nat) (h0 : Hp) {r : Int32} {h' : Hp} (hp : P_X6_readsStatement p0 h0 = some (r, h')) : CT l K yX6_readsStatement cX6_readsStatement 3 (some FieldType.boolean) rmX6_readsStatement [.ref (K.1 + p0)] h0 (Qi K r h') := by
  refine ct_of (own := RX6) (by decide +kernel) rfl (Nat.le_of_ble_eq_true rfl) ?_
  intro p e s m args below meth c C X hr hlk hm ls hl
  have hl : lv_has ls 3 [(0, .ref (K.1 + p0))] := hl
  unfold P_X6_readsStatement at hp
  refine lv_aload_n C.1 C.2.1 dX6_readsStatement_0 rfl (lv_at hl 0 rfl) ?_
  have hrc := (rc_some hp).1
  have hp := (rc_some hp).2
  refine w_ci (cells' := 0) (slots' := 0) X (fun _ _ e => run_V (As := []) (c0 := 6) C X mX6_sign miX6_sign lX6_59 (by decide) rfl hrc (ct_X6_sign l K p0 h0 e) (by decide) (by decide) rfl (by decide) rfl hl.1 dX6_readsStatement_1) (by decide) hp (fun v1 h1 H locs X hp => ?_)
  refine w_istn C (fun v => [(1, .int (v)), (0, .ref (K.1 + p0))]) dX6_readsStatement_4 rfl hl (by decide) (fun _ => rfl) hp (fun v2 ls hl hp => ?_)
  refine lv_iconst (v := 0) C.1 C.2.1 dX6_readsStatement_5 (by decide) ?_
  refine w_istn C (fun v => [(2, .int (v)), (1, .int v2), (0, .ref (K.1 + p0))]) dX6_readsStatement_6 rfl hl (by decide) (fun _ => rfl) hp (fun v3 ls hl hp => ?_)
  refine lv_aload_n C.1 C.2.1 dX6_readsStatement_7 rfl (lv_at hl 2 rfl) ?_
  refine lv_dup C.1 C.2.1 dX6_readsStatement_8 rfl ?_
  refine w_gi C X fX6_56 rfl dX6_readsStatement_9 hp (fun v4 hp => ?_)
  refine lv_iconst (v := 1) C.1 C.2.1 dX6_readsStatement_12 (by decide) ?_
  refine lv_iadd C.1 C.2.1 dX6_readsStatement_13 ?_
  refine w_pi C X fX6_56 rfl rfl rfl rfl dX6_readsStatement_14 hp (fun H locs h2 X hp => ?_)
  refine lv_iload_n C.1 C.2.1 dX6_readsStatement_17 rfl (lv_at hl 1 rfl) ?_
  by_cases c1 : v2 = 104
  · have hp := if_p _ c1 hp
    refine w_tsC (tgt := 177) C dX6_readsStatement_18 c1 (by decide) (by decide) rfl (by decide) ?_
    refine lv_aload_n C.1 C.2.1 dX6_readsStatement_177 rfl (lv_at hl 2 rfl) ?_
    have hrc := (rc_some hp).1
    have hp := (rc_some hp).2
    refine w_ci (cells' := 0) (slots' := 0) X (fun _ _ e => run_V (As := []) (c0 := 6) C X mX6_readsRow miX6_readsRow lX6_83 (by decide) rfl hrc (ct_X6_readsRow l K p0 h2 e) (by decide) (by decide) rfl (by decide) rfl hl.1 dX6_readsStatement_178) (by decide) hp (fun v5 h3 H locs X hp => ?_)
    refine w_istn C (fun v => [(2, .int (v)), (1, .int v2), (0, .ref (K.1 + p0))]) dX6_readsStatement_181 rfl hl (by decide) (fun _ => rfl) hp (fun v6 ls hl hp => ?_)
    refine lv_goto (tgt := 197) C.1 C.2.1 dX6_readsStatement_182 (by decide) ?_
    refine lv_iload_n C.1 C.2.1 dX6_readsStatement_197 rfl (lv_at hl 0 rfl) ?_
    refine lv_if_eq (tgt := 214) C.1 C.2.1 dX6_readsStatement_198 (by decide) (fun c2 => ?_) (fun c2 => ?_)
    · have hp := if_p _ c2 hp
      refine lv_iconst (v := 0) C.1 C.2.1 dX6_readsStatement_214 (by decide) ?_
      exact w_retz C X hr hlk (by decide) (by decide) dX6_readsStatement_215 hp
    · have hp := if_n _ c2 hp
      refine lv_aload_n C.1 C.2.1 dX6_readsStatement_201 rfl (lv_at hl 2 rfl) ?_
      refine lv_bipush (v := 59) C.1 C.2.1 dX6_readsStatement_202 (by decide) ?_
      have hrc := (rc_some hp).1
      have hp := (rc_some hp).2
      refine w_ci (cells' := 0) (slots' := 0) X (fun _ _ e => run_V (As := [.int 59]) (c0 := 6) C X mX6_takes miX6_takes lX6_79 (by decide) rfl hrc (ct_X6_takes l K p0 59 h3 e) (by decide) (by decide) rfl (by decide) rfl hl.1 dX6_readsStatement_204) (by decide) hp (fun v7 h4 H locs X hp => ?_)
      refine lv_if_eq (tgt := 214) C.1 C.2.1 dX6_readsStatement_207 (by decide) (fun c3 => ?_) (fun c3 => ?_)
      · have hp := if_p _ c3 hp
        refine lv_iconst (v := 0) C.1 C.2.1 dX6_readsStatement_214 (by decide) ?_
        exact w_retz C X hr hlk (by decide) (by decide) dX6_readsStatement_215 hp
      · have hp := if_n _ c3 hp
        refine lv_iconst (v := 1) C.1 C.2.1 dX6_readsStatement_210 (by decide) ?_
        refine lv_goto (tgt := 215) C.1 C.2.1 dX6_readsStatement_211 (by decide) ?_
        exact w_retz C X hr hlk (by decide) (by decide) dX6_readsStatement_215 hp
  · have hp := if_n _ c1 hp
    by_cases c4 : v2 = 107
    · have hp := if_p _ c4 hp
      refine w_tsC (tgt := 106) C dX6_readsStatement_18 c4 (by decide) (by decide) rfl (by decide) ?_
      refine lv_aload_n C.1 C.2.1 dX6_readsStatement_106 rfl (lv_at hl 2 rfl) ?_
      refine lv_iconst (v := 0) C.1 C.2.1 dX6_readsStatement_107 (by decide) ?_
      refine lv_iconst (v := 1) C.1 C.2.1 dX6_readsStatement_108 (by decide) ?_
      have hrc := (rc_some hp).1
      have hp := (rc_some hp).2
      refine w_ci (cells' := 0) (slots' := 0) X (fun _ _ e => run_V (As := [.int 0, .int 1]) (c0 := 6) C X mX6_readsNumber miX6_readsNumber lX6_73 (by decide) rfl hrc (ct_X6_readsNumber l K p0 0 1 h2 e) (by decide) (by decide) rfl (by decide) rfl hl.1 dX6_readsStatement_109) (by decide) hp (fun v8 h5 H locs X hp => ?_)
      refine w_istn C (fun v => [(2, .int (v)), (1, .int v2), (0, .ref (K.1 + p0))]) dX6_readsStatement_112 rfl hl (by decide) (fun _ => rfl) hp (fun v9 ls hl hp => ?_)
      refine lv_goto (tgt := 197) C.1 C.2.1 dX6_readsStatement_113 (by decide) ?_
      refine lv_iload_n C.1 C.2.1 dX6_readsStatement_197 rfl (lv_at hl 0 rfl) ?_
      refine lv_if_eq (tgt := 214) C.1 C.2.1 dX6_readsStatement_198 (by decide) (fun c5 => ?_) (fun c5 => ?_)
      · have hp := if_p _ c5 hp
        refine lv_iconst (v := 0) C.1 C.2.1 dX6_readsStatement_214 (by decide) ?_
        exact w_retz C X hr hlk (by decide) (by decide) dX6_readsStatement_215 hp
      · have hp := if_n _ c5 hp
        refine lv_aload_n C.1 C.2.1 dX6_readsStatement_201 rfl (lv_at hl 2 rfl) ?_
        refine lv_bipush (v := 59) C.1 C.2.1 dX6_readsStatement_202 (by decide) ?_
        have hrc := (rc_some hp).1
        have hp := (rc_some hp).2
        refine w_ci (cells' := 0) (slots' := 0) X (fun _ _ e => run_V (As := [.int 59]) (c0 := 6) C X mX6_takes miX6_takes lX6_79 (by decide) rfl hrc (ct_X6_takes l K p0 59 h5 e) (by decide) (by decide) rfl (by decide) rfl hl.1 dX6_readsStatement_204) (by decide) hp (fun v10 h6 H locs X hp => ?_)
        refine lv_if_eq (tgt := 214) C.1 C.2.1 dX6_readsStatement_207 (by decide) (fun c6 => ?_) (fun c6 => ?_)
        · have hp := if_p _ c6 hp
          refine lv_iconst (v := 0) C.1 C.2.1 dX6_readsStatement_214 (by decide) ?_
          exact w_retz C X hr hlk (by decide) (by decide) dX6_readsStatement_215 hp
        · have hp := if_n _ c6 hp
          refine lv_iconst (v := 1) C.1 C.2.1 dX6_readsStatement_210 (by decide) ?_
          refine lv_goto (tgt := 215) C.1 C.2.1 dX6_readsStatement_211 (by decide) ?_
          exact w_retz C X hr hlk (by decide) (by decide) dX6_readsStatement_215 hp
    · have hp := if_n _ c4 hp
      by_cases c7 : v2 = 110
      · have hp := if_p _ c7 hp
        refine w_tsC (tgt := 96) C dX6_readsStatement_18 c7 (by decide) (by decide) rfl (by decide) ?_
        refine lv_aload_n C.1 C.2.1 dX6_readsStatement_96 rfl (lv_at hl 2 rfl) ?_
        refine lv_iconst (v := 0) C.1 C.2.1 dX6_readsStatement_97 (by decide) ?_
        refine lv_iconst (v := 2) C.1 C.2.1 dX6_readsStatement_98 (by decide) ?_
        have hrc := (rc_some hp).1
        have hp := (rc_some hp).2
        refine w_ci (cells' := 0) (slots' := 0) X (fun _ _ e => run_V (As := [.int 0, .int 2]) (c0 := 6) C X mX6_readsNumber miX6_readsNumber lX6_73 (by decide) rfl hrc (ct_X6_readsNumber l K p0 0 2 h2 e) (by decide) (by decide) rfl (by decide) rfl hl.1 dX6_readsStatement_99) (by decide) hp (fun v11 h7 H locs X hp => ?_)
        refine w_istn C (fun v => [(2, .int (v)), (1, .int v2), (0, .ref (K.1 + p0))]) dX6_readsStatement_102 rfl hl (by decide) (fun _ => rfl) hp (fun v12 ls hl hp => ?_)
        refine lv_goto (tgt := 197) C.1 C.2.1 dX6_readsStatement_103 (by decide) ?_
        refine lv_iload_n C.1 C.2.1 dX6_readsStatement_197 rfl (lv_at hl 0 rfl) ?_
        refine lv_if_eq (tgt := 214) C.1 C.2.1 dX6_readsStatement_198 (by decide) (fun c8 => ?_) (fun c8 => ?_)
        · have hp := if_p _ c8 hp
          refine lv_iconst (v := 0) C.1 C.2.1 dX6_readsStatement_214 (by decide) ?_
          exact w_retz C X hr hlk (by decide) (by decide) dX6_readsStatement_215 hp
        · have hp := if_n _ c8 hp
          refine lv_aload_n C.1 C.2.1 dX6_readsStatement_201 rfl (lv_at hl 2 rfl) ?_
          refine lv_bipush (v := 59) C.1 C.2.1 dX6_readsStatement_202 (by decide) ?_
          have hrc := (rc_some hp).1
          have hp := (rc_some hp).2
          refine w_ci (cells' := 0) (slots' := 0) X (fun _ _ e => run_V (As := [.int 59]) (c0 := 6) C X mX6_takes miX6_takes lX6_79 (by decide) rfl hrc (ct_X6_takes l K p0 59 h7 e) (by decide) (by decide) rfl (by decide) rfl hl.1 dX6_readsStatement_204) (by decide) hp (fun v13 h8 H locs X hp => ?_)
          refine lv_if_eq (tgt := 214) C.1 C.2.1 dX6_readsStatement_207 (by decide) (fun c9 => ?_) (fun c9 => ?_)
          · have hp := if_p _ c9 hp
            refine lv_iconst (v := 0) C.1 C.2.1 dX6_readsStatement_214 (by decide) ?_
            exact w_retz C X hr hlk (by decide) (by decide) dX6_readsStatement_215 hp
          · have hp := if_n _ c9 hp
            refine lv_iconst (v := 1) C.1 C.2.1 dX6_readsStatement_210 (by decide) ?_
            refine lv_goto (tgt := 215) C.1 C.2.1 dX6_readsStatement_211 (by decide) ?_
            exact w_retz C X hr hlk (by decide) (by decide) dX6_readsStatement_215 hp
      · have hp := if_n _ c7 hp
        by_cases c10 : v2 = 112
        · have hp := if_p _ c10 hp
          refine w_tsC (tgt := 116) C dX6_readsStatement_18 c10 (by decide) (by decide) rfl (by decide) ?_
          refine lv_aload_n C.1 C.2.1 dX6_readsStatement_116 rfl (lv_at hl 2 rfl) ?_
          have hrc := (rc_some hp).1
          have hp := (rc_some hp).2
          refine w_ci (cells' := 0) (slots' := 0) X (fun _ _ e => run_V (As := []) (c0 := 6) C X mX6_readsKind miX6_readsKind lX6_76 (by decide) rfl hrc (ct_X6_readsKind l K p0 h2 e) (by decide) (by decide) rfl (by decide) rfl hl.1 dX6_readsStatement_117) (by decide) hp (fun v14 h9 H locs X hp => ?_)
          refine lv_if_eq (tgt := 172) C.1 C.2.1 dX6_readsStatement_120 (by decide) (fun c11 => ?_) (fun c11 => ?_)
          · have hp := if_p _ c11 hp
            refine lv_iconst (v := 0) C.1 C.2.1 dX6_readsStatement_172 (by decide) ?_
            refine w_istn C (fun v => [(2, .int (v)), (1, .int v2), (0, .ref (K.1 + p0))]) dX6_readsStatement_173 rfl hl (by decide) (fun _ => rfl) hp (fun v15 ls hl hp => ?_)
            refine lv_goto (tgt := 197) C.1 C.2.1 dX6_readsStatement_174 (by decide) ?_
            refine lv_iload_n C.1 C.2.1 dX6_readsStatement_197 rfl (lv_at hl 0 rfl) ?_
            refine lv_if_eq (tgt := 214) C.1 C.2.1 dX6_readsStatement_198 (by decide) (fun c12 => ?_) (fun c12 => ?_)
            · have hp := if_p _ c12 hp
              refine lv_iconst (v := 0) C.1 C.2.1 dX6_readsStatement_214 (by decide) ?_
              exact w_retz C X hr hlk (by decide) (by decide) dX6_readsStatement_215 hp
            · have hp := if_n _ c12 hp
              refine lv_aload_n C.1 C.2.1 dX6_readsStatement_201 rfl (lv_at hl 2 rfl) ?_
              refine lv_bipush (v := 59) C.1 C.2.1 dX6_readsStatement_202 (by decide) ?_
              have hrc := (rc_some hp).1
              have hp := (rc_some hp).2
              refine w_ci (cells' := 0) (slots' := 0) X (fun _ _ e => run_V (As := [.int 59]) (c0 := 6) C X mX6_takes miX6_takes lX6_79 (by decide) rfl hrc (ct_X6_takes l K p0 59 h9 e) (by decide) (by decide) rfl (by decide) rfl hl.1 dX6_readsStatement_204) (by decide) hp (fun v16 h10 H locs X hp => ?_)
              refine lv_if_eq (tgt := 214) C.1 C.2.1 dX6_readsStatement_207 (by decide) (fun c13 => ?_) (fun c13 => ?_)
              · have hp := if_p _ c13 hp
                refine lv_iconst (v := 0) C.1 C.2.1 dX6_readsStatement_214 (by decide) ?_
                exact w_retz C X hr hlk (by decide) (by decide) dX6_readsStatement_215 hp
              · have hp := if_n _ c13 hp
                refine lv_iconst (v := 1) C.1 C.2.1 dX6_readsStatement_210 (by decide) ?_
                refine lv_goto (tgt := 215) C.1 C.2.1 dX6_readsStatement_211 (by decide) ?_
                exact w_retz C X hr hlk (by decide) (by decide) dX6_readsStatement_215 hp
          · have hp := if_n _ c11 hp
            refine lv_aload_n C.1 C.2.1 dX6_readsStatement_123 rfl (lv_at hl 2 rfl) ?_
            refine lv_iconst (v := 1) C.1 C.2.1 dX6_readsStatement_124 (by decide) ?_
            refine lv_iconst (v := 2) C.1 C.2.1 dX6_readsStatement_125 (by decide) ?_
            have hrc := (rc_some hp).1
            have hp := (rc_some hp).2
            refine w_ci (cells' := 0) (slots' := 0) X (fun _ _ e => run_V (As := [.int 1, .int 2]) (c0 := 6) C X mX6_readsNumber miX6_readsNumber lX6_73 (by decide) rfl hrc (ct_X6_readsNumber l K p0 1 2 h9 e) (by decide) (by decide) rfl (by decide) rfl hl.1 dX6_readsStatement_126) (by decide) hp (fun v17 h11 H locs X hp => ?_)
            refine lv_if_eq (tgt := 172) C.1 C.2.1 dX6_readsStatement_129 (by decide) (fun c14 => ?_) (fun c14 => ?_)
            · have hp := if_p _ c14 hp
              refine lv_iconst (v := 0) C.1 C.2.1 dX6_readsStatement_172 (by decide) ?_
              refine w_istn C (fun v => [(2, .int (v)), (1, .int v2), (0, .ref (K.1 + p0))]) dX6_readsStatement_173 rfl hl (by decide) (fun _ => rfl) hp (fun v18 ls hl hp => ?_)
              refine lv_goto (tgt := 197) C.1 C.2.1 dX6_readsStatement_174 (by decide) ?_
              refine lv_iload_n C.1 C.2.1 dX6_readsStatement_197 rfl (lv_at hl 0 rfl) ?_
              refine lv_if_eq (tgt := 214) C.1 C.2.1 dX6_readsStatement_198 (by decide) (fun c15 => ?_) (fun c15 => ?_)
              · have hp := if_p _ c15 hp
                refine lv_iconst (v := 0) C.1 C.2.1 dX6_readsStatement_214 (by decide) ?_
                exact w_retz C X hr hlk (by decide) (by decide) dX6_readsStatement_215 hp
              · have hp := if_n _ c15 hp
                refine lv_aload_n C.1 C.2.1 dX6_readsStatement_201 rfl (lv_at hl 2 rfl) ?_
                refine lv_bipush (v := 59) C.1 C.2.1 dX6_readsStatement_202 (by decide) ?_
                have hrc := (rc_some hp).1
                have hp := (rc_some hp).2
                refine w_ci (cells' := 0) (slots' := 0) X (fun _ _ e => run_V (As := [.int 59]) (c0 := 6) C X mX6_takes miX6_takes lX6_79 (by decide) rfl hrc (ct_X6_takes l K p0 59 h11 e) (by decide) (by decide) rfl (by decide) rfl hl.1 dX6_readsStatement_204) (by decide) hp (fun v19 h12 H locs X hp => ?_)
                refine lv_if_eq (tgt := 214) C.1 C.2.1 dX6_readsStatement_207 (by decide) (fun c16 => ?_) (fun c16 => ?_)
                · have hp := if_p _ c16 hp
                  refine lv_iconst (v := 0) C.1 C.2.1 dX6_readsStatement_214 (by decide) ?_
                  exact w_retz C X hr hlk (by decide) (by decide) dX6_readsStatement_215 hp
                · have hp := if_n _ c16 hp
                  refine lv_iconst (v := 1) C.1 C.2.1 dX6_readsStatement_210 (by decide) ?_
                  refine lv_goto (tgt := 215) C.1 C.2.1 dX6_readsStatement_211 (by decide) ?_
                  exact w_retz C X hr hlk (by decide) (by decide) dX6_readsStatement_215 hp
            · have hp := if_n _ c14 hp
              refine lv_aload_n C.1 C.2.1 dX6_readsStatement_132 rfl (lv_at hl 2 rfl) ?_
              refine lv_bipush (v := 44) C.1 C.2.1 dX6_readsStatement_133 (by decide) ?_
              have hrc := (rc_some hp).1
              have hp := (rc_some hp).2
              refine w_ci (cells' := 0) (slots' := 0) X (fun _ _ e => run_V (As := [.int 44]) (c0 := 6) C X mX6_takes miX6_takes lX6_79 (by decide) rfl hrc (ct_X6_takes l K p0 44 h11 e) (by decide) (by decide) rfl (by decide) rfl hl.1 dX6_readsStatement_135) (by decide) hp (fun v20 h13 H locs X hp => ?_)
              refine lv_if_eq (tgt := 172) C.1 C.2.1 dX6_readsStatement_138 (by decide) (fun c17 => ?_) (fun c17 => ?_)
              · have hp := if_p _ c17 hp
                refine lv_iconst (v := 0) C.1 C.2.1 dX6_readsStatement_172 (by decide) ?_
                refine w_istn C (fun v => [(2, .int (v)), (1, .int v2), (0, .ref (K.1 + p0))]) dX6_readsStatement_173 rfl hl (by decide) (fun _ => rfl) hp (fun v21 ls hl hp => ?_)
                refine lv_goto (tgt := 197) C.1 C.2.1 dX6_readsStatement_174 (by decide) ?_
                refine lv_iload_n C.1 C.2.1 dX6_readsStatement_197 rfl (lv_at hl 0 rfl) ?_
                refine lv_if_eq (tgt := 214) C.1 C.2.1 dX6_readsStatement_198 (by decide) (fun c18 => ?_) (fun c18 => ?_)
                · have hp := if_p _ c18 hp
                  refine lv_iconst (v := 0) C.1 C.2.1 dX6_readsStatement_214 (by decide) ?_
                  exact w_retz C X hr hlk (by decide) (by decide) dX6_readsStatement_215 hp
                · have hp := if_n _ c18 hp
                  refine lv_aload_n C.1 C.2.1 dX6_readsStatement_201 rfl (lv_at hl 2 rfl) ?_
                  refine lv_bipush (v := 59) C.1 C.2.1 dX6_readsStatement_202 (by decide) ?_
                  have hrc := (rc_some hp).1
                  have hp := (rc_some hp).2
                  refine w_ci (cells' := 0) (slots' := 0) X (fun _ _ e => run_V (As := [.int 59]) (c0 := 6) C X mX6_takes miX6_takes lX6_79 (by decide) rfl hrc (ct_X6_takes l K p0 59 h13 e) (by decide) (by decide) rfl (by decide) rfl hl.1 dX6_readsStatement_204) (by decide) hp (fun v22 h14 H locs X hp => ?_)
                  refine lv_if_eq (tgt := 214) C.1 C.2.1 dX6_readsStatement_207 (by decide) (fun c19 => ?_) (fun c19 => ?_)
                  · have hp := if_p _ c19 hp
                    refine lv_iconst (v := 0) C.1 C.2.1 dX6_readsStatement_214 (by decide) ?_
                    exact w_retz C X hr hlk (by decide) (by decide) dX6_readsStatement_215 hp
                  · have hp := if_n _ c19 hp
                    refine lv_iconst (v := 1) C.1 C.2.1 dX6_readsStatement_210 (by decide) ?_
                    refine lv_goto (tgt := 215) C.1 C.2.1 dX6_readsStatement_211 (by decide) ?_
                    exact w_retz C X hr hlk (by decide) (by decide) dX6_readsStatement_215 hp
              · have hp := if_n _ c17 hp
                refine lv_aload_n C.1 C.2.1 dX6_readsStatement_141 rfl (lv_at hl 2 rfl) ?_
                refine lv_iconst (v := 2) C.1 C.2.1 dX6_readsStatement_142 (by decide) ?_
                refine lv_iconst (v := 2) C.1 C.2.1 dX6_readsStatement_143 (by decide) ?_
                have hrc := (rc_some hp).1
                have hp := (rc_some hp).2
                refine w_ci (cells' := 0) (slots' := 0) X (fun _ _ e => run_V (As := [.int 2, .int 2]) (c0 := 6) C X mX6_readsNumber miX6_readsNumber lX6_73 (by decide) rfl hrc (ct_X6_readsNumber l K p0 2 2 h13 e) (by decide) (by decide) rfl (by decide) rfl hl.1 dX6_readsStatement_144) (by decide) hp (fun v23 h15 H locs X hp => ?_)
                refine lv_if_eq (tgt := 172) C.1 C.2.1 dX6_readsStatement_147 (by decide) (fun c20 => ?_) (fun c20 => ?_)
                · have hp := if_p _ c20 hp
                  refine lv_iconst (v := 0) C.1 C.2.1 dX6_readsStatement_172 (by decide) ?_
                  refine w_istn C (fun v => [(2, .int (v)), (1, .int v2), (0, .ref (K.1 + p0))]) dX6_readsStatement_173 rfl hl (by decide) (fun _ => rfl) hp (fun v24 ls hl hp => ?_)
                  refine lv_goto (tgt := 197) C.1 C.2.1 dX6_readsStatement_174 (by decide) ?_
                  refine lv_iload_n C.1 C.2.1 dX6_readsStatement_197 rfl (lv_at hl 0 rfl) ?_
                  refine lv_if_eq (tgt := 214) C.1 C.2.1 dX6_readsStatement_198 (by decide) (fun c21 => ?_) (fun c21 => ?_)
                  · have hp := if_p _ c21 hp
                    refine lv_iconst (v := 0) C.1 C.2.1 dX6_readsStatement_214 (by decide) ?_
                    exact w_retz C X hr hlk (by decide) (by decide) dX6_readsStatement_215 hp
                  · have hp := if_n _ c21 hp
                    refine lv_aload_n C.1 C.2.1 dX6_readsStatement_201 rfl (lv_at hl 2 rfl) ?_
                    refine lv_bipush (v := 59) C.1 C.2.1 dX6_readsStatement_202 (by decide) ?_
                    have hrc := (rc_some hp).1
                    have hp := (rc_some hp).2
                    refine w_ci (cells' := 0) (slots' := 0) X (fun _ _ e => run_V (As := [.int 59]) (c0 := 6) C X mX6_takes miX6_takes lX6_79 (by decide) rfl hrc (ct_X6_takes l K p0 59 h15 e) (by decide) (by decide) rfl (by decide) rfl hl.1 dX6_readsStatement_204) (by decide) hp (fun v25 h16 H locs X hp => ?_)
                    refine lv_if_eq (tgt := 214) C.1 C.2.1 dX6_readsStatement_207 (by decide) (fun c22 => ?_) (fun c22 => ?_)
                    · have hp := if_p _ c22 hp
                      refine lv_iconst (v := 0) C.1 C.2.1 dX6_readsStatement_214 (by decide) ?_
                      exact w_retz C X hr hlk (by decide) (by decide) dX6_readsStatement_215 hp
                    · have hp := if_n _ c22 hp
                      refine lv_iconst (v := 1) C.1 C.2.1 dX6_readsStatement_210 (by decide) ?_
                      refine lv_goto (tgt := 215) C.1 C.2.1 dX6_readsStatement_211 (by decide) ?_
                      exact w_retz C X hr hlk (by decide) (by decide) dX6_readsStatement_215 hp
                · have hp := if_n _ c20 hp
                  refine lv_aload_n C.1 C.2.1 dX6_readsStatement_150 rfl (lv_at hl 2 rfl) ?_
                  refine lv_bipush (v := 44) C.1 C.2.1 dX6_readsStatement_151 (by decide) ?_
                  have hrc := (rc_some hp).1
                  have hp := (rc_some hp).2
                  refine w_ci (cells' := 0) (slots' := 0) X (fun _ _ e => run_V (As := [.int 44]) (c0 := 6) C X mX6_takes miX6_takes lX6_79 (by decide) rfl hrc (ct_X6_takes l K p0 44 h15 e) (by decide) (by decide) rfl (by decide) rfl hl.1 dX6_readsStatement_153) (by decide) hp (fun v26 h17 H locs X hp => ?_)
                  refine lv_if_eq (tgt := 172) C.1 C.2.1 dX6_readsStatement_156 (by decide) (fun c23 => ?_) (fun c23 => ?_)
                  · have hp := if_p _ c23 hp
                    refine lv_iconst (v := 0) C.1 C.2.1 dX6_readsStatement_172 (by decide) ?_
                    refine w_istn C (fun v => [(2, .int (v)), (1, .int v2), (0, .ref (K.1 + p0))]) dX6_readsStatement_173 rfl hl (by decide) (fun _ => rfl) hp (fun v27 ls hl hp => ?_)
                    refine lv_goto (tgt := 197) C.1 C.2.1 dX6_readsStatement_174 (by decide) ?_
                    refine lv_iload_n C.1 C.2.1 dX6_readsStatement_197 rfl (lv_at hl 0 rfl) ?_
                    refine lv_if_eq (tgt := 214) C.1 C.2.1 dX6_readsStatement_198 (by decide) (fun c24 => ?_) (fun c24 => ?_)
                    · have hp := if_p _ c24 hp
                      refine lv_iconst (v := 0) C.1 C.2.1 dX6_readsStatement_214 (by decide) ?_
                      exact w_retz C X hr hlk (by decide) (by decide) dX6_readsStatement_215 hp
                    · have hp := if_n _ c24 hp
                      refine lv_aload_n C.1 C.2.1 dX6_readsStatement_201 rfl (lv_at hl 2 rfl) ?_
                      refine lv_bipush (v := 59) C.1 C.2.1 dX6_readsStatement_202 (by decide) ?_
                      have hrc := (rc_some hp).1
                      have hp := (rc_some hp).2
                      refine w_ci (cells' := 0) (slots' := 0) X (fun _ _ e => run_V (As := [.int 59]) (c0 := 6) C X mX6_takes miX6_takes lX6_79 (by decide) rfl hrc (ct_X6_takes l K p0 59 h17 e) (by decide) (by decide) rfl (by decide) rfl hl.1 dX6_readsStatement_204) (by decide) hp (fun v28 h18 H locs X hp => ?_)
                      refine lv_if_eq (tgt := 214) C.1 C.2.1 dX6_readsStatement_207 (by decide) (fun c25 => ?_) (fun c25 => ?_)
                      · have hp := if_p _ c25 hp
                        refine lv_iconst (v := 0) C.1 C.2.1 dX6_readsStatement_214 (by decide) ?_
                        exact w_retz C X hr hlk (by decide) (by decide) dX6_readsStatement_215 hp
                      · have hp := if_n _ c25 hp
                        refine lv_iconst (v := 1) C.1 C.2.1 dX6_readsStatement_210 (by decide) ?_
                        refine lv_goto (tgt := 215) C.1 C.2.1 dX6_readsStatement_211 (by decide) ?_
                        exact w_retz C X hr hlk (by decide) (by decide) dX6_readsStatement_215 hp
                  · have hp := if_n _ c23 hp
                    refine lv_aload_n C.1 C.2.1 dX6_readsStatement_159 rfl (lv_at hl 2 rfl) ?_
                    refine lv_iconst (v := 3) C.1 C.2.1 dX6_readsStatement_160 (by decide) ?_
                    refine lv_iconst (v := 1) C.1 C.2.1 dX6_readsStatement_161 (by decide) ?_
                    have hrc := (rc_some hp).1
                    have hp := (rc_some hp).2
                    refine w_ci (cells' := 0) (slots' := 0) X (fun _ _ e => run_V (As := [.int 3, .int 1]) (c0 := 6) C X mX6_readsNumber miX6_readsNumber lX6_73 (by decide) rfl hrc (ct_X6_readsNumber l K p0 3 1 h17 e) (by decide) (by decide) rfl (by decide) rfl hl.1 dX6_readsStatement_162) (by decide) hp (fun v29 h19 H locs X hp => ?_)
                    refine lv_if_eq (tgt := 172) C.1 C.2.1 dX6_readsStatement_165 (by decide) (fun c26 => ?_) (fun c26 => ?_)
                    · have hp := if_p _ c26 hp
                      refine lv_iconst (v := 0) C.1 C.2.1 dX6_readsStatement_172 (by decide) ?_
                      refine w_istn C (fun v => [(2, .int (v)), (1, .int v2), (0, .ref (K.1 + p0))]) dX6_readsStatement_173 rfl hl (by decide) (fun _ => rfl) hp (fun v30 ls hl hp => ?_)
                      refine lv_goto (tgt := 197) C.1 C.2.1 dX6_readsStatement_174 (by decide) ?_
                      refine lv_iload_n C.1 C.2.1 dX6_readsStatement_197 rfl (lv_at hl 0 rfl) ?_
                      refine lv_if_eq (tgt := 214) C.1 C.2.1 dX6_readsStatement_198 (by decide) (fun c27 => ?_) (fun c27 => ?_)
                      · have hp := if_p _ c27 hp
                        refine lv_iconst (v := 0) C.1 C.2.1 dX6_readsStatement_214 (by decide) ?_
                        exact w_retz C X hr hlk (by decide) (by decide) dX6_readsStatement_215 hp
                      · have hp := if_n _ c27 hp
                        refine lv_aload_n C.1 C.2.1 dX6_readsStatement_201 rfl (lv_at hl 2 rfl) ?_
                        refine lv_bipush (v := 59) C.1 C.2.1 dX6_readsStatement_202 (by decide) ?_
                        have hrc := (rc_some hp).1
                        have hp := (rc_some hp).2
                        refine w_ci (cells' := 0) (slots' := 0) X (fun _ _ e => run_V (As := [.int 59]) (c0 := 6) C X mX6_takes miX6_takes lX6_79 (by decide) rfl hrc (ct_X6_takes l K p0 59 h19 e) (by decide) (by decide) rfl (by decide) rfl hl.1 dX6_readsStatement_204) (by decide) hp (fun v31 h20 H locs X hp => ?_)
                        refine lv_if_eq (tgt := 214) C.1 C.2.1 dX6_readsStatement_207 (by decide) (fun c28 => ?_) (fun c28 => ?_)
                        · have hp := if_p _ c28 hp
                          refine lv_iconst (v := 0) C.1 C.2.1 dX6_readsStatement_214 (by decide) ?_
                          exact w_retz C X hr hlk (by decide) (by decide) dX6_readsStatement_215 hp
                        · have hp := if_n _ c28 hp
                          refine lv_iconst (v := 1) C.1 C.2.1 dX6_readsStatement_210 (by decide) ?_
                          refine lv_goto (tgt := 215) C.1 C.2.1 dX6_readsStatement_211 (by decide) ?_
                          exact w_retz C X hr hlk (by decide) (by decide) dX6_readsStatement_215 hp
                    · have hp := if_n _ c26 hp
                      refine lv_iconst (v := 1) C.1 C.2.1 dX6_readsStatement_168 (by decide) ?_
                      refine lv_goto (tgt := 173) C.1 C.2.1 dX6_readsStatement_169 (by decide) ?_
                      refine w_istn C (fun v => [(2, .int (v)), (1, .int v2), (0, .ref (K.1 + p0))]) dX6_readsStatement_173 rfl hl (by decide) (fun _ => rfl) hp (fun v32 ls hl hp => ?_)
                      refine lv_goto (tgt := 197) C.1 C.2.1 dX6_readsStatement_174 (by decide) ?_
                      refine lv_iload_n C.1 C.2.1 dX6_readsStatement_197 rfl (lv_at hl 0 rfl) ?_
                      refine lv_if_eq (tgt := 214) C.1 C.2.1 dX6_readsStatement_198 (by decide) (fun c29 => ?_) (fun c29 => ?_)
                      · have hp := if_p _ c29 hp
                        refine lv_iconst (v := 0) C.1 C.2.1 dX6_readsStatement_214 (by decide) ?_
                        exact w_retz C X hr hlk (by decide) (by decide) dX6_readsStatement_215 hp
                      · have hp := if_n _ c29 hp
                        refine lv_aload_n C.1 C.2.1 dX6_readsStatement_201 rfl (lv_at hl 2 rfl) ?_
                        refine lv_bipush (v := 59) C.1 C.2.1 dX6_readsStatement_202 (by decide) ?_
                        have hrc := (rc_some hp).1
                        have hp := (rc_some hp).2
                        refine w_ci (cells' := 0) (slots' := 0) X (fun _ _ e => run_V (As := [.int 59]) (c0 := 6) C X mX6_takes miX6_takes lX6_79 (by decide) rfl hrc (ct_X6_takes l K p0 59 h19 e) (by decide) (by decide) rfl (by decide) rfl hl.1 dX6_readsStatement_204) (by decide) hp (fun v33 h21 H locs X hp => ?_)
                        refine lv_if_eq (tgt := 214) C.1 C.2.1 dX6_readsStatement_207 (by decide) (fun c30 => ?_) (fun c30 => ?_)
                        · have hp := if_p _ c30 hp
                          refine lv_iconst (v := 0) C.1 C.2.1 dX6_readsStatement_214 (by decide) ?_
                          exact w_retz C X hr hlk (by decide) (by decide) dX6_readsStatement_215 hp
                        · have hp := if_n _ c30 hp
                          refine lv_iconst (v := 1) C.1 C.2.1 dX6_readsStatement_210 (by decide) ?_
                          refine lv_goto (tgt := 215) C.1 C.2.1 dX6_readsStatement_211 (by decide) ?_
                          exact w_retz C X hr hlk (by decide) (by decide) dX6_readsStatement_215 hp
        · have hp := if_n _ c10 hp
          by_cases c31 : v2 = 115
          · have hp := if_p _ c31 hp
            refine w_tsC (tgt := 96) C dX6_readsStatement_18 c31 (by decide) (by decide) rfl (by decide) ?_
            refine lv_aload_n C.1 C.2.1 dX6_readsStatement_96 rfl (lv_at hl 2 rfl) ?_
            refine lv_iconst (v := 0) C.1 C.2.1 dX6_readsStatement_97 (by decide) ?_
            refine lv_iconst (v := 2) C.1 C.2.1 dX6_readsStatement_98 (by decide) ?_
            have hrc := (rc_some hp).1
            have hp := (rc_some hp).2
            refine w_ci (cells' := 0) (slots' := 0) X (fun _ _ e => run_V (As := [.int 0, .int 2]) (c0 := 6) C X mX6_readsNumber miX6_readsNumber lX6_73 (by decide) rfl hrc (ct_X6_readsNumber l K p0 0 2 h2 e) (by decide) (by decide) rfl (by decide) rfl hl.1 dX6_readsStatement_99) (by decide) hp (fun v34 h22 H locs X hp => ?_)
            refine w_istn C (fun v => [(2, .int (v)), (1, .int v2), (0, .ref (K.1 + p0))]) dX6_readsStatement_102 rfl hl (by decide) (fun _ => rfl) hp (fun v35 ls hl hp => ?_)
            refine lv_goto (tgt := 197) C.1 C.2.1 dX6_readsStatement_103 (by decide) ?_
            refine lv_iload_n C.1 C.2.1 dX6_readsStatement_197 rfl (lv_at hl 0 rfl) ?_
            refine lv_if_eq (tgt := 214) C.1 C.2.1 dX6_readsStatement_198 (by decide) (fun c32 => ?_) (fun c32 => ?_)
            · have hp := if_p _ c32 hp
              refine lv_iconst (v := 0) C.1 C.2.1 dX6_readsStatement_214 (by decide) ?_
              exact w_retz C X hr hlk (by decide) (by decide) dX6_readsStatement_215 hp
            · have hp := if_n _ c32 hp
              refine lv_aload_n C.1 C.2.1 dX6_readsStatement_201 rfl (lv_at hl 2 rfl) ?_
              refine lv_bipush (v := 59) C.1 C.2.1 dX6_readsStatement_202 (by decide) ?_
              have hrc := (rc_some hp).1
              have hp := (rc_some hp).2
              refine w_ci (cells' := 0) (slots' := 0) X (fun _ _ e => run_V (As := [.int 59]) (c0 := 6) C X mX6_takes miX6_takes lX6_79 (by decide) rfl hrc (ct_X6_takes l K p0 59 h22 e) (by decide) (by decide) rfl (by decide) rfl hl.1 dX6_readsStatement_204) (by decide) hp (fun v36 h23 H locs X hp => ?_)
              refine lv_if_eq (tgt := 214) C.1 C.2.1 dX6_readsStatement_207 (by decide) (fun c33 => ?_) (fun c33 => ?_)
              · have hp := if_p _ c33 hp
                refine lv_iconst (v := 0) C.1 C.2.1 dX6_readsStatement_214 (by decide) ?_
                exact w_retz C X hr hlk (by decide) (by decide) dX6_readsStatement_215 hp
              · have hp := if_n _ c33 hp
                refine lv_iconst (v := 1) C.1 C.2.1 dX6_readsStatement_210 (by decide) ?_
                refine lv_goto (tgt := 215) C.1 C.2.1 dX6_readsStatement_211 (by decide) ?_
                exact w_retz C X hr hlk (by decide) (by decide) dX6_readsStatement_215 hp
          · have hp := if_n _ c31 hp
            by_cases c34 : v2 = 119
            · have hp := if_p _ c34 hp
              refine w_tsC (tgt := 177) C dX6_readsStatement_18 c34 (by decide) (by decide) rfl (by decide) ?_
              refine lv_aload_n C.1 C.2.1 dX6_readsStatement_177 rfl (lv_at hl 2 rfl) ?_
              have hrc := (rc_some hp).1
              have hp := (rc_some hp).2
              refine w_ci (cells' := 0) (slots' := 0) X (fun _ _ e => run_V (As := []) (c0 := 6) C X mX6_readsRow miX6_readsRow lX6_83 (by decide) rfl hrc (ct_X6_readsRow l K p0 h2 e) (by decide) (by decide) rfl (by decide) rfl hl.1 dX6_readsStatement_178) (by decide) hp (fun v37 h24 H locs X hp => ?_)
              refine w_istn C (fun v => [(2, .int (v)), (1, .int v2), (0, .ref (K.1 + p0))]) dX6_readsStatement_181 rfl hl (by decide) (fun _ => rfl) hp (fun v38 ls hl hp => ?_)
              refine lv_goto (tgt := 197) C.1 C.2.1 dX6_readsStatement_182 (by decide) ?_
              refine lv_iload_n C.1 C.2.1 dX6_readsStatement_197 rfl (lv_at hl 0 rfl) ?_
              refine lv_if_eq (tgt := 214) C.1 C.2.1 dX6_readsStatement_198 (by decide) (fun c35 => ?_) (fun c35 => ?_)
              · have hp := if_p _ c35 hp
                refine lv_iconst (v := 0) C.1 C.2.1 dX6_readsStatement_214 (by decide) ?_
                exact w_retz C X hr hlk (by decide) (by decide) dX6_readsStatement_215 hp
              · have hp := if_n _ c35 hp
                refine lv_aload_n C.1 C.2.1 dX6_readsStatement_201 rfl (lv_at hl 2 rfl) ?_
                refine lv_bipush (v := 59) C.1 C.2.1 dX6_readsStatement_202 (by decide) ?_
                have hrc := (rc_some hp).1
                have hp := (rc_some hp).2
                refine w_ci (cells' := 0) (slots' := 0) X (fun _ _ e => run_V (As := [.int 59]) (c0 := 6) C X mX6_takes miX6_takes lX6_79 (by decide) rfl hrc (ct_X6_takes l K p0 59 h24 e) (by decide) (by decide) rfl (by decide) rfl hl.1 dX6_readsStatement_204) (by decide) hp (fun v39 h25 H locs X hp => ?_)
                refine lv_if_eq (tgt := 214) C.1 C.2.1 dX6_readsStatement_207 (by decide) (fun c36 => ?_) (fun c36 => ?_)
                · have hp := if_p _ c36 hp
                  refine lv_iconst (v := 0) C.1 C.2.1 dX6_readsStatement_214 (by decide) ?_
                  exact w_retz C X hr hlk (by decide) (by decide) dX6_readsStatement_215 hp
                · have hp := if_n _ c36 hp
                  refine lv_iconst (v := 1) C.1 C.2.1 dX6_readsStatement_210 (by decide) ?_
                  refine lv_goto (tgt := 215) C.1 C.2.1 dX6_readsStatement_211 (by decide) ?_
                  exact w_retz C X hr hlk (by decide) (by decide) dX6_readsStatement_215 hp
            · have hp := if_n _ c34 hp
              refine w_tsD (tgt := 185) C [104, 107, 110, 112, 115, 119] dX6_readsStatement_18 (by intro k hk; simp only [List.mem_cons, List.not_mem_nil, or_false] at hk; rcases hk with hk | hk | hk | hk | hk | hk <;> subst hk <;> assumption) (by decide) (by decide) (by decide) ?_
              refine lv_aload_n C.1 C.2.1 dX6_readsStatement_185 rfl (lv_at hl 2 rfl) ?_
              refine lv_dup C.1 C.2.1 dX6_readsStatement_186 rfl ?_
              refine w_gi C X fX6_56 rfl dX6_readsStatement_187 hp (fun v40 hp => ?_)
              refine lv_iconst (v := 1) C.1 C.2.1 dX6_readsStatement_190 (by decide) ?_
              refine lv_isub C.1 C.2.1 dX6_readsStatement_191 ?_
              refine w_pi C X fX6_56 rfl rfl rfl rfl dX6_readsStatement_192 hp (fun H locs h26 X hp => ?_)
              refine lv_iconst (v := 0) C.1 C.2.1 dX6_readsStatement_195 (by decide) ?_
              exact w_retz C X hr hlk (by decide) (by decide) dX6_readsStatement_196 hp

abbrev rmX6_clearsRead : Room := { frames := 0, cells := 0, slots := 0, locals := 0 }
def P_X6_clearsRead_L2 : Nat → Nat → Int32 → Hp → Option (Hp)
  | 0, _, _, _ => none
  | n + 1, q1, v2, h1 =>
    if 12 ≤ v2 then (
    some h1)
    else (
    gr h1 q1 6 3 fun q2 =>
    as h1 q2 (4 + v2) 0 fun h2 =>
    gr h2 q1 6 3 fun q3 =>
    as h2 q3 (16 + v2) 9 fun h3 =>
    gr h3 q1 6 3 fun q4 =>
    as h3 q4 (28 + v2) 0 fun h4 =>
    lt ((v2 + 1) : Int32) fun v3 =>
    P_X6_clearsRead_L2 n q1 v3 h4)

def P_X6_clearsRead (p0 : Nat) (h0 : Hp) : Option (Hp) :=
    lt (0 : Int32) fun v1 =>
    P_X6_clearsRead_L2 FU p0 v1 h0

set_option maxHeartbeats 4000000 in
set_option maxRecDepth 100000 in
theorem wl_X6_clearsRead_L2 (C : CX K p m c cX6_clearsRead 2 s args RX6) (hr : meth.sig.returnType = none) (hlk : meth.locks = false) {h' : Hp} : ∀ (n : Nat) (q1 : Nat) (v2 : Int32) (h1 : Hp) (H : Heap) (locs : List Loc) (ls : Array Slot), HX K s.heap H locs h1 → lv_has ls 2 [(0, .ref (K.1 + q1)), (1, .int v2)] → P_X6_clearsRead_L2 n q1 v2 h1 = some h' → W p l e rmX6_clearsRead s m args below meth c H locs 0 0 (MQ below (Qv K h') args s rmX6_clearsRead.cells rmX6_clearsRead.slots (KA K)) (F0 m 2 ls []) := by
  intro n
  induction n with
  | zero =>
    intro  q1 v2 h1 H locs ls X hl hp
    cases hp
  | succ n ih =>
    intro  q1 v2 h1 H locs ls X hl hp
    unfold P_X6_clearsRead_L2 at hp
    refine lv_iload_n C.1 C.2.1 dX6_clearsRead_2 rfl (lv_at hl 1 rfl) ?_
    refine lv_bipush (v := 12) C.1 C.2.1 dX6_clearsRead_3 (by decide) ?_
    refine lv_icmp_ge (tgt := 44) C.1 C.2.1 dX6_clearsRead_5 (by decide) (fun c1 => ?_) (fun c1 => ?_)
    · have hp := if_p _ c1 hp
      exact w_retv C X hr hlk (by decide) dX6_clearsRead_44 hp
    · have hp := if_n _ c1 hp
      refine lv_aload_n C.1 C.2.1 dX6_clearsRead_8 rfl (lv_at hl 0 rfl) ?_
      refine w_gr C X fX6_19 rfl dX6_clearsRead_9 hp (fun q2 hp => ?_)
      refine lv_iconst (v := 4) C.1 C.2.1 dX6_clearsRead_12 (by decide) ?_
      refine lv_iload_n C.1 C.2.1 dX6_clearsRead_13 rfl (lv_at hl 1 rfl) ?_
      refine lv_iadd C.1 C.2.1 dX6_clearsRead_14 ?_
      refine lv_iconst (v := 0) C.1 C.2.1 dX6_clearsRead_15 (by decide) ?_
      refine w_as C X dX6_clearsRead_16 hp (fun H locs h2 X hp => ?_)
      refine lv_aload_n C.1 C.2.1 dX6_clearsRead_17 rfl (lv_at hl 0 rfl) ?_
      refine w_gr C X fX6_19 rfl dX6_clearsRead_18 hp (fun q3 hp => ?_)
      refine lv_bipush (v := 16) C.1 C.2.1 dX6_clearsRead_21 (by decide) ?_
      refine lv_iload_n C.1 C.2.1 dX6_clearsRead_23 rfl (lv_at hl 1 rfl) ?_
      refine lv_iadd C.1 C.2.1 dX6_clearsRead_24 ?_
      refine lv_bipush (v := 9) C.1 C.2.1 dX6_clearsRead_25 (by decide) ?_
      refine w_as C X dX6_clearsRead_27 hp (fun H locs h3 X hp => ?_)
      refine lv_aload_n C.1 C.2.1 dX6_clearsRead_28 rfl (lv_at hl 0 rfl) ?_
      refine w_gr C X fX6_19 rfl dX6_clearsRead_29 hp (fun q4 hp => ?_)
      refine lv_bipush (v := 28) C.1 C.2.1 dX6_clearsRead_32 (by decide) ?_
      refine lv_iload_n C.1 C.2.1 dX6_clearsRead_34 rfl (lv_at hl 1 rfl) ?_
      refine lv_iadd C.1 C.2.1 dX6_clearsRead_35 ?_
      refine lv_iconst (v := 0) C.1 C.2.1 dX6_clearsRead_36 (by decide) ?_
      refine w_as C X dX6_clearsRead_37 hp (fun H locs h4 X hp => ?_)
      refine w_inc (k := 1) C (fun v => [(1, .int (v)), (0, .ref (K.1 + q1))]) dX6_clearsRead_38 hl rfl (y := (v2 + 1)) rfl (by decide) (fun _ => rfl) hp (fun v3 ls hl hp => ?_)
      refine lv_goto (tgt := 2) C.1 C.2.1 dX6_clearsRead_41 (by decide) ?_
      exact ih _ _ _ _ _ _ X (lv_sub hl [1, 0] rfl) hp

set_option maxHeartbeats 4000000 in
set_option maxRecDepth 100000 in
theorem ct_X6_clearsRead (l : Launch) (K : Kt) (p0 : Nat) (h0 : Hp) {h' : Hp} (hp : P_X6_clearsRead p0 h0 = some h') : CT l K yX6_clearsRead cX6_clearsRead 2 none rmX6_clearsRead [.ref (K.1 + p0)] h0 (Qv K h') := by
  refine ct_of (own := RX6) (by decide +kernel) rfl (Nat.le_of_ble_eq_true rfl) ?_
  intro p e s m args below meth c C X hr hlk hm ls hl
  have hl : lv_has ls 2 [(0, .ref (K.1 + p0))] := hl
  unfold P_X6_clearsRead at hp
  refine lv_iconst (v := 0) C.1 C.2.1 dX6_clearsRead_0 (by decide) ?_
  refine w_istn C (fun v => [(1, .int (v)), (0, .ref (K.1 + p0))]) dX6_clearsRead_1 rfl hl (by decide) (fun _ => rfl) hp (fun v1 ls hl hp => ?_)
  exact wl_X6_clearsRead_L2 C hr hlk _ _ _ _ _ _ _ X (lv_sub hl [1, 0] rfl) hp

abbrev rmX6_comesRow : Room := { frames := 0, cells := 0, slots := 0, locals := 0 }
def P_X6_comesRow_L17 : Nat → Nat → Int32 → Int32 → Hp → (Hp → Option (Int32 × Hp)) → Option (Int32 × Hp)
  | 0, _, _, _, _, _ => none
  | n + 1, q2, v4, v5, h1, kont =>
    gi h1 q2 6 9 fun v6 =>
    if v6 ≤ v5 then (
    kont h1)
    else (
    gr h1 q2 6 6 fun q3 =>
    al h1 q3 v5 fun v7 =>
    gr h1 q2 6 3 fun q4 =>
    al h1 q4 1 fun v8 =>
    if v7 < v8 then (
    lt ((v5 + 1) : Int32) fun v9 =>
    P_X6_comesRow_L17 n q2 v4 v9 h1 kont)
    else (
    if v4 = 104 then (
    some (0, h1))
    else (
    gr h1 q2 6 6 fun q5 =>
    al h1 q5 v5 fun v10 =>
    if v10 = 9 then (
    lt ((v5 + 1) : Int32) fun v11 =>
    P_X6_comesRow_L17 n q2 v4 v11 h1 kont)
    else (
    some (0, h1)))))

def P_X6_comesRow_L67 : Nat → Nat → Int32 → Int32 → Hp → Option (Int32 × Hp)
  | 0, _, _, _, _ => none
  | n + 1, q6, v13, v14, h3 =>
    gi h3 q6 6 9 fun v15 =>
    if v15 ≤ v14 then (
    some (1, h3))
    else (
    gr h3 q6 6 3 fun q7 =>
    if v13 = 104 then (
    gr h3 q6 6 6 fun q9 =>
    al h3 q9 v14 fun v18 =>
    as h3 q7 (4 + v14) v18 fun h5 =>
    lt ((v14 + 1) : Int32) fun v19 =>
    P_X6_comesRow_L67 n q6 v13 v19 h5)
    else (
    gr h3 q6 6 6 fun q8 =>
    al h3 q8 v14 fun v16 =>
    as h3 q7 (16 + v14) v16 fun h4 =>
    lt ((v14 + 1) : Int32) fun v17 =>
    P_X6_comesRow_L67 n q6 v13 v17 h4))

def P_X6_comesRow (p0 : Nat) (a1 : Int32) (h0 : Hp) : Option (Int32 × Hp) :=
    gi h0 p0 6 9 fun v1 =>
    gr h0 p0 6 3 fun q1 =>
    al h0 q1 0 fun v2 =>
    if v1 = v2 then (
    lt (0 : Int32) fun v3 =>
    P_X6_comesRow_L17 FU p0 a1 v3 h0 fun h2 =>
    lt (0 : Int32) fun v12 =>
    P_X6_comesRow_L67 FU p0 a1 v12 h2)
    else (
    some (0, h0))

set_option maxHeartbeats 4000000 in
set_option maxRecDepth 100000 in
theorem wl_X6_comesRow_L17 (C : CX K p m c cX6_comesRow 3 s args RX6) (hr : meth.sig.returnType = (some FieldType.boolean)) (hlk : meth.locks = false) {r : Int32} {h' : Hp} : ∀ (n : Nat) (q2 : Nat) (v4 : Int32) (v5 : Int32) (h1 : Hp) (kont : Hp → Option (Int32 × Hp)) (H : Heap) (locs : List Loc) (ls : Array Slot), HX K s.heap H locs h1 → lv_has ls 3 [(0, .ref (K.1 + q2)), (1, .int v4), (2, .int v5)] → P_X6_comesRow_L17 n q2 v4 v5 h1 kont = some (r, h') → (∀  (hk : Hp) (H : Heap) (locs : List Loc) (ls : Array Slot), HX K s.heap H locs hk → lv_has ls 3 [(0, .ref (K.1 + q2)), (1, .int v4)] → kont  hk = some (r, h') → W p l e rmX6_comesRow s m args below meth c H locs 0 0 (MQ below (Qi K r h') args s rmX6_comesRow.cells rmX6_comesRow.slots (KA K)) (F0 m 65 ls [])) → W p l e rmX6_comesRow s m args below meth c H locs 0 0 (MQ below (Qi K r h') args s rmX6_comesRow.cells rmX6_comesRow.slots (KA K)) (F0 m 17 ls []) := by
  intro n
  induction n with
  | zero =>
    intro  q2 v4 v5 h1 kont H locs ls X hl hp hk
    cases hp
  | succ n ih =>
    intro  q2 v4 v5 h1 kont H locs ls X hl hp hk
    unfold P_X6_comesRow_L17 at hp
    refine lv_iload_n C.1 C.2.1 dX6_comesRow_17 rfl (lv_at hl 2 rfl) ?_
    refine lv_aload_n C.1 C.2.1 dX6_comesRow_18 rfl (lv_at hl 0 rfl) ?_
    refine w_gi C X fX6_67 rfl dX6_comesRow_19 hp (fun v6 hp => ?_)
    refine lv_icmp_ge (tgt := 65) C.1 C.2.1 dX6_comesRow_22 (by decide) (fun c2 => ?_) (fun c2 => ?_)
    · have hp := if_p _ c2 hp
      exact hk _ _ _ _ X (lv_sub hl [0, 1] rfl) hp
    · have hp := if_n _ c2 hp
      refine lv_aload_n C.1 C.2.1 dX6_comesRow_25 rfl (lv_at hl 0 rfl) ?_
      refine w_gr C X fX6_25 rfl dX6_comesRow_26 hp (fun q3 hp => ?_)
      refine lv_iload_n C.1 C.2.1 dX6_comesRow_29 rfl (lv_at hl 2 rfl) ?_
      refine w_al C X dX6_comesRow_30 hp (fun v7 hp => ?_)
      refine lv_aload_n C.1 C.2.1 dX6_comesRow_31 rfl (lv_at hl 0 rfl) ?_
      refine w_gr C X fX6_19 rfl dX6_comesRow_32 hp (fun q4 hp => ?_)
      refine lv_iconst (v := 1) C.1 C.2.1 dX6_comesRow_35 (by decide) ?_
      refine w_al C X dX6_comesRow_36 hp (fun v8 hp => ?_)
      refine lv_icmp_lt (tgt := 59) C.1 C.2.1 dX6_comesRow_37 (by decide) (fun c3 => ?_) (fun c3 => ?_)
      · have hp := if_p _ c3 hp
        refine w_inc (k := 2) C (fun v => [(2, .int (v)), (0, .ref (K.1 + q2)), (1, .int v4)]) dX6_comesRow_59 hl rfl (y := (v5 + 1)) rfl (by decide) (fun _ => rfl) hp (fun v9 ls hl hp => ?_)
        refine lv_goto (tgt := 17) C.1 C.2.1 dX6_comesRow_62 (by decide) ?_
        exact ih _ _ _ _ _ _ _ _ X (lv_sub hl [1, 2, 0] rfl) hp hk
      · have hp := if_n _ c3 hp
        refine lv_iload_n C.1 C.2.1 dX6_comesRow_40 rfl (lv_at hl 1 rfl) ?_
        refine lv_bipush (v := 104) C.1 C.2.1 dX6_comesRow_41 (by decide) ?_
        refine lv_icmp_eq (tgt := 57) C.1 C.2.1 dX6_comesRow_43 (by decide) (fun c4 => ?_) (fun c4 => ?_)
        · have hp := if_p _ c4 hp
          refine lv_iconst (v := 0) C.1 C.2.1 dX6_comesRow_57 (by decide) ?_
          exact w_retz C X hr hlk (by decide) (by decide) dX6_comesRow_58 hp
        · have hp := if_n _ c4 hp
          refine lv_aload_n C.1 C.2.1 dX6_comesRow_46 rfl (lv_at hl 0 rfl) ?_
          refine w_gr C X fX6_25 rfl dX6_comesRow_47 hp (fun q5 hp => ?_)
          refine lv_iload_n C.1 C.2.1 dX6_comesRow_50 rfl (lv_at hl 2 rfl) ?_
          refine w_al C X dX6_comesRow_51 hp (fun v10 hp => ?_)
          refine lv_bipush (v := 9) C.1 C.2.1 dX6_comesRow_52 (by decide) ?_
          refine lv_icmp_eq (tgt := 59) C.1 C.2.1 dX6_comesRow_54 (by decide) (fun c5 => ?_) (fun c5 => ?_)
          · have hp := if_p _ c5 hp
            refine w_inc (k := 2) C (fun v => [(2, .int (v)), (0, .ref (K.1 + q2)), (1, .int v4)]) dX6_comesRow_59 hl rfl (y := (v5 + 1)) rfl (by decide) (fun _ => rfl) hp (fun v11 ls hl hp => ?_)
            refine lv_goto (tgt := 17) C.1 C.2.1 dX6_comesRow_62 (by decide) ?_
            exact ih _ _ _ _ _ _ _ _ X (lv_sub hl [1, 2, 0] rfl) hp hk
          · have hp := if_n _ c5 hp
            refine lv_iconst (v := 0) C.1 C.2.1 dX6_comesRow_57 (by decide) ?_
            exact w_retz C X hr hlk (by decide) (by decide) dX6_comesRow_58 hp

set_option maxHeartbeats 4000000 in
set_option maxRecDepth 100000 in
theorem wl_X6_comesRow_L67 (C : CX K p m c cX6_comesRow 3 s args RX6) (hr : meth.sig.returnType = (some FieldType.boolean)) (hlk : meth.locks = false) {r : Int32} {h' : Hp} : ∀ (n : Nat) (q6 : Nat) (v13 : Int32) (v14 : Int32) (h3 : Hp) (H : Heap) (locs : List Loc) (ls : Array Slot), HX K s.heap H locs h3 → lv_has ls 3 [(0, .ref (K.1 + q6)), (1, .int v13), (2, .int v14)] → P_X6_comesRow_L67 n q6 v13 v14 h3 = some (r, h') → W p l e rmX6_comesRow s m args below meth c H locs 0 0 (MQ below (Qi K r h') args s rmX6_comesRow.cells rmX6_comesRow.slots (KA K)) (F0 m 67 ls []) := by
  intro n
  induction n with
  | zero =>
    intro  q6 v13 v14 h3 H locs ls X hl hp
    cases hp
  | succ n ih =>
    intro  q6 v13 v14 h3 H locs ls X hl hp
    unfold P_X6_comesRow_L67 at hp
    refine lv_iload_n C.1 C.2.1 dX6_comesRow_67 rfl (lv_at hl 2 rfl) ?_
    refine lv_aload_n C.1 C.2.1 dX6_comesRow_68 rfl (lv_at hl 0 rfl) ?_
    refine w_gi C X fX6_67 rfl dX6_comesRow_69 hp (fun v15 hp => ?_)
    refine lv_icmp_ge (tgt := 106) C.1 C.2.1 dX6_comesRow_72 (by decide) (fun c6 => ?_) (fun c6 => ?_)
    · have hp := if_p _ c6 hp
      refine lv_iconst (v := 1) C.1 C.2.1 dX6_comesRow_106 (by decide) ?_
      exact w_retz C X hr hlk (by decide) (by decide) dX6_comesRow_107 hp
    · have hp := if_n _ c6 hp
      refine lv_aload_n C.1 C.2.1 dX6_comesRow_75 rfl (lv_at hl 0 rfl) ?_
      refine w_gr C X fX6_19 rfl dX6_comesRow_76 hp (fun q7 hp => ?_)
      refine lv_iload_n C.1 C.2.1 dX6_comesRow_79 rfl (lv_at hl 1 rfl) ?_
      refine lv_bipush (v := 104) C.1 C.2.1 dX6_comesRow_80 (by decide) ?_
      refine lv_icmp_ne (tgt := 89) C.1 C.2.1 dX6_comesRow_82 (by decide) (fun c7 => ?_) (fun c7 => ?_)
      · have hp := if_n _ c7 hp
        refine lv_bipush (v := 16) C.1 C.2.1 dX6_comesRow_89 (by decide) ?_
        refine lv_iload_n C.1 C.2.1 dX6_comesRow_91 rfl (lv_at hl 2 rfl) ?_
        refine lv_iadd C.1 C.2.1 dX6_comesRow_92 ?_
        refine lv_aload_n C.1 C.2.1 dX6_comesRow_93 rfl (lv_at hl 0 rfl) ?_
        refine w_gr C X fX6_25 rfl dX6_comesRow_94 hp (fun q8 hp => ?_)
        refine lv_iload_n C.1 C.2.1 dX6_comesRow_97 rfl (lv_at hl 2 rfl) ?_
        refine w_al C X dX6_comesRow_98 hp (fun v16 hp => ?_)
        refine w_as C X dX6_comesRow_99 hp (fun H locs h4 X hp => ?_)
        refine w_inc (k := 2) C (fun v => [(2, .int (v)), (0, .ref (K.1 + q6)), (1, .int v13)]) dX6_comesRow_100 hl rfl (y := (v14 + 1)) rfl (by decide) (fun _ => rfl) hp (fun v17 ls hl hp => ?_)
        refine lv_goto (tgt := 67) C.1 C.2.1 dX6_comesRow_103 (by decide) ?_
        exact ih _ _ _ _ _ _ _ X (lv_sub hl [1, 2, 0] rfl) hp
      · have hp := if_p _ c7 hp
        refine lv_iconst (v := 4) C.1 C.2.1 dX6_comesRow_85 (by decide) ?_
        refine lv_goto (tgt := 91) C.1 C.2.1 dX6_comesRow_86 (by decide) ?_
        refine lv_iload_n C.1 C.2.1 dX6_comesRow_91 rfl (lv_at hl 2 rfl) ?_
        refine lv_iadd C.1 C.2.1 dX6_comesRow_92 ?_
        refine lv_aload_n C.1 C.2.1 dX6_comesRow_93 rfl (lv_at hl 0 rfl) ?_
        refine w_gr C X fX6_25 rfl dX6_comesRow_94 hp (fun q9 hp => ?_)
        refine lv_iload_n C.1 C.2.1 dX6_comesRow_97 rfl (lv_at hl 2 rfl) ?_
        refine w_al C X dX6_comesRow_98 hp (fun v18 hp => ?_)
        refine w_as C X dX6_comesRow_99 hp (fun H locs h5 X hp => ?_)
        refine w_inc (k := 2) C (fun v => [(2, .int (v)), (0, .ref (K.1 + q6)), (1, .int v13)]) dX6_comesRow_100 hl rfl (y := (v14 + 1)) rfl (by decide) (fun _ => rfl) hp (fun v19 ls hl hp => ?_)
        refine lv_goto (tgt := 67) C.1 C.2.1 dX6_comesRow_103 (by decide) ?_
        exact ih _ _ _ _ _ _ _ X (lv_sub hl [1, 2, 0] rfl) hp

set_option maxHeartbeats 4000000 in
set_option maxRecDepth 100000 in
theorem ct_X6_comesRow (l : Launch) (K : Kt) (p0 : Nat) (a1 : Int32) (h0 : Hp) {r : Int32} {h' : Hp} (hp : P_X6_comesRow p0 a1 h0 = some (r, h')) : CT l K yX6_comesRow cX6_comesRow 3 (some FieldType.boolean) rmX6_comesRow [.ref (K.1 + p0), .int a1] h0 (Qi K r h') := by
  refine ct_of (own := RX6) (by decide +kernel) rfl (Nat.le_of_ble_eq_true rfl) ?_
  intro p e s m args below meth c C X hr hlk hm ls hl
  have hl : lv_has ls 3 [(0, .ref (K.1 + p0)), (1, .int a1)] := hl
  unfold P_X6_comesRow at hp
  refine lv_aload_n C.1 C.2.1 dX6_comesRow_0 rfl (lv_at hl 0 rfl) ?_
  refine w_gi C X fX6_67 rfl dX6_comesRow_1 hp (fun v1 hp => ?_)
  refine lv_aload_n C.1 C.2.1 dX6_comesRow_4 rfl (lv_at hl 0 rfl) ?_
  refine w_gr C X fX6_19 rfl dX6_comesRow_5 hp (fun q1 hp => ?_)
  refine lv_iconst (v := 0) C.1 C.2.1 dX6_comesRow_8 (by decide) ?_
  refine w_al C X dX6_comesRow_9 hp (fun v2 hp => ?_)
  refine lv_icmp_eq (tgt := 15) C.1 C.2.1 dX6_comesRow_10 (by decide) (fun c1 => ?_) (fun c1 => ?_)
  · have hp := if_p _ c1 hp
    refine lv_iconst (v := 0) C.1 C.2.1 dX6_comesRow_15 (by decide) ?_
    refine w_istn C (fun v => [(2, .int (v)), (0, .ref (K.1 + p0)), (1, .int a1)]) dX6_comesRow_16 rfl hl (by decide) (fun _ => rfl) hp (fun v3 ls hl hp => ?_)
    refine wl_X6_comesRow_L17 C hr hlk _ _ _ _ _ _ _ _ _ X (lv_sub hl [1, 2, 0] rfl) hp (fun h2 H locs ls X hl hp => ?_)
    refine lv_iconst (v := 0) C.1 C.2.1 dX6_comesRow_65 (by decide) ?_
    refine w_istn C (fun v => [(2, .int (v)), (0, .ref (K.1 + p0)), (1, .int a1)]) dX6_comesRow_66 rfl hl (by decide) (fun _ => rfl) hp (fun v12 ls hl hp => ?_)
    exact wl_X6_comesRow_L67 C hr hlk _ _ _ _ _ _ _ _ X (lv_sub hl [1, 2, 0] rfl) hp
  · have hp := if_n _ c1 hp
    refine lv_iconst (v := 0) C.1 C.2.1 dX6_comesRow_13 (by decide) ?_
    exact w_retz C X hr hlk (by decide) (by decide) dX6_comesRow_14 hp

end
