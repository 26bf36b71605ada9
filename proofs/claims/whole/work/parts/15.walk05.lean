noncomputable section
variable {p : Program} {l : Launch} {e : Env} {s : State} {m : MethodId} {args : Array Value} {below : List Frame} {meth : Method} {c : Code} {K : Kt}
abbrev rmX6_comes : Room := { frames := 1, cells := 0, slots := 0, locals := 22 }
def P_X6_comes_L168 : Nat → Nat → Int32 → Hp → Option (Int32 × Hp)
  | 0, _, _, _ => none
  | n + 1, q10, v9, h7 =>
    if 4 ≤ v9 then (
    gr h7 q10 6 3 fun q11 =>
    al h7 q11 2 fun v10 =>
    as h7 q11 2 (v10 + 1) fun h8 =>
    some (1, h8))
    else (
    gr h7 q10 6 3 fun q12 =>
    gr h7 q10 6 3 fun q13 =>
    al h7 q13 2 fun v11 =>
    gr h7 q10 6 6 fun q14 =>
    al h7 q14 v9 fun v12 =>
    as h7 q12 ((40 + (4 * v11)) + v9) v12 fun h9 =>
    lt ((v9 + 1) : Int32) fun v13 =>
    P_X6_comes_L168 n q10 v13 h9)

def P_X6_comes (p0 : Nat) (a1 : Int32) (h0 : Hp) : Option (Int32 × Hp) :=
    gr h0 p0 6 6 fun q1 =>
    al h0 q1 0 fun v1 =>
    lt (v1 : Int32) fun v2 =>
    if a1 = 107 then (
    if v2 = 2 then (
    gr h0 p0 6 3 fun q2 =>
    as h0 q2 1 v2 fun h1 =>
    rc h1 p0 6 <| cv (P_X6_clearsRead p0 h1) fun h2 =>
    some (1, h2))
    else (
    if v2 = 3 then (
    gr h0 p0 6 3 fun q3 =>
    as h0 q3 1 v2 fun h3 =>
    rc h3 p0 6 <| cv (P_X6_clearsRead p0 h3) fun h4 =>
    some (1, h4))
    else (
    some (0, h0))))
    else if a1 = 110 then (
    if v2 < 1 then (
    some (0, h0))
    else (
    if v2 ≤ 12 then (
    gr h0 p0 6 3 fun q4 =>
    as h0 q4 0 v2 fun h5 =>
    rc h5 p0 6 <| cv (P_X6_clearsRead p0 h5) fun h6 =>
    some (1, h6))
    else (
    some (0, h0))))
    else if a1 = 112 then (
    gr h0 p0 6 6 fun q5 =>
    al h0 q5 1 fun v3 =>
    if v3 < 1 then (
    some (0, h0))
    else (
    gr h0 p0 6 6 fun q6 =>
    al h0 q6 1 fun v4 =>
    if 12 < v4 then (
    some (0, h0))
    else (
    gr h0 p0 6 6 fun q7 =>
    al h0 q7 2 fun v5 =>
    if v5 < 1 then (
    some (0, h0))
    else (
    gr h0 p0 6 6 fun q8 =>
    al h0 q8 2 fun v6 =>
    if 12 < v6 then (
    some (0, h0))
    else (
    gr h0 p0 6 3 fun q9 =>
    al h0 q9 2 fun v7 =>
    if v7 = 7 then (
    some (0, h0))
    else (
    lt (0 : Int32) fun v8 =>
    P_X6_comes_L168 FU p0 v8 h0))))))
    else if a1 = 115 then (
    if v2 < 1 then (
    some (0, h0))
    else (
    gr h0 p0 6 3 fun q15 =>
    al h0 q15 0 fun v14 =>
    if v2 ≤ v14 then (
    gr h0 p0 6 3 fun q16 =>
    gr h0 p0 6 3 fun q17 =>
    al h0 q17 ((28 + v2) - 1) fun v15 =>
    as h0 q16 ((28 + v2) - 1) (1 - v15) fun h10 =>
    some (1, h10))
    else (
    some (0, h0))))
    else (
    rc h0 p0 6 <| ci (P_X6_comesRow p0 a1 h0) fun v16 h11 =>
    bz v16 <| some (v16, h11))

set_option maxHeartbeats 4000000 in
set_option maxRecDepth 100000 in
theorem wl_X6_comes_L168 (C : CX K p m c cX6_comes 4 s args RX6) (hr : meth.sig.returnType = (some FieldType.boolean)) (hlk : meth.locks = false) {r : Int32} {h' : Hp} : ∀ (n : Nat) (q10 : Nat) (v9 : Int32) (h7 : Hp) (H : Heap) (locs : List Loc) (ls : Array Slot), HX K s.heap H locs h7 → lv_has ls 4 [(0, .ref (K.1 + q10)), (3, .int v9)] → P_X6_comes_L168 n q10 v9 h7 = some (r, h') → W p l e rmX6_comes s m args below meth c H locs 0 0 (MQ below (Qi K r h') args s rmX6_comes.cells rmX6_comes.slots (KA K)) (F0 m 168 ls []) := by
  intro n
  induction n with
  | zero =>
    intro  q10 v9 h7 H locs ls X hl hp
    cases hp
  | succ n ih =>
    intro  q10 v9 h7 H locs ls X hl hp
    unfold P_X6_comes_L168 at hp
    refine lv_iload_n C.1 C.2.1 dX6_comes_168 rfl (lv_at hl 1 rfl) ?_
    refine lv_iconst (v := 4) C.1 C.2.1 dX6_comes_169 (by decide) ?_
    refine lv_icmp_ge (tgt := 203) C.1 C.2.1 dX6_comes_170 (by decide) (fun c13 => ?_) (fun c13 => ?_)
    · have hp := if_p _ c13 hp
      refine lv_aload_n C.1 C.2.1 dX6_comes_203 rfl (lv_at hl 0 rfl) ?_
      refine w_gr C X fX6_19 rfl dX6_comes_204 hp (fun q11 hp => ?_)
      refine lv_iconst (v := 2) C.1 C.2.1 dX6_comes_207 (by decide) ?_
      refine lv_dup2_11 C.1 C.2.1 dX6_comes_208 rfl rfl ?_
      refine w_al C X dX6_comes_209 hp (fun v10 hp => ?_)
      refine lv_iconst (v := 1) C.1 C.2.1 dX6_comes_210 (by decide) ?_
      refine lv_iadd C.1 C.2.1 dX6_comes_211 ?_
      refine w_as C X dX6_comes_212 hp (fun H locs h8 X hp => ?_)
      refine lv_iconst (v := 1) C.1 C.2.1 dX6_comes_213 (by decide) ?_
      exact w_retz C X hr hlk (by decide) (by decide) dX6_comes_214 hp
    · have hp := if_n _ c13 hp
      refine lv_aload_n C.1 C.2.1 dX6_comes_173 rfl (lv_at hl 0 rfl) ?_
      refine w_gr C X fX6_19 rfl dX6_comes_174 hp (fun q12 hp => ?_)
      refine lv_bipush (v := 40) C.1 C.2.1 dX6_comes_177 (by decide) ?_
      refine lv_iconst (v := 4) C.1 C.2.1 dX6_comes_179 (by decide) ?_
      refine lv_aload_n C.1 C.2.1 dX6_comes_180 rfl (lv_at hl 0 rfl) ?_
      refine w_gr C X fX6_19 rfl dX6_comes_181 hp (fun q13 hp => ?_)
      refine lv_iconst (v := 2) C.1 C.2.1 dX6_comes_184 (by decide) ?_
      refine w_al C X dX6_comes_185 hp (fun v11 hp => ?_)
      refine lv_imul C.1 C.2.1 dX6_comes_186 ?_
      refine lv_iadd C.1 C.2.1 dX6_comes_187 ?_
      refine lv_iload_n C.1 C.2.1 dX6_comes_188 rfl (lv_at hl 1 rfl) ?_
      refine lv_iadd C.1 C.2.1 dX6_comes_189 ?_
      refine lv_aload_n C.1 C.2.1 dX6_comes_190 rfl (lv_at hl 0 rfl) ?_
      refine w_gr C X fX6_25 rfl dX6_comes_191 hp (fun q14 hp => ?_)
      refine lv_iload_n C.1 C.2.1 dX6_comes_194 rfl (lv_at hl 1 rfl) ?_
      refine w_al C X dX6_comes_195 hp (fun v12 hp => ?_)
      refine w_as C X dX6_comes_196 hp (fun H locs h9 X hp => ?_)
      refine w_inc (k := 1) C (fun v => [(3, .int (v)), (0, .ref (K.1 + q10))]) dX6_comes_197 hl rfl (y := (v9 + 1)) rfl (by decide) (fun _ => rfl) hp (fun v13 ls hl hp => ?_)
      refine lv_goto (tgt := 168) C.1 C.2.1 dX6_comes_200 (by decide) ?_
      exact ih _ _ _ _ _ _ X (lv_sub hl [1, 0] rfl) hp

set_option maxHeartbeats 4000000 in
set_option maxRecDepth 100000 in
theorem ct_X6_comes (l : Launch) (K : Kt) (p0 : Nat) (a1 : Int32) (h0 : Hp) {r : Int32} {h' : Hp} (hp : P_X6_comes p0 a1 h0 = some (r, h')) : CT l K yX6_comes cX6_comes 4 (some FieldType.boolean) rmX6_comes [.ref (K.1 + p0), .int a1] h0 (Qi K r h') := by
  refine ct_of (own := RX6) (by decide +kernel) rfl (Nat.le_of_ble_eq_true rfl) ?_
  intro p e s m args below meth c C X hr hlk hm ls hl
  have hl : lv_has ls 4 [(0, .ref (K.1 + p0)), (1, .int a1)] := hl
  unfold P_X6_comes at hp
  refine lv_aload_n C.1 C.2.1 dX6_comes_0 rfl (lv_at hl 0 rfl) ?_
  refine w_gr C X fX6_25 rfl dX6_comes_1 hp (fun q1 hp => ?_)
  refine lv_iconst (v := 0) C.1 C.2.1 dX6_comes_4 (by decide) ?_
  refine w_al C X dX6_comes_5 hp (fun v1 hp => ?_)
  refine w_istn C (fun v => [(2, .int (v)), (0, .ref (K.1 + p0)), (1, .int a1)]) dX6_comes_6 rfl hl (by decide) (fun _ => rfl) hp (fun v2 ls hl hp => ?_)
  refine lv_iload_n C.1 C.2.1 dX6_comes_7 rfl (lv_at hl 2 rfl) ?_
  by_cases c1 : a1 = 107
  · have hp := if_p _ c1 hp
    refine w_tsC (tgt := 86) C dX6_comes_8 c1 (by decide) (by decide) rfl (by decide) ?_
    refine lv_iload_n C.1 C.2.1 dX6_comes_86 rfl (lv_at hl 0 rfl) ?_
    refine lv_iconst (v := 2) C.1 C.2.1 dX6_comes_87 (by decide) ?_
    refine lv_icmp_eq (tgt := 98) C.1 C.2.1 dX6_comes_88 (by decide) (fun c2 => ?_) (fun c2 => ?_)
    · have hp := if_p _ c2 hp
      refine lv_aload_n C.1 C.2.1 dX6_comes_98 rfl (lv_at hl 1 rfl) ?_
      refine w_gr C X fX6_19 rfl dX6_comes_99 hp (fun q2 hp => ?_)
      refine lv_iconst (v := 1) C.1 C.2.1 dX6_comes_102 (by decide) ?_
      refine lv_iload_n C.1 C.2.1 dX6_comes_103 rfl (lv_at hl 0 rfl) ?_
      refine w_as C X dX6_comes_104 hp (fun H locs h1 X hp => ?_)
      refine lv_aload_n C.1 C.2.1 dX6_comes_105 rfl (lv_at hl 1 rfl) ?_
      have hrc := (rc_some hp).1
      have hp := (rc_some hp).2
      refine w_cv (cells' := 0) (slots' := 0) X (fun _ e => run_V (As := []) (c0 := 6) C X mX6_clearsRead miX6_clearsRead lX6_86 (by decide) rfl hrc (ct_X6_clearsRead l K p0 h1 e) (by decide) (by decide) rfl (by decide) rfl hl.1 dX6_comes_106) (by decide) hp (fun h2 H locs X hp => ?_)
      refine lv_iconst (v := 1) C.1 C.2.1 dX6_comes_109 (by decide) ?_
      exact w_retz C X hr hlk (by decide) (by decide) dX6_comes_110 hp
    · have hp := if_n _ c2 hp
      refine lv_iload_n C.1 C.2.1 dX6_comes_91 rfl (lv_at hl 0 rfl) ?_
      refine lv_iconst (v := 3) C.1 C.2.1 dX6_comes_92 (by decide) ?_
      refine lv_icmp_eq (tgt := 98) C.1 C.2.1 dX6_comes_93 (by decide) (fun c3 => ?_) (fun c3 => ?_)
      · have hp := if_p _ c3 hp
        refine lv_aload_n C.1 C.2.1 dX6_comes_98 rfl (lv_at hl 1 rfl) ?_
        refine w_gr C X fX6_19 rfl dX6_comes_99 hp (fun q3 hp => ?_)
        refine lv_iconst (v := 1) C.1 C.2.1 dX6_comes_102 (by decide) ?_
        refine lv_iload_n C.1 C.2.1 dX6_comes_103 rfl (lv_at hl 0 rfl) ?_
        refine w_as C X dX6_comes_104 hp (fun H locs h3 X hp => ?_)
        refine lv_aload_n C.1 C.2.1 dX6_comes_105 rfl (lv_at hl 1 rfl) ?_
        have hrc := (rc_some hp).1
        have hp := (rc_some hp).2
        refine w_cv (cells' := 0) (slots' := 0) X (fun _ e => run_V (As := []) (c0 := 6) C X mX6_clearsRead miX6_clearsRead lX6_86 (by decide) rfl hrc (ct_X6_clearsRead l K p0 h3 e) (by decide) (by decide) rfl (by decide) rfl hl.1 dX6_comes_106) (by decide) hp (fun h4 H locs X hp => ?_)
        refine lv_iconst (v := 1) C.1 C.2.1 dX6_comes_109 (by decide) ?_
        exact w_retz C X hr hlk (by decide) (by decide) dX6_comes_110 hp
      · have hp := if_n _ c3 hp
        refine lv_iconst (v := 0) C.1 C.2.1 dX6_comes_96 (by decide) ?_
        exact w_retz C X hr hlk (by decide) (by decide) dX6_comes_97 hp
  · have hp := if_n _ c1 hp
    by_cases c4 : a1 = 110
    · have hp := if_p _ c4 hp
      refine w_tsC (tgt := 60) C dX6_comes_8 c4 (by decide) (by decide) rfl (by decide) ?_
      refine lv_iload_n C.1 C.2.1 dX6_comes_60 rfl (lv_at hl 0 rfl) ?_
      refine lv_iconst (v := 1) C.1 C.2.1 dX6_comes_61 (by decide) ?_
      refine lv_icmp_lt (tgt := 71) C.1 C.2.1 dX6_comes_62 (by decide) (fun c5 => ?_) (fun c5 => ?_)
      · have hp := if_p _ c5 hp
        refine lv_iconst (v := 0) C.1 C.2.1 dX6_comes_71 (by decide) ?_
        exact w_retz C X hr hlk (by decide) (by decide) dX6_comes_72 hp
      · have hp := if_n _ c5 hp
        refine lv_iload_n C.1 C.2.1 dX6_comes_65 rfl (lv_at hl 0 rfl) ?_
        refine lv_bipush (v := 12) C.1 C.2.1 dX6_comes_66 (by decide) ?_
        refine lv_icmp_le (tgt := 73) C.1 C.2.1 dX6_comes_68 (by decide) (fun c6 => ?_) (fun c6 => ?_)
        · have hp := if_p _ c6 hp
          refine lv_aload_n C.1 C.2.1 dX6_comes_73 rfl (lv_at hl 1 rfl) ?_
          refine w_gr C X fX6_19 rfl dX6_comes_74 hp (fun q4 hp => ?_)
          refine lv_iconst (v := 0) C.1 C.2.1 dX6_comes_77 (by decide) ?_
          refine lv_iload_n C.1 C.2.1 dX6_comes_78 rfl (lv_at hl 0 rfl) ?_
          refine w_as C X dX6_comes_79 hp (fun H locs h5 X hp => ?_)
          refine lv_aload_n C.1 C.2.1 dX6_comes_80 rfl (lv_at hl 1 rfl) ?_
          have hrc := (rc_some hp).1
          have hp := (rc_some hp).2
          refine w_cv (cells' := 0) (slots' := 0) X (fun _ e => run_V (As := []) (c0 := 6) C X mX6_clearsRead miX6_clearsRead lX6_86 (by decide) rfl hrc (ct_X6_clearsRead l K p0 h5 e) (by decide) (by decide) rfl (by decide) rfl hl.1 dX6_comes_81) (by decide) hp (fun h6 H locs X hp => ?_)
          refine lv_iconst (v := 1) C.1 C.2.1 dX6_comes_84 (by decide) ?_
          exact w_retz C X hr hlk (by decide) (by decide) dX6_comes_85 hp
        · have hp := if_n _ c6 hp
          refine lv_iconst (v := 0) C.1 C.2.1 dX6_comes_71 (by decide) ?_
          exact w_retz C X hr hlk (by decide) (by decide) dX6_comes_72 hp
    · have hp := if_n _ c4 hp
      by_cases c7 : a1 = 112
      · have hp := if_p _ c7 hp
        refine w_tsC (tgt := 111) C dX6_comes_8 c7 (by decide) (by decide) rfl (by decide) ?_
        refine lv_aload_n C.1 C.2.1 dX6_comes_111 rfl (lv_at hl 1 rfl) ?_
        refine w_gr C X fX6_25 rfl dX6_comes_112 hp (fun q5 hp => ?_)
        refine lv_iconst (v := 1) C.1 C.2.1 dX6_comes_115 (by decide) ?_
        refine w_al C X dX6_comes_116 hp (fun v3 hp => ?_)
        refine lv_iconst (v := 1) C.1 C.2.1 dX6_comes_117 (by decide) ?_
        refine lv_icmp_lt (tgt := 164) C.1 C.2.1 dX6_comes_118 (by decide) (fun c8 => ?_) (fun c8 => ?_)
        · have hp := if_p _ c8 hp
          refine lv_iconst (v := 0) C.1 C.2.1 dX6_comes_164 (by decide) ?_
          exact w_retz C X hr hlk (by decide) (by decide) dX6_comes_165 hp
        · have hp := if_n _ c8 hp
          refine lv_aload_n C.1 C.2.1 dX6_comes_121 rfl (lv_at hl 1 rfl) ?_
          refine w_gr C X fX6_25 rfl dX6_comes_122 hp (fun q6 hp => ?_)
          refine lv_iconst (v := 1) C.1 C.2.1 dX6_comes_125 (by decide) ?_
          refine w_al C X dX6_comes_126 hp (fun v4 hp => ?_)
          refine lv_bipush (v := 12) C.1 C.2.1 dX6_comes_127 (by decide) ?_
          refine lv_icmp_gt (tgt := 164) C.1 C.2.1 dX6_comes_129 (by decide) (fun c9 => ?_) (fun c9 => ?_)
          · have hp := if_p _ c9 hp
            refine lv_iconst (v := 0) C.1 C.2.1 dX6_comes_164 (by decide) ?_
            exact w_retz C X hr hlk (by decide) (by decide) dX6_comes_165 hp
          · have hp := if_n _ c9 hp
            refine lv_aload_n C.1 C.2.1 dX6_comes_132 rfl (lv_at hl 1 rfl) ?_
            refine w_gr C X fX6_25 rfl dX6_comes_133 hp (fun q7 hp => ?_)
            refine lv_iconst (v := 2) C.1 C.2.1 dX6_comes_136 (by decide) ?_
            refine w_al C X dX6_comes_137 hp (fun v5 hp => ?_)
            refine lv_iconst (v := 1) C.1 C.2.1 dX6_comes_138 (by decide) ?_
            refine lv_icmp_lt (tgt := 164) C.1 C.2.1 dX6_comes_139 (by decide) (fun c10 => ?_) (fun c10 => ?_)
            · have hp := if_p _ c10 hp
              refine lv_iconst (v := 0) C.1 C.2.1 dX6_comes_164 (by decide) ?_
              exact w_retz C X hr hlk (by decide) (by decide) dX6_comes_165 hp
            · have hp := if_n _ c10 hp
              refine lv_aload_n C.1 C.2.1 dX6_comes_142 rfl (lv_at hl 1 rfl) ?_
              refine w_gr C X fX6_25 rfl dX6_comes_143 hp (fun q8 hp => ?_)
              refine lv_iconst (v := 2) C.1 C.2.1 dX6_comes_146 (by decide) ?_
              refine w_al C X dX6_comes_147 hp (fun v6 hp => ?_)
              refine lv_bipush (v := 12) C.1 C.2.1 dX6_comes_148 (by decide) ?_
              refine lv_icmp_gt (tgt := 164) C.1 C.2.1 dX6_comes_150 (by decide) (fun c11 => ?_) (fun c11 => ?_)
              · have hp := if_p _ c11 hp
                refine lv_iconst (v := 0) C.1 C.2.1 dX6_comes_164 (by decide) ?_
                exact w_retz C X hr hlk (by decide) (by decide) dX6_comes_165 hp
              · have hp := if_n _ c11 hp
                refine lv_aload_n C.1 C.2.1 dX6_comes_153 rfl (lv_at hl 1 rfl) ?_
                refine w_gr C X fX6_19 rfl dX6_comes_154 hp (fun q9 hp => ?_)
                refine lv_iconst (v := 2) C.1 C.2.1 dX6_comes_157 (by decide) ?_
                refine w_al C X dX6_comes_158 hp (fun v7 hp => ?_)
                refine lv_bipush (v := 7) C.1 C.2.1 dX6_comes_159 (by decide) ?_
                refine lv_icmp_ne (tgt := 166) C.1 C.2.1 dX6_comes_161 (by decide) (fun c12 => ?_) (fun c12 => ?_)
                · have hp := if_n _ c12 hp
                  refine lv_iconst (v := 0) C.1 C.2.1 dX6_comes_166 (by decide) ?_
                  refine w_istn C (fun v => [(3, .int (v)), (2, .int v2), (0, .ref (K.1 + p0)), (1, .int a1)]) dX6_comes_167 rfl hl (by decide) (fun _ => rfl) hp (fun v8 ls hl hp => ?_)
                  exact wl_X6_comes_L168 C hr hlk _ _ _ _ _ _ _ X (lv_sub hl [2, 0] rfl) hp
                · have hp := if_p _ c12 hp
                  refine lv_iconst (v := 0) C.1 C.2.1 dX6_comes_164 (by decide) ?_
                  exact w_retz C X hr hlk (by decide) (by decide) dX6_comes_165 hp
      · have hp := if_n _ c7 hp
        by_cases c14 : a1 = 115
        · have hp := if_p _ c14 hp
          refine w_tsC (tgt := 215) C dX6_comes_8 c14 (by decide) (by decide) rfl (by decide) ?_
          refine lv_iload_n C.1 C.2.1 dX6_comes_215 rfl (lv_at hl 0 rfl) ?_
          refine lv_iconst (v := 1) C.1 C.2.1 dX6_comes_216 (by decide) ?_
          refine lv_icmp_lt (tgt := 230) C.1 C.2.1 dX6_comes_217 (by decide) (fun c15 => ?_) (fun c15 => ?_)
          · have hp := if_p _ c15 hp
            refine lv_iconst (v := 0) C.1 C.2.1 dX6_comes_230 (by decide) ?_
            exact w_retz C X hr hlk (by decide) (by decide) dX6_comes_231 hp
          · have hp := if_n _ c15 hp
            refine lv_iload_n C.1 C.2.1 dX6_comes_220 rfl (lv_at hl 0 rfl) ?_
            refine lv_aload_n C.1 C.2.1 dX6_comes_221 rfl (lv_at hl 1 rfl) ?_
            refine w_gr C X fX6_19 rfl dX6_comes_222 hp (fun q15 hp => ?_)
            refine lv_iconst (v := 0) C.1 C.2.1 dX6_comes_225 (by decide) ?_
            refine w_al C X dX6_comes_226 hp (fun v14 hp => ?_)
            refine lv_icmp_le (tgt := 232) C.1 C.2.1 dX6_comes_227 (by decide) (fun c16 => ?_) (fun c16 => ?_)
            · have hp := if_p _ c16 hp
              refine lv_aload_n C.1 C.2.1 dX6_comes_232 rfl (lv_at hl 1 rfl) ?_
              refine w_gr C X fX6_19 rfl dX6_comes_233 hp (fun q16 hp => ?_)
              refine lv_bipush (v := 28) C.1 C.2.1 dX6_comes_236 (by decide) ?_
              refine lv_iload_n C.1 C.2.1 dX6_comes_238 rfl (lv_at hl 0 rfl) ?_
              refine lv_iadd C.1 C.2.1 dX6_comes_239 ?_
              refine lv_iconst (v := 1) C.1 C.2.1 dX6_comes_240 (by decide) ?_
              refine lv_isub C.1 C.2.1 dX6_comes_241 ?_
              refine lv_iconst (v := 1) C.1 C.2.1 dX6_comes_242 (by decide) ?_
              refine lv_aload_n C.1 C.2.1 dX6_comes_243 rfl (lv_at hl 1 rfl) ?_
              refine w_gr C X fX6_19 rfl dX6_comes_244 hp (fun q17 hp => ?_)
              refine lv_bipush (v := 28) C.1 C.2.1 dX6_comes_247 (by decide) ?_
              refine lv_iload_n C.1 C.2.1 dX6_comes_249 rfl (lv_at hl 0 rfl) ?_
              refine lv_iadd C.1 C.2.1 dX6_comes_250 ?_
              refine lv_iconst (v := 1) C.1 C.2.1 dX6_comes_251 (by decide) ?_
              refine lv_isub C.1 C.2.1 dX6_comes_252 ?_
              refine w_al C X dX6_comes_253 hp (fun v15 hp => ?_)
              refine lv_isub C.1 C.2.1 dX6_comes_254 ?_
              refine w_as C X dX6_comes_255 hp (fun H locs h10 X hp => ?_)
              refine lv_iconst (v := 1) C.1 C.2.1 dX6_comes_256 (by decide) ?_
              exact w_retz C X hr hlk (by decide) (by decide) dX6_comes_257 hp
            · have hp := if_n _ c16 hp
              refine lv_iconst (v := 0) C.1 C.2.1 dX6_comes_230 (by decide) ?_
              exact w_retz C X hr hlk (by decide) (by decide) dX6_comes_231 hp
        · have hp := if_n _ c14 hp
          refine w_tsD (tgt := 258) C [107, 110, 112, 115] dX6_comes_8 (by intro k hk; simp only [List.mem_cons, List.not_mem_nil, or_false] at hk; rcases hk with hk | hk | hk | hk <;> subst hk <;> assumption) (by decide) (by decide) (by decide) ?_
          refine lv_aload_n C.1 C.2.1 dX6_comes_258 rfl (lv_at hl 1 rfl) ?_
          refine lv_iload_n C.1 C.2.1 dX6_comes_259 rfl (lv_at hl 2 rfl) ?_
          have hrc := (rc_some hp).1
          have hp := (rc_some hp).2
          refine w_ci (cells' := 0) (slots' := 0) X (fun _ _ e => run_V (As := [.int a1]) (c0 := 6) C X mX6_comesRow miX6_comesRow lX6_89 (by decide) rfl hrc (ct_X6_comesRow l K p0 a1 h0 e) (by decide) (by decide) rfl (by decide) rfl hl.1 dX6_comes_260) (by decide) hp (fun v16 h11 H locs X hp => ?_)
          exact w_retz C X hr hlk (by decide) (bz_some hp).1 dX6_comes_263 (bz_some hp).2

abbrev rmX6_reads : Room := { frames := 4, cells := 0, slots := 0, locals := 85 }
def P_X6_reads_L7 : Nat → Nat → Int32 → Hp → (Int32 → Hp → Option (Int32 × Hp)) → Option (Int32 × Hp)
  | 0, _, _, _, _ => none
  | n + 1, q1, v2, h2, kont =>
    rc h2 q1 6 <| ci (P_X6_readsStatement q1 h2) fun v3 h3 =>
    if v3 = 0 then (
    gi h3 q1 6 8 fun v7 =>
    some (((-1000) - v7), h3))
    else (
    lt ((v2 + 1) : Int32) fun v4 =>
    gi h3 q1 6 8 fun v5 =>
    gi h3 q1 6 7 fun v6 =>
    if v5 < v6 then (
    P_X6_reads_L7 n q1 v4 h3 kont)
    else (
    kont v4 h3))

def P_X6_reads_L53 : Nat → Nat → Int32 → Hp → Option (Int32 × Hp)
  | 0, _, _, _ => none
  | n + 1, q4, v9, h7 =>
    gi h7 q4 6 8 fun v10 =>
    gi h7 q4 6 7 fun v11 =>
    if v11 ≤ v10 then (
    gr h7 q4 6 3 fun q5 =>
    gr h7 q4 6 1 fun q6 =>
    cv (P_X6_copies q5 q6 h7) fun h8 =>
    some (v9, h8))
    else (
    gi h7 q4 6 8 fun v12 =>
    lt (v12 : Int32) fun v13 =>
    rc h7 q4 6 <| ci (P_X6_sign q4 h7) fun v14 h9 =>
    lt (v14 : Int32) fun v15 =>
    rc h9 q4 6 <| ci (P_X6_readsStatement q4 h9) fun v16 h10 =>
    lt (v16 : Int32) fun v17 =>
    rc h10 q4 6 <| ci (P_X6_comes q4 v15 h10) fun v18 h11 =>
    if v18 = 0 then (
    some (((-2000) - v13), h11))
    else (
    P_X6_reads_L53 n q4 v9 h11))

def P_X6_reads (p0 : Nat) (h0 : Hp) : Option (Int32 × Hp) :=
    pi h0 p0 6 8 0 fun h1 =>
    lt (0 : Int32) fun v1 =>
    P_X6_reads_L7 FU p0 v1 h1 fun v8 h4 =>
    gr h4 p0 6 1 fun q2 =>
    gr h4 p0 6 3 fun q3 =>
    cv (P_X6_copies q2 q3 h4) fun h5 =>
    pi h5 p0 6 8 0 fun h6 =>
    P_X6_reads_L53 FU p0 v8 h6

set_option maxHeartbeats 4000000 in
set_option maxRecDepth 100000 in
theorem wl_X6_reads_L7 (C : CX K p m c cX6_reads 5 s args RX6) (hr : meth.sig.returnType = (some FieldType.int)) (hlk : meth.locks = false) {r : Int32} {h' : Hp} : ∀ (n : Nat) (q1 : Nat) (v2 : Int32) (h2 : Hp) (kont : Int32 → Hp → Option (Int32 × Hp)) (H : Heap) (locs : List Loc) (ls : Array Slot), HX K s.heap H locs h2 → lv_has ls 5 [(0, .ref (K.1 + q1)), (1, .int v2)] → P_X6_reads_L7 n q1 v2 h2 kont = some (r, h') → (∀ (y0 : Int32) (hk : Hp) (H : Heap) (locs : List Loc) (ls : Array Slot), HX K s.heap H locs hk → lv_has ls 5 [(0, .ref (K.1 + q1)), (1, .int y0)] → kont y0 hk = some (r, h') → W p l e rmX6_reads s m args below meth c H locs 0 0 (MQ below (Qi K r h') args s rmX6_reads.cells rmX6_reads.slots (KA K)) (F0 m 37 ls [])) → W p l e rmX6_reads s m args below meth c H locs 0 0 (MQ below (Qi K r h') args s rmX6_reads.cells rmX6_reads.slots (KA K)) (F0 m 7 ls []) := by
  intro n
  induction n with
  | zero =>
    intro  q1 v2 h2 kont H locs ls X hl hp hk
    cases hp
  | succ n ih =>
    intro  q1 v2 h2 kont H locs ls X hl hp hk
    unfold P_X6_reads_L7 at hp
    refine lv_aload_n C.1 C.2.1 dX6_reads_7 rfl (lv_at hl 0 rfl) ?_
    have hrc := (rc_some hp).1
    have hp := (rc_some hp).2
    refine w_ci (cells' := 0) (slots' := 0) X (fun _ _ e => run_V (As := []) (c0 := 6) C X mX6_readsStatement miX6_readsStatement lX6_92 (by decide) rfl hrc (ct_X6_readsStatement l K q1 h2 e) (by decide) (by decide) rfl (by decide) rfl hl.1 dX6_reads_8) (by decide) hp (fun v3 h3 H locs X hp => ?_)
    refine lv_if_ne (tgt := 23) C.1 C.2.1 dX6_reads_11 (by decide) (fun c1 => ?_) (fun c1 => ?_)
    · have hp := if_n _ c1 hp
      refine w_inc (k := 1) C (fun v => [(1, .int (v)), (0, .ref (K.1 + q1))]) dX6_reads_23 hl rfl (y := (v2 + 1)) rfl (by decide) (fun _ => rfl) hp (fun v4 ls hl hp => ?_)
      refine lv_aload_n C.1 C.2.1 dX6_reads_26 rfl (lv_at hl 1 rfl) ?_
      refine w_gi C X fX6_56 rfl dX6_reads_27 hp (fun v5 hp => ?_)
      refine lv_aload_n C.1 C.2.1 dX6_reads_30 rfl (lv_at hl 1 rfl) ?_
      refine w_gi C X fX6_48 rfl dX6_reads_31 hp (fun v6 hp => ?_)
      refine lv_icmp_lt (tgt := 7) C.1 C.2.1 dX6_reads_34 (by decide) (fun c2 => ?_) (fun c2 => ?_)
      · have hp := if_p _ c2 hp
        exact ih _ _ _ _ _ _ _ X (lv_sub hl [1, 0] rfl) hp hk
      · have hp := if_n _ c2 hp
        exact hk _ _ _ _ _ X (lv_sub hl [1, 0] rfl) hp
    · have hp := if_p _ c1 hp
      refine lv_sipush (v := -1000) C.1 C.2.1 dX6_reads_14 (by decide) ?_
      refine lv_aload_n C.1 C.2.1 dX6_reads_17 rfl (lv_at hl 0 rfl) ?_
      refine w_gi C X fX6_56 rfl dX6_reads_18 hp (fun v7 hp => ?_)
      refine lv_isub C.1 C.2.1 dX6_reads_21 ?_
      exact w_reti C X hr hlk (by decide) dX6_reads_22 hp

set_option maxHeartbeats 4000000 in
set_option maxRecDepth 100000 in
theorem wl_X6_reads_L53 (C : CX K p m c cX6_reads 5 s args RX6) (hr : meth.sig.returnType = (some FieldType.int)) (hlk : meth.locks = false) {r : Int32} {h' : Hp} : ∀ (n : Nat) (q4 : Nat) (v9 : Int32) (h7 : Hp) (H : Heap) (locs : List Loc) (ls : Array Slot), HX K s.heap H locs h7 → lv_has ls 5 [(0, .ref (K.1 + q4)), (1, .int v9)] → P_X6_reads_L53 n q4 v9 h7 = some (r, h') → W p l e rmX6_reads s m args below meth c H locs 0 0 (MQ below (Qi K r h') args s rmX6_reads.cells rmX6_reads.slots (KA K)) (F0 m 53 ls []) := by
  intro n
  induction n with
  | zero =>
    intro  q4 v9 h7 H locs ls X hl hp
    cases hp
  | succ n ih =>
    intro  q4 v9 h7 H locs ls X hl hp
    unfold P_X6_reads_L53 at hp
    refine lv_aload_n C.1 C.2.1 dX6_reads_53 rfl (lv_at hl 0 rfl) ?_
    refine w_gi C X fX6_56 rfl dX6_reads_54 hp (fun v10 hp => ?_)
    refine lv_aload_n C.1 C.2.1 dX6_reads_57 rfl (lv_at hl 0 rfl) ?_
    refine w_gi C X fX6_48 rfl dX6_reads_58 hp (fun v11 hp => ?_)
    refine lv_icmp_ge (tgt := 97) C.1 C.2.1 dX6_reads_61 (by decide) (fun c3 => ?_) (fun c3 => ?_)
    · have hp := if_p _ c3 hp
      refine lv_aload_n C.1 C.2.1 dX6_reads_97 rfl (lv_at hl 0 rfl) ?_
      refine w_gr C X fX6_19 rfl dX6_reads_98 hp (fun q5 hp => ?_)
      refine lv_aload_n C.1 C.2.1 dX6_reads_101 rfl (lv_at hl 0 rfl) ?_
      refine w_gr C X fX6_13 rfl dX6_reads_102 hp (fun q6 hp => ?_)
      refine w_cv (cells' := 0) (slots' := 0) X (fun _ e => run_S (As := [.ref (K.1 + q5), .ref (K.1 + q6)]) C X mX6_copies msX6_copies lX6_95 (ct_X6_copies l K q5 q6 h7 e) (by decide) (by decide) rfl (by decide) rfl hl.1 dX6_reads_105) (by decide) hp (fun h8 H locs X hp => ?_)
      refine lv_iload_n C.1 C.2.1 dX6_reads_108 rfl (lv_at hl 1 rfl) ?_
      exact w_reti C X hr hlk (by decide) dX6_reads_109 hp
    · have hp := if_n _ c3 hp
      refine lv_aload_n C.1 C.2.1 dX6_reads_64 rfl (lv_at hl 0 rfl) ?_
      refine w_gi C X fX6_56 rfl dX6_reads_65 hp (fun v12 hp => ?_)
      refine w_istn C (fun v => [(2, .int (v)), (0, .ref (K.1 + q4)), (1, .int v9)]) dX6_reads_68 rfl hl (by decide) (fun _ => rfl) hp (fun v13 ls hl hp => ?_)
      refine lv_aload_n C.1 C.2.1 dX6_reads_69 rfl (lv_at hl 1 rfl) ?_
      have hrc := (rc_some hp).1
      have hp := (rc_some hp).2
      refine w_ci (cells' := 0) (slots' := 0) X (fun _ _ e => run_V (As := []) (c0 := 6) C X mX6_sign miX6_sign lX6_59 (by decide) rfl hrc (ct_X6_sign l K q4 h7 e) (by decide) (by decide) rfl (by decide) rfl hl.1 dX6_reads_70) (by decide) hp (fun v14 h9 H locs X hp => ?_)
      refine w_istn C (fun v => [(3, .int (v)), (2, .int v13), (0, .ref (K.1 + q4)), (1, .int v9)]) dX6_reads_73 rfl hl (by decide) (fun _ => rfl) hp (fun v15 ls hl hp => ?_)
      refine lv_aload_n C.1 C.2.1 dX6_reads_74 rfl (lv_at hl 2 rfl) ?_
      have hrc := (rc_some hp).1
      have hp := (rc_some hp).2
      refine w_ci (cells' := 0) (slots' := 0) X (fun _ _ e => run_V (As := []) (c0 := 6) C X mX6_readsStatement miX6_readsStatement lX6_92 (by decide) rfl hrc (ct_X6_readsStatement l K q4 h9 e) (by decide) (by decide) rfl (by decide) rfl hl.1 dX6_reads_75) (by decide) hp (fun v16 h10 H locs X hp => ?_)
      refine w_ist C (fun v => [(4, .int (v)), (3, .int v15), (2, .int v13), (0, .ref (K.1 + q4)), (1, .int v9)]) dX6_reads_78 hl (by decide) (fun _ => rfl) hp (fun v17 ls hl hp => ?_)
      refine lv_aload_n C.1 C.2.1 dX6_reads_80 rfl (lv_at hl 3 rfl) ?_
      refine lv_iload_n C.1 C.2.1 dX6_reads_81 rfl (lv_at hl 1 rfl) ?_
      have hrc := (rc_some hp).1
      have hp := (rc_some hp).2
      refine w_ci (cells' := 0) (slots' := 0) X (fun _ _ e => run_V (As := [.int v15]) (c0 := 6) C X mX6_comes miX6_comes lX6_99 (by decide) rfl hrc (ct_X6_comes l K q4 v15 h10 e) (by decide) (by decide) rfl (by decide) rfl hl.1 dX6_reads_82) (by decide) hp (fun v18 h11 H locs X hp => ?_)
      refine lv_if_ne (tgt := 94) C.1 C.2.1 dX6_reads_85 (by decide) (fun c4 => ?_) (fun c4 => ?_)
      · have hp := if_n _ c4 hp
        refine lv_goto (tgt := 53) C.1 C.2.1 dX6_reads_94 (by decide) ?_
        exact ih _ _ _ _ _ _ X (lv_sub hl [3, 4] rfl) hp
      · have hp := if_p _ c4 hp
        refine lv_sipush (v := -2000) C.1 C.2.1 dX6_reads_88 (by decide) ?_
        refine lv_iload_n C.1 C.2.1 dX6_reads_91 rfl (lv_at hl 2 rfl) ?_
        refine lv_isub C.1 C.2.1 dX6_reads_92 ?_
        exact w_reti C X hr hlk (by decide) dX6_reads_93 hp

set_option maxHeartbeats 4000000 in
set_option maxRecDepth 100000 in
theorem ct_X6_reads (l : Launch) (K : Kt) (p0 : Nat) (h0 : Hp) {r : Int32} {h' : Hp} (hp : P_X6_reads p0 h0 = some (r, h')) : CT l K yX6_reads cX6_reads 5 (some FieldType.int) rmX6_reads [.ref (K.1 + p0)] h0 (Qi K r h') := by
  refine ct_of (own := RX6) (by decide +kernel) rfl (Nat.le_of_ble_eq_true rfl) ?_
  intro p e s m args below meth c C X hr hlk hm ls hl
  have hl : lv_has ls 5 [(0, .ref (K.1 + p0))] := hl
  unfold P_X6_reads at hp
  refine lv_aload_n C.1 C.2.1 dX6_reads_0 rfl (lv_at hl 0 rfl) ?_
  refine lv_iconst (v := 0) C.1 C.2.1 dX6_reads_1 (by decide) ?_
  refine w_pi C X fX6_56 rfl rfl rfl rfl dX6_reads_2 hp (fun H locs h1 X hp => ?_)
  refine lv_iconst (v := 0) C.1 C.2.1 dX6_reads_5 (by decide) ?_
  refine w_istn C (fun v => [(1, .int (v)), (0, .ref (K.1 + p0))]) dX6_reads_6 rfl hl (by decide) (fun _ => rfl) hp (fun v1 ls hl hp => ?_)
  refine wl_X6_reads_L7 C hr hlk _ _ _ _ _ _ _ _ X (lv_sub hl [1, 0] rfl) hp (fun v8 h4 H locs ls X hl hp => ?_)
  refine lv_aload_n C.1 C.2.1 dX6_reads_37 rfl (lv_at hl 0 rfl) ?_
  refine w_gr C X fX6_13 rfl dX6_reads_38 hp (fun q2 hp => ?_)
  refine lv_aload_n C.1 C.2.1 dX6_reads_41 rfl (lv_at hl 0 rfl) ?_
  refine w_gr C X fX6_19 rfl dX6_reads_42 hp (fun q3 hp => ?_)
  refine w_cv (cells' := 0) (slots' := 0) X (fun _ e => run_S (As := [.ref (K.1 + q2), .ref (K.1 + q3)]) C X mX6_copies msX6_copies lX6_95 (ct_X6_copies l K q2 q3 h4 e) (by decide) (by decide) rfl (by decide) rfl hl.1 dX6_reads_45) (by decide) hp (fun h5 H locs X hp => ?_)
  refine lv_aload_n C.1 C.2.1 dX6_reads_48 rfl (lv_at hl 0 rfl) ?_
  refine lv_iconst (v := 0) C.1 C.2.1 dX6_reads_49 (by decide) ?_
  refine w_pi C X fX6_56 rfl rfl rfl rfl dX6_reads_50 hp (fun H locs h6 X hp => ?_)
  exact wl_X6_reads_L53 C hr hlk _ _ _ _ _ _ _ X (lv_sub hl [0, 1] rfl) hp

abbrev rmX6_house : Room := { frames := 5, cells := 0, slots := 0, locals := 109 }
def P_X6_house (p0 : Nat) (h0 : Hp) : Option (Int32 × Hp) :=
    rc h0 p0 6 <| ci (P_X6_reads p0 h0) fun v1 h1 =>
    lt (v1 : Int32) fun v2 =>
    pi h1 p0 6 7 0 fun h2 =>
    some (v2, h2)

set_option maxHeartbeats 4000000 in
set_option maxRecDepth 100000 in
theorem ct_X6_house (l : Launch) (K : Kt) (p0 : Nat) (h0 : Hp) {r : Int32} {h' : Hp} (hp : P_X6_house p0 h0 = some (r, h')) : CT l K yX6_house cX6_house 2 (some FieldType.int) rmX6_house [.ref (K.1 + p0)] h0 (Qi K r h') := by
  refine ct_of (own := RX6) (by decide +kernel) rfl (Nat.le_of_ble_eq_true rfl) ?_
  intro p e s m args below meth c C X hr hlk hm ls hl
  have hl : lv_has ls 2 [(0, .ref (K.1 + p0))] := hl
  unfold P_X6_house at hp
  refine lv_aload_n C.1 C.2.1 dX6_house_0 rfl (lv_at hl 0 rfl) ?_
  have hrc := (rc_some hp).1
  have hp := (rc_some hp).2
  refine w_ci (cells' := 0) (slots' := 0) X (fun _ _ e => run_V (As := []) (c0 := 6) C X mX6_reads miX6_reads lX6_102 (by decide) rfl hrc (ct_X6_reads l K p0 h0 e) (by decide) (by decide) rfl (by decide) rfl hl.1 dX6_house_1) (by decide) hp (fun v1 h1 H locs X hp => ?_)
  refine w_istn C (fun v => [(1, .int (v)), (0, .ref (K.1 + p0))]) dX6_house_4 rfl hl (by decide) (fun _ => rfl) hp (fun v2 ls hl hp => ?_)
  refine lv_aload_n C.1 C.2.1 dX6_house_5 rfl (lv_at hl 1 rfl) ?_
  refine lv_iconst (v := 0) C.1 C.2.1 dX6_house_6 (by decide) ?_
  refine w_pi C X fX6_48 rfl rfl rfl rfl dX6_house_7 hp (fun H locs h2 X hp => ?_)
  refine lv_iload_n C.1 C.2.1 dX6_house_10 rfl (lv_at hl 0 rfl) ?_
  exact w_reti C X hr hlk (by decide) dX6_house_11 hp

abbrev rmX6_goesInto : Room := { frames := 0, cells := 0, slots := 0, locals := 0 }
def P_X6_goesInto (a0 : Int32) (a1 : Int32) (h0 : Hp) : Option (Int32 × Hp) :=
    nz a0 <|
    if (jrem a1 a0) = 0 then (
    some (1, h0))
    else (
    some (0, h0))

set_option maxHeartbeats 4000000 in
set_option maxRecDepth 100000 in
theorem ct_X6_goesInto (l : Launch) (K : Kt) (a0 : Int32) (a1 : Int32) (h0 : Hp) {r : Int32} {h' : Hp} (hp : P_X6_goesInto a0 a1 h0 = some (r, h')) : CT l K yX6_goesInto cX6_goesInto 2 (some FieldType.boolean) rmX6_goesInto [.int a0, .int a1] h0 (Qi K r h') := by
  refine ct_of (own := RX6) (by decide +kernel) rfl (Nat.le_of_ble_eq_true rfl) ?_
  intro p e s m args below meth c C X hr hlk hm ls hl
  have hl : lv_has ls 2 [(0, .int a0), (1, .int a1)] := hl
  unfold P_X6_goesInto at hp
  refine lv_iload_n C.1 C.2.1 dX6_goesInto_0 rfl (lv_at hl 1 rfl) ?_
  refine lv_iload_n C.1 C.2.1 dX6_goesInto_1 rfl (lv_at hl 0 rfl) ?_
  have hz := (nz_some hp).1
  have hp := (nz_some hp).2
  refine w_rem C dX6_goesInto_2 hz ?_
  refine lv_if_ne (tgt := 10) C.1 C.2.1 dX6_goesInto_3 (by decide) (fun c1 => ?_) (fun c1 => ?_)
  · have hp := if_n _ c1 hp
    refine lv_iconst (v := 0) C.1 C.2.1 dX6_goesInto_10 (by decide) ?_
    exact w_retz C X hr hlk (by decide) (by decide) dX6_goesInto_11 hp
  · have hp := if_p _ c1 hp
    refine lv_iconst (v := 1) C.1 C.2.1 dX6_goesInto_6 (by decide) ?_
    refine lv_goto (tgt := 11) C.1 C.2.1 dX6_goesInto_7 (by decide) ?_
    exact w_retz C X hr hlk (by decide) (by decide) dX6_goesInto_11 hp

abbrev rmX6_turns : Room := { frames := 1, cells := 0, slots := 0, locals := 22 }
def P_X6_turns (p0 : Nat) (a1 : Int32) (a2 : Int32) (h0 : Hp) : Option (Int32 × Hp) :=
    gr h0 p0 6 1 fun q1 =>
    al h0 q1 ((28 + a2) - 1) fun v1 =>
    if v1 = 1 then (
    some (0, h0))
    else (
    rc h0 p0 6 <| ci (P_X6_get p0 a1 1 h0) fun v2 h1 =>
    lt (v2 : Int32) fun v3 =>
    rc h1 p0 6 <| ci (P_X6_get p0 a1 2 h1) fun v4 h2 =>
    lt (v4 : Int32) fun v5 =>
    rc h2 p0 6 <| ci (P_X6_get p0 a1 0 h2) fun v6 h3 =>
    if v6 = 1 then (
    ci (P_X6_goesInto a2 v3 h3) fun v7 h4 =>
    bz v7 <| some (v7, h4))
    else if v6 = 2 then (
    ci (P_X6_goesInto v3 a2 h3) fun v8 h5 =>
    if v8 = 0 then (
    some (0, h5))
    else (
    ci (P_X6_goesInto v5 a2 h5) fun v9 h6 =>
    if v9 = 0 then (
    some (0, h6))
    else (
    some (1, h6))))
    else if v6 = 3 then (
    ci (P_X6_goesInto v3 a2 h3) fun v10 h7 =>
    if v10 = 0 then (
    ci (P_X6_goesInto v5 a2 h7) fun v11 h8 =>
    if v11 = 0 then (
    some (0, h8))
    else (
    some (1, h8)))
    else (
    some (1, h7)))
    else if v6 = 4 then (
    ci (P_X6_goesInto v3 a2 h3) fun v12 h9 =>
    ci (P_X6_goesInto v5 a2 h9) fun v13 h10 =>
    if v12 = v13 then (
    some (0, h10))
    else (
    some (1, h10)))
    else if v6 = 5 then (
    if a2 < v3 then (
    some (0, h3))
    else (
    if v5 < a2 then (
    some (0, h3))
    else (
    some (1, h3))))
    else (
    ci (P_X6_goesInto v3 a2 h3) fun v14 h11 =>
    bz v14 <| some (v14, h11)))

set_option maxHeartbeats 4000000 in
set_option maxRecDepth 100000 in
theorem ct_X6_turns (l : Launch) (K : Kt) (p0 : Nat) (a1 : Int32) (a2 : Int32) (h0 : Hp) {r : Int32} {h' : Hp} (hp : P_X6_turns p0 a1 a2 h0 = some (r, h')) : CT l K yX6_turns cX6_turns 5 (some FieldType.boolean) rmX6_turns [.ref (K.1 + p0), .int a1, .int a2] h0 (Qi K r h') := by
  refine ct_of (own := RX6) (by decide +kernel) rfl (Nat.le_of_ble_eq_true rfl) ?_
  intro p e s m args below meth c C X hr hlk hm ls hl
  have hl : lv_has ls 5 [(0, .ref (K.1 + p0)), (1, .int a1), (2, .int a2)] := hl
  unfold P_X6_turns at hp
  refine lv_aload_n C.1 C.2.1 dX6_turns_0 rfl (lv_at hl 0 rfl) ?_
  refine w_gr C X fX6_13 rfl dX6_turns_1 hp (fun q1 hp => ?_)
  refine lv_bipush (v := 28) C.1 C.2.1 dX6_turns_4 (by decide) ?_
  refine lv_iload_n C.1 C.2.1 dX6_turns_6 rfl (lv_at hl 2 rfl) ?_
  refine lv_iadd C.1 C.2.1 dX6_turns_7 ?_
  refine lv_iconst (v := 1) C.1 C.2.1 dX6_turns_8 (by decide) ?_
  refine lv_isub C.1 C.2.1 dX6_turns_9 ?_
  refine w_al C X dX6_turns_10 hp (fun v1 hp => ?_)
  refine lv_iconst (v := 1) C.1 C.2.1 dX6_turns_11 (by decide) ?_
  refine lv_icmp_ne (tgt := 17) C.1 C.2.1 dX6_turns_12 (by decide) (fun c1 => ?_) (fun c1 => ?_)
  · have hp := if_n _ c1 hp
    refine lv_aload_n C.1 C.2.1 dX6_turns_17 rfl (lv_at hl 0 rfl) ?_
    refine lv_iload_n C.1 C.2.1 dX6_turns_18 rfl (lv_at hl 1 rfl) ?_
    refine lv_iconst (v := 1) C.1 C.2.1 dX6_turns_19 (by decide) ?_
    have hrc := (rc_some hp).1
    have hp := (rc_some hp).2
    refine w_ci (cells' := 0) (slots' := 0) X (fun _ _ e => run_V (As := [.int a1, .int 1]) (c0 := 6) C X mX6_get miX6_get lX6_105 (by decide) rfl hrc (ct_X6_get l K p0 a1 1 h0 e) (by decide) (by decide) rfl (by decide) rfl hl.1 dX6_turns_20) (by decide) hp (fun v2 h1 H locs X hp => ?_)
    refine w_istn C (fun v => [(3, .int (v)), (0, .ref (K.1 + p0)), (1, .int a1), (2, .int a2)]) dX6_turns_23 rfl hl (by decide) (fun _ => rfl) hp (fun v3 ls hl hp => ?_)
    refine lv_aload_n C.1 C.2.1 dX6_turns_24 rfl (lv_at hl 1 rfl) ?_
    refine lv_iload_n C.1 C.2.1 dX6_turns_25 rfl (lv_at hl 2 rfl) ?_
    refine lv_iconst (v := 2) C.1 C.2.1 dX6_turns_26 (by decide) ?_
    have hrc := (rc_some hp).1
    have hp := (rc_some hp).2
    refine w_ci (cells' := 0) (slots' := 0) X (fun _ _ e => run_V (As := [.int a1, .int 2]) (c0 := 6) C X mX6_get miX6_get lX6_105 (by decide) rfl hrc (ct_X6_get l K p0 a1 2 h1 e) (by decide) (by decide) rfl (by decide) rfl hl.1 dX6_turns_27) (by decide) hp (fun v4 h2 H locs X hp => ?_)
    refine w_ist C (fun v => [(4, .int (v)), (3, .int v3), (0, .ref (K.1 + p0)), (1, .int a1), (2, .int a2)]) dX6_turns_30 hl (by decide) (fun _ => rfl) hp (fun v5 ls hl hp => ?_)
    refine lv_aload_n C.1 C.2.1 dX6_turns_32 rfl (lv_at hl 2 rfl) ?_
    refine lv_iload_n C.1 C.2.1 dX6_turns_33 rfl (lv_at hl 3 rfl) ?_
    refine lv_iconst (v := 0) C.1 C.2.1 dX6_turns_34 (by decide) ?_
    have hrc := (rc_some hp).1
    have hp := (rc_some hp).2
    refine w_ci (cells' := 0) (slots' := 0) X (fun _ _ e => run_V (As := [.int a1, .int 0]) (c0 := 6) C X mX6_get miX6_get lX6_105 (by decide) rfl hrc (ct_X6_get l K p0 a1 0 h2 e) (by decide) (by decide) rfl (by decide) rfl hl.1 dX6_turns_35) (by decide) hp (fun v6 h3 H locs X hp => ?_)
    by_cases c2 : v6 = 1
    · have hp := if_p _ c2 hp
      refine w_tsC (tgt := 72) C dX6_turns_38 c2 (by decide) (by decide) rfl (by decide) ?_
      refine lv_iload_n C.1 C.2.1 dX6_turns_72 rfl (lv_at hl 4 rfl) ?_
      refine lv_iload_n C.1 C.2.1 dX6_turns_73 rfl (lv_at hl 1 rfl) ?_
      refine w_ci (cells' := 0) (slots' := 0) X (fun _ _ e => run_S (As := [.int a2, .int v3]) C X mX6_goesInto msX6_goesInto lX6_109 (ct_X6_goesInto l K a2 v3 h3 e) (by decide) (by decide) rfl (by decide) rfl hl.1 dX6_turns_74) (by decide) hp (fun v7 h4 H locs X hp => ?_)
      exact w_retz C X hr hlk (by decide) (bz_some hp).1 dX6_turns_77 (bz_some hp).2
    · have hp := if_n _ c2 hp
      by_cases c3 : v6 = 2
      · have hp := if_p _ c3 hp
        refine w_tsC (tgt := 78) C dX6_turns_38 c3 (by decide) (by decide) rfl (by decide) ?_
        refine lv_iload_n C.1 C.2.1 dX6_turns_78 rfl (lv_at hl 1 rfl) ?_
        refine lv_iload_n C.1 C.2.1 dX6_turns_79 rfl (lv_at hl 4 rfl) ?_
        refine w_ci (cells' := 0) (slots' := 0) X (fun _ _ e => run_S (As := [.int v3, .int a2]) C X mX6_goesInto msX6_goesInto lX6_109 (ct_X6_goesInto l K v3 a2 h3 e) (by decide) (by decide) rfl (by decide) rfl hl.1 dX6_turns_80) (by decide) hp (fun v8 h5 H locs X hp => ?_)
        refine lv_if_eq (tgt := 99) C.1 C.2.1 dX6_turns_83 (by decide) (fun c4 => ?_) (fun c4 => ?_)
        · have hp := if_p _ c4 hp
          refine lv_iconst (v := 0) C.1 C.2.1 dX6_turns_99 (by decide) ?_
          exact w_retz C X hr hlk (by decide) (by decide) dX6_turns_100 hp
        · have hp := if_n _ c4 hp
          refine lv_iload C.1 C.2.1 dX6_turns_86 (lv_at hl 0 rfl) ?_
          refine lv_iload_n C.1 C.2.1 dX6_turns_88 rfl (lv_at hl 4 rfl) ?_
          refine w_ci (cells' := 0) (slots' := 0) X (fun _ _ e => run_S (As := [.int v5, .int a2]) C X mX6_goesInto msX6_goesInto lX6_109 (ct_X6_goesInto l K v5 a2 h5 e) (by decide) (by decide) rfl (by decide) rfl hl.1 dX6_turns_89) (by decide) hp (fun v9 h6 H locs X hp => ?_)
          refine lv_if_eq (tgt := 99) C.1 C.2.1 dX6_turns_92 (by decide) (fun c5 => ?_) (fun c5 => ?_)
          · have hp := if_p _ c5 hp
            refine lv_iconst (v := 0) C.1 C.2.1 dX6_turns_99 (by decide) ?_
            exact w_retz C X hr hlk (by decide) (by decide) dX6_turns_100 hp
          · have hp := if_n _ c5 hp
            refine lv_iconst (v := 1) C.1 C.2.1 dX6_turns_95 (by decide) ?_
            refine lv_goto (tgt := 100) C.1 C.2.1 dX6_turns_96 (by decide) ?_
            exact w_retz C X hr hlk (by decide) (by decide) dX6_turns_100 hp
      · have hp := if_n _ c3 hp
        by_cases c6 : v6 = 3
        · have hp := if_p _ c6 hp
          refine w_tsC (tgt := 101) C dX6_turns_38 c6 (by decide) (by decide) rfl (by decide) ?_
          refine lv_iload_n C.1 C.2.1 dX6_turns_101 rfl (lv_at hl 1 rfl) ?_
          refine lv_iload_n C.1 C.2.1 dX6_turns_102 rfl (lv_at hl 4 rfl) ?_
          refine w_ci (cells' := 0) (slots' := 0) X (fun _ _ e => run_S (As := [.int v3, .int a2]) C X mX6_goesInto msX6_goesInto lX6_109 (ct_X6_goesInto l K v3 a2 h3 e) (by decide) (by decide) rfl (by decide) rfl hl.1 dX6_turns_103) (by decide) hp (fun v10 h7 H locs X hp => ?_)
          refine lv_if_ne (tgt := 118) C.1 C.2.1 dX6_turns_106 (by decide) (fun c7 => ?_) (fun c7 => ?_)
          · have hp := if_n _ c7 hp
            refine lv_iconst (v := 1) C.1 C.2.1 dX6_turns_118 (by decide) ?_
            refine lv_goto (tgt := 123) C.1 C.2.1 dX6_turns_119 (by decide) ?_
            exact w_retz C X hr hlk (by decide) (by decide) dX6_turns_123 hp
          · have hp := if_p _ c7 hp
            refine lv_iload C.1 C.2.1 dX6_turns_109 (lv_at hl 0 rfl) ?_
            refine lv_iload_n C.1 C.2.1 dX6_turns_111 rfl (lv_at hl 4 rfl) ?_
            refine w_ci (cells' := 0) (slots' := 0) X (fun _ _ e => run_S (As := [.int v5, .int a2]) C X mX6_goesInto msX6_goesInto lX6_109 (ct_X6_goesInto l K v5 a2 h7 e) (by decide) (by decide) rfl (by decide) rfl hl.1 dX6_turns_112) (by decide) hp (fun v11 h8 H locs X hp => ?_)
            refine lv_if_eq (tgt := 122) C.1 C.2.1 dX6_turns_115 (by decide) (fun c8 => ?_) (fun c8 => ?_)
            · have hp := if_p _ c8 hp
              refine lv_iconst (v := 0) C.1 C.2.1 dX6_turns_122 (by decide) ?_
              exact w_retz C X hr hlk (by decide) (by decide) dX6_turns_123 hp
            · have hp := if_n _ c8 hp
              refine lv_iconst (v := 1) C.1 C.2.1 dX6_turns_118 (by decide) ?_
              refine lv_goto (tgt := 123) C.1 C.2.1 dX6_turns_119 (by decide) ?_
              exact w_retz C X hr hlk (by decide) (by decide) dX6_turns_123 hp
        · have hp := if_n _ c6 hp
          by_cases c9 : v6 = 4
          · have hp := if_p _ c9 hp
            refine w_tsC (tgt := 124) C dX6_turns_38 c9 (by decide) (by decide) rfl (by decide) ?_
            refine lv_iload_n C.1 C.2.1 dX6_turns_124 rfl (lv_at hl 1 rfl) ?_
            refine lv_iload_n C.1 C.2.1 dX6_turns_125 rfl (lv_at hl 4 rfl) ?_
            refine w_ci (cells' := 0) (slots' := 0) X (fun _ _ e => run_S (As := [.int v3, .int a2]) C X mX6_goesInto msX6_goesInto lX6_109 (ct_X6_goesInto l K v3 a2 h3 e) (by decide) (by decide) rfl (by decide) rfl hl.1 dX6_turns_126) (by decide) hp (fun v12 h9 H locs X hp => ?_)
            refine lv_iload C.1 C.2.1 dX6_turns_129 (lv_at hl 0 rfl) ?_
            refine lv_iload_n C.1 C.2.1 dX6_turns_131 rfl (lv_at hl 4 rfl) ?_
            refine w_ci (cells' := 0) (slots' := 0) X (fun _ _ e => run_S (As := [.int v5, .int a2]) C X mX6_goesInto msX6_goesInto lX6_109 (ct_X6_goesInto l K v5 a2 h9 e) (by decide) (by decide) rfl (Nat.le_of_ble_eq_true rfl) rfl hl.1 dX6_turns_132) (by decide) hp (fun v13 h10 H locs X hp => ?_)
            refine lv_icmp_eq (tgt := 142) C.1 C.2.1 dX6_turns_135 (by decide) (fun c10 => ?_) (fun c10 => ?_)
            · have hp := if_p _ c10 hp
              refine lv_iconst (v := 0) C.1 C.2.1 dX6_turns_142 (by decide) ?_
              exact w_retz C X hr hlk (by decide) (by decide) dX6_turns_143 hp
            · have hp := if_n _ c10 hp
              refine lv_iconst (v := 1) C.1 C.2.1 dX6_turns_138 (by decide) ?_
              refine lv_goto (tgt := 143) C.1 C.2.1 dX6_turns_139 (by decide) ?_
              exact w_retz C X hr hlk (by decide) (by decide) dX6_turns_143 hp
          · have hp := if_n _ c9 hp
            by_cases c11 : v6 = 5
            · have hp := if_p _ c11 hp
              refine w_tsC (tgt := 144) C dX6_turns_38 c11 (by decide) (by decide) rfl (by decide) ?_
              refine lv_iload_n C.1 C.2.1 dX6_turns_144 rfl (lv_at hl 4 rfl) ?_
              refine lv_iload_n C.1 C.2.1 dX6_turns_145 rfl (lv_at hl 1 rfl) ?_
              refine lv_icmp_lt (tgt := 159) C.1 C.2.1 dX6_turns_146 (by decide) (fun c12 => ?_) (fun c12 => ?_)
              · have hp := if_p _ c12 hp
                refine lv_iconst (v := 0) C.1 C.2.1 dX6_turns_159 (by decide) ?_
                exact w_retz C X hr hlk (by decide) (by decide) dX6_turns_160 hp
              · have hp := if_n _ c12 hp
                refine lv_iload_n C.1 C.2.1 dX6_turns_149 rfl (lv_at hl 4 rfl) ?_
                refine lv_iload C.1 C.2.1 dX6_turns_150 (lv_at hl 0 rfl) ?_
                refine lv_icmp_gt (tgt := 159) C.1 C.2.1 dX6_turns_152 (by decide) (fun c13 => ?_) (fun c13 => ?_)
                · have hp := if_p _ c13 hp
                  refine lv_iconst (v := 0) C.1 C.2.1 dX6_turns_159 (by decide) ?_
                  exact w_retz C X hr hlk (by decide) (by decide) dX6_turns_160 hp
                · have hp := if_n _ c13 hp
                  refine lv_iconst (v := 1) C.1 C.2.1 dX6_turns_155 (by decide) ?_
                  refine lv_goto (tgt := 160) C.1 C.2.1 dX6_turns_156 (by decide) ?_
                  exact w_retz C X hr hlk (by decide) (by decide) dX6_turns_160 hp
            · have hp := if_n _ c11 hp
              refine w_tsD (tgt := 161) C [1, 2, 3, 4, 5] dX6_turns_38 (by intro k hk; simp only [List.mem_cons, List.not_mem_nil, or_false] at hk; rcases hk with hk | hk | hk | hk | hk <;> subst hk <;> assumption) (by decide) (by decide) (by decide) ?_
              refine lv_iload_n C.1 C.2.1 dX6_turns_161 rfl (lv_at hl 1 rfl) ?_
              refine lv_iload_n C.1 C.2.1 dX6_turns_162 rfl (lv_at hl 4 rfl) ?_
              refine w_ci (cells' := 0) (slots' := 0) X (fun _ _ e => run_S (As := [.int v3, .int a2]) C X mX6_goesInto msX6_goesInto lX6_109 (ct_X6_goesInto l K v3 a2 h3 e) (by decide) (by decide) rfl (by decide) rfl hl.1 dX6_turns_163) (by decide) hp (fun v14 h11 H locs X hp => ?_)
              exact w_retz C X hr hlk (by decide) (bz_some hp).1 dX6_turns_166 (bz_some hp).2
  · have hp := if_p _ c1 hp
    refine lv_iconst (v := 0) C.1 C.2.1 dX6_turns_15 (by decide) ?_
    exact w_retz C X hr hlk (by decide) (by decide) dX6_turns_16 hp

abbrev rmX6_turned : Room := { frames := 2, cells := 0, slots := 0, locals := 46 }
def P_X6_turned_L4 : Nat → Nat → Int32 → Int32 → Int32 → Hp → Option (Int32 × Hp)
  | 0, _, _, _, _, _ => none
  | n + 1, q1, v3, v4, v5, h1 =>
    gr h1 q1 6 1 fun q2 =>
    al h1 q2 0 fun v6 =>
    if v6 < v5 then (
    some (v4, h1))
    else (
    rc h1 q1 6 <| ci (P_X6_turns q1 v3 v5 h1) fun v7 h2 =>
    if v7 = 0 then (
    lt ((v4 ||| 0) : Int32) fun v8 =>
    lt ((v5 + 1) : Int32) fun v9 =>
    P_X6_turned_L4 n q1 v3 v8 v9 h2)
    else (
    lt ((v4 ||| (jshl 1 (v5 - 1))) : Int32) fun v10 =>
    lt ((v5 + 1) : Int32) fun v11 =>
    P_X6_turned_L4 n q1 v3 v10 v11 h2))

def P_X6_turned (p0 : Nat) (a1 : Int32) (h0 : Hp) : Option (Int32 × Hp) :=
    lt (0 : Int32) fun v1 =>
    lt (1 : Int32) fun v2 =>
    P_X6_turned_L4 FU p0 a1 v1 v2 h0

set_option maxHeartbeats 4000000 in
set_option maxRecDepth 100000 in
theorem wl_X6_turned_L4 (C : CX K p m c cX6_turned 4 s args RX6) (hr : meth.sig.returnType = (some FieldType.int)) (hlk : meth.locks = false) {r : Int32} {h' : Hp} : ∀ (n : Nat) (q1 : Nat) (v3 : Int32) (v4 : Int32) (v5 : Int32) (h1 : Hp) (H : Heap) (locs : List Loc) (ls : Array Slot), HX K s.heap H locs h1 → lv_has ls 4 [(0, .ref (K.1 + q1)), (1, .int v3), (2, .int v4), (3, .int v5)] → P_X6_turned_L4 n q1 v3 v4 v5 h1 = some (r, h') → W p l e rmX6_turned s m args below meth c H locs 0 0 (MQ below (Qi K r h') args s rmX6_turned.cells rmX6_turned.slots (KA K)) (F0 m 4 ls []) := by
  intro n
  induction n with
  | zero =>
    intro  q1 v3 v4 v5 h1 H locs ls X hl hp
    cases hp
  | succ n ih =>
    intro  q1 v3 v4 v5 h1 H locs ls X hl hp
    unfold P_X6_turned_L4 at hp
    refine lv_iload_n C.1 C.2.1 dX6_turned_4 rfl (lv_at hl 3 rfl) ?_
    refine lv_aload_n C.1 C.2.1 dX6_turned_5 rfl (lv_at hl 0 rfl) ?_
    refine w_gr C X fX6_13 rfl dX6_turned_6 hp (fun q2 hp => ?_)
    refine lv_iconst (v := 0) C.1 C.2.1 dX6_turned_9 (by decide) ?_
    refine w_al C X dX6_turned_10 hp (fun v6 hp => ?_)
    refine lv_icmp_gt (tgt := 41) C.1 C.2.1 dX6_turned_11 (by decide) (fun c1 => ?_) (fun c1 => ?_)
    · have hp := if_p _ c1 hp
      refine lv_iload_n C.1 C.2.1 dX6_turned_41 rfl (lv_at hl 2 rfl) ?_
      exact w_reti C X hr hlk (by decide) dX6_turned_42 hp
    · have hp := if_n _ c1 hp
      refine lv_iload_n C.1 C.2.1 dX6_turned_14 rfl (lv_at hl 2 rfl) ?_
      refine lv_aload_n C.1 C.2.1 dX6_turned_15 rfl (lv_at hl 0 rfl) ?_
      refine lv_iload_n C.1 C.2.1 dX6_turned_16 rfl (lv_at hl 1 rfl) ?_
      refine lv_iload_n C.1 C.2.1 dX6_turned_17 rfl (lv_at hl 3 rfl) ?_
      have hrc := (rc_some hp).1
      have hp := (rc_some hp).2
      refine w_ci (cells' := 0) (slots' := 0) X (fun _ _ e => run_V (As := [.int v3, .int v5]) (c0 := 6) C X mX6_turns miX6_turns lX6_112 (by decide) rfl hrc (ct_X6_turns l K q1 v3 v5 h1 e) (by decide) (by decide) rfl (Nat.le_of_ble_eq_true rfl) rfl hl.1 dX6_turned_18) (by decide) hp (fun v7 h2 H locs X hp => ?_)
      refine lv_if_eq (tgt := 32) C.1 C.2.1 dX6_turned_21 (by decide) (fun c2 => ?_) (fun c2 => ?_)
      · have hp := if_p _ c2 hp
        refine lv_iconst (v := 0) C.1 C.2.1 dX6_turned_32 (by decide) ?_
        refine lv_ior C.1 C.2.1 dX6_turned_33 ?_
        refine w_istn C (fun v => [(2, .int (v)), (0, .ref (K.1 + q1)), (1, .int v3), (3, .int v5)]) dX6_turned_34 rfl hl (by decide) (fun _ => rfl) hp (fun v8 ls hl hp => ?_)
        refine w_inc (k := 3) C (fun v => [(3, .int (v)), (2, .int v8), (0, .ref (K.1 + q1)), (1, .int v3)]) dX6_turned_35 hl rfl (y := (v5 + 1)) rfl (by decide) (fun _ => rfl) hp (fun v9 ls hl hp => ?_)
        refine lv_goto (tgt := 4) C.1 C.2.1 dX6_turned_38 (by decide) ?_
        exact ih _ _ _ _ _ _ _ _ X (lv_sub hl [2, 3, 1, 0] rfl) hp
      · have hp := if_n _ c2 hp
        refine lv_iconst (v := 1) C.1 C.2.1 dX6_turned_24 (by decide) ?_
        refine lv_iload_n C.1 C.2.1 dX6_turned_25 rfl (lv_at hl 3 rfl) ?_
        refine lv_iconst (v := 1) C.1 C.2.1 dX6_turned_26 (by decide) ?_
        refine lv_isub C.1 C.2.1 dX6_turned_27 ?_
        refine w_shl C dX6_turned_28 ?_
        refine lv_goto (tgt := 33) C.1 C.2.1 dX6_turned_29 (by decide) ?_
        refine lv_ior C.1 C.2.1 dX6_turned_33 ?_
        refine w_istn C (fun v => [(2, .int (v)), (0, .ref (K.1 + q1)), (1, .int v3), (3, .int v5)]) dX6_turned_34 rfl hl (by decide) (fun _ => rfl) hp (fun v10 ls hl hp => ?_)
        refine w_inc (k := 3) C (fun v => [(3, .int (v)), (2, .int v10), (0, .ref (K.1 + q1)), (1, .int v3)]) dX6_turned_35 hl rfl (y := (v5 + 1)) rfl (by decide) (fun _ => rfl) hp (fun v11 ls hl hp => ?_)
        refine lv_goto (tgt := 4) C.1 C.2.1 dX6_turned_38 (by decide) ?_
        exact ih _ _ _ _ _ _ _ _ X (lv_sub hl [2, 3, 1, 0] rfl) hp

set_option maxHeartbeats 4000000 in
set_option maxRecDepth 100000 in
theorem ct_X6_turned (l : Launch) (K : Kt) (p0 : Nat) (a1 : Int32) (h0 : Hp) {r : Int32} {h' : Hp} (hp : P_X6_turned p0 a1 h0 = some (r, h')) : CT l K yX6_turned cX6_turned 4 (some FieldType.int) rmX6_turned [.ref (K.1 + p0), .int a1] h0 (Qi K r h') := by
  refine ct_of (own := RX6) (by decide +kernel) rfl (Nat.le_of_ble_eq_true rfl) ?_
  intro p e s m args below meth c C X hr hlk hm ls hl
  have hl : lv_has ls 4 [(0, .ref (K.1 + p0)), (1, .int a1)] := hl
  unfold P_X6_turned at hp
  refine lv_iconst (v := 0) C.1 C.2.1 dX6_turned_0 (by decide) ?_
  refine w_istn C (fun v => [(2, .int (v)), (0, .ref (K.1 + p0)), (1, .int a1)]) dX6_turned_1 rfl hl (by decide) (fun _ => rfl) hp (fun v1 ls hl hp => ?_)
  refine lv_iconst (v := 1) C.1 C.2.1 dX6_turned_2 (by decide) ?_
  refine w_istn C (fun v => [(3, .int (v)), (2, .int v1), (0, .ref (K.1 + p0)), (1, .int a1)]) dX6_turned_3 rfl hl (by decide) (fun _ => rfl) hp (fun v2 ls hl hp => ?_)
  exact wl_X6_turned_L4 C hr hlk _ _ _ _ _ _ _ _ _ X (lv_sub hl [2, 3, 1, 0] rfl) hp

abbrev rmX6_door : Room := { frames := 1, cells := 0, slots := 0, locals := 21 }
def P_X6_door (p0 : Nat) (a1 : Int32) (a2 : Int32) (h0 : Hp) : Option (Int32 × Hp) :=
    rc h0 p0 6 <| ci (P_X6_isDoor p0 a1 h0) fun v1 h1 =>
    if v1 = 0 then (
    rc h1 p0 6 <| ci (P_X6_refuse p0 (-1) h1) fun v5 h4 =>
    some (v5, h4))
    else (
    ci (P_X6_isIn a2 3 h1) fun v2 h2 =>
    if v2 = 0 then (
    rc h2 p0 6 <| ci (P_X6_refuse p0 (-2) h2) fun v3 h3 =>
    some (v3, h3))
    else (
    gr h2 p0 6 1 fun q1 =>
    al h2 q1 (((4 + (12 * a2)) + a1) - 1) fun v4 =>
    some (v4, h2)))

set_option maxHeartbeats 4000000 in
set_option maxRecDepth 100000 in
theorem ct_X6_door (l : Launch) (K : Kt) (p0 : Nat) (a1 : Int32) (a2 : Int32) (h0 : Hp) {r : Int32} {h' : Hp} (hp : P_X6_door p0 a1 a2 h0 = some (r, h')) : CT l K yX6_door cX6_door 3 (some FieldType.int) rmX6_door [.ref (K.1 + p0), .int a1, .int a2] h0 (Qi K r h') := by
  refine ct_of (own := RX6) (by decide +kernel) rfl (Nat.le_of_ble_eq_true rfl) ?_
  intro p e s m args below meth c C X hr hlk hm ls hl
  have hl : lv_has ls 3 [(0, .ref (K.1 + p0)), (1, .int a1), (2, .int a2)] := hl
  unfold P_X6_door at hp
  refine lv_aload_n C.1 C.2.1 dX6_door_0 rfl (lv_at hl 0 rfl) ?_
  refine lv_iload_n C.1 C.2.1 dX6_door_1 rfl (lv_at hl 1 rfl) ?_
  have hrc := (rc_some hp).1
  have hp := (rc_some hp).2
  refine w_ci (cells' := 0) (slots' := 0) X (fun _ _ e => run_V (As := [.int a1]) (c0 := 6) C X mX6_isDoor miX6_isDoor lX6_115 (by decide) rfl hrc (ct_X6_isDoor l K p0 a1 h0 e) (by decide) (by decide) rfl (by decide) rfl hl.1 dX6_door_2) (by decide) hp (fun v1 h1 H locs X hp => ?_)
  refine lv_if_ne (tgt := 16) C.1 C.2.1 dX6_door_5 (by decide) (fun c1 => ?_) (fun c1 => ?_)
  · have hp := if_n _ c1 hp
    refine lv_iload_n C.1 C.2.1 dX6_door_16 rfl (lv_at hl 2 rfl) ?_
    refine lv_iconst (v := 3) C.1 C.2.1 dX6_door_17 (by decide) ?_
    refine w_ci (cells' := 0) (slots' := 0) X (fun _ _ e => run_S (As := [.int a2, .int 3]) C X mX6_isIn msX6_isIn lX6_40 (ct_X6_isIn l K a2 3 h1 e) (by decide) (by decide) rfl (by decide) rfl hl.1 dX6_door_18) (by decide) hp (fun v2 h2 H locs X hp => ?_)
    refine lv_if_eq (tgt := 42) C.1 C.2.1 dX6_door_21 (by decide) (fun c2 => ?_) (fun c2 => ?_)
    · have hp := if_p _ c2 hp
      refine lv_aload_n C.1 C.2.1 dX6_door_42 rfl (lv_at hl 0 rfl) ?_
      refine lv_bipush (v := -2) C.1 C.2.1 dX6_door_43 (by decide) ?_
      have hrc := (rc_some hp).1
      have hp := (rc_some hp).2
      refine w_ci (cells' := 0) (slots' := 0) X (fun _ _ e => run_V (As := [.int (-2)]) (c0 := 6) C X mX6_refuse miX6_refuse lX6_52 (by decide) rfl hrc (ct_X6_refuse l K p0 (-2) h2 e) (by decide) (by decide) rfl (by decide) rfl hl.1 dX6_door_45) (by decide) hp (fun v3 h3 H locs X hp => ?_)
      exact w_reti C X hr hlk (by decide) dX6_door_48 hp
    · have hp := if_n _ c2 hp
      refine lv_aload_n C.1 C.2.1 dX6_door_24 rfl (lv_at hl 0 rfl) ?_
      refine w_gr C X fX6_13 rfl dX6_door_25 hp (fun q1 hp => ?_)
      refine lv_iconst (v := 4) C.1 C.2.1 dX6_door_28 (by decide) ?_
      refine lv_bipush (v := 12) C.1 C.2.1 dX6_door_29 (by decide) ?_
      refine lv_iload_n C.1 C.2.1 dX6_door_31 rfl (lv_at hl 2 rfl) ?_
      refine lv_imul C.1 C.2.1 dX6_door_32 ?_
      refine lv_iadd C.1 C.2.1 dX6_door_33 ?_
      refine lv_iload_n C.1 C.2.1 dX6_door_34 rfl (lv_at hl 1 rfl) ?_
      refine lv_iadd C.1 C.2.1 dX6_door_35 ?_
      refine lv_iconst (v := 1) C.1 C.2.1 dX6_door_36 (by decide) ?_
      refine lv_isub C.1 C.2.1 dX6_door_37 ?_
      refine w_al C X dX6_door_38 hp (fun v4 hp => ?_)
      refine lv_goto (tgt := 48) C.1 C.2.1 dX6_door_39 (by decide) ?_
      exact w_reti C X hr hlk (by decide) dX6_door_48 hp
  · have hp := if_p _ c1 hp
    refine lv_aload_n C.1 C.2.1 dX6_door_8 rfl (lv_at hl 0 rfl) ?_
    refine lv_iconst (v := -1) C.1 C.2.1 dX6_door_9 (by decide) ?_
    have hrc := (rc_some hp).1
    have hp := (rc_some hp).2
    refine w_ci (cells' := 0) (slots' := 0) X (fun _ _ e => run_V (As := [.int (-1)]) (c0 := 6) C X mX6_refuse miX6_refuse lX6_52 (by decide) rfl hrc (ct_X6_refuse l K p0 (-1) h1 e) (by decide) (by decide) rfl (by decide) rfl hl.1 dX6_door_10) (by decide) hp (fun v5 h4 H locs X hp => ?_)
    refine lv_goto (tgt := 48) C.1 C.2.1 dX6_door_13 (by decide) ?_
    exact w_reti C X hr hlk (by decide) dX6_door_48 hp

abbrev rmX6_person : Room := { frames := 3, cells := 0, slots := 0, locals := 69 }
def P_X6_person (p0 : Nat) (a1 : Int32) (a2 : Int32) (h0 : Hp) : Option (Int32 × Hp) :=
    rc h0 p0 6 <| ci (P_X6_isPerson p0 a1 h0) fun v1 h1 =>
    if v1 = 0 then (
    rc h1 p0 6 <| ci (P_X6_refuse p0 (-1) h1) fun v6 h6 =>
    some (v6, h6))
    else (
    ci (P_X6_isIn a2 4 h1) fun v2 h2 =>
    if v2 = 0 then (
    if a2 = 4 then (
    rc h2 p0 6 <| ci (P_X6_turned p0 a1 h2) fun v4 h4 =>
    some (v4, h4))
    else (
    rc h2 p0 6 <| ci (P_X6_refuse p0 (-2) h2) fun v3 h3 =>
    some (v3, h3)))
    else (
    rc h2 p0 6 <| ci (P_X6_get p0 a1 a2 h2) fun v5 h5 =>
    some (v5, h5)))

set_option maxHeartbeats 4000000 in
set_option maxRecDepth 100000 in
theorem ct_X6_person (l : Launch) (K : Kt) (p0 : Nat) (a1 : Int32) (a2 : Int32) (h0 : Hp) {r : Int32} {h' : Hp} (hp : P_X6_person p0 a1 a2 h0 = some (r, h')) : CT l K yX6_person cX6_person 3 (some FieldType.int) rmX6_person [.ref (K.1 + p0), .int a1, .int a2] h0 (Qi K r h') := by
  refine ct_of (own := RX6) (by decide +kernel) rfl (Nat.le_of_ble_eq_true rfl) ?_
  intro p e s m args below meth c C X hr hlk hm ls hl
  have hl : lv_has ls 3 [(0, .ref (K.1 + p0)), (1, .int a1), (2, .int a2)] := hl
  unfold P_X6_person at hp
  refine lv_aload_n C.1 C.2.1 dX6_person_0 rfl (lv_at hl 0 rfl) ?_
  refine lv_iload_n C.1 C.2.1 dX6_person_1 rfl (lv_at hl 1 rfl) ?_
  have hrc := (rc_some hp).1
  have hp := (rc_some hp).2
  refine w_ci (cells' := 0) (slots' := 0) X (fun _ _ e => run_V (As := [.int a1]) (c0 := 6) C X mX6_isPerson miX6_isPerson lX6_118 (by decide) rfl hrc (ct_X6_isPerson l K p0 a1 h0 e) (by decide) (by decide) rfl (by decide) rfl hl.1 dX6_person_2) (by decide) hp (fun v1 h1 H locs X hp => ?_)
  refine lv_if_ne (tgt := 16) C.1 C.2.1 dX6_person_5 (by decide) (fun c1 => ?_) (fun c1 => ?_)
  · have hp := if_n _ c1 hp
    refine lv_iload_n C.1 C.2.1 dX6_person_16 rfl (lv_at hl 2 rfl) ?_
    refine lv_iconst (v := 4) C.1 C.2.1 dX6_person_17 (by decide) ?_
    refine w_ci (cells' := 0) (slots' := 0) X (fun _ _ e => run_S (As := [.int a2, .int 4]) C X mX6_isIn msX6_isIn lX6_40 (ct_X6_isIn l K a2 4 h1 e) (by decide) (by decide) rfl (by decide) rfl hl.1 dX6_person_18) (by decide) hp (fun v2 h2 H locs X hp => ?_)
    refine lv_if_eq (tgt := 33) C.1 C.2.1 dX6_person_21 (by decide) (fun c2 => ?_) (fun c2 => ?_)
    · have hp := if_p _ c2 hp
      refine lv_iload_n C.1 C.2.1 dX6_person_33 rfl (lv_at hl 2 rfl) ?_
      refine lv_iconst (v := 4) C.1 C.2.1 dX6_person_34 (by decide) ?_
      refine lv_icmp_ne (tgt := 46) C.1 C.2.1 dX6_person_35 (by decide) (fun c3 => ?_) (fun c3 => ?_)
      · have hp := if_n _ c3 hp
        refine lv_aload_n C.1 C.2.1 dX6_person_46 rfl (lv_at hl 0 rfl) ?_
        refine lv_bipush (v := -2) C.1 C.2.1 dX6_person_47 (by decide) ?_
        have hrc := (rc_some hp).1
        have hp := (rc_some hp).2
        refine w_ci (cells' := 0) (slots' := 0) X (fun _ _ e => run_V (As := [.int (-2)]) (c0 := 6) C X mX6_refuse miX6_refuse lX6_52 (by decide) rfl hrc (ct_X6_refuse l K p0 (-2) h2 e) (by decide) (by decide) rfl (by decide) rfl hl.1 dX6_person_49) (by decide) hp (fun v3 h3 H locs X hp => ?_)
        exact w_reti C X hr hlk (by decide) dX6_person_52 hp
      · have hp := if_p _ c3 hp
        refine lv_aload_n C.1 C.2.1 dX6_person_38 rfl (lv_at hl 0 rfl) ?_
        refine lv_iload_n C.1 C.2.1 dX6_person_39 rfl (lv_at hl 1 rfl) ?_
        have hrc := (rc_some hp).1
        have hp := (rc_some hp).2
        refine w_ci (cells' := 0) (slots' := 0) X (fun _ _ e => run_V (As := [.int a1]) (c0 := 6) C X mX6_turned miX6_turned lX6_121 (by decide) rfl hrc (ct_X6_turned l K p0 a1 h2 e) (by decide) (by decide) rfl (by decide) rfl hl.1 dX6_person_40) (by decide) hp (fun v4 h4 H locs X hp => ?_)
        refine lv_goto (tgt := 52) C.1 C.2.1 dX6_person_43 (by decide) ?_
        exact w_reti C X hr hlk (by decide) dX6_person_52 hp
    · have hp := if_n _ c2 hp
      refine lv_aload_n C.1 C.2.1 dX6_person_24 rfl (lv_at hl 0 rfl) ?_
      refine lv_iload_n C.1 C.2.1 dX6_person_25 rfl (lv_at hl 1 rfl) ?_
      refine lv_iload_n C.1 C.2.1 dX6_person_26 rfl (lv_at hl 2 rfl) ?_
      have hrc := (rc_some hp).1
      have hp := (rc_some hp).2
      refine w_ci (cells' := 0) (slots' := 0) X (fun _ _ e => run_V (As := [.int a1, .int a2]) (c0 := 6) C X mX6_get miX6_get lX6_105 (by decide) rfl hrc (ct_X6_get l K p0 a1 a2 h2 e) (by decide) (by decide) rfl (by decide) rfl hl.1 dX6_person_27) (by decide) hp (fun v5 h5 H locs X hp => ?_)
      refine lv_goto (tgt := 52) C.1 C.2.1 dX6_person_30 (by decide) ?_
      exact w_reti C X hr hlk (by decide) dX6_person_52 hp
  · have hp := if_p _ c1 hp
    refine lv_aload_n C.1 C.2.1 dX6_person_8 rfl (lv_at hl 0 rfl) ?_
    refine lv_iconst (v := -1) C.1 C.2.1 dX6_person_9 (by decide) ?_
    have hrc := (rc_some hp).1
    have hp := (rc_some hp).2
    refine w_ci (cells' := 0) (slots' := 0) X (fun _ _ e => run_V (As := [.int (-1)]) (c0 := 6) C X mX6_refuse miX6_refuse lX6_52 (by decide) rfl hrc (ct_X6_refuse l K p0 (-1) h1 e) (by decide) (by decide) rfl (by decide) rfl hl.1 dX6_person_10) (by decide) hp (fun v6 h6 H locs X hp => ?_)
    refine lv_goto (tgt := 52) C.1 C.2.1 dX6_person_13 (by decide) ?_
    exact w_reti C X hr hlk (by decide) dX6_person_52 hp

abbrev rmX6_turnsDoor : Room := { frames := 0, cells := 0, slots := 0, locals := 0 }
def P_X6_turnsDoor (p0 : Nat) (a1 : Int32) (h0 : Hp) : Option (Hp) :=
    gr h0 p0 6 1 fun q1 =>
    gr h0 p0 6 1 fun q2 =>
    al h0 q2 ((4 + a1) - 1) fun v1 =>
    gr h0 p0 6 1 fun q3 =>
    al h0 q3 1 fun v2 =>
    nz v2 <|
    as h0 q1 ((4 + a1) - 1) (jrem (v1 + 1) v2) fun h1 =>
    some h1

set_option maxHeartbeats 4000000 in
set_option maxRecDepth 100000 in
theorem ct_X6_turnsDoor (l : Launch) (K : Kt) (p0 : Nat) (a1 : Int32) (h0 : Hp) {h' : Hp} (hp : P_X6_turnsDoor p0 a1 h0 = some h') : CT l K yX6_turnsDoor cX6_turnsDoor 2 none rmX6_turnsDoor [.ref (K.1 + p0), .int a1] h0 (Qv K h') := by
  refine ct_of (own := RX6) (by decide +kernel) rfl (Nat.le_of_ble_eq_true rfl) ?_
  intro p e s m args below meth c C X hr hlk hm ls hl
  have hl : lv_has ls 2 [(0, .ref (K.1 + p0)), (1, .int a1)] := hl
  unfold P_X6_turnsDoor at hp
  refine lv_aload_n C.1 C.2.1 dX6_turnsDoor_0 rfl (lv_at hl 0 rfl) ?_
  refine w_gr C X fX6_13 rfl dX6_turnsDoor_1 hp (fun q1 hp => ?_)
  refine lv_iconst (v := 4) C.1 C.2.1 dX6_turnsDoor_4 (by decide) ?_
  refine lv_iload_n C.1 C.2.1 dX6_turnsDoor_5 rfl (lv_at hl 1 rfl) ?_
  refine lv_iadd C.1 C.2.1 dX6_turnsDoor_6 ?_
  refine lv_iconst (v := 1) C.1 C.2.1 dX6_turnsDoor_7 (by decide) ?_
  refine lv_isub C.1 C.2.1 dX6_turnsDoor_8 ?_
  refine lv_aload_n C.1 C.2.1 dX6_turnsDoor_9 rfl (lv_at hl 0 rfl) ?_
  refine w_gr C X fX6_13 rfl dX6_turnsDoor_10 hp (fun q2 hp => ?_)
  refine lv_iconst (v := 4) C.1 C.2.1 dX6_turnsDoor_13 (by decide) ?_
  refine lv_iload_n C.1 C.2.1 dX6_turnsDoor_14 rfl (lv_at hl 1 rfl) ?_
  refine lv_iadd C.1 C.2.1 dX6_turnsDoor_15 ?_
  refine lv_iconst (v := 1) C.1 C.2.1 dX6_turnsDoor_16 (by decide) ?_
  refine lv_isub C.1 C.2.1 dX6_turnsDoor_17 ?_
  refine w_al C X dX6_turnsDoor_18 hp (fun v1 hp => ?_)
  refine lv_iconst (v := 1) C.1 C.2.1 dX6_turnsDoor_19 (by decide) ?_
  refine lv_iadd C.1 C.2.1 dX6_turnsDoor_20 ?_
  refine lv_aload_n C.1 C.2.1 dX6_turnsDoor_21 rfl (lv_at hl 0 rfl) ?_
  refine w_gr C X fX6_13 rfl dX6_turnsDoor_22 hp (fun q3 hp => ?_)
  refine lv_iconst (v := 1) C.1 C.2.1 dX6_turnsDoor_25 (by decide) ?_
  refine w_al C X dX6_turnsDoor_26 hp (fun v2 hp => ?_)
  have hz := (nz_some hp).1
  have hp := (nz_some hp).2
  refine w_rem C dX6_turnsDoor_27 hz ?_
  refine w_as C X dX6_turnsDoor_28 hp (fun H locs h1 X hp => ?_)
  exact w_retv C X hr hlk (by decide) dX6_turnsDoor_29 hp

abbrev rmX6_goes : Room := { frames := 2, cells := 0, slots := 0, locals := 46 }
def P_X6_goes_L4 : Nat → Nat → Int32 → Int32 → Int32 → Hp → Option (Int32 × Hp)
  | 0, _, _, _, _, _ => none
  | n + 1, q1, v3, v4, v5, h1 =>
    gr h1 q1 6 1 fun q2 =>
    al h1 q2 0 fun v6 =>
    if v6 < v5 then (
    some (v4, h1))
    else (
    rc h1 q1 6 <| ci (P_X6_turns q1 v3 v5 h1) fun v7 h2 =>
    if v7 = 0 then (
    lt ((v5 + 1) : Int32) fun v10 =>
    P_X6_goes_L4 n q1 v3 v4 v10 h2)
    else (
    rc h2 q1 6 <| cv (P_X6_turnsDoor q1 v5 h2) fun h3 =>
    lt ((v4 + 1) : Int32) fun v8 =>
    lt ((v5 + 1) : Int32) fun v9 =>
    P_X6_goes_L4 n q1 v3 v8 v9 h3))

def P_X6_goes (p0 : Nat) (a1 : Int32) (h0 : Hp) : Option (Int32 × Hp) :=
    lt (0 : Int32) fun v1 =>
    lt (1 : Int32) fun v2 =>
    P_X6_goes_L4 FU p0 a1 v1 v2 h0

set_option maxHeartbeats 4000000 in
set_option maxRecDepth 100000 in
theorem wl_X6_goes_L4 (C : CX K p m c cX6_goes 4 s args RX6) (hr : meth.sig.returnType = (some FieldType.int)) (hlk : meth.locks = false) {r : Int32} {h' : Hp} : ∀ (n : Nat) (q1 : Nat) (v3 : Int32) (v4 : Int32) (v5 : Int32) (h1 : Hp) (H : Heap) (locs : List Loc) (ls : Array Slot), HX K s.heap H locs h1 → lv_has ls 4 [(0, .ref (K.1 + q1)), (1, .int v3), (2, .int v4), (3, .int v5)] → P_X6_goes_L4 n q1 v3 v4 v5 h1 = some (r, h') → W p l e rmX6_goes s m args below meth c H locs 0 0 (MQ below (Qi K r h') args s rmX6_goes.cells rmX6_goes.slots (KA K)) (F0 m 4 ls []) := by
  intro n
  induction n with
  | zero =>
    intro  q1 v3 v4 v5 h1 H locs ls X hl hp
    cases hp
  | succ n ih =>
    intro  q1 v3 v4 v5 h1 H locs ls X hl hp
    unfold P_X6_goes_L4 at hp
    refine lv_iload_n C.1 C.2.1 dX6_goes_4 rfl (lv_at hl 3 rfl) ?_
    refine lv_aload_n C.1 C.2.1 dX6_goes_5 rfl (lv_at hl 0 rfl) ?_
    refine w_gr C X fX6_13 rfl dX6_goes_6 hp (fun q2 hp => ?_)
    refine lv_iconst (v := 0) C.1 C.2.1 dX6_goes_9 (by decide) ?_
    refine w_al C X dX6_goes_10 hp (fun v6 hp => ?_)
    refine lv_icmp_gt (tgt := 40) C.1 C.2.1 dX6_goes_11 (by decide) (fun c1 => ?_) (fun c1 => ?_)
    · have hp := if_p _ c1 hp
      refine lv_iload_n C.1 C.2.1 dX6_goes_40 rfl (lv_at hl 2 rfl) ?_
      exact w_reti C X hr hlk (by decide) dX6_goes_41 hp
    · have hp := if_n _ c1 hp
      refine lv_aload_n C.1 C.2.1 dX6_goes_14 rfl (lv_at hl 0 rfl) ?_
      refine lv_iload_n C.1 C.2.1 dX6_goes_15 rfl (lv_at hl 1 rfl) ?_
      refine lv_iload_n C.1 C.2.1 dX6_goes_16 rfl (lv_at hl 3 rfl) ?_
      have hrc := (rc_some hp).1
      have hp := (rc_some hp).2
      refine w_ci (cells' := 0) (slots' := 0) X (fun _ _ e => run_V (As := [.int v3, .int v5]) (c0 := 6) C X mX6_turns miX6_turns lX6_112 (by decide) rfl hrc (ct_X6_turns l K q1 v3 v5 h1 e) (by decide) (by decide) rfl (by decide) rfl hl.1 dX6_goes_17) (by decide) hp (fun v7 h2 H locs X hp => ?_)
      refine lv_if_ne (tgt := 26) C.1 C.2.1 dX6_goes_20 (by decide) (fun c2 => ?_) (fun c2 => ?_)
      · have hp := if_n _ c2 hp
        refine lv_aload_n C.1 C.2.1 dX6_goes_26 rfl (lv_at hl 0 rfl) ?_
        refine lv_iload_n C.1 C.2.1 dX6_goes_27 rfl (lv_at hl 3 rfl) ?_
        have hrc := (rc_some hp).1
        have hp := (rc_some hp).2
        refine w_cv (cells' := 0) (slots' := 0) X (fun _ e => run_V (As := [.int v5]) (c0 := 6) C X mX6_turnsDoor miX6_turnsDoor lX6_124 (by decide) rfl hrc (ct_X6_turnsDoor l K q1 v5 h2 e) (by decide) (by decide) rfl (by decide) rfl hl.1 dX6_goes_28) (by decide) hp (fun h3 H locs X hp => ?_)
        refine w_inc (k := 2) C (fun v => [(2, .int (v)), (0, .ref (K.1 + q1)), (1, .int v3), (3, .int v5)]) dX6_goes_31 hl rfl (y := (v4 + 1)) rfl (by decide) (fun _ => rfl) hp (fun v8 ls hl hp => ?_)
        refine w_inc (k := 3) C (fun v => [(3, .int (v)), (2, .int v8), (0, .ref (K.1 + q1)), (1, .int v3)]) dX6_goes_34 hl rfl (y := (v5 + 1)) rfl (by decide) (fun _ => rfl) hp (fun v9 ls hl hp => ?_)
        refine lv_goto (tgt := 4) C.1 C.2.1 dX6_goes_37 (by decide) ?_
        exact ih _ _ _ _ _ _ _ _ X (lv_sub hl [2, 3, 1, 0] rfl) hp
      · have hp := if_p _ c2 hp
        refine lv_goto (tgt := 34) C.1 C.2.1 dX6_goes_23 (by decide) ?_
        refine w_inc (k := 3) C (fun v => [(3, .int (v)), (0, .ref (K.1 + q1)), (1, .int v3), (2, .int v4)]) dX6_goes_34 hl rfl (y := (v5 + 1)) rfl (by decide) (fun _ => rfl) hp (fun v10 ls hl hp => ?_)
        refine lv_goto (tgt := 4) C.1 C.2.1 dX6_goes_37 (by decide) ?_
        exact ih _ _ _ _ _ _ _ _ X (lv_sub hl [1, 2, 3, 0] rfl) hp

set_option maxHeartbeats 4000000 in
set_option maxRecDepth 100000 in
theorem ct_X6_goes (l : Launch) (K : Kt) (p0 : Nat) (a1 : Int32) (h0 : Hp) {r : Int32} {h' : Hp} (hp : P_X6_goes p0 a1 h0 = some (r, h')) : CT l K yX6_goes cX6_goes 4 (some FieldType.int) rmX6_goes [.ref (K.1 + p0), .int a1] h0 (Qi K r h') := by
  refine ct_of (own := RX6) (by decide +kernel) rfl (Nat.le_of_ble_eq_true rfl) ?_
  intro p e s m args below meth c C X hr hlk hm ls hl
  have hl : lv_has ls 4 [(0, .ref (K.1 + p0)), (1, .int a1)] := hl
  unfold P_X6_goes at hp
  refine lv_iconst (v := 0) C.1 C.2.1 dX6_goes_0 (by decide) ?_
  refine w_istn C (fun v => [(2, .int (v)), (0, .ref (K.1 + p0)), (1, .int a1)]) dX6_goes_1 rfl hl (by decide) (fun _ => rfl) hp (fun v1 ls hl hp => ?_)
  refine lv_iconst (v := 1) C.1 C.2.1 dX6_goes_2 (by decide) ?_
  refine w_istn C (fun v => [(3, .int (v)), (2, .int v1), (0, .ref (K.1 + p0)), (1, .int a1)]) dX6_goes_3 rfl hl (by decide) (fun _ => rfl) hp (fun v2 ls hl hp => ?_)
  exact wl_X6_goes_L4 C hr hlk _ _ _ _ _ _ _ _ _ X (lv_sub hl [2, 3, 1, 0] rfl) hp

abbrev rmX6_go : Room := { frames := 3, cells := 0, slots := 0, locals := 69 }
def P_X6_go (p0 : Nat) (a1 : Int32) (h0 : Hp) : Option (Int32 × Hp) :=
    rc h0 p0 6 <| ci (P_X6_isPerson p0 a1 h0) fun v1 h1 =>
    if v1 = 0 then (
    rc h1 p0 6 <| ci (P_X6_refuse p0 (-1) h1) fun v4 h4 =>
    some (v4, h4))
    else (
    gr h1 p0 6 1 fun q1 =>
    al h1 q1 78 fun v2 =>
    as h1 q1 78 (v2 + 1) fun h2 =>
    rc h2 p0 6 <| ci (P_X6_goes p0 a1 h2) fun v3 h3 =>
    some (v3, h3))

set_option maxHeartbeats 4000000 in
set_option maxRecDepth 100000 in
theorem ct_X6_go (l : Launch) (K : Kt) (p0 : Nat) (a1 : Int32) (h0 : Hp) {r : Int32} {h' : Hp} (hp : P_X6_go p0 a1 h0 = some (r, h')) : CT l K yX6_go cX6_go 2 (some FieldType.int) rmX6_go [.ref (K.1 + p0), .int a1] h0 (Qi K r h') := by
  refine ct_of (own := RX6) (by decide +kernel) rfl (Nat.le_of_ble_eq_true rfl) ?_
  intro p e s m args below meth c C X hr hlk hm ls hl
  have hl : lv_has ls 2 [(0, .ref (K.1 + p0)), (1, .int a1)] := hl
  unfold P_X6_go at hp
  refine lv_aload_n C.1 C.2.1 dX6_go_0 rfl (lv_at hl 0 rfl) ?_
  refine lv_iload_n C.1 C.2.1 dX6_go_1 rfl (lv_at hl 1 rfl) ?_
  have hrc := (rc_some hp).1
  have hp := (rc_some hp).2
  refine w_ci (cells' := 0) (slots' := 0) X (fun _ _ e => run_V (As := [.int a1]) (c0 := 6) C X mX6_isPerson miX6_isPerson lX6_118 (by decide) rfl hrc (ct_X6_isPerson l K p0 a1 h0 e) (by decide) (by decide) rfl (by decide) rfl hl.1 dX6_go_2) (by decide) hp (fun v1 h1 H locs X hp => ?_)
  refine lv_if_ne (tgt := 14) C.1 C.2.1 dX6_go_5 (by decide) (fun c1 => ?_) (fun c1 => ?_)
  · have hp := if_n _ c1 hp
    refine lv_aload_n C.1 C.2.1 dX6_go_14 rfl (lv_at hl 0 rfl) ?_
    refine w_gr C X fX6_13 rfl dX6_go_15 hp (fun q1 hp => ?_)
    refine lv_bipush (v := 78) C.1 C.2.1 dX6_go_18 (by decide) ?_
    refine lv_dup2_11 C.1 C.2.1 dX6_go_20 rfl rfl ?_
    refine w_al C X dX6_go_21 hp (fun v2 hp => ?_)
    refine lv_iconst (v := 1) C.1 C.2.1 dX6_go_22 (by decide) ?_
    refine lv_iadd C.1 C.2.1 dX6_go_23 ?_
    refine w_as C X dX6_go_24 hp (fun H locs h2 X hp => ?_)
    refine lv_aload_n C.1 C.2.1 dX6_go_25 rfl (lv_at hl 0 rfl) ?_
    refine lv_iload_n C.1 C.2.1 dX6_go_26 rfl (lv_at hl 1 rfl) ?_
    have hrc := (rc_some hp).1
    have hp := (rc_some hp).2
    refine w_ci (cells' := 0) (slots' := 0) X (fun _ _ e => run_V (As := [.int a1]) (c0 := 6) C X mX6_goes miX6_goes lX6_128 (by decide) rfl hrc (ct_X6_goes l K p0 a1 h2 e) (by decide) (by decide) rfl (by decide) rfl hl.1 dX6_go_27) (by decide) hp (fun v3 h3 H locs X hp => ?_)
    exact w_reti C X hr hlk (by decide) dX6_go_30 hp
  · have hp := if_p _ c1 hp
    refine lv_aload_n C.1 C.2.1 dX6_go_8 rfl (lv_at hl 0 rfl) ?_
    refine lv_iconst (v := -1) C.1 C.2.1 dX6_go_9 (by decide) ?_
    have hrc := (rc_some hp).1
    have hp := (rc_some hp).2
    refine w_ci (cells' := 0) (slots' := 0) X (fun _ _ e => run_V (As := [.int (-1)]) (c0 := 6) C X mX6_refuse miX6_refuse lX6_52 (by decide) rfl hrc (ct_X6_refuse l K p0 (-1) h1 e) (by decide) (by decide) rfl (by decide) rfl hl.1 dX6_go_10) (by decide) hp (fun v4 h4 H locs X hp => ?_)
    exact w_reti C X hr hlk (by decide) dX6_go_13 hp

abbrev rmX6_turn : Room := { frames := 1, cells := 0, slots := 0, locals := 21 }
def P_X6_turn (p0 : Nat) (a1 : Int32) (h0 : Hp) : Option (Int32 × Hp) :=
    rc h0 p0 6 <| ci (P_X6_isDoor p0 a1 h0) fun v1 h1 =>
    if v1 = 0 then (
    lt ((-1) : Int32) fun v9 =>
    if v9 = 0 then (
    rc h1 p0 6 <| cv (P_X6_turnsDoor p0 a1 h1) fun h6 =>
    gr h6 p0 6 1 fun q4 =>
    al h6 q4 ((4 + a1) - 1) fun v10 =>
    some (v10, h6))
    else (
    rc h1 p0 6 <| ci (P_X6_refuse p0 v9 h1) fun v11 h7 =>
    some (v11, h7)))
    else (
    gr h1 p0 6 1 fun q1 =>
    al h1 q1 ((28 + a1) - 1) fun v2 =>
    if v2 = 1 then (
    lt ((-3) : Int32) fun v6 =>
    if v6 = 0 then (
    rc h1 p0 6 <| cv (P_X6_turnsDoor p0 a1 h1) fun h4 =>
    gr h4 p0 6 1 fun q3 =>
    al h4 q3 ((4 + a1) - 1) fun v7 =>
    some (v7, h4))
    else (
    rc h1 p0 6 <| ci (P_X6_refuse p0 v6 h1) fun v8 h5 =>
    some (v8, h5)))
    else (
    lt (0 : Int32) fun v3 =>
    if v3 = 0 then (
    rc h1 p0 6 <| cv (P_X6_turnsDoor p0 a1 h1) fun h2 =>
    gr h2 p0 6 1 fun q2 =>
    al h2 q2 ((4 + a1) - 1) fun v4 =>
    some (v4, h2))
    else (
    rc h1 p0 6 <| ci (P_X6_refuse p0 v3 h1) fun v5 h3 =>
    some (v5, h3))))

set_option maxHeartbeats 4000000 in
set_option maxRecDepth 100000 in
theorem ct_X6_turn (l : Launch) (K : Kt) (p0 : Nat) (a1 : Int32) (h0 : Hp) {r : Int32} {h' : Hp} (hp : P_X6_turn p0 a1 h0 = some (r, h')) : CT l K yX6_turn cX6_turn 3 (some FieldType.int) rmX6_turn [.ref (K.1 + p0), .int a1] h0 (Qi K r h') := by
  refine ct_of (own := RX6) (by decide +kernel) rfl (Nat.le_of_ble_eq_true rfl) ?_
  intro p e s m args below meth c C X hr hlk hm ls hl
  have hl : lv_has ls 3 [(0, .ref (K.1 + p0)), (1, .int a1)] := hl
  unfold P_X6_turn at hp
  refine lv_aload_n C.1 C.2.1 dX6_turn_0 rfl (lv_at hl 0 rfl) ?_
  refine lv_iload_n C.1 C.2.1 dX6_turn_1 rfl (lv_at hl 1 rfl) ?_
  have hrc := (rc_some hp).1
  have hp := (rc_some hp).2
  refine w_ci (cells' := 0) (slots' := 0) X (fun _ _ e => run_V (As := [.int a1]) (c0 := 6) C X mX6_isDoor miX6_isDoor lX6_115 (by decide) rfl hrc (ct_X6_isDoor l K p0 a1 h0 e) (by decide) (by decide) rfl (by decide) rfl hl.1 dX6_turn_2) (by decide) hp (fun v1 h1 H locs X hp => ?_)
  refine lv_if_ne (tgt := 12) C.1 C.2.1 dX6_turn_5 (by decide) (fun c1 => ?_) (fun c1 => ?_)
  · have hp := if_n _ c1 hp
    refine lv_aload_n C.1 C.2.1 dX6_turn_12 rfl (lv_at hl 0 rfl) ?_
    refine w_gr C X fX6_13 rfl dX6_turn_13 hp (fun q1 hp => ?_)
    refine lv_bipush (v := 28) C.1 C.2.1 dX6_turn_16 (by decide) ?_
    refine lv_iload_n C.1 C.2.1 dX6_turn_18 rfl (lv_at hl 1 rfl) ?_
    refine lv_iadd C.1 C.2.1 dX6_turn_19 ?_
    refine lv_iconst (v := 1) C.1 C.2.1 dX6_turn_20 (by decide) ?_
    refine lv_isub C.1 C.2.1 dX6_turn_21 ?_
    refine w_al C X dX6_turn_22 hp (fun v2 hp => ?_)
    refine lv_iconst (v := 1) C.1 C.2.1 dX6_turn_23 (by decide) ?_
    refine lv_icmp_ne (tgt := 32) C.1 C.2.1 dX6_turn_24 (by decide) (fun c2 => ?_) (fun c2 => ?_)
    · have hp := if_n _ c2 hp
      refine lv_iconst (v := 0) C.1 C.2.1 dX6_turn_32 (by decide) ?_
      refine w_istn C (fun v => [(2, .int (v)), (0, .ref (K.1 + p0)), (1, .int a1)]) dX6_turn_33 rfl hl (by decide) (fun _ => rfl) hp (fun v3 ls hl hp => ?_)
      refine lv_iload_n C.1 C.2.1 dX6_turn_34 rfl (lv_at hl 0 rfl) ?_
      refine lv_if_eq (tgt := 44) C.1 C.2.1 dX6_turn_35 (by decide) (fun c3 => ?_) (fun c3 => ?_)
      · have hp := if_p _ c3 hp
        refine lv_aload_n C.1 C.2.1 dX6_turn_44 rfl (lv_at hl 1 rfl) ?_
        refine lv_iload_n C.1 C.2.1 dX6_turn_45 rfl (lv_at hl 2 rfl) ?_
        have hrc := (rc_some hp).1
        have hp := (rc_some hp).2
        refine w_cv (cells' := 0) (slots' := 0) X (fun _ e => run_V (As := [.int a1]) (c0 := 6) C X mX6_turnsDoor miX6_turnsDoor lX6_124 (by decide) rfl hrc (ct_X6_turnsDoor l K p0 a1 h1 e) (by decide) (by decide) rfl (by decide) rfl hl.1 dX6_turn_46) (by decide) hp (fun h2 H locs X hp => ?_)
        refine lv_aload_n C.1 C.2.1 dX6_turn_49 rfl (lv_at hl 1 rfl) ?_
        refine w_gr C X fX6_13 rfl dX6_turn_50 hp (fun q2 hp => ?_)
        refine lv_iconst (v := 4) C.1 C.2.1 dX6_turn_53 (by decide) ?_
        refine lv_iload_n C.1 C.2.1 dX6_turn_54 rfl (lv_at hl 2 rfl) ?_
        refine lv_iadd C.1 C.2.1 dX6_turn_55 ?_
        refine lv_iconst (v := 1) C.1 C.2.1 dX6_turn_56 (by decide) ?_
        refine lv_isub C.1 C.2.1 dX6_turn_57 ?_
        refine w_al C X dX6_turn_58 hp (fun v4 hp => ?_)
        exact w_reti C X hr hlk (by decide) dX6_turn_59 hp
      · have hp := if_n _ c3 hp
        refine lv_aload_n C.1 C.2.1 dX6_turn_38 rfl (lv_at hl 1 rfl) ?_
        refine lv_iload_n C.1 C.2.1 dX6_turn_39 rfl (lv_at hl 0 rfl) ?_
        have hrc := (rc_some hp).1
        have hp := (rc_some hp).2
        refine w_ci (cells' := 0) (slots' := 0) X (fun _ _ e => run_V (As := [.int v3]) (c0 := 6) C X mX6_refuse miX6_refuse lX6_52 (by decide) rfl hrc (ct_X6_refuse l K p0 v3 h1 e) (by decide) (by decide) rfl (by decide) rfl hl.1 dX6_turn_40) (by decide) hp (fun v5 h3 H locs X hp => ?_)
        exact w_reti C X hr hlk (by decide) dX6_turn_43 hp
    · have hp := if_p _ c2 hp
      refine lv_bipush (v := -3) C.1 C.2.1 dX6_turn_27 (by decide) ?_
      refine lv_goto (tgt := 33) C.1 C.2.1 dX6_turn_29 (by decide) ?_
      refine w_istn C (fun v => [(2, .int (v)), (0, .ref (K.1 + p0)), (1, .int a1)]) dX6_turn_33 rfl hl (by decide) (fun _ => rfl) hp (fun v6 ls hl hp => ?_)
      refine lv_iload_n C.1 C.2.1 dX6_turn_34 rfl (lv_at hl 0 rfl) ?_
      refine lv_if_eq (tgt := 44) C.1 C.2.1 dX6_turn_35 (by decide) (fun c4 => ?_) (fun c4 => ?_)
      · have hp := if_p _ c4 hp
        refine lv_aload_n C.1 C.2.1 dX6_turn_44 rfl (lv_at hl 1 rfl) ?_
        refine lv_iload_n C.1 C.2.1 dX6_turn_45 rfl (lv_at hl 2 rfl) ?_
        have hrc := (rc_some hp).1
        have hp := (rc_some hp).2
        refine w_cv (cells' := 0) (slots' := 0) X (fun _ e => run_V (As := [.int a1]) (c0 := 6) C X mX6_turnsDoor miX6_turnsDoor lX6_124 (by decide) rfl hrc (ct_X6_turnsDoor l K p0 a1 h1 e) (by decide) (by decide) rfl (by decide) rfl hl.1 dX6_turn_46) (by decide) hp (fun h4 H locs X hp => ?_)
        refine lv_aload_n C.1 C.2.1 dX6_turn_49 rfl (lv_at hl 1 rfl) ?_
        refine w_gr C X fX6_13 rfl dX6_turn_50 hp (fun q3 hp => ?_)
        refine lv_iconst (v := 4) C.1 C.2.1 dX6_turn_53 (by decide) ?_
        refine lv_iload_n C.1 C.2.1 dX6_turn_54 rfl (lv_at hl 2 rfl) ?_
        refine lv_iadd C.1 C.2.1 dX6_turn_55 ?_
        refine lv_iconst (v := 1) C.1 C.2.1 dX6_turn_56 (by decide) ?_
        refine lv_isub C.1 C.2.1 dX6_turn_57 ?_
        refine w_al C X dX6_turn_58 hp (fun v7 hp => ?_)
        exact w_reti C X hr hlk (by decide) dX6_turn_59 hp
      · have hp := if_n _ c4 hp
        refine lv_aload_n C.1 C.2.1 dX6_turn_38 rfl (lv_at hl 1 rfl) ?_
        refine lv_iload_n C.1 C.2.1 dX6_turn_39 rfl (lv_at hl 0 rfl) ?_
        have hrc := (rc_some hp).1
        have hp := (rc_some hp).2
        refine w_ci (cells' := 0) (slots' := 0) X (fun _ _ e => run_V (As := [.int v6]) (c0 := 6) C X mX6_refuse miX6_refuse lX6_52 (by decide) rfl hrc (ct_X6_refuse l K p0 v6 h1 e) (by decide) (by decide) rfl (by decide) rfl hl.1 dX6_turn_40) (by decide) hp (fun v8 h5 H locs X hp => ?_)
        exact w_reti C X hr hlk (by decide) dX6_turn_43 hp
  · have hp := if_p _ c1 hp
    refine lv_iconst (v := -1) C.1 C.2.1 dX6_turn_8 (by decide) ?_
    refine lv_goto (tgt := 33) C.1 C.2.1 dX6_turn_9 (by decide) ?_
    refine w_istn C (fun v => [(2, .int (v)), (0, .ref (K.1 + p0)), (1, .int a1)]) dX6_turn_33 rfl hl (by decide) (fun _ => rfl) hp (fun v9 ls hl hp => ?_)
    refine lv_iload_n C.1 C.2.1 dX6_turn_34 rfl (lv_at hl 0 rfl) ?_
    refine lv_if_eq (tgt := 44) C.1 C.2.1 dX6_turn_35 (by decide) (fun c5 => ?_) (fun c5 => ?_)
    · have hp := if_p _ c5 hp
      refine lv_aload_n C.1 C.2.1 dX6_turn_44 rfl (lv_at hl 1 rfl) ?_
      refine lv_iload_n C.1 C.2.1 dX6_turn_45 rfl (lv_at hl 2 rfl) ?_
      have hrc := (rc_some hp).1
      have hp := (rc_some hp).2
      refine w_cv (cells' := 0) (slots' := 0) X (fun _ e => run_V (As := [.int a1]) (c0 := 6) C X mX6_turnsDoor miX6_turnsDoor lX6_124 (by decide) rfl hrc (ct_X6_turnsDoor l K p0 a1 h1 e) (by decide) (by decide) rfl (by decide) rfl hl.1 dX6_turn_46) (by decide) hp (fun h6 H locs X hp => ?_)
      refine lv_aload_n C.1 C.2.1 dX6_turn_49 rfl (lv_at hl 1 rfl) ?_
      refine w_gr C X fX6_13 rfl dX6_turn_50 hp (fun q4 hp => ?_)
      refine lv_iconst (v := 4) C.1 C.2.1 dX6_turn_53 (by decide) ?_
      refine lv_iload_n C.1 C.2.1 dX6_turn_54 rfl (lv_at hl 2 rfl) ?_
      refine lv_iadd C.1 C.2.1 dX6_turn_55 ?_
      refine lv_iconst (v := 1) C.1 C.2.1 dX6_turn_56 (by decide) ?_
      refine lv_isub C.1 C.2.1 dX6_turn_57 ?_
      refine w_al C X dX6_turn_58 hp (fun v10 hp => ?_)
      exact w_reti C X hr hlk (by decide) dX6_turn_59 hp
    · have hp := if_n _ c5 hp
      refine lv_aload_n C.1 C.2.1 dX6_turn_38 rfl (lv_at hl 1 rfl) ?_
      refine lv_iload_n C.1 C.2.1 dX6_turn_39 rfl (lv_at hl 0 rfl) ?_
      have hrc := (rc_some hp).1
      have hp := (rc_some hp).2
      refine w_ci (cells' := 0) (slots' := 0) X (fun _ _ e => run_V (As := [.int v9]) (c0 := 6) C X mX6_refuse miX6_refuse lX6_52 (by decide) rfl hrc (ct_X6_refuse l K p0 v9 h1 e) (by decide) (by decide) rfl (by decide) rfl hl.1 dX6_turn_40) (by decide) hp (fun v11 h7 H locs X hp => ?_)
      exact w_reti C X hr hlk (by decide) dX6_turn_43 hp

abbrev rmX6_power : Room := { frames := 0, cells := 0, slots := 0, locals := 0 }
def P_X6_power_L4 : Nat → Nat → Int32 → Int32 → Int32 → Hp → Option (Int32 × Hp)
  | 0, _, _, _, _, _ => none
  | n + 1, q1, v3, v4, v5, h1 =>
    if v3 ≤ v5 then (
    some (v4, h1))
    else (
    gr h1 q1 6 1 fun q2 =>
    al h1 q2 1 fun v6 =>
    lt ((v4 * v6) : Int32) fun v7 =>
    lt ((v5 + 1) : Int32) fun v8 =>
    P_X6_power_L4 n q1 v3 v7 v8 h1)

def P_X6_power (p0 : Nat) (a1 : Int32) (h0 : Hp) : Option (Int32 × Hp) :=
    lt (1 : Int32) fun v1 =>
    lt (0 : Int32) fun v2 =>
    P_X6_power_L4 FU p0 a1 v1 v2 h0

set_option maxHeartbeats 4000000 in
set_option maxRecDepth 100000 in
theorem wl_X6_power_L4 (C : CX K p m c cX6_power 4 s args RX6) (hr : meth.sig.returnType = (some FieldType.int)) (hlk : meth.locks = false) {r : Int32} {h' : Hp} : ∀ (n : Nat) (q1 : Nat) (v3 : Int32) (v4 : Int32) (v5 : Int32) (h1 : Hp) (H : Heap) (locs : List Loc) (ls : Array Slot), HX K s.heap H locs h1 → lv_has ls 4 [(0, .ref (K.1 + q1)), (1, .int v3), (2, .int v4), (3, .int v5)] → P_X6_power_L4 n q1 v3 v4 v5 h1 = some (r, h') → W p l e rmX6_power s m args below meth c H locs 0 0 (MQ below (Qi K r h') args s rmX6_power.cells rmX6_power.slots (KA K)) (F0 m 4 ls []) := by
  intro n
  induction n with
  | zero =>
    intro  q1 v3 v4 v5 h1 H locs ls X hl hp
    cases hp
  | succ n ih =>
    intro  q1 v3 v4 v5 h1 H locs ls X hl hp
    unfold P_X6_power_L4 at hp
    refine lv_iload_n C.1 C.2.1 dX6_power_4 rfl (lv_at hl 3 rfl) ?_
    refine lv_iload_n C.1 C.2.1 dX6_power_5 rfl (lv_at hl 1 rfl) ?_
    refine lv_icmp_ge (tgt := 24) C.1 C.2.1 dX6_power_6 (by decide) (fun c1 => ?_) (fun c1 => ?_)
    · have hp := if_p _ c1 hp
      refine lv_iload_n C.1 C.2.1 dX6_power_24 rfl (lv_at hl 2 rfl) ?_
      exact w_reti C X hr hlk (by decide) dX6_power_25 hp
    · have hp := if_n _ c1 hp
      refine lv_iload_n C.1 C.2.1 dX6_power_9 rfl (lv_at hl 2 rfl) ?_
      refine lv_aload_n C.1 C.2.1 dX6_power_10 rfl (lv_at hl 0 rfl) ?_
      refine w_gr C X fX6_13 rfl dX6_power_11 hp (fun q2 hp => ?_)
      refine lv_iconst (v := 1) C.1 C.2.1 dX6_power_14 (by decide) ?_
      refine w_al C X dX6_power_15 hp (fun v6 hp => ?_)
      refine lv_imul C.1 C.2.1 dX6_power_16 ?_
      refine w_istn C (fun v => [(2, .int (v)), (0, .ref (K.1 + q1)), (1, .int v3), (3, .int v5)]) dX6_power_17 rfl hl (by decide) (fun _ => rfl) hp (fun v7 ls hl hp => ?_)
      refine w_inc (k := 3) C (fun v => [(3, .int (v)), (2, .int v7), (0, .ref (K.1 + q1)), (1, .int v3)]) dX6_power_18 hl rfl (y := (v5 + 1)) rfl (by decide) (fun _ => rfl) hp (fun v8 ls hl hp => ?_)
      refine lv_goto (tgt := 4) C.1 C.2.1 dX6_power_21 (by decide) ?_
      exact ih _ _ _ _ _ _ _ _ X (lv_sub hl [2, 3, 1, 0] rfl) hp

set_option maxHeartbeats 4000000 in
set_option maxRecDepth 100000 in
theorem ct_X6_power (l : Launch) (K : Kt) (p0 : Nat) (a1 : Int32) (h0 : Hp) {r : Int32} {h' : Hp} (hp : P_X6_power p0 a1 h0 = some (r, h')) : CT l K yX6_power cX6_power 4 (some FieldType.int) rmX6_power [.ref (K.1 + p0), .int a1] h0 (Qi K r h') := by
  refine ct_of (own := RX6) (by decide +kernel) rfl (Nat.le_of_ble_eq_true rfl) ?_
  intro p e s m args below meth c C X hr hlk hm ls hl
  have hl : lv_has ls 4 [(0, .ref (K.1 + p0)), (1, .int a1)] := hl
  unfold P_X6_power at hp
  refine lv_iconst (v := 1) C.1 C.2.1 dX6_power_0 (by decide) ?_
  refine w_istn C (fun v => [(2, .int (v)), (0, .ref (K.1 + p0)), (1, .int a1)]) dX6_power_1 rfl hl (by decide) (fun _ => rfl) hp (fun v1 ls hl hp => ?_)
  refine lv_iconst (v := 0) C.1 C.2.1 dX6_power_2 (by decide) ?_
  refine w_istn C (fun v => [(3, .int (v)), (2, .int v1), (0, .ref (K.1 + p0)), (1, .int a1)]) dX6_power_3 rfl hl (by decide) (fun _ => rfl) hp (fun v2 ls hl hp => ?_)
  exact wl_X6_power_L4 C hr hlk _ _ _ _ _ _ _ _ _ X (lv_sub hl [2, 3, 1, 0] rfl) hp

abbrev rmX6_stateNow : Room := { frames := 0, cells := 0, slots := 0, locals := 0 }
def P_X6_stateNow_L11 : Nat → Nat → Int32 → Int32 → Hp → Option (Int32 × Hp)
  | 0, _, _, _, _ => none
  | n + 1, q2, v4, v5, h1 =>
    if v5 < 0 then (
    some (v4, h1))
    else (
    gr h1 q2 6 1 fun q3 =>
    al h1 q3 1 fun v6 =>
    gr h1 q2 6 1 fun q4 =>
    al h1 q4 (4 + v5) fun v7 =>
    lt (((v6 * v4) + v7) : Int32) fun v8 =>
    lt ((v5 + (-1)) : Int32) fun v9 =>
    P_X6_stateNow_L11 n q2 v8 v9 h1)

def P_X6_stateNow (p0 : Nat) (h0 : Hp) : Option (Int32 × Hp) :=
    lt (0 : Int32) fun v1 =>
    gr h0 p0 6 1 fun q1 =>
    al h0 q1 0 fun v2 =>
    lt ((v2 - 1) : Int32) fun v3 =>
    P_X6_stateNow_L11 FU p0 v1 v3 h0

set_option maxHeartbeats 4000000 in
set_option maxRecDepth 100000 in
theorem wl_X6_stateNow_L11 (C : CX K p m c cX6_stateNow 3 s args RX6) (hr : meth.sig.returnType = (some FieldType.int)) (hlk : meth.locks = false) {r : Int32} {h' : Hp} : ∀ (n : Nat) (q2 : Nat) (v4 : Int32) (v5 : Int32) (h1 : Hp) (H : Heap) (locs : List Loc) (ls : Array Slot), HX K s.heap H locs h1 → lv_has ls 3 [(0, .ref (K.1 + q2)), (1, .int v4), (2, .int v5)] → P_X6_stateNow_L11 n q2 v4 v5 h1 = some (r, h') → W p l e rmX6_stateNow s m args below meth c H locs 0 0 (MQ below (Qi K r h') args s rmX6_stateNow.cells rmX6_stateNow.slots (KA K)) (F0 m 11 ls []) := by
  intro n
  induction n with
  | zero =>
    intro  q2 v4 v5 h1 H locs ls X hl hp
    cases hp
  | succ n ih =>
    intro  q2 v4 v5 h1 H locs ls X hl hp
    unfold P_X6_stateNow_L11 at hp
    refine lv_iload_n C.1 C.2.1 dX6_stateNow_11 rfl (lv_at hl 2 rfl) ?_
    refine lv_if_lt (tgt := 39) C.1 C.2.1 dX6_stateNow_12 (by decide) (fun c1 => ?_) (fun c1 => ?_)
    · have hp := if_p _ c1 hp
      refine lv_iload_n C.1 C.2.1 dX6_stateNow_39 rfl (lv_at hl 1 rfl) ?_
      exact w_reti C X hr hlk (by decide) dX6_stateNow_40 hp
    · have hp := if_n _ c1 hp
      refine lv_aload_n C.1 C.2.1 dX6_stateNow_15 rfl (lv_at hl 0 rfl) ?_
      refine w_gr C X fX6_13 rfl dX6_stateNow_16 hp (fun q3 hp => ?_)
      refine lv_iconst (v := 1) C.1 C.2.1 dX6_stateNow_19 (by decide) ?_
      refine w_al C X dX6_stateNow_20 hp (fun v6 hp => ?_)
      refine lv_iload_n C.1 C.2.1 dX6_stateNow_21 rfl (lv_at hl 1 rfl) ?_
      refine lv_imul C.1 C.2.1 dX6_stateNow_22 ?_
      refine lv_aload_n C.1 C.2.1 dX6_stateNow_23 rfl (lv_at hl 0 rfl) ?_
      refine w_gr C X fX6_13 rfl dX6_stateNow_24 hp (fun q4 hp => ?_)
      refine lv_iconst (v := 4) C.1 C.2.1 dX6_stateNow_27 (by decide) ?_
      refine lv_iload_n C.1 C.2.1 dX6_stateNow_28 rfl (lv_at hl 2 rfl) ?_
      refine lv_iadd C.1 C.2.1 dX6_stateNow_29 ?_
      refine w_al C X dX6_stateNow_30 hp (fun v7 hp => ?_)
      refine lv_iadd C.1 C.2.1 dX6_stateNow_31 ?_
      refine w_istn C (fun v => [(1, .int (v)), (0, .ref (K.1 + q2)), (2, .int v5)]) dX6_stateNow_32 rfl hl (by decide) (fun _ => rfl) hp (fun v8 ls hl hp => ?_)
      refine w_inc (k := 2) C (fun v => [(2, .int (v)), (1, .int v8), (0, .ref (K.1 + q2))]) dX6_stateNow_33 hl rfl (y := (v5 + (-1))) rfl (by decide) (fun _ => rfl) hp (fun v9 ls hl hp => ?_)
      refine lv_goto (tgt := 11) C.1 C.2.1 dX6_stateNow_36 (by decide) ?_
      exact ih _ _ _ _ _ _ _ X (lv_sub hl [2, 1, 0] rfl) hp

set_option maxHeartbeats 4000000 in
set_option maxRecDepth 100000 in
theorem ct_X6_stateNow (l : Launch) (K : Kt) (p0 : Nat) (h0 : Hp) {r : Int32} {h' : Hp} (hp : P_X6_stateNow p0 h0 = some (r, h')) : CT l K yX6_stateNow cX6_stateNow 3 (some FieldType.int) rmX6_stateNow [.ref (K.1 + p0)] h0 (Qi K r h') := by
  refine ct_of (own := RX6) (by decide +kernel) rfl (Nat.le_of_ble_eq_true rfl) ?_
  intro p e s m args below meth c C X hr hlk hm ls hl
  have hl : lv_has ls 3 [(0, .ref (K.1 + p0))] := hl
  unfold P_X6_stateNow at hp
  refine lv_iconst (v := 0) C.1 C.2.1 dX6_stateNow_0 (by decide) ?_
  refine w_istn C (fun v => [(1, .int (v)), (0, .ref (K.1 + p0))]) dX6_stateNow_1 rfl hl (by decide) (fun _ => rfl) hp (fun v1 ls hl hp => ?_)
  refine lv_aload_n C.1 C.2.1 dX6_stateNow_2 rfl (lv_at hl 1 rfl) ?_
  refine w_gr C X fX6_13 rfl dX6_stateNow_3 hp (fun q1 hp => ?_)
  refine lv_iconst (v := 0) C.1 C.2.1 dX6_stateNow_6 (by decide) ?_
  refine w_al C X dX6_stateNow_7 hp (fun v2 hp => ?_)
  refine lv_iconst (v := 1) C.1 C.2.1 dX6_stateNow_8 (by decide) ?_
  refine lv_isub C.1 C.2.1 dX6_stateNow_9 ?_
  refine w_istn C (fun v => [(2, .int (v)), (1, .int v1), (0, .ref (K.1 + p0))]) dX6_stateNow_10 rfl hl (by decide) (fun _ => rfl) hp (fun v3 ls hl hp => ?_)
  exact wl_X6_stateNow_L11 C hr hlk _ _ _ _ _ _ _ _ X (lv_sub hl [2, 1, 0] rfl) hp

abbrev rmX6_state : Room := { frames := 1, cells := 0, slots := 0, locals := 22 }
def P_X6_state (p0 : Nat) (h0 : Hp) : Option (Int32 × Hp) :=
    rc h0 p0 6 <| ci (P_X6_stateNow p0 h0) fun v1 h1 =>
    some (v1, h1)

set_option maxHeartbeats 4000000 in
set_option maxRecDepth 100000 in
theorem ct_X6_state (l : Launch) (K : Kt) (p0 : Nat) (h0 : Hp) {r : Int32} {h' : Hp} (hp : P_X6_state p0 h0 = some (r, h')) : CT l K yX6_state cX6_state 1 (some FieldType.int) rmX6_state [.ref (K.1 + p0)] h0 (Qi K r h') := by
  refine ct_of (own := RX6) (by decide +kernel) rfl (Nat.le_of_ble_eq_true rfl) ?_
  intro p e s m args below meth c C X hr hlk hm ls hl
  have hl : lv_has ls 1 [(0, .ref (K.1 + p0))] := hl
  unfold P_X6_state at hp
  refine lv_aload_n C.1 C.2.1 dX6_state_0 rfl (lv_at hl 0 rfl) ?_
  have hrc := (rc_some hp).1
  have hp := (rc_some hp).2
  refine w_ci (cells' := 0) (slots' := 0) X (fun _ _ e => run_V (As := []) (c0 := 6) C X mX6_stateNow miX6_stateNow lX6_131 (by decide) rfl hrc (ct_X6_stateNow l K p0 h0 e) (by decide) (by decide) rfl (by decide) rfl hl.1 dX6_state_1) (by decide) hp (fun v1 h1 H locs X hp => ?_)
  exact w_reti C X hr hlk (by decide) dX6_state_4 hp

abbrev rmX6_isWished : Room := { frames := 0, cells := 0, slots := 0, locals := 0 }
def P_X6_isWished_L2 : Nat → Nat → Int32 → Hp → Option (Int32 × Hp)
  | 0, _, _, _ => none
  | n + 1, q1, v2, h1 =>
    gr h1 q1 6 1 fun q2 =>
    al h1 q2 0 fun v3 =>
    if v3 ≤ v2 then (
    some (1, h1))
    else (
    gr h1 q1 6 1 fun q3 =>
    al h1 q3 (16 + v2) fun v4 =>
    if v4 = 9 then (
    lt ((v2 + 1) : Int32) fun v5 =>
    P_X6_isWished_L2 n q1 v5 h1)
    else (
    gr h1 q1 6 1 fun q4 =>
    al h1 q4 (16 + v2) fun v6 =>
    gr h1 q1 6 1 fun q5 =>
    al h1 q5 (4 + v2) fun v7 =>
    if v6 = v7 then (
    lt ((v2 + 1) : Int32) fun v8 =>
    P_X6_isWished_L2 n q1 v8 h1)
    else (
    some (0, h1))))

def P_X6_isWished (p0 : Nat) (h0 : Hp) : Option (Int32 × Hp) :=
    lt (0 : Int32) fun v1 =>
    P_X6_isWished_L2 FU p0 v1 h0

set_option maxHeartbeats 4000000 in
set_option maxRecDepth 100000 in
theorem wl_X6_isWished_L2 (C : CX K p m c cX6_isWished 2 s args RX6) (hr : meth.sig.returnType = (some FieldType.boolean)) (hlk : meth.locks = false) {r : Int32} {h' : Hp} : ∀ (n : Nat) (q1 : Nat) (v2 : Int32) (h1 : Hp) (H : Heap) (locs : List Loc) (ls : Array Slot), HX K s.heap H locs h1 → lv_has ls 2 [(0, .ref (K.1 + q1)), (1, .int v2)] → P_X6_isWished_L2 n q1 v2 h1 = some (r, h') → W p l e rmX6_isWished s m args below meth c H locs 0 0 (MQ below (Qi K r h') args s rmX6_isWished.cells rmX6_isWished.slots (KA K)) (F0 m 2 ls []) := by
  intro n
  induction n with
  | zero =>
    intro  q1 v2 h1 H locs ls X hl hp
    cases hp
  | succ n ih =>
    intro  q1 v2 h1 H locs ls X hl hp
    unfold P_X6_isWished_L2 at hp
    refine lv_iload_n C.1 C.2.1 dX6_isWished_2 rfl (lv_at hl 1 rfl) ?_
    refine lv_aload_n C.1 C.2.1 dX6_isWished_3 rfl (lv_at hl 0 rfl) ?_
    refine w_gr C X fX6_13 rfl dX6_isWished_4 hp (fun q2 hp => ?_)
    refine lv_iconst (v := 0) C.1 C.2.1 dX6_isWished_7 (by decide) ?_
    refine w_al C X dX6_isWished_8 hp (fun v3 hp => ?_)
    refine lv_icmp_ge (tgt := 54) C.1 C.2.1 dX6_isWished_9 (by decide) (fun c1 => ?_) (fun c1 => ?_)
    · have hp := if_p _ c1 hp
      refine lv_iconst (v := 1) C.1 C.2.1 dX6_isWished_54 (by decide) ?_
      exact w_retz C X hr hlk (by decide) (by decide) dX6_isWished_55 hp
    · have hp := if_n _ c1 hp
      refine lv_aload_n C.1 C.2.1 dX6_isWished_12 rfl (lv_at hl 0 rfl) ?_
      refine w_gr C X fX6_13 rfl dX6_isWished_13 hp (fun q3 hp => ?_)
      refine lv_bipush (v := 16) C.1 C.2.1 dX6_isWished_16 (by decide) ?_
      refine lv_iload_n C.1 C.2.1 dX6_isWished_18 rfl (lv_at hl 1 rfl) ?_
      refine lv_iadd C.1 C.2.1 dX6_isWished_19 ?_
      refine w_al C X dX6_isWished_20 hp (fun v4 hp => ?_)
      refine lv_bipush (v := 9) C.1 C.2.1 dX6_isWished_21 (by decide) ?_
      refine lv_icmp_eq (tgt := 48) C.1 C.2.1 dX6_isWished_23 (by decide) (fun c2 => ?_) (fun c2 => ?_)
      · have hp := if_p _ c2 hp
        refine w_inc (k := 1) C (fun v => [(1, .int (v)), (0, .ref (K.1 + q1))]) dX6_isWished_48 hl rfl (y := (v2 + 1)) rfl (by decide) (fun _ => rfl) hp (fun v5 ls hl hp => ?_)
        refine lv_goto (tgt := 2) C.1 C.2.1 dX6_isWished_51 (by decide) ?_
        exact ih _ _ _ _ _ _ X (lv_sub hl [1, 0] rfl) hp
      · have hp := if_n _ c2 hp
        refine lv_aload_n C.1 C.2.1 dX6_isWished_26 rfl (lv_at hl 0 rfl) ?_
        refine w_gr C X fX6_13 rfl dX6_isWished_27 hp (fun q4 hp => ?_)
        refine lv_bipush (v := 16) C.1 C.2.1 dX6_isWished_30 (by decide) ?_
        refine lv_iload_n C.1 C.2.1 dX6_isWished_32 rfl (lv_at hl 1 rfl) ?_
        refine lv_iadd C.1 C.2.1 dX6_isWished_33 ?_
        refine w_al C X dX6_isWished_34 hp (fun v6 hp => ?_)
        refine lv_aload_n C.1 C.2.1 dX6_isWished_35 rfl (lv_at hl 0 rfl) ?_
        refine w_gr C X fX6_13 rfl dX6_isWished_36 hp (fun q5 hp => ?_)
        refine lv_iconst (v := 4) C.1 C.2.1 dX6_isWished_39 (by decide) ?_
        refine lv_iload_n C.1 C.2.1 dX6_isWished_40 rfl (lv_at hl 1 rfl) ?_
        refine lv_iadd C.1 C.2.1 dX6_isWished_41 ?_
        refine w_al C X dX6_isWished_42 hp (fun v7 hp => ?_)
        refine lv_icmp_eq (tgt := 48) C.1 C.2.1 dX6_isWished_43 (by decide) (fun c3 => ?_) (fun c3 => ?_)
        · have hp := if_p _ c3 hp
          refine w_inc (k := 1) C (fun v => [(1, .int (v)), (0, .ref (K.1 + q1))]) dX6_isWished_48 hl rfl (y := (v2 + 1)) rfl (by decide) (fun _ => rfl) hp (fun v8 ls hl hp => ?_)
          refine lv_goto (tgt := 2) C.1 C.2.1 dX6_isWished_51 (by decide) ?_
          exact ih _ _ _ _ _ _ X (lv_sub hl [1, 0] rfl) hp
        · have hp := if_n _ c3 hp
          refine lv_iconst (v := 0) C.1 C.2.1 dX6_isWished_46 (by decide) ?_
          exact w_retz C X hr hlk (by decide) (by decide) dX6_isWished_47 hp

set_option maxHeartbeats 4000000 in
set_option maxRecDepth 100000 in
theorem ct_X6_isWished (l : Launch) (K : Kt) (p0 : Nat) (h0 : Hp) {r : Int32} {h' : Hp} (hp : P_X6_isWished p0 h0 = some (r, h')) : CT l K yX6_isWished cX6_isWished 2 (some FieldType.boolean) rmX6_isWished [.ref (K.1 + p0)] h0 (Qi K r h') := by
  refine ct_of (own := RX6) (by decide +kernel) rfl (Nat.le_of_ble_eq_true rfl) ?_
  intro p e s m args below meth c C X hr hlk hm ls hl
  have hl : lv_has ls 2 [(0, .ref (K.1 + p0))] := hl
  unfold P_X6_isWished at hp
  refine lv_iconst (v := 0) C.1 C.2.1 dX6_isWished_0 (by decide) ?_
  refine w_istn C (fun v => [(1, .int (v)), (0, .ref (K.1 + p0))]) dX6_isWished_1 rfl hl (by decide) (fun _ => rfl) hp (fun v1 ls hl hp => ?_)
  exact wl_X6_isWished_L2 C hr hlk _ _ _ _ _ _ _ X (lv_sub hl [1, 0] rfl) hp

abbrev rmX6_wished : Room := { frames := 1, cells := 0, slots := 0, locals := 21 }
def P_X6_wished (p0 : Nat) (h0 : Hp) : Option (Int32 × Hp) :=
    rc h0 p0 6 <| ci (P_X6_isWished p0 h0) fun v1 h1 =>
    if v1 = 0 then (
    some (0, h1))
    else (
    some (1, h1))

set_option maxHeartbeats 4000000 in
set_option maxRecDepth 100000 in
theorem ct_X6_wished (l : Launch) (K : Kt) (p0 : Nat) (h0 : Hp) {r : Int32} {h' : Hp} (hp : P_X6_wished p0 h0 = some (r, h')) : CT l K yX6_wished cX6_wished 1 (some FieldType.int) rmX6_wished [.ref (K.1 + p0)] h0 (Qi K r h') := by
  refine ct_of (own := RX6) (by decide +kernel) rfl (Nat.le_of_ble_eq_true rfl) ?_
  intro p e s m args below meth c C X hr hlk hm ls hl
  have hl : lv_has ls 1 [(0, .ref (K.1 + p0))] := hl
  unfold P_X6_wished at hp
  refine lv_aload_n C.1 C.2.1 dX6_wished_0 rfl (lv_at hl 0 rfl) ?_
  have hrc := (rc_some hp).1
  have hp := (rc_some hp).2
  refine w_ci (cells' := 0) (slots' := 0) X (fun _ _ e => run_V (As := []) (c0 := 6) C X mX6_isWished miX6_isWished lX6_134 (by decide) rfl hrc (ct_X6_isWished l K p0 h0 e) (by decide) (by decide) rfl (by decide) rfl hl.1 dX6_wished_1) (by decide) hp (fun v1 h1 H locs X hp => ?_)
  refine lv_if_eq (tgt := 11) C.1 C.2.1 dX6_wished_4 (by decide) (fun c1 => ?_) (fun c1 => ?_)
  · have hp := if_p _ c1 hp
    refine lv_iconst (v := 0) C.1 C.2.1 dX6_wished_11 (by decide) ?_
    exact w_reti C X hr hlk (by decide) dX6_wished_12 hp
  · have hp := if_n _ c1 hp
    refine lv_iconst (v := 1) C.1 C.2.1 dX6_wished_7 (by decide) ?_
    refine lv_goto (tgt := 12) C.1 C.2.1 dX6_wished_8 (by decide) ?_
    exact w_reti C X hr hlk (by decide) dX6_wished_12 hp

abbrev rmX6_findsWay : Room := { frames := 1, cells := 0, slots := 0, locals := 21 }
def P_X6_findsWay_L13 : Nat → Nat → Int32 → Int32 → Int32 → Int32 → Hp → (Hp → Option (Hp)) → Option (Hp)
  | 0, _, _, _, _, _, _, _ => none
  | n + 1, q2, v5, v6, v7, v8, h1, kont =>
    if v6 < v8 then (
    kont h1)
    else (
    gr h1 q2 6 11 fun q3 =>
    gr h1 q2 6 1 fun q4 =>
    al h1 q4 1 fun v9 =>
    nz v9 <|
    as h1 q3 v8 (jrem v7 v9) fun h2 =>
    gr h2 q2 6 1 fun q5 =>
    al h2 q5 1 fun v10 =>
    nz v10 <|
    lt ((v7 / v10) : Int32) fun v11 =>
    lt ((v8 + 1) : Int32) fun v12 =>
    P_X6_findsWay_L13 n q2 v5 v6 v11 v12 h2 kont)

def P_X6_findsWay_L95 : Nat → Nat → Int32 → Int32 → Int32 → Int32 → Int32 → Hp → (Hp → Option (Hp)) → Option (Hp)
  | 0, _, _, _, _, _, _, _, _ => none
  | n + 1, q9, v20, v21, v22, v23, v24, h6, kont =>
    if v21 < v24 then (
    kont h6)
    else (
    if v20 = 0 then (
    ci (P_X6_goesInto v24 v23 h6) fun v25 h7 =>
    lt (v25 : Int32) fun v26 =>
    if v26 = 0 then (
    lt ((v24 + 1) : Int32) fun v27 =>
    P_X6_findsWay_L95 n q9 v20 v21 v22 v23 v27 h7 kont)
    else (
    gr h7 q9 6 11 fun q10 =>
    gr h7 q9 6 11 fun q11 =>
    al h7 q11 v24 fun v28 =>
    gr h7 q9 6 1 fun q12 =>
    al h7 q12 1 fun v29 =>
    gr h7 q9 6 10 fun q13 =>
    al h7 q13 v23 fun v30 =>
    gr h7 q9 6 1 fun q14 =>
    al h7 q14 1 fun v31 =>
    nz v31 <|
    as h7 q10 v24 (jrem ((v28 + v29) - v30) v31) fun h8 =>
    lt ((v24 + 1) : Int32) fun v32 =>
    P_X6_findsWay_L95 n q9 v20 v21 v22 v23 v32 h8 kont))
    else (
    ci (P_X6_goesInto v23 v24 h6) fun v33 h9 =>
    lt (v33 : Int32) fun v34 =>
    if v34 = 0 then (
    lt ((v24 + 1) : Int32) fun v35 =>
    P_X6_findsWay_L95 n q9 v20 v21 v22 v23 v35 h9 kont)
    else (
    gr h9 q9 6 11 fun q15 =>
    gr h9 q9 6 11 fun q16 =>
    al h9 q16 v24 fun v36 =>
    gr h9 q9 6 1 fun q17 =>
    al h9 q17 1 fun v37 =>
    gr h9 q9 6 10 fun q18 =>
    al h9 q18 v23 fun v38 =>
    gr h9 q9 6 1 fun q19 =>
    al h9 q19 1 fun v39 =>
    nz v39 <|
    as h9 q15 v24 (jrem ((v36 + v37) - v38) v39) fun h10 =>
    lt ((v24 + 1) : Int32) fun v40 =>
    P_X6_findsWay_L95 n q9 v20 v21 v22 v23 v40 h10 kont)))

def P_X6_findsWay_L55 : Nat → Nat → Int32 → Int32 → Int32 → Hp → Option (Hp)
  | 0, _, _, _, _, _ => none
  | n + 1, q6, v14, v15, v16, h4 =>
    if v15 ≤ v16 then (
    some h4)
    else (
    if v14 = 0 then (
    lt ((v15 - v16) : Int32) fun v17 =>
    gr h4 q6 6 10 fun q7 =>
    gr h4 q6 6 11 fun q8 =>
    al h4 q8 v17 fun v18 =>
    as h4 q7 v17 v18 fun h5 =>
    lt (1 : Int32) fun v19 =>
    P_X6_findsWay_L95 FU q6 v14 v15 v16 v17 v19 h5 fun h11 =>
    lt ((v16 + 1) : Int32) fun v41 =>
    P_X6_findsWay_L55 n q6 v14 v15 v41 h11)
    else (
    lt ((v16 + 1) : Int32) fun v42 =>
    gr h4 q6 6 10 fun q20 =>
    gr h4 q6 6 11 fun q21 =>
    al h4 q21 v42 fun v43 =>
    as h4 q20 v42 v43 fun h12 =>
    lt (1 : Int32) fun v44 =>
    P_X6_findsWay_L95 FU q6 v14 v15 v16 v42 v44 h12 fun h13 =>
    lt ((v16 + 1) : Int32) fun v45 =>
    P_X6_findsWay_L55 n q6 v14 v15 v45 h13))

def P_X6_findsWay (p0 : Nat) (a1 : Int32) (a2 : Int32) (h0 : Hp) : Option (Hp) :=
    gr h0 p0 6 1 fun q1 =>
    al h0 q1 0 fun v1 =>
    lt (v1 : Int32) fun v2 =>
    lt (a1 : Int32) fun v3 =>
    lt (1 : Int32) fun v4 =>
    P_X6_findsWay_L13 FU p0 a2 v2 v3 v4 h0 fun h3 =>
    lt (0 : Int32) fun v13 =>
    P_X6_findsWay_L55 FU p0 a2 v2 v13 h3

set_option maxHeartbeats 4000000 in
set_option maxRecDepth 100000 in
theorem wl_X6_findsWay_L13 (C : CX K p m c cX6_findsWay 9 s args RX6) (hr : meth.sig.returnType = none) (hlk : meth.locks = false) {h' : Hp} : ∀ (n : Nat) (q2 : Nat) (v5 : Int32) (v6 : Int32) (v7 : Int32) (v8 : Int32) (h1 : Hp) (kont : Hp → Option (Hp)) (H : Heap) (locs : List Loc) (ls : Array Slot), HX K s.heap H locs h1 → lv_has ls 9 [(0, .ref (K.1 + q2)), (2, .int v5), (3, .int v6), (4, .int v7), (5, .int v8)] → P_X6_findsWay_L13 n q2 v5 v6 v7 v8 h1 kont = some h' → (∀  (hk : Hp) (H : Heap) (locs : List Loc) (ls : Array Slot), HX K s.heap H locs hk → lv_has ls 9 [(0, .ref (K.1 + q2)), (2, .int v5), (3, .int v6)] → kont  hk = some h' → W p l e rmX6_findsWay s m args below meth c H locs 0 0 (MQ below (Qv K h') args s rmX6_findsWay.cells rmX6_findsWay.slots (KA K)) (F0 m 52 ls [])) → W p l e rmX6_findsWay s m args below meth c H locs 0 0 (MQ below (Qv K h') args s rmX6_findsWay.cells rmX6_findsWay.slots (KA K)) (F0 m 13 ls []) := by
  intro n
  induction n with
  | zero =>
    intro  q2 v5 v6 v7 v8 h1 kont H locs ls X hl hp hk
    cases hp
  | succ n ih =>
    intro  q2 v5 v6 v7 v8 h1 kont H locs ls X hl hp hk
    unfold P_X6_findsWay_L13 at hp
    refine lv_iload C.1 C.2.1 dX6_findsWay_13 (lv_at hl 4 rfl) ?_
    refine lv_iload_n C.1 C.2.1 dX6_findsWay_15 rfl (lv_at hl 2 rfl) ?_
    refine lv_icmp_gt (tgt := 52) C.1 C.2.1 dX6_findsWay_16 (by decide) (fun c1 => ?_) (fun c1 => ?_)
    · have hp := if_p _ c1 hp
      exact hk _ _ _ _ X (lv_sub hl [0, 1, 2] rfl) hp
    · have hp := if_n _ c1 hp
      refine lv_aload_n C.1 C.2.1 dX6_findsWay_19 rfl (lv_at hl 0 rfl) ?_
      refine w_gr C X fX6_31 rfl dX6_findsWay_20 hp (fun q3 hp => ?_)
      refine lv_iload C.1 C.2.1 dX6_findsWay_23 (lv_at hl 4 rfl) ?_
      refine lv_iload C.1 C.2.1 dX6_findsWay_25 (lv_at hl 3 rfl) ?_
      refine lv_aload_n C.1 C.2.1 dX6_findsWay_27 rfl (lv_at hl 0 rfl) ?_
      refine w_gr C X fX6_13 rfl dX6_findsWay_28 hp (fun q4 hp => ?_)
      refine lv_iconst (v := 1) C.1 C.2.1 dX6_findsWay_31 (by decide) ?_
      refine w_al C X dX6_findsWay_32 hp (fun v9 hp => ?_)
      have hz := (nz_some hp).1
      have hp := (nz_some hp).2
      refine w_rem C dX6_findsWay_33 hz ?_
      refine w_as C X dX6_findsWay_34 hp (fun H locs h2 X hp => ?_)
      refine lv_iload C.1 C.2.1 dX6_findsWay_35 (lv_at hl 3 rfl) ?_
      refine lv_aload_n C.1 C.2.1 dX6_findsWay_37 rfl (lv_at hl 0 rfl) ?_
      refine w_gr C X fX6_13 rfl dX6_findsWay_38 hp (fun q5 hp => ?_)
      refine lv_iconst (v := 1) C.1 C.2.1 dX6_findsWay_41 (by decide) ?_
      refine w_al C X dX6_findsWay_42 hp (fun v10 hp => ?_)
      have hz := (nz_some hp).1
      have hp := (nz_some hp).2
      refine lv_idiv C.1 C.2.1 dX6_findsWay_43 hz ?_
      refine w_ist C (fun v => [(4, .int (v)), (0, .ref (K.1 + q2)), (2, .int v5), (3, .int v6), (5, .int v8)]) dX6_findsWay_44 hl (by decide) (fun _ => rfl) hp (fun v11 ls hl hp => ?_)
      refine w_inc (k := 4) C (fun v => [(5, .int (v)), (4, .int v11), (0, .ref (K.1 + q2)), (2, .int v5), (3, .int v6)]) dX6_findsWay_46 hl rfl (y := (v8 + 1)) rfl (by decide) (fun _ => rfl) hp (fun v12 ls hl hp => ?_)
      refine lv_goto (tgt := 13) C.1 C.2.1 dX6_findsWay_49 (by decide) ?_
      exact ih _ _ _ _ _ _ _ _ _ _ X (lv_sub hl [2, 3, 4, 1, 0] rfl) hp hk

set_option maxHeartbeats 4000000 in
set_option maxRecDepth 100000 in
theorem wl_X6_findsWay_L95 (C : CX K p m c cX6_findsWay 9 s args RX6) (hr : meth.sig.returnType = none) (hlk : meth.locks = false) {h' : Hp} : ∀ (n : Nat) (q9 : Nat) (v20 : Int32) (v21 : Int32) (v22 : Int32) (v23 : Int32) (v24 : Int32) (h6 : Hp) (kont : Hp → Option (Hp)) (H : Heap) (locs : List Loc) (ls : Array Slot), HX K s.heap H locs h6 → lv_has ls 9 [(0, .ref (K.1 + q9)), (2, .int v20), (3, .int v21), (5, .int v22), (6, .int v23), (7, .int v24)] → P_X6_findsWay_L95 n q9 v20 v21 v22 v23 v24 h6 kont = some h' → (∀  (hk : Hp) (H : Heap) (locs : List Loc) (ls : Array Slot), HX K s.heap H locs hk → lv_has ls 9 [(0, .ref (K.1 + q9)), (2, .int v20), (3, .int v21), (5, .int v22)] → kont  hk = some h' → W p l e rmX6_findsWay s m args below meth c H locs 0 0 (MQ below (Qv K h') args s rmX6_findsWay.cells rmX6_findsWay.slots (KA K)) (F0 m 171 ls [])) → W p l e rmX6_findsWay s m args below meth c H locs 0 0 (MQ below (Qv K h') args s rmX6_findsWay.cells rmX6_findsWay.slots (KA K)) (F0 m 95 ls []) := by
  intro n
  induction n with
  | zero =>
    intro  q9 v20 v21 v22 v23 v24 h6 kont H locs ls X hl hp hk
    cases hp
  | succ n ih =>
    intro  q9 v20 v21 v22 v23 v24 h6 kont H locs ls X hl hp hk
    unfold P_X6_findsWay_L95 at hp
    refine lv_iload C.1 C.2.1 dX6_findsWay_95 (lv_at hl 5 rfl) ?_
    refine lv_iload_n C.1 C.2.1 dX6_findsWay_97 rfl (lv_at hl 2 rfl) ?_
    refine lv_icmp_gt (tgt := 171) C.1 C.2.1 dX6_findsWay_98 (by decide) (fun c4 => ?_) (fun c4 => ?_)
    · have hp := if_p _ c4 hp
      exact hk _ _ _ _ X (lv_sub hl [0, 1, 2, 3] rfl) hp
    · have hp := if_n _ c4 hp
      refine lv_iload_n C.1 C.2.1 dX6_findsWay_101 rfl (lv_at hl 1 rfl) ?_
      refine lv_if_eq (tgt := 115) C.1 C.2.1 dX6_findsWay_102 (by decide) (fun c5 => ?_) (fun c5 => ?_)
      · have hp := if_p _ c5 hp
        refine lv_iload C.1 C.2.1 dX6_findsWay_115 (lv_at hl 5 rfl) ?_
        refine lv_iload C.1 C.2.1 dX6_findsWay_117 (lv_at hl 4 rfl) ?_
        refine w_ci (cells' := 0) (slots' := 0) X (fun _ _ e => run_S (As := [.int v24, .int v23]) C X mX6_goesInto msX6_goesInto lX6_109 (ct_X6_goesInto l K v24 v23 h6 e) (by decide) (by decide) rfl (by decide) rfl hl.1 dX6_findsWay_119) (by decide) hp (fun v25 h7 H locs X hp => ?_)
        refine w_ist C (fun v => [(8, .int (v)), (0, .ref (K.1 + q9)), (2, .int v20), (3, .int v21), (5, .int v22), (6, .int v23), (7, .int v24)]) dX6_findsWay_122 hl (by decide) (fun _ => rfl) hp (fun v26 ls hl hp => ?_)
        refine lv_iload C.1 C.2.1 dX6_findsWay_124 (lv_at hl 0 rfl) ?_
        refine lv_if_eq (tgt := 165) C.1 C.2.1 dX6_findsWay_126 (by decide) (fun c6 => ?_) (fun c6 => ?_)
        · have hp := if_p _ c6 hp
          refine w_inc (k := 6) C (fun v => [(7, .int (v)), (8, .int v26), (0, .ref (K.1 + q9)), (2, .int v20), (3, .int v21), (5, .int v22), (6, .int v23)]) dX6_findsWay_165 hl rfl (y := (v24 + 1)) rfl (by decide) (fun _ => rfl) hp (fun v27 ls hl hp => ?_)
          refine lv_goto (tgt := 95) C.1 C.2.1 dX6_findsWay_168 (by decide) ?_
          exact ih _ _ _ _ _ _ _ _ _ _ _ X (lv_sub hl [2, 3, 4, 5, 6, 0] rfl) hp hk
        · have hp := if_n _ c6 hp
          refine lv_aload_n C.1 C.2.1 dX6_findsWay_129 rfl (lv_at hl 1 rfl) ?_
          refine w_gr C X fX6_31 rfl dX6_findsWay_130 hp (fun q10 hp => ?_)
          refine lv_iload C.1 C.2.1 dX6_findsWay_133 (lv_at hl 6 rfl) ?_
          refine lv_aload_n C.1 C.2.1 dX6_findsWay_135 rfl (lv_at hl 1 rfl) ?_
          refine w_gr C X fX6_31 rfl dX6_findsWay_136 hp (fun q11 hp => ?_)
          refine lv_iload C.1 C.2.1 dX6_findsWay_139 (lv_at hl 6 rfl) ?_
          refine w_al C X dX6_findsWay_141 hp (fun v28 hp => ?_)
          refine lv_aload_n C.1 C.2.1 dX6_findsWay_142 rfl (lv_at hl 1 rfl) ?_
          refine w_gr C X fX6_13 rfl dX6_findsWay_143 hp (fun q12 hp => ?_)
          refine lv_iconst (v := 1) C.1 C.2.1 dX6_findsWay_146 (by decide) ?_
          refine w_al C X dX6_findsWay_147 hp (fun v29 hp => ?_)
          refine lv_iadd C.1 C.2.1 dX6_findsWay_148 ?_
          refine lv_aload_n C.1 C.2.1 dX6_findsWay_149 rfl (lv_at hl 1 rfl) ?_
          refine w_gr C X fX6_28 rfl dX6_findsWay_150 hp (fun q13 hp => ?_)
          refine lv_iload C.1 C.2.1 dX6_findsWay_153 (lv_at hl 5 rfl) ?_
          refine w_al C X dX6_findsWay_155 hp (fun v30 hp => ?_)
          refine lv_isub C.1 C.2.1 dX6_findsWay_156 ?_
          refine lv_aload_n C.1 C.2.1 dX6_findsWay_157 rfl (lv_at hl 1 rfl) ?_
          refine w_gr C X fX6_13 rfl dX6_findsWay_158 hp (fun q14 hp => ?_)
          refine lv_iconst (v := 1) C.1 C.2.1 dX6_findsWay_161 (by decide) ?_
          refine w_al C X dX6_findsWay_162 hp (fun v31 hp => ?_)
          have hz := (nz_some hp).1
          have hp := (nz_some hp).2
          refine w_rem C dX6_findsWay_163 hz ?_
          refine w_as C X dX6_findsWay_164 hp (fun H locs h8 X hp => ?_)
          refine w_inc (k := 6) C (fun v => [(7, .int (v)), (8, .int v26), (0, .ref (K.1 + q9)), (2, .int v20), (3, .int v21), (5, .int v22), (6, .int v23)]) dX6_findsWay_165 hl rfl (y := (v24 + 1)) rfl (by decide) (fun _ => rfl) hp (fun v32 ls hl hp => ?_)
          refine lv_goto (tgt := 95) C.1 C.2.1 dX6_findsWay_168 (by decide) ?_
          exact ih _ _ _ _ _ _ _ _ _ _ _ X (lv_sub hl [2, 3, 4, 5, 6, 0] rfl) hp hk
      · have hp := if_n _ c5 hp
        refine lv_iload C.1 C.2.1 dX6_findsWay_105 (lv_at hl 4 rfl) ?_
        refine lv_iload C.1 C.2.1 dX6_findsWay_107 (lv_at hl 5 rfl) ?_
        refine w_ci (cells' := 0) (slots' := 0) X (fun _ _ e => run_S (As := [.int v23, .int v24]) C X mX6_goesInto msX6_goesInto lX6_109 (ct_X6_goesInto l K v23 v24 h6 e) (by decide) (by decide) rfl (by decide) rfl hl.1 dX6_findsWay_109) (by decide) hp (fun v33 h9 H locs X hp => ?_)
        refine lv_goto (tgt := 122) C.1 C.2.1 dX6_findsWay_112 (by decide) ?_
        refine w_ist C (fun v => [(8, .int (v)), (0, .ref (K.1 + q9)), (2, .int v20), (3, .int v21), (5, .int v22), (6, .int v23), (7, .int v24)]) dX6_findsWay_122 hl (by decide) (fun _ => rfl) hp (fun v34 ls hl hp => ?_)
        refine lv_iload C.1 C.2.1 dX6_findsWay_124 (lv_at hl 0 rfl) ?_
        refine lv_if_eq (tgt := 165) C.1 C.2.1 dX6_findsWay_126 (by decide) (fun c7 => ?_) (fun c7 => ?_)
        · have hp := if_p _ c7 hp
          refine w_inc (k := 6) C (fun v => [(7, .int (v)), (8, .int v34), (0, .ref (K.1 + q9)), (2, .int v20), (3, .int v21), (5, .int v22), (6, .int v23)]) dX6_findsWay_165 hl rfl (y := (v24 + 1)) rfl (by decide) (fun _ => rfl) hp (fun v35 ls hl hp => ?_)
          refine lv_goto (tgt := 95) C.1 C.2.1 dX6_findsWay_168 (by decide) ?_
          exact ih _ _ _ _ _ _ _ _ _ _ _ X (lv_sub hl [2, 3, 4, 5, 6, 0] rfl) hp hk
        · have hp := if_n _ c7 hp
          refine lv_aload_n C.1 C.2.1 dX6_findsWay_129 rfl (lv_at hl 1 rfl) ?_
          refine w_gr C X fX6_31 rfl dX6_findsWay_130 hp (fun q15 hp => ?_)
          refine lv_iload C.1 C.2.1 dX6_findsWay_133 (lv_at hl 6 rfl) ?_
          refine lv_aload_n C.1 C.2.1 dX6_findsWay_135 rfl (lv_at hl 1 rfl) ?_
          refine w_gr C X fX6_31 rfl dX6_findsWay_136 hp (fun q16 hp => ?_)
          refine lv_iload C.1 C.2.1 dX6_findsWay_139 (lv_at hl 6 rfl) ?_
          refine w_al C X dX6_findsWay_141 hp (fun v36 hp => ?_)
          refine lv_aload_n C.1 C.2.1 dX6_findsWay_142 rfl (lv_at hl 1 rfl) ?_
          refine w_gr C X fX6_13 rfl dX6_findsWay_143 hp (fun q17 hp => ?_)
          refine lv_iconst (v := 1) C.1 C.2.1 dX6_findsWay_146 (by decide) ?_
          refine w_al C X dX6_findsWay_147 hp (fun v37 hp => ?_)
          refine lv_iadd C.1 C.2.1 dX6_findsWay_148 ?_
          refine lv_aload_n C.1 C.2.1 dX6_findsWay_149 rfl (lv_at hl 1 rfl) ?_
          refine w_gr C X fX6_28 rfl dX6_findsWay_150 hp (fun q18 hp => ?_)
          refine lv_iload C.1 C.2.1 dX6_findsWay_153 (lv_at hl 5 rfl) ?_
          refine w_al C X dX6_findsWay_155 hp (fun v38 hp => ?_)
          refine lv_isub C.1 C.2.1 dX6_findsWay_156 ?_
          refine lv_aload_n C.1 C.2.1 dX6_findsWay_157 rfl (lv_at hl 1 rfl) ?_
          refine w_gr C X fX6_13 rfl dX6_findsWay_158 hp (fun q19 hp => ?_)
          refine lv_iconst (v := 1) C.1 C.2.1 dX6_findsWay_161 (by decide) ?_
          refine w_al C X dX6_findsWay_162 hp (fun v39 hp => ?_)
          have hz := (nz_some hp).1
          have hp := (nz_some hp).2
          refine w_rem C dX6_findsWay_163 hz ?_
          refine w_as C X dX6_findsWay_164 hp (fun H locs h10 X hp => ?_)
          refine w_inc (k := 6) C (fun v => [(7, .int (v)), (8, .int v34), (0, .ref (K.1 + q9)), (2, .int v20), (3, .int v21), (5, .int v22), (6, .int v23)]) dX6_findsWay_165 hl rfl (y := (v24 + 1)) rfl (by decide) (fun _ => rfl) hp (fun v40 ls hl hp => ?_)
          refine lv_goto (tgt := 95) C.1 C.2.1 dX6_findsWay_168 (by decide) ?_
          exact ih _ _ _ _ _ _ _ _ _ _ _ X (lv_sub hl [2, 3, 4, 5, 6, 0] rfl) hp hk

set_option maxHeartbeats 4000000 in
set_option maxRecDepth 100000 in
theorem wl_X6_findsWay_L55 (C : CX K p m c cX6_findsWay 9 s args RX6) (hr : meth.sig.returnType = none) (hlk : meth.locks = false) {h' : Hp} : ∀ (n : Nat) (q6 : Nat) (v14 : Int32) (v15 : Int32) (v16 : Int32) (h4 : Hp) (H : Heap) (locs : List Loc) (ls : Array Slot), HX K s.heap H locs h4 → lv_has ls 9 [(0, .ref (K.1 + q6)), (2, .int v14), (3, .int v15), (5, .int v16)] → P_X6_findsWay_L55 n q6 v14 v15 v16 h4 = some h' → W p l e rmX6_findsWay s m args below meth c H locs 0 0 (MQ below (Qv K h') args s rmX6_findsWay.cells rmX6_findsWay.slots (KA K)) (F0 m 55 ls []) := by
  intro n
  induction n with
  | zero =>
    intro  q6 v14 v15 v16 h4 H locs ls X hl hp
    cases hp
  | succ n ih =>
    intro  q6 v14 v15 v16 h4 H locs ls X hl hp
    unfold P_X6_findsWay_L55 at hp
    refine lv_iload C.1 C.2.1 dX6_findsWay_55 (lv_at hl 3 rfl) ?_
    refine lv_iload_n C.1 C.2.1 dX6_findsWay_57 rfl (lv_at hl 2 rfl) ?_
    refine lv_icmp_ge (tgt := 177) C.1 C.2.1 dX6_findsWay_58 (by decide) (fun c2 => ?_) (fun c2 => ?_)
    · have hp := if_p _ c2 hp
      exact w_retv C X hr hlk (by decide) dX6_findsWay_177 hp
    · have hp := if_n _ c2 hp
      refine lv_iload_n C.1 C.2.1 dX6_findsWay_61 rfl (lv_at hl 1 rfl) ?_
      refine lv_if_eq (tgt := 72) C.1 C.2.1 dX6_findsWay_62 (by decide) (fun c3 => ?_) (fun c3 => ?_)
      · have hp := if_p _ c3 hp
        refine lv_iload_n C.1 C.2.1 dX6_findsWay_72 rfl (lv_at hl 2 rfl) ?_
        refine lv_iload C.1 C.2.1 dX6_findsWay_73 (lv_at hl 3 rfl) ?_
        refine lv_isub C.1 C.2.1 dX6_findsWay_75 ?_
        refine w_ist C (fun v => [(6, .int (v)), (0, .ref (K.1 + q6)), (2, .int v14), (3, .int v15), (5, .int v16)]) dX6_findsWay_76 hl (by decide) (fun _ => rfl) hp (fun v17 ls hl hp => ?_)
        refine lv_aload_n C.1 C.2.1 dX6_findsWay_78 rfl (lv_at hl 1 rfl) ?_
        refine w_gr C X fX6_28 rfl dX6_findsWay_79 hp (fun q7 hp => ?_)
        refine lv_iload C.1 C.2.1 dX6_findsWay_82 (lv_at hl 0 rfl) ?_
        refine lv_aload_n C.1 C.2.1 dX6_findsWay_84 rfl (lv_at hl 1 rfl) ?_
        refine w_gr C X fX6_31 rfl dX6_findsWay_85 hp (fun q8 hp => ?_)
        refine lv_iload C.1 C.2.1 dX6_findsWay_88 (lv_at hl 0 rfl) ?_
        refine w_al C X dX6_findsWay_90 hp (fun v18 hp => ?_)
        refine w_as C X dX6_findsWay_91 hp (fun H locs h5 X hp => ?_)
        refine lv_iconst (v := 1) C.1 C.2.1 dX6_findsWay_92 (by decide) ?_
        refine w_ist C (fun v => [(7, .int (v)), (6, .int v17), (0, .ref (K.1 + q6)), (2, .int v14), (3, .int v15), (5, .int v16)]) dX6_findsWay_93 hl (by decide) (fun _ => rfl) hp (fun v19 ls hl hp => ?_)
        refine wl_X6_findsWay_L95 C hr hlk _ _ _ _ _ _ _ _ _ _ _ _ X (lv_sub hl [2, 3, 4, 5, 1, 0] rfl) hp (fun h11 H locs ls X hl hp => ?_)
        refine w_inc (k := 3) C (fun v => [(5, .int (v)), (0, .ref (K.1 + q6)), (2, .int v14), (3, .int v15)]) dX6_findsWay_171 hl rfl (y := (v16 + 1)) rfl (by decide) (fun _ => rfl) hp (fun v41 ls hl hp => ?_)
        refine lv_goto (tgt := 55) C.1 C.2.1 dX6_findsWay_174 (by decide) ?_
        exact ih _ _ _ _ _ _ _ _ X (lv_sub hl [1, 2, 3, 0] rfl) hp
      · have hp := if_n _ c3 hp
        refine lv_iload C.1 C.2.1 dX6_findsWay_65 (lv_at hl 3 rfl) ?_
        refine lv_iconst (v := 1) C.1 C.2.1 dX6_findsWay_67 (by decide) ?_
        refine lv_iadd C.1 C.2.1 dX6_findsWay_68 ?_
        refine lv_goto (tgt := 76) C.1 C.2.1 dX6_findsWay_69 (by decide) ?_
        refine w_ist C (fun v => [(6, .int (v)), (0, .ref (K.1 + q6)), (2, .int v14), (3, .int v15), (5, .int v16)]) dX6_findsWay_76 hl (by decide) (fun _ => rfl) hp (fun v42 ls hl hp => ?_)
        refine lv_aload_n C.1 C.2.1 dX6_findsWay_78 rfl (lv_at hl 1 rfl) ?_
        refine w_gr C X fX6_28 rfl dX6_findsWay_79 hp (fun q20 hp => ?_)
        refine lv_iload C.1 C.2.1 dX6_findsWay_82 (lv_at hl 0 rfl) ?_
        refine lv_aload_n C.1 C.2.1 dX6_findsWay_84 rfl (lv_at hl 1 rfl) ?_
        refine w_gr C X fX6_31 rfl dX6_findsWay_85 hp (fun q21 hp => ?_)
        refine lv_iload C.1 C.2.1 dX6_findsWay_88 (lv_at hl 0 rfl) ?_
        refine w_al C X dX6_findsWay_90 hp (fun v43 hp => ?_)
        refine w_as C X dX6_findsWay_91 hp (fun H locs h12 X hp => ?_)
        refine lv_iconst (v := 1) C.1 C.2.1 dX6_findsWay_92 (by decide) ?_
        refine w_ist C (fun v => [(7, .int (v)), (6, .int v42), (0, .ref (K.1 + q6)), (2, .int v14), (3, .int v15), (5, .int v16)]) dX6_findsWay_93 hl (by decide) (fun _ => rfl) hp (fun v44 ls hl hp => ?_)
        refine wl_X6_findsWay_L95 C hr hlk _ _ _ _ _ _ _ _ _ _ _ _ X (lv_sub hl [2, 3, 4, 5, 1, 0] rfl) hp (fun h13 H locs ls X hl hp => ?_)
        refine w_inc (k := 3) C (fun v => [(5, .int (v)), (0, .ref (K.1 + q6)), (2, .int v14), (3, .int v15)]) dX6_findsWay_171 hl rfl (y := (v16 + 1)) rfl (by decide) (fun _ => rfl) hp (fun v45 ls hl hp => ?_)
        refine lv_goto (tgt := 55) C.1 C.2.1 dX6_findsWay_174 (by decide) ?_
        exact ih _ _ _ _ _ _ _ _ X (lv_sub hl [1, 2, 3, 0] rfl) hp

set_option maxHeartbeats 4000000 in
set_option maxRecDepth 100000 in
theorem ct_X6_findsWay (l : Launch) (K : Kt) (p0 : Nat) (a1 : Int32) (a2 : Int32) (h0 : Hp) {h' : Hp} (hp : P_X6_findsWay p0 a1 a2 h0 = some h') : CT l K yX6_findsWay cX6_findsWay 9 none rmX6_findsWay [.ref (K.1 + p0), .int a1, .int a2] h0 (Qv K h') := by
  refine ct_of (own := RX6) (by decide +kernel) rfl (Nat.le_of_ble_eq_true rfl) ?_
  intro p e s m args below meth c C X hr hlk hm ls hl
  have hl : lv_has ls 9 [(0, .ref (K.1 + p0)), (1, .int a1), (2, .int a2)] := hl
  unfold P_X6_findsWay at hp
  refine lv_aload_n C.1 C.2.1 dX6_findsWay_0 rfl (lv_at hl 0 rfl) ?_
  refine w_gr C X fX6_13 rfl dX6_findsWay_1 hp (fun q1 hp => ?_)
  refine lv_iconst (v := 0) C.1 C.2.1 dX6_findsWay_4 (by decide) ?_
  refine w_al C X dX6_findsWay_5 hp (fun v1 hp => ?_)
  refine w_istn C (fun v => [(3, .int (v)), (0, .ref (K.1 + p0)), (1, .int a1), (2, .int a2)]) dX6_findsWay_6 rfl hl (by decide) (fun _ => rfl) hp (fun v2 ls hl hp => ?_)
  refine lv_iload_n C.1 C.2.1 dX6_findsWay_7 rfl (lv_at hl 2 rfl) ?_
  refine w_ist C (fun v => [(4, .int (v)), (3, .int v2), (0, .ref (K.1 + p0)), (1, .int a1), (2, .int a2)]) dX6_findsWay_8 hl (by decide) (fun _ => rfl) hp (fun v3 ls hl hp => ?_)
  refine lv_iconst (v := 1) C.1 C.2.1 dX6_findsWay_10 (by decide) ?_
  refine w_ist C (fun v => [(5, .int (v)), (4, .int v3), (3, .int v2), (0, .ref (K.1 + p0)), (1, .int a1), (2, .int a2)]) dX6_findsWay_11 hl (by decide) (fun _ => rfl) hp (fun v4 ls hl hp => ?_)
  refine wl_X6_findsWay_L13 C hr hlk _ _ _ _ _ _ _ _ _ _ _ X (lv_sub hl [3, 5, 2, 1, 0] rfl) hp (fun h3 H locs ls X hl hp => ?_)
  refine lv_iconst (v := 0) C.1 C.2.1 dX6_findsWay_52 (by decide) ?_
  refine w_ist C (fun v => [(5, .int (v)), (0, .ref (K.1 + p0)), (2, .int a2), (3, .int v2)]) dX6_findsWay_53 hl (by decide) (fun _ => rfl) hp (fun v13 ls hl hp => ?_)
  exact wl_X6_findsWay_L55 C hr hlk _ _ _ _ _ _ _ _ _ X (lv_sub hl [1, 2, 3, 0] rfl) hp

abbrev rmX6_way : Room := { frames := 2, cells := 0, slots := 0, locals := 49 }
def P_X6_way (p0 : Nat) (a1 : Int32) (a2 : Int32) (a3 : Int32) (h0 : Hp) : Option (Int32 × Hp) :=
    gr h0 p0 6 1 fun q1 =>
    al h0 q1 0 fun v1 =>
    rc h0 p0 6 <| ci (P_X6_power p0 v1 h0) fun v2 h1 =>
    ci (P_X6_isIn a1 v2 h1) fun v3 h2 =>
    if v3 = 0 then (
    rc h2 p0 6 <| ci (P_X6_refuse p0 (-1) h2) fun v4 h3 =>
    some (v4, h3))
    else (
    rc h2 p0 6 <| ci (P_X6_isDoor p0 a2 h2) fun v5 h4 =>
    if v5 = 0 then (
    rc h4 p0 6 <| ci (P_X6_refuse p0 (-1) h4) fun v10 h9 =>
    some (v10, h9))
    else (
    ci (P_X6_isIn a3 2 h4) fun v6 h5 =>
    if v6 = 0 then (
    rc h5 p0 6 <| ci (P_X6_refuse p0 (-2) h5) fun v9 h8 =>
    some (v9, h8))
    else (
    if a3 = 0 then (
    rc h5 p0 6 <| cv (P_X6_findsWay p0 a1 1 h5) fun h7 =>
    gr h7 p0 6 10 fun q3 =>
    al h7 q3 a2 fun v8 =>
    some (v8, h7))
    else (
    rc h5 p0 6 <| cv (P_X6_findsWay p0 a1 0 h5) fun h6 =>
    gr h6 p0 6 10 fun q2 =>
    al h6 q2 a2 fun v7 =>
    some (v7, h6)))))

set_option maxHeartbeats 4000000 in
set_option maxRecDepth 100000 in
theorem ct_X6_way (l : Launch) (K : Kt) (p0 : Nat) (a1 : Int32) (a2 : Int32) (a3 : Int32) (h0 : Hp) {r : Int32} {h' : Hp} (hp : P_X6_way p0 a1 a2 a3 h0 = some (r, h')) : CT l K yX6_way cX6_way 4 (some FieldType.int) rmX6_way [.ref (K.1 + p0), .int a1, .int a2, .int a3] h0 (Qi K r h') := by
  refine ct_of (own := RX6) (by decide +kernel) rfl (Nat.le_of_ble_eq_true rfl) ?_
  intro p e s m args below meth c C X hr hlk hm ls hl
  have hl : lv_has ls 4 [(0, .ref (K.1 + p0)), (1, .int a1), (2, .int a2), (3, .int a3)] := hl
  unfold P_X6_way at hp
  refine lv_iload_n C.1 C.2.1 dX6_way_0 rfl (lv_at hl 1 rfl) ?_
  refine lv_aload_n C.1 C.2.1 dX6_way_1 rfl (lv_at hl 0 rfl) ?_
  refine lv_aload_n C.1 C.2.1 dX6_way_2 rfl (lv_at hl 0 rfl) ?_
  refine w_gr C X fX6_13 rfl dX6_way_3 hp (fun q1 hp => ?_)
  refine lv_iconst (v := 0) C.1 C.2.1 dX6_way_6 (by decide) ?_
  refine w_al C X dX6_way_7 hp (fun v1 hp => ?_)
  have hrc := (rc_some hp).1
  have hp := (rc_some hp).2
  refine w_ci (cells' := 0) (slots' := 0) X (fun _ _ e => run_V (As := [.int v1]) (c0 := 6) C X mX6_power miX6_power lX6_137 (by decide) rfl hrc (ct_X6_power l K p0 v1 h0 e) (by decide) (by decide) rfl (Nat.le_of_ble_eq_true rfl) rfl hl.1 dX6_way_8) (by decide) hp (fun v2 h1 H locs X hp => ?_)
  refine w_ci (cells' := 0) (slots' := 0) X (fun _ _ e => run_S (As := [.int a1, .int v2]) C X mX6_isIn msX6_isIn lX6_40 (ct_X6_isIn l K a1 v2 h1 e) (by decide) (by decide) rfl (by decide) rfl hl.1 dX6_way_11) (by decide) hp (fun v3 h2 H locs X hp => ?_)
  refine lv_if_eq (tgt := 25) C.1 C.2.1 dX6_way_14 (by decide) (fun c1 => ?_) (fun c1 => ?_)
  · have hp := if_p _ c1 hp
    refine lv_aload_n C.1 C.2.1 dX6_way_25 rfl (lv_at hl 0 rfl) ?_
    refine lv_iconst (v := -1) C.1 C.2.1 dX6_way_26 (by decide) ?_
    have hrc := (rc_some hp).1
    have hp := (rc_some hp).2
    refine w_ci (cells' := 0) (slots' := 0) X (fun _ _ e => run_V (As := [.int (-1)]) (c0 := 6) C X mX6_refuse miX6_refuse lX6_52 (by decide) rfl hrc (ct_X6_refuse l K p0 (-1) h2 e) (by decide) (by decide) rfl (by decide) rfl hl.1 dX6_way_27) (by decide) hp (fun v4 h3 H locs X hp => ?_)
    exact w_reti C X hr hlk (by decide) dX6_way_30 hp
  · have hp := if_n _ c1 hp
    refine lv_aload_n C.1 C.2.1 dX6_way_17 rfl (lv_at hl 0 rfl) ?_
    refine lv_iload_n C.1 C.2.1 dX6_way_18 rfl (lv_at hl 2 rfl) ?_
    have hrc := (rc_some hp).1
    have hp := (rc_some hp).2
    refine w_ci (cells' := 0) (slots' := 0) X (fun _ _ e => run_V (As := [.int a2]) (c0 := 6) C X mX6_isDoor miX6_isDoor lX6_115 (by decide) rfl hrc (ct_X6_isDoor l K p0 a2 h2 e) (by decide) (by decide) rfl (by decide) rfl hl.1 dX6_way_19) (by decide) hp (fun v5 h4 H locs X hp => ?_)
    refine lv_if_ne (tgt := 31) C.1 C.2.1 dX6_way_22 (by decide) (fun c2 => ?_) (fun c2 => ?_)
    · have hp := if_n _ c2 hp
      refine lv_iload_n C.1 C.2.1 dX6_way_31 rfl (lv_at hl 3 rfl) ?_
      refine lv_iconst (v := 2) C.1 C.2.1 dX6_way_32 (by decide) ?_
      refine w_ci (cells' := 0) (slots' := 0) X (fun _ _ e => run_S (As := [.int a3, .int 2]) C X mX6_isIn msX6_isIn lX6_40 (ct_X6_isIn l K a3 2 h4 e) (by decide) (by decide) rfl (by decide) rfl hl.1 dX6_way_33) (by decide) hp (fun v6 h5 H locs X hp => ?_)
      refine lv_if_ne (tgt := 46) C.1 C.2.1 dX6_way_36 (by decide) (fun c3 => ?_) (fun c3 => ?_)
      · have hp := if_n _ c3 hp
        refine lv_aload_n C.1 C.2.1 dX6_way_46 rfl (lv_at hl 0 rfl) ?_
        refine lv_iload_n C.1 C.2.1 dX6_way_47 rfl (lv_at hl 1 rfl) ?_
        refine lv_iload_n C.1 C.2.1 dX6_way_48 rfl (lv_at hl 3 rfl) ?_
        refine lv_if_ne (tgt := 56) C.1 C.2.1 dX6_way_49 (by decide) (fun c4 => ?_) (fun c4 => ?_)
        · have hp := if_n _ c4 hp
          refine lv_iconst (v := 0) C.1 C.2.1 dX6_way_56 (by decide) ?_
          have hrc := (rc_some hp).1
          have hp := (rc_some hp).2
          refine w_cv (cells' := 0) (slots' := 0) X (fun _ e => run_V (As := [.int a1, .int 0]) (c0 := 6) C X mX6_findsWay miX6_findsWay lX6_140 (by decide) rfl hrc (ct_X6_findsWay l K p0 a1 0 h5 e) (by decide) (by decide) rfl (by decide) rfl hl.1 dX6_way_57) (by decide) hp (fun h6 H locs X hp => ?_)
          refine lv_aload_n C.1 C.2.1 dX6_way_60 rfl (lv_at hl 0 rfl) ?_
          refine w_gr C X fX6_28 rfl dX6_way_61 hp (fun q2 hp => ?_)
          refine lv_iload_n C.1 C.2.1 dX6_way_64 rfl (lv_at hl 2 rfl) ?_
          refine w_al C X dX6_way_65 hp (fun v7 hp => ?_)
          exact w_reti C X hr hlk (by decide) dX6_way_66 hp
        · have hp := if_p _ c4 hp
          refine lv_iconst (v := 1) C.1 C.2.1 dX6_way_52 (by decide) ?_
          refine lv_goto (tgt := 57) C.1 C.2.1 dX6_way_53 (by decide) ?_
          have hrc := (rc_some hp).1
          have hp := (rc_some hp).2
          refine w_cv (cells' := 0) (slots' := 0) X (fun _ e => run_V (As := [.int a1, .int 1]) (c0 := 6) C X mX6_findsWay miX6_findsWay lX6_140 (by decide) rfl hrc (ct_X6_findsWay l K p0 a1 1 h5 e) (by decide) (by decide) rfl (by decide) rfl hl.1 dX6_way_57) (by decide) hp (fun h7 H locs X hp => ?_)
          refine lv_aload_n C.1 C.2.1 dX6_way_60 rfl (lv_at hl 0 rfl) ?_
          refine w_gr C X fX6_28 rfl dX6_way_61 hp (fun q3 hp => ?_)
          refine lv_iload_n C.1 C.2.1 dX6_way_64 rfl (lv_at hl 2 rfl) ?_
          refine w_al C X dX6_way_65 hp (fun v8 hp => ?_)
          exact w_reti C X hr hlk (by decide) dX6_way_66 hp
      · have hp := if_p _ c3 hp
        refine lv_aload_n C.1 C.2.1 dX6_way_39 rfl (lv_at hl 0 rfl) ?_
        refine lv_bipush (v := -2) C.1 C.2.1 dX6_way_40 (by decide) ?_
        have hrc := (rc_some hp).1
        have hp := (rc_some hp).2
        refine w_ci (cells' := 0) (slots' := 0) X (fun _ _ e => run_V (As := [.int (-2)]) (c0 := 6) C X mX6_refuse miX6_refuse lX6_52 (by decide) rfl hrc (ct_X6_refuse l K p0 (-2) h5 e) (by decide) (by decide) rfl (by decide) rfl hl.1 dX6_way_42) (by decide) hp (fun v9 h8 H locs X hp => ?_)
        exact w_reti C X hr hlk (by decide) dX6_way_45 hp
    · have hp := if_p _ c2 hp
      refine lv_aload_n C.1 C.2.1 dX6_way_25 rfl (lv_at hl 0 rfl) ?_
      refine lv_iconst (v := -1) C.1 C.2.1 dX6_way_26 (by decide) ?_
      have hrc := (rc_some hp).1
      have hp := (rc_some hp).2
      refine w_ci (cells' := 0) (slots' := 0) X (fun _ _ e => run_V (As := [.int (-1)]) (c0 := 6) C X mX6_refuse miX6_refuse lX6_52 (by decide) rfl hrc (ct_X6_refuse l K p0 (-1) h4 e) (by decide) (by decide) rfl (by decide) rfl hl.1 dX6_way_27) (by decide) hp (fun v10 h9 H locs X hp => ?_)
      exact w_reti C X hr hlk (by decide) dX6_way_30 hp

abbrev rmX6_keeps : Room := { frames := 0, cells := 0, slots := 0, locals := 0 }
def P_X6_keeps_L2 : Nat → Nat → Int32 → Hp → Option (Hp)
  | 0, _, _, _ => none
  | n + 1, q1, v2, h1 =>
    if 12 ≤ v2 then (
    some h1)
    else (
    gr h1 q1 6 12 fun q2 =>
    gr h1 q1 6 1 fun q3 =>
    al h1 q3 (4 + v2) fun v3 =>
    as h1 q2 v2 v3 fun h2 =>
    lt ((v2 + 1) : Int32) fun v4 =>
    P_X6_keeps_L2 n q1 v4 h2)

def P_X6_keeps (p0 : Nat) (h0 : Hp) : Option (Hp) :=
    lt (0 : Int32) fun v1 =>
    P_X6_keeps_L2 FU p0 v1 h0

set_option maxHeartbeats 4000000 in
set_option maxRecDepth 100000 in
theorem wl_X6_keeps_L2 (C : CX K p m c cX6_keeps 2 s args RX6) (hr : meth.sig.returnType = none) (hlk : meth.locks = false) {h' : Hp} : ∀ (n : Nat) (q1 : Nat) (v2 : Int32) (h1 : Hp) (H : Heap) (locs : List Loc) (ls : Array Slot), HX K s.heap H locs h1 → lv_has ls 2 [(0, .ref (K.1 + q1)), (1, .int v2)] → P_X6_keeps_L2 n q1 v2 h1 = some h' → W p l e rmX6_keeps s m args below meth c H locs 0 0 (MQ below (Qv K h') args s rmX6_keeps.cells rmX6_keeps.slots (KA K)) (F0 m 2 ls []) := by
  intro n
  induction n with
  | zero =>
    intro  q1 v2 h1 H locs ls X hl hp
    cases hp
  | succ n ih =>
    intro  q1 v2 h1 H locs ls X hl hp
    unfold P_X6_keeps_L2 at hp
    refine lv_iload_n C.1 C.2.1 dX6_keeps_2 rfl (lv_at hl 1 rfl) ?_
    refine lv_bipush (v := 12) C.1 C.2.1 dX6_keeps_3 (by decide) ?_
    refine lv_icmp_ge (tgt := 28) C.1 C.2.1 dX6_keeps_5 (by decide) (fun c1 => ?_) (fun c1 => ?_)
    · have hp := if_p _ c1 hp
      exact w_retv C X hr hlk (by decide) dX6_keeps_28 hp
    · have hp := if_n _ c1 hp
      refine lv_aload_n C.1 C.2.1 dX6_keeps_8 rfl (lv_at hl 0 rfl) ?_
      refine w_gr C X fX6_34 rfl dX6_keeps_9 hp (fun q2 hp => ?_)
      refine lv_iload_n C.1 C.2.1 dX6_keeps_12 rfl (lv_at hl 1 rfl) ?_
      refine lv_aload_n C.1 C.2.1 dX6_keeps_13 rfl (lv_at hl 0 rfl) ?_
      refine w_gr C X fX6_13 rfl dX6_keeps_14 hp (fun q3 hp => ?_)
      refine lv_iconst (v := 4) C.1 C.2.1 dX6_keeps_17 (by decide) ?_
      refine lv_iload_n C.1 C.2.1 dX6_keeps_18 rfl (lv_at hl 1 rfl) ?_
      refine lv_iadd C.1 C.2.1 dX6_keeps_19 ?_
      refine w_al C X dX6_keeps_20 hp (fun v3 hp => ?_)
      refine w_as C X dX6_keeps_21 hp (fun H locs h2 X hp => ?_)
      refine w_inc (k := 1) C (fun v => [(1, .int (v)), (0, .ref (K.1 + q1))]) dX6_keeps_22 hl rfl (y := (v2 + 1)) rfl (by decide) (fun _ => rfl) hp (fun v4 ls hl hp => ?_)
      refine lv_goto (tgt := 2) C.1 C.2.1 dX6_keeps_25 (by decide) ?_
      exact ih _ _ _ _ _ _ X (lv_sub hl [1, 0] rfl) hp

set_option maxHeartbeats 4000000 in
set_option maxRecDepth 100000 in
theorem ct_X6_keeps (l : Launch) (K : Kt) (p0 : Nat) (h0 : Hp) {h' : Hp} (hp : P_X6_keeps p0 h0 = some h') : CT l K yX6_keeps cX6_keeps 2 none rmX6_keeps [.ref (K.1 + p0)] h0 (Qv K h') := by
  refine ct_of (own := RX6) (by decide +kernel) rfl (Nat.le_of_ble_eq_true rfl) ?_
  intro p e s m args below meth c C X hr hlk hm ls hl
  have hl : lv_has ls 2 [(0, .ref (K.1 + p0))] := hl
  unfold P_X6_keeps at hp
  refine lv_iconst (v := 0) C.1 C.2.1 dX6_keeps_0 (by decide) ?_
  refine w_istn C (fun v => [(1, .int (v)), (0, .ref (K.1 + p0))]) dX6_keeps_1 rfl hl (by decide) (fun _ => rfl) hp (fun v1 ls hl hp => ?_)
  exact wl_X6_keeps_L2 C hr hlk _ _ _ _ _ _ _ X (lv_sub hl [1, 0] rfl) hp

abbrev rmX6_putsBack : Room := { frames := 0, cells := 0, slots := 0, locals := 0 }
def P_X6_putsBack_L2 : Nat → Nat → Int32 → Hp → Option (Hp)
  | 0, _, _, _ => none
  | n + 1, q1, v2, h1 =>
    if 12 ≤ v2 then (
    some h1)
    else (
    gr h1 q1 6 1 fun q2 =>
    gr h1 q1 6 12 fun q3 =>
    al h1 q3 v2 fun v3 =>
    as h1 q2 (4 + v2) v3 fun h2 =>
    lt ((v2 + 1) : Int32) fun v4 =>
    P_X6_putsBack_L2 n q1 v4 h2)

def P_X6_putsBack (p0 : Nat) (h0 : Hp) : Option (Hp) :=
    lt (0 : Int32) fun v1 =>
    P_X6_putsBack_L2 FU p0 v1 h0

set_option maxHeartbeats 4000000 in
set_option maxRecDepth 100000 in
theorem wl_X6_putsBack_L2 (C : CX K p m c cX6_putsBack 2 s args RX6) (hr : meth.sig.returnType = none) (hlk : meth.locks = false) {h' : Hp} : ∀ (n : Nat) (q1 : Nat) (v2 : Int32) (h1 : Hp) (H : Heap) (locs : List Loc) (ls : Array Slot), HX K s.heap H locs h1 → lv_has ls 2 [(0, .ref (K.1 + q1)), (1, .int v2)] → P_X6_putsBack_L2 n q1 v2 h1 = some h' → W p l e rmX6_putsBack s m args below meth c H locs 0 0 (MQ below (Qv K h') args s rmX6_putsBack.cells rmX6_putsBack.slots (KA K)) (F0 m 2 ls []) := by
  intro n
  induction n with
  | zero =>
    intro  q1 v2 h1 H locs ls X hl hp
    cases hp
  | succ n ih =>
    intro  q1 v2 h1 H locs ls X hl hp
    unfold P_X6_putsBack_L2 at hp
    refine lv_iload_n C.1 C.2.1 dX6_putsBack_2 rfl (lv_at hl 1 rfl) ?_
    refine lv_bipush (v := 12) C.1 C.2.1 dX6_putsBack_3 (by decide) ?_
    refine lv_icmp_ge (tgt := 28) C.1 C.2.1 dX6_putsBack_5 (by decide) (fun c1 => ?_) (fun c1 => ?_)
    · have hp := if_p _ c1 hp
      exact w_retv C X hr hlk (by decide) dX6_putsBack_28 hp
    · have hp := if_n _ c1 hp
      refine lv_aload_n C.1 C.2.1 dX6_putsBack_8 rfl (lv_at hl 0 rfl) ?_
      refine w_gr C X fX6_13 rfl dX6_putsBack_9 hp (fun q2 hp => ?_)
      refine lv_iconst (v := 4) C.1 C.2.1 dX6_putsBack_12 (by decide) ?_
      refine lv_iload_n C.1 C.2.1 dX6_putsBack_13 rfl (lv_at hl 1 rfl) ?_
      refine lv_iadd C.1 C.2.1 dX6_putsBack_14 ?_
      refine lv_aload_n C.1 C.2.1 dX6_putsBack_15 rfl (lv_at hl 0 rfl) ?_
      refine w_gr C X fX6_34 rfl dX6_putsBack_16 hp (fun q3 hp => ?_)
      refine lv_iload_n C.1 C.2.1 dX6_putsBack_19 rfl (lv_at hl 1 rfl) ?_
      refine w_al C X dX6_putsBack_20 hp (fun v3 hp => ?_)
      refine w_as C X dX6_putsBack_21 hp (fun H locs h2 X hp => ?_)
      refine w_inc (k := 1) C (fun v => [(1, .int (v)), (0, .ref (K.1 + q1))]) dX6_putsBack_22 hl rfl (y := (v2 + 1)) rfl (by decide) (fun _ => rfl) hp (fun v4 ls hl hp => ?_)
      refine lv_goto (tgt := 2) C.1 C.2.1 dX6_putsBack_25 (by decide) ?_
      exact ih _ _ _ _ _ _ X (lv_sub hl [1, 0] rfl) hp

set_option maxHeartbeats 4000000 in
set_option maxRecDepth 100000 in
theorem ct_X6_putsBack (l : Launch) (K : Kt) (p0 : Nat) (h0 : Hp) {h' : Hp} (hp : P_X6_putsBack p0 h0 = some h') : CT l K yX6_putsBack cX6_putsBack 2 none rmX6_putsBack [.ref (K.1 + p0)] h0 (Qv K h') := by
  refine ct_of (own := RX6) (by decide +kernel) rfl (Nat.le_of_ble_eq_true rfl) ?_
  intro p e s m args below meth c C X hr hlk hm ls hl
  have hl : lv_has ls 2 [(0, .ref (K.1 + p0))] := hl
  unfold P_X6_putsBack at hp
  refine lv_iconst (v := 0) C.1 C.2.1 dX6_putsBack_0 (by decide) ?_
  refine w_istn C (fun v => [(1, .int (v)), (0, .ref (K.1 + p0))]) dX6_putsBack_1 rfl hl (by decide) (fun _ => rfl) hp (fun v1 ls hl hp => ?_)
  exact wl_X6_putsBack_L2 C hr hlk _ _ _ _ _ _ _ X (lv_sub hl [1, 0] rfl) hp

end
