noncomputable section
variable {p : Program} {l : Launch} {e : Env} {s : State} {m : MethodId} {args : Array Value} {below : List Frame} {meth : Method} {c : Code} {K : Kt}
abbrev rmX6_log : Room := { frames := 2, cells := 0, slots := 0, locals := 42 }
def P_X6_log (p0 : Nat) (a1 : Int32) (h0 : Hp) : Option (Int32 × Hp) :=
    if a1 = 9 then (
    gr h0 p0 6 1 fun q1 =>
    al h0 q1 3 fun v1 =>
    if v1 = 10 then (
    lt ((-6) : Int32) fun v7 =>
    if v7 = 0 then (
    gr h0 p0 6 1 fun q6 =>
    gr h0 p0 6 1 fun q7 =>
    al h0 q7 3 fun v8 =>
    as h0 q6 (68 + v8) a1 fun h4 =>
    gr h4 p0 6 1 fun q8 =>
    al h4 q8 3 fun v9 =>
    as h4 q8 3 (v9 + 1) fun h5 =>
    gr h5 p0 6 1 fun q9 =>
    al h5 q9 3 fun v10 =>
    some (v10, h5))
    else (
    rc h0 p0 6 <| ci (P_X6_refuse p0 v7 h0) fun v11 h6 =>
    some (v11, h6)))
    else (
    lt (0 : Int32) fun v2 =>
    if v2 = 0 then (
    gr h0 p0 6 1 fun q2 =>
    gr h0 p0 6 1 fun q3 =>
    al h0 q3 3 fun v3 =>
    as h0 q2 (68 + v3) a1 fun h1 =>
    gr h1 p0 6 1 fun q4 =>
    al h1 q4 3 fun v4 =>
    as h1 q4 3 (v4 + 1) fun h2 =>
    gr h2 p0 6 1 fun q5 =>
    al h2 q5 3 fun v5 =>
    some (v5, h2))
    else (
    rc h0 p0 6 <| ci (P_X6_refuse p0 v2 h0) fun v6 h3 =>
    some (v6, h3))))
    else (
    rc h0 p0 6 <| ci (P_X6_isPerson p0 a1 h0) fun v12 h7 =>
    if v12 = 0 then (
    lt ((-1) : Int32) fun v24 =>
    if v24 = 0 then (
    gr h7 p0 6 1 fun q19 =>
    gr h7 p0 6 1 fun q20 =>
    al h7 q20 3 fun v25 =>
    as h7 q19 (68 + v25) a1 fun h14 =>
    gr h14 p0 6 1 fun q21 =>
    al h14 q21 3 fun v26 =>
    as h14 q21 3 (v26 + 1) fun h15 =>
    gr h15 p0 6 1 fun q22 =>
    al h15 q22 3 fun v27 =>
    some (v27, h15))
    else (
    rc h7 p0 6 <| ci (P_X6_refuse p0 v24 h7) fun v28 h16 =>
    some (v28, h16)))
    else (
    gr h7 p0 6 1 fun q10 =>
    al h7 q10 3 fun v13 =>
    if v13 = 10 then (
    lt ((-6) : Int32) fun v19 =>
    if v19 = 0 then (
    gr h7 p0 6 1 fun q15 =>
    gr h7 p0 6 1 fun q16 =>
    al h7 q16 3 fun v20 =>
    as h7 q15 (68 + v20) a1 fun h11 =>
    gr h11 p0 6 1 fun q17 =>
    al h11 q17 3 fun v21 =>
    as h11 q17 3 (v21 + 1) fun h12 =>
    gr h12 p0 6 1 fun q18 =>
    al h12 q18 3 fun v22 =>
    some (v22, h12))
    else (
    rc h7 p0 6 <| ci (P_X6_refuse p0 v19 h7) fun v23 h13 =>
    some (v23, h13)))
    else (
    lt (0 : Int32) fun v14 =>
    if v14 = 0 then (
    gr h7 p0 6 1 fun q11 =>
    gr h7 p0 6 1 fun q12 =>
    al h7 q12 3 fun v15 =>
    as h7 q11 (68 + v15) a1 fun h8 =>
    gr h8 p0 6 1 fun q13 =>
    al h8 q13 3 fun v16 =>
    as h8 q13 3 (v16 + 1) fun h9 =>
    gr h9 p0 6 1 fun q14 =>
    al h9 q14 3 fun v17 =>
    some (v17, h9))
    else (
    rc h7 p0 6 <| ci (P_X6_refuse p0 v14 h7) fun v18 h10 =>
    some (v18, h10)))))

set_option maxHeartbeats 4000000 in
set_option maxRecDepth 100000 in
theorem ct_X6_log (l : Launch) (K : Kt) (p0 : Nat) (a1 : Int32) (h0 : Hp) {r : Int32} {h' : Hp} (hp : P_X6_log p0 a1 h0 = some (r, h')) : CT l K yX6_log cX6_log 3 (some FieldType.int) rmX6_log [.ref (K.1 + p0), .int a1] h0 (Qi K r h') := by
  refine ct_of (own := RX6) (by decide +kernel) rfl (Nat.le_of_ble_eq_true rfl) ?_
  intro p e s m args below meth c C X hr hlk hm ls hl
  have hl : lv_has ls 3 [(0, .ref (K.1 + p0)), (1, .int a1)] := hl
  unfold P_X6_log at hp
  refine lv_iload_n C.1 C.2.1 dX6_log_0 rfl (lv_at hl 1 rfl) ?_
  refine lv_bipush (v := 9) C.1 C.2.1 dX6_log_1 (by decide) ?_
  refine lv_icmp_eq (tgt := 18) C.1 C.2.1 dX6_log_3 (by decide) (fun c1 => ?_) (fun c1 => ?_)
  · have hp := if_p _ c1 hp
    refine lv_aload_n C.1 C.2.1 dX6_log_18 rfl (lv_at hl 0 rfl) ?_
    refine w_gr C X fX6_13 rfl dX6_log_19 hp (fun q1 hp => ?_)
    refine lv_iconst (v := 3) C.1 C.2.1 dX6_log_22 (by decide) ?_
    refine w_al C X dX6_log_23 hp (fun v1 hp => ?_)
    refine lv_bipush (v := 10) C.1 C.2.1 dX6_log_24 (by decide) ?_
    refine lv_icmp_ne (tgt := 34) C.1 C.2.1 dX6_log_26 (by decide) (fun c2 => ?_) (fun c2 => ?_)
    · have hp := if_n _ c2 hp
      refine lv_iconst (v := 0) C.1 C.2.1 dX6_log_34 (by decide) ?_
      refine w_istn C (fun v => [(2, .int (v)), (0, .ref (K.1 + p0)), (1, .int a1)]) dX6_log_35 rfl hl (by decide) (fun _ => rfl) hp (fun v2 ls hl hp => ?_)
      refine lv_iload_n C.1 C.2.1 dX6_log_36 rfl (lv_at hl 0 rfl) ?_
      refine lv_if_eq (tgt := 46) C.1 C.2.1 dX6_log_37 (by decide) (fun c3 => ?_) (fun c3 => ?_)
      · have hp := if_p _ c3 hp
        refine lv_aload_n C.1 C.2.1 dX6_log_46 rfl (lv_at hl 1 rfl) ?_
        refine w_gr C X fX6_13 rfl dX6_log_47 hp (fun q2 hp => ?_)
        refine lv_bipush (v := 68) C.1 C.2.1 dX6_log_50 (by decide) ?_
        refine lv_aload_n C.1 C.2.1 dX6_log_52 rfl (lv_at hl 1 rfl) ?_
        refine w_gr C X fX6_13 rfl dX6_log_53 hp (fun q3 hp => ?_)
        refine lv_iconst (v := 3) C.1 C.2.1 dX6_log_56 (by decide) ?_
        refine w_al C X dX6_log_57 hp (fun v3 hp => ?_)
        refine lv_iadd C.1 C.2.1 dX6_log_58 ?_
        refine lv_iload_n C.1 C.2.1 dX6_log_59 rfl (lv_at hl 2 rfl) ?_
        refine w_as C X dX6_log_60 hp (fun H locs h1 X hp => ?_)
        refine lv_aload_n C.1 C.2.1 dX6_log_61 rfl (lv_at hl 1 rfl) ?_
        refine w_gr C X fX6_13 rfl dX6_log_62 hp (fun q4 hp => ?_)
        refine lv_iconst (v := 3) C.1 C.2.1 dX6_log_65 (by decide) ?_
        refine lv_dup2_11 C.1 C.2.1 dX6_log_66 rfl rfl ?_
        refine w_al C X dX6_log_67 hp (fun v4 hp => ?_)
        refine lv_iconst (v := 1) C.1 C.2.1 dX6_log_68 (by decide) ?_
        refine lv_iadd C.1 C.2.1 dX6_log_69 ?_
        refine w_as C X dX6_log_70 hp (fun H locs h2 X hp => ?_)
        refine lv_aload_n C.1 C.2.1 dX6_log_71 rfl (lv_at hl 1 rfl) ?_
        refine w_gr C X fX6_13 rfl dX6_log_72 hp (fun q5 hp => ?_)
        refine lv_iconst (v := 3) C.1 C.2.1 dX6_log_75 (by decide) ?_
        refine w_al C X dX6_log_76 hp (fun v5 hp => ?_)
        exact w_reti C X hr hlk (by decide) dX6_log_77 hp
      · have hp := if_n _ c3 hp
        refine lv_aload_n C.1 C.2.1 dX6_log_40 rfl (lv_at hl 1 rfl) ?_
        refine lv_iload_n C.1 C.2.1 dX6_log_41 rfl (lv_at hl 0 rfl) ?_
        have hrc := (rc_some hp).1
        have hp := (rc_some hp).2
        refine w_ci (cells' := 0) (slots' := 0) X (fun _ _ e => run_V (As := [.int v2]) (c0 := 6) C X mX6_refuse miX6_refuse lX6_52 (by decide) rfl hrc (ct_X6_refuse l K p0 v2 h0 e) (by decide) (by decide) rfl (by decide) rfl hl.1 dX6_log_42) (by decide) hp (fun v6 h3 H locs X hp => ?_)
        exact w_reti C X hr hlk (by decide) dX6_log_45 hp
    · have hp := if_p _ c2 hp
      refine lv_bipush (v := -6) C.1 C.2.1 dX6_log_29 (by decide) ?_
      refine lv_goto (tgt := 35) C.1 C.2.1 dX6_log_31 (by decide) ?_
      refine w_istn C (fun v => [(2, .int (v)), (0, .ref (K.1 + p0)), (1, .int a1)]) dX6_log_35 rfl hl (by decide) (fun _ => rfl) hp (fun v7 ls hl hp => ?_)
      refine lv_iload_n C.1 C.2.1 dX6_log_36 rfl (lv_at hl 0 rfl) ?_
      refine lv_if_eq (tgt := 46) C.1 C.2.1 dX6_log_37 (by decide) (fun c4 => ?_) (fun c4 => ?_)
      · have hp := if_p _ c4 hp
        refine lv_aload_n C.1 C.2.1 dX6_log_46 rfl (lv_at hl 1 rfl) ?_
        refine w_gr C X fX6_13 rfl dX6_log_47 hp (fun q6 hp => ?_)
        refine lv_bipush (v := 68) C.1 C.2.1 dX6_log_50 (by decide) ?_
        refine lv_aload_n C.1 C.2.1 dX6_log_52 rfl (lv_at hl 1 rfl) ?_
        refine w_gr C X fX6_13 rfl dX6_log_53 hp (fun q7 hp => ?_)
        refine lv_iconst (v := 3) C.1 C.2.1 dX6_log_56 (by decide) ?_
        refine w_al C X dX6_log_57 hp (fun v8 hp => ?_)
        refine lv_iadd C.1 C.2.1 dX6_log_58 ?_
        refine lv_iload_n C.1 C.2.1 dX6_log_59 rfl (lv_at hl 2 rfl) ?_
        refine w_as C X dX6_log_60 hp (fun H locs h4 X hp => ?_)
        refine lv_aload_n C.1 C.2.1 dX6_log_61 rfl (lv_at hl 1 rfl) ?_
        refine w_gr C X fX6_13 rfl dX6_log_62 hp (fun q8 hp => ?_)
        refine lv_iconst (v := 3) C.1 C.2.1 dX6_log_65 (by decide) ?_
        refine lv_dup2_11 C.1 C.2.1 dX6_log_66 rfl rfl ?_
        refine w_al C X dX6_log_67 hp (fun v9 hp => ?_)
        refine lv_iconst (v := 1) C.1 C.2.1 dX6_log_68 (by decide) ?_
        refine lv_iadd C.1 C.2.1 dX6_log_69 ?_
        refine w_as C X dX6_log_70 hp (fun H locs h5 X hp => ?_)
        refine lv_aload_n C.1 C.2.1 dX6_log_71 rfl (lv_at hl 1 rfl) ?_
        refine w_gr C X fX6_13 rfl dX6_log_72 hp (fun q9 hp => ?_)
        refine lv_iconst (v := 3) C.1 C.2.1 dX6_log_75 (by decide) ?_
        refine w_al C X dX6_log_76 hp (fun v10 hp => ?_)
        exact w_reti C X hr hlk (by decide) dX6_log_77 hp
      · have hp := if_n _ c4 hp
        refine lv_aload_n C.1 C.2.1 dX6_log_40 rfl (lv_at hl 1 rfl) ?_
        refine lv_iload_n C.1 C.2.1 dX6_log_41 rfl (lv_at hl 0 rfl) ?_
        have hrc := (rc_some hp).1
        have hp := (rc_some hp).2
        refine w_ci (cells' := 0) (slots' := 0) X (fun _ _ e => run_V (As := [.int v7]) (c0 := 6) C X mX6_refuse miX6_refuse lX6_52 (by decide) rfl hrc (ct_X6_refuse l K p0 v7 h0 e) (by decide) (by decide) rfl (by decide) rfl hl.1 dX6_log_42) (by decide) hp (fun v11 h6 H locs X hp => ?_)
        exact w_reti C X hr hlk (by decide) dX6_log_45 hp
  · have hp := if_n _ c1 hp
    refine lv_aload_n C.1 C.2.1 dX6_log_6 rfl (lv_at hl 0 rfl) ?_
    refine lv_iload_n C.1 C.2.1 dX6_log_7 rfl (lv_at hl 1 rfl) ?_
    have hrc := (rc_some hp).1
    have hp := (rc_some hp).2
    refine w_ci (cells' := 0) (slots' := 0) X (fun _ _ e => run_V (As := [.int a1]) (c0 := 6) C X mX6_isPerson miX6_isPerson lX6_118 (by decide) rfl hrc (ct_X6_isPerson l K p0 a1 h0 e) (by decide) (by decide) rfl (by decide) rfl hl.1 dX6_log_8) (by decide) hp (fun v12 h7 H locs X hp => ?_)
    refine lv_if_ne (tgt := 18) C.1 C.2.1 dX6_log_11 (by decide) (fun c5 => ?_) (fun c5 => ?_)
    · have hp := if_n _ c5 hp
      refine lv_aload_n C.1 C.2.1 dX6_log_18 rfl (lv_at hl 0 rfl) ?_
      refine w_gr C X fX6_13 rfl dX6_log_19 hp (fun q10 hp => ?_)
      refine lv_iconst (v := 3) C.1 C.2.1 dX6_log_22 (by decide) ?_
      refine w_al C X dX6_log_23 hp (fun v13 hp => ?_)
      refine lv_bipush (v := 10) C.1 C.2.1 dX6_log_24 (by decide) ?_
      refine lv_icmp_ne (tgt := 34) C.1 C.2.1 dX6_log_26 (by decide) (fun c6 => ?_) (fun c6 => ?_)
      · have hp := if_n _ c6 hp
        refine lv_iconst (v := 0) C.1 C.2.1 dX6_log_34 (by decide) ?_
        refine w_istn C (fun v => [(2, .int (v)), (0, .ref (K.1 + p0)), (1, .int a1)]) dX6_log_35 rfl hl (by decide) (fun _ => rfl) hp (fun v14 ls hl hp => ?_)
        refine lv_iload_n C.1 C.2.1 dX6_log_36 rfl (lv_at hl 0 rfl) ?_
        refine lv_if_eq (tgt := 46) C.1 C.2.1 dX6_log_37 (by decide) (fun c7 => ?_) (fun c7 => ?_)
        · have hp := if_p _ c7 hp
          refine lv_aload_n C.1 C.2.1 dX6_log_46 rfl (lv_at hl 1 rfl) ?_
          refine w_gr C X fX6_13 rfl dX6_log_47 hp (fun q11 hp => ?_)
          refine lv_bipush (v := 68) C.1 C.2.1 dX6_log_50 (by decide) ?_
          refine lv_aload_n C.1 C.2.1 dX6_log_52 rfl (lv_at hl 1 rfl) ?_
          refine w_gr C X fX6_13 rfl dX6_log_53 hp (fun q12 hp => ?_)
          refine lv_iconst (v := 3) C.1 C.2.1 dX6_log_56 (by decide) ?_
          refine w_al C X dX6_log_57 hp (fun v15 hp => ?_)
          refine lv_iadd C.1 C.2.1 dX6_log_58 ?_
          refine lv_iload_n C.1 C.2.1 dX6_log_59 rfl (lv_at hl 2 rfl) ?_
          refine w_as C X dX6_log_60 hp (fun H locs h8 X hp => ?_)
          refine lv_aload_n C.1 C.2.1 dX6_log_61 rfl (lv_at hl 1 rfl) ?_
          refine w_gr C X fX6_13 rfl dX6_log_62 hp (fun q13 hp => ?_)
          refine lv_iconst (v := 3) C.1 C.2.1 dX6_log_65 (by decide) ?_
          refine lv_dup2_11 C.1 C.2.1 dX6_log_66 rfl rfl ?_
          refine w_al C X dX6_log_67 hp (fun v16 hp => ?_)
          refine lv_iconst (v := 1) C.1 C.2.1 dX6_log_68 (by decide) ?_
          refine lv_iadd C.1 C.2.1 dX6_log_69 ?_
          refine w_as C X dX6_log_70 hp (fun H locs h9 X hp => ?_)
          refine lv_aload_n C.1 C.2.1 dX6_log_71 rfl (lv_at hl 1 rfl) ?_
          refine w_gr C X fX6_13 rfl dX6_log_72 hp (fun q14 hp => ?_)
          refine lv_iconst (v := 3) C.1 C.2.1 dX6_log_75 (by decide) ?_
          refine w_al C X dX6_log_76 hp (fun v17 hp => ?_)
          exact w_reti C X hr hlk (by decide) dX6_log_77 hp
        · have hp := if_n _ c7 hp
          refine lv_aload_n C.1 C.2.1 dX6_log_40 rfl (lv_at hl 1 rfl) ?_
          refine lv_iload_n C.1 C.2.1 dX6_log_41 rfl (lv_at hl 0 rfl) ?_
          have hrc := (rc_some hp).1
          have hp := (rc_some hp).2
          refine w_ci (cells' := 0) (slots' := 0) X (fun _ _ e => run_V (As := [.int v14]) (c0 := 6) C X mX6_refuse miX6_refuse lX6_52 (by decide) rfl hrc (ct_X6_refuse l K p0 v14 h7 e) (by decide) (by decide) rfl (by decide) rfl hl.1 dX6_log_42) (by decide) hp (fun v18 h10 H locs X hp => ?_)
          exact w_reti C X hr hlk (by decide) dX6_log_45 hp
      · have hp := if_p _ c6 hp
        refine lv_bipush (v := -6) C.1 C.2.1 dX6_log_29 (by decide) ?_
        refine lv_goto (tgt := 35) C.1 C.2.1 dX6_log_31 (by decide) ?_
        refine w_istn C (fun v => [(2, .int (v)), (0, .ref (K.1 + p0)), (1, .int a1)]) dX6_log_35 rfl hl (by decide) (fun _ => rfl) hp (fun v19 ls hl hp => ?_)
        refine lv_iload_n C.1 C.2.1 dX6_log_36 rfl (lv_at hl 0 rfl) ?_
        refine lv_if_eq (tgt := 46) C.1 C.2.1 dX6_log_37 (by decide) (fun c8 => ?_) (fun c8 => ?_)
        · have hp := if_p _ c8 hp
          refine lv_aload_n C.1 C.2.1 dX6_log_46 rfl (lv_at hl 1 rfl) ?_
          refine w_gr C X fX6_13 rfl dX6_log_47 hp (fun q15 hp => ?_)
          refine lv_bipush (v := 68) C.1 C.2.1 dX6_log_50 (by decide) ?_
          refine lv_aload_n C.1 C.2.1 dX6_log_52 rfl (lv_at hl 1 rfl) ?_
          refine w_gr C X fX6_13 rfl dX6_log_53 hp (fun q16 hp => ?_)
          refine lv_iconst (v := 3) C.1 C.2.1 dX6_log_56 (by decide) ?_
          refine w_al C X dX6_log_57 hp (fun v20 hp => ?_)
          refine lv_iadd C.1 C.2.1 dX6_log_58 ?_
          refine lv_iload_n C.1 C.2.1 dX6_log_59 rfl (lv_at hl 2 rfl) ?_
          refine w_as C X dX6_log_60 hp (fun H locs h11 X hp => ?_)
          refine lv_aload_n C.1 C.2.1 dX6_log_61 rfl (lv_at hl 1 rfl) ?_
          refine w_gr C X fX6_13 rfl dX6_log_62 hp (fun q17 hp => ?_)
          refine lv_iconst (v := 3) C.1 C.2.1 dX6_log_65 (by decide) ?_
          refine lv_dup2_11 C.1 C.2.1 dX6_log_66 rfl rfl ?_
          refine w_al C X dX6_log_67 hp (fun v21 hp => ?_)
          refine lv_iconst (v := 1) C.1 C.2.1 dX6_log_68 (by decide) ?_
          refine lv_iadd C.1 C.2.1 dX6_log_69 ?_
          refine w_as C X dX6_log_70 hp (fun H locs h12 X hp => ?_)
          refine lv_aload_n C.1 C.2.1 dX6_log_71 rfl (lv_at hl 1 rfl) ?_
          refine w_gr C X fX6_13 rfl dX6_log_72 hp (fun q18 hp => ?_)
          refine lv_iconst (v := 3) C.1 C.2.1 dX6_log_75 (by decide) ?_
          refine w_al C X dX6_log_76 hp (fun v22 hp => ?_)
          exact w_reti C X hr hlk (by decide) dX6_log_77 hp
        · have hp := if_n _ c8 hp
          refine lv_aload_n C.1 C.2.1 dX6_log_40 rfl (lv_at hl 1 rfl) ?_
          refine lv_iload_n C.1 C.2.1 dX6_log_41 rfl (lv_at hl 0 rfl) ?_
          have hrc := (rc_some hp).1
          have hp := (rc_some hp).2
          refine w_ci (cells' := 0) (slots' := 0) X (fun _ _ e => run_V (As := [.int v19]) (c0 := 6) C X mX6_refuse miX6_refuse lX6_52 (by decide) rfl hrc (ct_X6_refuse l K p0 v19 h7 e) (by decide) (by decide) rfl (by decide) rfl hl.1 dX6_log_42) (by decide) hp (fun v23 h13 H locs X hp => ?_)
          exact w_reti C X hr hlk (by decide) dX6_log_45 hp
    · have hp := if_p _ c5 hp
      refine lv_iconst (v := -1) C.1 C.2.1 dX6_log_14 (by decide) ?_
      refine lv_goto (tgt := 35) C.1 C.2.1 dX6_log_15 (by decide) ?_
      refine w_istn C (fun v => [(2, .int (v)), (0, .ref (K.1 + p0)), (1, .int a1)]) dX6_log_35 rfl hl (by decide) (fun _ => rfl) hp (fun v24 ls hl hp => ?_)
      refine lv_iload_n C.1 C.2.1 dX6_log_36 rfl (lv_at hl 0 rfl) ?_
      refine lv_if_eq (tgt := 46) C.1 C.2.1 dX6_log_37 (by decide) (fun c9 => ?_) (fun c9 => ?_)
      · have hp := if_p _ c9 hp
        refine lv_aload_n C.1 C.2.1 dX6_log_46 rfl (lv_at hl 1 rfl) ?_
        refine w_gr C X fX6_13 rfl dX6_log_47 hp (fun q19 hp => ?_)
        refine lv_bipush (v := 68) C.1 C.2.1 dX6_log_50 (by decide) ?_
        refine lv_aload_n C.1 C.2.1 dX6_log_52 rfl (lv_at hl 1 rfl) ?_
        refine w_gr C X fX6_13 rfl dX6_log_53 hp (fun q20 hp => ?_)
        refine lv_iconst (v := 3) C.1 C.2.1 dX6_log_56 (by decide) ?_
        refine w_al C X dX6_log_57 hp (fun v25 hp => ?_)
        refine lv_iadd C.1 C.2.1 dX6_log_58 ?_
        refine lv_iload_n C.1 C.2.1 dX6_log_59 rfl (lv_at hl 2 rfl) ?_
        refine w_as C X dX6_log_60 hp (fun H locs h14 X hp => ?_)
        refine lv_aload_n C.1 C.2.1 dX6_log_61 rfl (lv_at hl 1 rfl) ?_
        refine w_gr C X fX6_13 rfl dX6_log_62 hp (fun q21 hp => ?_)
        refine lv_iconst (v := 3) C.1 C.2.1 dX6_log_65 (by decide) ?_
        refine lv_dup2_11 C.1 C.2.1 dX6_log_66 rfl rfl ?_
        refine w_al C X dX6_log_67 hp (fun v26 hp => ?_)
        refine lv_iconst (v := 1) C.1 C.2.1 dX6_log_68 (by decide) ?_
        refine lv_iadd C.1 C.2.1 dX6_log_69 ?_
        refine w_as C X dX6_log_70 hp (fun H locs h15 X hp => ?_)
        refine lv_aload_n C.1 C.2.1 dX6_log_71 rfl (lv_at hl 1 rfl) ?_
        refine w_gr C X fX6_13 rfl dX6_log_72 hp (fun q22 hp => ?_)
        refine lv_iconst (v := 3) C.1 C.2.1 dX6_log_75 (by decide) ?_
        refine w_al C X dX6_log_76 hp (fun v27 hp => ?_)
        exact w_reti C X hr hlk (by decide) dX6_log_77 hp
      · have hp := if_n _ c9 hp
        refine lv_aload_n C.1 C.2.1 dX6_log_40 rfl (lv_at hl 1 rfl) ?_
        refine lv_iload_n C.1 C.2.1 dX6_log_41 rfl (lv_at hl 0 rfl) ?_
        have hrc := (rc_some hp).1
        have hp := (rc_some hp).2
        refine w_ci (cells' := 0) (slots' := 0) X (fun _ _ e => run_V (As := [.int v24]) (c0 := 6) C X mX6_refuse miX6_refuse lX6_52 (by decide) rfl hrc (ct_X6_refuse l K p0 v24 h7 e) (by decide) (by decide) rfl (by decide) rfl hl.1 dX6_log_42) (by decide) hp (fun v28 h16 H locs X hp => ?_)
        exact w_reti C X hr hlk (by decide) dX6_log_45 hp

abbrev rmX6_order : Room := { frames := 2, cells := 0, slots := 0, locals := 46 }
def P_X6_order_L18 : Nat → Nat → Int32 → Int32 → Int32 → Hp → (Int32 → Hp → Option (Int32 × Hp)) → Option (Int32 × Hp)
  | 0, _, _, _, _, _, _ => none
  | n + 1, q1, v4, v5, v6, h2, kont =>
    gr h2 q1 6 1 fun q2 =>
    al h2 q2 3 fun v7 =>
    if v7 ≤ v6 then (
    kont v5 h2)
    else (
    rc h2 q1 6 <| ci (P_X6_logAt q1 v6 h2) fun v8 h3 =>
    if v8 = 9 then (
    lt ((v5 + 0) : Int32) fun v9 =>
    lt ((v6 + 1) : Int32) fun v10 =>
    P_X6_order_L18 n q1 v4 v9 v10 h3 kont)
    else (
    rc h3 q1 6 <| ci (P_X6_logAt q1 v6 h3) fun v11 h4 =>
    rc h4 q1 6 <| ci (P_X6_turns q1 v11 v4 h4) fun v12 h5 =>
    if v12 = 0 then (
    lt ((v5 + 0) : Int32) fun v13 =>
    lt ((v6 + 1) : Int32) fun v14 =>
    P_X6_order_L18 n q1 v4 v13 v14 h5 kont)
    else (
    lt ((v5 + 1) : Int32) fun v15 =>
    lt ((v6 + 1) : Int32) fun v16 =>
    P_X6_order_L18 n q1 v4 v15 v16 h5 kont)))

def P_X6_order_L101 : Nat → Nat → Int32 → Int32 → Int32 → Int32 → Hp → Option (Int32 × Hp)
  | 0, _, _, _, _, _, _ => none
  | n + 1, q4, v22, v23, v24, v25, h7 =>
    if v22 < v25 then (
    some (v24, h7))
    else (
    gr h7 q4 6 1 fun q5 =>
    al h7 q5 1 fun v26 =>
    nz v26 <|
    if (jrem (v23 + v25) v26) = 0 then (
    lt ((v24 + 1) : Int32) fun v29 =>
    lt ((v25 + 1) : Int32) fun v30 =>
    P_X6_order_L101 n q4 v22 v23 v29 v30 h7)
    else (
    lt ((v24 + 0) : Int32) fun v27 =>
    lt ((v25 + 1) : Int32) fun v28 =>
    P_X6_order_L101 n q4 v22 v23 v27 v28 h7))

def P_X6_order (p0 : Nat) (a1 : Int32) (h0 : Hp) : Option (Int32 × Hp) :=
    rc h0 p0 6 <| ci (P_X6_isDoor p0 a1 h0) fun v1 h1 =>
    if v1 = 0 then (
    rc h1 p0 6 <| ci (P_X6_refuse p0 (-1) h1) fun v32 h8 =>
    some (v32, h8))
    else (
    lt (0 : Int32) fun v2 =>
    lt (0 : Int32) fun v3 =>
    P_X6_order_L18 FU p0 a1 v2 v3 h1 fun v17 h6 =>
    gr h6 p0 6 1 fun q3 =>
    al h6 q3 ((4 + a1) - 1) fun v18 =>
    lt (v18 : Int32) fun v19 =>
    if v17 = 0 then (
    if v19 = 0 then (
    gr h6 p0 6 1 fun q6 =>
    al h6 q6 3 fun v31 =>
    some (v31, h6))
    else (
    some (0, h6)))
    else (
    lt (0 : Int32) fun v20 =>
    lt (1 : Int32) fun v21 =>
    P_X6_order_L101 FU p0 v17 v19 v20 v21 h6))

set_option maxHeartbeats 4000000 in
set_option maxRecDepth 100000 in
theorem wl_X6_order_L18 (C : CX K p m c cX6_order 6 s args RX6) (hr : meth.sig.returnType = (some FieldType.int)) (hlk : meth.locks = false) {r : Int32} {h' : Hp} : ∀ (n : Nat) (q1 : Nat) (v4 : Int32) (v5 : Int32) (v6 : Int32) (h2 : Hp) (kont : Int32 → Hp → Option (Int32 × Hp)) (H : Heap) (locs : List Loc) (ls : Array Slot), HX K s.heap H locs h2 → lv_has ls 6 [(0, .ref (K.1 + q1)), (1, .int v4), (2, .int v5), (3, .int v6)] → P_X6_order_L18 n q1 v4 v5 v6 h2 kont = some (r, h') → (∀ (y0 : Int32) (hk : Hp) (H : Heap) (locs : List Loc) (ls : Array Slot), HX K s.heap H locs hk → lv_has ls 6 [(0, .ref (K.1 + q1)), (1, .int v4), (2, .int y0)] → kont y0 hk = some (r, h') → W p l e rmX6_order s m args below meth c H locs 0 0 (MQ below (Qi K r h') args s rmX6_order.cells rmX6_order.slots (KA K)) (F0 m 65 ls [])) → W p l e rmX6_order s m args below meth c H locs 0 0 (MQ below (Qi K r h') args s rmX6_order.cells rmX6_order.slots (KA K)) (F0 m 18 ls []) := by
  intro n
  induction n with
  | zero =>
    intro  q1 v4 v5 v6 h2 kont H locs ls X hl hp hk
    cases hp
  | succ n ih =>
    intro  q1 v4 v5 v6 h2 kont H locs ls X hl hp hk
    unfold P_X6_order_L18 at hp
    refine lv_iload_n C.1 C.2.1 dX6_order_18 rfl (lv_at hl 3 rfl) ?_
    refine lv_aload_n C.1 C.2.1 dX6_order_19 rfl (lv_at hl 0 rfl) ?_
    refine w_gr C X fX6_13 rfl dX6_order_20 hp (fun q2 hp => ?_)
    refine lv_iconst (v := 3) C.1 C.2.1 dX6_order_23 (by decide) ?_
    refine w_al C X dX6_order_24 hp (fun v7 hp => ?_)
    refine lv_icmp_ge (tgt := 65) C.1 C.2.1 dX6_order_25 (by decide) (fun c2 => ?_) (fun c2 => ?_)
    · have hp := if_p _ c2 hp
      exact hk _ _ _ _ _ X (lv_sub hl [0, 1, 2] rfl) hp
    · have hp := if_n _ c2 hp
      refine lv_iload_n C.1 C.2.1 dX6_order_28 rfl (lv_at hl 2 rfl) ?_
      refine lv_aload_n C.1 C.2.1 dX6_order_29 rfl (lv_at hl 0 rfl) ?_
      refine lv_iload_n C.1 C.2.1 dX6_order_30 rfl (lv_at hl 3 rfl) ?_
      have hrc := (rc_some hp).1
      have hp := (rc_some hp).2
      refine w_ci (cells' := 0) (slots' := 0) X (fun _ _ e => run_V (As := [.int v6]) (c0 := 6) C X mX6_logAt miX6_logAt lX6_208 (by decide) rfl hrc (ct_X6_logAt l K q1 v6 h2 e) (by decide) (by decide) rfl (Nat.le_of_ble_eq_true rfl) rfl hl.1 dX6_order_31) (by decide) hp (fun v8 h3 H locs X hp => ?_)
      refine lv_bipush (v := 9) C.1 C.2.1 dX6_order_34 (by decide) ?_
      refine lv_icmp_eq (tgt := 56) C.1 C.2.1 dX6_order_36 (by decide) (fun c3 => ?_) (fun c3 => ?_)
      · have hp := if_p _ c3 hp
        refine lv_iconst (v := 0) C.1 C.2.1 dX6_order_56 (by decide) ?_
        refine lv_iadd C.1 C.2.1 dX6_order_57 ?_
        refine w_istn C (fun v => [(2, .int (v)), (0, .ref (K.1 + q1)), (1, .int v4), (3, .int v6)]) dX6_order_58 rfl hl (by decide) (fun _ => rfl) hp (fun v9 ls hl hp => ?_)
        refine w_inc (k := 3) C (fun v => [(3, .int (v)), (2, .int v9), (0, .ref (K.1 + q1)), (1, .int v4)]) dX6_order_59 hl rfl (y := (v6 + 1)) rfl (by decide) (fun _ => rfl) hp (fun v10 ls hl hp => ?_)
        refine lv_goto (tgt := 18) C.1 C.2.1 dX6_order_62 (by decide) ?_
        exact ih _ _ _ _ _ _ _ _ _ X (lv_sub hl [2, 3, 1, 0] rfl) hp hk
      · have hp := if_n _ c3 hp
        refine lv_aload_n C.1 C.2.1 dX6_order_39 rfl (lv_at hl 0 rfl) ?_
        refine lv_aload_n C.1 C.2.1 dX6_order_40 rfl (lv_at hl 0 rfl) ?_
        refine lv_iload_n C.1 C.2.1 dX6_order_41 rfl (lv_at hl 3 rfl) ?_
        have hrc := (rc_some hp).1
        have hp := (rc_some hp).2
        refine w_ci (cells' := 0) (slots' := 0) X (fun _ _ e => run_V (As := [.int v6]) (c0 := 6) C X mX6_logAt miX6_logAt lX6_208 (by decide) rfl hrc (ct_X6_logAt l K q1 v6 h3 e) (by decide) (by decide) rfl (Nat.le_of_ble_eq_true rfl) rfl hl.1 dX6_order_42) (by decide) hp (fun v11 h4 H locs X hp => ?_)
        refine lv_iload_n C.1 C.2.1 dX6_order_45 rfl (lv_at hl 1 rfl) ?_
        have hrc := (rc_some hp).1
        have hp := (rc_some hp).2
        refine w_ci (cells' := 0) (slots' := 0) X (fun _ _ e => run_V (As := [.int v11, .int v4]) (c0 := 6) C X mX6_turns miX6_turns lX6_112 (by decide) rfl hrc (ct_X6_turns l K q1 v11 v4 h4 e) (by decide) (by decide) rfl (Nat.le_of_ble_eq_true rfl) rfl hl.1 dX6_order_46) (by decide) hp (fun v12 h5 H locs X hp => ?_)
        refine lv_if_eq (tgt := 56) C.1 C.2.1 dX6_order_49 (by decide) (fun c4 => ?_) (fun c4 => ?_)
        · have hp := if_p _ c4 hp
          refine lv_iconst (v := 0) C.1 C.2.1 dX6_order_56 (by decide) ?_
          refine lv_iadd C.1 C.2.1 dX6_order_57 ?_
          refine w_istn C (fun v => [(2, .int (v)), (0, .ref (K.1 + q1)), (1, .int v4), (3, .int v6)]) dX6_order_58 rfl hl (by decide) (fun _ => rfl) hp (fun v13 ls hl hp => ?_)
          refine w_inc (k := 3) C (fun v => [(3, .int (v)), (2, .int v13), (0, .ref (K.1 + q1)), (1, .int v4)]) dX6_order_59 hl rfl (y := (v6 + 1)) rfl (by decide) (fun _ => rfl) hp (fun v14 ls hl hp => ?_)
          refine lv_goto (tgt := 18) C.1 C.2.1 dX6_order_62 (by decide) ?_
          exact ih _ _ _ _ _ _ _ _ _ X (lv_sub hl [2, 3, 1, 0] rfl) hp hk
        · have hp := if_n _ c4 hp
          refine lv_iconst (v := 1) C.1 C.2.1 dX6_order_52 (by decide) ?_
          refine lv_goto (tgt := 57) C.1 C.2.1 dX6_order_53 (by decide) ?_
          refine lv_iadd C.1 C.2.1 dX6_order_57 ?_
          refine w_istn C (fun v => [(2, .int (v)), (0, .ref (K.1 + q1)), (1, .int v4), (3, .int v6)]) dX6_order_58 rfl hl (by decide) (fun _ => rfl) hp (fun v15 ls hl hp => ?_)
          refine w_inc (k := 3) C (fun v => [(3, .int (v)), (2, .int v15), (0, .ref (K.1 + q1)), (1, .int v4)]) dX6_order_59 hl rfl (y := (v6 + 1)) rfl (by decide) (fun _ => rfl) hp (fun v16 ls hl hp => ?_)
          refine lv_goto (tgt := 18) C.1 C.2.1 dX6_order_62 (by decide) ?_
          exact ih _ _ _ _ _ _ _ _ _ X (lv_sub hl [2, 3, 1, 0] rfl) hp hk

set_option maxHeartbeats 4000000 in
set_option maxRecDepth 100000 in
theorem wl_X6_order_L101 (C : CX K p m c cX6_order 6 s args RX6) (hr : meth.sig.returnType = (some FieldType.int)) (hlk : meth.locks = false) {r : Int32} {h' : Hp} : ∀ (n : Nat) (q4 : Nat) (v22 : Int32) (v23 : Int32) (v24 : Int32) (v25 : Int32) (h7 : Hp) (H : Heap) (locs : List Loc) (ls : Array Slot), HX K s.heap H locs h7 → lv_has ls 6 [(0, .ref (K.1 + q4)), (2, .int v22), (3, .int v23), (4, .int v24), (5, .int v25)] → P_X6_order_L101 n q4 v22 v23 v24 v25 h7 = some (r, h') → W p l e rmX6_order s m args below meth c H locs 0 0 (MQ below (Qi K r h') args s rmX6_order.cells rmX6_order.slots (KA K)) (F0 m 101 ls []) := by
  intro n
  induction n with
  | zero =>
    intro  q4 v22 v23 v24 v25 h7 H locs ls X hl hp
    cases hp
  | succ n ih =>
    intro  q4 v22 v23 v24 v25 h7 H locs ls X hl hp
    unfold P_X6_order_L101 at hp
    refine lv_iload C.1 C.2.1 dX6_order_101 (lv_at hl 4 rfl) ?_
    refine lv_iload_n C.1 C.2.1 dX6_order_103 rfl (lv_at hl 1 rfl) ?_
    refine lv_icmp_gt (tgt := 137) C.1 C.2.1 dX6_order_104 (by decide) (fun c6 => ?_) (fun c6 => ?_)
    · have hp := if_p _ c6 hp
      refine lv_iload C.1 C.2.1 dX6_order_137 (lv_at hl 3 rfl) ?_
      exact w_reti C X hr hlk (by decide) dX6_order_139 hp
    · have hp := if_n _ c6 hp
      refine lv_iload C.1 C.2.1 dX6_order_107 (lv_at hl 3 rfl) ?_
      refine lv_iload_n C.1 C.2.1 dX6_order_109 rfl (lv_at hl 2 rfl) ?_
      refine lv_iload C.1 C.2.1 dX6_order_110 (lv_at hl 4 rfl) ?_
      refine lv_iadd C.1 C.2.1 dX6_order_112 ?_
      refine lv_aload_n C.1 C.2.1 dX6_order_113 rfl (lv_at hl 0 rfl) ?_
      refine w_gr C X fX6_13 rfl dX6_order_114 hp (fun q5 hp => ?_)
      refine lv_iconst (v := 1) C.1 C.2.1 dX6_order_117 (by decide) ?_
      refine w_al C X dX6_order_118 hp (fun v26 hp => ?_)
      have hz := (nz_some hp).1
      have hp := (nz_some hp).2
      refine w_rem C dX6_order_119 hz ?_
      refine lv_if_ne (tgt := 127) C.1 C.2.1 dX6_order_120 (by decide) (fun c7 => ?_) (fun c7 => ?_)
      · have hp := if_n _ c7 hp
        refine lv_iconst (v := 0) C.1 C.2.1 dX6_order_127 (by decide) ?_
        refine lv_iadd C.1 C.2.1 dX6_order_128 ?_
        refine w_ist C (fun v => [(4, .int (v)), (0, .ref (K.1 + q4)), (2, .int v22), (3, .int v23), (5, .int v25)]) dX6_order_129 hl (by decide) (fun _ => rfl) hp (fun v27 ls hl hp => ?_)
        refine w_inc (k := 4) C (fun v => [(5, .int (v)), (4, .int v27), (0, .ref (K.1 + q4)), (2, .int v22), (3, .int v23)]) dX6_order_131 hl rfl (y := (v25 + 1)) rfl (by decide) (fun _ => rfl) hp (fun v28 ls hl hp => ?_)
        refine lv_goto (tgt := 101) C.1 C.2.1 dX6_order_134 (by decide) ?_
        exact ih _ _ _ _ _ _ _ _ _ X (lv_sub hl [2, 3, 4, 1, 0] rfl) hp
      · have hp := if_p _ c7 hp
        refine lv_iconst (v := 1) C.1 C.2.1 dX6_order_123 (by decide) ?_
        refine lv_goto (tgt := 128) C.1 C.2.1 dX6_order_124 (by decide) ?_
        refine lv_iadd C.1 C.2.1 dX6_order_128 ?_
        refine w_ist C (fun v => [(4, .int (v)), (0, .ref (K.1 + q4)), (2, .int v22), (3, .int v23), (5, .int v25)]) dX6_order_129 hl (by decide) (fun _ => rfl) hp (fun v29 ls hl hp => ?_)
        refine w_inc (k := 4) C (fun v => [(5, .int (v)), (4, .int v29), (0, .ref (K.1 + q4)), (2, .int v22), (3, .int v23)]) dX6_order_131 hl rfl (y := (v25 + 1)) rfl (by decide) (fun _ => rfl) hp (fun v30 ls hl hp => ?_)
        refine lv_goto (tgt := 101) C.1 C.2.1 dX6_order_134 (by decide) ?_
        exact ih _ _ _ _ _ _ _ _ _ X (lv_sub hl [2, 3, 4, 1, 0] rfl) hp

set_option maxHeartbeats 4000000 in
set_option maxRecDepth 100000 in
theorem ct_X6_order (l : Launch) (K : Kt) (p0 : Nat) (a1 : Int32) (h0 : Hp) {r : Int32} {h' : Hp} (hp : P_X6_order p0 a1 h0 = some (r, h')) : CT l K yX6_order cX6_order 6 (some FieldType.int) rmX6_order [.ref (K.1 + p0), .int a1] h0 (Qi K r h') := by
  refine ct_of (own := RX6) (by decide +kernel) rfl (Nat.le_of_ble_eq_true rfl) ?_
  intro p e s m args below meth c C X hr hlk hm ls hl
  have hl : lv_has ls 6 [(0, .ref (K.1 + p0)), (1, .int a1)] := hl
  unfold P_X6_order at hp
  refine lv_aload_n C.1 C.2.1 dX6_order_0 rfl (lv_at hl 0 rfl) ?_
  refine lv_iload_n C.1 C.2.1 dX6_order_1 rfl (lv_at hl 1 rfl) ?_
  have hrc := (rc_some hp).1
  have hp := (rc_some hp).2
  refine w_ci (cells' := 0) (slots' := 0) X (fun _ _ e => run_V (As := [.int a1]) (c0 := 6) C X mX6_isDoor miX6_isDoor lX6_115 (by decide) rfl hrc (ct_X6_isDoor l K p0 a1 h0 e) (by decide) (by decide) rfl (by decide) rfl hl.1 dX6_order_2) (by decide) hp (fun v1 h1 H locs X hp => ?_)
  refine lv_if_ne (tgt := 14) C.1 C.2.1 dX6_order_5 (by decide) (fun c1 => ?_) (fun c1 => ?_)
  · have hp := if_n _ c1 hp
    refine lv_iconst (v := 0) C.1 C.2.1 dX6_order_14 (by decide) ?_
    refine w_istn C (fun v => [(2, .int (v)), (0, .ref (K.1 + p0)), (1, .int a1)]) dX6_order_15 rfl hl (by decide) (fun _ => rfl) hp (fun v2 ls hl hp => ?_)
    refine lv_iconst (v := 0) C.1 C.2.1 dX6_order_16 (by decide) ?_
    refine w_istn C (fun v => [(3, .int (v)), (2, .int v2), (0, .ref (K.1 + p0)), (1, .int a1)]) dX6_order_17 rfl hl (by decide) (fun _ => rfl) hp (fun v3 ls hl hp => ?_)
    refine wl_X6_order_L18 C hr hlk _ _ _ _ _ _ _ _ _ _ X (lv_sub hl [2, 3, 1, 0] rfl) hp (fun v17 h6 H locs ls X hl hp => ?_)
    refine lv_aload_n C.1 C.2.1 dX6_order_65 rfl (lv_at hl 0 rfl) ?_
    refine w_gr C X fX6_13 rfl dX6_order_66 hp (fun q3 hp => ?_)
    refine lv_iconst (v := 4) C.1 C.2.1 dX6_order_69 (by decide) ?_
    refine lv_iload_n C.1 C.2.1 dX6_order_70 rfl (lv_at hl 1 rfl) ?_
    refine lv_iadd C.1 C.2.1 dX6_order_71 ?_
    refine lv_iconst (v := 1) C.1 C.2.1 dX6_order_72 (by decide) ?_
    refine lv_isub C.1 C.2.1 dX6_order_73 ?_
    refine w_al C X dX6_order_74 hp (fun v18 hp => ?_)
    refine w_istn C (fun v => [(3, .int (v)), (0, .ref (K.1 + p0)), (1, .int a1), (2, .int v17)]) dX6_order_75 rfl hl (by decide) (fun _ => rfl) hp (fun v19 ls hl hp => ?_)
    refine lv_iload_n C.1 C.2.1 dX6_order_76 rfl (lv_at hl 3 rfl) ?_
    refine lv_if_ne (tgt := 95) C.1 C.2.1 dX6_order_77 (by decide) (fun c5 => ?_) (fun c5 => ?_)
    · have hp := if_n _ c5 hp
      refine lv_iconst (v := 0) C.1 C.2.1 dX6_order_95 (by decide) ?_
      refine w_ist C (fun v => [(4, .int (v)), (3, .int v19), (0, .ref (K.1 + p0)), (1, .int a1), (2, .int v17)]) dX6_order_96 hl (by decide) (fun _ => rfl) hp (fun v20 ls hl hp => ?_)
      refine lv_iconst (v := 1) C.1 C.2.1 dX6_order_98 (by decide) ?_
      refine w_ist C (fun v => [(5, .int (v)), (4, .int v20), (3, .int v19), (0, .ref (K.1 + p0)), (1, .int a1), (2, .int v17)]) dX6_order_99 hl (by decide) (fun _ => rfl) hp (fun v21 ls hl hp => ?_)
      exact wl_X6_order_L101 C hr hlk _ _ _ _ _ _ _ _ _ _ X (lv_sub hl [3, 5, 2, 1, 0] rfl) hp
    · have hp := if_p _ c5 hp
      refine lv_iload_n C.1 C.2.1 dX6_order_80 rfl (lv_at hl 0 rfl) ?_
      refine lv_if_ne (tgt := 93) C.1 C.2.1 dX6_order_81 (by decide) (fun c8 => ?_) (fun c8 => ?_)
      · have hp := if_n _ c8 hp
        refine lv_iconst (v := 0) C.1 C.2.1 dX6_order_93 (by decide) ?_
        exact w_reti C X hr hlk (by decide) dX6_order_94 hp
      · have hp := if_p _ c8 hp
        refine lv_aload_n C.1 C.2.1 dX6_order_84 rfl (lv_at hl 1 rfl) ?_
        refine w_gr C X fX6_13 rfl dX6_order_85 hp (fun q6 hp => ?_)
        refine lv_iconst (v := 3) C.1 C.2.1 dX6_order_88 (by decide) ?_
        refine w_al C X dX6_order_89 hp (fun v31 hp => ?_)
        refine lv_goto (tgt := 94) C.1 C.2.1 dX6_order_90 (by decide) ?_
        exact w_reti C X hr hlk (by decide) dX6_order_94 hp
  · have hp := if_p _ c1 hp
    refine lv_aload_n C.1 C.2.1 dX6_order_8 rfl (lv_at hl 0 rfl) ?_
    refine lv_iconst (v := -1) C.1 C.2.1 dX6_order_9 (by decide) ?_
    have hrc := (rc_some hp).1
    have hp := (rc_some hp).2
    refine w_ci (cells' := 0) (slots' := 0) X (fun _ _ e => run_V (As := [.int (-1)]) (c0 := 6) C X mX6_refuse miX6_refuse lX6_52 (by decide) rfl hrc (ct_X6_refuse l K p0 (-1) h1 e) (by decide) (by decide) rfl (by decide) rfl hl.1 dX6_order_10) (by decide) hp (fun v32 h8 H locs X hp => ?_)
    exact w_reti C X hr hlk (by decide) dX6_order_13 hp

abbrev rmX6_fills : Room := { frames := 3, cells := 0, slots := 0, locals := 69 }
def P_X6_fills_L21 : Nat → Nat → Int32 → Int32 → Int32 → Hp → (Int32 → Hp → Option (Int32 × Hp)) → Option (Int32 × Hp)
  | 0, _, _, _, _, _, _ => none
  | n + 1, q1, v5, v6, v7, h2, kont =>
    if v5 ≤ v7 then (
    kont v6 h2)
    else (
    gr h2 q1 6 1 fun q2 =>
    al h2 q2 2 fun v8 =>
    lt ((v6 * v8) : Int32) fun v9 =>
    lt ((v7 + 1) : Int32) fun v10 =>
    P_X6_fills_L21 n q1 v5 v9 v10 h2 kont)

def P_X6_fills_L73 : Nat → Nat → Int32 → Int32 → Int32 → Int32 → Int32 → Int32 → Hp → (Hp → Option (Int32 × Hp)) → Option (Int32 × Hp)
  | 0, _, _, _, _, _, _, _, _, _ => none
  | n + 1, q4, v22, v23, v24, v25, v26, v27, h9, kont =>
    gr h9 q4 6 1 fun q5 =>
    al h9 q5 3 fun v28 =>
    if v28 ≤ v27 then (
    kont h9)
    else (
    rc h9 q4 6 <| ci (P_X6_logAt q4 v27 h9) fun v29 h10 =>
    lt (v29 : Int32) fun v30 =>
    if v30 = 9 then (
    gr h10 q4 6 1 fun q6 =>
    al h10 q6 2 fun v33 =>
    nz v33 <|
    lt ((jrem v26 v33) : Int32) fun v34 =>
    gr h10 q4 6 1 fun q7 =>
    al h10 q7 2 fun v35 =>
    nz v35 <|
    lt ((v26 / v35) : Int32) fun v36 =>
    rc h10 q4 6 <| ci (P_X6_goes q4 v34 h10) fun v37 h12 =>
    lt ((v27 + 1) : Int32) fun v38 =>
    P_X6_fills_L73 n q4 v22 v23 v24 v25 v36 v38 h12 kont)
    else (
    rc h10 q4 6 <| ci (P_X6_goes q4 v30 h10) fun v31 h11 =>
    lt ((v27 + 1) : Int32) fun v32 =>
    P_X6_fills_L73 n q4 v22 v23 v24 v25 v26 v32 h11 kont))

def P_X6_fills_L56 : Nat → Nat → Int32 → Int32 → Int32 → Int32 → Hp → Option (Int32 × Hp)
  | 0, _, _, _, _, _, _ => none
  | n + 1, q3, v16, v17, v18, v19, h6 =>
    if v16 ≤ v19 then (
    rc h6 q3 6 <| cv (P_X6_putsBack q3 h6) fun h7 =>
    some (v18, h7))
    else (
    rc h6 q3 6 <| cv (P_X6_zeroes q3 h6) fun h8 =>
    lt (v19 : Int32) fun v20 =>
    lt (0 : Int32) fun v21 =>
    P_X6_fills_L73 FU q3 v16 v17 v18 v19 v20 v21 h8 fun h13 =>
    rc h13 q3 6 <| ci (P_X6_stateNow q3 h13) fun v39 h14 =>
    if v39 = v17 then (
    lt ((v18 + 1) : Int32) fun v42 =>
    lt ((v19 + 1) : Int32) fun v43 =>
    P_X6_fills_L56 n q3 v16 v17 v42 v43 h14)
    else (
    lt ((v18 + 0) : Int32) fun v40 =>
    lt ((v19 + 1) : Int32) fun v41 =>
    P_X6_fills_L56 n q3 v16 v17 v40 v41 h14))

def P_X6_fills (p0 : Nat) (h0 : Hp) : Option (Int32 × Hp) :=
    rc h0 p0 6 <| ci (P_X6_unknown p0 h0) fun v1 h1 =>
    lt (v1 : Int32) fun v2 =>
    if v2 ≤ 3 then (
    lt (1 : Int32) fun v3 =>
    lt (0 : Int32) fun v4 =>
    P_X6_fills_L21 FU p0 v2 v3 v4 h1 fun v11 h3 =>
    rc h3 p0 6 <| ci (P_X6_stateNow p0 h3) fun v12 h4 =>
    lt (v12 : Int32) fun v13 =>
    lt (0 : Int32) fun v14 =>
    rc h4 p0 6 <| cv (P_X6_keeps p0 h4) fun h5 =>
    lt (0 : Int32) fun v15 =>
    P_X6_fills_L56 FU p0 v11 v13 v14 v15 h5)
    else (
    rc h1 p0 6 <| ci (P_X6_refuse p0 (-6) h1) fun v44 h15 =>
    some (v44, h15))

set_option maxHeartbeats 4000000 in
set_option maxRecDepth 100000 in
theorem wl_X6_fills_L21 (C : CX K p m c cX6_fills 9 s args RX6) (hr : meth.sig.returnType = (some FieldType.int)) (hlk : meth.locks = false) {r : Int32} {h' : Hp} : ∀ (n : Nat) (q1 : Nat) (v5 : Int32) (v6 : Int32) (v7 : Int32) (h2 : Hp) (kont : Int32 → Hp → Option (Int32 × Hp)) (H : Heap) (locs : List Loc) (ls : Array Slot), HX K s.heap H locs h2 → lv_has ls 9 [(0, .ref (K.1 + q1)), (1, .int v5), (2, .int v6), (3, .int v7)] → P_X6_fills_L21 n q1 v5 v6 v7 h2 kont = some (r, h') → (∀ (y0 : Int32) (hk : Hp) (H : Heap) (locs : List Loc) (ls : Array Slot), HX K s.heap H locs hk → lv_has ls 9 [(0, .ref (K.1 + q1)), (2, .int y0)] → kont y0 hk = some (r, h') → W p l e rmX6_fills s m args below meth c H locs 0 0 (MQ below (Qi K r h') args s rmX6_fills.cells rmX6_fills.slots (KA K)) (F0 m 41 ls [])) → W p l e rmX6_fills s m args below meth c H locs 0 0 (MQ below (Qi K r h') args s rmX6_fills.cells rmX6_fills.slots (KA K)) (F0 m 21 ls []) := by
  intro n
  induction n with
  | zero =>
    intro  q1 v5 v6 v7 h2 kont H locs ls X hl hp hk
    cases hp
  | succ n ih =>
    intro  q1 v5 v6 v7 h2 kont H locs ls X hl hp hk
    unfold P_X6_fills_L21 at hp
    refine lv_iload_n C.1 C.2.1 dX6_fills_21 rfl (lv_at hl 3 rfl) ?_
    refine lv_iload_n C.1 C.2.1 dX6_fills_22 rfl (lv_at hl 1 rfl) ?_
    refine lv_icmp_ge (tgt := 41) C.1 C.2.1 dX6_fills_23 (by decide) (fun c2 => ?_) (fun c2 => ?_)
    · have hp := if_p _ c2 hp
      exact hk _ _ _ _ _ X (lv_sub hl [0, 2] rfl) hp
    · have hp := if_n _ c2 hp
      refine lv_iload_n C.1 C.2.1 dX6_fills_26 rfl (lv_at hl 2 rfl) ?_
      refine lv_aload_n C.1 C.2.1 dX6_fills_27 rfl (lv_at hl 0 rfl) ?_
      refine w_gr C X fX6_13 rfl dX6_fills_28 hp (fun q2 hp => ?_)
      refine lv_iconst (v := 2) C.1 C.2.1 dX6_fills_31 (by decide) ?_
      refine w_al C X dX6_fills_32 hp (fun v8 hp => ?_)
      refine lv_imul C.1 C.2.1 dX6_fills_33 ?_
      refine w_istn C (fun v => [(2, .int (v)), (0, .ref (K.1 + q1)), (1, .int v5), (3, .int v7)]) dX6_fills_34 rfl hl (by decide) (fun _ => rfl) hp (fun v9 ls hl hp => ?_)
      refine w_inc (k := 3) C (fun v => [(3, .int (v)), (2, .int v9), (0, .ref (K.1 + q1)), (1, .int v5)]) dX6_fills_35 hl rfl (y := (v7 + 1)) rfl (by decide) (fun _ => rfl) hp (fun v10 ls hl hp => ?_)
      refine lv_goto (tgt := 21) C.1 C.2.1 dX6_fills_38 (by decide) ?_
      exact ih _ _ _ _ _ _ _ _ _ X (lv_sub hl [2, 3, 1, 0] rfl) hp hk

set_option maxHeartbeats 4000000 in
set_option maxRecDepth 100000 in
theorem wl_X6_fills_L73 (C : CX K p m c cX6_fills 9 s args RX6) (hr : meth.sig.returnType = (some FieldType.int)) (hlk : meth.locks = false) {r : Int32} {h' : Hp} : ∀ (n : Nat) (q4 : Nat) (v22 : Int32) (v23 : Int32) (v24 : Int32) (v25 : Int32) (v26 : Int32) (v27 : Int32) (h9 : Hp) (kont : Hp → Option (Int32 × Hp)) (H : Heap) (locs : List Loc) (ls : Array Slot), HX K s.heap H locs h9 → lv_has ls 9 [(0, .ref (K.1 + q4)), (2, .int v22), (3, .int v23), (4, .int v24), (5, .int v25), (6, .int v26), (7, .int v27)] → P_X6_fills_L73 n q4 v22 v23 v24 v25 v26 v27 h9 kont = some (r, h') → (∀  (hk : Hp) (H : Heap) (locs : List Loc) (ls : Array Slot), HX K s.heap H locs hk → lv_has ls 9 [(0, .ref (K.1 + q4)), (2, .int v22), (3, .int v23), (4, .int v24), (5, .int v25)] → kont  hk = some (r, h') → W p l e rmX6_fills s m args below meth c H locs 0 0 (MQ below (Qi K r h') args s rmX6_fills.cells rmX6_fills.slots (KA K)) (F0 m 134 ls [])) → W p l e rmX6_fills s m args below meth c H locs 0 0 (MQ below (Qi K r h') args s rmX6_fills.cells rmX6_fills.slots (KA K)) (F0 m 73 ls []) := by
  intro n
  induction n with
  | zero =>
    intro  q4 v22 v23 v24 v25 v26 v27 h9 kont H locs ls X hl hp hk
    cases hp
  | succ n ih =>
    intro  q4 v22 v23 v24 v25 v26 v27 h9 kont H locs ls X hl hp hk
    unfold P_X6_fills_L73 at hp
    refine lv_iload C.1 C.2.1 dX6_fills_73 (lv_at hl 6 rfl) ?_
    refine lv_aload_n C.1 C.2.1 dX6_fills_75 rfl (lv_at hl 0 rfl) ?_
    refine w_gr C X fX6_13 rfl dX6_fills_76 hp (fun q5 hp => ?_)
    refine lv_iconst (v := 3) C.1 C.2.1 dX6_fills_79 (by decide) ?_
    refine w_al C X dX6_fills_80 hp (fun v28 hp => ?_)
    refine lv_icmp_ge (tgt := 134) C.1 C.2.1 dX6_fills_81 (by decide) (fun c4 => ?_) (fun c4 => ?_)
    · have hp := if_p _ c4 hp
      exact hk _ _ _ _ X (lv_sub hl [0, 1, 2, 3, 4] rfl) hp
    · have hp := if_n _ c4 hp
      refine lv_aload_n C.1 C.2.1 dX6_fills_84 rfl (lv_at hl 0 rfl) ?_
      refine lv_iload C.1 C.2.1 dX6_fills_85 (lv_at hl 6 rfl) ?_
      have hrc := (rc_some hp).1
      have hp := (rc_some hp).2
      refine w_ci (cells' := 0) (slots' := 0) X (fun _ _ e => run_V (As := [.int v27]) (c0 := 6) C X mX6_logAt miX6_logAt lX6_208 (by decide) rfl hrc (ct_X6_logAt l K q4 v27 h9 e) (by decide) (by decide) rfl (by decide) rfl hl.1 dX6_fills_87) (by decide) hp (fun v29 h10 H locs X hp => ?_)
      refine w_ist C (fun v => [(8, .int (v)), (0, .ref (K.1 + q4)), (2, .int v22), (3, .int v23), (4, .int v24), (5, .int v25), (6, .int v26), (7, .int v27)]) dX6_fills_90 hl (by decide) (fun _ => rfl) hp (fun v30 ls hl hp => ?_)
      refine lv_iload C.1 C.2.1 dX6_fills_92 (lv_at hl 0 rfl) ?_
      refine lv_bipush (v := 9) C.1 C.2.1 dX6_fills_94 (by decide) ?_
      refine lv_icmp_ne (tgt := 121) C.1 C.2.1 dX6_fills_96 (by decide) (fun c5 => ?_) (fun c5 => ?_)
      · have hp := if_n _ c5 hp
        refine lv_aload_n C.1 C.2.1 dX6_fills_121 rfl (lv_at hl 1 rfl) ?_
        refine lv_iload C.1 C.2.1 dX6_fills_122 (lv_at hl 0 rfl) ?_
        have hrc := (rc_some hp).1
        have hp := (rc_some hp).2
        refine w_ci (cells' := 0) (slots' := 0) X (fun _ _ e => run_V (As := [.int v30]) (c0 := 6) C X mX6_goes miX6_goes lX6_128 (by decide) rfl hrc (ct_X6_goes l K q4 v30 h10 e) (by decide) (by decide) rfl (by decide) rfl hl.1 dX6_fills_124) (by decide) hp (fun v31 h11 H locs X hp => ?_)
        refine lv_pop C.1 C.2.1 dX6_fills_127 rfl ?_
        refine w_inc (k := 7) C (fun v => [(7, .int (v)), (8, .int v30), (0, .ref (K.1 + q4)), (2, .int v22), (3, .int v23), (4, .int v24), (5, .int v25), (6, .int v26)]) dX6_fills_128 hl rfl (y := (v27 + 1)) rfl (by decide) (fun _ => rfl) hp (fun v32 ls hl hp => ?_)
        refine lv_goto (tgt := 73) C.1 C.2.1 dX6_fills_131 (by decide) ?_
        exact ih _ _ _ _ _ _ _ _ _ _ _ _ X (lv_sub hl [2, 3, 4, 5, 6, 7, 0] rfl) hp hk
      · have hp := if_p _ c5 hp
        refine lv_iload C.1 C.2.1 dX6_fills_99 (lv_at hl 6 rfl) ?_
        refine lv_aload_n C.1 C.2.1 dX6_fills_101 rfl (lv_at hl 1 rfl) ?_
        refine w_gr C X fX6_13 rfl dX6_fills_102 hp (fun q6 hp => ?_)
        refine lv_iconst (v := 2) C.1 C.2.1 dX6_fills_105 (by decide) ?_
        refine w_al C X dX6_fills_106 hp (fun v33 hp => ?_)
        have hz := (nz_some hp).1
        have hp := (nz_some hp).2
        refine w_rem C dX6_fills_107 hz ?_
        refine w_ist C (fun v => [(8, .int (v)), (0, .ref (K.1 + q4)), (2, .int v22), (3, .int v23), (4, .int v24), (5, .int v25), (6, .int v26), (7, .int v27)]) dX6_fills_108 hl (by decide) (fun _ => rfl) hp (fun v34 ls hl hp => ?_)
        refine lv_iload C.1 C.2.1 dX6_fills_110 (lv_at hl 6 rfl) ?_
        refine lv_aload_n C.1 C.2.1 dX6_fills_112 rfl (lv_at hl 1 rfl) ?_
        refine w_gr C X fX6_13 rfl dX6_fills_113 hp (fun q7 hp => ?_)
        refine lv_iconst (v := 2) C.1 C.2.1 dX6_fills_116 (by decide) ?_
        refine w_al C X dX6_fills_117 hp (fun v35 hp => ?_)
        have hz := (nz_some hp).1
        have hp := (nz_some hp).2
        refine lv_idiv C.1 C.2.1 dX6_fills_118 hz ?_
        refine w_ist C (fun v => [(6, .int (v)), (8, .int v34), (0, .ref (K.1 + q4)), (2, .int v22), (3, .int v23), (4, .int v24), (5, .int v25), (7, .int v27)]) dX6_fills_119 hl (by decide) (fun _ => rfl) hp (fun v36 ls hl hp => ?_)
        refine lv_aload_n C.1 C.2.1 dX6_fills_121 rfl (lv_at hl 2 rfl) ?_
        refine lv_iload C.1 C.2.1 dX6_fills_122 (lv_at hl 1 rfl) ?_
        have hrc := (rc_some hp).1
        have hp := (rc_some hp).2
        refine w_ci (cells' := 0) (slots' := 0) X (fun _ _ e => run_V (As := [.int v34]) (c0 := 6) C X mX6_goes miX6_goes lX6_128 (by decide) rfl hrc (ct_X6_goes l K q4 v34 h10 e) (by decide) (by decide) rfl (by decide) rfl hl.1 dX6_fills_124) (by decide) hp (fun v37 h12 H locs X hp => ?_)
        refine lv_pop C.1 C.2.1 dX6_fills_127 rfl ?_
        refine w_inc (k := 7) C (fun v => [(7, .int (v)), (6, .int v36), (8, .int v34), (0, .ref (K.1 + q4)), (2, .int v22), (3, .int v23), (4, .int v24), (5, .int v25)]) dX6_fills_128 hl rfl (y := (v27 + 1)) rfl (by decide) (fun _ => rfl) hp (fun v38 ls hl hp => ?_)
        refine lv_goto (tgt := 73) C.1 C.2.1 dX6_fills_131 (by decide) ?_
        exact ih _ _ _ _ _ _ _ _ _ _ _ _ X (lv_sub hl [3, 4, 5, 6, 7, 1, 0] rfl) hp hk

set_option maxHeartbeats 4000000 in
set_option maxRecDepth 100000 in
theorem wl_X6_fills_L56 (C : CX K p m c cX6_fills 9 s args RX6) (hr : meth.sig.returnType = (some FieldType.int)) (hlk : meth.locks = false) {r : Int32} {h' : Hp} : ∀ (n : Nat) (q3 : Nat) (v16 : Int32) (v17 : Int32) (v18 : Int32) (v19 : Int32) (h6 : Hp) (H : Heap) (locs : List Loc) (ls : Array Slot), HX K s.heap H locs h6 → lv_has ls 9 [(0, .ref (K.1 + q3)), (2, .int v16), (3, .int v17), (4, .int v18), (5, .int v19)] → P_X6_fills_L56 n q3 v16 v17 v18 v19 h6 = some (r, h') → W p l e rmX6_fills s m args below meth c H locs 0 0 (MQ below (Qi K r h') args s rmX6_fills.cells rmX6_fills.slots (KA K)) (F0 m 56 ls []) := by
  intro n
  induction n with
  | zero =>
    intro  q3 v16 v17 v18 v19 h6 H locs ls X hl hp
    cases hp
  | succ n ih =>
    intro  q3 v16 v17 v18 v19 h6 H locs ls X hl hp
    unfold P_X6_fills_L56 at hp
    refine lv_iload C.1 C.2.1 dX6_fills_56 (lv_at hl 4 rfl) ?_
    refine lv_iload_n C.1 C.2.1 dX6_fills_58 rfl (lv_at hl 1 rfl) ?_
    refine lv_icmp_ge (tgt := 158) C.1 C.2.1 dX6_fills_59 (by decide) (fun c3 => ?_) (fun c3 => ?_)
    · have hp := if_p _ c3 hp
      refine lv_aload_n C.1 C.2.1 dX6_fills_158 rfl (lv_at hl 0 rfl) ?_
      have hrc := (rc_some hp).1
      have hp := (rc_some hp).2
      refine w_cv (cells' := 0) (slots' := 0) X (fun _ e => run_V (As := []) (c0 := 6) C X mX6_putsBack miX6_putsBack lX6_153 (by decide) rfl hrc (ct_X6_putsBack l K q3 h6 e) (by decide) (by decide) rfl (by decide) rfl hl.1 dX6_fills_159) (by decide) hp (fun h7 H locs X hp => ?_)
      refine lv_iload C.1 C.2.1 dX6_fills_162 (lv_at hl 3 rfl) ?_
      exact w_reti C X hr hlk (by decide) dX6_fills_164 hp
    · have hp := if_n _ c3 hp
      refine lv_aload_n C.1 C.2.1 dX6_fills_62 rfl (lv_at hl 0 rfl) ?_
      have hrc := (rc_some hp).1
      have hp := (rc_some hp).2
      refine w_cv (cells' := 0) (slots' := 0) X (fun _ e => run_V (As := []) (c0 := 6) C X mX6_zeroes miX6_zeroes lX6_174 (by decide) rfl hrc (ct_X6_zeroes l K q3 h6 e) (by decide) (by decide) rfl (by decide) rfl hl.1 dX6_fills_63) (by decide) hp (fun h8 H locs X hp => ?_)
      refine lv_iload C.1 C.2.1 dX6_fills_66 (lv_at hl 4 rfl) ?_
      refine w_ist C (fun v => [(6, .int (v)), (0, .ref (K.1 + q3)), (2, .int v16), (3, .int v17), (4, .int v18), (5, .int v19)]) dX6_fills_68 hl (by decide) (fun _ => rfl) hp (fun v20 ls hl hp => ?_)
      refine lv_iconst (v := 0) C.1 C.2.1 dX6_fills_70 (by decide) ?_
      refine w_ist C (fun v => [(7, .int (v)), (6, .int v20), (0, .ref (K.1 + q3)), (2, .int v16), (3, .int v17), (4, .int v18), (5, .int v19)]) dX6_fills_71 hl (by decide) (fun _ => rfl) hp (fun v21 ls hl hp => ?_)
      refine wl_X6_fills_L73 C hr hlk _ _ _ _ _ _ _ _ _ _ _ _ _ X (lv_sub hl [2, 3, 4, 5, 6, 1, 0] rfl) hp (fun h13 H locs ls X hl hp => ?_)
      refine lv_iload C.1 C.2.1 dX6_fills_134 (lv_at hl 3 rfl) ?_
      refine lv_aload_n C.1 C.2.1 dX6_fills_136 rfl (lv_at hl 0 rfl) ?_
      have hrc := (rc_some hp).1
      have hp := (rc_some hp).2
      refine w_ci (cells' := 0) (slots' := 0) X (fun _ _ e => run_V (As := []) (c0 := 6) C X mX6_stateNow miX6_stateNow lX6_131 (by decide) rfl hrc (ct_X6_stateNow l K q3 h13 e) (by decide) (by decide) rfl (Nat.le_of_ble_eq_true rfl) rfl hl.1 dX6_fills_137) (by decide) hp (fun v39 h14 H locs X hp => ?_)
      refine lv_iload_n C.1 C.2.1 dX6_fills_140 rfl (lv_at hl 2 rfl) ?_
      refine lv_icmp_ne (tgt := 148) C.1 C.2.1 dX6_fills_141 (by decide) (fun c6 => ?_) (fun c6 => ?_)
      · have hp := if_n _ c6 hp
        refine lv_iconst (v := 0) C.1 C.2.1 dX6_fills_148 (by decide) ?_
        refine lv_iadd C.1 C.2.1 dX6_fills_149 ?_
        refine w_ist C (fun v => [(4, .int (v)), (0, .ref (K.1 + q3)), (2, .int v16), (3, .int v17), (5, .int v19)]) dX6_fills_150 hl (by decide) (fun _ => rfl) hp (fun v40 ls hl hp => ?_)
        refine w_inc (k := 4) C (fun v => [(5, .int (v)), (4, .int v40), (0, .ref (K.1 + q3)), (2, .int v16), (3, .int v17)]) dX6_fills_152 hl rfl (y := (v19 + 1)) rfl (by decide) (fun _ => rfl) hp (fun v41 ls hl hp => ?_)
        refine lv_goto (tgt := 56) C.1 C.2.1 dX6_fills_155 (by decide) ?_
        exact ih _ _ _ _ _ _ _ _ _ X (lv_sub hl [2, 3, 4, 1, 0] rfl) hp
      · have hp := if_p _ c6 hp
        refine lv_iconst (v := 1) C.1 C.2.1 dX6_fills_144 (by decide) ?_
        refine lv_goto (tgt := 149) C.1 C.2.1 dX6_fills_145 (by decide) ?_
        refine lv_iadd C.1 C.2.1 dX6_fills_149 ?_
        refine w_ist C (fun v => [(4, .int (v)), (0, .ref (K.1 + q3)), (2, .int v16), (3, .int v17), (5, .int v19)]) dX6_fills_150 hl (by decide) (fun _ => rfl) hp (fun v42 ls hl hp => ?_)
        refine w_inc (k := 4) C (fun v => [(5, .int (v)), (4, .int v42), (0, .ref (K.1 + q3)), (2, .int v16), (3, .int v17)]) dX6_fills_152 hl rfl (y := (v19 + 1)) rfl (by decide) (fun _ => rfl) hp (fun v43 ls hl hp => ?_)
        refine lv_goto (tgt := 56) C.1 C.2.1 dX6_fills_155 (by decide) ?_
        exact ih _ _ _ _ _ _ _ _ _ X (lv_sub hl [2, 3, 4, 1, 0] rfl) hp

set_option maxHeartbeats 4000000 in
set_option maxRecDepth 100000 in
theorem ct_X6_fills (l : Launch) (K : Kt) (p0 : Nat) (h0 : Hp) {r : Int32} {h' : Hp} (hp : P_X6_fills p0 h0 = some (r, h')) : CT l K yX6_fills cX6_fills 9 (some FieldType.int) rmX6_fills [.ref (K.1 + p0)] h0 (Qi K r h') := by
  refine ct_of (own := RX6) (by decide +kernel) rfl (Nat.le_of_ble_eq_true rfl) ?_
  intro p e s m args below meth c C X hr hlk hm ls hl
  have hl : lv_has ls 9 [(0, .ref (K.1 + p0))] := hl
  unfold P_X6_fills at hp
  refine lv_aload_n C.1 C.2.1 dX6_fills_0 rfl (lv_at hl 0 rfl) ?_
  have hrc := (rc_some hp).1
  have hp := (rc_some hp).2
  refine w_ci (cells' := 0) (slots' := 0) X (fun _ _ e => run_V (As := []) (c0 := 6) C X mX6_unknown miX6_unknown lX6_211 (by decide) rfl hrc (ct_X6_unknown l K p0 h0 e) (by decide) (by decide) rfl (by decide) rfl hl.1 dX6_fills_1) (by decide) hp (fun v1 h1 H locs X hp => ?_)
  refine w_istn C (fun v => [(1, .int (v)), (0, .ref (K.1 + p0))]) dX6_fills_4 rfl hl (by decide) (fun _ => rfl) hp (fun v2 ls hl hp => ?_)
  refine lv_iload_n C.1 C.2.1 dX6_fills_5 rfl (lv_at hl 0 rfl) ?_
  refine lv_iconst (v := 3) C.1 C.2.1 dX6_fills_6 (by decide) ?_
  refine lv_icmp_le (tgt := 17) C.1 C.2.1 dX6_fills_7 (by decide) (fun c1 => ?_) (fun c1 => ?_)
  · have hp := if_p _ c1 hp
    refine lv_iconst (v := 1) C.1 C.2.1 dX6_fills_17 (by decide) ?_
    refine w_istn C (fun v => [(2, .int (v)), (1, .int v2), (0, .ref (K.1 + p0))]) dX6_fills_18 rfl hl (by decide) (fun _ => rfl) hp (fun v3 ls hl hp => ?_)
    refine lv_iconst (v := 0) C.1 C.2.1 dX6_fills_19 (by decide) ?_
    refine w_istn C (fun v => [(3, .int (v)), (2, .int v3), (1, .int v2), (0, .ref (K.1 + p0))]) dX6_fills_20 rfl hl (by decide) (fun _ => rfl) hp (fun v4 ls hl hp => ?_)
    refine wl_X6_fills_L21 C hr hlk _ _ _ _ _ _ _ _ _ _ X (lv_sub hl [3, 2, 1, 0] rfl) hp (fun v11 h3 H locs ls X hl hp => ?_)
    refine lv_aload_n C.1 C.2.1 dX6_fills_41 rfl (lv_at hl 0 rfl) ?_
    have hrc := (rc_some hp).1
    have hp := (rc_some hp).2
    refine w_ci (cells' := 0) (slots' := 0) X (fun _ _ e => run_V (As := []) (c0 := 6) C X mX6_stateNow miX6_stateNow lX6_131 (by decide) rfl hrc (ct_X6_stateNow l K p0 h3 e) (by decide) (by decide) rfl (by decide) rfl hl.1 dX6_fills_42) (by decide) hp (fun v12 h4 H locs X hp => ?_)
    refine w_istn C (fun v => [(3, .int (v)), (0, .ref (K.1 + p0)), (2, .int v11)]) dX6_fills_45 rfl hl (by decide) (fun _ => rfl) hp (fun v13 ls hl hp => ?_)
    refine lv_iconst (v := 0) C.1 C.2.1 dX6_fills_46 (by decide) ?_
    refine w_ist C (fun v => [(4, .int (v)), (3, .int v13), (0, .ref (K.1 + p0)), (2, .int v11)]) dX6_fills_47 hl (by decide) (fun _ => rfl) hp (fun v14 ls hl hp => ?_)
    refine lv_aload_n C.1 C.2.1 dX6_fills_49 rfl (lv_at hl 2 rfl) ?_
    have hrc := (rc_some hp).1
    have hp := (rc_some hp).2
    refine w_cv (cells' := 0) (slots' := 0) X (fun _ e => run_V (As := []) (c0 := 6) C X mX6_keeps miX6_keeps lX6_147 (by decide) rfl hrc (ct_X6_keeps l K p0 h4 e) (by decide) (by decide) rfl (by decide) rfl hl.1 dX6_fills_50) (by decide) hp (fun h5 H locs X hp => ?_)
    refine lv_iconst (v := 0) C.1 C.2.1 dX6_fills_53 (by decide) ?_
    refine w_ist C (fun v => [(5, .int (v)), (4, .int v14), (3, .int v13), (0, .ref (K.1 + p0)), (2, .int v11)]) dX6_fills_54 hl (by decide) (fun _ => rfl) hp (fun v15 ls hl hp => ?_)
    exact wl_X6_fills_L56 C hr hlk _ _ _ _ _ _ _ _ _ _ X (lv_sub hl [3, 4, 2, 1, 0] rfl) hp
  · have hp := if_n _ c1 hp
    refine lv_aload_n C.1 C.2.1 dX6_fills_10 rfl (lv_at hl 1 rfl) ?_
    refine lv_bipush (v := -6) C.1 C.2.1 dX6_fills_11 (by decide) ?_
    have hrc := (rc_some hp).1
    have hp := (rc_some hp).2
    refine w_ci (cells' := 0) (slots' := 0) X (fun _ _ e => run_V (As := [.int (-6)]) (c0 := 6) C X mX6_refuse miX6_refuse lX6_52 (by decide) rfl hrc (ct_X6_refuse l K p0 (-6) h1 e) (by decide) (by decide) rfl (by decide) rfl hl.1 dX6_fills_13) (by decide) hp (fun v44 h15 H locs X hp => ?_)
    exact w_reti C X hr hlk (by decide) dX6_fills_16 hp

abbrev rmX6_run : Room := { frames := 2, cells := 0, slots := 0, locals := 46 }
def P_X6_run_L50 : Nat → Nat → Int32 → Int32 → Int32 → Hp → Option (Int32 × Hp)
  | 0, _, _, _, _, _ => none
  | n + 1, q2, v7, v8, v9, h3 =>
    gr h3 q2 6 1 fun q3 =>
    al h3 q3 3 fun v10 =>
    if v10 ≤ v9 then (
    gr h3 q2 6 1 fun q4 =>
    al h3 q4 1 fun v11 =>
    nz v11 <|
    some ((jrem v8 v11), h3))
    else (
    rc h3 q2 6 <| ci (P_X6_logAt q2 v9 h3) fun v12 h4 =>
    rc h4 q2 6 <| ci (P_X6_turns q2 v12 v7 h4) fun v13 h5 =>
    if v13 = 0 then (
    lt ((v8 + 0) : Int32) fun v14 =>
    lt ((v9 + 1) : Int32) fun v15 =>
    P_X6_run_L50 n q2 v7 v14 v15 h5)
    else (
    lt ((v8 + 1) : Int32) fun v16 =>
    lt ((v9 + 1) : Int32) fun v17 =>
    P_X6_run_L50 n q2 v7 v16 v17 h5))

def P_X6_run (p0 : Nat) (a1 : Int32) (h0 : Hp) : Option (Int32 × Hp) :=
    rc h0 p0 6 <| ci (P_X6_isDoor p0 a1 h0) fun v1 h1 =>
    if v1 = 0 then (
    lt ((-1) : Int32) fun v24 =>
    if v24 = 0 then (
    gr h1 p0 6 1 fun q6 =>
    al h1 q6 ((4 + a1) - 1) fun v25 =>
    lt (v25 : Int32) fun v26 =>
    lt (0 : Int32) fun v27 =>
    P_X6_run_L50 FU p0 a1 v26 v27 h1)
    else (
    rc h1 p0 6 <| ci (P_X6_refuse p0 v24 h1) fun v28 h8 =>
    some (v28, h8)))
    else (
    rc h1 p0 6 <| ci (P_X6_unknown p0 h1) fun v2 h2 =>
    if v2 ≤ 0 then (
    lt (0 : Int32) fun v3 =>
    if v3 = 0 then (
    gr h2 p0 6 1 fun q1 =>
    al h2 q1 ((4 + a1) - 1) fun v4 =>
    lt (v4 : Int32) fun v5 =>
    lt (0 : Int32) fun v6 =>
    P_X6_run_L50 FU p0 a1 v5 v6 h2)
    else (
    rc h2 p0 6 <| ci (P_X6_refuse p0 v3 h2) fun v18 h6 =>
    some (v18, h6)))
    else (
    lt ((-3) : Int32) fun v19 =>
    if v19 = 0 then (
    gr h2 p0 6 1 fun q5 =>
    al h2 q5 ((4 + a1) - 1) fun v20 =>
    lt (v20 : Int32) fun v21 =>
    lt (0 : Int32) fun v22 =>
    P_X6_run_L50 FU p0 a1 v21 v22 h2)
    else (
    rc h2 p0 6 <| ci (P_X6_refuse p0 v19 h2) fun v23 h7 =>
    some (v23, h7))))

set_option maxHeartbeats 4000000 in
set_option maxRecDepth 100000 in
theorem wl_X6_run_L50 (C : CX K p m c cX6_run 5 s args RX6) (hr : meth.sig.returnType = (some FieldType.int)) (hlk : meth.locks = false) {r : Int32} {h' : Hp} : ∀ (n : Nat) (q2 : Nat) (v7 : Int32) (v8 : Int32) (v9 : Int32) (h3 : Hp) (H : Heap) (locs : List Loc) (ls : Array Slot), HX K s.heap H locs h3 → lv_has ls 5 [(0, .ref (K.1 + q2)), (1, .int v7), (3, .int v8), (4, .int v9)] → P_X6_run_L50 n q2 v7 v8 v9 h3 = some (r, h') → W p l e rmX6_run s m args below meth c H locs 0 0 (MQ below (Qi K r h') args s rmX6_run.cells rmX6_run.slots (KA K)) (F0 m 50 ls []) := by
  intro n
  induction n with
  | zero =>
    intro  q2 v7 v8 v9 h3 H locs ls X hl hp
    cases hp
  | succ n ih =>
    intro  q2 v7 v8 v9 h3 H locs ls X hl hp
    unfold P_X6_run_L50 at hp
    refine lv_iload C.1 C.2.1 dX6_run_50 (lv_at hl 3 rfl) ?_
    refine lv_aload_n C.1 C.2.1 dX6_run_52 rfl (lv_at hl 0 rfl) ?_
    refine w_gr C X fX6_13 rfl dX6_run_53 hp (fun q3 hp => ?_)
    refine lv_iconst (v := 3) C.1 C.2.1 dX6_run_56 (by decide) ?_
    refine w_al C X dX6_run_57 hp (fun v10 hp => ?_)
    refine lv_icmp_ge (tgt := 89) C.1 C.2.1 dX6_run_58 (by decide) (fun c4 => ?_) (fun c4 => ?_)
    · have hp := if_p _ c4 hp
      refine lv_iload_n C.1 C.2.1 dX6_run_89 rfl (lv_at hl 2 rfl) ?_
      refine lv_aload_n C.1 C.2.1 dX6_run_90 rfl (lv_at hl 0 rfl) ?_
      refine w_gr C X fX6_13 rfl dX6_run_91 hp (fun q4 hp => ?_)
      refine lv_iconst (v := 1) C.1 C.2.1 dX6_run_94 (by decide) ?_
      refine w_al C X dX6_run_95 hp (fun v11 hp => ?_)
      have hz := (nz_some hp).1
      have hp := (nz_some hp).2
      refine w_rem C dX6_run_96 hz ?_
      exact w_reti C X hr hlk (by decide) dX6_run_97 hp
    · have hp := if_n _ c4 hp
      refine lv_iload_n C.1 C.2.1 dX6_run_61 rfl (lv_at hl 2 rfl) ?_
      refine lv_aload_n C.1 C.2.1 dX6_run_62 rfl (lv_at hl 0 rfl) ?_
      refine lv_aload_n C.1 C.2.1 dX6_run_63 rfl (lv_at hl 0 rfl) ?_
      refine lv_iload C.1 C.2.1 dX6_run_64 (lv_at hl 3 rfl) ?_
      have hrc := (rc_some hp).1
      have hp := (rc_some hp).2
      refine w_ci (cells' := 0) (slots' := 0) X (fun _ _ e => run_V (As := [.int v9]) (c0 := 6) C X mX6_logAt miX6_logAt lX6_208 (by decide) rfl hrc (ct_X6_logAt l K q2 v9 h3 e) (by decide) (by decide) rfl (Nat.le_of_ble_eq_true rfl) rfl hl.1 dX6_run_66) (by decide) hp (fun v12 h4 H locs X hp => ?_)
      refine lv_iload_n C.1 C.2.1 dX6_run_69 rfl (lv_at hl 1 rfl) ?_
      have hrc := (rc_some hp).1
      have hp := (rc_some hp).2
      refine w_ci (cells' := 0) (slots' := 0) X (fun _ _ e => run_V (As := [.int v12, .int v7]) (c0 := 6) C X mX6_turns miX6_turns lX6_112 (by decide) rfl hrc (ct_X6_turns l K q2 v12 v7 h4 e) (by decide) (by decide) rfl (Nat.le_of_ble_eq_true rfl) rfl hl.1 dX6_run_70) (by decide) hp (fun v13 h5 H locs X hp => ?_)
      refine lv_if_eq (tgt := 80) C.1 C.2.1 dX6_run_73 (by decide) (fun c5 => ?_) (fun c5 => ?_)
      · have hp := if_p _ c5 hp
        refine lv_iconst (v := 0) C.1 C.2.1 dX6_run_80 (by decide) ?_
        refine lv_iadd C.1 C.2.1 dX6_run_81 ?_
        refine w_istn C (fun v => [(3, .int (v)), (0, .ref (K.1 + q2)), (1, .int v7), (4, .int v9)]) dX6_run_82 rfl hl (by decide) (fun _ => rfl) hp (fun v14 ls hl hp => ?_)
        refine w_inc (k := 3) C (fun v => [(4, .int (v)), (3, .int v14), (0, .ref (K.1 + q2)), (1, .int v7)]) dX6_run_83 hl rfl (y := (v9 + 1)) rfl (by decide) (fun _ => rfl) hp (fun v15 ls hl hp => ?_)
        refine lv_goto (tgt := 50) C.1 C.2.1 dX6_run_86 (by decide) ?_
        exact ih _ _ _ _ _ _ _ _ X (lv_sub hl [2, 3, 1, 0] rfl) hp
      · have hp := if_n _ c5 hp
        refine lv_iconst (v := 1) C.1 C.2.1 dX6_run_76 (by decide) ?_
        refine lv_goto (tgt := 81) C.1 C.2.1 dX6_run_77 (by decide) ?_
        refine lv_iadd C.1 C.2.1 dX6_run_81 ?_
        refine w_istn C (fun v => [(3, .int (v)), (0, .ref (K.1 + q2)), (1, .int v7), (4, .int v9)]) dX6_run_82 rfl hl (by decide) (fun _ => rfl) hp (fun v16 ls hl hp => ?_)
        refine w_inc (k := 3) C (fun v => [(4, .int (v)), (3, .int v16), (0, .ref (K.1 + q2)), (1, .int v7)]) dX6_run_83 hl rfl (y := (v9 + 1)) rfl (by decide) (fun _ => rfl) hp (fun v17 ls hl hp => ?_)
        refine lv_goto (tgt := 50) C.1 C.2.1 dX6_run_86 (by decide) ?_
        exact ih _ _ _ _ _ _ _ _ X (lv_sub hl [2, 3, 1, 0] rfl) hp

set_option maxHeartbeats 4000000 in
set_option maxRecDepth 100000 in
theorem ct_X6_run (l : Launch) (K : Kt) (p0 : Nat) (a1 : Int32) (h0 : Hp) {r : Int32} {h' : Hp} (hp : P_X6_run p0 a1 h0 = some (r, h')) : CT l K yX6_run cX6_run 5 (some FieldType.int) rmX6_run [.ref (K.1 + p0), .int a1] h0 (Qi K r h') := by
  refine ct_of (own := RX6) (by decide +kernel) rfl (Nat.le_of_ble_eq_true rfl) ?_
  intro p e s m args below meth c C X hr hlk hm ls hl
  have hl : lv_has ls 5 [(0, .ref (K.1 + p0)), (1, .int a1)] := hl
  unfold P_X6_run at hp
  refine lv_aload_n C.1 C.2.1 dX6_run_0 rfl (lv_at hl 0 rfl) ?_
  refine lv_iload_n C.1 C.2.1 dX6_run_1 rfl (lv_at hl 1 rfl) ?_
  have hrc := (rc_some hp).1
  have hp := (rc_some hp).2
  refine w_ci (cells' := 0) (slots' := 0) X (fun _ _ e => run_V (As := [.int a1]) (c0 := 6) C X mX6_isDoor miX6_isDoor lX6_115 (by decide) rfl hrc (ct_X6_isDoor l K p0 a1 h0 e) (by decide) (by decide) rfl (by decide) rfl hl.1 dX6_run_2) (by decide) hp (fun v1 h1 H locs X hp => ?_)
  refine lv_if_ne (tgt := 12) C.1 C.2.1 dX6_run_5 (by decide) (fun c1 => ?_) (fun c1 => ?_)
  · have hp := if_n _ c1 hp
    refine lv_aload_n C.1 C.2.1 dX6_run_12 rfl (lv_at hl 0 rfl) ?_
    have hrc := (rc_some hp).1
    have hp := (rc_some hp).2
    refine w_ci (cells' := 0) (slots' := 0) X (fun _ _ e => run_V (As := []) (c0 := 6) C X mX6_unknown miX6_unknown lX6_211 (by decide) rfl hrc (ct_X6_unknown l K p0 h1 e) (by decide) (by decide) rfl (by decide) rfl hl.1 dX6_run_13) (by decide) hp (fun v2 h2 H locs X hp => ?_)
    refine lv_if_le (tgt := 24) C.1 C.2.1 dX6_run_16 (by decide) (fun c2 => ?_) (fun c2 => ?_)
    · have hp := if_p _ c2 hp
      refine lv_iconst (v := 0) C.1 C.2.1 dX6_run_24 (by decide) ?_
      refine w_istn C (fun v => [(2, .int (v)), (0, .ref (K.1 + p0)), (1, .int a1)]) dX6_run_25 rfl hl (by decide) (fun _ => rfl) hp (fun v3 ls hl hp => ?_)
      refine lv_iload_n C.1 C.2.1 dX6_run_26 rfl (lv_at hl 0 rfl) ?_
      refine lv_if_eq (tgt := 36) C.1 C.2.1 dX6_run_27 (by decide) (fun c3 => ?_) (fun c3 => ?_)
      · have hp := if_p _ c3 hp
        refine lv_aload_n C.1 C.2.1 dX6_run_36 rfl (lv_at hl 1 rfl) ?_
        refine w_gr C X fX6_13 rfl dX6_run_37 hp (fun q1 hp => ?_)
        refine lv_iconst (v := 4) C.1 C.2.1 dX6_run_40 (by decide) ?_
        refine lv_iload_n C.1 C.2.1 dX6_run_41 rfl (lv_at hl 2 rfl) ?_
        refine lv_iadd C.1 C.2.1 dX6_run_42 ?_
        refine lv_iconst (v := 1) C.1 C.2.1 dX6_run_43 (by decide) ?_
        refine lv_isub C.1 C.2.1 dX6_run_44 ?_
        refine w_al C X dX6_run_45 hp (fun v4 hp => ?_)
        refine w_istn C (fun v => [(3, .int (v)), (2, .int v3), (0, .ref (K.1 + p0)), (1, .int a1)]) dX6_run_46 rfl hl (by decide) (fun _ => rfl) hp (fun v5 ls hl hp => ?_)
        refine lv_iconst (v := 0) C.1 C.2.1 dX6_run_47 (by decide) ?_
        refine w_ist C (fun v => [(4, .int (v)), (3, .int v5), (2, .int v3), (0, .ref (K.1 + p0)), (1, .int a1)]) dX6_run_48 hl (by decide) (fun _ => rfl) hp (fun v6 ls hl hp => ?_)
        exact wl_X6_run_L50 C hr hlk _ _ _ _ _ _ _ _ _ X (lv_sub hl [3, 4, 1, 0] rfl) hp
      · have hp := if_n _ c3 hp
        refine lv_aload_n C.1 C.2.1 dX6_run_30 rfl (lv_at hl 1 rfl) ?_
        refine lv_iload_n C.1 C.2.1 dX6_run_31 rfl (lv_at hl 0 rfl) ?_
        have hrc := (rc_some hp).1
        have hp := (rc_some hp).2
        refine w_ci (cells' := 0) (slots' := 0) X (fun _ _ e => run_V (As := [.int v3]) (c0 := 6) C X mX6_refuse miX6_refuse lX6_52 (by decide) rfl hrc (ct_X6_refuse l K p0 v3 h2 e) (by decide) (by decide) rfl (by decide) rfl hl.1 dX6_run_32) (by decide) hp (fun v18 h6 H locs X hp => ?_)
        exact w_reti C X hr hlk (by decide) dX6_run_35 hp
    · have hp := if_n _ c2 hp
      refine lv_bipush (v := -3) C.1 C.2.1 dX6_run_19 (by decide) ?_
      refine lv_goto (tgt := 25) C.1 C.2.1 dX6_run_21 (by decide) ?_
      refine w_istn C (fun v => [(2, .int (v)), (0, .ref (K.1 + p0)), (1, .int a1)]) dX6_run_25 rfl hl (by decide) (fun _ => rfl) hp (fun v19 ls hl hp => ?_)
      refine lv_iload_n C.1 C.2.1 dX6_run_26 rfl (lv_at hl 0 rfl) ?_
      refine lv_if_eq (tgt := 36) C.1 C.2.1 dX6_run_27 (by decide) (fun c6 => ?_) (fun c6 => ?_)
      · have hp := if_p _ c6 hp
        refine lv_aload_n C.1 C.2.1 dX6_run_36 rfl (lv_at hl 1 rfl) ?_
        refine w_gr C X fX6_13 rfl dX6_run_37 hp (fun q5 hp => ?_)
        refine lv_iconst (v := 4) C.1 C.2.1 dX6_run_40 (by decide) ?_
        refine lv_iload_n C.1 C.2.1 dX6_run_41 rfl (lv_at hl 2 rfl) ?_
        refine lv_iadd C.1 C.2.1 dX6_run_42 ?_
        refine lv_iconst (v := 1) C.1 C.2.1 dX6_run_43 (by decide) ?_
        refine lv_isub C.1 C.2.1 dX6_run_44 ?_
        refine w_al C X dX6_run_45 hp (fun v20 hp => ?_)
        refine w_istn C (fun v => [(3, .int (v)), (2, .int v19), (0, .ref (K.1 + p0)), (1, .int a1)]) dX6_run_46 rfl hl (by decide) (fun _ => rfl) hp (fun v21 ls hl hp => ?_)
        refine lv_iconst (v := 0) C.1 C.2.1 dX6_run_47 (by decide) ?_
        refine w_ist C (fun v => [(4, .int (v)), (3, .int v21), (2, .int v19), (0, .ref (K.1 + p0)), (1, .int a1)]) dX6_run_48 hl (by decide) (fun _ => rfl) hp (fun v22 ls hl hp => ?_)
        exact wl_X6_run_L50 C hr hlk _ _ _ _ _ _ _ _ _ X (lv_sub hl [3, 4, 1, 0] rfl) hp
      · have hp := if_n _ c6 hp
        refine lv_aload_n C.1 C.2.1 dX6_run_30 rfl (lv_at hl 1 rfl) ?_
        refine lv_iload_n C.1 C.2.1 dX6_run_31 rfl (lv_at hl 0 rfl) ?_
        have hrc := (rc_some hp).1
        have hp := (rc_some hp).2
        refine w_ci (cells' := 0) (slots' := 0) X (fun _ _ e => run_V (As := [.int v19]) (c0 := 6) C X mX6_refuse miX6_refuse lX6_52 (by decide) rfl hrc (ct_X6_refuse l K p0 v19 h2 e) (by decide) (by decide) rfl (by decide) rfl hl.1 dX6_run_32) (by decide) hp (fun v23 h7 H locs X hp => ?_)
        exact w_reti C X hr hlk (by decide) dX6_run_35 hp
  · have hp := if_p _ c1 hp
    refine lv_iconst (v := -1) C.1 C.2.1 dX6_run_8 (by decide) ?_
    refine lv_goto (tgt := 25) C.1 C.2.1 dX6_run_9 (by decide) ?_
    refine w_istn C (fun v => [(2, .int (v)), (0, .ref (K.1 + p0)), (1, .int a1)]) dX6_run_25 rfl hl (by decide) (fun _ => rfl) hp (fun v24 ls hl hp => ?_)
    refine lv_iload_n C.1 C.2.1 dX6_run_26 rfl (lv_at hl 0 rfl) ?_
    refine lv_if_eq (tgt := 36) C.1 C.2.1 dX6_run_27 (by decide) (fun c7 => ?_) (fun c7 => ?_)
    · have hp := if_p _ c7 hp
      refine lv_aload_n C.1 C.2.1 dX6_run_36 rfl (lv_at hl 1 rfl) ?_
      refine w_gr C X fX6_13 rfl dX6_run_37 hp (fun q6 hp => ?_)
      refine lv_iconst (v := 4) C.1 C.2.1 dX6_run_40 (by decide) ?_
      refine lv_iload_n C.1 C.2.1 dX6_run_41 rfl (lv_at hl 2 rfl) ?_
      refine lv_iadd C.1 C.2.1 dX6_run_42 ?_
      refine lv_iconst (v := 1) C.1 C.2.1 dX6_run_43 (by decide) ?_
      refine lv_isub C.1 C.2.1 dX6_run_44 ?_
      refine w_al C X dX6_run_45 hp (fun v25 hp => ?_)
      refine w_istn C (fun v => [(3, .int (v)), (2, .int v24), (0, .ref (K.1 + p0)), (1, .int a1)]) dX6_run_46 rfl hl (by decide) (fun _ => rfl) hp (fun v26 ls hl hp => ?_)
      refine lv_iconst (v := 0) C.1 C.2.1 dX6_run_47 (by decide) ?_
      refine w_ist C (fun v => [(4, .int (v)), (3, .int v26), (2, .int v24), (0, .ref (K.1 + p0)), (1, .int a1)]) dX6_run_48 hl (by decide) (fun _ => rfl) hp (fun v27 ls hl hp => ?_)
      exact wl_X6_run_L50 C hr hlk _ _ _ _ _ _ _ _ _ X (lv_sub hl [3, 4, 1, 0] rfl) hp
    · have hp := if_n _ c7 hp
      refine lv_aload_n C.1 C.2.1 dX6_run_30 rfl (lv_at hl 1 rfl) ?_
      refine lv_iload_n C.1 C.2.1 dX6_run_31 rfl (lv_at hl 0 rfl) ?_
      have hrc := (rc_some hp).1
      have hp := (rc_some hp).2
      refine w_ci (cells' := 0) (slots' := 0) X (fun _ _ e => run_V (As := [.int v24]) (c0 := 6) C X mX6_refuse miX6_refuse lX6_52 (by decide) rfl hrc (ct_X6_refuse l K p0 v24 h1 e) (by decide) (by decide) rfl (by decide) rfl hl.1 dX6_run_32) (by decide) hp (fun v28 h8 H locs X hp => ?_)
      exact w_reti C X hr hlk (by decide) dX6_run_35 hp

abbrev rmX6_shuts : Room := { frames := 2, cells := 0, slots := 0, locals := 46 }
def P_X6_shuts_L4 : Nat → Nat → Int32 → Int32 → Int32 → Hp → Option (Int32 × Hp)
  | 0, _, _, _, _, _ => none
  | n + 1, q1, v3, v4, v5, h1 =>
    gr h1 q1 6 1 fun q2 =>
    al h1 q2 0 fun v6 =>
    if v6 < v5 then (
    bz v4 <| some (v4, h1))
    else (
    if v4 = 0 then (
    rc h1 q1 6 <| ci (P_X6_turns q1 v3 v5 h1) fun v9 h2 =>
    if v9 = 0 then (
    lt (0 : Int32) fun v10 =>
    lt ((v5 + 1) : Int32) fun v11 =>
    P_X6_shuts_L4 n q1 v3 v10 v11 h2)
    else (
    gr h2 q1 6 1 fun q3 =>
    al h2 q3 ((4 + v5) - 1) fun v12 =>
    gr h2 q1 6 1 fun q4 =>
    al h2 q4 1 fun v13 =>
    if v12 = (v13 - 1) then (
    lt (1 : Int32) fun v16 =>
    lt ((v5 + 1) : Int32) fun v17 =>
    P_X6_shuts_L4 n q1 v3 v16 v17 h2)
    else (
    lt (0 : Int32) fun v14 =>
    lt ((v5 + 1) : Int32) fun v15 =>
    P_X6_shuts_L4 n q1 v3 v14 v15 h2)))
    else (
    lt (1 : Int32) fun v7 =>
    lt ((v5 + 1) : Int32) fun v8 =>
    P_X6_shuts_L4 n q1 v3 v7 v8 h1))

def P_X6_shuts (p0 : Nat) (a1 : Int32) (h0 : Hp) : Option (Int32 × Hp) :=
    lt (0 : Int32) fun v1 =>
    lt (1 : Int32) fun v2 =>
    P_X6_shuts_L4 FU p0 a1 v1 v2 h0

set_option maxHeartbeats 4000000 in
set_option maxRecDepth 100000 in
theorem wl_X6_shuts_L4 (C : CX K p m c cX6_shuts 4 s args RX6) (hr : meth.sig.returnType = (some FieldType.boolean)) (hlk : meth.locks = false) {r : Int32} {h' : Hp} : ∀ (n : Nat) (q1 : Nat) (v3 : Int32) (v4 : Int32) (v5 : Int32) (h1 : Hp) (H : Heap) (locs : List Loc) (ls : Array Slot), HX K s.heap H locs h1 → lv_has ls 4 [(0, .ref (K.1 + q1)), (1, .int v3), (2, .int v4), (3, .int v5)] → P_X6_shuts_L4 n q1 v3 v4 v5 h1 = some (r, h') → W p l e rmX6_shuts s m args below meth c H locs 0 0 (MQ below (Qi K r h') args s rmX6_shuts.cells rmX6_shuts.slots (KA K)) (F0 m 4 ls []) := by
  intro n
  induction n with
  | zero =>
    intro  q1 v3 v4 v5 h1 H locs ls X hl hp
    cases hp
  | succ n ih =>
    intro  q1 v3 v4 v5 h1 H locs ls X hl hp
    unfold P_X6_shuts_L4 at hp
    refine lv_iload_n C.1 C.2.1 dX6_shuts_4 rfl (lv_at hl 3 rfl) ?_
    refine lv_aload_n C.1 C.2.1 dX6_shuts_5 rfl (lv_at hl 0 rfl) ?_
    refine w_gr C X fX6_13 rfl dX6_shuts_6 hp (fun q2 hp => ?_)
    refine lv_iconst (v := 0) C.1 C.2.1 dX6_shuts_9 (by decide) ?_
    refine w_al C X dX6_shuts_10 hp (fun v6 hp => ?_)
    refine lv_icmp_gt (tgt := 60) C.1 C.2.1 dX6_shuts_11 (by decide) (fun c1 => ?_) (fun c1 => ?_)
    · have hp := if_p _ c1 hp
      refine lv_iload_n C.1 C.2.1 dX6_shuts_60 rfl (lv_at hl 2 rfl) ?_
      exact w_retz C X hr hlk (by decide) (bz_some hp).1 dX6_shuts_61 (bz_some hp).2
    · have hp := if_n _ c1 hp
      refine lv_iload_n C.1 C.2.1 dX6_shuts_14 rfl (lv_at hl 2 rfl) ?_
      refine lv_if_ne (tgt := 48) C.1 C.2.1 dX6_shuts_15 (by decide) (fun c2 => ?_) (fun c2 => ?_)
      · have hp := if_n _ c2 hp
        refine lv_iconst (v := 1) C.1 C.2.1 dX6_shuts_48 (by decide) ?_
        refine lv_goto (tgt := 53) C.1 C.2.1 dX6_shuts_49 (by decide) ?_
        refine w_istn C (fun v => [(2, .int (v)), (0, .ref (K.1 + q1)), (1, .int v3), (3, .int v5)]) dX6_shuts_53 rfl hl (by decide) (fun _ => rfl) hp (fun v7 ls hl hp => ?_)
        refine w_inc (k := 3) C (fun v => [(3, .int (v)), (2, .int v7), (0, .ref (K.1 + q1)), (1, .int v3)]) dX6_shuts_54 hl rfl (y := (v5 + 1)) rfl (by decide) (fun _ => rfl) hp (fun v8 ls hl hp => ?_)
        refine lv_goto (tgt := 4) C.1 C.2.1 dX6_shuts_57 (by decide) ?_
        exact ih _ _ _ _ _ _ _ _ X (lv_sub hl [2, 3, 1, 0] rfl) hp
      · have hp := if_p _ c2 hp
        refine lv_aload_n C.1 C.2.1 dX6_shuts_18 rfl (lv_at hl 0 rfl) ?_
        refine lv_iload_n C.1 C.2.1 dX6_shuts_19 rfl (lv_at hl 1 rfl) ?_
        refine lv_iload_n C.1 C.2.1 dX6_shuts_20 rfl (lv_at hl 3 rfl) ?_
        have hrc := (rc_some hp).1
        have hp := (rc_some hp).2
        refine w_ci (cells' := 0) (slots' := 0) X (fun _ _ e => run_V (As := [.int v3, .int v5]) (c0 := 6) C X mX6_turns miX6_turns lX6_112 (by decide) rfl hrc (ct_X6_turns l K q1 v3 v5 h1 e) (by decide) (by decide) rfl (by decide) rfl hl.1 dX6_shuts_21) (by decide) hp (fun v9 h2 H locs X hp => ?_)
        refine lv_if_eq (tgt := 52) C.1 C.2.1 dX6_shuts_24 (by decide) (fun c3 => ?_) (fun c3 => ?_)
        · have hp := if_p _ c3 hp
          refine lv_iconst (v := 0) C.1 C.2.1 dX6_shuts_52 (by decide) ?_
          refine w_istn C (fun v => [(2, .int (v)), (0, .ref (K.1 + q1)), (1, .int v3), (3, .int v5)]) dX6_shuts_53 rfl hl (by decide) (fun _ => rfl) hp (fun v10 ls hl hp => ?_)
          refine w_inc (k := 3) C (fun v => [(3, .int (v)), (2, .int v10), (0, .ref (K.1 + q1)), (1, .int v3)]) dX6_shuts_54 hl rfl (y := (v5 + 1)) rfl (by decide) (fun _ => rfl) hp (fun v11 ls hl hp => ?_)
          refine lv_goto (tgt := 4) C.1 C.2.1 dX6_shuts_57 (by decide) ?_
          exact ih _ _ _ _ _ _ _ _ X (lv_sub hl [2, 3, 1, 0] rfl) hp
        · have hp := if_n _ c3 hp
          refine lv_aload_n C.1 C.2.1 dX6_shuts_27 rfl (lv_at hl 0 rfl) ?_
          refine w_gr C X fX6_13 rfl dX6_shuts_28 hp (fun q3 hp => ?_)
          refine lv_iconst (v := 4) C.1 C.2.1 dX6_shuts_31 (by decide) ?_
          refine lv_iload_n C.1 C.2.1 dX6_shuts_32 rfl (lv_at hl 3 rfl) ?_
          refine lv_iadd C.1 C.2.1 dX6_shuts_33 ?_
          refine lv_iconst (v := 1) C.1 C.2.1 dX6_shuts_34 (by decide) ?_
          refine lv_isub C.1 C.2.1 dX6_shuts_35 ?_
          refine w_al C X dX6_shuts_36 hp (fun v12 hp => ?_)
          refine lv_aload_n C.1 C.2.1 dX6_shuts_37 rfl (lv_at hl 0 rfl) ?_
          refine w_gr C X fX6_13 rfl dX6_shuts_38 hp (fun q4 hp => ?_)
          refine lv_iconst (v := 1) C.1 C.2.1 dX6_shuts_41 (by decide) ?_
          refine w_al C X dX6_shuts_42 hp (fun v13 hp => ?_)
          refine lv_iconst (v := 1) C.1 C.2.1 dX6_shuts_43 (by decide) ?_
          refine lv_isub C.1 C.2.1 dX6_shuts_44 ?_
          refine lv_icmp_ne (tgt := 52) C.1 C.2.1 dX6_shuts_45 (by decide) (fun c4 => ?_) (fun c4 => ?_)
          · have hp := if_n _ c4 hp
            refine lv_iconst (v := 0) C.1 C.2.1 dX6_shuts_52 (by decide) ?_
            refine w_istn C (fun v => [(2, .int (v)), (0, .ref (K.1 + q1)), (1, .int v3), (3, .int v5)]) dX6_shuts_53 rfl hl (by decide) (fun _ => rfl) hp (fun v14 ls hl hp => ?_)
            refine w_inc (k := 3) C (fun v => [(3, .int (v)), (2, .int v14), (0, .ref (K.1 + q1)), (1, .int v3)]) dX6_shuts_54 hl rfl (y := (v5 + 1)) rfl (by decide) (fun _ => rfl) hp (fun v15 ls hl hp => ?_)
            refine lv_goto (tgt := 4) C.1 C.2.1 dX6_shuts_57 (by decide) ?_
            exact ih _ _ _ _ _ _ _ _ X (lv_sub hl [2, 3, 1, 0] rfl) hp
          · have hp := if_p _ c4 hp
            refine lv_iconst (v := 1) C.1 C.2.1 dX6_shuts_48 (by decide) ?_
            refine lv_goto (tgt := 53) C.1 C.2.1 dX6_shuts_49 (by decide) ?_
            refine w_istn C (fun v => [(2, .int (v)), (0, .ref (K.1 + q1)), (1, .int v3), (3, .int v5)]) dX6_shuts_53 rfl hl (by decide) (fun _ => rfl) hp (fun v16 ls hl hp => ?_)
            refine w_inc (k := 3) C (fun v => [(3, .int (v)), (2, .int v16), (0, .ref (K.1 + q1)), (1, .int v3)]) dX6_shuts_54 hl rfl (y := (v5 + 1)) rfl (by decide) (fun _ => rfl) hp (fun v17 ls hl hp => ?_)
            refine lv_goto (tgt := 4) C.1 C.2.1 dX6_shuts_57 (by decide) ?_
            exact ih _ _ _ _ _ _ _ _ X (lv_sub hl [2, 3, 1, 0] rfl) hp

set_option maxHeartbeats 4000000 in
set_option maxRecDepth 100000 in
theorem ct_X6_shuts (l : Launch) (K : Kt) (p0 : Nat) (a1 : Int32) (h0 : Hp) {r : Int32} {h' : Hp} (hp : P_X6_shuts p0 a1 h0 = some (r, h')) : CT l K yX6_shuts cX6_shuts 4 (some FieldType.boolean) rmX6_shuts [.ref (K.1 + p0), .int a1] h0 (Qi K r h') := by
  refine ct_of (own := RX6) (by decide +kernel) rfl (Nat.le_of_ble_eq_true rfl) ?_
  intro p e s m args below meth c C X hr hlk hm ls hl
  have hl : lv_has ls 4 [(0, .ref (K.1 + p0)), (1, .int a1)] := hl
  unfold P_X6_shuts at hp
  refine lv_iconst (v := 0) C.1 C.2.1 dX6_shuts_0 (by decide) ?_
  refine w_istn C (fun v => [(2, .int (v)), (0, .ref (K.1 + p0)), (1, .int a1)]) dX6_shuts_1 rfl hl (by decide) (fun _ => rfl) hp (fun v1 ls hl hp => ?_)
  refine lv_iconst (v := 1) C.1 C.2.1 dX6_shuts_2 (by decide) ?_
  refine w_istn C (fun v => [(3, .int (v)), (2, .int v1), (0, .ref (K.1 + p0)), (1, .int a1)]) dX6_shuts_3 rfl hl (by decide) (fun _ => rfl) hp (fun v2 ls hl hp => ?_)
  exact wl_X6_shuts_L4 C hr hlk _ _ _ _ _ _ _ _ _ X (lv_sub hl [2, 3, 1, 0] rfl) hp

abbrev rmX6_judge : Room := { frames := 3, cells := 0, slots := 0, locals := 69 }
def P_X6_judge_L23 : Nat → Nat → Int32 → Int32 → Hp → Option (Int32 × Hp)
  | 0, _, _, _, _ => none
  | n + 1, q1, v4, v5, h3 =>
    gr h3 q1 6 1 fun q2 =>
    al h3 q2 3 fun v6 =>
    if v6 ≤ v5 then (
    rc h3 q1 6 <| cv (P_X6_putsBack q1 h3) fun h4 =>
    some (v4, h4))
    else (
    if 0 ≤ v4 then (
    rc h3 q1 6 <| cv (P_X6_putsBack q1 h3) fun h5 =>
    some (v4, h5))
    else (
    rc h3 q1 6 <| ci (P_X6_logAt q1 v5 h3) fun v7 h6 =>
    rc h6 q1 6 <| ci (P_X6_shuts q1 v7 h6) fun v8 h7 =>
    if v8 = 0 then (
    rc h7 q1 6 <| ci (P_X6_logAt q1 v5 h7) fun v9 h8 =>
    rc h8 q1 6 <| ci (P_X6_goes q1 v9 h8) fun v10 h9 =>
    lt ((v5 + 1) : Int32) fun v11 =>
    P_X6_judge_L23 n q1 v4 v11 h9)
    else (
    lt (v5 : Int32) fun v12 =>
    rc h7 q1 6 <| ci (P_X6_logAt q1 v5 h7) fun v13 h10 =>
    rc h10 q1 6 <| ci (P_X6_goes q1 v13 h10) fun v14 h11 =>
    lt ((v5 + 1) : Int32) fun v15 =>
    P_X6_judge_L23 n q1 v12 v15 h11)))

def P_X6_judge (p0 : Nat) (h0 : Hp) : Option (Int32 × Hp) :=
    rc h0 p0 6 <| ci (P_X6_unknown p0 h0) fun v1 h1 =>
    if v1 ≤ 0 then (
    rc h1 p0 6 <| cv (P_X6_keeps p0 h1) fun h2 =>
    lt ((-9) : Int32) fun v2 =>
    lt (0 : Int32) fun v3 =>
    P_X6_judge_L23 FU p0 v2 v3 h2)
    else (
    rc h1 p0 6 <| ci (P_X6_refuse p0 (-3) h1) fun v16 h12 =>
    some (v16, h12))

set_option maxHeartbeats 4000000 in
set_option maxRecDepth 100000 in
theorem wl_X6_judge_L23 (C : CX K p m c cX6_judge 3 s args RX6) (hr : meth.sig.returnType = (some FieldType.int)) (hlk : meth.locks = false) {r : Int32} {h' : Hp} : ∀ (n : Nat) (q1 : Nat) (v4 : Int32) (v5 : Int32) (h3 : Hp) (H : Heap) (locs : List Loc) (ls : Array Slot), HX K s.heap H locs h3 → lv_has ls 3 [(0, .ref (K.1 + q1)), (1, .int v4), (2, .int v5)] → P_X6_judge_L23 n q1 v4 v5 h3 = some (r, h') → W p l e rmX6_judge s m args below meth c H locs 0 0 (MQ below (Qi K r h') args s rmX6_judge.cells rmX6_judge.slots (KA K)) (F0 m 23 ls []) := by
  intro n
  induction n with
  | zero =>
    intro  q1 v4 v5 h3 H locs ls X hl hp
    cases hp
  | succ n ih =>
    intro  q1 v4 v5 h3 H locs ls X hl hp
    unfold P_X6_judge_L23 at hp
    refine lv_iload_n C.1 C.2.1 dX6_judge_23 rfl (lv_at hl 2 rfl) ?_
    refine lv_aload_n C.1 C.2.1 dX6_judge_24 rfl (lv_at hl 0 rfl) ?_
    refine w_gr C X fX6_13 rfl dX6_judge_25 hp (fun q2 hp => ?_)
    refine lv_iconst (v := 3) C.1 C.2.1 dX6_judge_28 (by decide) ?_
    refine w_al C X dX6_judge_29 hp (fun v6 hp => ?_)
    refine lv_icmp_ge (tgt := 67) C.1 C.2.1 dX6_judge_30 (by decide) (fun c2 => ?_) (fun c2 => ?_)
    · have hp := if_p _ c2 hp
      refine lv_aload_n C.1 C.2.1 dX6_judge_67 rfl (lv_at hl 0 rfl) ?_
      have hrc := (rc_some hp).1
      have hp := (rc_some hp).2
      refine w_cv (cells' := 0) (slots' := 0) X (fun _ e => run_V (As := []) (c0 := 6) C X mX6_putsBack miX6_putsBack lX6_153 (by decide) rfl hrc (ct_X6_putsBack l K q1 h3 e) (by decide) (by decide) rfl (by decide) rfl hl.1 dX6_judge_68) (by decide) hp (fun h4 H locs X hp => ?_)
      refine lv_iload_n C.1 C.2.1 dX6_judge_71 rfl (lv_at hl 1 rfl) ?_
      exact w_reti C X hr hlk (by decide) dX6_judge_72 hp
    · have hp := if_n _ c2 hp
      refine lv_iload_n C.1 C.2.1 dX6_judge_33 rfl (lv_at hl 1 rfl) ?_
      refine lv_if_ge (tgt := 67) C.1 C.2.1 dX6_judge_34 (by decide) (fun c3 => ?_) (fun c3 => ?_)
      · have hp := if_p _ c3 hp
        refine lv_aload_n C.1 C.2.1 dX6_judge_67 rfl (lv_at hl 0 rfl) ?_
        have hrc := (rc_some hp).1
        have hp := (rc_some hp).2
        refine w_cv (cells' := 0) (slots' := 0) X (fun _ e => run_V (As := []) (c0 := 6) C X mX6_putsBack miX6_putsBack lX6_153 (by decide) rfl hrc (ct_X6_putsBack l K q1 h3 e) (by decide) (by decide) rfl (by decide) rfl hl.1 dX6_judge_68) (by decide) hp (fun h5 H locs X hp => ?_)
        refine lv_iload_n C.1 C.2.1 dX6_judge_71 rfl (lv_at hl 1 rfl) ?_
        exact w_reti C X hr hlk (by decide) dX6_judge_72 hp
      · have hp := if_n _ c3 hp
        refine lv_aload_n C.1 C.2.1 dX6_judge_37 rfl (lv_at hl 0 rfl) ?_
        refine lv_aload_n C.1 C.2.1 dX6_judge_38 rfl (lv_at hl 0 rfl) ?_
        refine lv_iload_n C.1 C.2.1 dX6_judge_39 rfl (lv_at hl 2 rfl) ?_
        have hrc := (rc_some hp).1
        have hp := (rc_some hp).2
        refine w_ci (cells' := 0) (slots' := 0) X (fun _ _ e => run_V (As := [.int v5]) (c0 := 6) C X mX6_logAt miX6_logAt lX6_208 (by decide) rfl hrc (ct_X6_logAt l K q1 v5 h3 e) (by decide) (by decide) rfl (Nat.le_of_ble_eq_true rfl) rfl hl.1 dX6_judge_40) (by decide) hp (fun v7 h6 H locs X hp => ?_)
        have hrc := (rc_some hp).1
        have hp := (rc_some hp).2
        refine w_ci (cells' := 0) (slots' := 0) X (fun _ _ e => run_V (As := [.int v7]) (c0 := 6) C X mX6_shuts miX6_shuts lX6_214 (by decide) rfl hrc (ct_X6_shuts l K q1 v7 h6 e) (by decide) (by decide) rfl (by decide) rfl hl.1 dX6_judge_43) (by decide) hp (fun v8 h7 H locs X hp => ?_)
        refine lv_if_eq (tgt := 51) C.1 C.2.1 dX6_judge_46 (by decide) (fun c4 => ?_) (fun c4 => ?_)
        · have hp := if_p _ c4 hp
          refine lv_aload_n C.1 C.2.1 dX6_judge_51 rfl (lv_at hl 0 rfl) ?_
          refine lv_aload_n C.1 C.2.1 dX6_judge_52 rfl (lv_at hl 0 rfl) ?_
          refine lv_iload_n C.1 C.2.1 dX6_judge_53 rfl (lv_at hl 2 rfl) ?_
          have hrc := (rc_some hp).1
          have hp := (rc_some hp).2
          refine w_ci (cells' := 0) (slots' := 0) X (fun _ _ e => run_V (As := [.int v5]) (c0 := 6) C X mX6_logAt miX6_logAt lX6_208 (by decide) rfl hrc (ct_X6_logAt l K q1 v5 h7 e) (by decide) (by decide) rfl (Nat.le_of_ble_eq_true rfl) rfl hl.1 dX6_judge_54) (by decide) hp (fun v9 h8 H locs X hp => ?_)
          have hrc := (rc_some hp).1
          have hp := (rc_some hp).2
          refine w_ci (cells' := 0) (slots' := 0) X (fun _ _ e => run_V (As := [.int v9]) (c0 := 6) C X mX6_goes miX6_goes lX6_128 (by decide) rfl hrc (ct_X6_goes l K q1 v9 h8 e) (by decide) (by decide) rfl (by decide) rfl hl.1 dX6_judge_57) (by decide) hp (fun v10 h9 H locs X hp => ?_)
          refine lv_pop C.1 C.2.1 dX6_judge_60 rfl ?_
          refine w_inc (k := 2) C (fun v => [(2, .int (v)), (0, .ref (K.1 + q1)), (1, .int v4)]) dX6_judge_61 hl rfl (y := (v5 + 1)) rfl (by decide) (fun _ => rfl) hp (fun v11 ls hl hp => ?_)
          refine lv_goto (tgt := 23) C.1 C.2.1 dX6_judge_64 (by decide) ?_
          exact ih _ _ _ _ _ _ _ X (lv_sub hl [1, 2, 0] rfl) hp
        · have hp := if_n _ c4 hp
          refine lv_iload_n C.1 C.2.1 dX6_judge_49 rfl (lv_at hl 2 rfl) ?_
          refine w_istn C (fun v => [(1, .int (v)), (0, .ref (K.1 + q1)), (2, .int v5)]) dX6_judge_50 rfl hl (by decide) (fun _ => rfl) hp (fun v12 ls hl hp => ?_)
          refine lv_aload_n C.1 C.2.1 dX6_judge_51 rfl (lv_at hl 1 rfl) ?_
          refine lv_aload_n C.1 C.2.1 dX6_judge_52 rfl (lv_at hl 1 rfl) ?_
          refine lv_iload_n C.1 C.2.1 dX6_judge_53 rfl (lv_at hl 2 rfl) ?_
          have hrc := (rc_some hp).1
          have hp := (rc_some hp).2
          refine w_ci (cells' := 0) (slots' := 0) X (fun _ _ e => run_V (As := [.int v5]) (c0 := 6) C X mX6_logAt miX6_logAt lX6_208 (by decide) rfl hrc (ct_X6_logAt l K q1 v5 h7 e) (by decide) (by decide) rfl (Nat.le_of_ble_eq_true rfl) rfl hl.1 dX6_judge_54) (by decide) hp (fun v13 h10 H locs X hp => ?_)
          have hrc := (rc_some hp).1
          have hp := (rc_some hp).2
          refine w_ci (cells' := 0) (slots' := 0) X (fun _ _ e => run_V (As := [.int v13]) (c0 := 6) C X mX6_goes miX6_goes lX6_128 (by decide) rfl hrc (ct_X6_goes l K q1 v13 h10 e) (by decide) (by decide) rfl (by decide) rfl hl.1 dX6_judge_57) (by decide) hp (fun v14 h11 H locs X hp => ?_)
          refine lv_pop C.1 C.2.1 dX6_judge_60 rfl ?_
          refine w_inc (k := 2) C (fun v => [(2, .int (v)), (1, .int v12), (0, .ref (K.1 + q1))]) dX6_judge_61 hl rfl (y := (v5 + 1)) rfl (by decide) (fun _ => rfl) hp (fun v15 ls hl hp => ?_)
          refine lv_goto (tgt := 23) C.1 C.2.1 dX6_judge_64 (by decide) ?_
          exact ih _ _ _ _ _ _ _ X (lv_sub hl [2, 1, 0] rfl) hp

set_option maxHeartbeats 4000000 in
set_option maxRecDepth 100000 in
theorem ct_X6_judge (l : Launch) (K : Kt) (p0 : Nat) (h0 : Hp) {r : Int32} {h' : Hp} (hp : P_X6_judge p0 h0 = some (r, h')) : CT l K yX6_judge cX6_judge 3 (some FieldType.int) rmX6_judge [.ref (K.1 + p0)] h0 (Qi K r h') := by
  refine ct_of (own := RX6) (by decide +kernel) rfl (Nat.le_of_ble_eq_true rfl) ?_
  intro p e s m args below meth c C X hr hlk hm ls hl
  have hl : lv_has ls 3 [(0, .ref (K.1 + p0))] := hl
  unfold P_X6_judge at hp
  refine lv_aload_n C.1 C.2.1 dX6_judge_0 rfl (lv_at hl 0 rfl) ?_
  have hrc := (rc_some hp).1
  have hp := (rc_some hp).2
  refine w_ci (cells' := 0) (slots' := 0) X (fun _ _ e => run_V (As := []) (c0 := 6) C X mX6_unknown miX6_unknown lX6_211 (by decide) rfl hrc (ct_X6_unknown l K p0 h0 e) (by decide) (by decide) rfl (by decide) rfl hl.1 dX6_judge_1) (by decide) hp (fun v1 h1 H locs X hp => ?_)
  refine lv_if_le (tgt := 14) C.1 C.2.1 dX6_judge_4 (by decide) (fun c1 => ?_) (fun c1 => ?_)
  · have hp := if_p _ c1 hp
    refine lv_aload_n C.1 C.2.1 dX6_judge_14 rfl (lv_at hl 0 rfl) ?_
    have hrc := (rc_some hp).1
    have hp := (rc_some hp).2
    refine w_cv (cells' := 0) (slots' := 0) X (fun _ e => run_V (As := []) (c0 := 6) C X mX6_keeps miX6_keeps lX6_147 (by decide) rfl hrc (ct_X6_keeps l K p0 h1 e) (by decide) (by decide) rfl (by decide) rfl hl.1 dX6_judge_15) (by decide) hp (fun h2 H locs X hp => ?_)
    refine lv_bipush (v := -9) C.1 C.2.1 dX6_judge_18 (by decide) ?_
    refine w_istn C (fun v => [(1, .int (v)), (0, .ref (K.1 + p0))]) dX6_judge_20 rfl hl (by decide) (fun _ => rfl) hp (fun v2 ls hl hp => ?_)
    refine lv_iconst (v := 0) C.1 C.2.1 dX6_judge_21 (by decide) ?_
    refine w_istn C (fun v => [(2, .int (v)), (1, .int v2), (0, .ref (K.1 + p0))]) dX6_judge_22 rfl hl (by decide) (fun _ => rfl) hp (fun v3 ls hl hp => ?_)
    exact wl_X6_judge_L23 C hr hlk _ _ _ _ _ _ _ _ X (lv_sub hl [2, 1, 0] rfl) hp
  · have hp := if_n _ c1 hp
    refine lv_aload_n C.1 C.2.1 dX6_judge_7 rfl (lv_at hl 0 rfl) ?_
    refine lv_bipush (v := -3) C.1 C.2.1 dX6_judge_8 (by decide) ?_
    have hrc := (rc_some hp).1
    have hp := (rc_some hp).2
    refine w_ci (cells' := 0) (slots' := 0) X (fun _ _ e => run_V (As := [.int (-3)]) (c0 := 6) C X mX6_refuse miX6_refuse lX6_52 (by decide) rfl hrc (ct_X6_refuse l K p0 (-3) h1 e) (by decide) (by decide) rfl (by decide) rfl hl.1 dX6_judge_10) (by decide) hp (fun v16 h12 H locs X hp => ?_)
    exact w_reti C X hr hlk (by decide) dX6_judge_13 hp

abbrev rmX6_clear : Room := { frames := 0, cells := 0, slots := 0, locals := 0 }
def P_X6_clear (p0 : Nat) (h0 : Hp) : Option (Int32 × Hp) :=
    gr h0 p0 6 1 fun q1 =>
    al h0 q1 3 fun v1 =>
    lt (v1 : Int32) fun v2 =>
    gr h0 p0 6 1 fun q2 =>
    as h0 q2 3 0 fun h1 =>
    some (v2, h1)

set_option maxHeartbeats 4000000 in
set_option maxRecDepth 100000 in
theorem ct_X6_clear (l : Launch) (K : Kt) (p0 : Nat) (h0 : Hp) {r : Int32} {h' : Hp} (hp : P_X6_clear p0 h0 = some (r, h')) : CT l K yX6_clear cX6_clear 2 (some FieldType.int) rmX6_clear [.ref (K.1 + p0)] h0 (Qi K r h') := by
  refine ct_of (own := RX6) (by decide +kernel) rfl (Nat.le_of_ble_eq_true rfl) ?_
  intro p e s m args below meth c C X hr hlk hm ls hl
  have hl : lv_has ls 2 [(0, .ref (K.1 + p0))] := hl
  unfold P_X6_clear at hp
  refine lv_aload_n C.1 C.2.1 dX6_clear_0 rfl (lv_at hl 0 rfl) ?_
  refine w_gr C X fX6_13 rfl dX6_clear_1 hp (fun q1 hp => ?_)
  refine lv_iconst (v := 3) C.1 C.2.1 dX6_clear_4 (by decide) ?_
  refine w_al C X dX6_clear_5 hp (fun v1 hp => ?_)
  refine w_istn C (fun v => [(1, .int (v)), (0, .ref (K.1 + p0))]) dX6_clear_6 rfl hl (by decide) (fun _ => rfl) hp (fun v2 ls hl hp => ?_)
  refine lv_aload_n C.1 C.2.1 dX6_clear_7 rfl (lv_at hl 1 rfl) ?_
  refine w_gr C X fX6_13 rfl dX6_clear_8 hp (fun q2 hp => ?_)
  refine lv_iconst (v := 3) C.1 C.2.1 dX6_clear_11 (by decide) ?_
  refine lv_iconst (v := 0) C.1 C.2.1 dX6_clear_12 (by decide) ?_
  refine w_as C X dX6_clear_13 hp (fun H locs h1 X hp => ?_)
  refine lv_iload_n C.1 C.2.1 dX6_clear_14 rfl (lv_at hl 0 rfl) ?_
  exact w_reti C X hr hlk (by decide) dX6_clear_15 hp

abbrev rmX6_then : Room := { frames := 1, cells := 0, slots := 0, locals := 24 }
def P_X6_then (p0 : Nat) (a1 : Int32) (a2 : Int32) (h0 : Hp) : Option (Int32 × Hp) :=
    rc h0 p0 6 <| ci (P_X6_power p0 a2 h0) fun v1 h1 =>
    lt (v1 : Int32) fun v2 =>
    rc h1 p0 6 <| ci (P_X6_timesOf p0 a1 a2 h1) fun v3 h2 =>
    gr h2 p0 6 1 fun q1 =>
    al h2 q1 1 fun v4 =>
    if (v4 - 1) ≤ v3 then (
    gr h2 p0 6 1 fun q2 =>
    al h2 q2 1 fun v5 =>
    some ((a1 - (v2 * (v5 - 1))), h2))
    else (
    some ((a1 + v2), h2))

set_option maxHeartbeats 4000000 in
set_option maxRecDepth 100000 in
theorem ct_X6_then (l : Launch) (K : Kt) (p0 : Nat) (a1 : Int32) (a2 : Int32) (h0 : Hp) {r : Int32} {h' : Hp} (hp : P_X6_then p0 a1 a2 h0 = some (r, h')) : CT l K yX6_then cX6_then 4 (some FieldType.int) rmX6_then [.ref (K.1 + p0), .int a1, .int a2] h0 (Qi K r h') := by
  refine ct_of (own := RX6) (by decide +kernel) rfl (Nat.le_of_ble_eq_true rfl) ?_
  intro p e s m args below meth c C X hr hlk hm ls hl
  have hl : lv_has ls 4 [(0, .ref (K.1 + p0)), (1, .int a1), (2, .int a2)] := hl
  unfold P_X6_then at hp
  refine lv_aload_n C.1 C.2.1 dX6_then_0 rfl (lv_at hl 0 rfl) ?_
  refine lv_iload_n C.1 C.2.1 dX6_then_1 rfl (lv_at hl 2 rfl) ?_
  have hrc := (rc_some hp).1
  have hp := (rc_some hp).2
  refine w_ci (cells' := 0) (slots' := 0) X (fun _ _ e => run_V (As := [.int a2]) (c0 := 6) C X mX6_power miX6_power lX6_137 (by decide) rfl hrc (ct_X6_power l K p0 a2 h0 e) (by decide) (by decide) rfl (by decide) rfl hl.1 dX6_then_2) (by decide) hp (fun v1 h1 H locs X hp => ?_)
  refine w_istn C (fun v => [(3, .int (v)), (0, .ref (K.1 + p0)), (1, .int a1), (2, .int a2)]) dX6_then_5 rfl hl (by decide) (fun _ => rfl) hp (fun v2 ls hl hp => ?_)
  refine lv_aload_n C.1 C.2.1 dX6_then_6 rfl (lv_at hl 1 rfl) ?_
  refine lv_iload_n C.1 C.2.1 dX6_then_7 rfl (lv_at hl 2 rfl) ?_
  refine lv_iload_n C.1 C.2.1 dX6_then_8 rfl (lv_at hl 3 rfl) ?_
  have hrc := (rc_some hp).1
  have hp := (rc_some hp).2
  refine w_ci (cells' := 0) (slots' := 0) X (fun _ _ e => run_V (As := [.int a1, .int a2]) (c0 := 6) C X mX6_timesOf miX6_timesOf lX6_144 (by decide) rfl hrc (ct_X6_timesOf l K p0 a1 a2 h1 e) (by decide) (by decide) rfl (by decide) rfl hl.1 dX6_then_9) (by decide) hp (fun v3 h2 H locs X hp => ?_)
  refine lv_aload_n C.1 C.2.1 dX6_then_12 rfl (lv_at hl 1 rfl) ?_
  refine w_gr C X fX6_13 rfl dX6_then_13 hp (fun q1 hp => ?_)
  refine lv_iconst (v := 1) C.1 C.2.1 dX6_then_16 (by decide) ?_
  refine w_al C X dX6_then_17 hp (fun v4 hp => ?_)
  refine lv_iconst (v := 1) C.1 C.2.1 dX6_then_18 (by decide) ?_
  refine lv_isub C.1 C.2.1 dX6_then_19 ?_
  refine lv_icmp_ge (tgt := 29) C.1 C.2.1 dX6_then_20 (by decide) (fun c1 => ?_) (fun c1 => ?_)
  · have hp := if_p _ c1 hp
    refine lv_iload_n C.1 C.2.1 dX6_then_29 rfl (lv_at hl 2 rfl) ?_
    refine lv_iload_n C.1 C.2.1 dX6_then_30 rfl (lv_at hl 0 rfl) ?_
    refine lv_aload_n C.1 C.2.1 dX6_then_31 rfl (lv_at hl 1 rfl) ?_
    refine w_gr C X fX6_13 rfl dX6_then_32 hp (fun q2 hp => ?_)
    refine lv_iconst (v := 1) C.1 C.2.1 dX6_then_35 (by decide) ?_
    refine w_al C X dX6_then_36 hp (fun v5 hp => ?_)
    refine lv_iconst (v := 1) C.1 C.2.1 dX6_then_37 (by decide) ?_
    refine lv_isub C.1 C.2.1 dX6_then_38 ?_
    refine lv_imul C.1 C.2.1 dX6_then_39 ?_
    refine lv_isub C.1 C.2.1 dX6_then_40 ?_
    exact w_reti C X hr hlk (by decide) dX6_then_41 hp
  · have hp := if_n _ c1 hp
    refine lv_iload_n C.1 C.2.1 dX6_then_23 rfl (lv_at hl 2 rfl) ?_
    refine lv_iload_n C.1 C.2.1 dX6_then_24 rfl (lv_at hl 0 rfl) ?_
    refine lv_iadd C.1 C.2.1 dX6_then_25 ?_
    refine lv_goto (tgt := 41) C.1 C.2.1 dX6_then_26 (by decide) ?_
    exact w_reti C X hr hlk (by decide) dX6_then_41 hp

abbrev rmX6_worthOf : Room := { frames := 2, cells := 0, slots := 0, locals := 47 }
def P_X6_worthOf_L4 : Nat → Nat → Int32 → Int32 → Int32 → Hp → Option (Int32 × Hp)
  | 0, _, _, _, _, _ => none
  | n + 1, q1, v3, v4, v5, h1 =>
    gr h1 q1 6 1 fun q2 =>
    al h1 q2 2 fun v6 =>
    if v6 ≤ v5 then (
    if v4 = 0 then (
    some (2, h1))
    else (
    some (0, h1)))
    else (
    gr h1 q1 6 15 fun q3 =>
    rc h1 q1 6 <| ci (P_X6_then q1 v3 v5 h1) fun v7 h2 =>
    al h2 q3 v7 fun v8 =>
    lt (v8 : Int32) fun v9 =>
    if v9 = 0 then (
    some (1, h2))
    else (
    if v4 = 0 then (
    lt (0 : Int32) fun v10 =>
    lt ((v5 + 1) : Int32) fun v11 =>
    P_X6_worthOf_L4 n q1 v3 v10 v11 h2)
    else (
    if v9 = 1 then (
    lt (1 : Int32) fun v14 =>
    lt ((v5 + 1) : Int32) fun v15 =>
    P_X6_worthOf_L4 n q1 v3 v14 v15 h2)
    else (
    lt (0 : Int32) fun v12 =>
    lt ((v5 + 1) : Int32) fun v13 =>
    P_X6_worthOf_L4 n q1 v3 v12 v13 h2))))

def P_X6_worthOf (p0 : Nat) (a1 : Int32) (h0 : Hp) : Option (Int32 × Hp) :=
    lt (1 : Int32) fun v1 =>
    lt (0 : Int32) fun v2 =>
    P_X6_worthOf_L4 FU p0 a1 v1 v2 h0

set_option maxHeartbeats 4000000 in
set_option maxRecDepth 100000 in
theorem wl_X6_worthOf_L4 (C : CX K p m c cX6_worthOf 5 s args RX6) (hr : meth.sig.returnType = (some FieldType.int)) (hlk : meth.locks = false) {r : Int32} {h' : Hp} : ∀ (n : Nat) (q1 : Nat) (v3 : Int32) (v4 : Int32) (v5 : Int32) (h1 : Hp) (H : Heap) (locs : List Loc) (ls : Array Slot), HX K s.heap H locs h1 → lv_has ls 5 [(0, .ref (K.1 + q1)), (1, .int v3), (2, .int v4), (3, .int v5)] → P_X6_worthOf_L4 n q1 v3 v4 v5 h1 = some (r, h') → W p l e rmX6_worthOf s m args below meth c H locs 0 0 (MQ below (Qi K r h') args s rmX6_worthOf.cells rmX6_worthOf.slots (KA K)) (F0 m 4 ls []) := by
  intro n
  induction n with
  | zero =>
    intro  q1 v3 v4 v5 h1 H locs ls X hl hp
    cases hp
  | succ n ih =>
    intro  q1 v3 v4 v5 h1 H locs ls X hl hp
    unfold P_X6_worthOf_L4 at hp
    refine lv_iload_n C.1 C.2.1 dX6_worthOf_4 rfl (lv_at hl 3 rfl) ?_
    refine lv_aload_n C.1 C.2.1 dX6_worthOf_5 rfl (lv_at hl 0 rfl) ?_
    refine w_gr C X fX6_13 rfl dX6_worthOf_6 hp (fun q2 hp => ?_)
    refine lv_iconst (v := 2) C.1 C.2.1 dX6_worthOf_9 (by decide) ?_
    refine w_al C X dX6_worthOf_10 hp (fun v6 hp => ?_)
    refine lv_icmp_ge (tgt := 56) C.1 C.2.1 dX6_worthOf_11 (by decide) (fun c1 => ?_) (fun c1 => ?_)
    · have hp := if_p _ c1 hp
      refine lv_iload_n C.1 C.2.1 dX6_worthOf_56 rfl (lv_at hl 2 rfl) ?_
      refine lv_if_eq (tgt := 64) C.1 C.2.1 dX6_worthOf_57 (by decide) (fun c2 => ?_) (fun c2 => ?_)
      · have hp := if_p _ c2 hp
        refine lv_iconst (v := 2) C.1 C.2.1 dX6_worthOf_64 (by decide) ?_
        exact w_reti C X hr hlk (by decide) dX6_worthOf_65 hp
      · have hp := if_n _ c2 hp
        refine lv_iconst (v := 0) C.1 C.2.1 dX6_worthOf_60 (by decide) ?_
        refine lv_goto (tgt := 65) C.1 C.2.1 dX6_worthOf_61 (by decide) ?_
        exact w_reti C X hr hlk (by decide) dX6_worthOf_65 hp
    · have hp := if_n _ c1 hp
      refine lv_aload_n C.1 C.2.1 dX6_worthOf_14 rfl (lv_at hl 0 rfl) ?_
      refine w_gr C X fX6_37 rfl dX6_worthOf_15 hp (fun q3 hp => ?_)
      refine lv_aload_n C.1 C.2.1 dX6_worthOf_18 rfl (lv_at hl 0 rfl) ?_
      refine lv_iload_n C.1 C.2.1 dX6_worthOf_19 rfl (lv_at hl 1 rfl) ?_
      refine lv_iload_n C.1 C.2.1 dX6_worthOf_20 rfl (lv_at hl 3 rfl) ?_
      have hrc := (rc_some hp).1
      have hp := (rc_some hp).2
      refine w_ci (cells' := 0) (slots' := 0) X (fun _ _ e => run_V (As := [.int v3, .int v5]) (c0 := 6) C X mX6_then miX6_then lX6_217 (by decide) rfl hrc (ct_X6_then l K q1 v3 v5 h1 e) (by decide) (by decide) rfl (Nat.le_of_ble_eq_true rfl) rfl hl.1 dX6_worthOf_21) (by decide) hp (fun v7 h2 H locs X hp => ?_)
      refine w_al C X dX6_worthOf_24 hp (fun v8 hp => ?_)
      refine w_ist C (fun v => [(4, .int (v)), (0, .ref (K.1 + q1)), (1, .int v3), (2, .int v4), (3, .int v5)]) dX6_worthOf_25 hl (by decide) (fun _ => rfl) hp (fun v9 ls hl hp => ?_)
      refine lv_iload C.1 C.2.1 dX6_worthOf_27 (lv_at hl 0 rfl) ?_
      refine lv_if_ne (tgt := 34) C.1 C.2.1 dX6_worthOf_29 (by decide) (fun c3 => ?_) (fun c3 => ?_)
      · have hp := if_n _ c3 hp
        refine lv_iload_n C.1 C.2.1 dX6_worthOf_34 rfl (lv_at hl 3 rfl) ?_
        refine lv_if_eq (tgt := 48) C.1 C.2.1 dX6_worthOf_35 (by decide) (fun c4 => ?_) (fun c4 => ?_)
        · have hp := if_p _ c4 hp
          refine lv_iconst (v := 0) C.1 C.2.1 dX6_worthOf_48 (by decide) ?_
          refine w_istn C (fun v => [(2, .int (v)), (4, .int v9), (0, .ref (K.1 + q1)), (1, .int v3), (3, .int v5)]) dX6_worthOf_49 rfl hl (by decide) (fun _ => rfl) hp (fun v10 ls hl hp => ?_)
          refine w_inc (k := 4) C (fun v => [(3, .int (v)), (2, .int v10), (4, .int v9), (0, .ref (K.1 + q1)), (1, .int v3)]) dX6_worthOf_50 hl rfl (y := (v5 + 1)) rfl (by decide) (fun _ => rfl) hp (fun v11 ls hl hp => ?_)
          refine lv_goto (tgt := 4) C.1 C.2.1 dX6_worthOf_53 (by decide) ?_
          exact ih _ _ _ _ _ _ _ _ X (lv_sub hl [3, 4, 1, 0] rfl) hp
        · have hp := if_n _ c4 hp
          refine lv_iload C.1 C.2.1 dX6_worthOf_38 (lv_at hl 0 rfl) ?_
          refine lv_iconst (v := 1) C.1 C.2.1 dX6_worthOf_40 (by decide) ?_
          refine lv_icmp_ne (tgt := 48) C.1 C.2.1 dX6_worthOf_41 (by decide) (fun c5 => ?_) (fun c5 => ?_)
          · have hp := if_n _ c5 hp
            refine lv_iconst (v := 0) C.1 C.2.1 dX6_worthOf_48 (by decide) ?_
            refine w_istn C (fun v => [(2, .int (v)), (4, .int v9), (0, .ref (K.1 + q1)), (1, .int v3), (3, .int v5)]) dX6_worthOf_49 rfl hl (by decide) (fun _ => rfl) hp (fun v12 ls hl hp => ?_)
            refine w_inc (k := 4) C (fun v => [(3, .int (v)), (2, .int v12), (4, .int v9), (0, .ref (K.1 + q1)), (1, .int v3)]) dX6_worthOf_50 hl rfl (y := (v5 + 1)) rfl (by decide) (fun _ => rfl) hp (fun v13 ls hl hp => ?_)
            refine lv_goto (tgt := 4) C.1 C.2.1 dX6_worthOf_53 (by decide) ?_
            exact ih _ _ _ _ _ _ _ _ X (lv_sub hl [3, 4, 1, 0] rfl) hp
          · have hp := if_p _ c5 hp
            refine lv_iconst (v := 1) C.1 C.2.1 dX6_worthOf_44 (by decide) ?_
            refine lv_goto (tgt := 49) C.1 C.2.1 dX6_worthOf_45 (by decide) ?_
            refine w_istn C (fun v => [(2, .int (v)), (4, .int v9), (0, .ref (K.1 + q1)), (1, .int v3), (3, .int v5)]) dX6_worthOf_49 rfl hl (by decide) (fun _ => rfl) hp (fun v14 ls hl hp => ?_)
            refine w_inc (k := 4) C (fun v => [(3, .int (v)), (2, .int v14), (4, .int v9), (0, .ref (K.1 + q1)), (1, .int v3)]) dX6_worthOf_50 hl rfl (y := (v5 + 1)) rfl (by decide) (fun _ => rfl) hp (fun v15 ls hl hp => ?_)
            refine lv_goto (tgt := 4) C.1 C.2.1 dX6_worthOf_53 (by decide) ?_
            exact ih _ _ _ _ _ _ _ _ X (lv_sub hl [3, 4, 1, 0] rfl) hp
      · have hp := if_p _ c3 hp
        refine lv_iconst (v := 1) C.1 C.2.1 dX6_worthOf_32 (by decide) ?_
        exact w_reti C X hr hlk (by decide) dX6_worthOf_33 hp

set_option maxHeartbeats 4000000 in
set_option maxRecDepth 100000 in
theorem ct_X6_worthOf (l : Launch) (K : Kt) (p0 : Nat) (a1 : Int32) (h0 : Hp) {r : Int32} {h' : Hp} (hp : P_X6_worthOf p0 a1 h0 = some (r, h')) : CT l K yX6_worthOf cX6_worthOf 5 (some FieldType.int) rmX6_worthOf [.ref (K.1 + p0), .int a1] h0 (Qi K r h') := by
  refine ct_of (own := RX6) (by decide +kernel) rfl (Nat.le_of_ble_eq_true rfl) ?_
  intro p e s m args below meth c C X hr hlk hm ls hl
  have hl : lv_has ls 5 [(0, .ref (K.1 + p0)), (1, .int a1)] := hl
  unfold P_X6_worthOf at hp
  refine lv_iconst (v := 1) C.1 C.2.1 dX6_worthOf_0 (by decide) ?_
  refine w_istn C (fun v => [(2, .int (v)), (0, .ref (K.1 + p0)), (1, .int a1)]) dX6_worthOf_1 rfl hl (by decide) (fun _ => rfl) hp (fun v1 ls hl hp => ?_)
  refine lv_iconst (v := 0) C.1 C.2.1 dX6_worthOf_2 (by decide) ?_
  refine w_istn C (fun v => [(3, .int (v)), (2, .int v1), (0, .ref (K.1 + p0)), (1, .int a1)]) dX6_worthOf_3 rfl hl (by decide) (fun _ => rfl) hp (fun v2 ls hl hp => ?_)
  exact wl_X6_worthOf_L4 C hr hlk _ _ _ _ _ _ _ _ _ X (lv_sub hl [2, 3, 1, 0] rfl) hp

abbrev rmX6_match : Room := { frames := 5, cells := 0, slots := 0, locals := 114 }
def P_X6_match_L22 : Nat → Nat → Int32 → Hp → (Hp → Option (Int32 × Hp)) → Option (Int32 × Hp)
  | 0, _, _, _, _ => none
  | n + 1, q2, v4, h2, kont =>
    rc h2 q2 6 <| ci (P_X6_rows q2 h2) fun v5 h3 =>
    if v5 ≤ v4 then (
    kont h3)
    else (
    gr h3 q2 6 15 fun q3 =>
    rc h3 q2 6 <| ci (P_X6_brings q2 v4 h3) fun v6 h4 =>
    if v6 = 0 then (
    as h4 q3 v4 2 fun h5 =>
    lt ((v4 + 1) : Int32) fun v7 =>
    P_X6_match_L22 n q2 v7 h5 kont)
    else (
    as h4 q3 v4 0 fun h6 =>
    lt ((v4 + 1) : Int32) fun v8 =>
    P_X6_match_L22 n q2 v8 h6 kont))

def P_X6_match_L65 : Nat → Nat → Int32 → Int32 → Hp → (Int32 → Hp → Option (Int32 × Hp)) → Option (Int32 × Hp)
  | 0, _, _, _, _, _ => none
  | n + 1, q6, v14, v15, h9, kont =>
    rc h9 q6 6 <| ci (P_X6_rows q6 h9) fun v16 h10 =>
    if v16 ≤ v15 then (
    kont v14 h10)
    else (
    gr h10 q6 6 15 fun q7 =>
    al h10 q7 v15 fun v17 =>
    if v17 = 2 then (
    gr h10 q6 6 15 fun q8 =>
    rc h10 q6 6 <| ci (P_X6_worthOf q6 v15 h10) fun v18 h11 =>
    as h11 q8 v15 v18 fun h12 =>
    if v14 = 0 then (
    gr h12 q6 6 15 fun q9 =>
    al h12 q9 v15 fun v21 =>
    if v21 = 2 then (
    lt (0 : Int32) fun v22 =>
    lt ((v15 + 1) : Int32) fun v23 =>
    P_X6_match_L65 n q6 v22 v23 h12 kont)
    else (
    lt (1 : Int32) fun v24 =>
    lt ((v15 + 1) : Int32) fun v25 =>
    P_X6_match_L65 n q6 v24 v25 h12 kont))
    else (
    lt (1 : Int32) fun v19 =>
    lt ((v15 + 1) : Int32) fun v20 =>
    P_X6_match_L65 n q6 v19 v20 h12 kont))
    else (
    lt ((v15 + 1) : Int32) fun v26 =>
    P_X6_match_L65 n q6 v14 v26 h10 kont))

def P_X6_match_L57 : Nat → Nat → Int32 → Hp → Option (Int32 × Hp)
  | 0, _, _, _ => none
  | n + 1, q4, v10, h8 =>
    if v10 = 0 then (
    gr h8 q4 6 15 fun q5 =>
    al h8 q5 0 fun v11 =>
    some (v11, h8))
    else (
    lt (0 : Int32) fun v12 =>
    lt (0 : Int32) fun v13 =>
    P_X6_match_L65 FU q4 v12 v13 h8 fun v27 h13 =>
    P_X6_match_L57 n q4 v27 h13)

def P_X6_match (p0 : Nat) (h0 : Hp) : Option (Int32 × Hp) :=
    rc h0 p0 6 <| ci (P_X6_isWished p0 h0) fun v1 h1 =>
    if v1 = 0 then (
    gr h1 p0 6 1 fun q1 =>
    al h1 q1 2 fun v2 =>
    if v2 = 0 then (
    some (2, h1))
    else (
    lt (0 : Int32) fun v3 =>
    P_X6_match_L22 FU p0 v3 h1 fun h7 =>
    lt (1 : Int32) fun v9 =>
    P_X6_match_L57 FU p0 v9 h7))
    else (
    some (0, h1))

set_option maxHeartbeats 4000000 in
set_option maxRecDepth 100000 in
theorem wl_X6_match_L22 (C : CX K p m c cX6_match 3 s args RX6) (hr : meth.sig.returnType = (some FieldType.int)) (hlk : meth.locks = false) {r : Int32} {h' : Hp} : ∀ (n : Nat) (q2 : Nat) (v4 : Int32) (h2 : Hp) (kont : Hp → Option (Int32 × Hp)) (H : Heap) (locs : List Loc) (ls : Array Slot), HX K s.heap H locs h2 → lv_has ls 3 [(0, .ref (K.1 + q2)), (1, .int v4)] → P_X6_match_L22 n q2 v4 h2 kont = some (r, h') → (∀  (hk : Hp) (H : Heap) (locs : List Loc) (ls : Array Slot), HX K s.heap H locs hk → lv_has ls 3 [(0, .ref (K.1 + q2))] → kont  hk = some (r, h') → W p l e rmX6_match s m args below meth c H locs 0 0 (MQ below (Qi K r h') args s rmX6_match.cells rmX6_match.slots (KA K)) (F0 m 55 ls [])) → W p l e rmX6_match s m args below meth c H locs 0 0 (MQ below (Qi K r h') args s rmX6_match.cells rmX6_match.slots (KA K)) (F0 m 22 ls []) := by
  intro n
  induction n with
  | zero =>
    intro  q2 v4 h2 kont H locs ls X hl hp hk
    cases hp
  | succ n ih =>
    intro  q2 v4 h2 kont H locs ls X hl hp hk
    unfold P_X6_match_L22 at hp
    refine lv_iload_n C.1 C.2.1 dX6_match_22 rfl (lv_at hl 1 rfl) ?_
    refine lv_aload_n C.1 C.2.1 dX6_match_23 rfl (lv_at hl 0 rfl) ?_
    have hrc := (rc_some hp).1
    have hp := (rc_some hp).2
    refine w_ci (cells' := 0) (slots' := 0) X (fun _ _ e => run_V (As := []) (c0 := 6) C X mX6_rows miX6_rows lX6_156 (by decide) rfl hrc (ct_X6_rows l K q2 h2 e) (by decide) (by decide) rfl (Nat.le_of_ble_eq_true rfl) rfl hl.1 dX6_match_24) (by decide) hp (fun v5 h3 H locs X hp => ?_)
    refine lv_icmp_ge (tgt := 55) C.1 C.2.1 dX6_match_27 (by decide) (fun c3 => ?_) (fun c3 => ?_)
    · have hp := if_p _ c3 hp
      exact hk _ _ _ _ X (lv_sub hl [0] rfl) hp
    · have hp := if_n _ c3 hp
      refine lv_aload_n C.1 C.2.1 dX6_match_30 rfl (lv_at hl 0 rfl) ?_
      refine w_gr C X fX6_37 rfl dX6_match_31 hp (fun q3 hp => ?_)
      refine lv_iload_n C.1 C.2.1 dX6_match_34 rfl (lv_at hl 1 rfl) ?_
      refine lv_aload_n C.1 C.2.1 dX6_match_35 rfl (lv_at hl 0 rfl) ?_
      refine lv_iload_n C.1 C.2.1 dX6_match_36 rfl (lv_at hl 1 rfl) ?_
      have hrc := (rc_some hp).1
      have hp := (rc_some hp).2
      refine w_ci (cells' := 0) (slots' := 0) X (fun _ _ e => run_V (As := [.int v4]) (c0 := 6) C X mX6_brings miX6_brings lX6_159 (by decide) rfl hrc (ct_X6_brings l K q2 v4 h3 e) (by decide) (by decide) rfl (Nat.le_of_ble_eq_true rfl) rfl hl.1 dX6_match_37) (by decide) hp (fun v6 h4 H locs X hp => ?_)
      refine lv_if_eq (tgt := 47) C.1 C.2.1 dX6_match_40 (by decide) (fun c4 => ?_) (fun c4 => ?_)
      · have hp := if_p _ c4 hp
        refine lv_iconst (v := 2) C.1 C.2.1 dX6_match_47 (by decide) ?_
        refine w_as C X dX6_match_48 hp (fun H locs h5 X hp => ?_)
        refine w_inc (k := 1) C (fun v => [(1, .int (v)), (0, .ref (K.1 + q2))]) dX6_match_49 hl rfl (y := (v4 + 1)) rfl (by decide) (fun _ => rfl) hp (fun v7 ls hl hp => ?_)
        refine lv_goto (tgt := 22) C.1 C.2.1 dX6_match_52 (by decide) ?_
        exact ih _ _ _ _ _ _ _ X (lv_sub hl [1, 0] rfl) hp hk
      · have hp := if_n _ c4 hp
        refine lv_iconst (v := 0) C.1 C.2.1 dX6_match_43 (by decide) ?_
        refine lv_goto (tgt := 48) C.1 C.2.1 dX6_match_44 (by decide) ?_
        refine w_as C X dX6_match_48 hp (fun H locs h6 X hp => ?_)
        refine w_inc (k := 1) C (fun v => [(1, .int (v)), (0, .ref (K.1 + q2))]) dX6_match_49 hl rfl (y := (v4 + 1)) rfl (by decide) (fun _ => rfl) hp (fun v8 ls hl hp => ?_)
        refine lv_goto (tgt := 22) C.1 C.2.1 dX6_match_52 (by decide) ?_
        exact ih _ _ _ _ _ _ _ X (lv_sub hl [1, 0] rfl) hp hk

set_option maxHeartbeats 4000000 in
set_option maxRecDepth 100000 in
theorem wl_X6_match_L65 (C : CX K p m c cX6_match 3 s args RX6) (hr : meth.sig.returnType = (some FieldType.int)) (hlk : meth.locks = false) {r : Int32} {h' : Hp} : ∀ (n : Nat) (q6 : Nat) (v14 : Int32) (v15 : Int32) (h9 : Hp) (kont : Int32 → Hp → Option (Int32 × Hp)) (H : Heap) (locs : List Loc) (ls : Array Slot), HX K s.heap H locs h9 → lv_has ls 3 [(0, .ref (K.1 + q6)), (1, .int v14), (2, .int v15)] → P_X6_match_L65 n q6 v14 v15 h9 kont = some (r, h') → (∀ (y0 : Int32) (hk : Hp) (H : Heap) (locs : List Loc) (ls : Array Slot), HX K s.heap H locs hk → lv_has ls 3 [(0, .ref (K.1 + q6)), (1, .int y0)] → kont y0 hk = some (r, h') → W p l e rmX6_match s m args below meth c H locs 0 0 (MQ below (Qi K r h') args s rmX6_match.cells rmX6_match.slots (KA K)) (F0 m 123 ls [])) → W p l e rmX6_match s m args below meth c H locs 0 0 (MQ below (Qi K r h') args s rmX6_match.cells rmX6_match.slots (KA K)) (F0 m 65 ls []) := by
  intro n
  induction n with
  | zero =>
    intro  q6 v14 v15 h9 kont H locs ls X hl hp hk
    cases hp
  | succ n ih =>
    intro  q6 v14 v15 h9 kont H locs ls X hl hp hk
    unfold P_X6_match_L65 at hp
    refine lv_iload_n C.1 C.2.1 dX6_match_65 rfl (lv_at hl 2 rfl) ?_
    refine lv_aload_n C.1 C.2.1 dX6_match_66 rfl (lv_at hl 0 rfl) ?_
    have hrc := (rc_some hp).1
    have hp := (rc_some hp).2
    refine w_ci (cells' := 0) (slots' := 0) X (fun _ _ e => run_V (As := []) (c0 := 6) C X mX6_rows miX6_rows lX6_156 (by decide) rfl hrc (ct_X6_rows l K q6 h9 e) (by decide) (by decide) rfl (Nat.le_of_ble_eq_true rfl) rfl hl.1 dX6_match_67) (by decide) hp (fun v16 h10 H locs X hp => ?_)
    refine lv_icmp_ge (tgt := 123) C.1 C.2.1 dX6_match_70 (by decide) (fun c6 => ?_) (fun c6 => ?_)
    · have hp := if_p _ c6 hp
      exact hk _ _ _ _ _ X (lv_sub hl [0, 1] rfl) hp
    · have hp := if_n _ c6 hp
      refine lv_aload_n C.1 C.2.1 dX6_match_73 rfl (lv_at hl 0 rfl) ?_
      refine w_gr C X fX6_37 rfl dX6_match_74 hp (fun q7 hp => ?_)
      refine lv_iload_n C.1 C.2.1 dX6_match_77 rfl (lv_at hl 2 rfl) ?_
      refine w_al C X dX6_match_78 hp (fun v17 hp => ?_)
      refine lv_iconst (v := 2) C.1 C.2.1 dX6_match_79 (by decide) ?_
      refine lv_icmp_eq (tgt := 86) C.1 C.2.1 dX6_match_80 (by decide) (fun c7 => ?_) (fun c7 => ?_)
      · have hp := if_p _ c7 hp
        refine lv_aload_n C.1 C.2.1 dX6_match_86 rfl (lv_at hl 0 rfl) ?_
        refine w_gr C X fX6_37 rfl dX6_match_87 hp (fun q8 hp => ?_)
        refine lv_iload_n C.1 C.2.1 dX6_match_90 rfl (lv_at hl 2 rfl) ?_
        refine lv_aload_n C.1 C.2.1 dX6_match_91 rfl (lv_at hl 0 rfl) ?_
        refine lv_iload_n C.1 C.2.1 dX6_match_92 rfl (lv_at hl 2 rfl) ?_
        have hrc := (rc_some hp).1
        have hp := (rc_some hp).2
        refine w_ci (cells' := 0) (slots' := 0) X (fun _ _ e => run_V (As := [.int v15]) (c0 := 6) C X mX6_worthOf miX6_worthOf lX6_220 (by decide) rfl hrc (ct_X6_worthOf l K q6 v15 h10 e) (by decide) (by decide) rfl (Nat.le_of_ble_eq_true rfl) rfl hl.1 dX6_match_93) (by decide) hp (fun v18 h11 H locs X hp => ?_)
        refine w_as C X dX6_match_96 hp (fun H locs h12 X hp => ?_)
        refine lv_iload_n C.1 C.2.1 dX6_match_97 rfl (lv_at hl 1 rfl) ?_
        refine lv_if_ne (tgt := 111) C.1 C.2.1 dX6_match_98 (by decide) (fun c8 => ?_) (fun c8 => ?_)
        · have hp := if_n _ c8 hp
          refine lv_iconst (v := 1) C.1 C.2.1 dX6_match_111 (by decide) ?_
          refine lv_goto (tgt := 116) C.1 C.2.1 dX6_match_112 (by decide) ?_
          refine w_istn C (fun v => [(1, .int (v)), (0, .ref (K.1 + q6)), (2, .int v15)]) dX6_match_116 rfl hl (by decide) (fun _ => rfl) hp (fun v19 ls hl hp => ?_)
          refine w_inc (k := 2) C (fun v => [(2, .int (v)), (1, .int v19), (0, .ref (K.1 + q6))]) dX6_match_117 hl rfl (y := (v15 + 1)) rfl (by decide) (fun _ => rfl) hp (fun v20 ls hl hp => ?_)
          refine lv_goto (tgt := 65) C.1 C.2.1 dX6_match_120 (by decide) ?_
          exact ih _ _ _ _ _ _ _ _ X (lv_sub hl [2, 1, 0] rfl) hp hk
        · have hp := if_p _ c8 hp
          refine lv_aload_n C.1 C.2.1 dX6_match_101 rfl (lv_at hl 0 rfl) ?_
          refine w_gr C X fX6_37 rfl dX6_match_102 hp (fun q9 hp => ?_)
          refine lv_iload_n C.1 C.2.1 dX6_match_105 rfl (lv_at hl 2 rfl) ?_
          refine w_al C X dX6_match_106 hp (fun v21 hp => ?_)
          refine lv_iconst (v := 2) C.1 C.2.1 dX6_match_107 (by decide) ?_
          refine lv_icmp_eq (tgt := 115) C.1 C.2.1 dX6_match_108 (by decide) (fun c9 => ?_) (fun c9 => ?_)
          · have hp := if_p _ c9 hp
            refine lv_iconst (v := 0) C.1 C.2.1 dX6_match_115 (by decide) ?_
            refine w_istn C (fun v => [(1, .int (v)), (0, .ref (K.1 + q6)), (2, .int v15)]) dX6_match_116 rfl hl (by decide) (fun _ => rfl) hp (fun v22 ls hl hp => ?_)
            refine w_inc (k := 2) C (fun v => [(2, .int (v)), (1, .int v22), (0, .ref (K.1 + q6))]) dX6_match_117 hl rfl (y := (v15 + 1)) rfl (by decide) (fun _ => rfl) hp (fun v23 ls hl hp => ?_)
            refine lv_goto (tgt := 65) C.1 C.2.1 dX6_match_120 (by decide) ?_
            exact ih _ _ _ _ _ _ _ _ X (lv_sub hl [2, 1, 0] rfl) hp hk
          · have hp := if_n _ c9 hp
            refine lv_iconst (v := 1) C.1 C.2.1 dX6_match_111 (by decide) ?_
            refine lv_goto (tgt := 116) C.1 C.2.1 dX6_match_112 (by decide) ?_
            refine w_istn C (fun v => [(1, .int (v)), (0, .ref (K.1 + q6)), (2, .int v15)]) dX6_match_116 rfl hl (by decide) (fun _ => rfl) hp (fun v24 ls hl hp => ?_)
            refine w_inc (k := 2) C (fun v => [(2, .int (v)), (1, .int v24), (0, .ref (K.1 + q6))]) dX6_match_117 hl rfl (y := (v15 + 1)) rfl (by decide) (fun _ => rfl) hp (fun v25 ls hl hp => ?_)
            refine lv_goto (tgt := 65) C.1 C.2.1 dX6_match_120 (by decide) ?_
            exact ih _ _ _ _ _ _ _ _ X (lv_sub hl [2, 1, 0] rfl) hp hk
      · have hp := if_n _ c7 hp
        refine lv_goto (tgt := 117) C.1 C.2.1 dX6_match_83 (by decide) ?_
        refine w_inc (k := 2) C (fun v => [(2, .int (v)), (0, .ref (K.1 + q6)), (1, .int v14)]) dX6_match_117 hl rfl (y := (v15 + 1)) rfl (by decide) (fun _ => rfl) hp (fun v26 ls hl hp => ?_)
        refine lv_goto (tgt := 65) C.1 C.2.1 dX6_match_120 (by decide) ?_
        exact ih _ _ _ _ _ _ _ _ X (lv_sub hl [1, 2, 0] rfl) hp hk

set_option maxHeartbeats 4000000 in
set_option maxRecDepth 100000 in
theorem wl_X6_match_L57 (C : CX K p m c cX6_match 3 s args RX6) (hr : meth.sig.returnType = (some FieldType.int)) (hlk : meth.locks = false) {r : Int32} {h' : Hp} : ∀ (n : Nat) (q4 : Nat) (v10 : Int32) (h8 : Hp) (H : Heap) (locs : List Loc) (ls : Array Slot), HX K s.heap H locs h8 → lv_has ls 3 [(0, .ref (K.1 + q4)), (1, .int v10)] → P_X6_match_L57 n q4 v10 h8 = some (r, h') → W p l e rmX6_match s m args below meth c H locs 0 0 (MQ below (Qi K r h') args s rmX6_match.cells rmX6_match.slots (KA K)) (F0 m 57 ls []) := by
  intro n
  induction n with
  | zero =>
    intro  q4 v10 h8 H locs ls X hl hp
    cases hp
  | succ n ih =>
    intro  q4 v10 h8 H locs ls X hl hp
    unfold P_X6_match_L57 at hp
    refine lv_iload_n C.1 C.2.1 dX6_match_57 rfl (lv_at hl 1 rfl) ?_
    refine lv_if_eq (tgt := 126) C.1 C.2.1 dX6_match_58 (by decide) (fun c5 => ?_) (fun c5 => ?_)
    · have hp := if_p _ c5 hp
      refine lv_aload_n C.1 C.2.1 dX6_match_126 rfl (lv_at hl 0 rfl) ?_
      refine w_gr C X fX6_37 rfl dX6_match_127 hp (fun q5 hp => ?_)
      refine lv_iconst (v := 0) C.1 C.2.1 dX6_match_130 (by decide) ?_
      refine w_al C X dX6_match_131 hp (fun v11 hp => ?_)
      exact w_reti C X hr hlk (by decide) dX6_match_132 hp
    · have hp := if_n _ c5 hp
      refine lv_iconst (v := 0) C.1 C.2.1 dX6_match_61 (by decide) ?_
      refine w_istn C (fun v => [(1, .int (v)), (0, .ref (K.1 + q4))]) dX6_match_62 rfl hl (by decide) (fun _ => rfl) hp (fun v12 ls hl hp => ?_)
      refine lv_iconst (v := 0) C.1 C.2.1 dX6_match_63 (by decide) ?_
      refine w_istn C (fun v => [(2, .int (v)), (1, .int v12), (0, .ref (K.1 + q4))]) dX6_match_64 rfl hl (by decide) (fun _ => rfl) hp (fun v13 ls hl hp => ?_)
      refine wl_X6_match_L65 C hr hlk _ _ _ _ _ _ _ _ _ X (lv_sub hl [2, 1, 0] rfl) hp (fun v27 h13 H locs ls X hl hp => ?_)
      refine lv_goto (tgt := 57) C.1 C.2.1 dX6_match_123 (by decide) ?_
      exact ih _ _ _ _ _ _ X (lv_sub hl [0, 1] rfl) hp

set_option maxHeartbeats 4000000 in
set_option maxRecDepth 100000 in
theorem ct_X6_match (l : Launch) (K : Kt) (p0 : Nat) (h0 : Hp) {r : Int32} {h' : Hp} (hp : P_X6_match p0 h0 = some (r, h')) : CT l K yX6_match cX6_match 3 (some FieldType.int) rmX6_match [.ref (K.1 + p0)] h0 (Qi K r h') := by
  refine ct_of (own := RX6) (by decide +kernel) rfl (Nat.le_of_ble_eq_true rfl) ?_
  intro p e s m args below meth c C X hr hlk hm ls hl
  have hl : lv_has ls 3 [(0, .ref (K.1 + p0))] := hl
  unfold P_X6_match at hp
  refine lv_aload_n C.1 C.2.1 dX6_match_0 rfl (lv_at hl 0 rfl) ?_
  have hrc := (rc_some hp).1
  have hp := (rc_some hp).2
  refine w_ci (cells' := 0) (slots' := 0) X (fun _ _ e => run_V (As := []) (c0 := 6) C X mX6_isWished miX6_isWished lX6_134 (by decide) rfl hrc (ct_X6_isWished l K p0 h0 e) (by decide) (by decide) rfl (by decide) rfl hl.1 dX6_match_1) (by decide) hp (fun v1 h1 H locs X hp => ?_)
  refine lv_if_eq (tgt := 9) C.1 C.2.1 dX6_match_4 (by decide) (fun c1 => ?_) (fun c1 => ?_)
  · have hp := if_p _ c1 hp
    refine lv_aload_n C.1 C.2.1 dX6_match_9 rfl (lv_at hl 0 rfl) ?_
    refine w_gr C X fX6_13 rfl dX6_match_10 hp (fun q1 hp => ?_)
    refine lv_iconst (v := 2) C.1 C.2.1 dX6_match_13 (by decide) ?_
    refine w_al C X dX6_match_14 hp (fun v2 hp => ?_)
    refine lv_if_ne (tgt := 20) C.1 C.2.1 dX6_match_15 (by decide) (fun c2 => ?_) (fun c2 => ?_)
    · have hp := if_n _ c2 hp
      refine lv_iconst (v := 0) C.1 C.2.1 dX6_match_20 (by decide) ?_
      refine w_istn C (fun v => [(1, .int (v)), (0, .ref (K.1 + p0))]) dX6_match_21 rfl hl (by decide) (fun _ => rfl) hp (fun v3 ls hl hp => ?_)
      refine wl_X6_match_L22 C hr hlk _ _ _ _ _ _ _ _ X (lv_sub hl [1, 0] rfl) hp (fun h7 H locs ls X hl hp => ?_)
      refine lv_iconst (v := 1) C.1 C.2.1 dX6_match_55 (by decide) ?_
      refine w_istn C (fun v => [(1, .int (v)), (0, .ref (K.1 + p0))]) dX6_match_56 rfl hl (by decide) (fun _ => rfl) hp (fun v9 ls hl hp => ?_)
      exact wl_X6_match_L57 C hr hlk _ _ _ _ _ _ _ X (lv_sub hl [1, 0] rfl) hp
    · have hp := if_p _ c2 hp
      refine lv_iconst (v := 2) C.1 C.2.1 dX6_match_18 (by decide) ?_
      exact w_reti C X hr hlk (by decide) dX6_match_19 hp
  · have hp := if_n _ c1 hp
    refine lv_iconst (v := 0) C.1 C.2.1 dX6_match_7 (by decide) ?_
    exact w_reti C X hr hlk (by decide) dX6_match_8 hp

abbrev rmX6_seeds : Room := { frames := 3, cells := 0, slots := 0, locals := 69 }
def P_X6_seeds_L44 : Nat → Nat → Int32 → Int32 → Int32 → Hp → Option (Int32 × Hp)
  | 0, _, _, _, _, _ => none
  | n + 1, q1, v5, v6, v7, h3 =>
    if v5 ≤ v7 then (
    rc h3 q1 6 <| ci (P_X6_stateNow q1 h3) fun v8 h4 =>
    lt (v8 : Int32) fun v9 =>
    rc h4 q1 6 <| cv (P_X6_putsBack q1 h4) fun h5 =>
    some (v9, h5))
    else (
    lt (((v6 * 1664525) + 1013904223) : Int32) fun v10 =>
    gr h3 q1 6 1 fun q2 =>
    al h3 q2 2 fun v11 =>
    nz v11 <|
    rc h3 q1 6 <| ci (P_X6_goes q1 (jrem ((v10 &&& 2147483647) / 256) v11) h3) fun v12 h6 =>
    lt ((v7 + 1) : Int32) fun v13 =>
    P_X6_seeds_L44 n q1 v5 v10 v13 h6)

def P_X6_seeds (p0 : Nat) (a1 : Int32) (a2 : Int32) (h0 : Hp) : Option (Int32 × Hp) :=
    ci (P_X6_within a1 0 99 h0) fun v1 h1 =>
    lt (v1 : Int32) fun v2 =>
    if v2 = 0 then (
    gr h1 p0 6 1 fun q3 =>
    al h1 q3 2 fun v15 =>
    if v15 = 0 then (
    lt ((-3) : Int32) fun v19 =>
    if v19 = 0 then (
    lt (a2 : Int32) fun v20 =>
    rc h1 p0 6 <| cv (P_X6_keeps p0 h1) fun h10 =>
    lt (0 : Int32) fun v21 =>
    P_X6_seeds_L44 FU p0 a1 v20 v21 h10)
    else (
    rc h1 p0 6 <| ci (P_X6_refuse p0 v19 h1) fun v22 h11 =>
    some (v22, h11)))
    else (
    if v2 = 0 then (
    lt (a2 : Int32) fun v16 =>
    rc h1 p0 6 <| cv (P_X6_keeps p0 h1) fun h8 =>
    lt (0 : Int32) fun v17 =>
    P_X6_seeds_L44 FU p0 a1 v16 v17 h8)
    else (
    rc h1 p0 6 <| ci (P_X6_refuse p0 v2 h1) fun v18 h9 =>
    some (v18, h9))))
    else (
    if v2 = 0 then (
    lt (a2 : Int32) fun v3 =>
    rc h1 p0 6 <| cv (P_X6_keeps p0 h1) fun h2 =>
    lt (0 : Int32) fun v4 =>
    P_X6_seeds_L44 FU p0 a1 v3 v4 h2)
    else (
    rc h1 p0 6 <| ci (P_X6_refuse p0 v2 h1) fun v14 h7 =>
    some (v14, h7)))

set_option maxHeartbeats 4000000 in
set_option maxRecDepth 100000 in
theorem wl_X6_seeds_L44 (C : CX K p m c cX6_seeds 6 s args RX6) (hr : meth.sig.returnType = (some FieldType.int)) (hlk : meth.locks = false) {r : Int32} {h' : Hp} : ∀ (n : Nat) (q1 : Nat) (v5 : Int32) (v6 : Int32) (v7 : Int32) (h3 : Hp) (H : Heap) (locs : List Loc) (ls : Array Slot), HX K s.heap H locs h3 → lv_has ls 6 [(0, .ref (K.1 + q1)), (1, .int v5), (4, .int v6), (5, .int v7)] → P_X6_seeds_L44 n q1 v5 v6 v7 h3 = some (r, h') → W p l e rmX6_seeds s m args below meth c H locs 0 0 (MQ below (Qi K r h') args s rmX6_seeds.cells rmX6_seeds.slots (KA K)) (F0 m 44 ls []) := by
  intro n
  induction n with
  | zero =>
    intro  q1 v5 v6 v7 h3 H locs ls X hl hp
    cases hp
  | succ n ih =>
    intro  q1 v5 v6 v7 h3 H locs ls X hl hp
    unfold P_X6_seeds_L44 at hp
    refine lv_iload C.1 C.2.1 dX6_seeds_44 (lv_at hl 3 rfl) ?_
    refine lv_iload_n C.1 C.2.1 dX6_seeds_46 rfl (lv_at hl 1 rfl) ?_
    refine lv_icmp_ge (tgt := 87) C.1 C.2.1 dX6_seeds_47 (by decide) (fun c3 => ?_) (fun c3 => ?_)
    · have hp := if_p _ c3 hp
      refine lv_aload_n C.1 C.2.1 dX6_seeds_87 rfl (lv_at hl 0 rfl) ?_
      have hrc := (rc_some hp).1
      have hp := (rc_some hp).2
      refine w_ci (cells' := 0) (slots' := 0) X (fun _ _ e => run_V (As := []) (c0 := 6) C X mX6_stateNow miX6_stateNow lX6_131 (by decide) rfl hrc (ct_X6_stateNow l K q1 h3 e) (by decide) (by decide) rfl (by decide) rfl hl.1 dX6_seeds_88) (by decide) hp (fun v8 h4 H locs X hp => ?_)
      refine w_ist C (fun v => [(5, .int (v)), (0, .ref (K.1 + q1)), (1, .int v5), (4, .int v6)]) dX6_seeds_91 hl (by decide) (fun _ => rfl) hp (fun v9 ls hl hp => ?_)
      refine lv_aload_n C.1 C.2.1 dX6_seeds_93 rfl (lv_at hl 1 rfl) ?_
      have hrc := (rc_some hp).1
      have hp := (rc_some hp).2
      refine w_cv (cells' := 0) (slots' := 0) X (fun _ e => run_V (As := []) (c0 := 6) C X mX6_putsBack miX6_putsBack lX6_153 (by decide) rfl hrc (ct_X6_putsBack l K q1 h4 e) (by decide) (by decide) rfl (by decide) rfl hl.1 dX6_seeds_94) (by decide) hp (fun h5 H locs X hp => ?_)
      refine lv_iload C.1 C.2.1 dX6_seeds_97 (lv_at hl 0 rfl) ?_
      exact w_reti C X hr hlk (by decide) dX6_seeds_99 hp
    · have hp := if_n _ c3 hp
      refine lv_iload C.1 C.2.1 dX6_seeds_50 (lv_at hl 2 rfl) ?_
      refine lv_ldc C.1 C.2.1 C.2.2.2.1 (C.2.2.2.2.1 _ kX6_223) dX6_seeds_52 ?_
      refine lv_imul C.1 C.2.1 dX6_seeds_54 ?_
      refine lv_ldc C.1 C.2.1 C.2.2.2.1 (C.2.2.2.2.1 _ kX6_224) dX6_seeds_55 ?_
      refine lv_iadd C.1 C.2.1 dX6_seeds_57 ?_
      refine w_ist C (fun v => [(4, .int (v)), (0, .ref (K.1 + q1)), (1, .int v5), (5, .int v7)]) dX6_seeds_58 hl (by decide) (fun _ => rfl) hp (fun v10 ls hl hp => ?_)
      refine lv_aload_n C.1 C.2.1 dX6_seeds_60 rfl (lv_at hl 1 rfl) ?_
      refine lv_iload C.1 C.2.1 dX6_seeds_61 (lv_at hl 0 rfl) ?_
      refine lv_ldc C.1 C.2.1 C.2.2.2.1 (C.2.2.2.2.1 _ kX6_225) dX6_seeds_63 ?_
      refine lv_iand C.1 C.2.1 dX6_seeds_65 ?_
      refine lv_sipush (v := 256) C.1 C.2.1 dX6_seeds_66 (by decide) ?_
      refine lv_idiv C.1 C.2.1 dX6_seeds_69 (by decide) ?_
      refine lv_aload_n C.1 C.2.1 dX6_seeds_70 rfl (lv_at hl 1 rfl) ?_
      refine w_gr C X fX6_13 rfl dX6_seeds_71 hp (fun q2 hp => ?_)
      refine lv_iconst (v := 2) C.1 C.2.1 dX6_seeds_74 (by decide) ?_
      refine w_al C X dX6_seeds_75 hp (fun v11 hp => ?_)
      have hz := (nz_some hp).1
      have hp := (nz_some hp).2
      refine w_rem C dX6_seeds_76 hz ?_
      have hrc := (rc_some hp).1
      have hp := (rc_some hp).2
      refine w_ci (cells' := 0) (slots' := 0) X (fun _ _ e => run_V (As := [.int (jrem ((v10 &&& 2147483647) / 256) v11)]) (c0 := 6) C X mX6_goes miX6_goes lX6_128 (by decide) rfl hrc (ct_X6_goes l K q1 (jrem ((v10 &&& 2147483647) / 256) v11) h3 e) (by decide) (by decide) rfl (by decide) rfl hl.1 dX6_seeds_77) (by decide) hp (fun v12 h6 H locs X hp => ?_)
      refine lv_pop C.1 C.2.1 dX6_seeds_80 rfl ?_
      refine w_inc (k := 3) C (fun v => [(5, .int (v)), (4, .int v10), (0, .ref (K.1 + q1)), (1, .int v5)]) dX6_seeds_81 hl rfl (y := (v7 + 1)) rfl (by decide) (fun _ => rfl) hp (fun v13 ls hl hp => ?_)
      refine lv_goto (tgt := 44) C.1 C.2.1 dX6_seeds_84 (by decide) ?_
      exact ih _ _ _ _ _ _ _ _ X (lv_sub hl [2, 3, 1, 0] rfl) hp

set_option maxHeartbeats 4000000 in
set_option maxRecDepth 100000 in
theorem ct_X6_seeds (l : Launch) (K : Kt) (p0 : Nat) (a1 : Int32) (a2 : Int32) (h0 : Hp) {r : Int32} {h' : Hp} (hp : P_X6_seeds p0 a1 a2 h0 = some (r, h')) : CT l K yX6_seeds cX6_seeds 6 (some FieldType.int) rmX6_seeds [.ref (K.1 + p0), .int a1, .int a2] h0 (Qi K r h') := by
  refine ct_of (own := RX6) (by decide +kernel) rfl (Nat.le_of_ble_eq_true rfl) ?_
  intro p e s m args below meth c C X hr hlk hm ls hl
  have hl : lv_has ls 6 [(0, .ref (K.1 + p0)), (1, .int a1), (2, .int a2)] := hl
  unfold P_X6_seeds at hp
  refine lv_iload_n C.1 C.2.1 dX6_seeds_0 rfl (lv_at hl 1 rfl) ?_
  refine lv_iconst (v := 0) C.1 C.2.1 dX6_seeds_1 (by decide) ?_
  refine lv_bipush (v := 99) C.1 C.2.1 dX6_seeds_2 (by decide) ?_
  refine w_ci (cells' := 0) (slots' := 0) X (fun _ _ e => run_S (As := [.int a1, .int 0, .int 99]) C X mX6_within msX6_within lX6_44 (ct_X6_within l K a1 0 99 h0 e) (by decide) (by decide) rfl (by decide) rfl hl.1 dX6_seeds_4) (by decide) hp (fun v1 h1 H locs X hp => ?_)
  refine w_istn C (fun v => [(3, .int (v)), (0, .ref (K.1 + p0)), (1, .int a1), (2, .int a2)]) dX6_seeds_7 rfl hl (by decide) (fun _ => rfl) hp (fun v2 ls hl hp => ?_)
  refine lv_iload_n C.1 C.2.1 dX6_seeds_8 rfl (lv_at hl 0 rfl) ?_
  refine lv_if_ne (tgt := 24) C.1 C.2.1 dX6_seeds_9 (by decide) (fun c1 => ?_) (fun c1 => ?_)
  · have hp := if_n _ c1 hp
    refine lv_iload_n C.1 C.2.1 dX6_seeds_24 rfl (lv_at hl 0 rfl) ?_
    refine lv_if_eq (tgt := 34) C.1 C.2.1 dX6_seeds_25 (by decide) (fun c2 => ?_) (fun c2 => ?_)
    · have hp := if_p _ c2 hp
      refine lv_iload_n C.1 C.2.1 dX6_seeds_34 rfl (lv_at hl 3 rfl) ?_
      refine w_ist C (fun v => [(4, .int (v)), (3, .int v2), (0, .ref (K.1 + p0)), (1, .int a1), (2, .int a2)]) dX6_seeds_35 hl (by decide) (fun _ => rfl) hp (fun v3 ls hl hp => ?_)
      refine lv_aload_n C.1 C.2.1 dX6_seeds_37 rfl (lv_at hl 2 rfl) ?_
      have hrc := (rc_some hp).1
      have hp := (rc_some hp).2
      refine w_cv (cells' := 0) (slots' := 0) X (fun _ e => run_V (As := []) (c0 := 6) C X mX6_keeps miX6_keeps lX6_147 (by decide) rfl hrc (ct_X6_keeps l K p0 h1 e) (by decide) (by decide) rfl (by decide) rfl hl.1 dX6_seeds_38) (by decide) hp (fun h2 H locs X hp => ?_)
      refine lv_iconst (v := 0) C.1 C.2.1 dX6_seeds_41 (by decide) ?_
      refine w_ist C (fun v => [(5, .int (v)), (4, .int v3), (3, .int v2), (0, .ref (K.1 + p0)), (1, .int a1), (2, .int a2)]) dX6_seeds_42 hl (by decide) (fun _ => rfl) hp (fun v4 ls hl hp => ?_)
      exact wl_X6_seeds_L44 C hr hlk _ _ _ _ _ _ _ _ _ X (lv_sub hl [3, 4, 1, 0] rfl) hp
    · have hp := if_n _ c2 hp
      refine lv_aload_n C.1 C.2.1 dX6_seeds_28 rfl (lv_at hl 1 rfl) ?_
      refine lv_iload_n C.1 C.2.1 dX6_seeds_29 rfl (lv_at hl 0 rfl) ?_
      have hrc := (rc_some hp).1
      have hp := (rc_some hp).2
      refine w_ci (cells' := 0) (slots' := 0) X (fun _ _ e => run_V (As := [.int v2]) (c0 := 6) C X mX6_refuse miX6_refuse lX6_52 (by decide) rfl hrc (ct_X6_refuse l K p0 v2 h1 e) (by decide) (by decide) rfl (by decide) rfl hl.1 dX6_seeds_30) (by decide) hp (fun v14 h7 H locs X hp => ?_)
      exact w_reti C X hr hlk (by decide) dX6_seeds_33 hp
  · have hp := if_p _ c1 hp
    refine lv_aload_n C.1 C.2.1 dX6_seeds_12 rfl (lv_at hl 1 rfl) ?_
    refine w_gr C X fX6_13 rfl dX6_seeds_13 hp (fun q3 hp => ?_)
    refine lv_iconst (v := 2) C.1 C.2.1 dX6_seeds_16 (by decide) ?_
    refine w_al C X dX6_seeds_17 hp (fun v15 hp => ?_)
    refine lv_if_ne (tgt := 24) C.1 C.2.1 dX6_seeds_18 (by decide) (fun c4 => ?_) (fun c4 => ?_)
    · have hp := if_n _ c4 hp
      refine lv_iload_n C.1 C.2.1 dX6_seeds_24 rfl (lv_at hl 0 rfl) ?_
      refine lv_if_eq (tgt := 34) C.1 C.2.1 dX6_seeds_25 (by decide) (fun c5 => ?_) (fun c5 => ?_)
      · have hp := if_p _ c5 hp
        refine lv_iload_n C.1 C.2.1 dX6_seeds_34 rfl (lv_at hl 3 rfl) ?_
        refine w_ist C (fun v => [(4, .int (v)), (3, .int v2), (0, .ref (K.1 + p0)), (1, .int a1), (2, .int a2)]) dX6_seeds_35 hl (by decide) (fun _ => rfl) hp (fun v16 ls hl hp => ?_)
        refine lv_aload_n C.1 C.2.1 dX6_seeds_37 rfl (lv_at hl 2 rfl) ?_
        have hrc := (rc_some hp).1
        have hp := (rc_some hp).2
        refine w_cv (cells' := 0) (slots' := 0) X (fun _ e => run_V (As := []) (c0 := 6) C X mX6_keeps miX6_keeps lX6_147 (by decide) rfl hrc (ct_X6_keeps l K p0 h1 e) (by decide) (by decide) rfl (by decide) rfl hl.1 dX6_seeds_38) (by decide) hp (fun h8 H locs X hp => ?_)
        refine lv_iconst (v := 0) C.1 C.2.1 dX6_seeds_41 (by decide) ?_
        refine w_ist C (fun v => [(5, .int (v)), (4, .int v16), (3, .int v2), (0, .ref (K.1 + p0)), (1, .int a1), (2, .int a2)]) dX6_seeds_42 hl (by decide) (fun _ => rfl) hp (fun v17 ls hl hp => ?_)
        exact wl_X6_seeds_L44 C hr hlk _ _ _ _ _ _ _ _ _ X (lv_sub hl [3, 4, 1, 0] rfl) hp
      · have hp := if_n _ c5 hp
        refine lv_aload_n C.1 C.2.1 dX6_seeds_28 rfl (lv_at hl 1 rfl) ?_
        refine lv_iload_n C.1 C.2.1 dX6_seeds_29 rfl (lv_at hl 0 rfl) ?_
        have hrc := (rc_some hp).1
        have hp := (rc_some hp).2
        refine w_ci (cells' := 0) (slots' := 0) X (fun _ _ e => run_V (As := [.int v2]) (c0 := 6) C X mX6_refuse miX6_refuse lX6_52 (by decide) rfl hrc (ct_X6_refuse l K p0 v2 h1 e) (by decide) (by decide) rfl (by decide) rfl hl.1 dX6_seeds_30) (by decide) hp (fun v18 h9 H locs X hp => ?_)
        exact w_reti C X hr hlk (by decide) dX6_seeds_33 hp
    · have hp := if_p _ c4 hp
      refine lv_bipush (v := -3) C.1 C.2.1 dX6_seeds_21 (by decide) ?_
      refine w_istn C (fun v => [(3, .int (v)), (0, .ref (K.1 + p0)), (1, .int a1), (2, .int a2)]) dX6_seeds_23 rfl hl (by decide) (fun _ => rfl) hp (fun v19 ls hl hp => ?_)
      refine lv_iload_n C.1 C.2.1 dX6_seeds_24 rfl (lv_at hl 0 rfl) ?_
      refine lv_if_eq (tgt := 34) C.1 C.2.1 dX6_seeds_25 (by decide) (fun c6 => ?_) (fun c6 => ?_)
      · have hp := if_p _ c6 hp
        refine lv_iload_n C.1 C.2.1 dX6_seeds_34 rfl (lv_at hl 3 rfl) ?_
        refine w_ist C (fun v => [(4, .int (v)), (3, .int v19), (0, .ref (K.1 + p0)), (1, .int a1), (2, .int a2)]) dX6_seeds_35 hl (by decide) (fun _ => rfl) hp (fun v20 ls hl hp => ?_)
        refine lv_aload_n C.1 C.2.1 dX6_seeds_37 rfl (lv_at hl 2 rfl) ?_
        have hrc := (rc_some hp).1
        have hp := (rc_some hp).2
        refine w_cv (cells' := 0) (slots' := 0) X (fun _ e => run_V (As := []) (c0 := 6) C X mX6_keeps miX6_keeps lX6_147 (by decide) rfl hrc (ct_X6_keeps l K p0 h1 e) (by decide) (by decide) rfl (by decide) rfl hl.1 dX6_seeds_38) (by decide) hp (fun h10 H locs X hp => ?_)
        refine lv_iconst (v := 0) C.1 C.2.1 dX6_seeds_41 (by decide) ?_
        refine w_ist C (fun v => [(5, .int (v)), (4, .int v20), (3, .int v19), (0, .ref (K.1 + p0)), (1, .int a1), (2, .int a2)]) dX6_seeds_42 hl (by decide) (fun _ => rfl) hp (fun v21 ls hl hp => ?_)
        exact wl_X6_seeds_L44 C hr hlk _ _ _ _ _ _ _ _ _ X (lv_sub hl [3, 4, 1, 0] rfl) hp
      · have hp := if_n _ c6 hp
        refine lv_aload_n C.1 C.2.1 dX6_seeds_28 rfl (lv_at hl 1 rfl) ?_
        refine lv_iload_n C.1 C.2.1 dX6_seeds_29 rfl (lv_at hl 0 rfl) ?_
        have hrc := (rc_some hp).1
        have hp := (rc_some hp).2
        refine w_ci (cells' := 0) (slots' := 0) X (fun _ _ e => run_V (As := [.int v19]) (c0 := 6) C X mX6_refuse miX6_refuse lX6_52 (by decide) rfl hrc (ct_X6_refuse l K p0 v19 h1 e) (by decide) (by decide) rfl (by decide) rfl hl.1 dX6_seeds_30) (by decide) hp (fun v22 h11 H locs X hp => ?_)
        exact w_reti C X hr hlk (by decide) dX6_seeds_33 hp

abbrev rmX6_image : Room := { frames := 1, cells := 0, slots := 0, locals := 22 }
def P_X6_image (p0 : Nat) (h0 : Hp) : Option (Int32 × Hp) :=
    gr h0 p0 6 1 fun q1 =>
    gr h0 p0 6 2 fun q2 =>
    cv (P_X6_copies q1 q2 h0) fun h1 =>
    pi h1 p0 6 4 1 fun h2 =>
    gr h2 p0 6 1 fun q3 =>
    al h2 q3 2 fun v1 =>
    some (v1, h2)

set_option maxHeartbeats 4000000 in
set_option maxRecDepth 100000 in
theorem ct_X6_image (l : Launch) (K : Kt) (p0 : Nat) (h0 : Hp) {r : Int32} {h' : Hp} (hp : P_X6_image p0 h0 = some (r, h')) : CT l K yX6_image cX6_image 1 (some FieldType.int) rmX6_image [.ref (K.1 + p0)] h0 (Qi K r h') := by
  refine ct_of (own := RX6) (by decide +kernel) rfl (Nat.le_of_ble_eq_true rfl) ?_
  intro p e s m args below meth c C X hr hlk hm ls hl
  have hl : lv_has ls 1 [(0, .ref (K.1 + p0))] := hl
  unfold P_X6_image at hp
  refine lv_aload_n C.1 C.2.1 dX6_image_0 rfl (lv_at hl 0 rfl) ?_
  refine w_gr C X fX6_13 rfl dX6_image_1 hp (fun q1 hp => ?_)
  refine lv_aload_n C.1 C.2.1 dX6_image_4 rfl (lv_at hl 0 rfl) ?_
  refine w_gr C X fX6_16 rfl dX6_image_5 hp (fun q2 hp => ?_)
  refine w_cv (cells' := 0) (slots' := 0) X (fun _ e => run_S (As := [.ref (K.1 + q1), .ref (K.1 + q2)]) C X mX6_copies msX6_copies lX6_95 (ct_X6_copies l K q1 q2 h0 e) (by decide) (by decide) rfl (by decide) rfl hl.1 dX6_image_8) (by decide) hp (fun h1 H locs X hp => ?_)
  refine lv_aload_n C.1 C.2.1 dX6_image_11 rfl (lv_at hl 0 rfl) ?_
  refine lv_iconst (v := 1) C.1 C.2.1 dX6_image_12 (by decide) ?_
  refine w_pi C X fX6_226 rfl rfl rfl rfl dX6_image_13 hp (fun H locs h2 X hp => ?_)
  refine lv_aload_n C.1 C.2.1 dX6_image_16 rfl (lv_at hl 0 rfl) ?_
  refine w_gr C X fX6_13 rfl dX6_image_17 hp (fun q3 hp => ?_)
  refine lv_iconst (v := 2) C.1 C.2.1 dX6_image_20 (by decide) ?_
  refine w_al C X dX6_image_21 hp (fun v1 hp => ?_)
  exact w_reti C X hr hlk (by decide) dX6_image_22 hp

abbrev rmX6_on : Room := { frames := 1, cells := 0, slots := 0, locals := 22 }
def P_X6_on (p0 : Nat) (h0 : Hp) : Option (Int32 × Hp) :=
    gi h0 p0 6 4 fun v1 =>
    if v1 = 0 then (
    rc h0 p0 6 <| ci (P_X6_refuse p0 (-3) h0) fun v3 h2 =>
    some (v3, h2))
    else (
    gr h0 p0 6 2 fun q1 =>
    gr h0 p0 6 1 fun q2 =>
    cv (P_X6_copies q1 q2 h0) fun h1 =>
    gr h1 p0 6 1 fun q3 =>
    al h1 q3 2 fun v2 =>
    some (v2, h1))

set_option maxHeartbeats 4000000 in
set_option maxRecDepth 100000 in
theorem ct_X6_on (l : Launch) (K : Kt) (p0 : Nat) (h0 : Hp) {r : Int32} {h' : Hp} (hp : P_X6_on p0 h0 = some (r, h')) : CT l K yX6_on cX6_on 1 (some FieldType.int) rmX6_on [.ref (K.1 + p0)] h0 (Qi K r h') := by
  refine ct_of (own := RX6) (by decide +kernel) rfl (Nat.le_of_ble_eq_true rfl) ?_
  intro p e s m args below meth c C X hr hlk hm ls hl
  have hl : lv_has ls 1 [(0, .ref (K.1 + p0))] := hl
  unfold P_X6_on at hp
  refine lv_aload_n C.1 C.2.1 dX6_on_0 rfl (lv_at hl 0 rfl) ?_
  refine w_gi C X fX6_226 rfl dX6_on_1 hp (fun v1 hp => ?_)
  refine lv_if_ne (tgt := 14) C.1 C.2.1 dX6_on_4 (by decide) (fun c1 => ?_) (fun c1 => ?_)
  · have hp := if_n _ c1 hp
    refine lv_aload_n C.1 C.2.1 dX6_on_14 rfl (lv_at hl 0 rfl) ?_
    refine w_gr C X fX6_16 rfl dX6_on_15 hp (fun q1 hp => ?_)
    refine lv_aload_n C.1 C.2.1 dX6_on_18 rfl (lv_at hl 0 rfl) ?_
    refine w_gr C X fX6_13 rfl dX6_on_19 hp (fun q2 hp => ?_)
    refine w_cv (cells' := 0) (slots' := 0) X (fun _ e => run_S (As := [.ref (K.1 + q1), .ref (K.1 + q2)]) C X mX6_copies msX6_copies lX6_95 (ct_X6_copies l K q1 q2 h0 e) (by decide) (by decide) rfl (by decide) rfl hl.1 dX6_on_22) (by decide) hp (fun h1 H locs X hp => ?_)
    refine lv_aload_n C.1 C.2.1 dX6_on_25 rfl (lv_at hl 0 rfl) ?_
    refine w_gr C X fX6_13 rfl dX6_on_26 hp (fun q3 hp => ?_)
    refine lv_iconst (v := 2) C.1 C.2.1 dX6_on_29 (by decide) ?_
    refine w_al C X dX6_on_30 hp (fun v2 hp => ?_)
    exact w_reti C X hr hlk (by decide) dX6_on_31 hp
  · have hp := if_p _ c1 hp
    refine lv_aload_n C.1 C.2.1 dX6_on_7 rfl (lv_at hl 0 rfl) ?_
    refine lv_bipush (v := -3) C.1 C.2.1 dX6_on_8 (by decide) ?_
    have hrc := (rc_some hp).1
    have hp := (rc_some hp).2
    refine w_ci (cells' := 0) (slots' := 0) X (fun _ _ e => run_V (As := [.int (-3)]) (c0 := 6) C X mX6_refuse miX6_refuse lX6_52 (by decide) rfl hrc (ct_X6_refuse l K p0 (-3) h0 e) (by decide) (by decide) rfl (by decide) rfl hl.1 dX6_on_10) (by decide) hp (fun v3 h2 H locs X hp => ?_)
    exact w_reti C X hr hlk (by decide) dX6_on_13 hp

end
