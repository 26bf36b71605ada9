noncomputable section
variable {p : Program} {l : Launch} {e : Env} {s : State} {m : MethodId} {args : Array Value} {below : List Frame} {meth : Method} {c : Code} {K : Kt}
abbrev rmX0_obeys : Room := { frames := 3, cells := 1, slots := 4, locals := 67 }
def P_X0_obeys (p0 : Nat) (p1 : Nat) (h0 : Hp) : Option (Int32 × Hp) :=
    gi h0 p1 3 3 fun v1 =>
    if v1 = 104 then (
    rc h0 p0 0 <| ci (P_X0_obeysStand p0 p1 h0) fun v2 h1 =>
    bz v2 <| some (v2, h1))
    else if v1 = 107 then (
    rc h0 p1 3 <| ci (P_X3_numberAt p1 0 h0) fun v3 h2 =>
    rc h2 p0 0 <| ci (P_X0_obeysColours p0 v3 h2) fun v4 h3 =>
    bz v4 <| some (v4, h3))
    else if v1 = 110 then (
    rc h0 p1 3 <| ci (P_X3_numberAt p1 0 h0) fun v5 h4 =>
    rc h4 p0 0 <| ci (P_X0_obeysDoors p0 v5 h4) fun v6 h5 =>
    bz v6 <| some (v6, h5))
    else if v1 = 112 then (
    rc h0 p0 0 <| ci (P_X0_obeysPerson p0 p1 h0) fun v7 h6 =>
    bz v7 <| some (v7, h6))
    else if v1 = 115 then (
    rc h0 p1 3 <| ci (P_X3_numberAt p1 0 h0) fun v8 h7 =>
    rc h7 p0 0 <| ci (P_X0_obeysStuck p0 v8 h7) fun v9 h8 =>
    bz v9 <| some (v9, h8))
    else if v1 = 119 then (
    rc h0 p0 0 <| ci (P_X0_obeysWish p0 p1 h0) fun v10 h9 =>
    bz v10 <| some (v10, h9))
    else (
    some (0, h0))

set_option maxHeartbeats 4000000 in
set_option maxRecDepth 100000 in
theorem ct_X0_obeys (l : Launch) (K : Kt) (p0 : Nat) (p1 : Nat) (h0 : Hp) {r : Int32} {h' : Hp} (hp : P_X0_obeys p0 p1 h0 = some (r, h')) : CT l K yX0_obeys cX0_obeys 2 (some FieldType.boolean) rmX0_obeys [.ref (K.1 + p0), .ref (K.1 + p1)] h0 (Qi K r h') := by
  refine ct_of (own := RX0) (by decide +kernel) rfl (Nat.le_of_ble_eq_true rfl) ?_
  intro p e s m args below meth c C X hr hlk hm ls hl
  have hl : lv_has ls 2 [(0, .ref (K.1 + p0)), (1, .ref (K.1 + p1))] := hl
  unfold P_X0_obeys at hp
  refine lv_aload_n C.1 C.2.1 dX0_obeys_0 rfl (lv_at hl 1 rfl) ?_
  refine w_gi C X fX0_80 rfl dX0_obeys_1 hp (fun v1 hp => ?_)
  by_cases c1 : v1 = 104
  · have hp := if_p _ c1 hp
    refine w_tsC (tgt := 126) C dX0_obeys_4 c1 (by decide) (by decide) rfl (by decide) ?_
    refine lv_aload_n C.1 C.2.1 dX0_obeys_126 rfl (lv_at hl 0 rfl) ?_
    refine lv_aload_n C.1 C.2.1 dX0_obeys_127 rfl (lv_at hl 1 rfl) ?_
    have hrc := (rc_some hp).1
    have hp := (rc_some hp).2
    refine w_ci (cells' := 0) (slots' := 0) X (fun _ _ e => run_V (As := [.ref (K.1 + p1)]) (c0 := 0) C X mX0_obeysStand miX0_obeysStand lX0_104 (by decide) rfl hrc (ct_X0_obeysStand l K p0 p1 h0 e) (by decide) (by decide) rfl (by decide) rfl hl.1 dX0_obeys_128) (by decide) hp (fun v2 h1 H locs X hp => ?_)
    exact w_retz C X hr hlk (by decide) (bz_some hp).1 dX0_obeys_131 (bz_some hp).2
  · have hp := if_n _ c1 hp
    by_cases c2 : v1 = 107
    · have hp := if_p _ c2 hp
      refine w_tsC (tgt := 94) C dX0_obeys_4 c2 (by decide) (by decide) rfl (by decide) ?_
      refine lv_aload_n C.1 C.2.1 dX0_obeys_94 rfl (lv_at hl 0 rfl) ?_
      refine lv_aload_n C.1 C.2.1 dX0_obeys_95 rfl (lv_at hl 1 rfl) ?_
      refine lv_iconst (v := 0) C.1 C.2.1 dX0_obeys_96 (by decide) ?_
      have hrc := (rc_some hp).1
      have hp := (rc_some hp).2
      refine w_ci (cells' := 0) (slots' := 0) X (fun _ _ e => run_VN (As := [.int 0]) (c0 := 3) C X mX3_numberAt miX3_numberAt lX0_85 (by decide) rfl hrc (ct_X3_numberAt l K p1 0 h0 e) (by decide) (by decide) rfl (Nat.le_of_ble_eq_true rfl) rfl hl.1 dX0_obeys_97) (by decide) hp (fun v3 h2 H locs X hp => ?_)
      have hrc := (rc_some hp).1
      have hp := (rc_some hp).2
      refine w_ci (cells' := 0) (slots' := 0) X (fun _ _ e => run_V (As := [.int v3]) (c0 := 0) C X mX0_obeysColours miX0_obeysColours lX0_91 (by decide) rfl hrc (ct_X0_obeysColours l K p0 v3 h2 e) (by decide) (by decide) rfl (by decide) rfl hl.1 dX0_obeys_100) (by decide) hp (fun v4 h3 H locs X hp => ?_)
      exact w_retz C X hr hlk (by decide) (bz_some hp).1 dX0_obeys_103 (bz_some hp).2
    · have hp := if_n _ c2 hp
      by_cases c3 : v1 = 110
      · have hp := if_p _ c3 hp
        refine w_tsC (tgt := 84) C dX0_obeys_4 c3 (by decide) (by decide) rfl (by decide) ?_
        refine lv_aload_n C.1 C.2.1 dX0_obeys_84 rfl (lv_at hl 0 rfl) ?_
        refine lv_aload_n C.1 C.2.1 dX0_obeys_85 rfl (lv_at hl 1 rfl) ?_
        refine lv_iconst (v := 0) C.1 C.2.1 dX0_obeys_86 (by decide) ?_
        have hrc := (rc_some hp).1
        have hp := (rc_some hp).2
        refine w_ci (cells' := 0) (slots' := 0) X (fun _ _ e => run_VN (As := [.int 0]) (c0 := 3) C X mX3_numberAt miX3_numberAt lX0_85 (by decide) rfl hrc (ct_X3_numberAt l K p1 0 h0 e) (by decide) (by decide) rfl (Nat.le_of_ble_eq_true rfl) rfl hl.1 dX0_obeys_87) (by decide) hp (fun v5 h4 H locs X hp => ?_)
        have hrc := (rc_some hp).1
        have hp := (rc_some hp).2
        refine w_ci (cells' := 0) (slots' := 0) X (fun _ _ e => run_V (As := [.int v5]) (c0 := 0) C X mX0_obeysDoors miX0_obeysDoors lX0_88 (by decide) rfl hrc (ct_X0_obeysDoors l K p0 v5 h4 e) (by decide) (by decide) rfl (by decide) rfl hl.1 dX0_obeys_90) (by decide) hp (fun v6 h5 H locs X hp => ?_)
        exact w_retz C X hr hlk (by decide) (bz_some hp).1 dX0_obeys_93 (bz_some hp).2
      · have hp := if_n _ c3 hp
        by_cases c4 : v1 = 112
        · have hp := if_p _ c4 hp
          refine w_tsC (tgt := 104) C dX0_obeys_4 c4 (by decide) (by decide) rfl (by decide) ?_
          refine lv_aload_n C.1 C.2.1 dX0_obeys_104 rfl (lv_at hl 0 rfl) ?_
          refine lv_aload_n C.1 C.2.1 dX0_obeys_105 rfl (lv_at hl 1 rfl) ?_
          have hrc := (rc_some hp).1
          have hp := (rc_some hp).2
          refine w_ci (cells' := 1) (slots' := 4) X (fun _ _ e => run_V (As := [.ref (K.1 + p1)]) (c0 := 0) C X mX0_obeysPerson miX0_obeysPerson lX0_94 (by decide) rfl hrc (ct_X0_obeysPerson l K p0 p1 h0 e) (by decide) (by decide) rfl (by decide) rfl hl.1 dX0_obeys_106) (by decide) hp (fun v7 h6 H locs X hp => ?_)
          exact w_retz C X hr hlk (by decide) (bz_some hp).1 dX0_obeys_109 (bz_some hp).2
        · have hp := if_n _ c4 hp
          by_cases c5 : v1 = 115
          · have hp := if_p _ c5 hp
            refine w_tsC (tgt := 110) C dX0_obeys_4 c5 (by decide) (by decide) rfl (by decide) ?_
            refine lv_aload_n C.1 C.2.1 dX0_obeys_110 rfl (lv_at hl 0 rfl) ?_
            refine lv_aload_n C.1 C.2.1 dX0_obeys_111 rfl (lv_at hl 1 rfl) ?_
            refine lv_iconst (v := 0) C.1 C.2.1 dX0_obeys_112 (by decide) ?_
            have hrc := (rc_some hp).1
            have hp := (rc_some hp).2
            refine w_ci (cells' := 0) (slots' := 0) X (fun _ _ e => run_VN (As := [.int 0]) (c0 := 3) C X mX3_numberAt miX3_numberAt lX0_85 (by decide) rfl hrc (ct_X3_numberAt l K p1 0 h0 e) (by decide) (by decide) rfl (Nat.le_of_ble_eq_true rfl) rfl hl.1 dX0_obeys_113) (by decide) hp (fun v8 h7 H locs X hp => ?_)
            have hrc := (rc_some hp).1
            have hp := (rc_some hp).2
            refine w_ci (cells' := 0) (slots' := 0) X (fun _ _ e => run_V (As := [.int v8]) (c0 := 0) C X mX0_obeysStuck miX0_obeysStuck lX0_98 (by decide) rfl hrc (ct_X0_obeysStuck l K p0 v8 h7 e) (by decide) (by decide) rfl (by decide) rfl hl.1 dX0_obeys_116) (by decide) hp (fun v9 h8 H locs X hp => ?_)
            exact w_retz C X hr hlk (by decide) (bz_some hp).1 dX0_obeys_119 (bz_some hp).2
          · have hp := if_n _ c5 hp
            by_cases c6 : v1 = 119
            · have hp := if_p _ c6 hp
              refine w_tsC (tgt := 120) C dX0_obeys_4 c6 (by decide) (by decide) rfl (by decide) ?_
              refine lv_aload_n C.1 C.2.1 dX0_obeys_120 rfl (lv_at hl 0 rfl) ?_
              refine lv_aload_n C.1 C.2.1 dX0_obeys_121 rfl (lv_at hl 1 rfl) ?_
              have hrc := (rc_some hp).1
              have hp := (rc_some hp).2
              refine w_ci (cells' := 0) (slots' := 0) X (fun _ _ e => run_V (As := [.ref (K.1 + p1)]) (c0 := 0) C X mX0_obeysWish miX0_obeysWish lX0_101 (by decide) rfl hrc (ct_X0_obeysWish l K p0 p1 h0 e) (by decide) (by decide) rfl (by decide) rfl hl.1 dX0_obeys_122) (by decide) hp (fun v10 h9 H locs X hp => ?_)
              exact w_retz C X hr hlk (by decide) (bz_some hp).1 dX0_obeys_125 (bz_some hp).2
            · have hp := if_n _ c6 hp
              refine w_tsD (tgt := 132) C [104, 107, 110, 112, 115, 119] dX0_obeys_4 (by intro k hk; simp only [List.mem_cons, List.not_mem_nil, or_false] at hk; rcases hk with hk | hk | hk | hk | hk | hk <;> subst hk <;> assumption) (by decide) (by decide) (by decide) ?_
              refine lv_iconst (v := 0) C.1 C.2.1 dX0_obeys_132 (by decide) ?_
              exact w_retz C X hr hlk (by decide) (by decide) dX0_obeys_133 hp

abbrev rmX1_init : Room := { frames := 1, cells := 3, slots := 6561, locals := 20 }
def P_X1_init (p0 : Nat) (h0 : Hp) : Option (Hp) :=
    na h0 2187 fun q1 h1 =>
    pr h1 p0 1 0 q1 fun h2 =>
    na h2 2187 fun q2 h3 =>
    pr h3 p0 1 1 q2 fun h4 =>
    na h4 2187 fun q3 h5 =>
    pr h5 p0 1 2 q3 fun h6 =>
    some h6

set_option maxHeartbeats 4000000 in
set_option maxRecDepth 100000 in
theorem ct_X1_init (l : Launch) (K : Kt) (p0 : Nat) (h0 : Hp) {h' : Hp} (hp : P_X1_init p0 h0 = some h') : CT l K yX1_init cX1_init 1 none rmX1_init [.ref (K.1 + p0)] h0 (Qv K h') := by
  refine ct_of (own := RX1) (by decide +kernel) rfl (Nat.le_of_ble_eq_true rfl) ?_
  intro p e s m args below meth c C X hr hlk hm ls hl
  have hl : lv_has ls 1 [(0, .ref (K.1 + p0))] := hl
  unfold P_X1_init at hp
  refine lv_aload_n C.1 C.2.1 dX1_init_0 rfl (lv_at hl 0 rfl) ?_
  refine w_oi0 C lX1_3 hl.1 (by decide) (by decide) dX1_init_1 ?_
  refine lv_aload_n C.1 C.2.1 dX1_init_4 rfl (lv_at hl 0 rfl) ?_
  refine lv_sipush (v := 2187) C.1 C.2.1 dX1_init_5 (by decide) ?_
  refine w_na (cells' := 1) (slots' := 2187) (N := 2187) C X (by decide +kernel) (by decide) (by decide) (by decide) dX1_init_8 hp (fun q1 h1 H locs X hp => ?_)
  refine w_prf C X fX1_9 rfl rfl hm rfl flX1_9 (fun _ => rfl) (fun _ => rfl) dX1_init_10 hp (fun H locs h2 X hp => ?_)
  refine lv_aload_n C.1 C.2.1 dX1_init_13 rfl (lv_at hl 0 rfl) ?_
  refine lv_sipush (v := 2187) C.1 C.2.1 dX1_init_14 (by decide) ?_
  refine w_na (cells' := 2) (slots' := 4374) (N := 2187) C X (by decide +kernel) (by decide) (by decide) (by decide) dX1_init_17 hp (fun q2 h3 H locs X hp => ?_)
  refine w_prf C X fX1_15 rfl rfl hm rfl flX1_15 (fun _ => rfl) (fun _ => rfl) dX1_init_19 hp (fun H locs h4 X hp => ?_)
  refine lv_aload_n C.1 C.2.1 dX1_init_22 rfl (lv_at hl 0 rfl) ?_
  refine lv_sipush (v := 2187) C.1 C.2.1 dX1_init_23 (by decide) ?_
  refine w_na (cells' := 3) (slots' := 6561) (N := 2187) C X (by decide +kernel) (by decide) (by decide) (by decide) dX1_init_26 hp (fun q3 h5 H locs X hp => ?_)
  refine w_prf C X fX1_18 rfl rfl hm rfl flX1_18 (fun _ => rfl) (fun _ => rfl) dX1_init_28 hp (fun H locs h6 X hp => ?_)
  exact w_retv C X hr hlk (by decide) dX1_init_31 hp

abbrev rmX4_endOf : Room := { frames := 0, cells := 0, slots := 0, locals := 0 }
def P_X4_endOf (p0 : Nat) (a1 : Int32) (h0 : Hp) : Option (Int32 × Hp) :=
    if a1 < 0 then (
    some (0, h0))
    else (
    gi h0 p0 4 3 fun v1 =>
    if v1 ≤ a1 then (
    some (0, h0))
    else (
    gr h0 p0 4 0 fun q1 =>
    ln h0 q1 fun v2 =>
    if v2 ≤ a1 then (
    some (0, h0))
    else (
    gr h0 p0 4 0 fun q2 =>
    al h0 q2 a1 fun v3 =>
    some (v3, h0))))

set_option maxHeartbeats 4000000 in
set_option maxRecDepth 100000 in
theorem ct_X4_endOf (l : Launch) (K : Kt) (p0 : Nat) (a1 : Int32) (h0 : Hp) {r : Int32} {h' : Hp} (hp : P_X4_endOf p0 a1 h0 = some (r, h')) : CT l K yX4_endOf cX4_endOf 2 (some FieldType.int) rmX4_endOf [.ref (K.1 + p0), .int a1] h0 (Qi K r h') := by
  refine ct_of (own := RX4) (by decide +kernel) rfl (Nat.le_of_ble_eq_true rfl) ?_
  intro p e s m args below meth c C X hr hlk hm ls hl
  have hl : lv_has ls 2 [(0, .ref (K.1 + p0)), (1, .int a1)] := hl
  unfold P_X4_endOf at hp
  refine lv_iload_n C.1 C.2.1 dX4_endOf_0 rfl (lv_at hl 1 rfl) ?_
  refine lv_if_lt (tgt := 30) C.1 C.2.1 dX4_endOf_1 (by decide) (fun c1 => ?_) (fun c1 => ?_)
  · have hp := if_p _ c1 hp
    refine lv_iconst (v := 0) C.1 C.2.1 dX4_endOf_30 (by decide) ?_
    exact w_reti C X hr hlk (by decide) dX4_endOf_31 hp
  · have hp := if_n _ c1 hp
    refine lv_iload_n C.1 C.2.1 dX4_endOf_4 rfl (lv_at hl 1 rfl) ?_
    refine lv_aload_n C.1 C.2.1 dX4_endOf_5 rfl (lv_at hl 0 rfl) ?_
    refine w_gi C X fX4_32 rfl dX4_endOf_6 hp (fun v1 hp => ?_)
    refine lv_icmp_ge (tgt := 30) C.1 C.2.1 dX4_endOf_9 (by decide) (fun c2 => ?_) (fun c2 => ?_)
    · have hp := if_p _ c2 hp
      refine lv_iconst (v := 0) C.1 C.2.1 dX4_endOf_30 (by decide) ?_
      exact w_reti C X hr hlk (by decide) dX4_endOf_31 hp
    · have hp := if_n _ c2 hp
      refine lv_iload_n C.1 C.2.1 dX4_endOf_12 rfl (lv_at hl 1 rfl) ?_
      refine lv_aload_n C.1 C.2.1 dX4_endOf_13 rfl (lv_at hl 0 rfl) ?_
      refine w_gr C X fX4_9 rfl dX4_endOf_14 hp (fun q1 hp => ?_)
      refine w_ln C X dX4_endOf_17 hp (fun v2 hp => ?_)
      refine lv_icmp_ge (tgt := 30) C.1 C.2.1 dX4_endOf_18 (by decide) (fun c3 => ?_) (fun c3 => ?_)
      · have hp := if_p _ c3 hp
        refine lv_iconst (v := 0) C.1 C.2.1 dX4_endOf_30 (by decide) ?_
        exact w_reti C X hr hlk (by decide) dX4_endOf_31 hp
      · have hp := if_n _ c3 hp
        refine lv_aload_n C.1 C.2.1 dX4_endOf_21 rfl (lv_at hl 0 rfl) ?_
        refine w_gr C X fX4_9 rfl dX4_endOf_22 hp (fun q2 hp => ?_)
        refine lv_iload_n C.1 C.2.1 dX4_endOf_25 rfl (lv_at hl 1 rfl) ?_
        refine w_al C X dX4_endOf_26 hp (fun v3 hp => ?_)
        refine lv_goto (tgt := 31) C.1 C.2.1 dX4_endOf_27 (by decide) ?_
        exact w_reti C X hr hlk (by decide) dX4_endOf_31 hp

abbrev rmX1_settle : Room := { frames := 0, cells := 0, slots := 0, locals := 0 }
def P_X1_settle (p0 : Nat) (a1 : Int32) (a2 : Int32) (h0 : Hp) : Option (Hp) :=
    if a1 < 0 then (
    some h0)
    else (
    gr h0 p0 1 0 fun q1 =>
    ln h0 q1 fun v1 =>
    if v1 ≤ a1 then (
    some h0)
    else (
    gi h0 p0 1 3 fun v2 =>
    if v2 < 0 then (
    some h0)
    else (
    gi h0 p0 1 3 fun v3 =>
    gr h0 p0 1 2 fun q2 =>
    ln h0 q2 fun v4 =>
    if v4 ≤ v3 then (
    some h0)
    else (
    gr h0 p0 1 0 fun q3 =>
    as h0 q3 a1 a2 fun h1 =>
    gr h1 p0 1 2 fun q4 =>
    gi h1 p0 1 3 fun v5 =>
    as h1 q4 v5 a1 fun h2 =>
    gi h2 p0 1 3 fun v6 =>
    pi h2 p0 1 3 (v6 + 1) fun h3 =>
    some h3))))

set_option maxHeartbeats 4000000 in
set_option maxRecDepth 100000 in
theorem ct_X1_settle (l : Launch) (K : Kt) (p0 : Nat) (a1 : Int32) (a2 : Int32) (h0 : Hp) {h' : Hp} (hp : P_X1_settle p0 a1 a2 h0 = some h') : CT l K yX1_settle cX1_settle 3 none rmX1_settle [.ref (K.1 + p0), .int a1, .int a2] h0 (Qv K h') := by
  refine ct_of (own := RX1) (by decide +kernel) rfl (Nat.le_of_ble_eq_true rfl) ?_
  intro p e s m args below meth c C X hr hlk hm ls hl
  have hl : lv_has ls 3 [(0, .ref (K.1 + p0)), (1, .int a1), (2, .int a2)] := hl
  unfold P_X1_settle at hp
  refine lv_iload_n C.1 C.2.1 dX1_settle_0 rfl (lv_at hl 1 rfl) ?_
  refine lv_if_lt (tgt := 59) C.1 C.2.1 dX1_settle_1 (by decide) (fun c1 => ?_) (fun c1 => ?_)
  · have hp := if_p _ c1 hp
    exact w_retv C X hr hlk (by decide) dX1_settle_59 hp
  · have hp := if_n _ c1 hp
    refine lv_iload_n C.1 C.2.1 dX1_settle_4 rfl (lv_at hl 1 rfl) ?_
    refine lv_aload_n C.1 C.2.1 dX1_settle_5 rfl (lv_at hl 0 rfl) ?_
    refine w_gr C X fX1_9 rfl dX1_settle_6 hp (fun q1 hp => ?_)
    refine w_ln C X dX1_settle_9 hp (fun v1 hp => ?_)
    refine lv_icmp_ge (tgt := 59) C.1 C.2.1 dX1_settle_10 (by decide) (fun c2 => ?_) (fun c2 => ?_)
    · have hp := if_p _ c2 hp
      exact w_retv C X hr hlk (by decide) dX1_settle_59 hp
    · have hp := if_n _ c2 hp
      refine lv_aload_n C.1 C.2.1 dX1_settle_13 rfl (lv_at hl 0 rfl) ?_
      refine w_gi C X fX1_25 rfl dX1_settle_14 hp (fun v2 hp => ?_)
      refine lv_if_lt (tgt := 59) C.1 C.2.1 dX1_settle_17 (by decide) (fun c3 => ?_) (fun c3 => ?_)
      · have hp := if_p _ c3 hp
        exact w_retv C X hr hlk (by decide) dX1_settle_59 hp
      · have hp := if_n _ c3 hp
        refine lv_aload_n C.1 C.2.1 dX1_settle_20 rfl (lv_at hl 0 rfl) ?_
        refine w_gi C X fX1_25 rfl dX1_settle_21 hp (fun v3 hp => ?_)
        refine lv_aload_n C.1 C.2.1 dX1_settle_24 rfl (lv_at hl 0 rfl) ?_
        refine w_gr C X fX1_18 rfl dX1_settle_25 hp (fun q2 hp => ?_)
        refine w_ln C X dX1_settle_28 hp (fun v4 hp => ?_)
        refine lv_icmp_ge (tgt := 59) C.1 C.2.1 dX1_settle_29 (by decide) (fun c4 => ?_) (fun c4 => ?_)
        · have hp := if_p _ c4 hp
          exact w_retv C X hr hlk (by decide) dX1_settle_59 hp
        · have hp := if_n _ c4 hp
          refine lv_aload_n C.1 C.2.1 dX1_settle_32 rfl (lv_at hl 0 rfl) ?_
          refine w_gr C X fX1_9 rfl dX1_settle_33 hp (fun q3 hp => ?_)
          refine lv_iload_n C.1 C.2.1 dX1_settle_36 rfl (lv_at hl 1 rfl) ?_
          refine lv_iload_n C.1 C.2.1 dX1_settle_37 rfl (lv_at hl 2 rfl) ?_
          refine w_as C X dX1_settle_38 hp (fun H locs h1 X hp => ?_)
          refine lv_aload_n C.1 C.2.1 dX1_settle_39 rfl (lv_at hl 0 rfl) ?_
          refine w_gr C X fX1_18 rfl dX1_settle_40 hp (fun q4 hp => ?_)
          refine lv_aload_n C.1 C.2.1 dX1_settle_43 rfl (lv_at hl 0 rfl) ?_
          refine w_gi C X fX1_25 rfl dX1_settle_44 hp (fun v5 hp => ?_)
          refine lv_iload_n C.1 C.2.1 dX1_settle_47 rfl (lv_at hl 1 rfl) ?_
          refine w_as C X dX1_settle_48 hp (fun H locs h2 X hp => ?_)
          refine lv_aload_n C.1 C.2.1 dX1_settle_49 rfl (lv_at hl 0 rfl) ?_
          refine lv_dup C.1 C.2.1 dX1_settle_50 rfl ?_
          refine w_gi C X fX1_25 rfl dX1_settle_51 hp (fun v6 hp => ?_)
          refine lv_iconst (v := 1) C.1 C.2.1 dX1_settle_54 (by decide) ?_
          refine lv_iadd C.1 C.2.1 dX1_settle_55 ?_
          refine w_pi C X fX1_25 rfl rfl rfl rfl dX1_settle_56 hp (fun H locs h3 X hp => ?_)
          exact w_retv C X hr hlk (by decide) dX1_settle_59 hp

abbrev rmX1_begin : Room := { frames := 1, cells := 0, slots := 0, locals := 22 }
def P_X1_begin_L7 : Nat → Nat → Nat → Nat → Int32 → Hp → Option (Hp)
  | 0, _, _, _, _, _ => none
  | n + 1, q1, q2, q3, v2, h2 =>
    gi h2 q3 4 3 fun v3 =>
    if v3 ≤ v2 then (
    some h2)
    else (
    gr h2 q1 1 0 fun q4 =>
    ln h2 q4 fun v4 =>
    if v4 ≤ v2 then (
    some h2)
    else (
    gr h2 q1 1 1 fun q5 =>
    ln h2 q5 fun v5 =>
    if v5 ≤ v2 then (
    some h2)
    else (
    gr h2 q1 1 0 fun q6 =>
    as h2 q6 v2 2 fun h3 =>
    gr h3 q1 1 1 fun q7 =>
    gi h3 q2 0 2 fun v6 =>
    as h3 q7 v2 v6 fun h4 =>
    rc h4 q3 4 <| ci (P_X4_endOf q3 v2 h4) fun v7 h5 =>
    rc h5 q2 0 <| ci (P_X0_isWish q2 v7 h5) fun v8 h6 =>
    if v8 = 0 then (
    lt ((v2 + 1) : Int32) fun v9 =>
    P_X1_begin_L7 n q1 q2 q3 v9 h6)
    else (
    rc h6 q1 1 <| cv (P_X1_settle q1 v2 0 h6) fun h7 =>
    lt ((v2 + 1) : Int32) fun v10 =>
    P_X1_begin_L7 n q1 q2 q3 v10 h7))))

def P_X1_begin (p0 : Nat) (p1 : Nat) (p2 : Nat) (h0 : Hp) : Option (Hp) :=
    pi h0 p0 1 3 0 fun h1 =>
    lt (0 : Int32) fun v1 =>
    P_X1_begin_L7 FU p0 p1 p2 v1 h1

set_option maxHeartbeats 4000000 in
set_option maxRecDepth 100000 in
theorem wl_X1_begin_L7 (C : CX K p m c cX1_begin 4 s args RX1) (hr : meth.sig.returnType = none) (hlk : meth.locks = false) {h' : Hp} : ∀ (n : Nat) (q1 : Nat) (q2 : Nat) (q3 : Nat) (v2 : Int32) (h2 : Hp) (H : Heap) (locs : List Loc) (ls : Array Slot), HX K s.heap H locs h2 → lv_has ls 4 [(0, .ref (K.1 + q1)), (1, .ref (K.1 + q2)), (2, .ref (K.1 + q3)), (3, .int v2)] → P_X1_begin_L7 n q1 q2 q3 v2 h2 = some h' → W p l e rmX1_begin s m args below meth c H locs 0 0 (MQ below (Qv K h') args s rmX1_begin.cells rmX1_begin.slots (KA K)) (F0 m 7 ls []) := by
  intro n
  induction n with
  | zero =>
    intro  q1 q2 q3 v2 h2 H locs ls X hl hp
    cases hp
  | succ n ih =>
    intro  q1 q2 q3 v2 h2 H locs ls X hl hp
    unfold P_X1_begin_L7 at hp
    refine lv_iload_n C.1 C.2.1 dX1_begin_7 rfl (lv_at hl 3 rfl) ?_
    refine lv_aload_n C.1 C.2.1 dX1_begin_8 rfl (lv_at hl 2 rfl) ?_
    refine w_gi C X fX1_48 rfl dX1_begin_9 hp (fun v3 hp => ?_)
    refine lv_icmp_ge (tgt := 74) C.1 C.2.1 dX1_begin_12 (by decide) (fun c1 => ?_) (fun c1 => ?_)
    · have hp := if_p _ c1 hp
      exact w_retv C X hr hlk (by decide) dX1_begin_74 hp
    · have hp := if_n _ c1 hp
      refine lv_iload_n C.1 C.2.1 dX1_begin_15 rfl (lv_at hl 3 rfl) ?_
      refine lv_aload_n C.1 C.2.1 dX1_begin_16 rfl (lv_at hl 0 rfl) ?_
      refine w_gr C X fX1_9 rfl dX1_begin_17 hp (fun q4 hp => ?_)
      refine w_ln C X dX1_begin_20 hp (fun v4 hp => ?_)
      refine lv_icmp_ge (tgt := 74) C.1 C.2.1 dX1_begin_21 (by decide) (fun c2 => ?_) (fun c2 => ?_)
      · have hp := if_p _ c2 hp
        exact w_retv C X hr hlk (by decide) dX1_begin_74 hp
      · have hp := if_n _ c2 hp
        refine lv_iload_n C.1 C.2.1 dX1_begin_24 rfl (lv_at hl 3 rfl) ?_
        refine lv_aload_n C.1 C.2.1 dX1_begin_25 rfl (lv_at hl 0 rfl) ?_
        refine w_gr C X fX1_15 rfl dX1_begin_26 hp (fun q5 hp => ?_)
        refine w_ln C X dX1_begin_29 hp (fun v5 hp => ?_)
        refine lv_icmp_ge (tgt := 74) C.1 C.2.1 dX1_begin_30 (by decide) (fun c3 => ?_) (fun c3 => ?_)
        · have hp := if_p _ c3 hp
          exact w_retv C X hr hlk (by decide) dX1_begin_74 hp
        · have hp := if_n _ c3 hp
          refine lv_aload_n C.1 C.2.1 dX1_begin_33 rfl (lv_at hl 0 rfl) ?_
          refine w_gr C X fX1_9 rfl dX1_begin_34 hp (fun q6 hp => ?_)
          refine lv_iload_n C.1 C.2.1 dX1_begin_37 rfl (lv_at hl 3 rfl) ?_
          refine lv_iconst (v := 2) C.1 C.2.1 dX1_begin_38 (by decide) ?_
          refine w_as C X dX1_begin_39 hp (fun H locs h3 X hp => ?_)
          refine lv_aload_n C.1 C.2.1 dX1_begin_40 rfl (lv_at hl 0 rfl) ?_
          refine w_gr C X fX1_15 rfl dX1_begin_41 hp (fun q7 hp => ?_)
          refine lv_iload_n C.1 C.2.1 dX1_begin_44 rfl (lv_at hl 3 rfl) ?_
          refine lv_aload_n C.1 C.2.1 dX1_begin_45 rfl (lv_at hl 1 rfl) ?_
          refine w_gi C X fX1_29 rfl dX1_begin_46 hp (fun v6 hp => ?_)
          refine w_as C X dX1_begin_49 hp (fun H locs h4 X hp => ?_)
          refine lv_aload_n C.1 C.2.1 dX1_begin_50 rfl (lv_at hl 1 rfl) ?_
          refine lv_aload_n C.1 C.2.1 dX1_begin_51 rfl (lv_at hl 2 rfl) ?_
          refine lv_iload_n C.1 C.2.1 dX1_begin_52 rfl (lv_at hl 3 rfl) ?_
          have hrc := (rc_some hp).1
          have hp := (rc_some hp).2
          refine w_ci (cells' := 0) (slots' := 0) X (fun _ _ e => run_VN (As := [.int v2]) (c0 := 4) C X mX4_endOf miX4_endOf lX1_51 (by decide) rfl hrc (ct_X4_endOf l K q3 v2 h4 e) (by decide) (by decide) rfl (Nat.le_of_ble_eq_true rfl) rfl hl.1 dX1_begin_53) (by decide) hp (fun v7 h5 H locs X hp => ?_)
          have hrc := (rc_some hp).1
          have hp := (rc_some hp).2
          refine w_ci (cells' := 0) (slots' := 0) X (fun _ _ e => run_VN (As := [.int v7]) (c0 := 0) C X mX0_isWish miX0_isWish lX1_54 (by decide) rfl hrc (ct_X0_isWish l K q2 v7 h5 e) (by decide) (by decide) rfl (by decide) rfl hl.1 dX1_begin_56) (by decide) hp (fun v8 h6 H locs X hp => ?_)
          refine lv_if_eq (tgt := 68) C.1 C.2.1 dX1_begin_59 (by decide) (fun c4 => ?_) (fun c4 => ?_)
          · have hp := if_p _ c4 hp
            refine w_inc (k := 3) C (fun v => [(3, .int (v)), (0, .ref (K.1 + q1)), (1, .ref (K.1 + q2)), (2, .ref (K.1 + q3))]) dX1_begin_68 hl rfl (y := (v2 + 1)) rfl (by decide) (fun _ => rfl) hp (fun v9 ls hl hp => ?_)
            refine lv_goto (tgt := 7) C.1 C.2.1 dX1_begin_71 (by decide) ?_
            exact ih _ _ _ _ _ _ _ _ X (lv_sub hl [1, 2, 3, 0] rfl) hp
          · have hp := if_n _ c4 hp
            refine lv_aload_n C.1 C.2.1 dX1_begin_62 rfl (lv_at hl 0 rfl) ?_
            refine lv_iload_n C.1 C.2.1 dX1_begin_63 rfl (lv_at hl 3 rfl) ?_
            refine lv_iconst (v := 0) C.1 C.2.1 dX1_begin_64 (by decide) ?_
            have hrc := (rc_some hp).1
            have hp := (rc_some hp).2
            refine w_cv (cells' := 0) (slots' := 0) X (fun _ e => run_V (As := [.int v2, .int 0]) (c0 := 1) C X mX1_settle miX1_settle lX1_58 (by decide) rfl hrc (ct_X1_settle l K q1 v2 0 h6 e) (by decide) (by decide) rfl (by decide) rfl hl.1 dX1_begin_65) (by decide) hp (fun h7 H locs X hp => ?_)
            refine w_inc (k := 3) C (fun v => [(3, .int (v)), (0, .ref (K.1 + q1)), (1, .ref (K.1 + q2)), (2, .ref (K.1 + q3))]) dX1_begin_68 hl rfl (y := (v2 + 1)) rfl (by decide) (fun _ => rfl) hp (fun v10 ls hl hp => ?_)
            refine lv_goto (tgt := 7) C.1 C.2.1 dX1_begin_71 (by decide) ?_
            exact ih _ _ _ _ _ _ _ _ X (lv_sub hl [1, 2, 3, 0] rfl) hp

set_option maxHeartbeats 4000000 in
set_option maxRecDepth 100000 in
theorem ct_X1_begin (l : Launch) (K : Kt) (p0 : Nat) (p1 : Nat) (p2 : Nat) (h0 : Hp) {h' : Hp} (hp : P_X1_begin p0 p1 p2 h0 = some h') : CT l K yX1_begin cX1_begin 4 none rmX1_begin [.ref (K.1 + p0), .ref (K.1 + p1), .ref (K.1 + p2)] h0 (Qv K h') := by
  refine ct_of (own := RX1) (by decide +kernel) rfl (Nat.le_of_ble_eq_true rfl) ?_
  intro p e s m args below meth c C X hr hlk hm ls hl
  have hl : lv_has ls 4 [(0, .ref (K.1 + p0)), (1, .ref (K.1 + p1)), (2, .ref (K.1 + p2))] := hl
  unfold P_X1_begin at hp
  refine lv_aload_n C.1 C.2.1 dX1_begin_0 rfl (lv_at hl 0 rfl) ?_
  refine lv_iconst (v := 0) C.1 C.2.1 dX1_begin_1 (by decide) ?_
  refine w_pi C X fX1_25 rfl rfl rfl rfl dX1_begin_2 hp (fun H locs h1 X hp => ?_)
  refine lv_iconst (v := 0) C.1 C.2.1 dX1_begin_5 (by decide) ?_
  refine w_istn C (fun v => [(3, .int (v)), (0, .ref (K.1 + p0)), (1, .ref (K.1 + p1)), (2, .ref (K.1 + p2))]) dX1_begin_6 rfl hl (by decide) (fun _ => rfl) hp (fun v1 ls hl hp => ?_)
  exact wl_X1_begin_L7 C hr hlk _ _ _ _ _ _ _ _ _ X (lv_sub hl [1, 2, 3, 0] rfl) hp

abbrev rmX4_weightOf : Room := { frames := 0, cells := 0, slots := 0, locals := 0 }
def P_X4_weightOf (p0 : Nat) (a1 : Int32) (h0 : Hp) : Option (Int32 × Hp) :=
    if a1 < 0 then (
    some (0, h0))
    else (
    gi h0 p0 4 4 fun v1 =>
    if v1 ≤ a1 then (
    some (0, h0))
    else (
    gr h0 p0 4 1 fun q1 =>
    ln h0 q1 fun v2 =>
    if v2 ≤ a1 then (
    some (0, h0))
    else (
    gr h0 p0 4 1 fun q2 =>
    al h0 q2 a1 fun v3 =>
    some (v3, h0))))

set_option maxHeartbeats 4000000 in
set_option maxRecDepth 100000 in
theorem ct_X4_weightOf (l : Launch) (K : Kt) (p0 : Nat) (a1 : Int32) (h0 : Hp) {r : Int32} {h' : Hp} (hp : P_X4_weightOf p0 a1 h0 = some (r, h')) : CT l K yX4_weightOf cX4_weightOf 2 (some FieldType.int) rmX4_weightOf [.ref (K.1 + p0), .int a1] h0 (Qi K r h') := by
  refine ct_of (own := RX4) (by decide +kernel) rfl (Nat.le_of_ble_eq_true rfl) ?_
  intro p e s m args below meth c C X hr hlk hm ls hl
  have hl : lv_has ls 2 [(0, .ref (K.1 + p0)), (1, .int a1)] := hl
  unfold P_X4_weightOf at hp
  refine lv_iload_n C.1 C.2.1 dX4_weightOf_0 rfl (lv_at hl 1 rfl) ?_
  refine lv_if_lt (tgt := 30) C.1 C.2.1 dX4_weightOf_1 (by decide) (fun c1 => ?_) (fun c1 => ?_)
  · have hp := if_p _ c1 hp
    refine lv_iconst (v := 0) C.1 C.2.1 dX4_weightOf_30 (by decide) ?_
    exact w_reti C X hr hlk (by decide) dX4_weightOf_31 hp
  · have hp := if_n _ c1 hp
    refine lv_iload_n C.1 C.2.1 dX4_weightOf_4 rfl (lv_at hl 1 rfl) ?_
    refine lv_aload_n C.1 C.2.1 dX4_weightOf_5 rfl (lv_at hl 0 rfl) ?_
    refine w_gi C X fX4_27 rfl dX4_weightOf_6 hp (fun v1 hp => ?_)
    refine lv_icmp_ge (tgt := 30) C.1 C.2.1 dX4_weightOf_9 (by decide) (fun c2 => ?_) (fun c2 => ?_)
    · have hp := if_p _ c2 hp
      refine lv_iconst (v := 0) C.1 C.2.1 dX4_weightOf_30 (by decide) ?_
      exact w_reti C X hr hlk (by decide) dX4_weightOf_31 hp
    · have hp := if_n _ c2 hp
      refine lv_iload_n C.1 C.2.1 dX4_weightOf_12 rfl (lv_at hl 1 rfl) ?_
      refine lv_aload_n C.1 C.2.1 dX4_weightOf_13 rfl (lv_at hl 0 rfl) ?_
      refine w_gr C X fX4_15 rfl dX4_weightOf_14 hp (fun q1 hp => ?_)
      refine w_ln C X dX4_weightOf_17 hp (fun v2 hp => ?_)
      refine lv_icmp_ge (tgt := 30) C.1 C.2.1 dX4_weightOf_18 (by decide) (fun c3 => ?_) (fun c3 => ?_)
      · have hp := if_p _ c3 hp
        refine lv_iconst (v := 0) C.1 C.2.1 dX4_weightOf_30 (by decide) ?_
        exact w_reti C X hr hlk (by decide) dX4_weightOf_31 hp
      · have hp := if_n _ c3 hp
        refine lv_aload_n C.1 C.2.1 dX4_weightOf_21 rfl (lv_at hl 0 rfl) ?_
        refine w_gr C X fX4_15 rfl dX4_weightOf_22 hp (fun q2 hp => ?_)
        refine lv_iload_n C.1 C.2.1 dX4_weightOf_25 rfl (lv_at hl 1 rfl) ?_
        refine w_al C X dX4_weightOf_26 hp (fun v3 hp => ?_)
        refine lv_goto (tgt := 31) C.1 C.2.1 dX4_weightOf_27 (by decide) ?_
        exact w_reti C X hr hlk (by decide) dX4_weightOf_31 hp

abbrev rmX5_quotient : Room := { frames := 0, cells := 0, slots := 0, locals := 0 }
def P_X5_quotient (a0 : Int32) (a1 : Int32) (h0 : Hp) : Option (Int32 × Hp) :=
    if a1 ≤ 0 then (
    some (0, h0))
    else (
    nz a1 <|
    some ((a0 / a1), h0))

set_option maxHeartbeats 4000000 in
set_option maxRecDepth 100000 in
theorem ct_X5_quotient (l : Launch) (K : Kt) (a0 : Int32) (a1 : Int32) (h0 : Hp) {r : Int32} {h' : Hp} (hp : P_X5_quotient a0 a1 h0 = some (r, h')) : CT l K yX5_quotient cX5_quotient 2 (some FieldType.int) rmX5_quotient [.int a0, .int a1] h0 (Qi K r h') := by
  refine ct_of (own := RX5) (by decide +kernel) rfl (Nat.le_of_ble_eq_true rfl) ?_
  intro p e s m args below meth c C X hr hlk hm ls hl
  have hl : lv_has ls 2 [(0, .int a0), (1, .int a1)] := hl
  unfold P_X5_quotient at hp
  refine lv_iload_n C.1 C.2.1 dX5_quotient_0 rfl (lv_at hl 1 rfl) ?_
  refine lv_if_le (tgt := 10) C.1 C.2.1 dX5_quotient_1 (by decide) (fun c1 => ?_) (fun c1 => ?_)
  · have hp := if_p _ c1 hp
    refine lv_iconst (v := 0) C.1 C.2.1 dX5_quotient_10 (by decide) ?_
    exact w_reti C X hr hlk (by decide) dX5_quotient_11 hp
  · have hp := if_n _ c1 hp
    refine lv_iload_n C.1 C.2.1 dX5_quotient_4 rfl (lv_at hl 0 rfl) ?_
    refine lv_iload_n C.1 C.2.1 dX5_quotient_5 rfl (lv_at hl 1 rfl) ?_
    have hz := (nz_some hp).1
    have hp := (nz_some hp).2
    refine lv_idiv C.1 C.2.1 dX5_quotient_6 hz ?_
    refine lv_goto (tgt := 11) C.1 C.2.1 dX5_quotient_7 (by decide) ?_
    exact w_reti C X hr hlk (by decide) dX5_quotient_11 hp

abbrev rmX5_remainder : Room := { frames := 0, cells := 0, slots := 0, locals := 0 }
def P_X5_remainder (a0 : Int32) (a1 : Int32) (h0 : Hp) : Option (Int32 × Hp) :=
    if a1 ≤ 0 then (
    some (0, h0))
    else (
    nz a1 <|
    some ((jrem a0 a1), h0))

set_option maxHeartbeats 4000000 in
set_option maxRecDepth 100000 in
theorem ct_X5_remainder (l : Launch) (K : Kt) (a0 : Int32) (a1 : Int32) (h0 : Hp) {r : Int32} {h' : Hp} (hp : P_X5_remainder a0 a1 h0 = some (r, h')) : CT l K yX5_remainder cX5_remainder 2 (some FieldType.int) rmX5_remainder [.int a0, .int a1] h0 (Qi K r h') := by
  refine ct_of (own := RX5) (by decide +kernel) rfl (Nat.le_of_ble_eq_true rfl) ?_
  intro p e s m args below meth c C X hr hlk hm ls hl
  have hl : lv_has ls 2 [(0, .int a0), (1, .int a1)] := hl
  unfold P_X5_remainder at hp
  refine lv_iload_n C.1 C.2.1 dX5_remainder_0 rfl (lv_at hl 1 rfl) ?_
  refine lv_if_le (tgt := 10) C.1 C.2.1 dX5_remainder_1 (by decide) (fun c1 => ?_) (fun c1 => ?_)
  · have hp := if_p _ c1 hp
    refine lv_iconst (v := 0) C.1 C.2.1 dX5_remainder_10 (by decide) ?_
    exact w_reti C X hr hlk (by decide) dX5_remainder_11 hp
  · have hp := if_n _ c1 hp
    refine lv_iload_n C.1 C.2.1 dX5_remainder_4 rfl (lv_at hl 0 rfl) ?_
    refine lv_iload_n C.1 C.2.1 dX5_remainder_5 rfl (lv_at hl 1 rfl) ?_
    have hz := (nz_some hp).1
    have hp := (nz_some hp).2
    refine w_rem C dX5_remainder_6 hz ?_
    refine lv_goto (tgt := 11) C.1 C.2.1 dX5_remainder_7 (by decide) ?_
    exact w_reti C X hr hlk (by decide) dX5_remainder_11 hp

abbrev rmX4_timesIn : Room := { frames := 1, cells := 0, slots := 0, locals := 21 }
def P_X4_timesIn (p0 : Nat) (a1 : Int32) (a2 : Int32) (h0 : Hp) : Option (Int32 × Hp) :=
    rc h0 p0 4 <| ci (P_X4_weightOf p0 a2 h0) fun v1 h1 =>
    ci (P_X5_quotient a1 v1 h1) fun v2 h2 =>
    gi h2 p0 4 5 fun v3 =>
    ci (P_X5_remainder v2 v3 h2) fun v4 h3 =>
    some (v4, h3)

set_option maxHeartbeats 4000000 in
set_option maxRecDepth 100000 in
theorem ct_X4_timesIn (l : Launch) (K : Kt) (p0 : Nat) (a1 : Int32) (a2 : Int32) (h0 : Hp) {r : Int32} {h' : Hp} (hp : P_X4_timesIn p0 a1 a2 h0 = some (r, h')) : CT l K yX4_timesIn cX4_timesIn 3 (some FieldType.int) rmX4_timesIn [.ref (K.1 + p0), .int a1, .int a2] h0 (Qi K r h') := by
  refine ct_of (own := RX4) (by decide +kernel) rfl (Nat.le_of_ble_eq_true rfl) ?_
  intro p e s m args below meth c C X hr hlk hm ls hl
  have hl : lv_has ls 3 [(0, .ref (K.1 + p0)), (1, .int a1), (2, .int a2)] := hl
  unfold P_X4_timesIn at hp
  refine lv_iload_n C.1 C.2.1 dX4_timesIn_0 rfl (lv_at hl 1 rfl) ?_
  refine lv_aload_n C.1 C.2.1 dX4_timesIn_1 rfl (lv_at hl 0 rfl) ?_
  refine lv_iload_n C.1 C.2.1 dX4_timesIn_2 rfl (lv_at hl 2 rfl) ?_
  have hrc := (rc_some hp).1
  have hp := (rc_some hp).2
  refine w_ci (cells' := 0) (slots' := 0) X (fun _ _ e => run_V (As := [.int a2]) (c0 := 4) C X mX4_weightOf miX4_weightOf lX4_50 (by decide) rfl hrc (ct_X4_weightOf l K p0 a2 h0 e) (by decide) (by decide) rfl (Nat.le_of_ble_eq_true rfl) rfl hl.1 dX4_timesIn_3) (by decide) hp (fun v1 h1 H locs X hp => ?_)
  refine w_ci (cells' := 0) (slots' := 0) X (fun _ _ e => run_SN (As := [.int a1, .int v1]) C X mX5_quotient msX5_quotient lX4_53 (ct_X5_quotient l K a1 v1 h1 e) (by decide) (by decide) rfl (by decide) rfl hl.1 dX4_timesIn_6) (by decide) hp (fun v2 h2 H locs X hp => ?_)
  refine lv_aload_n C.1 C.2.1 dX4_timesIn_9 rfl (lv_at hl 0 rfl) ?_
  refine w_gi C X fX4_31 rfl dX4_timesIn_10 hp (fun v3 hp => ?_)
  refine w_ci (cells' := 0) (slots' := 0) X (fun _ _ e => run_SN (As := [.int v2, .int v3]) C X mX5_remainder msX5_remainder lX4_57 (ct_X5_remainder l K v2 v3 h2 e) (by decide) (by decide) rfl (by decide) rfl hl.1 dX4_timesIn_13) (by decide) hp (fun v4 h3 H locs X hp => ?_)
  exact w_reti C X hr hlk (by decide) dX4_timesIn_16 hp

abbrev rmX4_before : Room := { frames := 2, cells := 0, slots := 0, locals := 43 }
def P_X4_before (p0 : Nat) (a1 : Int32) (a2 : Int32) (h0 : Hp) : Option (Int32 × Hp) :=
    rc h0 p0 4 <| ci (P_X4_weightOf p0 a2 h0) fun v1 h1 =>
    lt (v1 : Int32) fun v2 =>
    rc h1 p0 4 <| ci (P_X4_timesIn p0 a1 a2 h1) fun v3 h2 =>
    if v3 ≤ 0 then (
    gi h2 p0 4 5 fun v4 =>
    some ((a1 + ((v4 - 1) * v2)), h2))
    else (
    some ((a1 - v2), h2))

set_option maxHeartbeats 4000000 in
set_option maxRecDepth 100000 in
theorem ct_X4_before (l : Launch) (K : Kt) (p0 : Nat) (a1 : Int32) (a2 : Int32) (h0 : Hp) {r : Int32} {h' : Hp} (hp : P_X4_before p0 a1 a2 h0 = some (r, h')) : CT l K yX4_before cX4_before 4 (some FieldType.int) rmX4_before [.ref (K.1 + p0), .int a1, .int a2] h0 (Qi K r h') := by
  refine ct_of (own := RX4) (by decide +kernel) rfl (Nat.le_of_ble_eq_true rfl) ?_
  intro p e s m args below meth c C X hr hlk hm ls hl
  have hl : lv_has ls 4 [(0, .ref (K.1 + p0)), (1, .int a1), (2, .int a2)] := hl
  unfold P_X4_before at hp
  refine lv_aload_n C.1 C.2.1 dX4_before_0 rfl (lv_at hl 0 rfl) ?_
  refine lv_iload_n C.1 C.2.1 dX4_before_1 rfl (lv_at hl 2 rfl) ?_
  have hrc := (rc_some hp).1
  have hp := (rc_some hp).2
  refine w_ci (cells' := 0) (slots' := 0) X (fun _ _ e => run_V (As := [.int a2]) (c0 := 4) C X mX4_weightOf miX4_weightOf lX4_50 (by decide) rfl hrc (ct_X4_weightOf l K p0 a2 h0 e) (by decide) (by decide) rfl (by decide) rfl hl.1 dX4_before_2) (by decide) hp (fun v1 h1 H locs X hp => ?_)
  refine w_istn C (fun v => [(3, .int (v)), (0, .ref (K.1 + p0)), (1, .int a1), (2, .int a2)]) dX4_before_5 rfl hl (by decide) (fun _ => rfl) hp (fun v2 ls hl hp => ?_)
  refine lv_aload_n C.1 C.2.1 dX4_before_6 rfl (lv_at hl 1 rfl) ?_
  refine lv_iload_n C.1 C.2.1 dX4_before_7 rfl (lv_at hl 2 rfl) ?_
  refine lv_iload_n C.1 C.2.1 dX4_before_8 rfl (lv_at hl 3 rfl) ?_
  have hrc := (rc_some hp).1
  have hp := (rc_some hp).2
  refine w_ci (cells' := 0) (slots' := 0) X (fun _ _ e => run_V (As := [.int a1, .int a2]) (c0 := 4) C X mX4_timesIn miX4_timesIn lX4_60 (by decide) rfl hrc (ct_X4_timesIn l K p0 a1 a2 h1 e) (by decide) (by decide) rfl (by decide) rfl hl.1 dX4_before_9) (by decide) hp (fun v3 h2 H locs X hp => ?_)
  refine lv_if_le (tgt := 21) C.1 C.2.1 dX4_before_12 (by decide) (fun c1 => ?_) (fun c1 => ?_)
  · have hp := if_p _ c1 hp
    refine lv_iload_n C.1 C.2.1 dX4_before_21 rfl (lv_at hl 2 rfl) ?_
    refine lv_aload_n C.1 C.2.1 dX4_before_22 rfl (lv_at hl 1 rfl) ?_
    refine w_gi C X fX4_31 rfl dX4_before_23 hp (fun v4 hp => ?_)
    refine lv_iconst (v := 1) C.1 C.2.1 dX4_before_26 (by decide) ?_
    refine lv_isub C.1 C.2.1 dX4_before_27 ?_
    refine lv_iload_n C.1 C.2.1 dX4_before_28 rfl (lv_at hl 0 rfl) ?_
    refine lv_imul C.1 C.2.1 dX4_before_29 ?_
    refine lv_iadd C.1 C.2.1 dX4_before_30 ?_
    exact w_reti C X hr hlk (by decide) dX4_before_31 hp
  · have hp := if_n _ c1 hp
    refine lv_iload_n C.1 C.2.1 dX4_before_15 rfl (lv_at hl 2 rfl) ?_
    refine lv_iload_n C.1 C.2.1 dX4_before_16 rfl (lv_at hl 0 rfl) ?_
    refine lv_isub C.1 C.2.1 dX4_before_17 ?_
    refine lv_goto (tgt := 31) C.1 C.2.1 dX4_before_18 (by decide) ?_
    exact w_reti C X hr hlk (by decide) dX4_before_31 hp

abbrev rmX1_verdictOf : Room := { frames := 0, cells := 0, slots := 0, locals := 0 }
def P_X1_verdictOf (p0 : Nat) (a1 : Int32) (h0 : Hp) : Option (Int32 × Hp) :=
    if a1 < 0 then (
    some (2, h0))
    else (
    gr h0 p0 1 0 fun q1 =>
    ln h0 q1 fun v1 =>
    if v1 ≤ a1 then (
    some (2, h0))
    else (
    gr h0 p0 1 0 fun q2 =>
    al h0 q2 a1 fun v2 =>
    some (v2, h0)))

set_option maxHeartbeats 4000000 in
set_option maxRecDepth 100000 in
theorem ct_X1_verdictOf (l : Launch) (K : Kt) (p0 : Nat) (a1 : Int32) (h0 : Hp) {r : Int32} {h' : Hp} (hp : P_X1_verdictOf p0 a1 h0 = some (r, h')) : CT l K yX1_verdictOf cX1_verdictOf 2 (some FieldType.int) rmX1_verdictOf [.ref (K.1 + p0), .int a1] h0 (Qi K r h') := by
  refine ct_of (own := RX1) (by decide +kernel) rfl (Nat.le_of_ble_eq_true rfl) ?_
  intro p e s m args below meth c C X hr hlk hm ls hl
  have hl : lv_has ls 2 [(0, .ref (K.1 + p0)), (1, .int a1)] := hl
  unfold P_X1_verdictOf at hp
  refine lv_iload_n C.1 C.2.1 dX1_verdictOf_0 rfl (lv_at hl 1 rfl) ?_
  refine lv_if_lt (tgt := 22) C.1 C.2.1 dX1_verdictOf_1 (by decide) (fun c1 => ?_) (fun c1 => ?_)
  · have hp := if_p _ c1 hp
    refine lv_iconst (v := 2) C.1 C.2.1 dX1_verdictOf_22 (by decide) ?_
    exact w_reti C X hr hlk (by decide) dX1_verdictOf_23 hp
  · have hp := if_n _ c1 hp
    refine lv_iload_n C.1 C.2.1 dX1_verdictOf_4 rfl (lv_at hl 1 rfl) ?_
    refine lv_aload_n C.1 C.2.1 dX1_verdictOf_5 rfl (lv_at hl 0 rfl) ?_
    refine w_gr C X fX1_9 rfl dX1_verdictOf_6 hp (fun q1 hp => ?_)
    refine w_ln C X dX1_verdictOf_9 hp (fun v1 hp => ?_)
    refine lv_icmp_ge (tgt := 22) C.1 C.2.1 dX1_verdictOf_10 (by decide) (fun c2 => ?_) (fun c2 => ?_)
    · have hp := if_p _ c2 hp
      refine lv_iconst (v := 2) C.1 C.2.1 dX1_verdictOf_22 (by decide) ?_
      exact w_reti C X hr hlk (by decide) dX1_verdictOf_23 hp
    · have hp := if_n _ c2 hp
      refine lv_aload_n C.1 C.2.1 dX1_verdictOf_13 rfl (lv_at hl 0 rfl) ?_
      refine w_gr C X fX1_9 rfl dX1_verdictOf_14 hp (fun q2 hp => ?_)
      refine lv_iload_n C.1 C.2.1 dX1_verdictOf_17 rfl (lv_at hl 1 rfl) ?_
      refine w_al C X dX1_verdictOf_18 hp (fun v2 hp => ?_)
      refine lv_goto (tgt := 23) C.1 C.2.1 dX1_verdictOf_19 (by decide) ?_
      exact w_reti C X hr hlk (by decide) dX1_verdictOf_23 hp

abbrev rmX1_tellBack : Room := { frames := 1, cells := 0, slots := 0, locals := 22 }
def P_X1_tellBack (p0 : Nat) (a1 : Int32) (a2 : Int32) (p3 : Nat) (h0 : Hp) : Option (Hp) :=
    if a1 < 0 then (
    some h0)
    else (
    gi h0 p3 4 3 fun v1 =>
    if v1 ≤ a1 then (
    some h0)
    else (
    gr h0 p0 1 1 fun q1 =>
    ln h0 q1 fun v2 =>
    if v2 ≤ a1 then (
    some h0)
    else (
    rc h0 p0 1 <| ci (P_X1_verdictOf p0 a1 h0) fun v3 h1 =>
    if v3 = 2 then (
    if a2 = 0 then (
    rc h1 p0 1 <| cv (P_X1_settle p0 a1 1 h1) fun h4 =>
    some h4)
    else (
    gr h1 p0 1 1 fun q2 =>
    al h1 q2 a1 fun v4 =>
    as h1 q2 a1 (v4 - 1) fun h2 =>
    gr h2 p0 1 1 fun q3 =>
    al h2 q3 a1 fun v5 =>
    if v5 = 0 then (
    rc h2 p0 1 <| cv (P_X1_settle p0 a1 0 h2) fun h3 =>
    some h3)
    else (
    some h2)))
    else (
    some h1))))

set_option maxHeartbeats 4000000 in
set_option maxRecDepth 100000 in
theorem ct_X1_tellBack (l : Launch) (K : Kt) (p0 : Nat) (a1 : Int32) (a2 : Int32) (p3 : Nat) (h0 : Hp) {h' : Hp} (hp : P_X1_tellBack p0 a1 a2 p3 h0 = some h') : CT l K yX1_tellBack cX1_tellBack 4 none rmX1_tellBack [.ref (K.1 + p0), .int a1, .int a2, .ref (K.1 + p3)] h0 (Qv K h') := by
  refine ct_of (own := RX1) (by decide +kernel) rfl (Nat.le_of_ble_eq_true rfl) ?_
  intro p e s m args below meth c C X hr hlk hm ls hl
  have hl : lv_has ls 4 [(0, .ref (K.1 + p0)), (1, .int a1), (2, .int a2), (3, .ref (K.1 + p3))] := hl
  unfold P_X1_tellBack at hp
  refine lv_iload_n C.1 C.2.1 dX1_tellBack_0 rfl (lv_at hl 1 rfl) ?_
  refine lv_if_lt (tgt := 30) C.1 C.2.1 dX1_tellBack_1 (by decide) (fun c1 => ?_) (fun c1 => ?_)
  · have hp := if_p _ c1 hp
    exact w_retv C X hr hlk (by decide) dX1_tellBack_30 hp
  · have hp := if_n _ c1 hp
    refine lv_iload_n C.1 C.2.1 dX1_tellBack_4 rfl (lv_at hl 1 rfl) ?_
    refine lv_aload_n C.1 C.2.1 dX1_tellBack_5 rfl (lv_at hl 3 rfl) ?_
    refine w_gi C X fX1_48 rfl dX1_tellBack_6 hp (fun v1 hp => ?_)
    refine lv_icmp_ge (tgt := 30) C.1 C.2.1 dX1_tellBack_9 (by decide) (fun c2 => ?_) (fun c2 => ?_)
    · have hp := if_p _ c2 hp
      exact w_retv C X hr hlk (by decide) dX1_tellBack_30 hp
    · have hp := if_n _ c2 hp
      refine lv_iload_n C.1 C.2.1 dX1_tellBack_12 rfl (lv_at hl 1 rfl) ?_
      refine lv_aload_n C.1 C.2.1 dX1_tellBack_13 rfl (lv_at hl 0 rfl) ?_
      refine w_gr C X fX1_15 rfl dX1_tellBack_14 hp (fun q1 hp => ?_)
      refine w_ln C X dX1_tellBack_17 hp (fun v2 hp => ?_)
      refine lv_icmp_ge (tgt := 30) C.1 C.2.1 dX1_tellBack_18 (by decide) (fun c3 => ?_) (fun c3 => ?_)
      · have hp := if_p _ c3 hp
        exact w_retv C X hr hlk (by decide) dX1_tellBack_30 hp
      · have hp := if_n _ c3 hp
        refine lv_aload_n C.1 C.2.1 dX1_tellBack_21 rfl (lv_at hl 0 rfl) ?_
        refine lv_iload_n C.1 C.2.1 dX1_tellBack_22 rfl (lv_at hl 1 rfl) ?_
        have hrc := (rc_some hp).1
        have hp := (rc_some hp).2
        refine w_ci (cells' := 0) (slots' := 0) X (fun _ _ e => run_V (As := [.int a1]) (c0 := 1) C X mX1_verdictOf miX1_verdictOf lX1_40 (by decide) rfl hrc (ct_X1_verdictOf l K p0 a1 h0 e) (by decide) (by decide) rfl (by decide) rfl hl.1 dX1_tellBack_23) (by decide) hp (fun v3 h1 H locs X hp => ?_)
        refine lv_iconst (v := 2) C.1 C.2.1 dX1_tellBack_26 (by decide) ?_
        refine lv_icmp_eq (tgt := 31) C.1 C.2.1 dX1_tellBack_27 (by decide) (fun c4 => ?_) (fun c4 => ?_)
        · have hp := if_p _ c4 hp
          refine lv_iload_n C.1 C.2.1 dX1_tellBack_31 rfl (lv_at hl 2 rfl) ?_
          refine lv_if_ne (tgt := 42) C.1 C.2.1 dX1_tellBack_32 (by decide) (fun c5 => ?_) (fun c5 => ?_)
          · have hp := if_n _ c5 hp
            refine lv_aload_n C.1 C.2.1 dX1_tellBack_42 rfl (lv_at hl 0 rfl) ?_
            refine w_gr C X fX1_15 rfl dX1_tellBack_43 hp (fun q2 hp => ?_)
            refine lv_iload_n C.1 C.2.1 dX1_tellBack_46 rfl (lv_at hl 1 rfl) ?_
            refine lv_dup2_11 C.1 C.2.1 dX1_tellBack_47 rfl rfl ?_
            refine w_al C X dX1_tellBack_48 hp (fun v4 hp => ?_)
            refine lv_iconst (v := 1) C.1 C.2.1 dX1_tellBack_49 (by decide) ?_
            refine lv_isub C.1 C.2.1 dX1_tellBack_50 ?_
            refine w_as C X dX1_tellBack_51 hp (fun H locs h2 X hp => ?_)
            refine lv_aload_n C.1 C.2.1 dX1_tellBack_52 rfl (lv_at hl 0 rfl) ?_
            refine w_gr C X fX1_15 rfl dX1_tellBack_53 hp (fun q3 hp => ?_)
            refine lv_iload_n C.1 C.2.1 dX1_tellBack_56 rfl (lv_at hl 1 rfl) ?_
            refine w_al C X dX1_tellBack_57 hp (fun v5 hp => ?_)
            refine lv_if_ne (tgt := 67) C.1 C.2.1 dX1_tellBack_58 (by decide) (fun c6 => ?_) (fun c6 => ?_)
            · have hp := if_n _ c6 hp
              exact w_retv C X hr hlk (by decide) dX1_tellBack_67 hp
            · have hp := if_p _ c6 hp
              refine lv_aload_n C.1 C.2.1 dX1_tellBack_61 rfl (lv_at hl 0 rfl) ?_
              refine lv_iload_n C.1 C.2.1 dX1_tellBack_62 rfl (lv_at hl 1 rfl) ?_
              refine lv_iconst (v := 0) C.1 C.2.1 dX1_tellBack_63 (by decide) ?_
              have hrc := (rc_some hp).1
              have hp := (rc_some hp).2
              refine w_cv (cells' := 0) (slots' := 0) X (fun _ e => run_V (As := [.int a1, .int 0]) (c0 := 1) C X mX1_settle miX1_settle lX1_58 (by decide) rfl hrc (ct_X1_settle l K p0 a1 0 h2 e) (by decide) (by decide) rfl (by decide) rfl hl.1 dX1_tellBack_64) (by decide) hp (fun h3 H locs X hp => ?_)
              exact w_retv C X hr hlk (by decide) dX1_tellBack_67 hp
          · have hp := if_p _ c5 hp
            refine lv_aload_n C.1 C.2.1 dX1_tellBack_35 rfl (lv_at hl 0 rfl) ?_
            refine lv_iload_n C.1 C.2.1 dX1_tellBack_36 rfl (lv_at hl 1 rfl) ?_
            refine lv_iconst (v := 1) C.1 C.2.1 dX1_tellBack_37 (by decide) ?_
            have hrc := (rc_some hp).1
            have hp := (rc_some hp).2
            refine w_cv (cells' := 0) (slots' := 0) X (fun _ e => run_V (As := [.int a1, .int 1]) (c0 := 1) C X mX1_settle miX1_settle lX1_58 (by decide) rfl hrc (ct_X1_settle l K p0 a1 1 h1 e) (by decide) (by decide) rfl (by decide) rfl hl.1 dX1_tellBack_38) (by decide) hp (fun h4 H locs X hp => ?_)
            exact w_retv C X hr hlk (by decide) dX1_tellBack_41 hp
        · have hp := if_n _ c4 hp
          exact w_retv C X hr hlk (by decide) dX1_tellBack_30 hp

abbrev rmX1_judged : Room := { frames := 3, cells := 0, slots := 0, locals := 66 }
def P_X1_judged_L36 : Nat → Nat → Nat → Nat → Int32 → Int32 → Int32 → Hp → (Hp → Option (Int32 × Hp)) → Option (Int32 × Hp)
  | 0, _, _, _, _, _, _, _, _ => none
  | n + 1, q6, q7, q8, v10, v11, v12, h5, kont =>
    gi h5 q7 0 2 fun v13 =>
    if v13 ≤ v12 then (
    kont h5)
    else (
    rc h5 q8 4 <| ci (P_X4_before q8 v11 v12 h5) fun v14 h6 =>
    rc h6 q6 1 <| ci (P_X1_verdictOf q6 v11 h6) fun v15 h7 =>
    rc h7 q6 1 <| cv (P_X1_tellBack q6 v14 v15 q8 h7) fun h8 =>
    lt ((v12 + 1) : Int32) fun v16 =>
    P_X1_judged_L36 n q6 q7 q8 v10 v11 v16 h8 kont)

def P_X1_judged_L8 : Nat → Nat → Nat → Nat → Int32 → Hp → Option (Int32 × Hp)
  | 0, _, _, _, _, _ => none
  | n + 1, q1, q2, q3, v2, h2 =>
    gi h2 q1 1 3 fun v3 =>
    if v3 ≤ v2 then (
    rc h2 q1 1 <| ci (P_X1_verdictOf q1 0 h2) fun v4 h3 =>
    some (v4, h3))
    else (
    gr h2 q1 1 2 fun q4 =>
    ln h2 q4 fun v5 =>
    if v5 ≤ v2 then (
    rc h2 q1 1 <| ci (P_X1_verdictOf q1 0 h2) fun v6 h4 =>
    some (v6, h4))
    else (
    gr h2 q1 1 2 fun q5 =>
    al h2 q5 v2 fun v7 =>
    lt (v7 : Int32) fun v8 =>
    lt (0 : Int32) fun v9 =>
    P_X1_judged_L36 FU q1 q2 q3 v2 v8 v9 h2 fun h9 =>
    lt ((v2 + 1) : Int32) fun v17 =>
    P_X1_judged_L8 n q1 q2 q3 v17 h9))

def P_X1_judged (p0 : Nat) (p1 : Nat) (p2 : Nat) (h0 : Hp) : Option (Int32 × Hp) :=
    rc h0 p0 1 <| cv (P_X1_begin p0 p1 p2 h0) fun h1 =>
    lt (0 : Int32) fun v1 =>
    P_X1_judged_L8 FU p0 p1 p2 v1 h1

set_option maxHeartbeats 4000000 in
set_option maxRecDepth 100000 in
theorem wl_X1_judged_L36 (C : CX K p m c cX1_judged 6 s args RX1) (hr : meth.sig.returnType = (some FieldType.int)) (hlk : meth.locks = false) {r : Int32} {h' : Hp} : ∀ (n : Nat) (q6 : Nat) (q7 : Nat) (q8 : Nat) (v10 : Int32) (v11 : Int32) (v12 : Int32) (h5 : Hp) (kont : Hp → Option (Int32 × Hp)) (H : Heap) (locs : List Loc) (ls : Array Slot), HX K s.heap H locs h5 → lv_has ls 6 [(0, .ref (K.1 + q6)), (1, .ref (K.1 + q7)), (2, .ref (K.1 + q8)), (3, .int v10), (4, .int v11), (5, .int v12)] → P_X1_judged_L36 n q6 q7 q8 v10 v11 v12 h5 kont = some (r, h') → (∀  (hk : Hp) (H : Heap) (locs : List Loc) (ls : Array Slot), HX K s.heap H locs hk → lv_has ls 6 [(0, .ref (K.1 + q6)), (1, .ref (K.1 + q7)), (2, .ref (K.1 + q8)), (3, .int v10)] → kont  hk = some (r, h') → W p l e rmX1_judged s m args below meth c H locs 0 0 (MQ below (Qi K r h') args s rmX1_judged.cells rmX1_judged.slots (KA K)) (F0 m 70 ls [])) → W p l e rmX1_judged s m args below meth c H locs 0 0 (MQ below (Qi K r h') args s rmX1_judged.cells rmX1_judged.slots (KA K)) (F0 m 36 ls []) := by
  intro n
  induction n with
  | zero =>
    intro  q6 q7 q8 v10 v11 v12 h5 kont H locs ls X hl hp hk
    cases hp
  | succ n ih =>
    intro  q6 q7 q8 v10 v11 v12 h5 kont H locs ls X hl hp hk
    unfold P_X1_judged_L36 at hp
    refine lv_iload C.1 C.2.1 dX1_judged_36 (lv_at hl 5 rfl) ?_
    refine lv_aload_n C.1 C.2.1 dX1_judged_38 rfl (lv_at hl 1 rfl) ?_
    refine w_gi C X fX1_29 rfl dX1_judged_39 hp (fun v13 hp => ?_)
    refine lv_icmp_ge (tgt := 70) C.1 C.2.1 dX1_judged_42 (by decide) (fun c3 => ?_) (fun c3 => ?_)
    · have hp := if_p _ c3 hp
      exact hk _ _ _ _ X (lv_sub hl [0, 1, 2, 3] rfl) hp
    · have hp := if_n _ c3 hp
      refine lv_aload_n C.1 C.2.1 dX1_judged_45 rfl (lv_at hl 0 rfl) ?_
      refine lv_aload_n C.1 C.2.1 dX1_judged_46 rfl (lv_at hl 2 rfl) ?_
      refine lv_iload C.1 C.2.1 dX1_judged_47 (lv_at hl 4 rfl) ?_
      refine lv_iload C.1 C.2.1 dX1_judged_49 (lv_at hl 5 rfl) ?_
      have hrc := (rc_some hp).1
      have hp := (rc_some hp).2
      refine w_ci (cells' := 0) (slots' := 0) X (fun _ _ e => run_VN (As := [.int v11, .int v12]) (c0 := 4) C X mX4_before miX4_before lX1_34 (by decide) rfl hrc (ct_X4_before l K q8 v11 v12 h5 e) (by decide) (by decide) rfl (Nat.le_of_ble_eq_true rfl) rfl hl.1 dX1_judged_51) (by decide) hp (fun v14 h6 H locs X hp => ?_)
      refine lv_aload_n C.1 C.2.1 dX1_judged_54 rfl (lv_at hl 0 rfl) ?_
      refine lv_iload C.1 C.2.1 dX1_judged_55 (lv_at hl 4 rfl) ?_
      have hrc := (rc_some hp).1
      have hp := (rc_some hp).2
      refine w_ci (cells' := 0) (slots' := 0) X (fun _ _ e => run_V (As := [.int v11]) (c0 := 1) C X mX1_verdictOf miX1_verdictOf lX1_40 (by decide) rfl hrc (ct_X1_verdictOf l K q6 v11 h6 e) (by decide) (by decide) rfl (Nat.le_of_ble_eq_true rfl) rfl hl.1 dX1_judged_57) (by decide) hp (fun v15 h7 H locs X hp => ?_)
      refine lv_aload_n C.1 C.2.1 dX1_judged_60 rfl (lv_at hl 2 rfl) ?_
      have hrc := (rc_some hp).1
      have hp := (rc_some hp).2
      refine w_cv (cells' := 0) (slots' := 0) X (fun _ e => run_V (As := [.int v14, .int v15, .ref (K.1 + q8)]) (c0 := 1) C X mX1_tellBack miX1_tellBack lX1_44 (by decide) rfl hrc (ct_X1_tellBack l K q6 v14 v15 q8 h7 e) (by decide) (by decide) rfl (by decide) rfl hl.1 dX1_judged_61) (by decide) hp (fun h8 H locs X hp => ?_)
      refine w_inc (k := 5) C (fun v => [(5, .int (v)), (0, .ref (K.1 + q6)), (1, .ref (K.1 + q7)), (2, .ref (K.1 + q8)), (3, .int v10), (4, .int v11)]) dX1_judged_64 hl rfl (y := (v12 + 1)) rfl (by decide) (fun _ => rfl) hp (fun v16 ls hl hp => ?_)
      refine lv_goto (tgt := 36) C.1 C.2.1 dX1_judged_67 (by decide) ?_
      exact ih _ _ _ _ _ _ _ _ _ _ _ X (lv_sub hl [1, 2, 3, 4, 5, 0] rfl) hp hk

set_option maxHeartbeats 4000000 in
set_option maxRecDepth 100000 in
theorem wl_X1_judged_L8 (C : CX K p m c cX1_judged 6 s args RX1) (hr : meth.sig.returnType = (some FieldType.int)) (hlk : meth.locks = false) {r : Int32} {h' : Hp} : ∀ (n : Nat) (q1 : Nat) (q2 : Nat) (q3 : Nat) (v2 : Int32) (h2 : Hp) (H : Heap) (locs : List Loc) (ls : Array Slot), HX K s.heap H locs h2 → lv_has ls 6 [(0, .ref (K.1 + q1)), (1, .ref (K.1 + q2)), (2, .ref (K.1 + q3)), (3, .int v2)] → P_X1_judged_L8 n q1 q2 q3 v2 h2 = some (r, h') → W p l e rmX1_judged s m args below meth c H locs 0 0 (MQ below (Qi K r h') args s rmX1_judged.cells rmX1_judged.slots (KA K)) (F0 m 8 ls []) := by
  intro n
  induction n with
  | zero =>
    intro  q1 q2 q3 v2 h2 H locs ls X hl hp
    cases hp
  | succ n ih =>
    intro  q1 q2 q3 v2 h2 H locs ls X hl hp
    unfold P_X1_judged_L8 at hp
    refine lv_iload_n C.1 C.2.1 dX1_judged_8 rfl (lv_at hl 3 rfl) ?_
    refine lv_aload_n C.1 C.2.1 dX1_judged_9 rfl (lv_at hl 0 rfl) ?_
    refine w_gi C X fX1_25 rfl dX1_judged_10 hp (fun v3 hp => ?_)
    refine lv_icmp_ge (tgt := 76) C.1 C.2.1 dX1_judged_13 (by decide) (fun c1 => ?_) (fun c1 => ?_)
    · have hp := if_p _ c1 hp
      refine lv_aload_n C.1 C.2.1 dX1_judged_76 rfl (lv_at hl 0 rfl) ?_
      refine lv_iconst (v := 0) C.1 C.2.1 dX1_judged_77 (by decide) ?_
      have hrc := (rc_some hp).1
      have hp := (rc_some hp).2
      refine w_ci (cells' := 0) (slots' := 0) X (fun _ _ e => run_V (As := [.int 0]) (c0 := 1) C X mX1_verdictOf miX1_verdictOf lX1_40 (by decide) rfl hrc (ct_X1_verdictOf l K q1 0 h2 e) (by decide) (by decide) rfl (by decide) rfl hl.1 dX1_judged_78) (by decide) hp (fun v4 h3 H locs X hp => ?_)
      exact w_reti C X hr hlk (by decide) dX1_judged_81 hp
    · have hp := if_n _ c1 hp
      refine lv_iload_n C.1 C.2.1 dX1_judged_16 rfl (lv_at hl 3 rfl) ?_
      refine lv_aload_n C.1 C.2.1 dX1_judged_17 rfl (lv_at hl 0 rfl) ?_
      refine w_gr C X fX1_18 rfl dX1_judged_18 hp (fun q4 hp => ?_)
      refine w_ln C X dX1_judged_21 hp (fun v5 hp => ?_)
      refine lv_icmp_ge (tgt := 76) C.1 C.2.1 dX1_judged_22 (by decide) (fun c2 => ?_) (fun c2 => ?_)
      · have hp := if_p _ c2 hp
        refine lv_aload_n C.1 C.2.1 dX1_judged_76 rfl (lv_at hl 0 rfl) ?_
        refine lv_iconst (v := 0) C.1 C.2.1 dX1_judged_77 (by decide) ?_
        have hrc := (rc_some hp).1
        have hp := (rc_some hp).2
        refine w_ci (cells' := 0) (slots' := 0) X (fun _ _ e => run_V (As := [.int 0]) (c0 := 1) C X mX1_verdictOf miX1_verdictOf lX1_40 (by decide) rfl hrc (ct_X1_verdictOf l K q1 0 h2 e) (by decide) (by decide) rfl (by decide) rfl hl.1 dX1_judged_78) (by decide) hp (fun v6 h4 H locs X hp => ?_)
        exact w_reti C X hr hlk (by decide) dX1_judged_81 hp
      · have hp := if_n _ c2 hp
        refine lv_aload_n C.1 C.2.1 dX1_judged_25 rfl (lv_at hl 0 rfl) ?_
        refine w_gr C X fX1_18 rfl dX1_judged_26 hp (fun q5 hp => ?_)
        refine lv_iload_n C.1 C.2.1 dX1_judged_29 rfl (lv_at hl 3 rfl) ?_
        refine w_al C X dX1_judged_30 hp (fun v7 hp => ?_)
        refine w_ist C (fun v => [(4, .int (v)), (0, .ref (K.1 + q1)), (1, .ref (K.1 + q2)), (2, .ref (K.1 + q3)), (3, .int v2)]) dX1_judged_31 hl (by decide) (fun _ => rfl) hp (fun v8 ls hl hp => ?_)
        refine lv_iconst (v := 0) C.1 C.2.1 dX1_judged_33 (by decide) ?_
        refine w_ist C (fun v => [(5, .int (v)), (4, .int v8), (0, .ref (K.1 + q1)), (1, .ref (K.1 + q2)), (2, .ref (K.1 + q3)), (3, .int v2)]) dX1_judged_34 hl (by decide) (fun _ => rfl) hp (fun v9 ls hl hp => ?_)
        refine wl_X1_judged_L36 C hr hlk _ _ _ _ _ _ _ _ _ _ _ _ X (lv_sub hl [2, 3, 4, 5, 1, 0] rfl) hp (fun h9 H locs ls X hl hp => ?_)
        refine w_inc (k := 3) C (fun v => [(3, .int (v)), (0, .ref (K.1 + q1)), (1, .ref (K.1 + q2)), (2, .ref (K.1 + q3))]) dX1_judged_70 hl rfl (y := (v2 + 1)) rfl (by decide) (fun _ => rfl) hp (fun v17 ls hl hp => ?_)
        refine lv_goto (tgt := 8) C.1 C.2.1 dX1_judged_73 (by decide) ?_
        exact ih _ _ _ _ _ _ _ _ X (lv_sub hl [1, 2, 3, 0] rfl) hp

set_option maxHeartbeats 4000000 in
set_option maxRecDepth 100000 in
theorem ct_X1_judged (l : Launch) (K : Kt) (p0 : Nat) (p1 : Nat) (p2 : Nat) (h0 : Hp) {r : Int32} {h' : Hp} (hp : P_X1_judged p0 p1 p2 h0 = some (r, h')) : CT l K yX1_judged cX1_judged 6 (some FieldType.int) rmX1_judged [.ref (K.1 + p0), .ref (K.1 + p1), .ref (K.1 + p2)] h0 (Qi K r h') := by
  refine ct_of (own := RX1) (by decide +kernel) rfl (Nat.le_of_ble_eq_true rfl) ?_
  intro p e s m args below meth c C X hr hlk hm ls hl
  have hl : lv_has ls 6 [(0, .ref (K.1 + p0)), (1, .ref (K.1 + p1)), (2, .ref (K.1 + p2))] := hl
  unfold P_X1_judged at hp
  refine lv_aload_n C.1 C.2.1 dX1_judged_0 rfl (lv_at hl 0 rfl) ?_
  refine lv_aload_n C.1 C.2.1 dX1_judged_1 rfl (lv_at hl 1 rfl) ?_
  refine lv_aload_n C.1 C.2.1 dX1_judged_2 rfl (lv_at hl 2 rfl) ?_
  have hrc := (rc_some hp).1
  have hp := (rc_some hp).2
  refine w_cv (cells' := 0) (slots' := 0) X (fun _ e => run_V (As := [.ref (K.1 + p1), .ref (K.1 + p2)]) (c0 := 1) C X mX1_begin miX1_begin lX1_21 (by decide) rfl hrc (ct_X1_begin l K p0 p1 p2 h0 e) (by decide) (by decide) rfl (by decide) rfl hl.1 dX1_judged_3) (by decide) hp (fun h1 H locs X hp => ?_)
  refine lv_iconst (v := 0) C.1 C.2.1 dX1_judged_6 (by decide) ?_
  refine w_istn C (fun v => [(3, .int (v)), (0, .ref (K.1 + p0)), (1, .ref (K.1 + p1)), (2, .ref (K.1 + p2))]) dX1_judged_7 rfl hl (by decide) (fun _ => rfl) hp (fun v1 ls hl hp => ?_)
  exact wl_X1_judged_L8 C hr hlk _ _ _ _ _ _ _ _ _ X (lv_sub hl [1, 2, 3, 0] rfl) hp

abbrev rmX3_init : Room := { frames := 1, cells := 3, slots := 79, locals := 20 }
def P_X3_init (p0 : Nat) (h0 : Hp) : Option (Hp) :=
    na h0 64 fun q1 h1 =>
    pr h1 p0 3 0 q1 fun h2 =>
    na h2 3 fun q2 h3 =>
    pr h3 p0 3 5 q2 fun h4 =>
    na h4 12 fun q3 h5 =>
    pr h5 p0 3 7 q3 fun h6 =>
    some h6

set_option maxHeartbeats 4000000 in
set_option maxRecDepth 100000 in
theorem ct_X3_init (l : Launch) (K : Kt) (p0 : Nat) (h0 : Hp) {h' : Hp} (hp : P_X3_init p0 h0 = some h') : CT l K yX3_init cX3_init 1 none rmX3_init [.ref (K.1 + p0)] h0 (Qv K h') := by
  refine ct_of (own := RX3) (by decide +kernel) rfl (Nat.le_of_ble_eq_true rfl) ?_
  intro p e s m args below meth c C X hr hlk hm ls hl
  have hl : lv_has ls 1 [(0, .ref (K.1 + p0))] := hl
  unfold P_X3_init at hp
  refine lv_aload_n C.1 C.2.1 dX3_init_0 rfl (lv_at hl 0 rfl) ?_
  refine w_oi0 C lX3_3 hl.1 (by decide) (by decide) dX3_init_1 ?_
  refine lv_aload_n C.1 C.2.1 dX3_init_4 rfl (lv_at hl 0 rfl) ?_
  refine lv_bipush (v := 64) C.1 C.2.1 dX3_init_5 (by decide) ?_
  refine w_na (cells' := 1) (slots' := 64) (N := 64) C X (by decide +kernel) (by decide) (by decide) (by decide) dX3_init_7 hp (fun q1 h1 H locs X hp => ?_)
  refine w_prf C X fX3_9 rfl rfl hm rfl flX3_9 (fun _ => rfl) (fun _ => rfl) dX3_init_9 hp (fun H locs h2 X hp => ?_)
  refine lv_aload_n C.1 C.2.1 dX3_init_12 rfl (lv_at hl 0 rfl) ?_
  refine lv_iconst (v := 3) C.1 C.2.1 dX3_init_13 (by decide) ?_
  refine w_na (cells' := 2) (slots' := 67) (N := 3) C X (by decide +kernel) (by decide) (by decide) (by decide) dX3_init_14 hp (fun q2 h3 H locs X hp => ?_)
  refine w_prf C X fX3_15 rfl rfl hm rfl flX3_15 (fun _ => rfl) (fun _ => rfl) dX3_init_16 hp (fun H locs h4 X hp => ?_)
  refine lv_aload_n C.1 C.2.1 dX3_init_19 rfl (lv_at hl 0 rfl) ?_
  refine lv_bipush (v := 12) C.1 C.2.1 dX3_init_20 (by decide) ?_
  refine w_na (cells' := 3) (slots' := 79) (N := 12) C X (by decide +kernel) (by decide) (by decide) (by decide) dX3_init_22 hp (fun q3 h5 H locs X hp => ?_)
  refine w_prf C X fX3_18 rfl rfl hm rfl flX3_18 (fun _ => rfl) (fun _ => rfl) dX3_init_24 hp (fun H locs h6 X hp => ?_)
  exact w_retv C X hr hlk (by decide) dX3_init_27 hp

abbrev rmX3_append : Room := { frames := 0, cells := 0, slots := 0, locals := 0 }
def P_X3_append (p0 : Nat) (a1 : Int32) (h0 : Hp) : Option (Int32 × Hp) :=
    gi h0 p0 3 1 fun v1 =>
    if v1 < 0 then (
    gi h0 p0 3 1 fun v2 =>
    some (v2, h0))
    else (
    gi h0 p0 3 1 fun v3 =>
    gr h0 p0 3 0 fun q1 =>
    ln h0 q1 fun v4 =>
    if v4 ≤ v3 then (
    gi h0 p0 3 1 fun v5 =>
    some (v5, h0))
    else (
    gr h0 p0 3 0 fun q2 =>
    gi h0 p0 3 1 fun v6 =>
    as h0 q2 v6 a1 fun h1 =>
    gi h1 p0 3 1 fun v7 =>
    pi h1 p0 3 1 (v7 + 1) fun h2 =>
    gi h2 p0 3 1 fun v8 =>
    some (v8, h2)))

set_option maxHeartbeats 4000000 in
set_option maxRecDepth 100000 in
theorem ct_X3_append (l : Launch) (K : Kt) (p0 : Nat) (a1 : Int32) (h0 : Hp) {r : Int32} {h' : Hp} (hp : P_X3_append p0 a1 h0 = some (r, h')) : CT l K yX3_append cX3_append 2 (some FieldType.int) rmX3_append [.ref (K.1 + p0), .int a1] h0 (Qi K r h') := by
  refine ct_of (own := RX3) (by decide +kernel) rfl (Nat.le_of_ble_eq_true rfl) ?_
  intro p e s m args below meth c C X hr hlk hm ls hl
  have hl : lv_has ls 2 [(0, .ref (K.1 + p0)), (1, .int a1)] := hl
  unfold P_X3_append at hp
  refine lv_aload_n C.1 C.2.1 dX3_append_0 rfl (lv_at hl 0 rfl) ?_
  refine w_gi C X fX3_21 rfl dX3_append_1 hp (fun v1 hp => ?_)
  refine lv_if_lt (tgt := 39) C.1 C.2.1 dX3_append_4 (by decide) (fun c1 => ?_) (fun c1 => ?_)
  · have hp := if_p _ c1 hp
    refine lv_aload_n C.1 C.2.1 dX3_append_39 rfl (lv_at hl 0 rfl) ?_
    refine w_gi C X fX3_21 rfl dX3_append_40 hp (fun v2 hp => ?_)
    exact w_reti C X hr hlk (by decide) dX3_append_43 hp
  · have hp := if_n _ c1 hp
    refine lv_aload_n C.1 C.2.1 dX3_append_7 rfl (lv_at hl 0 rfl) ?_
    refine w_gi C X fX3_21 rfl dX3_append_8 hp (fun v3 hp => ?_)
    refine lv_aload_n C.1 C.2.1 dX3_append_11 rfl (lv_at hl 0 rfl) ?_
    refine w_gr C X fX3_9 rfl dX3_append_12 hp (fun q1 hp => ?_)
    refine w_ln C X dX3_append_15 hp (fun v4 hp => ?_)
    refine lv_icmp_ge (tgt := 39) C.1 C.2.1 dX3_append_16 (by decide) (fun c2 => ?_) (fun c2 => ?_)
    · have hp := if_p _ c2 hp
      refine lv_aload_n C.1 C.2.1 dX3_append_39 rfl (lv_at hl 0 rfl) ?_
      refine w_gi C X fX3_21 rfl dX3_append_40 hp (fun v5 hp => ?_)
      exact w_reti C X hr hlk (by decide) dX3_append_43 hp
    · have hp := if_n _ c2 hp
      refine lv_aload_n C.1 C.2.1 dX3_append_19 rfl (lv_at hl 0 rfl) ?_
      refine w_gr C X fX3_9 rfl dX3_append_20 hp (fun q2 hp => ?_)
      refine lv_aload_n C.1 C.2.1 dX3_append_23 rfl (lv_at hl 0 rfl) ?_
      refine w_gi C X fX3_21 rfl dX3_append_24 hp (fun v6 hp => ?_)
      refine lv_iload_n C.1 C.2.1 dX3_append_27 rfl (lv_at hl 1 rfl) ?_
      refine w_as C X dX3_append_28 hp (fun H locs h1 X hp => ?_)
      refine lv_aload_n C.1 C.2.1 dX3_append_29 rfl (lv_at hl 0 rfl) ?_
      refine lv_dup C.1 C.2.1 dX3_append_30 rfl ?_
      refine w_gi C X fX3_21 rfl dX3_append_31 hp (fun v7 hp => ?_)
      refine lv_iconst (v := 1) C.1 C.2.1 dX3_append_34 (by decide) ?_
      refine lv_iadd C.1 C.2.1 dX3_append_35 ?_
      refine w_pi C X fX3_21 rfl rfl rfl rfl dX3_append_36 hp (fun H locs h2 X hp => ?_)
      refine lv_aload_n C.1 C.2.1 dX3_append_39 rfl (lv_at hl 0 rfl) ?_
      refine w_gi C X fX3_21 rfl dX3_append_40 hp (fun v8 hp => ?_)
      exact w_reti C X hr hlk (by decide) dX3_append_43 hp

abbrev rmX3_wipe : Room := { frames := 0, cells := 0, slots := 0, locals := 0 }
def P_X3_wipe (p0 : Nat) (h0 : Hp) : Option (Hp) :=
    pi h0 p0 3 1 0 fun h1 =>
    some h1

set_option maxHeartbeats 4000000 in
set_option maxRecDepth 100000 in
theorem ct_X3_wipe (l : Launch) (K : Kt) (p0 : Nat) (h0 : Hp) {h' : Hp} (hp : P_X3_wipe p0 h0 = some h') : CT l K yX3_wipe cX3_wipe 1 none rmX3_wipe [.ref (K.1 + p0)] h0 (Qv K h') := by
  refine ct_of (own := RX3) (by decide +kernel) rfl (Nat.le_of_ble_eq_true rfl) ?_
  intro p e s m args below meth c C X hr hlk hm ls hl
  have hl : lv_has ls 1 [(0, .ref (K.1 + p0))] := hl
  unfold P_X3_wipe at hp
  refine lv_aload_n C.1 C.2.1 dX3_wipe_0 rfl (lv_at hl 0 rfl) ?_
  refine lv_iconst (v := 0) C.1 C.2.1 dX3_wipe_1 (by decide) ?_
  refine w_pi C X fX3_21 rfl rfl rfl rfl dX3_wipe_2 hp (fun H locs h1 X hp => ?_)
  exact w_retv C X hr hlk (by decide) dX3_wipe_5 hp

abbrev rmX3_rewind : Room := { frames := 0, cells := 0, slots := 0, locals := 0 }
def P_X3_rewind (p0 : Nat) (h0 : Hp) : Option (Hp) :=
    pi h0 p0 3 2 0 fun h1 =>
    some h1

set_option maxHeartbeats 4000000 in
set_option maxRecDepth 100000 in
theorem ct_X3_rewind (l : Launch) (K : Kt) (p0 : Nat) (h0 : Hp) {h' : Hp} (hp : P_X3_rewind p0 h0 = some h') : CT l K yX3_rewind cX3_rewind 1 none rmX3_rewind [.ref (K.1 + p0)] h0 (Qv K h') := by
  refine ct_of (own := RX3) (by decide +kernel) rfl (Nat.le_of_ble_eq_true rfl) ?_
  intro p e s m args below meth c C X hr hlk hm ls hl
  have hl : lv_has ls 1 [(0, .ref (K.1 + p0))] := hl
  unfold P_X3_rewind at hp
  refine lv_aload_n C.1 C.2.1 dX3_rewind_0 rfl (lv_at hl 0 rfl) ?_
  refine lv_iconst (v := 0) C.1 C.2.1 dX3_rewind_1 (by decide) ?_
  refine w_pi C X fX3_25 rfl rfl rfl rfl dX3_rewind_2 hp (fun H locs h1 X hp => ?_)
  exact w_retv C X hr hlk (by decide) dX3_rewind_5 hp

abbrev rmX3_signHere : Room := { frames := 0, cells := 0, slots := 0, locals := 0 }
def P_X3_signHere (p0 : Nat) (h0 : Hp) : Option (Int32 × Hp) :=
    gi h0 p0 3 2 fun v1 =>
    if v1 < 0 then (
    some ((-1), h0))
    else (
    gi h0 p0 3 2 fun v2 =>
    gi h0 p0 3 1 fun v3 =>
    if v3 ≤ v2 then (
    some ((-1), h0))
    else (
    gi h0 p0 3 2 fun v4 =>
    gr h0 p0 3 0 fun q1 =>
    ln h0 q1 fun v5 =>
    if v5 ≤ v4 then (
    some ((-1), h0))
    else (
    gr h0 p0 3 0 fun q2 =>
    gi h0 p0 3 2 fun v6 =>
    al h0 q2 v6 fun v7 =>
    some (v7, h0))))

set_option maxHeartbeats 4000000 in
set_option maxRecDepth 100000 in
theorem ct_X3_signHere (l : Launch) (K : Kt) (p0 : Nat) (h0 : Hp) {r : Int32} {h' : Hp} (hp : P_X3_signHere p0 h0 = some (r, h')) : CT l K yX3_signHere cX3_signHere 1 (some FieldType.int) rmX3_signHere [.ref (K.1 + p0)] h0 (Qi K r h') := by
  refine ct_of (own := RX3) (by decide +kernel) rfl (Nat.le_of_ble_eq_true rfl) ?_
  intro p e s m args below meth c C X hr hlk hm ls hl
  have hl : lv_has ls 1 [(0, .ref (K.1 + p0))] := hl
  unfold P_X3_signHere at hp
  refine lv_aload_n C.1 C.2.1 dX3_signHere_0 rfl (lv_at hl 0 rfl) ?_
  refine w_gi C X fX3_25 rfl dX3_signHere_1 hp (fun v1 hp => ?_)
  refine lv_if_lt (tgt := 42) C.1 C.2.1 dX3_signHere_4 (by decide) (fun c1 => ?_) (fun c1 => ?_)
  · have hp := if_p _ c1 hp
    refine lv_iconst (v := -1) C.1 C.2.1 dX3_signHere_42 (by decide) ?_
    exact w_reti C X hr hlk (by decide) dX3_signHere_43 hp
  · have hp := if_n _ c1 hp
    refine lv_aload_n C.1 C.2.1 dX3_signHere_7 rfl (lv_at hl 0 rfl) ?_
    refine w_gi C X fX3_25 rfl dX3_signHere_8 hp (fun v2 hp => ?_)
    refine lv_aload_n C.1 C.2.1 dX3_signHere_11 rfl (lv_at hl 0 rfl) ?_
    refine w_gi C X fX3_21 rfl dX3_signHere_12 hp (fun v3 hp => ?_)
    refine lv_icmp_ge (tgt := 42) C.1 C.2.1 dX3_signHere_15 (by decide) (fun c2 => ?_) (fun c2 => ?_)
    · have hp := if_p _ c2 hp
      refine lv_iconst (v := -1) C.1 C.2.1 dX3_signHere_42 (by decide) ?_
      exact w_reti C X hr hlk (by decide) dX3_signHere_43 hp
    · have hp := if_n _ c2 hp
      refine lv_aload_n C.1 C.2.1 dX3_signHere_18 rfl (lv_at hl 0 rfl) ?_
      refine w_gi C X fX3_25 rfl dX3_signHere_19 hp (fun v4 hp => ?_)
      refine lv_aload_n C.1 C.2.1 dX3_signHere_22 rfl (lv_at hl 0 rfl) ?_
      refine w_gr C X fX3_9 rfl dX3_signHere_23 hp (fun q1 hp => ?_)
      refine w_ln C X dX3_signHere_26 hp (fun v5 hp => ?_)
      refine lv_icmp_ge (tgt := 42) C.1 C.2.1 dX3_signHere_27 (by decide) (fun c3 => ?_) (fun c3 => ?_)
      · have hp := if_p _ c3 hp
        refine lv_iconst (v := -1) C.1 C.2.1 dX3_signHere_42 (by decide) ?_
        exact w_reti C X hr hlk (by decide) dX3_signHere_43 hp
      · have hp := if_n _ c3 hp
        refine lv_aload_n C.1 C.2.1 dX3_signHere_30 rfl (lv_at hl 0 rfl) ?_
        refine w_gr C X fX3_9 rfl dX3_signHere_31 hp (fun q2 hp => ?_)
        refine lv_aload_n C.1 C.2.1 dX3_signHere_34 rfl (lv_at hl 0 rfl) ?_
        refine w_gi C X fX3_25 rfl dX3_signHere_35 hp (fun v6 hp => ?_)
        refine w_al C X dX3_signHere_38 hp (fun v7 hp => ?_)
        refine lv_goto (tgt := 43) C.1 C.2.1 dX3_signHere_39 (by decide) ?_
        exact w_reti C X hr hlk (by decide) dX3_signHere_43 hp

abbrev rmX3_takes : Room := { frames := 1, cells := 0, slots := 0, locals := 20 }
def P_X3_takes (p0 : Nat) (a1 : Int32) (h0 : Hp) : Option (Int32 × Hp) :=
    rc h0 p0 3 <| ci (P_X3_signHere p0 h0) fun v1 h1 =>
    if v1 = a1 then (
    gi h1 p0 3 2 fun v2 =>
    pi h1 p0 3 2 (v2 + 1) fun h2 =>
    some (1, h2))
    else (
    some (0, h1))

set_option maxHeartbeats 4000000 in
set_option maxRecDepth 100000 in
theorem ct_X3_takes (l : Launch) (K : Kt) (p0 : Nat) (a1 : Int32) (h0 : Hp) {r : Int32} {h' : Hp} (hp : P_X3_takes p0 a1 h0 = some (r, h')) : CT l K yX3_takes cX3_takes 2 (some FieldType.boolean) rmX3_takes [.ref (K.1 + p0), .int a1] h0 (Qi K r h') := by
  refine ct_of (own := RX3) (by decide +kernel) rfl (Nat.le_of_ble_eq_true rfl) ?_
  intro p e s m args below meth c C X hr hlk hm ls hl
  have hl : lv_has ls 2 [(0, .ref (K.1 + p0)), (1, .int a1)] := hl
  unfold P_X3_takes at hp
  refine lv_aload_n C.1 C.2.1 dX3_takes_0 rfl (lv_at hl 0 rfl) ?_
  have hrc := (rc_some hp).1
  have hp := (rc_some hp).2
  refine w_ci (cells' := 0) (slots' := 0) X (fun _ _ e => run_V (As := []) (c0 := 3) C X mX3_signHere miX3_signHere lX3_41 (by decide) rfl hrc (ct_X3_signHere l K p0 h0 e) (by decide) (by decide) rfl (by decide) rfl hl.1 dX3_takes_1) (by decide) hp (fun v1 h1 H locs X hp => ?_)
  refine lv_iload_n C.1 C.2.1 dX3_takes_4 rfl (lv_at hl 1 rfl) ?_
  refine lv_icmp_eq (tgt := 10) C.1 C.2.1 dX3_takes_5 (by decide) (fun c1 => ?_) (fun c1 => ?_)
  · have hp := if_p _ c1 hp
    refine lv_aload_n C.1 C.2.1 dX3_takes_10 rfl (lv_at hl 0 rfl) ?_
    refine lv_dup C.1 C.2.1 dX3_takes_11 rfl ?_
    refine w_gi C X fX3_25 rfl dX3_takes_12 hp (fun v2 hp => ?_)
    refine lv_iconst (v := 1) C.1 C.2.1 dX3_takes_15 (by decide) ?_
    refine lv_iadd C.1 C.2.1 dX3_takes_16 ?_
    refine w_pi C X fX3_25 rfl rfl rfl rfl dX3_takes_17 hp (fun H locs h2 X hp => ?_)
    refine lv_iconst (v := 1) C.1 C.2.1 dX3_takes_20 (by decide) ?_
    exact w_retz C X hr hlk (by decide) (by decide) dX3_takes_21 hp
  · have hp := if_n _ c1 hp
    refine lv_iconst (v := 0) C.1 C.2.1 dX3_takes_8 (by decide) ?_
    exact w_retz C X hr hlk (by decide) (by decide) dX3_takes_9 hp

abbrev rmX3_isDigitHere : Room := { frames := 1, cells := 0, slots := 0, locals := 20 }
def P_X3_isDigitHere (p0 : Nat) (h0 : Hp) : Option (Int32 × Hp) :=
    rc h0 p0 3 <| ci (P_X3_signHere p0 h0) fun v1 h1 =>
    lt (v1 : Int32) fun v2 =>
    if v2 < 48 then (
    some (0, h1))
    else (
    if 57 < v2 then (
    some (0, h1))
    else (
    some (1, h1)))

set_option maxHeartbeats 4000000 in
set_option maxRecDepth 100000 in
theorem ct_X3_isDigitHere (l : Launch) (K : Kt) (p0 : Nat) (h0 : Hp) {r : Int32} {h' : Hp} (hp : P_X3_isDigitHere p0 h0 = some (r, h')) : CT l K yX3_isDigitHere cX3_isDigitHere 2 (some FieldType.boolean) rmX3_isDigitHere [.ref (K.1 + p0)] h0 (Qi K r h') := by
  refine ct_of (own := RX3) (by decide +kernel) rfl (Nat.le_of_ble_eq_true rfl) ?_
  intro p e s m args below meth c C X hr hlk hm ls hl
  have hl : lv_has ls 2 [(0, .ref (K.1 + p0))] := hl
  unfold P_X3_isDigitHere at hp
  refine lv_aload_n C.1 C.2.1 dX3_isDigitHere_0 rfl (lv_at hl 0 rfl) ?_
  have hrc := (rc_some hp).1
  have hp := (rc_some hp).2
  refine w_ci (cells' := 0) (slots' := 0) X (fun _ _ e => run_V (As := []) (c0 := 3) C X mX3_signHere miX3_signHere lX3_41 (by decide) rfl hrc (ct_X3_signHere l K p0 h0 e) (by decide) (by decide) rfl (by decide) rfl hl.1 dX3_isDigitHere_1) (by decide) hp (fun v1 h1 H locs X hp => ?_)
  refine w_istn C (fun v => [(1, .int (v)), (0, .ref (K.1 + p0))]) dX3_isDigitHere_4 rfl hl (by decide) (fun _ => rfl) hp (fun v2 ls hl hp => ?_)
  refine lv_iload_n C.1 C.2.1 dX3_isDigitHere_5 rfl (lv_at hl 0 rfl) ?_
  refine lv_bipush (v := 48) C.1 C.2.1 dX3_isDigitHere_6 (by decide) ?_
  refine lv_icmp_lt (tgt := 21) C.1 C.2.1 dX3_isDigitHere_8 (by decide) (fun c1 => ?_) (fun c1 => ?_)
  · have hp := if_p _ c1 hp
    refine lv_iconst (v := 0) C.1 C.2.1 dX3_isDigitHere_21 (by decide) ?_
    exact w_retz C X hr hlk (by decide) (by decide) dX3_isDigitHere_22 hp
  · have hp := if_n _ c1 hp
    refine lv_iload_n C.1 C.2.1 dX3_isDigitHere_11 rfl (lv_at hl 0 rfl) ?_
    refine lv_bipush (v := 57) C.1 C.2.1 dX3_isDigitHere_12 (by decide) ?_
    refine lv_icmp_gt (tgt := 21) C.1 C.2.1 dX3_isDigitHere_14 (by decide) (fun c2 => ?_) (fun c2 => ?_)
    · have hp := if_p _ c2 hp
      refine lv_iconst (v := 0) C.1 C.2.1 dX3_isDigitHere_21 (by decide) ?_
      exact w_retz C X hr hlk (by decide) (by decide) dX3_isDigitHere_22 hp
    · have hp := if_n _ c2 hp
      refine lv_iconst (v := 1) C.1 C.2.1 dX3_isDigitHere_17 (by decide) ?_
      refine lv_goto (tgt := 22) C.1 C.2.1 dX3_isDigitHere_18 (by decide) ?_
      exact w_retz C X hr hlk (by decide) (by decide) dX3_isDigitHere_22 hp

abbrev rmX3_readDigits : Room := { frames := 2, cells := 0, slots := 0, locals := 41 }
def P_X3_readDigits_L7 : Nat → Nat → Int32 → Int32 → Hp → Option (Int32 × Hp)
  | 0, _, _, _, _ => none
  | n + 1, q1, v2, v3, h2 =>
    gi h2 q1 3 8 fun v4 =>
    if v2 ≤ v4 then (
    gi h2 q1 3 6 fun v5 =>
    gr h2 q1 3 5 fun q2 =>
    ln h2 q2 fun v6 =>
    if v6 ≤ v5 then (
    gi h2 q1 3 8 fun v7 =>
    if v7 ≤ 0 then (
    some (0, h2))
    else (
    some (1, h2)))
    else (
    gr h2 q1 3 5 fun q3 =>
    gi h2 q1 3 6 fun v8 =>
    as h2 q3 v8 v3 fun h3 =>
    gi h3 q1 3 6 fun v9 =>
    pi h3 q1 3 6 (v9 + 1) fun h4 =>
    gi h4 q1 3 8 fun v10 =>
    if v10 ≤ 0 then (
    some (0, h4))
    else (
    some (1, h4))))
    else (
    gi h2 q1 3 8 fun v11 =>
    gr h2 q1 3 7 fun q4 =>
    ln h2 q4 fun v12 =>
    if v12 ≤ v11 then (
    gi h2 q1 3 6 fun v13 =>
    gr h2 q1 3 5 fun q5 =>
    ln h2 q5 fun v14 =>
    if v14 ≤ v13 then (
    gi h2 q1 3 8 fun v15 =>
    if v15 ≤ 0 then (
    some (0, h2))
    else (
    some (1, h2)))
    else (
    gr h2 q1 3 5 fun q6 =>
    gi h2 q1 3 6 fun v16 =>
    as h2 q6 v16 v3 fun h5 =>
    gi h5 q1 3 6 fun v17 =>
    pi h5 q1 3 6 (v17 + 1) fun h6 =>
    gi h6 q1 3 8 fun v18 =>
    if v18 ≤ 0 then (
    some (0, h6))
    else (
    some (1, h6))))
    else (
    rc h2 q1 3 <| ci (P_X3_isDigitHere q1 h2) fun v19 h7 =>
    if v19 = 0 then (
    gi h7 q1 3 6 fun v20 =>
    gr h7 q1 3 5 fun q7 =>
    ln h7 q7 fun v21 =>
    if v21 ≤ v20 then (
    gi h7 q1 3 8 fun v22 =>
    if v22 ≤ 0 then (
    some (0, h7))
    else (
    some (1, h7)))
    else (
    gr h7 q1 3 5 fun q8 =>
    gi h7 q1 3 6 fun v23 =>
    as h7 q8 v23 v3 fun h8 =>
    gi h8 q1 3 6 fun v24 =>
    pi h8 q1 3 6 (v24 + 1) fun h9 =>
    gi h9 q1 3 8 fun v25 =>
    if v25 ≤ 0 then (
    some (0, h9))
    else (
    some (1, h9))))
    else (
    gr h7 q1 3 7 fun q9 =>
    gi h7 q1 3 8 fun v26 =>
    rc h7 q1 3 <| ci (P_X3_signHere q1 h7) fun v27 h10 =>
    as h10 q9 v26 (v27 - 48) fun h11 =>
    gr h11 q1 3 7 fun q10 =>
    gi h11 q1 3 8 fun v28 =>
    al h11 q10 v28 fun v29 =>
    lt (((v3 * 10) + v29) : Int32) fun v30 =>
    gi h11 q1 3 8 fun v31 =>
    pi h11 q1 3 8 (v31 + 1) fun h12 =>
    gi h12 q1 3 2 fun v32 =>
    pi h12 q1 3 2 (v32 + 1) fun h13 =>
    P_X3_readDigits_L7 n q1 v2 v30 h13)))

def P_X3_readDigits (p0 : Nat) (a1 : Int32) (h0 : Hp) : Option (Int32 × Hp) :=
    lt (0 : Int32) fun v1 =>
    pi h0 p0 3 8 0 fun h1 =>
    P_X3_readDigits_L7 FU p0 a1 v1 h1

set_option maxHeartbeats 4000000 in
set_option maxRecDepth 100000 in
theorem wl_X3_readDigits_L7 (C : CX K p m c cX3_readDigits 3 s args RX3) (hr : meth.sig.returnType = (some FieldType.boolean)) (hlk : meth.locks = false) {r : Int32} {h' : Hp} : ∀ (n : Nat) (q1 : Nat) (v2 : Int32) (v3 : Int32) (h2 : Hp) (H : Heap) (locs : List Loc) (ls : Array Slot), HX K s.heap H locs h2 → lv_has ls 3 [(0, .ref (K.1 + q1)), (1, .int v2), (2, .int v3)] → P_X3_readDigits_L7 n q1 v2 v3 h2 = some (r, h') → W p l e rmX3_readDigits s m args below meth c H locs 0 0 (MQ below (Qi K r h') args s rmX3_readDigits.cells rmX3_readDigits.slots (KA K)) (F0 m 7 ls []) := by
  intro n
  induction n with
  | zero =>
    intro  q1 v2 v3 h2 H locs ls X hl hp
    cases hp
  | succ n ih =>
    intro  q1 v2 v3 h2 H locs ls X hl hp
    unfold P_X3_readDigits_L7 at hp
    refine lv_aload_n C.1 C.2.1 dX3_readDigits_7 rfl (lv_at hl 0 rfl) ?_
    refine w_gi C X fX3_31 rfl dX3_readDigits_8 hp (fun v4 hp => ?_)
    refine lv_iload_n C.1 C.2.1 dX3_readDigits_11 rfl (lv_at hl 1 rfl) ?_
    refine lv_icmp_ge (tgt := 88) C.1 C.2.1 dX3_readDigits_12 (by decide) (fun c1 => ?_) (fun c1 => ?_)
    · have hp := if_p _ c1 hp
      refine lv_aload_n C.1 C.2.1 dX3_readDigits_88 rfl (lv_at hl 0 rfl) ?_
      refine w_gi C X fX3_28 rfl dX3_readDigits_89 hp (fun v5 hp => ?_)
      refine lv_aload_n C.1 C.2.1 dX3_readDigits_92 rfl (lv_at hl 0 rfl) ?_
      refine w_gr C X fX3_15 rfl dX3_readDigits_93 hp (fun q2 hp => ?_)
      refine w_ln C X dX3_readDigits_96 hp (fun v6 hp => ?_)
      refine lv_icmp_ge (tgt := 120) C.1 C.2.1 dX3_readDigits_97 (by decide) (fun c2 => ?_) (fun c2 => ?_)
      · have hp := if_p _ c2 hp
        refine lv_aload_n C.1 C.2.1 dX3_readDigits_120 rfl (lv_at hl 0 rfl) ?_
        refine w_gi C X fX3_31 rfl dX3_readDigits_121 hp (fun v7 hp => ?_)
        refine lv_if_le (tgt := 131) C.1 C.2.1 dX3_readDigits_124 (by decide) (fun c3 => ?_) (fun c3 => ?_)
        · have hp := if_p _ c3 hp
          refine lv_iconst (v := 0) C.1 C.2.1 dX3_readDigits_131 (by decide) ?_
          exact w_retz C X hr hlk (by decide) (by decide) dX3_readDigits_132 hp
        · have hp := if_n _ c3 hp
          refine lv_iconst (v := 1) C.1 C.2.1 dX3_readDigits_127 (by decide) ?_
          refine lv_goto (tgt := 132) C.1 C.2.1 dX3_readDigits_128 (by decide) ?_
          exact w_retz C X hr hlk (by decide) (by decide) dX3_readDigits_132 hp
      · have hp := if_n _ c2 hp
        refine lv_aload_n C.1 C.2.1 dX3_readDigits_100 rfl (lv_at hl 0 rfl) ?_
        refine w_gr C X fX3_15 rfl dX3_readDigits_101 hp (fun q3 hp => ?_)
        refine lv_aload_n C.1 C.2.1 dX3_readDigits_104 rfl (lv_at hl 0 rfl) ?_
        refine w_gi C X fX3_28 rfl dX3_readDigits_105 hp (fun v8 hp => ?_)
        refine lv_iload_n C.1 C.2.1 dX3_readDigits_108 rfl (lv_at hl 2 rfl) ?_
        refine w_as C X dX3_readDigits_109 hp (fun H locs h3 X hp => ?_)
        refine lv_aload_n C.1 C.2.1 dX3_readDigits_110 rfl (lv_at hl 0 rfl) ?_
        refine lv_dup C.1 C.2.1 dX3_readDigits_111 rfl ?_
        refine w_gi C X fX3_28 rfl dX3_readDigits_112 hp (fun v9 hp => ?_)
        refine lv_iconst (v := 1) C.1 C.2.1 dX3_readDigits_115 (by decide) ?_
        refine lv_iadd C.1 C.2.1 dX3_readDigits_116 ?_
        refine w_pi C X fX3_28 rfl rfl rfl rfl dX3_readDigits_117 hp (fun H locs h4 X hp => ?_)
        refine lv_aload_n C.1 C.2.1 dX3_readDigits_120 rfl (lv_at hl 0 rfl) ?_
        refine w_gi C X fX3_31 rfl dX3_readDigits_121 hp (fun v10 hp => ?_)
        refine lv_if_le (tgt := 131) C.1 C.2.1 dX3_readDigits_124 (by decide) (fun c4 => ?_) (fun c4 => ?_)
        · have hp := if_p _ c4 hp
          refine lv_iconst (v := 0) C.1 C.2.1 dX3_readDigits_131 (by decide) ?_
          exact w_retz C X hr hlk (by decide) (by decide) dX3_readDigits_132 hp
        · have hp := if_n _ c4 hp
          refine lv_iconst (v := 1) C.1 C.2.1 dX3_readDigits_127 (by decide) ?_
          refine lv_goto (tgt := 132) C.1 C.2.1 dX3_readDigits_128 (by decide) ?_
          exact w_retz C X hr hlk (by decide) (by decide) dX3_readDigits_132 hp
    · have hp := if_n _ c1 hp
      refine lv_aload_n C.1 C.2.1 dX3_readDigits_15 rfl (lv_at hl 0 rfl) ?_
      refine w_gi C X fX3_31 rfl dX3_readDigits_16 hp (fun v11 hp => ?_)
      refine lv_aload_n C.1 C.2.1 dX3_readDigits_19 rfl (lv_at hl 0 rfl) ?_
      refine w_gr C X fX3_18 rfl dX3_readDigits_20 hp (fun q4 hp => ?_)
      refine w_ln C X dX3_readDigits_23 hp (fun v12 hp => ?_)
      refine lv_icmp_ge (tgt := 88) C.1 C.2.1 dX3_readDigits_24 (by decide) (fun c5 => ?_) (fun c5 => ?_)
      · have hp := if_p _ c5 hp
        refine lv_aload_n C.1 C.2.1 dX3_readDigits_88 rfl (lv_at hl 0 rfl) ?_
        refine w_gi C X fX3_28 rfl dX3_readDigits_89 hp (fun v13 hp => ?_)
        refine lv_aload_n C.1 C.2.1 dX3_readDigits_92 rfl (lv_at hl 0 rfl) ?_
        refine w_gr C X fX3_15 rfl dX3_readDigits_93 hp (fun q5 hp => ?_)
        refine w_ln C X dX3_readDigits_96 hp (fun v14 hp => ?_)
        refine lv_icmp_ge (tgt := 120) C.1 C.2.1 dX3_readDigits_97 (by decide) (fun c6 => ?_) (fun c6 => ?_)
        · have hp := if_p _ c6 hp
          refine lv_aload_n C.1 C.2.1 dX3_readDigits_120 rfl (lv_at hl 0 rfl) ?_
          refine w_gi C X fX3_31 rfl dX3_readDigits_121 hp (fun v15 hp => ?_)
          refine lv_if_le (tgt := 131) C.1 C.2.1 dX3_readDigits_124 (by decide) (fun c7 => ?_) (fun c7 => ?_)
          · have hp := if_p _ c7 hp
            refine lv_iconst (v := 0) C.1 C.2.1 dX3_readDigits_131 (by decide) ?_
            exact w_retz C X hr hlk (by decide) (by decide) dX3_readDigits_132 hp
          · have hp := if_n _ c7 hp
            refine lv_iconst (v := 1) C.1 C.2.1 dX3_readDigits_127 (by decide) ?_
            refine lv_goto (tgt := 132) C.1 C.2.1 dX3_readDigits_128 (by decide) ?_
            exact w_retz C X hr hlk (by decide) (by decide) dX3_readDigits_132 hp
        · have hp := if_n _ c6 hp
          refine lv_aload_n C.1 C.2.1 dX3_readDigits_100 rfl (lv_at hl 0 rfl) ?_
          refine w_gr C X fX3_15 rfl dX3_readDigits_101 hp (fun q6 hp => ?_)
          refine lv_aload_n C.1 C.2.1 dX3_readDigits_104 rfl (lv_at hl 0 rfl) ?_
          refine w_gi C X fX3_28 rfl dX3_readDigits_105 hp (fun v16 hp => ?_)
          refine lv_iload_n C.1 C.2.1 dX3_readDigits_108 rfl (lv_at hl 2 rfl) ?_
          refine w_as C X dX3_readDigits_109 hp (fun H locs h5 X hp => ?_)
          refine lv_aload_n C.1 C.2.1 dX3_readDigits_110 rfl (lv_at hl 0 rfl) ?_
          refine lv_dup C.1 C.2.1 dX3_readDigits_111 rfl ?_
          refine w_gi C X fX3_28 rfl dX3_readDigits_112 hp (fun v17 hp => ?_)
          refine lv_iconst (v := 1) C.1 C.2.1 dX3_readDigits_115 (by decide) ?_
          refine lv_iadd C.1 C.2.1 dX3_readDigits_116 ?_
          refine w_pi C X fX3_28 rfl rfl rfl rfl dX3_readDigits_117 hp (fun H locs h6 X hp => ?_)
          refine lv_aload_n C.1 C.2.1 dX3_readDigits_120 rfl (lv_at hl 0 rfl) ?_
          refine w_gi C X fX3_31 rfl dX3_readDigits_121 hp (fun v18 hp => ?_)
          refine lv_if_le (tgt := 131) C.1 C.2.1 dX3_readDigits_124 (by decide) (fun c8 => ?_) (fun c8 => ?_)
          · have hp := if_p _ c8 hp
            refine lv_iconst (v := 0) C.1 C.2.1 dX3_readDigits_131 (by decide) ?_
            exact w_retz C X hr hlk (by decide) (by decide) dX3_readDigits_132 hp
          · have hp := if_n _ c8 hp
            refine lv_iconst (v := 1) C.1 C.2.1 dX3_readDigits_127 (by decide) ?_
            refine lv_goto (tgt := 132) C.1 C.2.1 dX3_readDigits_128 (by decide) ?_
            exact w_retz C X hr hlk (by decide) (by decide) dX3_readDigits_132 hp
      · have hp := if_n _ c5 hp
        refine lv_aload_n C.1 C.2.1 dX3_readDigits_27 rfl (lv_at hl 0 rfl) ?_
        have hrc := (rc_some hp).1
        have hp := (rc_some hp).2
        refine w_ci (cells' := 0) (slots' := 0) X (fun _ _ e => run_V (As := []) (c0 := 3) C X mX3_isDigitHere miX3_isDigitHere lX3_66 (by decide) rfl hrc (ct_X3_isDigitHere l K q1 h2 e) (by decide) (by decide) rfl (by decide) rfl hl.1 dX3_readDigits_28) (by decide) hp (fun v19 h7 H locs X hp => ?_)
        refine lv_if_eq (tgt := 88) C.1 C.2.1 dX3_readDigits_31 (by decide) (fun c9 => ?_) (fun c9 => ?_)
        · have hp := if_p _ c9 hp
          refine lv_aload_n C.1 C.2.1 dX3_readDigits_88 rfl (lv_at hl 0 rfl) ?_
          refine w_gi C X fX3_28 rfl dX3_readDigits_89 hp (fun v20 hp => ?_)
          refine lv_aload_n C.1 C.2.1 dX3_readDigits_92 rfl (lv_at hl 0 rfl) ?_
          refine w_gr C X fX3_15 rfl dX3_readDigits_93 hp (fun q7 hp => ?_)
          refine w_ln C X dX3_readDigits_96 hp (fun v21 hp => ?_)
          refine lv_icmp_ge (tgt := 120) C.1 C.2.1 dX3_readDigits_97 (by decide) (fun c10 => ?_) (fun c10 => ?_)
          · have hp := if_p _ c10 hp
            refine lv_aload_n C.1 C.2.1 dX3_readDigits_120 rfl (lv_at hl 0 rfl) ?_
            refine w_gi C X fX3_31 rfl dX3_readDigits_121 hp (fun v22 hp => ?_)
            refine lv_if_le (tgt := 131) C.1 C.2.1 dX3_readDigits_124 (by decide) (fun c11 => ?_) (fun c11 => ?_)
            · have hp := if_p _ c11 hp
              refine lv_iconst (v := 0) C.1 C.2.1 dX3_readDigits_131 (by decide) ?_
              exact w_retz C X hr hlk (by decide) (by decide) dX3_readDigits_132 hp
            · have hp := if_n _ c11 hp
              refine lv_iconst (v := 1) C.1 C.2.1 dX3_readDigits_127 (by decide) ?_
              refine lv_goto (tgt := 132) C.1 C.2.1 dX3_readDigits_128 (by decide) ?_
              exact w_retz C X hr hlk (by decide) (by decide) dX3_readDigits_132 hp
          · have hp := if_n _ c10 hp
            refine lv_aload_n C.1 C.2.1 dX3_readDigits_100 rfl (lv_at hl 0 rfl) ?_
            refine w_gr C X fX3_15 rfl dX3_readDigits_101 hp (fun q8 hp => ?_)
            refine lv_aload_n C.1 C.2.1 dX3_readDigits_104 rfl (lv_at hl 0 rfl) ?_
            refine w_gi C X fX3_28 rfl dX3_readDigits_105 hp (fun v23 hp => ?_)
            refine lv_iload_n C.1 C.2.1 dX3_readDigits_108 rfl (lv_at hl 2 rfl) ?_
            refine w_as C X dX3_readDigits_109 hp (fun H locs h8 X hp => ?_)
            refine lv_aload_n C.1 C.2.1 dX3_readDigits_110 rfl (lv_at hl 0 rfl) ?_
            refine lv_dup C.1 C.2.1 dX3_readDigits_111 rfl ?_
            refine w_gi C X fX3_28 rfl dX3_readDigits_112 hp (fun v24 hp => ?_)
            refine lv_iconst (v := 1) C.1 C.2.1 dX3_readDigits_115 (by decide) ?_
            refine lv_iadd C.1 C.2.1 dX3_readDigits_116 ?_
            refine w_pi C X fX3_28 rfl rfl rfl rfl dX3_readDigits_117 hp (fun H locs h9 X hp => ?_)
            refine lv_aload_n C.1 C.2.1 dX3_readDigits_120 rfl (lv_at hl 0 rfl) ?_
            refine w_gi C X fX3_31 rfl dX3_readDigits_121 hp (fun v25 hp => ?_)
            refine lv_if_le (tgt := 131) C.1 C.2.1 dX3_readDigits_124 (by decide) (fun c12 => ?_) (fun c12 => ?_)
            · have hp := if_p _ c12 hp
              refine lv_iconst (v := 0) C.1 C.2.1 dX3_readDigits_131 (by decide) ?_
              exact w_retz C X hr hlk (by decide) (by decide) dX3_readDigits_132 hp
            · have hp := if_n _ c12 hp
              refine lv_iconst (v := 1) C.1 C.2.1 dX3_readDigits_127 (by decide) ?_
              refine lv_goto (tgt := 132) C.1 C.2.1 dX3_readDigits_128 (by decide) ?_
              exact w_retz C X hr hlk (by decide) (by decide) dX3_readDigits_132 hp
        · have hp := if_n _ c9 hp
          refine lv_aload_n C.1 C.2.1 dX3_readDigits_34 rfl (lv_at hl 0 rfl) ?_
          refine w_gr C X fX3_18 rfl dX3_readDigits_35 hp (fun q9 hp => ?_)
          refine lv_aload_n C.1 C.2.1 dX3_readDigits_38 rfl (lv_at hl 0 rfl) ?_
          refine w_gi C X fX3_31 rfl dX3_readDigits_39 hp (fun v26 hp => ?_)
          refine lv_aload_n C.1 C.2.1 dX3_readDigits_42 rfl (lv_at hl 0 rfl) ?_
          have hrc := (rc_some hp).1
          have hp := (rc_some hp).2
          refine w_ci (cells' := 0) (slots' := 0) X (fun _ _ e => run_V (As := []) (c0 := 3) C X mX3_signHere miX3_signHere lX3_41 (by decide) rfl hrc (ct_X3_signHere l K q1 h7 e) (by decide) (by decide) rfl (Nat.le_of_ble_eq_true rfl) rfl hl.1 dX3_readDigits_43) (by decide) hp (fun v27 h10 H locs X hp => ?_)
          refine lv_bipush (v := 48) C.1 C.2.1 dX3_readDigits_46 (by decide) ?_
          refine lv_isub C.1 C.2.1 dX3_readDigits_48 ?_
          refine w_as C X dX3_readDigits_49 hp (fun H locs h11 X hp => ?_)
          refine lv_iload_n C.1 C.2.1 dX3_readDigits_50 rfl (lv_at hl 2 rfl) ?_
          refine lv_bipush (v := 10) C.1 C.2.1 dX3_readDigits_51 (by decide) ?_
          refine lv_imul C.1 C.2.1 dX3_readDigits_53 ?_
          refine lv_aload_n C.1 C.2.1 dX3_readDigits_54 rfl (lv_at hl 0 rfl) ?_
          refine w_gr C X fX3_18 rfl dX3_readDigits_55 hp (fun q10 hp => ?_)
          refine lv_aload_n C.1 C.2.1 dX3_readDigits_58 rfl (lv_at hl 0 rfl) ?_
          refine w_gi C X fX3_31 rfl dX3_readDigits_59 hp (fun v28 hp => ?_)
          refine w_al C X dX3_readDigits_62 hp (fun v29 hp => ?_)
          refine lv_iadd C.1 C.2.1 dX3_readDigits_63 ?_
          refine w_istn C (fun v => [(2, .int (v)), (0, .ref (K.1 + q1)), (1, .int v2)]) dX3_readDigits_64 rfl hl (by decide) (fun _ => rfl) hp (fun v30 ls hl hp => ?_)
          refine lv_aload_n C.1 C.2.1 dX3_readDigits_65 rfl (lv_at hl 1 rfl) ?_
          refine lv_dup C.1 C.2.1 dX3_readDigits_66 rfl ?_
          refine w_gi C X fX3_31 rfl dX3_readDigits_67 hp (fun v31 hp => ?_)
          refine lv_iconst (v := 1) C.1 C.2.1 dX3_readDigits_70 (by decide) ?_
          refine lv_iadd C.1 C.2.1 dX3_readDigits_71 ?_
          refine w_pi C X fX3_31 rfl rfl rfl rfl dX3_readDigits_72 hp (fun H locs h12 X hp => ?_)
          refine lv_aload_n C.1 C.2.1 dX3_readDigits_75 rfl (lv_at hl 1 rfl) ?_
          refine lv_dup C.1 C.2.1 dX3_readDigits_76 rfl ?_
          refine w_gi C X fX3_25 rfl dX3_readDigits_77 hp (fun v32 hp => ?_)
          refine lv_iconst (v := 1) C.1 C.2.1 dX3_readDigits_80 (by decide) ?_
          refine lv_iadd C.1 C.2.1 dX3_readDigits_81 ?_
          refine w_pi C X fX3_25 rfl rfl rfl rfl dX3_readDigits_82 hp (fun H locs h13 X hp => ?_)
          refine lv_goto (tgt := 7) C.1 C.2.1 dX3_readDigits_85 (by decide) ?_
          exact ih _ _ _ _ _ _ _ X (lv_sub hl [1, 2, 0] rfl) hp

set_option maxHeartbeats 4000000 in
set_option maxRecDepth 100000 in
theorem ct_X3_readDigits (l : Launch) (K : Kt) (p0 : Nat) (a1 : Int32) (h0 : Hp) {r : Int32} {h' : Hp} (hp : P_X3_readDigits p0 a1 h0 = some (r, h')) : CT l K yX3_readDigits cX3_readDigits 3 (some FieldType.boolean) rmX3_readDigits [.ref (K.1 + p0), .int a1] h0 (Qi K r h') := by
  refine ct_of (own := RX3) (by decide +kernel) rfl (Nat.le_of_ble_eq_true rfl) ?_
  intro p e s m args below meth c C X hr hlk hm ls hl
  have hl : lv_has ls 3 [(0, .ref (K.1 + p0)), (1, .int a1)] := hl
  unfold P_X3_readDigits at hp
  refine lv_iconst (v := 0) C.1 C.2.1 dX3_readDigits_0 (by decide) ?_
  refine w_istn C (fun v => [(2, .int (v)), (0, .ref (K.1 + p0)), (1, .int a1)]) dX3_readDigits_1 rfl hl (by decide) (fun _ => rfl) hp (fun v1 ls hl hp => ?_)
  refine lv_aload_n C.1 C.2.1 dX3_readDigits_2 rfl (lv_at hl 1 rfl) ?_
  refine lv_iconst (v := 0) C.1 C.2.1 dX3_readDigits_3 (by decide) ?_
  refine w_pi C X fX3_31 rfl rfl rfl rfl dX3_readDigits_4 hp (fun H locs h1 X hp => ?_)
  exact wl_X3_readDigits_L7 C hr hlk _ _ _ _ _ _ _ _ X (lv_sub hl [1, 2, 0] rfl) hp

abbrev rmX3_readKind : Room := { frames := 2, cells := 0, slots := 0, locals := 41 }
def P_X3_readKind_L2 : Nat → Nat → Int32 → Hp → Option (Int32 × Hp)
  | 0, _, _, _ => none
  | n + 1, q1, v2, h1 =>
    if 6 ≤ v2 then (
    some (0, h1))
    else (
    kc v2 fun v3 =>
    rc h1 q1 3 <| ci (P_X3_takes q1 v3 h1) fun v4 h2 =>
    if v4 = 0 then (
    lt ((v2 + 1) : Int32) fun v5 =>
    P_X3_readKind_L2 n q1 v5 h2)
    else (
    pi h2 q1 3 4 v2 fun h3 =>
    some (1, h3)))

def P_X3_readKind (p0 : Nat) (h0 : Hp) : Option (Int32 × Hp) :=
    lt (0 : Int32) fun v1 =>
    P_X3_readKind_L2 FU p0 v1 h0

set_option maxHeartbeats 4000000 in
set_option maxRecDepth 100000 in
theorem wl_X3_readKind_L2 (C : CX K p m c cX3_readKind 2 s args RX3) (hr : meth.sig.returnType = (some FieldType.boolean)) (hlk : meth.locks = false) {r : Int32} {h' : Hp} : ∀ (n : Nat) (q1 : Nat) (v2 : Int32) (h1 : Hp) (H : Heap) (locs : List Loc) (ls : Array Slot), HX K s.heap H locs h1 → lv_has ls 2 [(0, .ref (K.1 + q1)), (1, .int v2)] → P_X3_readKind_L2 n q1 v2 h1 = some (r, h') → W p l e rmX3_readKind s m args below meth c H locs 0 0 (MQ below (Qi K r h') args s rmX3_readKind.cells rmX3_readKind.slots (KA K)) (F0 m 2 ls []) := by
  intro n
  induction n with
  | zero =>
    intro  q1 v2 h1 H locs ls X hl hp
    cases hp
  | succ n ih =>
    intro  q1 v2 h1 H locs ls X hl hp
    unfold P_X3_readKind_L2 at hp
    refine lv_iload_n C.1 C.2.1 dX3_readKind_2 rfl (lv_at hl 1 rfl) ?_
    refine w_ks C X sX3_59 dX3_readKind_3 ?_
    refine w_kl C X dX3_readKind_6 ?_
    refine lv_icmp_ge (tgt := 35) C.1 C.2.1 dX3_readKind_7 (by decide) (fun c1 => ?_) (fun c1 => ?_)
    · have hp := if_p _ c1 hp
      refine lv_iconst (v := 0) C.1 C.2.1 dX3_readKind_35 (by decide) ?_
      exact w_retz C X hr hlk (by decide) (by decide) dX3_readKind_36 hp
    · have hp := if_n _ c1 hp
      refine lv_aload_n C.1 C.2.1 dX3_readKind_10 rfl (lv_at hl 0 rfl) ?_
      refine w_ks C X sX3_59 dX3_readKind_11 ?_
      refine lv_iload_n C.1 C.2.1 dX3_readKind_14 rfl (lv_at hl 1 rfl) ?_
      refine w_kc C X dX3_readKind_15 hp (fun v3 hp => ?_)
      have hrc := (rc_some hp).1
      have hp := (rc_some hp).2
      refine w_ci (cells' := 0) (slots' := 0) X (fun _ _ e => run_V (As := [.int v3]) (c0 := 3) C X mX3_takes miX3_takes lX3_48 (by decide) rfl hrc (ct_X3_takes l K q1 v3 h1 e) (by decide) (by decide) rfl (by decide) rfl hl.1 dX3_readKind_16) (by decide) hp (fun v4 h2 H locs X hp => ?_)
      refine lv_if_eq (tgt := 29) C.1 C.2.1 dX3_readKind_19 (by decide) (fun c2 => ?_) (fun c2 => ?_)
      · have hp := if_p _ c2 hp
        refine w_inc (k := 1) C (fun v => [(1, .int (v)), (0, .ref (K.1 + q1))]) dX3_readKind_29 hl rfl (y := (v2 + 1)) rfl (by decide) (fun _ => rfl) hp (fun v5 ls hl hp => ?_)
        refine lv_goto (tgt := 2) C.1 C.2.1 dX3_readKind_32 (by decide) ?_
        exact ih _ _ _ _ _ _ X (lv_sub hl [1, 0] rfl) hp
      · have hp := if_n _ c2 hp
        refine lv_aload_n C.1 C.2.1 dX3_readKind_22 rfl (lv_at hl 0 rfl) ?_
        refine lv_iload_n C.1 C.2.1 dX3_readKind_23 rfl (lv_at hl 1 rfl) ?_
        refine w_pi C X fX3_63 rfl rfl rfl rfl dX3_readKind_24 hp (fun H locs h3 X hp => ?_)
        refine lv_iconst (v := 1) C.1 C.2.1 dX3_readKind_27 (by decide) ?_
        exact w_retz C X hr hlk (by decide) (by decide) dX3_readKind_28 hp

set_option maxHeartbeats 4000000 in
set_option maxRecDepth 100000 in
theorem ct_X3_readKind (l : Launch) (K : Kt) (p0 : Nat) (h0 : Hp) {r : Int32} {h' : Hp} (hp : P_X3_readKind p0 h0 = some (r, h')) : CT l K yX3_readKind cX3_readKind 2 (some FieldType.boolean) rmX3_readKind [.ref (K.1 + p0)] h0 (Qi K r h') := by
  refine ct_of (own := RX3) (by decide +kernel) rfl (Nat.le_of_ble_eq_true rfl) ?_
  intro p e s m args below meth c C X hr hlk hm ls hl
  have hl : lv_has ls 2 [(0, .ref (K.1 + p0))] := hl
  unfold P_X3_readKind at hp
  refine lv_iconst (v := 0) C.1 C.2.1 dX3_readKind_0 (by decide) ?_
  refine w_istn C (fun v => [(1, .int (v)), (0, .ref (K.1 + p0))]) dX3_readKind_1 rfl hl (by decide) (fun _ => rfl) hp (fun v1 ls hl hp => ?_)
  exact wl_X3_readKind_L2 C hr hlk _ _ _ _ _ _ _ X (lv_sub hl [1, 0] rfl) hp

abbrev rmX3_readStatement : Room := { frames := 3, cells := 0, slots := 0, locals := 63 }
def P_X3_readStatement (p0 : Nat) (h0 : Hp) : Option (Int32 × Hp) :=
    rc h0 p0 3 <| ci (P_X3_signHere p0 h0) fun v1 h1 =>
    pi h1 p0 3 3 v1 fun h2 =>
    pi h2 p0 3 6 0 fun h3 =>
    rc h3 p0 3 <| ci (P_X3_takes p0 110 h3) fun v2 h4 =>
    if v2 = 0 then (
    rc h4 p0 3 <| ci (P_X3_takes p0 115 h4) fun v5 h7 =>
    if v5 = 0 then (
    rc h7 p0 3 <| ci (P_X3_takes p0 107 h7) fun v6 h8 =>
    if v6 = 0 then (
    rc h8 p0 3 <| ci (P_X3_takes p0 119 h8) fun v7 h9 =>
    if v7 = 0 then (
    rc h9 p0 3 <| ci (P_X3_takes p0 104 h9) fun v10 h12 =>
    if v10 = 0 then (
    rc h12 p0 3 <| ci (P_X3_takes p0 112 h12) fun v11 h13 =>
    if v11 = 0 then (
    some (0, h13))
    else (
    rc h13 p0 3 <| ci (P_X3_readKind p0 h13) fun v12 h14 =>
    if v12 = 0 then (
    some (0, h14))
    else (
    rc h14 p0 3 <| ci (P_X3_readDigits p0 2 h14) fun v13 h15 =>
    if v13 = 0 then (
    some (0, h15))
    else (
    rc h15 p0 3 <| ci (P_X3_takes p0 44 h15) fun v14 h16 =>
    if v14 = 0 then (
    some (0, h16))
    else (
    rc h16 p0 3 <| ci (P_X3_readDigits p0 2 h16) fun v15 h17 =>
    if v15 = 0 then (
    some (0, h17))
    else (
    rc h17 p0 3 <| ci (P_X3_takes p0 44 h17) fun v16 h18 =>
    if v16 = 0 then (
    some (0, h18))
    else (
    rc h18 p0 3 <| ci (P_X3_readDigits p0 1 h18) fun v17 h19 =>
    if v17 = 0 then (
    some (0, h19))
    else (
    rc h19 p0 3 <| ci (P_X3_takes p0 59 h19) fun v18 h20 =>
    if v18 = 0 then (
    some (0, h20))
    else (
    some (1, h20))))))))))
    else (
    rc h12 p0 3 <| ci (P_X3_readDigits p0 12 h12) fun v19 h21 =>
    if v19 = 0 then (
    some (0, h21))
    else (
    rc h21 p0 3 <| ci (P_X3_takes p0 59 h21) fun v20 h22 =>
    if v20 = 0 then (
    some (0, h22))
    else (
    some (1, h22)))))
    else (
    rc h9 p0 3 <| ci (P_X3_readDigits p0 12 h9) fun v8 h10 =>
    if v8 = 0 then (
    some (0, h10))
    else (
    rc h10 p0 3 <| ci (P_X3_takes p0 59 h10) fun v9 h11 =>
    if v9 = 0 then (
    some (0, h11))
    else (
    some (1, h11)))))
    else (
    rc h8 p0 3 <| ci (P_X3_readDigits p0 1 h8) fun v21 h23 =>
    if v21 = 0 then (
    some (0, h23))
    else (
    rc h23 p0 3 <| ci (P_X3_takes p0 59 h23) fun v22 h24 =>
    if v22 = 0 then (
    some (0, h24))
    else (
    some (1, h24)))))
    else (
    rc h7 p0 3 <| ci (P_X3_readDigits p0 2 h7) fun v23 h25 =>
    if v23 = 0 then (
    some (0, h25))
    else (
    rc h25 p0 3 <| ci (P_X3_takes p0 59 h25) fun v24 h26 =>
    if v24 = 0 then (
    some (0, h26))
    else (
    some (1, h26)))))
    else (
    rc h4 p0 3 <| ci (P_X3_readDigits p0 2 h4) fun v3 h5 =>
    if v3 = 0 then (
    some (0, h5))
    else (
    rc h5 p0 3 <| ci (P_X3_takes p0 59 h5) fun v4 h6 =>
    if v4 = 0 then (
    some (0, h6))
    else (
    some (1, h6))))

set_option maxHeartbeats 4000000 in
set_option maxRecDepth 100000 in
theorem ct_X3_readStatement (l : Launch) (K : Kt) (p0 : Nat) (h0 : Hp) {r : Int32} {h' : Hp} (hp : P_X3_readStatement p0 h0 = some (r, h')) : CT l K yX3_readStatement cX3_readStatement 1 (some FieldType.boolean) rmX3_readStatement [.ref (K.1 + p0)] h0 (Qi K r h') := by
  refine ct_of (own := RX3) (by decide +kernel) rfl (Nat.le_of_ble_eq_true rfl) ?_
  intro p e s m args below meth c C X hr hlk hm ls hl
  have hl : lv_has ls 1 [(0, .ref (K.1 + p0))] := hl
  unfold P_X3_readStatement at hp
  refine lv_aload_n C.1 C.2.1 dX3_readStatement_0 rfl (lv_at hl 0 rfl) ?_
  refine lv_aload_n C.1 C.2.1 dX3_readStatement_1 rfl (lv_at hl 0 rfl) ?_
  have hrc := (rc_some hp).1
  have hp := (rc_some hp).2
  refine w_ci (cells' := 0) (slots' := 0) X (fun _ _ e => run_V (As := []) (c0 := 3) C X mX3_signHere miX3_signHere lX3_41 (by decide) rfl hrc (ct_X3_signHere l K p0 h0 e) (by decide) (by decide) rfl (Nat.le_of_ble_eq_true rfl) rfl hl.1 dX3_readStatement_2) (by decide) hp (fun v1 h1 H locs X hp => ?_)
  refine w_pi C X fX3_45 rfl rfl rfl rfl dX3_readStatement_5 hp (fun H locs h2 X hp => ?_)
  refine lv_aload_n C.1 C.2.1 dX3_readStatement_8 rfl (lv_at hl 0 rfl) ?_
  refine lv_iconst (v := 0) C.1 C.2.1 dX3_readStatement_9 (by decide) ?_
  refine w_pi C X fX3_28 rfl rfl rfl rfl dX3_readStatement_10 hp (fun H locs h3 X hp => ?_)
  refine lv_aload_n C.1 C.2.1 dX3_readStatement_13 rfl (lv_at hl 0 rfl) ?_
  refine lv_bipush (v := 110) C.1 C.2.1 dX3_readStatement_14 (by decide) ?_
  have hrc := (rc_some hp).1
  have hp := (rc_some hp).2
  refine w_ci (cells' := 0) (slots' := 0) X (fun _ _ e => run_V (As := [.int 110]) (c0 := 3) C X mX3_takes miX3_takes lX3_48 (by decide) rfl hrc (ct_X3_takes l K p0 110 h3 e) (by decide) (by decide) rfl (by decide) rfl hl.1 dX3_readStatement_16) (by decide) hp (fun v2 h4 H locs X hp => ?_)
  refine lv_if_ne (tgt := 31) C.1 C.2.1 dX3_readStatement_19 (by decide) (fun c1 => ?_) (fun c1 => ?_)
  · have hp := if_n _ c1 hp
    refine lv_aload_n C.1 C.2.1 dX3_readStatement_31 rfl (lv_at hl 0 rfl) ?_
    refine lv_iconst (v := 2) C.1 C.2.1 dX3_readStatement_32 (by decide) ?_
    have hrc := (rc_some hp).1
    have hp := (rc_some hp).2
    refine w_ci (cells' := 0) (slots' := 0) X (fun _ _ e => run_V (As := [.int 2]) (c0 := 3) C X mX3_readDigits miX3_readDigits lX3_52 (by decide) rfl hrc (ct_X3_readDigits l K p0 2 h4 e) (by decide) (by decide) rfl (by decide) rfl hl.1 dX3_readStatement_33) (by decide) hp (fun v3 h5 H locs X hp => ?_)
    refine lv_if_eq (tgt := 52) C.1 C.2.1 dX3_readStatement_36 (by decide) (fun c2 => ?_) (fun c2 => ?_)
    · have hp := if_p _ c2 hp
      refine lv_iconst (v := 0) C.1 C.2.1 dX3_readStatement_52 (by decide) ?_
      exact w_retz C X hr hlk (by decide) (by decide) dX3_readStatement_53 hp
    · have hp := if_n _ c2 hp
      refine lv_aload_n C.1 C.2.1 dX3_readStatement_39 rfl (lv_at hl 0 rfl) ?_
      refine lv_bipush (v := 59) C.1 C.2.1 dX3_readStatement_40 (by decide) ?_
      have hrc := (rc_some hp).1
      have hp := (rc_some hp).2
      refine w_ci (cells' := 0) (slots' := 0) X (fun _ _ e => run_V (As := [.int 59]) (c0 := 3) C X mX3_takes miX3_takes lX3_48 (by decide) rfl hrc (ct_X3_takes l K p0 59 h5 e) (by decide) (by decide) rfl (by decide) rfl hl.1 dX3_readStatement_42) (by decide) hp (fun v4 h6 H locs X hp => ?_)
      refine lv_if_eq (tgt := 52) C.1 C.2.1 dX3_readStatement_45 (by decide) (fun c3 => ?_) (fun c3 => ?_)
      · have hp := if_p _ c3 hp
        refine lv_iconst (v := 0) C.1 C.2.1 dX3_readStatement_52 (by decide) ?_
        exact w_retz C X hr hlk (by decide) (by decide) dX3_readStatement_53 hp
      · have hp := if_n _ c3 hp
        refine lv_iconst (v := 1) C.1 C.2.1 dX3_readStatement_48 (by decide) ?_
        refine lv_goto (tgt := 53) C.1 C.2.1 dX3_readStatement_49 (by decide) ?_
        exact w_retz C X hr hlk (by decide) (by decide) dX3_readStatement_53 hp
  · have hp := if_p _ c1 hp
    refine lv_aload_n C.1 C.2.1 dX3_readStatement_22 rfl (lv_at hl 0 rfl) ?_
    refine lv_bipush (v := 115) C.1 C.2.1 dX3_readStatement_23 (by decide) ?_
    have hrc := (rc_some hp).1
    have hp := (rc_some hp).2
    refine w_ci (cells' := 0) (slots' := 0) X (fun _ _ e => run_V (As := [.int 115]) (c0 := 3) C X mX3_takes miX3_takes lX3_48 (by decide) rfl hrc (ct_X3_takes l K p0 115 h4 e) (by decide) (by decide) rfl (by decide) rfl hl.1 dX3_readStatement_25) (by decide) hp (fun v5 h7 H locs X hp => ?_)
    refine lv_if_eq (tgt := 54) C.1 C.2.1 dX3_readStatement_28 (by decide) (fun c4 => ?_) (fun c4 => ?_)
    · have hp := if_p _ c4 hp
      refine lv_aload_n C.1 C.2.1 dX3_readStatement_54 rfl (lv_at hl 0 rfl) ?_
      refine lv_bipush (v := 107) C.1 C.2.1 dX3_readStatement_55 (by decide) ?_
      have hrc := (rc_some hp).1
      have hp := (rc_some hp).2
      refine w_ci (cells' := 0) (slots' := 0) X (fun _ _ e => run_V (As := [.int 107]) (c0 := 3) C X mX3_takes miX3_takes lX3_48 (by decide) rfl hrc (ct_X3_takes l K p0 107 h7 e) (by decide) (by decide) rfl (by decide) rfl hl.1 dX3_readStatement_57) (by decide) hp (fun v6 h8 H locs X hp => ?_)
      refine lv_if_eq (tgt := 86) C.1 C.2.1 dX3_readStatement_60 (by decide) (fun c5 => ?_) (fun c5 => ?_)
      · have hp := if_p _ c5 hp
        refine lv_aload_n C.1 C.2.1 dX3_readStatement_86 rfl (lv_at hl 0 rfl) ?_
        refine lv_bipush (v := 119) C.1 C.2.1 dX3_readStatement_87 (by decide) ?_
        have hrc := (rc_some hp).1
        have hp := (rc_some hp).2
        refine w_ci (cells' := 0) (slots' := 0) X (fun _ _ e => run_V (As := [.int 119]) (c0 := 3) C X mX3_takes miX3_takes lX3_48 (by decide) rfl hrc (ct_X3_takes l K p0 119 h8 e) (by decide) (by decide) rfl (by decide) rfl hl.1 dX3_readStatement_89) (by decide) hp (fun v7 h9 H locs X hp => ?_)
        refine lv_if_ne (tgt := 104) C.1 C.2.1 dX3_readStatement_92 (by decide) (fun c6 => ?_) (fun c6 => ?_)
        · have hp := if_n _ c6 hp
          refine lv_aload_n C.1 C.2.1 dX3_readStatement_104 rfl (lv_at hl 0 rfl) ?_
          refine lv_bipush (v := 12) C.1 C.2.1 dX3_readStatement_105 (by decide) ?_
          have hrc := (rc_some hp).1
          have hp := (rc_some hp).2
          refine w_ci (cells' := 0) (slots' := 0) X (fun _ _ e => run_V (As := [.int 12]) (c0 := 3) C X mX3_readDigits miX3_readDigits lX3_52 (by decide) rfl hrc (ct_X3_readDigits l K p0 12 h9 e) (by decide) (by decide) rfl (by decide) rfl hl.1 dX3_readStatement_107) (by decide) hp (fun v8 h10 H locs X hp => ?_)
          refine lv_if_eq (tgt := 126) C.1 C.2.1 dX3_readStatement_110 (by decide) (fun c7 => ?_) (fun c7 => ?_)
          · have hp := if_p _ c7 hp
            refine lv_iconst (v := 0) C.1 C.2.1 dX3_readStatement_126 (by decide) ?_
            exact w_retz C X hr hlk (by decide) (by decide) dX3_readStatement_127 hp
          · have hp := if_n _ c7 hp
            refine lv_aload_n C.1 C.2.1 dX3_readStatement_113 rfl (lv_at hl 0 rfl) ?_
            refine lv_bipush (v := 59) C.1 C.2.1 dX3_readStatement_114 (by decide) ?_
            have hrc := (rc_some hp).1
            have hp := (rc_some hp).2
            refine w_ci (cells' := 0) (slots' := 0) X (fun _ _ e => run_V (As := [.int 59]) (c0 := 3) C X mX3_takes miX3_takes lX3_48 (by decide) rfl hrc (ct_X3_takes l K p0 59 h10 e) (by decide) (by decide) rfl (by decide) rfl hl.1 dX3_readStatement_116) (by decide) hp (fun v9 h11 H locs X hp => ?_)
            refine lv_if_eq (tgt := 126) C.1 C.2.1 dX3_readStatement_119 (by decide) (fun c8 => ?_) (fun c8 => ?_)
            · have hp := if_p _ c8 hp
              refine lv_iconst (v := 0) C.1 C.2.1 dX3_readStatement_126 (by decide) ?_
              exact w_retz C X hr hlk (by decide) (by decide) dX3_readStatement_127 hp
            · have hp := if_n _ c8 hp
              refine lv_iconst (v := 1) C.1 C.2.1 dX3_readStatement_122 (by decide) ?_
              refine lv_goto (tgt := 127) C.1 C.2.1 dX3_readStatement_123 (by decide) ?_
              exact w_retz C X hr hlk (by decide) (by decide) dX3_readStatement_127 hp
        · have hp := if_p _ c6 hp
          refine lv_aload_n C.1 C.2.1 dX3_readStatement_95 rfl (lv_at hl 0 rfl) ?_
          refine lv_bipush (v := 104) C.1 C.2.1 dX3_readStatement_96 (by decide) ?_
          have hrc := (rc_some hp).1
          have hp := (rc_some hp).2
          refine w_ci (cells' := 0) (slots' := 0) X (fun _ _ e => run_V (As := [.int 104]) (c0 := 3) C X mX3_takes miX3_takes lX3_48 (by decide) rfl hrc (ct_X3_takes l K p0 104 h9 e) (by decide) (by decide) rfl (by decide) rfl hl.1 dX3_readStatement_98) (by decide) hp (fun v10 h12 H locs X hp => ?_)
          refine lv_if_eq (tgt := 128) C.1 C.2.1 dX3_readStatement_101 (by decide) (fun c9 => ?_) (fun c9 => ?_)
          · have hp := if_p _ c9 hp
            refine lv_aload_n C.1 C.2.1 dX3_readStatement_128 rfl (lv_at hl 0 rfl) ?_
            refine lv_bipush (v := 112) C.1 C.2.1 dX3_readStatement_129 (by decide) ?_
            have hrc := (rc_some hp).1
            have hp := (rc_some hp).2
            refine w_ci (cells' := 0) (slots' := 0) X (fun _ _ e => run_V (As := [.int 112]) (c0 := 3) C X mX3_takes miX3_takes lX3_48 (by decide) rfl hrc (ct_X3_takes l K p0 112 h12 e) (by decide) (by decide) rfl (by decide) rfl hl.1 dX3_readStatement_131) (by decide) hp (fun v11 h13 H locs X hp => ?_)
            refine lv_if_eq (tgt := 199) C.1 C.2.1 dX3_readStatement_134 (by decide) (fun c10 => ?_) (fun c10 => ?_)
            · have hp := if_p _ c10 hp
              refine lv_iconst (v := 0) C.1 C.2.1 dX3_readStatement_199 (by decide) ?_
              exact w_retz C X hr hlk (by decide) (by decide) dX3_readStatement_200 hp
            · have hp := if_n _ c10 hp
              refine lv_aload_n C.1 C.2.1 dX3_readStatement_137 rfl (lv_at hl 0 rfl) ?_
              have hrc := (rc_some hp).1
              have hp := (rc_some hp).2
              refine w_ci (cells' := 0) (slots' := 0) X (fun _ _ e => run_V (As := []) (c0 := 3) C X mX3_readKind miX3_readKind lX3_56 (by decide) rfl hrc (ct_X3_readKind l K p0 h13 e) (by decide) (by decide) rfl (by decide) rfl hl.1 dX3_readStatement_138) (by decide) hp (fun v12 h14 H locs X hp => ?_)
              refine lv_if_eq (tgt := 199) C.1 C.2.1 dX3_readStatement_141 (by decide) (fun c11 => ?_) (fun c11 => ?_)
              · have hp := if_p _ c11 hp
                refine lv_iconst (v := 0) C.1 C.2.1 dX3_readStatement_199 (by decide) ?_
                exact w_retz C X hr hlk (by decide) (by decide) dX3_readStatement_200 hp
              · have hp := if_n _ c11 hp
                refine lv_aload_n C.1 C.2.1 dX3_readStatement_144 rfl (lv_at hl 0 rfl) ?_
                refine lv_iconst (v := 2) C.1 C.2.1 dX3_readStatement_145 (by decide) ?_
                have hrc := (rc_some hp).1
                have hp := (rc_some hp).2
                refine w_ci (cells' := 0) (slots' := 0) X (fun _ _ e => run_V (As := [.int 2]) (c0 := 3) C X mX3_readDigits miX3_readDigits lX3_52 (by decide) rfl hrc (ct_X3_readDigits l K p0 2 h14 e) (by decide) (by decide) rfl (by decide) rfl hl.1 dX3_readStatement_146) (by decide) hp (fun v13 h15 H locs X hp => ?_)
                refine lv_if_eq (tgt := 199) C.1 C.2.1 dX3_readStatement_149 (by decide) (fun c12 => ?_) (fun c12 => ?_)
                · have hp := if_p _ c12 hp
                  refine lv_iconst (v := 0) C.1 C.2.1 dX3_readStatement_199 (by decide) ?_
                  exact w_retz C X hr hlk (by decide) (by decide) dX3_readStatement_200 hp
                · have hp := if_n _ c12 hp
                  refine lv_aload_n C.1 C.2.1 dX3_readStatement_152 rfl (lv_at hl 0 rfl) ?_
                  refine lv_bipush (v := 44) C.1 C.2.1 dX3_readStatement_153 (by decide) ?_
                  have hrc := (rc_some hp).1
                  have hp := (rc_some hp).2
                  refine w_ci (cells' := 0) (slots' := 0) X (fun _ _ e => run_V (As := [.int 44]) (c0 := 3) C X mX3_takes miX3_takes lX3_48 (by decide) rfl hrc (ct_X3_takes l K p0 44 h15 e) (by decide) (by decide) rfl (by decide) rfl hl.1 dX3_readStatement_155) (by decide) hp (fun v14 h16 H locs X hp => ?_)
                  refine lv_if_eq (tgt := 199) C.1 C.2.1 dX3_readStatement_158 (by decide) (fun c13 => ?_) (fun c13 => ?_)
                  · have hp := if_p _ c13 hp
                    refine lv_iconst (v := 0) C.1 C.2.1 dX3_readStatement_199 (by decide) ?_
                    exact w_retz C X hr hlk (by decide) (by decide) dX3_readStatement_200 hp
                  · have hp := if_n _ c13 hp
                    refine lv_aload_n C.1 C.2.1 dX3_readStatement_161 rfl (lv_at hl 0 rfl) ?_
                    refine lv_iconst (v := 2) C.1 C.2.1 dX3_readStatement_162 (by decide) ?_
                    have hrc := (rc_some hp).1
                    have hp := (rc_some hp).2
                    refine w_ci (cells' := 0) (slots' := 0) X (fun _ _ e => run_V (As := [.int 2]) (c0 := 3) C X mX3_readDigits miX3_readDigits lX3_52 (by decide) rfl hrc (ct_X3_readDigits l K p0 2 h16 e) (by decide) (by decide) rfl (by decide) rfl hl.1 dX3_readStatement_163) (by decide) hp (fun v15 h17 H locs X hp => ?_)
                    refine lv_if_eq (tgt := 199) C.1 C.2.1 dX3_readStatement_166 (by decide) (fun c14 => ?_) (fun c14 => ?_)
                    · have hp := if_p _ c14 hp
                      refine lv_iconst (v := 0) C.1 C.2.1 dX3_readStatement_199 (by decide) ?_
                      exact w_retz C X hr hlk (by decide) (by decide) dX3_readStatement_200 hp
                    · have hp := if_n _ c14 hp
                      refine lv_aload_n C.1 C.2.1 dX3_readStatement_169 rfl (lv_at hl 0 rfl) ?_
                      refine lv_bipush (v := 44) C.1 C.2.1 dX3_readStatement_170 (by decide) ?_
                      have hrc := (rc_some hp).1
                      have hp := (rc_some hp).2
                      refine w_ci (cells' := 0) (slots' := 0) X (fun _ _ e => run_V (As := [.int 44]) (c0 := 3) C X mX3_takes miX3_takes lX3_48 (by decide) rfl hrc (ct_X3_takes l K p0 44 h17 e) (by decide) (by decide) rfl (by decide) rfl hl.1 dX3_readStatement_172) (by decide) hp (fun v16 h18 H locs X hp => ?_)
                      refine lv_if_eq (tgt := 199) C.1 C.2.1 dX3_readStatement_175 (by decide) (fun c15 => ?_) (fun c15 => ?_)
                      · have hp := if_p _ c15 hp
                        refine lv_iconst (v := 0) C.1 C.2.1 dX3_readStatement_199 (by decide) ?_
                        exact w_retz C X hr hlk (by decide) (by decide) dX3_readStatement_200 hp
                      · have hp := if_n _ c15 hp
                        refine lv_aload_n C.1 C.2.1 dX3_readStatement_178 rfl (lv_at hl 0 rfl) ?_
                        refine lv_iconst (v := 1) C.1 C.2.1 dX3_readStatement_179 (by decide) ?_
                        have hrc := (rc_some hp).1
                        have hp := (rc_some hp).2
                        refine w_ci (cells' := 0) (slots' := 0) X (fun _ _ e => run_V (As := [.int 1]) (c0 := 3) C X mX3_readDigits miX3_readDigits lX3_52 (by decide) rfl hrc (ct_X3_readDigits l K p0 1 h18 e) (by decide) (by decide) rfl (by decide) rfl hl.1 dX3_readStatement_180) (by decide) hp (fun v17 h19 H locs X hp => ?_)
                        refine lv_if_eq (tgt := 199) C.1 C.2.1 dX3_readStatement_183 (by decide) (fun c16 => ?_) (fun c16 => ?_)
                        · have hp := if_p _ c16 hp
                          refine lv_iconst (v := 0) C.1 C.2.1 dX3_readStatement_199 (by decide) ?_
                          exact w_retz C X hr hlk (by decide) (by decide) dX3_readStatement_200 hp
                        · have hp := if_n _ c16 hp
                          refine lv_aload_n C.1 C.2.1 dX3_readStatement_186 rfl (lv_at hl 0 rfl) ?_
                          refine lv_bipush (v := 59) C.1 C.2.1 dX3_readStatement_187 (by decide) ?_
                          have hrc := (rc_some hp).1
                          have hp := (rc_some hp).2
                          refine w_ci (cells' := 0) (slots' := 0) X (fun _ _ e => run_V (As := [.int 59]) (c0 := 3) C X mX3_takes miX3_takes lX3_48 (by decide) rfl hrc (ct_X3_takes l K p0 59 h19 e) (by decide) (by decide) rfl (by decide) rfl hl.1 dX3_readStatement_189) (by decide) hp (fun v18 h20 H locs X hp => ?_)
                          refine lv_if_eq (tgt := 199) C.1 C.2.1 dX3_readStatement_192 (by decide) (fun c17 => ?_) (fun c17 => ?_)
                          · have hp := if_p _ c17 hp
                            refine lv_iconst (v := 0) C.1 C.2.1 dX3_readStatement_199 (by decide) ?_
                            exact w_retz C X hr hlk (by decide) (by decide) dX3_readStatement_200 hp
                          · have hp := if_n _ c17 hp
                            refine lv_iconst (v := 1) C.1 C.2.1 dX3_readStatement_195 (by decide) ?_
                            refine lv_goto (tgt := 200) C.1 C.2.1 dX3_readStatement_196 (by decide) ?_
                            exact w_retz C X hr hlk (by decide) (by decide) dX3_readStatement_200 hp
          · have hp := if_n _ c9 hp
            refine lv_aload_n C.1 C.2.1 dX3_readStatement_104 rfl (lv_at hl 0 rfl) ?_
            refine lv_bipush (v := 12) C.1 C.2.1 dX3_readStatement_105 (by decide) ?_
            have hrc := (rc_some hp).1
            have hp := (rc_some hp).2
            refine w_ci (cells' := 0) (slots' := 0) X (fun _ _ e => run_V (As := [.int 12]) (c0 := 3) C X mX3_readDigits miX3_readDigits lX3_52 (by decide) rfl hrc (ct_X3_readDigits l K p0 12 h12 e) (by decide) (by decide) rfl (by decide) rfl hl.1 dX3_readStatement_107) (by decide) hp (fun v19 h21 H locs X hp => ?_)
            refine lv_if_eq (tgt := 126) C.1 C.2.1 dX3_readStatement_110 (by decide) (fun c18 => ?_) (fun c18 => ?_)
            · have hp := if_p _ c18 hp
              refine lv_iconst (v := 0) C.1 C.2.1 dX3_readStatement_126 (by decide) ?_
              exact w_retz C X hr hlk (by decide) (by decide) dX3_readStatement_127 hp
            · have hp := if_n _ c18 hp
              refine lv_aload_n C.1 C.2.1 dX3_readStatement_113 rfl (lv_at hl 0 rfl) ?_
              refine lv_bipush (v := 59) C.1 C.2.1 dX3_readStatement_114 (by decide) ?_
              have hrc := (rc_some hp).1
              have hp := (rc_some hp).2
              refine w_ci (cells' := 0) (slots' := 0) X (fun _ _ e => run_V (As := [.int 59]) (c0 := 3) C X mX3_takes miX3_takes lX3_48 (by decide) rfl hrc (ct_X3_takes l K p0 59 h21 e) (by decide) (by decide) rfl (by decide) rfl hl.1 dX3_readStatement_116) (by decide) hp (fun v20 h22 H locs X hp => ?_)
              refine lv_if_eq (tgt := 126) C.1 C.2.1 dX3_readStatement_119 (by decide) (fun c19 => ?_) (fun c19 => ?_)
              · have hp := if_p _ c19 hp
                refine lv_iconst (v := 0) C.1 C.2.1 dX3_readStatement_126 (by decide) ?_
                exact w_retz C X hr hlk (by decide) (by decide) dX3_readStatement_127 hp
              · have hp := if_n _ c19 hp
                refine lv_iconst (v := 1) C.1 C.2.1 dX3_readStatement_122 (by decide) ?_
                refine lv_goto (tgt := 127) C.1 C.2.1 dX3_readStatement_123 (by decide) ?_
                exact w_retz C X hr hlk (by decide) (by decide) dX3_readStatement_127 hp
      · have hp := if_n _ c5 hp
        refine lv_aload_n C.1 C.2.1 dX3_readStatement_63 rfl (lv_at hl 0 rfl) ?_
        refine lv_iconst (v := 1) C.1 C.2.1 dX3_readStatement_64 (by decide) ?_
        have hrc := (rc_some hp).1
        have hp := (rc_some hp).2
        refine w_ci (cells' := 0) (slots' := 0) X (fun _ _ e => run_V (As := [.int 1]) (c0 := 3) C X mX3_readDigits miX3_readDigits lX3_52 (by decide) rfl hrc (ct_X3_readDigits l K p0 1 h8 e) (by decide) (by decide) rfl (by decide) rfl hl.1 dX3_readStatement_65) (by decide) hp (fun v21 h23 H locs X hp => ?_)
        refine lv_if_eq (tgt := 84) C.1 C.2.1 dX3_readStatement_68 (by decide) (fun c20 => ?_) (fun c20 => ?_)
        · have hp := if_p _ c20 hp
          refine lv_iconst (v := 0) C.1 C.2.1 dX3_readStatement_84 (by decide) ?_
          exact w_retz C X hr hlk (by decide) (by decide) dX3_readStatement_85 hp
        · have hp := if_n _ c20 hp
          refine lv_aload_n C.1 C.2.1 dX3_readStatement_71 rfl (lv_at hl 0 rfl) ?_
          refine lv_bipush (v := 59) C.1 C.2.1 dX3_readStatement_72 (by decide) ?_
          have hrc := (rc_some hp).1
          have hp := (rc_some hp).2
          refine w_ci (cells' := 0) (slots' := 0) X (fun _ _ e => run_V (As := [.int 59]) (c0 := 3) C X mX3_takes miX3_takes lX3_48 (by decide) rfl hrc (ct_X3_takes l K p0 59 h23 e) (by decide) (by decide) rfl (by decide) rfl hl.1 dX3_readStatement_74) (by decide) hp (fun v22 h24 H locs X hp => ?_)
          refine lv_if_eq (tgt := 84) C.1 C.2.1 dX3_readStatement_77 (by decide) (fun c21 => ?_) (fun c21 => ?_)
          · have hp := if_p _ c21 hp
            refine lv_iconst (v := 0) C.1 C.2.1 dX3_readStatement_84 (by decide) ?_
            exact w_retz C X hr hlk (by decide) (by decide) dX3_readStatement_85 hp
          · have hp := if_n _ c21 hp
            refine lv_iconst (v := 1) C.1 C.2.1 dX3_readStatement_80 (by decide) ?_
            refine lv_goto (tgt := 85) C.1 C.2.1 dX3_readStatement_81 (by decide) ?_
            exact w_retz C X hr hlk (by decide) (by decide) dX3_readStatement_85 hp
    · have hp := if_n _ c4 hp
      refine lv_aload_n C.1 C.2.1 dX3_readStatement_31 rfl (lv_at hl 0 rfl) ?_
      refine lv_iconst (v := 2) C.1 C.2.1 dX3_readStatement_32 (by decide) ?_
      have hrc := (rc_some hp).1
      have hp := (rc_some hp).2
      refine w_ci (cells' := 0) (slots' := 0) X (fun _ _ e => run_V (As := [.int 2]) (c0 := 3) C X mX3_readDigits miX3_readDigits lX3_52 (by decide) rfl hrc (ct_X3_readDigits l K p0 2 h7 e) (by decide) (by decide) rfl (by decide) rfl hl.1 dX3_readStatement_33) (by decide) hp (fun v23 h25 H locs X hp => ?_)
      refine lv_if_eq (tgt := 52) C.1 C.2.1 dX3_readStatement_36 (by decide) (fun c22 => ?_) (fun c22 => ?_)
      · have hp := if_p _ c22 hp
        refine lv_iconst (v := 0) C.1 C.2.1 dX3_readStatement_52 (by decide) ?_
        exact w_retz C X hr hlk (by decide) (by decide) dX3_readStatement_53 hp
      · have hp := if_n _ c22 hp
        refine lv_aload_n C.1 C.2.1 dX3_readStatement_39 rfl (lv_at hl 0 rfl) ?_
        refine lv_bipush (v := 59) C.1 C.2.1 dX3_readStatement_40 (by decide) ?_
        have hrc := (rc_some hp).1
        have hp := (rc_some hp).2
        refine w_ci (cells' := 0) (slots' := 0) X (fun _ _ e => run_V (As := [.int 59]) (c0 := 3) C X mX3_takes miX3_takes lX3_48 (by decide) rfl hrc (ct_X3_takes l K p0 59 h25 e) (by decide) (by decide) rfl (by decide) rfl hl.1 dX3_readStatement_42) (by decide) hp (fun v24 h26 H locs X hp => ?_)
        refine lv_if_eq (tgt := 52) C.1 C.2.1 dX3_readStatement_45 (by decide) (fun c23 => ?_) (fun c23 => ?_)
        · have hp := if_p _ c23 hp
          refine lv_iconst (v := 0) C.1 C.2.1 dX3_readStatement_52 (by decide) ?_
          exact w_retz C X hr hlk (by decide) (by decide) dX3_readStatement_53 hp
        · have hp := if_n _ c23 hp
          refine lv_iconst (v := 1) C.1 C.2.1 dX3_readStatement_48 (by decide) ?_
          refine lv_goto (tgt := 53) C.1 C.2.1 dX3_readStatement_49 (by decide) ?_
          exact w_retz C X hr hlk (by decide) (by decide) dX3_readStatement_53 hp

abbrev rmX3_misplaced : Room := { frames := 4, cells := 0, slots := 0, locals := 83 }
def P_X3_misplaced_L6 : Nat → Nat → Int32 → Hp → Option (Int32 × Hp)
  | 0, _, _, _ => none
  | n + 1, q1, v2, h2 =>
    if 64 ≤ v2 then (
    some ((-1), h2))
    else (
    if v2 = 0 then (
    rc h2 q1 3 <| ci (P_X3_readStatement q1 h2) fun v3 h3 =>
    if v3 = 0 then (
    gi h3 q1 3 2 fun v5 =>
    some (v5, h3))
    else (
    lt ((v2 + 1) : Int32) fun v4 =>
    P_X3_misplaced_L6 n q1 v4 h3))
    else (
    gi h2 q1 3 2 fun v6 =>
    gi h2 q1 3 1 fun v7 =>
    if v7 ≤ v6 then (
    some ((-1), h2))
    else (
    rc h2 q1 3 <| ci (P_X3_readStatement q1 h2) fun v8 h4 =>
    if v8 = 0 then (
    gi h4 q1 3 2 fun v10 =>
    some (v10, h4))
    else (
    lt ((v2 + 1) : Int32) fun v9 =>
    P_X3_misplaced_L6 n q1 v9 h4))))

def P_X3_misplaced (p0 : Nat) (h0 : Hp) : Option (Int32 × Hp) :=
    rc h0 p0 3 <| cv (P_X3_rewind p0 h0) fun h1 =>
    lt (0 : Int32) fun v1 =>
    P_X3_misplaced_L6 FU p0 v1 h1

set_option maxHeartbeats 4000000 in
set_option maxRecDepth 100000 in
theorem wl_X3_misplaced_L6 (C : CX K p m c cX3_misplaced 2 s args RX3) (hr : meth.sig.returnType = (some FieldType.int)) (hlk : meth.locks = false) {r : Int32} {h' : Hp} : ∀ (n : Nat) (q1 : Nat) (v2 : Int32) (h2 : Hp) (H : Heap) (locs : List Loc) (ls : Array Slot), HX K s.heap H locs h2 → lv_has ls 2 [(0, .ref (K.1 + q1)), (1, .int v2)] → P_X3_misplaced_L6 n q1 v2 h2 = some (r, h') → W p l e rmX3_misplaced s m args below meth c H locs 0 0 (MQ below (Qi K r h') args s rmX3_misplaced.cells rmX3_misplaced.slots (KA K)) (F0 m 6 ls []) := by
  intro n
  induction n with
  | zero =>
    intro  q1 v2 h2 H locs ls X hl hp
    cases hp
  | succ n ih =>
    intro  q1 v2 h2 H locs ls X hl hp
    unfold P_X3_misplaced_L6 at hp
    refine lv_iload_n C.1 C.2.1 dX3_misplaced_6 rfl (lv_at hl 1 rfl) ?_
    refine lv_bipush (v := 64) C.1 C.2.1 dX3_misplaced_7 (by decide) ?_
    refine lv_icmp_ge (tgt := 45) C.1 C.2.1 dX3_misplaced_9 (by decide) (fun c1 => ?_) (fun c1 => ?_)
    · have hp := if_p _ c1 hp
      refine lv_iconst (v := -1) C.1 C.2.1 dX3_misplaced_45 (by decide) ?_
      exact w_reti C X hr hlk (by decide) dX3_misplaced_46 hp
    · have hp := if_n _ c1 hp
      refine lv_iload_n C.1 C.2.1 dX3_misplaced_12 rfl (lv_at hl 1 rfl) ?_
      refine lv_if_eq (tgt := 27) C.1 C.2.1 dX3_misplaced_13 (by decide) (fun c2 => ?_) (fun c2 => ?_)
      · have hp := if_p _ c2 hp
        refine lv_aload_n C.1 C.2.1 dX3_misplaced_27 rfl (lv_at hl 0 rfl) ?_
        have hrc := (rc_some hp).1
        have hp := (rc_some hp).2
        refine w_ci (cells' := 0) (slots' := 0) X (fun _ _ e => run_V (As := []) (c0 := 3) C X mX3_readStatement miX3_readStatement lX3_37 (by decide) rfl hrc (ct_X3_readStatement l K q1 h2 e) (by decide) (by decide) rfl (by decide) rfl hl.1 dX3_misplaced_28) (by decide) hp (fun v3 h3 H locs X hp => ?_)
        refine lv_if_ne (tgt := 39) C.1 C.2.1 dX3_misplaced_31 (by decide) (fun c3 => ?_) (fun c3 => ?_)
        · have hp := if_n _ c3 hp
          refine w_inc (k := 1) C (fun v => [(1, .int (v)), (0, .ref (K.1 + q1))]) dX3_misplaced_39 hl rfl (y := (v2 + 1)) rfl (by decide) (fun _ => rfl) hp (fun v4 ls hl hp => ?_)
          refine lv_goto (tgt := 6) C.1 C.2.1 dX3_misplaced_42 (by decide) ?_
          exact ih _ _ _ _ _ _ X (lv_sub hl [1, 0] rfl) hp
        · have hp := if_p _ c3 hp
          refine lv_aload_n C.1 C.2.1 dX3_misplaced_34 rfl (lv_at hl 0 rfl) ?_
          refine w_gi C X fX3_25 rfl dX3_misplaced_35 hp (fun v5 hp => ?_)
          exact w_reti C X hr hlk (by decide) dX3_misplaced_38 hp
      · have hp := if_n _ c2 hp
        refine lv_aload_n C.1 C.2.1 dX3_misplaced_16 rfl (lv_at hl 0 rfl) ?_
        refine w_gi C X fX3_25 rfl dX3_misplaced_17 hp (fun v6 hp => ?_)
        refine lv_aload_n C.1 C.2.1 dX3_misplaced_20 rfl (lv_at hl 0 rfl) ?_
        refine w_gi C X fX3_21 rfl dX3_misplaced_21 hp (fun v7 hp => ?_)
        refine lv_icmp_ge (tgt := 45) C.1 C.2.1 dX3_misplaced_24 (by decide) (fun c4 => ?_) (fun c4 => ?_)
        · have hp := if_p _ c4 hp
          refine lv_iconst (v := -1) C.1 C.2.1 dX3_misplaced_45 (by decide) ?_
          exact w_reti C X hr hlk (by decide) dX3_misplaced_46 hp
        · have hp := if_n _ c4 hp
          refine lv_aload_n C.1 C.2.1 dX3_misplaced_27 rfl (lv_at hl 0 rfl) ?_
          have hrc := (rc_some hp).1
          have hp := (rc_some hp).2
          refine w_ci (cells' := 0) (slots' := 0) X (fun _ _ e => run_V (As := []) (c0 := 3) C X mX3_readStatement miX3_readStatement lX3_37 (by decide) rfl hrc (ct_X3_readStatement l K q1 h2 e) (by decide) (by decide) rfl (by decide) rfl hl.1 dX3_misplaced_28) (by decide) hp (fun v8 h4 H locs X hp => ?_)
          refine lv_if_ne (tgt := 39) C.1 C.2.1 dX3_misplaced_31 (by decide) (fun c5 => ?_) (fun c5 => ?_)
          · have hp := if_n _ c5 hp
            refine w_inc (k := 1) C (fun v => [(1, .int (v)), (0, .ref (K.1 + q1))]) dX3_misplaced_39 hl rfl (y := (v2 + 1)) rfl (by decide) (fun _ => rfl) hp (fun v9 ls hl hp => ?_)
            refine lv_goto (tgt := 6) C.1 C.2.1 dX3_misplaced_42 (by decide) ?_
            exact ih _ _ _ _ _ _ X (lv_sub hl [1, 0] rfl) hp
          · have hp := if_p _ c5 hp
            refine lv_aload_n C.1 C.2.1 dX3_misplaced_34 rfl (lv_at hl 0 rfl) ?_
            refine w_gi C X fX3_25 rfl dX3_misplaced_35 hp (fun v10 hp => ?_)
            exact w_reti C X hr hlk (by decide) dX3_misplaced_38 hp

set_option maxHeartbeats 4000000 in
set_option maxRecDepth 100000 in
theorem ct_X3_misplaced (l : Launch) (K : Kt) (p0 : Nat) (h0 : Hp) {r : Int32} {h' : Hp} (hp : P_X3_misplaced p0 h0 = some (r, h')) : CT l K yX3_misplaced cX3_misplaced 2 (some FieldType.int) rmX3_misplaced [.ref (K.1 + p0)] h0 (Qi K r h') := by
  refine ct_of (own := RX3) (by decide +kernel) rfl (Nat.le_of_ble_eq_true rfl) ?_
  intro p e s m args below meth c C X hr hlk hm ls hl
  have hl : lv_has ls 2 [(0, .ref (K.1 + p0))] := hl
  unfold P_X3_misplaced at hp
  refine lv_aload_n C.1 C.2.1 dX3_misplaced_0 rfl (lv_at hl 0 rfl) ?_
  have hrc := (rc_some hp).1
  have hp := (rc_some hp).2
  refine w_cv (cells' := 0) (slots' := 0) X (fun _ e => run_V (As := []) (c0 := 3) C X mX3_rewind miX3_rewind lX3_34 (by decide) rfl hrc (ct_X3_rewind l K p0 h0 e) (by decide) (by decide) rfl (by decide) rfl hl.1 dX3_misplaced_1) (by decide) hp (fun h1 H locs X hp => ?_)
  refine lv_iconst (v := 0) C.1 C.2.1 dX3_misplaced_4 (by decide) ?_
  refine w_istn C (fun v => [(1, .int (v)), (0, .ref (K.1 + p0))]) dX3_misplaced_5 rfl hl (by decide) (fun _ => rfl) hp (fun v1 ls hl hp => ?_)
  exact wl_X3_misplaced_L6 C hr hlk _ _ _ _ _ _ _ X (lv_sub hl [1, 0] rfl) hp

abbrev rmX4_init : Room := { frames := 1, cells := 3, slots := 2207, locals := 20 }
def P_X4_init (p0 : Nat) (h0 : Hp) : Option (Hp) :=
    na h0 2187 fun q1 h1 =>
    pr h1 p0 4 0 q1 fun h2 =>
    na h2 7 fun q2 h3 =>
    pr h3 p0 4 1 q2 fun h4 =>
    na h4 13 fun q3 h5 =>
    pr h5 p0 4 2 q3 fun h6 =>
    some h6

set_option maxHeartbeats 4000000 in
set_option maxRecDepth 100000 in
theorem ct_X4_init (l : Launch) (K : Kt) (p0 : Nat) (h0 : Hp) {h' : Hp} (hp : P_X4_init p0 h0 = some h') : CT l K yX4_init cX4_init 1 none rmX4_init [.ref (K.1 + p0)] h0 (Qv K h') := by
  refine ct_of (own := RX4) (by decide +kernel) rfl (Nat.le_of_ble_eq_true rfl) ?_
  intro p e s m args below meth c C X hr hlk hm ls hl
  have hl : lv_has ls 1 [(0, .ref (K.1 + p0))] := hl
  unfold P_X4_init at hp
  refine lv_aload_n C.1 C.2.1 dX4_init_0 rfl (lv_at hl 0 rfl) ?_
  refine w_oi0 C lX4_3 hl.1 (by decide) (by decide) dX4_init_1 ?_
  refine lv_aload_n C.1 C.2.1 dX4_init_4 rfl (lv_at hl 0 rfl) ?_
  refine lv_sipush (v := 2187) C.1 C.2.1 dX4_init_5 (by decide) ?_
  refine w_na (cells' := 1) (slots' := 2187) (N := 2187) C X (by decide +kernel) (by decide) (by decide) (by decide) dX4_init_8 hp (fun q1 h1 H locs X hp => ?_)
  refine w_prf C X fX4_9 rfl rfl hm rfl flX4_9 (fun _ => rfl) (fun _ => rfl) dX4_init_10 hp (fun H locs h2 X hp => ?_)
  refine lv_aload_n C.1 C.2.1 dX4_init_13 rfl (lv_at hl 0 rfl) ?_
  refine lv_bipush (v := 7) C.1 C.2.1 dX4_init_14 (by decide) ?_
  refine w_na (cells' := 2) (slots' := 2194) (N := 7) C X (by decide +kernel) (by decide) (by decide) (by decide) dX4_init_16 hp (fun q2 h3 H locs X hp => ?_)
  refine w_prf C X fX4_15 rfl rfl hm rfl flX4_15 (fun _ => rfl) (fun _ => rfl) dX4_init_18 hp (fun H locs h4 X hp => ?_)
  refine lv_aload_n C.1 C.2.1 dX4_init_21 rfl (lv_at hl 0 rfl) ?_
  refine lv_bipush (v := 13) C.1 C.2.1 dX4_init_22 (by decide) ?_
  refine w_na (cells' := 3) (slots' := 2207) (N := 13) C X (by decide +kernel) (by decide) (by decide) (by decide) dX4_init_24 hp (fun q3 h5 H locs X hp => ?_)
  refine w_prf C X fX4_18 rfl rfl hm rfl flX4_18 (fun _ => rfl) (fun _ => rfl) dX4_init_26 hp (fun H locs h6 X hp => ?_)
  exact w_retv C X hr hlk (by decide) dX4_init_29 hp

abbrev rmX4_goOnceMore : Room := { frames := 1, cells := 0, slots := 0, locals := 27 }
def P_X4_goOnceMore_L15 : Nat → Nat → Int32 → Int32 → Int32 → Int32 → Hp → Option (Hp)
  | 0, _, _, _, _, _, _ => none
  | n + 1, q1, v6, v7, v8, v9, h1 =>
    if v8 ≤ v9 then (
    pi h1 q1 4 3 v8 fun h2 =>
    some h2)
    else (
    gr h1 q1 4 0 fun q2 =>
    ln h1 q2 fun v10 =>
    if v10 ≤ v9 then (
    pi h1 q1 4 3 v8 fun h3 =>
    some h3)
    else (
    gr h1 q1 4 0 fun q3 =>
    gr h1 q1 4 0 fun q4 =>
    al h1 q4 (v9 - v7) fun v11 =>
    gi h1 q1 4 5 fun v12 =>
    ci (P_X5_turned v11 v6 v12 h1) fun v13 h4 =>
    as h4 q3 v9 v13 fun h5 =>
    lt ((v9 + 1) : Int32) fun v14 =>
    P_X4_goOnceMore_L15 n q1 v6 v7 v8 v14 h5))

def P_X4_goOnceMore (p0 : Nat) (a1 : Int32) (h0 : Hp) : Option (Hp) :=
    gi h0 p0 4 3 fun v1 =>
    lt (v1 : Int32) fun v2 =>
    gi h0 p0 4 5 fun v3 =>
    lt ((v2 * v3) : Int32) fun v4 =>
    lt (v2 : Int32) fun v5 =>
    P_X4_goOnceMore_L15 FU p0 a1 v2 v4 v5 h0

set_option maxHeartbeats 4000000 in
set_option maxRecDepth 100000 in
theorem wl_X4_goOnceMore_L15 (C : CX K p m c cX4_goOnceMore 5 s args RX4) (hr : meth.sig.returnType = none) (hlk : meth.locks = false) {h' : Hp} : ∀ (n : Nat) (q1 : Nat) (v6 : Int32) (v7 : Int32) (v8 : Int32) (v9 : Int32) (h1 : Hp) (H : Heap) (locs : List Loc) (ls : Array Slot), HX K s.heap H locs h1 → lv_has ls 5 [(0, .ref (K.1 + q1)), (1, .int v6), (2, .int v7), (3, .int v8), (4, .int v9)] → P_X4_goOnceMore_L15 n q1 v6 v7 v8 v9 h1 = some h' → W p l e rmX4_goOnceMore s m args below meth c H locs 0 0 (MQ below (Qv K h') args s rmX4_goOnceMore.cells rmX4_goOnceMore.slots (KA K)) (F0 m 15 ls []) := by
  intro n
  induction n with
  | zero =>
    intro  q1 v6 v7 v8 v9 h1 H locs ls X hl hp
    cases hp
  | succ n ih =>
    intro  q1 v6 v7 v8 v9 h1 H locs ls X hl hp
    unfold P_X4_goOnceMore_L15 at hp
    refine lv_iload C.1 C.2.1 dX4_goOnceMore_15 (lv_at hl 4 rfl) ?_
    refine lv_iload_n C.1 C.2.1 dX4_goOnceMore_17 rfl (lv_at hl 3 rfl) ?_
    refine lv_icmp_ge (tgt := 61) C.1 C.2.1 dX4_goOnceMore_18 (by decide) (fun c1 => ?_) (fun c1 => ?_)
    · have hp := if_p _ c1 hp
      refine lv_aload_n C.1 C.2.1 dX4_goOnceMore_61 rfl (lv_at hl 0 rfl) ?_
      refine lv_iload_n C.1 C.2.1 dX4_goOnceMore_62 rfl (lv_at hl 3 rfl) ?_
      refine w_pi C X fX4_32 rfl rfl rfl rfl dX4_goOnceMore_63 hp (fun H locs h2 X hp => ?_)
      exact w_retv C X hr hlk (by decide) dX4_goOnceMore_66 hp
    · have hp := if_n _ c1 hp
      refine lv_iload C.1 C.2.1 dX4_goOnceMore_21 (lv_at hl 4 rfl) ?_
      refine lv_aload_n C.1 C.2.1 dX4_goOnceMore_23 rfl (lv_at hl 0 rfl) ?_
      refine w_gr C X fX4_9 rfl dX4_goOnceMore_24 hp (fun q2 hp => ?_)
      refine w_ln C X dX4_goOnceMore_27 hp (fun v10 hp => ?_)
      refine lv_icmp_ge (tgt := 61) C.1 C.2.1 dX4_goOnceMore_28 (by decide) (fun c2 => ?_) (fun c2 => ?_)
      · have hp := if_p _ c2 hp
        refine lv_aload_n C.1 C.2.1 dX4_goOnceMore_61 rfl (lv_at hl 0 rfl) ?_
        refine lv_iload_n C.1 C.2.1 dX4_goOnceMore_62 rfl (lv_at hl 3 rfl) ?_
        refine w_pi C X fX4_32 rfl rfl rfl rfl dX4_goOnceMore_63 hp (fun H locs h3 X hp => ?_)
        exact w_retv C X hr hlk (by decide) dX4_goOnceMore_66 hp
      · have hp := if_n _ c2 hp
        refine lv_aload_n C.1 C.2.1 dX4_goOnceMore_31 rfl (lv_at hl 0 rfl) ?_
        refine w_gr C X fX4_9 rfl dX4_goOnceMore_32 hp (fun q3 hp => ?_)
        refine lv_iload C.1 C.2.1 dX4_goOnceMore_35 (lv_at hl 4 rfl) ?_
        refine lv_aload_n C.1 C.2.1 dX4_goOnceMore_37 rfl (lv_at hl 0 rfl) ?_
        refine w_gr C X fX4_9 rfl dX4_goOnceMore_38 hp (fun q4 hp => ?_)
        refine lv_iload C.1 C.2.1 dX4_goOnceMore_41 (lv_at hl 4 rfl) ?_
        refine lv_iload_n C.1 C.2.1 dX4_goOnceMore_43 rfl (lv_at hl 2 rfl) ?_
        refine lv_isub C.1 C.2.1 dX4_goOnceMore_44 ?_
        refine w_al C X dX4_goOnceMore_45 hp (fun v11 hp => ?_)
        refine lv_iload_n C.1 C.2.1 dX4_goOnceMore_46 rfl (lv_at hl 1 rfl) ?_
        refine lv_aload_n C.1 C.2.1 dX4_goOnceMore_47 rfl (lv_at hl 0 rfl) ?_
        refine w_gi C X fX4_31 rfl dX4_goOnceMore_48 hp (fun v12 hp => ?_)
        refine w_ci (cells' := 0) (slots' := 0) X (fun _ _ e => run_SN (As := [.int v11, .int v6, .int v12]) C X mX5_turned msX5_turned lX4_43 (ct_X5_turned l K v11 v6 v12 h1 e) (by decide) (by decide) rfl (Nat.le_of_ble_eq_true rfl) rfl hl.1 dX4_goOnceMore_51) (by decide) hp (fun v13 h4 H locs X hp => ?_)
        refine w_as C X dX4_goOnceMore_54 hp (fun H locs h5 X hp => ?_)
        refine w_inc (k := 4) C (fun v => [(4, .int (v)), (0, .ref (K.1 + q1)), (1, .int v6), (2, .int v7), (3, .int v8)]) dX4_goOnceMore_55 hl rfl (y := (v9 + 1)) rfl (by decide) (fun _ => rfl) hp (fun v14 ls hl hp => ?_)
        refine lv_goto (tgt := 15) C.1 C.2.1 dX4_goOnceMore_58 (by decide) ?_
        exact ih _ _ _ _ _ _ _ _ _ X (lv_sub hl [1, 2, 3, 4, 0] rfl) hp

set_option maxHeartbeats 4000000 in
set_option maxRecDepth 100000 in
theorem ct_X4_goOnceMore (l : Launch) (K : Kt) (p0 : Nat) (a1 : Int32) (h0 : Hp) {h' : Hp} (hp : P_X4_goOnceMore p0 a1 h0 = some h') : CT l K yX4_goOnceMore cX4_goOnceMore 5 none rmX4_goOnceMore [.ref (K.1 + p0), .int a1] h0 (Qv K h') := by
  refine ct_of (own := RX4) (by decide +kernel) rfl (Nat.le_of_ble_eq_true rfl) ?_
  intro p e s m args below meth c C X hr hlk hm ls hl
  have hl : lv_has ls 5 [(0, .ref (K.1 + p0)), (1, .int a1)] := hl
  unfold P_X4_goOnceMore at hp
  refine lv_aload_n C.1 C.2.1 dX4_goOnceMore_0 rfl (lv_at hl 0 rfl) ?_
  refine w_gi C X fX4_32 rfl dX4_goOnceMore_1 hp (fun v1 hp => ?_)
  refine w_istn C (fun v => [(2, .int (v)), (0, .ref (K.1 + p0)), (1, .int a1)]) dX4_goOnceMore_4 rfl hl (by decide) (fun _ => rfl) hp (fun v2 ls hl hp => ?_)
  refine lv_iload_n C.1 C.2.1 dX4_goOnceMore_5 rfl (lv_at hl 0 rfl) ?_
  refine lv_aload_n C.1 C.2.1 dX4_goOnceMore_6 rfl (lv_at hl 1 rfl) ?_
  refine w_gi C X fX4_31 rfl dX4_goOnceMore_7 hp (fun v3 hp => ?_)
  refine lv_imul C.1 C.2.1 dX4_goOnceMore_10 ?_
  refine w_istn C (fun v => [(3, .int (v)), (2, .int v2), (0, .ref (K.1 + p0)), (1, .int a1)]) dX4_goOnceMore_11 rfl hl (by decide) (fun _ => rfl) hp (fun v4 ls hl hp => ?_)
  refine lv_iload_n C.1 C.2.1 dX4_goOnceMore_12 rfl (lv_at hl 1 rfl) ?_
  refine w_ist C (fun v => [(4, .int (v)), (3, .int v4), (2, .int v2), (0, .ref (K.1 + p0)), (1, .int a1)]) dX4_goOnceMore_13 hl (by decide) (fun _ => rfl) hp (fun v5 ls hl hp => ?_)
  exact wl_X4_goOnceMore_L15 C hr hlk _ _ _ _ _ _ _ _ _ _ X (lv_sub hl [3, 4, 2, 1, 0] rfl) hp

end
