noncomputable section
variable {p : Program} {l : Launch} {e : Env} {s : State} {m : MethodId} {args : Array Value} {below : List Frame} {meth : Method} {c : Code} {K : Kt}
abbrev rmX5_fewestRow : Room := { frames := 4, cells := 0, slots := 0, locals := 91 }
def P_X5_fewestRow_L24 : Nat → Nat → Int32 → Int32 → Int32 → Hp → Option (Int32 × Hp)
  | 0, _, _, _, _, _ => none
  | n + 1, q4, v5, v6, v7, h2 =>
    gr h2 q4 5 4 fun q5 =>
    gi h2 q5 4 3 fun v8 =>
    if v8 ≤ v7 then (
    some (v5, h2))
    else (
    gr h2 q4 5 1 fun q6 =>
    gr h2 q4 5 4 fun q7 =>
    rc h2 q7 4 <| ci (P_X4_endOf q7 v7 h2) fun v9 h3 =>
    rc h3 q6 0 <| ci (P_X0_isWish q6 v9 h3) fun v10 h4 =>
    if v10 = 0 then (
    lt ((v7 + 1) : Int32) fun v11 =>
    P_X5_fewestRow_L24 n q4 v5 v6 v11 h4)
    else (
    gr h4 q4 5 4 fun q8 =>
    rc h4 q8 4 <| ci (P_X4_goingsIn q8 v7 h4) fun v12 h5 =>
    lt (v12 : Int32) fun v13 =>
    if v5 < 0 then (
    lt (v7 : Int32) fun v14 =>
    lt (v13 : Int32) fun v15 =>
    lt ((v7 + 1) : Int32) fun v16 =>
    P_X5_fewestRow_L24 n q4 v14 v15 v16 h5)
    else (
    if v6 ≤ v13 then (
    lt ((v7 + 1) : Int32) fun v17 =>
    P_X5_fewestRow_L24 n q4 v5 v6 v17 h5)
    else (
    lt (v7 : Int32) fun v18 =>
    lt (v13 : Int32) fun v19 =>
    lt ((v7 + 1) : Int32) fun v20 =>
    P_X5_fewestRow_L24 n q4 v18 v19 v20 h5))))

def P_X5_fewestRow (p0 : Nat) (h0 : Hp) : Option (Int32 × Hp) :=
    gr h0 p0 5 4 fun q1 =>
    gr h0 p0 5 1 fun q2 =>
    gr h0 p0 5 1 fun q3 =>
    gi h0 q3 0 7 fun v1 =>
    rc h0 q1 4 <| cv (P_X4_lead q1 q2 v1 h0) fun h1 =>
    lt ((-1) : Int32) fun v2 =>
    lt (0 : Int32) fun v3 =>
    lt (0 : Int32) fun v4 =>
    P_X5_fewestRow_L24 FU p0 v2 v3 v4 h1

set_option maxHeartbeats 4000000 in
set_option maxRecDepth 100000 in
theorem wl_X5_fewestRow_L24 (C : CX K p m c cX5_fewestRow 5 s args RX5) (hr : meth.sig.returnType = (some FieldType.int)) (hlk : meth.locks = false) {r : Int32} {h' : Hp} : ∀ (n : Nat) (q4 : Nat) (v5 : Int32) (v6 : Int32) (v7 : Int32) (h2 : Hp) (H : Heap) (locs : List Loc) (ls : Array Slot), HX K s.heap H locs h2 → lv_has ls 5 [(0, .ref (K.1 + q4)), (1, .int v5), (2, .int v6), (3, .int v7)] → P_X5_fewestRow_L24 n q4 v5 v6 v7 h2 = some (r, h') → W p l e rmX5_fewestRow s m args below meth c H locs 0 0 (MQ below (Qi K r h') args s rmX5_fewestRow.cells rmX5_fewestRow.slots (KA K)) (F0 m 24 ls []) := by
  intro n
  induction n with
  | zero =>
    intro  q4 v5 v6 v7 h2 H locs ls X hl hp
    cases hp
  | succ n ih =>
    intro  q4 v5 v6 v7 h2 H locs ls X hl hp
    unfold P_X5_fewestRow_L24 at hp
    refine lv_iload_n C.1 C.2.1 dX5_fewestRow_24 rfl (lv_at hl 3 rfl) ?_
    refine lv_aload_n C.1 C.2.1 dX5_fewestRow_25 rfl (lv_at hl 0 rfl) ?_
    refine w_gr C X fX5_32 rfl dX5_fewestRow_26 hp (fun q5 hp => ?_)
    refine w_gi C X fX5_180 rfl dX5_fewestRow_29 hp (fun v8 hp => ?_)
    refine lv_icmp_ge (tgt := 84) C.1 C.2.1 dX5_fewestRow_32 (by decide) (fun c1 => ?_) (fun c1 => ?_)
    · have hp := if_p _ c1 hp
      refine lv_iload_n C.1 C.2.1 dX5_fewestRow_84 rfl (lv_at hl 1 rfl) ?_
      exact w_reti C X hr hlk (by decide) dX5_fewestRow_85 hp
    · have hp := if_n _ c1 hp
      refine lv_aload_n C.1 C.2.1 dX5_fewestRow_35 rfl (lv_at hl 0 rfl) ?_
      refine w_gr C X fX5_19 rfl dX5_fewestRow_36 hp (fun q6 hp => ?_)
      refine lv_aload_n C.1 C.2.1 dX5_fewestRow_39 rfl (lv_at hl 0 rfl) ?_
      refine w_gr C X fX5_32 rfl dX5_fewestRow_40 hp (fun q7 hp => ?_)
      refine lv_iload_n C.1 C.2.1 dX5_fewestRow_43 rfl (lv_at hl 3 rfl) ?_
      have hrc := (rc_some hp).1
      have hp := (rc_some hp).2
      refine w_ci (cells' := 0) (slots' := 0) X (fun _ _ e => run_VN (As := [.int v7]) (c0 := 4) C X mX4_endOf miX4_endOf lX5_183 (by decide) rfl hrc (ct_X4_endOf l K q7 v7 h2 e) (by decide) (by decide) rfl (Nat.le_of_ble_eq_true rfl) rfl hl.1 dX5_fewestRow_44) (by decide) hp (fun v9 h3 H locs X hp => ?_)
      have hrc := (rc_some hp).1
      have hp := (rc_some hp).2
      refine w_ci (cells' := 0) (slots' := 0) X (fun _ _ e => run_VN (As := [.int v9]) (c0 := 0) C X mX0_isWish miX0_isWish lX5_143 (by decide) rfl hrc (ct_X0_isWish l K q6 v9 h3 e) (by decide) (by decide) rfl (by decide) rfl hl.1 dX5_fewestRow_47) (by decide) hp (fun v10 h4 H locs X hp => ?_)
      refine lv_if_eq (tgt := 78) C.1 C.2.1 dX5_fewestRow_50 (by decide) (fun c2 => ?_) (fun c2 => ?_)
      · have hp := if_p _ c2 hp
        refine w_inc (k := 3) C (fun v => [(3, .int (v)), (0, .ref (K.1 + q4)), (1, .int v5), (2, .int v6)]) dX5_fewestRow_78 hl rfl (y := (v7 + 1)) rfl (by decide) (fun _ => rfl) hp (fun v11 ls hl hp => ?_)
        refine lv_goto (tgt := 24) C.1 C.2.1 dX5_fewestRow_81 (by decide) ?_
        exact ih _ _ _ _ _ _ _ _ X (lv_sub hl [1, 2, 3, 0] rfl) hp
      · have hp := if_n _ c2 hp
        refine lv_aload_n C.1 C.2.1 dX5_fewestRow_53 rfl (lv_at hl 0 rfl) ?_
        refine w_gr C X fX5_32 rfl dX5_fewestRow_54 hp (fun q8 hp => ?_)
        refine lv_iload_n C.1 C.2.1 dX5_fewestRow_57 rfl (lv_at hl 3 rfl) ?_
        have hrc := (rc_some hp).1
        have hp := (rc_some hp).2
        refine w_ci (cells' := 0) (slots' := 0) X (fun _ _ e => run_VN (As := [.int v7]) (c0 := 4) C X mX4_goingsIn miX4_goingsIn lX5_189 (by decide) rfl hrc (ct_X4_goingsIn l K q8 v7 h4 e) (by decide) (by decide) rfl (by decide) rfl hl.1 dX5_fewestRow_58) (by decide) hp (fun v12 h5 H locs X hp => ?_)
        refine w_ist C (fun v => [(4, .int (v)), (0, .ref (K.1 + q4)), (1, .int v5), (2, .int v6), (3, .int v7)]) dX5_fewestRow_61 hl (by decide) (fun _ => rfl) hp (fun v13 ls hl hp => ?_)
        refine lv_iload_n C.1 C.2.1 dX5_fewestRow_63 rfl (lv_at hl 2 rfl) ?_
        refine lv_if_lt (tgt := 73) C.1 C.2.1 dX5_fewestRow_64 (by decide) (fun c3 => ?_) (fun c3 => ?_)
        · have hp := if_p _ c3 hp
          refine lv_iload_n C.1 C.2.1 dX5_fewestRow_73 rfl (lv_at hl 4 rfl) ?_
          refine w_istn C (fun v => [(1, .int (v)), (4, .int v13), (0, .ref (K.1 + q4)), (2, .int v6), (3, .int v7)]) dX5_fewestRow_74 rfl hl (by decide) (fun _ => rfl) hp (fun v14 ls hl hp => ?_)
          refine lv_iload C.1 C.2.1 dX5_fewestRow_75 (lv_at hl 1 rfl) ?_
          refine w_istn C (fun v => [(2, .int (v)), (1, .int v14), (4, .int v13), (0, .ref (K.1 + q4)), (3, .int v7)]) dX5_fewestRow_77 rfl hl (by decide) (fun _ => rfl) hp (fun v15 ls hl hp => ?_)
          refine w_inc (k := 4) C (fun v => [(3, .int (v)), (2, .int v15), (1, .int v14), (4, .int v13), (0, .ref (K.1 + q4))]) dX5_fewestRow_78 hl rfl (y := (v7 + 1)) rfl (by decide) (fun _ => rfl) hp (fun v16 ls hl hp => ?_)
          refine lv_goto (tgt := 24) C.1 C.2.1 dX5_fewestRow_81 (by decide) ?_
          exact ih _ _ _ _ _ _ _ _ X (lv_sub hl [4, 2, 1, 0] rfl) hp
        · have hp := if_n _ c3 hp
          refine lv_iload C.1 C.2.1 dX5_fewestRow_67 (lv_at hl 0 rfl) ?_
          refine lv_iload_n C.1 C.2.1 dX5_fewestRow_69 rfl (lv_at hl 3 rfl) ?_
          refine lv_icmp_ge (tgt := 78) C.1 C.2.1 dX5_fewestRow_70 (by decide) (fun c4 => ?_) (fun c4 => ?_)
          · have hp := if_p _ c4 hp
            refine w_inc (k := 4) C (fun v => [(3, .int (v)), (4, .int v13), (0, .ref (K.1 + q4)), (1, .int v5), (2, .int v6)]) dX5_fewestRow_78 hl rfl (y := (v7 + 1)) rfl (by decide) (fun _ => rfl) hp (fun v17 ls hl hp => ?_)
            refine lv_goto (tgt := 24) C.1 C.2.1 dX5_fewestRow_81 (by decide) ?_
            exact ih _ _ _ _ _ _ _ _ X (lv_sub hl [2, 3, 4, 0] rfl) hp
          · have hp := if_n _ c4 hp
            refine lv_iload_n C.1 C.2.1 dX5_fewestRow_73 rfl (lv_at hl 4 rfl) ?_
            refine w_istn C (fun v => [(1, .int (v)), (4, .int v13), (0, .ref (K.1 + q4)), (2, .int v6), (3, .int v7)]) dX5_fewestRow_74 rfl hl (by decide) (fun _ => rfl) hp (fun v18 ls hl hp => ?_)
            refine lv_iload C.1 C.2.1 dX5_fewestRow_75 (lv_at hl 1 rfl) ?_
            refine w_istn C (fun v => [(2, .int (v)), (1, .int v18), (4, .int v13), (0, .ref (K.1 + q4)), (3, .int v7)]) dX5_fewestRow_77 rfl hl (by decide) (fun _ => rfl) hp (fun v19 ls hl hp => ?_)
            refine w_inc (k := 4) C (fun v => [(3, .int (v)), (2, .int v19), (1, .int v18), (4, .int v13), (0, .ref (K.1 + q4))]) dX5_fewestRow_78 hl rfl (y := (v7 + 1)) rfl (by decide) (fun _ => rfl) hp (fun v20 ls hl hp => ?_)
            refine lv_goto (tgt := 24) C.1 C.2.1 dX5_fewestRow_81 (by decide) ?_
            exact ih _ _ _ _ _ _ _ _ X (lv_sub hl [4, 2, 1, 0] rfl) hp

set_option maxHeartbeats 4000000 in
set_option maxRecDepth 100000 in
theorem ct_X5_fewestRow (l : Launch) (K : Kt) (p0 : Nat) (h0 : Hp) {r : Int32} {h' : Hp} (hp : P_X5_fewestRow p0 h0 = some (r, h')) : CT l K yX5_fewestRow cX5_fewestRow 5 (some FieldType.int) rmX5_fewestRow [.ref (K.1 + p0)] h0 (Qi K r h') := by
  refine ct_of (own := RX5) (by decide +kernel) rfl (Nat.le_of_ble_eq_true rfl) ?_
  intro p e s m args below meth c C X hr hlk hm ls hl
  have hl : lv_has ls 5 [(0, .ref (K.1 + p0))] := hl
  unfold P_X5_fewestRow at hp
  refine lv_aload_n C.1 C.2.1 dX5_fewestRow_0 rfl (lv_at hl 0 rfl) ?_
  refine w_gr C X fX5_32 rfl dX5_fewestRow_1 hp (fun q1 hp => ?_)
  refine lv_aload_n C.1 C.2.1 dX5_fewestRow_4 rfl (lv_at hl 0 rfl) ?_
  refine w_gr C X fX5_19 rfl dX5_fewestRow_5 hp (fun q2 hp => ?_)
  refine lv_aload_n C.1 C.2.1 dX5_fewestRow_8 rfl (lv_at hl 0 rfl) ?_
  refine w_gr C X fX5_19 rfl dX5_fewestRow_9 hp (fun q3 hp => ?_)
  refine w_gi C X fX5_93 rfl dX5_fewestRow_12 hp (fun v1 hp => ?_)
  have hrc := (rc_some hp).1
  have hp := (rc_some hp).2
  refine w_cv (cells' := 0) (slots' := 0) X (fun _ e => run_VN (As := [.ref (K.1 + q2), .int v1]) (c0 := 4) C X mX4_lead miX4_lead lX5_176 (by decide) rfl hrc (ct_X4_lead l K q1 q2 v1 h0 e) (by decide) (by decide) rfl (by decide) rfl hl.1 dX5_fewestRow_15) (by decide) hp (fun h1 H locs X hp => ?_)
  refine lv_iconst (v := -1) C.1 C.2.1 dX5_fewestRow_18 (by decide) ?_
  refine w_istn C (fun v => [(1, .int (v)), (0, .ref (K.1 + p0))]) dX5_fewestRow_19 rfl hl (by decide) (fun _ => rfl) hp (fun v2 ls hl hp => ?_)
  refine lv_iconst (v := 0) C.1 C.2.1 dX5_fewestRow_20 (by decide) ?_
  refine w_istn C (fun v => [(2, .int (v)), (1, .int v2), (0, .ref (K.1 + p0))]) dX5_fewestRow_21 rfl hl (by decide) (fun _ => rfl) hp (fun v3 ls hl hp => ?_)
  refine lv_iconst (v := 0) C.1 C.2.1 dX5_fewestRow_22 (by decide) ?_
  refine w_istn C (fun v => [(3, .int (v)), (2, .int v3), (1, .int v2), (0, .ref (K.1 + p0))]) dX5_fewestRow_23 rfl hl (by decide) (fun _ => rfl) hp (fun v4 ls hl hp => ?_)
  exact wl_X5_fewestRow_L24 C hr hlk _ _ _ _ _ _ _ _ _ X (lv_sub hl [3, 2, 1, 0] rfl) hp

abbrev rmX5_fewest : Room := { frames := 5, cells := 0, slots := 0, locals := 115 }
def P_X5_fewest (p0 : Nat) (h0 : Hp) : Option (Int32 × Hp) :=
    rc h0 p0 5 <| ci (P_X5_fewestRow p0 h0) fun v1 h1 =>
    lt (v1 : Int32) fun v2 =>
    if 0 ≤ v2 then (
    gr h1 p0 5 4 fun q1 =>
    rc h1 q1 4 <| ci (P_X4_goingsIn q1 v2 h1) fun v3 h2 =>
    some (v3, h2))
    else (
    some ((-9), h1))

set_option maxHeartbeats 4000000 in
set_option maxRecDepth 100000 in
theorem ct_X5_fewest (l : Launch) (K : Kt) (p0 : Nat) (h0 : Hp) {r : Int32} {h' : Hp} (hp : P_X5_fewest p0 h0 = some (r, h')) : CT l K yX5_fewest cX5_fewest 2 (some FieldType.int) rmX5_fewest [.ref (K.1 + p0)] h0 (Qi K r h') := by
  refine ct_of (own := RX5) (by decide +kernel) rfl (Nat.le_of_ble_eq_true rfl) ?_
  intro p e s m args below meth c C X hr hlk hm ls hl
  have hl : lv_has ls 2 [(0, .ref (K.1 + p0))] := hl
  unfold P_X5_fewest at hp
  refine lv_aload_n C.1 C.2.1 dX5_fewest_0 rfl (lv_at hl 0 rfl) ?_
  have hrc := (rc_some hp).1
  have hp := (rc_some hp).2
  refine w_ci (cells' := 0) (slots' := 0) X (fun _ _ e => run_V (As := []) (c0 := 5) C X mX5_fewestRow miX5_fewestRow lX5_186 (by decide) rfl hrc (ct_X5_fewestRow l K p0 h0 e) (by decide) (by decide) rfl (by decide) rfl hl.1 dX5_fewest_1) (by decide) hp (fun v1 h1 H locs X hp => ?_)
  refine w_istn C (fun v => [(1, .int (v)), (0, .ref (K.1 + p0))]) dX5_fewest_4 rfl hl (by decide) (fun _ => rfl) hp (fun v2 ls hl hp => ?_)
  refine lv_iload_n C.1 C.2.1 dX5_fewest_5 rfl (lv_at hl 0 rfl) ?_
  refine lv_if_ge (tgt := 14) C.1 C.2.1 dX5_fewest_6 (by decide) (fun c1 => ?_) (fun c1 => ?_)
  · have hp := if_p _ c1 hp
    refine lv_aload_n C.1 C.2.1 dX5_fewest_14 rfl (lv_at hl 1 rfl) ?_
    refine w_gr C X fX5_32 rfl dX5_fewest_15 hp (fun q1 hp => ?_)
    refine lv_iload_n C.1 C.2.1 dX5_fewest_18 rfl (lv_at hl 0 rfl) ?_
    have hrc := (rc_some hp).1
    have hp := (rc_some hp).2
    refine w_ci (cells' := 0) (slots' := 0) X (fun _ _ e => run_VN (As := [.int v2]) (c0 := 4) C X mX4_goingsIn miX4_goingsIn lX5_189 (by decide) rfl hrc (ct_X4_goingsIn l K q1 v2 h1 e) (by decide) (by decide) rfl (by decide) rfl hl.1 dX5_fewest_19) (by decide) hp (fun v3 h2 H locs X hp => ?_)
    exact w_reti C X hr hlk (by decide) dX5_fewest_22 hp
  · have hp := if_n _ c1 hp
    refine lv_bipush (v := -9) C.1 C.2.1 dX5_fewest_9 (by decide) ?_
    refine lv_goto (tgt := 22) C.1 C.2.1 dX5_fewest_11 (by decide) ?_
    exact w_reti C X hr hlk (by decide) dX5_fewest_22 hp

abbrev rmX5_cheapest : Room := { frames := 4, cells := 0, slots := 0, locals := 91 }
def P_X5_cheapest_L23 : Nat → Nat → Int32 → Int32 → Hp → Option (Int32 × Hp)
  | 0, _, _, _, _ => none
  | n + 1, q4, v4, v5, h2 =>
    gr h2 q4 5 4 fun q5 =>
    gi h2 q5 4 3 fun v6 =>
    if v6 ≤ v5 then (
    some (v4, h2))
    else (
    gr h2 q4 5 1 fun q6 =>
    gr h2 q4 5 4 fun q7 =>
    rc h2 q7 4 <| ci (P_X4_endOf q7 v5 h2) fun v7 h3 =>
    rc h3 q6 0 <| ci (P_X0_isWish q6 v7 h3) fun v8 h4 =>
    if v8 = 0 then (
    lt ((v5 + 1) : Int32) fun v9 =>
    P_X5_cheapest_L23 n q4 v4 v9 h4)
    else (
    gr h4 q4 5 4 fun q8 =>
    gr h4 q4 5 1 fun q9 =>
    rc h4 q8 4 <| ci (P_X4_costOf q8 v5 q9 h4) fun v10 h5 =>
    lt (v10 : Int32) fun v11 =>
    if v4 = (-9) then (
    lt (v11 : Int32) fun v12 =>
    lt ((v5 + 1) : Int32) fun v13 =>
    P_X5_cheapest_L23 n q4 v12 v13 h5)
    else (
    if v4 ≤ v11 then (
    lt ((v5 + 1) : Int32) fun v14 =>
    P_X5_cheapest_L23 n q4 v4 v14 h5)
    else (
    lt (v11 : Int32) fun v15 =>
    lt ((v5 + 1) : Int32) fun v16 =>
    P_X5_cheapest_L23 n q4 v15 v16 h5))))

def P_X5_cheapest (p0 : Nat) (h0 : Hp) : Option (Int32 × Hp) :=
    gr h0 p0 5 4 fun q1 =>
    gr h0 p0 5 1 fun q2 =>
    gr h0 p0 5 1 fun q3 =>
    gi h0 q3 0 7 fun v1 =>
    rc h0 q1 4 <| cv (P_X4_lead q1 q2 v1 h0) fun h1 =>
    lt ((-9) : Int32) fun v2 =>
    lt (0 : Int32) fun v3 =>
    P_X5_cheapest_L23 FU p0 v2 v3 h1

set_option maxHeartbeats 4000000 in
set_option maxRecDepth 100000 in
theorem wl_X5_cheapest_L23 (C : CX K p m c cX5_cheapest 4 s args RX5) (hr : meth.sig.returnType = (some FieldType.int)) (hlk : meth.locks = false) {r : Int32} {h' : Hp} : ∀ (n : Nat) (q4 : Nat) (v4 : Int32) (v5 : Int32) (h2 : Hp) (H : Heap) (locs : List Loc) (ls : Array Slot), HX K s.heap H locs h2 → lv_has ls 4 [(0, .ref (K.1 + q4)), (1, .int v4), (2, .int v5)] → P_X5_cheapest_L23 n q4 v4 v5 h2 = some (r, h') → W p l e rmX5_cheapest s m args below meth c H locs 0 0 (MQ below (Qi K r h') args s rmX5_cheapest.cells rmX5_cheapest.slots (KA K)) (F0 m 23 ls []) := by
  intro n
  induction n with
  | zero =>
    intro  q4 v4 v5 h2 H locs ls X hl hp
    cases hp
  | succ n ih =>
    intro  q4 v4 v5 h2 H locs ls X hl hp
    unfold P_X5_cheapest_L23 at hp
    refine lv_iload_n C.1 C.2.1 dX5_cheapest_23 rfl (lv_at hl 2 rfl) ?_
    refine lv_aload_n C.1 C.2.1 dX5_cheapest_24 rfl (lv_at hl 0 rfl) ?_
    refine w_gr C X fX5_32 rfl dX5_cheapest_25 hp (fun q5 hp => ?_)
    refine w_gi C X fX5_180 rfl dX5_cheapest_28 hp (fun v6 hp => ?_)
    refine lv_icmp_ge (tgt := 84) C.1 C.2.1 dX5_cheapest_31 (by decide) (fun c1 => ?_) (fun c1 => ?_)
    · have hp := if_p _ c1 hp
      refine lv_iload_n C.1 C.2.1 dX5_cheapest_84 rfl (lv_at hl 1 rfl) ?_
      exact w_reti C X hr hlk (by decide) dX5_cheapest_85 hp
    · have hp := if_n _ c1 hp
      refine lv_aload_n C.1 C.2.1 dX5_cheapest_34 rfl (lv_at hl 0 rfl) ?_
      refine w_gr C X fX5_19 rfl dX5_cheapest_35 hp (fun q6 hp => ?_)
      refine lv_aload_n C.1 C.2.1 dX5_cheapest_38 rfl (lv_at hl 0 rfl) ?_
      refine w_gr C X fX5_32 rfl dX5_cheapest_39 hp (fun q7 hp => ?_)
      refine lv_iload_n C.1 C.2.1 dX5_cheapest_42 rfl (lv_at hl 2 rfl) ?_
      have hrc := (rc_some hp).1
      have hp := (rc_some hp).2
      refine w_ci (cells' := 0) (slots' := 0) X (fun _ _ e => run_VN (As := [.int v5]) (c0 := 4) C X mX4_endOf miX4_endOf lX5_183 (by decide) rfl hrc (ct_X4_endOf l K q7 v5 h2 e) (by decide) (by decide) rfl (Nat.le_of_ble_eq_true rfl) rfl hl.1 dX5_cheapest_43) (by decide) hp (fun v7 h3 H locs X hp => ?_)
      have hrc := (rc_some hp).1
      have hp := (rc_some hp).2
      refine w_ci (cells' := 0) (slots' := 0) X (fun _ _ e => run_VN (As := [.int v7]) (c0 := 0) C X mX0_isWish miX0_isWish lX5_143 (by decide) rfl hrc (ct_X0_isWish l K q6 v7 h3 e) (by decide) (by decide) rfl (by decide) rfl hl.1 dX5_cheapest_46) (by decide) hp (fun v8 h4 H locs X hp => ?_)
      refine lv_if_eq (tgt := 78) C.1 C.2.1 dX5_cheapest_49 (by decide) (fun c2 => ?_) (fun c2 => ?_)
      · have hp := if_p _ c2 hp
        refine w_inc (k := 2) C (fun v => [(2, .int (v)), (0, .ref (K.1 + q4)), (1, .int v4)]) dX5_cheapest_78 hl rfl (y := (v5 + 1)) rfl (by decide) (fun _ => rfl) hp (fun v9 ls hl hp => ?_)
        refine lv_goto (tgt := 23) C.1 C.2.1 dX5_cheapest_81 (by decide) ?_
        exact ih _ _ _ _ _ _ _ X (lv_sub hl [1, 2, 0] rfl) hp
      · have hp := if_n _ c2 hp
        refine lv_aload_n C.1 C.2.1 dX5_cheapest_52 rfl (lv_at hl 0 rfl) ?_
        refine w_gr C X fX5_32 rfl dX5_cheapest_53 hp (fun q8 hp => ?_)
        refine lv_iload_n C.1 C.2.1 dX5_cheapest_56 rfl (lv_at hl 2 rfl) ?_
        refine lv_aload_n C.1 C.2.1 dX5_cheapest_57 rfl (lv_at hl 0 rfl) ?_
        refine w_gr C X fX5_19 rfl dX5_cheapest_58 hp (fun q9 hp => ?_)
        have hrc := (rc_some hp).1
        have hp := (rc_some hp).2
        refine w_ci (cells' := 0) (slots' := 0) X (fun _ _ e => run_VN (As := [.int v5, .ref (K.1 + q9)]) (c0 := 4) C X mX4_costOf miX4_costOf lX5_192 (by decide) rfl hrc (ct_X4_costOf l K q8 v5 q9 h4 e) (by decide) (by decide) rfl (by decide) rfl hl.1 dX5_cheapest_61) (by decide) hp (fun v10 h5 H locs X hp => ?_)
        refine w_istn C (fun v => [(3, .int (v)), (0, .ref (K.1 + q4)), (1, .int v4), (2, .int v5)]) dX5_cheapest_64 rfl hl (by decide) (fun _ => rfl) hp (fun v11 ls hl hp => ?_)
        refine lv_iload_n C.1 C.2.1 dX5_cheapest_65 rfl (lv_at hl 2 rfl) ?_
        refine lv_bipush (v := -9) C.1 C.2.1 dX5_cheapest_66 (by decide) ?_
        refine lv_icmp_eq (tgt := 76) C.1 C.2.1 dX5_cheapest_68 (by decide) (fun c3 => ?_) (fun c3 => ?_)
        · have hp := if_p _ c3 hp
          refine lv_iload_n C.1 C.2.1 dX5_cheapest_76 rfl (lv_at hl 0 rfl) ?_
          refine w_istn C (fun v => [(1, .int (v)), (3, .int v11), (0, .ref (K.1 + q4)), (2, .int v5)]) dX5_cheapest_77 rfl hl (by decide) (fun _ => rfl) hp (fun v12 ls hl hp => ?_)
          refine w_inc (k := 3) C (fun v => [(2, .int (v)), (1, .int v12), (3, .int v11), (0, .ref (K.1 + q4))]) dX5_cheapest_78 hl rfl (y := (v5 + 1)) rfl (by decide) (fun _ => rfl) hp (fun v13 ls hl hp => ?_)
          refine lv_goto (tgt := 23) C.1 C.2.1 dX5_cheapest_81 (by decide) ?_
          exact ih _ _ _ _ _ _ _ X (lv_sub hl [3, 1, 0] rfl) hp
        · have hp := if_n _ c3 hp
          refine lv_iload_n C.1 C.2.1 dX5_cheapest_71 rfl (lv_at hl 0 rfl) ?_
          refine lv_iload_n C.1 C.2.1 dX5_cheapest_72 rfl (lv_at hl 2 rfl) ?_
          refine lv_icmp_ge (tgt := 78) C.1 C.2.1 dX5_cheapest_73 (by decide) (fun c4 => ?_) (fun c4 => ?_)
          · have hp := if_p _ c4 hp
            refine w_inc (k := 3) C (fun v => [(2, .int (v)), (3, .int v11), (0, .ref (K.1 + q4)), (1, .int v4)]) dX5_cheapest_78 hl rfl (y := (v5 + 1)) rfl (by decide) (fun _ => rfl) hp (fun v14 ls hl hp => ?_)
            refine lv_goto (tgt := 23) C.1 C.2.1 dX5_cheapest_81 (by decide) ?_
            exact ih _ _ _ _ _ _ _ X (lv_sub hl [2, 3, 0] rfl) hp
          · have hp := if_n _ c4 hp
            refine lv_iload_n C.1 C.2.1 dX5_cheapest_76 rfl (lv_at hl 0 rfl) ?_
            refine w_istn C (fun v => [(1, .int (v)), (3, .int v11), (0, .ref (K.1 + q4)), (2, .int v5)]) dX5_cheapest_77 rfl hl (by decide) (fun _ => rfl) hp (fun v15 ls hl hp => ?_)
            refine w_inc (k := 3) C (fun v => [(2, .int (v)), (1, .int v15), (3, .int v11), (0, .ref (K.1 + q4))]) dX5_cheapest_78 hl rfl (y := (v5 + 1)) rfl (by decide) (fun _ => rfl) hp (fun v16 ls hl hp => ?_)
            refine lv_goto (tgt := 23) C.1 C.2.1 dX5_cheapest_81 (by decide) ?_
            exact ih _ _ _ _ _ _ _ X (lv_sub hl [3, 1, 0] rfl) hp

set_option maxHeartbeats 4000000 in
set_option maxRecDepth 100000 in
theorem ct_X5_cheapest (l : Launch) (K : Kt) (p0 : Nat) (h0 : Hp) {r : Int32} {h' : Hp} (hp : P_X5_cheapest p0 h0 = some (r, h')) : CT l K yX5_cheapest cX5_cheapest 4 (some FieldType.int) rmX5_cheapest [.ref (K.1 + p0)] h0 (Qi K r h') := by
  refine ct_of (own := RX5) (by decide +kernel) rfl (Nat.le_of_ble_eq_true rfl) ?_
  intro p e s m args below meth c C X hr hlk hm ls hl
  have hl : lv_has ls 4 [(0, .ref (K.1 + p0))] := hl
  unfold P_X5_cheapest at hp
  refine lv_aload_n C.1 C.2.1 dX5_cheapest_0 rfl (lv_at hl 0 rfl) ?_
  refine w_gr C X fX5_32 rfl dX5_cheapest_1 hp (fun q1 hp => ?_)
  refine lv_aload_n C.1 C.2.1 dX5_cheapest_4 rfl (lv_at hl 0 rfl) ?_
  refine w_gr C X fX5_19 rfl dX5_cheapest_5 hp (fun q2 hp => ?_)
  refine lv_aload_n C.1 C.2.1 dX5_cheapest_8 rfl (lv_at hl 0 rfl) ?_
  refine w_gr C X fX5_19 rfl dX5_cheapest_9 hp (fun q3 hp => ?_)
  refine w_gi C X fX5_93 rfl dX5_cheapest_12 hp (fun v1 hp => ?_)
  have hrc := (rc_some hp).1
  have hp := (rc_some hp).2
  refine w_cv (cells' := 0) (slots' := 0) X (fun _ e => run_VN (As := [.ref (K.1 + q2), .int v1]) (c0 := 4) C X mX4_lead miX4_lead lX5_176 (by decide) rfl hrc (ct_X4_lead l K q1 q2 v1 h0 e) (by decide) (by decide) rfl (by decide) rfl hl.1 dX5_cheapest_15) (by decide) hp (fun h1 H locs X hp => ?_)
  refine lv_bipush (v := -9) C.1 C.2.1 dX5_cheapest_18 (by decide) ?_
  refine w_istn C (fun v => [(1, .int (v)), (0, .ref (K.1 + p0))]) dX5_cheapest_20 rfl hl (by decide) (fun _ => rfl) hp (fun v2 ls hl hp => ?_)
  refine lv_iconst (v := 0) C.1 C.2.1 dX5_cheapest_21 (by decide) ?_
  refine w_istn C (fun v => [(2, .int (v)), (1, .int v2), (0, .ref (K.1 + p0))]) dX5_cheapest_22 rfl hl (by decide) (fun _ => rfl) hp (fun v3 ls hl hp => ?_)
  exact wl_X5_cheapest_L23 C hr hlk _ _ _ _ _ _ _ _ X (lv_sub hl [2, 1, 0] rfl) hp

abbrev rmX5_how : Room := { frames := 5, cells := 0, slots := 0, locals := 115 }
def P_X5_how (p0 : Nat) (a1 : Int32) (h0 : Hp) : Option (Int32 × Hp) :=
    gr h0 p0 5 1 fun q1 =>
    rc h0 q1 0 <| ci (P_X0_goerOf q1 a1 h0) fun o1 h1 =>
    nn o1 (
    rc h1 p0 5 <| ci (P_X5_refuse p0 1 h1) fun v1 h2 =>
    some (v1, h2)) fun q2 =>
    rc h1 p0 5 <| ci (P_X5_fewestRow p0 h1) fun v2 h3 =>
    lt (v2 : Int32) fun v3 =>
    if 0 ≤ v3 then (
    gr h3 p0 5 4 fun q3 =>
    rc h3 q3 4 <| ci (P_X4_timesIn q3 v3 a1 h3) fun v4 h4 =>
    some (v4, h4))
    else (
    some ((-9), h3))

set_option maxHeartbeats 4000000 in
set_option maxRecDepth 100000 in
theorem ct_X5_how (l : Launch) (K : Kt) (p0 : Nat) (a1 : Int32) (h0 : Hp) {r : Int32} {h' : Hp} (hp : P_X5_how p0 a1 h0 = some (r, h')) : CT l K yX5_how cX5_how 3 (some FieldType.int) rmX5_how [.ref (K.1 + p0), .int a1] h0 (Qi K r h') := by
  refine ct_of (own := RX5) (by decide +kernel) rfl (Nat.le_of_ble_eq_true rfl) ?_
  intro p e s m args below meth c C X hr hlk hm ls hl
  have hl : lv_has ls 3 [(0, .ref (K.1 + p0)), (1, .int a1)] := hl
  unfold P_X5_how at hp
  refine lv_aload_n C.1 C.2.1 dX5_how_0 rfl (lv_at hl 0 rfl) ?_
  refine w_gr C X fX5_19 rfl dX5_how_1 hp (fun q1 hp => ?_)
  refine lv_iload_n C.1 C.2.1 dX5_how_4 rfl (lv_at hl 1 rfl) ?_
  have hrc := (rc_some hp).1
  have hp := (rc_some hp).2
  refine w_cq (cells' := 0) (slots' := 0) X (fun _ _ e => run_VN (As := [.int a1]) (c0 := 0) C X mX0_goerOf miX0_goerOf lX5_106 (by decide) rfl hrc (ct_X0_goerOf l K q1 a1 h0 e) (by decide) (by decide) rfl (by decide) rfl hl.1 dX5_how_5) (by decide) hp (fun o1 h1 H locs X hp => ?_)
  refine w_nn hp (fun hp => ?_) (fun q2 hp => ?_)
  · skip
    refine lv_ifnonnullN C.1 C.2.1 dX5_how_8 ?_
    refine lv_aload_n C.1 C.2.1 dX5_how_11 rfl (lv_at hl 0 rfl) ?_
    refine lv_iconst (v := 1) C.1 C.2.1 dX5_how_12 (by decide) ?_
    have hrc := (rc_some hp).1
    have hp := (rc_some hp).2
    refine w_ci (cells' := 0) (slots' := 0) X (fun _ _ e => run_V (As := [.int 1]) (c0 := 5) C X mX5_refuse miX5_refuse lX5_50 (by decide) rfl hrc (ct_X5_refuse l K p0 1 h1 e) (by decide) (by decide) rfl (by decide) rfl hl.1 dX5_how_13) (by decide) hp (fun v1 h2 H locs X hp => ?_)
    exact w_reti C X hr hlk (by decide) dX5_how_16 hp
  · skip
    refine lv_ifnonnull (tgt := 17) C.1 C.2.1 dX5_how_8 (by decide) ?_
    refine lv_aload_n C.1 C.2.1 dX5_how_17 rfl (lv_at hl 0 rfl) ?_
    have hrc := (rc_some hp).1
    have hp := (rc_some hp).2
    refine w_ci (cells' := 0) (slots' := 0) X (fun _ _ e => run_V (As := []) (c0 := 5) C X mX5_fewestRow miX5_fewestRow lX5_186 (by decide) rfl hrc (ct_X5_fewestRow l K p0 h1 e) (by decide) (by decide) rfl (by decide) rfl hl.1 dX5_how_18) (by decide) hp (fun v2 h3 H locs X hp => ?_)
    refine w_istn C (fun v => [(2, .int (v)), (0, .ref (K.1 + p0)), (1, .int a1)]) dX5_how_21 rfl hl (by decide) (fun _ => rfl) hp (fun v3 ls hl hp => ?_)
    refine lv_iload_n C.1 C.2.1 dX5_how_22 rfl (lv_at hl 0 rfl) ?_
    refine lv_if_ge (tgt := 31) C.1 C.2.1 dX5_how_23 (by decide) (fun c1 => ?_) (fun c1 => ?_)
    · have hp := if_p _ c1 hp
      refine lv_aload_n C.1 C.2.1 dX5_how_31 rfl (lv_at hl 1 rfl) ?_
      refine w_gr C X fX5_32 rfl dX5_how_32 hp (fun q3 hp => ?_)
      refine lv_iload_n C.1 C.2.1 dX5_how_35 rfl (lv_at hl 0 rfl) ?_
      refine lv_iload_n C.1 C.2.1 dX5_how_36 rfl (lv_at hl 2 rfl) ?_
      have hrc := (rc_some hp).1
      have hp := (rc_some hp).2
      refine w_ci (cells' := 0) (slots' := 0) X (fun _ _ e => run_VN (As := [.int v3, .int a1]) (c0 := 4) C X mX4_timesIn miX4_timesIn lX5_196 (by decide) rfl hrc (ct_X4_timesIn l K q3 v3 a1 h3 e) (by decide) (by decide) rfl (by decide) rfl hl.1 dX5_how_37) (by decide) hp (fun v4 h4 H locs X hp => ?_)
      exact w_reti C X hr hlk (by decide) dX5_how_40 hp
    · have hp := if_n _ c1 hp
      refine lv_bipush (v := -9) C.1 C.2.1 dX5_how_26 (by decide) ?_
      refine lv_goto (tgt := 40) C.1 C.2.1 dX5_how_28 (by decide) ?_
      exact w_reti C X hr hlk (by decide) dX5_how_40 hp

abbrev rmX5_nothing : Room := { frames := 4, cells := 0, slots := 0, locals := 91 }
def P_X5_nothing (p0 : Nat) (h0 : Hp) : Option (Int32 × Hp) :=
    gr h0 p0 5 4 fun q1 =>
    gr h0 p0 5 1 fun q2 =>
    gr h0 p0 5 1 fun q3 =>
    gi h0 q3 0 7 fun v1 =>
    rc h0 q1 4 <| cv (P_X4_lead q1 q2 v1 h0) fun h1 =>
    gr h1 p0 5 4 fun q4 =>
    gr h1 p0 5 1 fun q5 =>
    gi h1 q5 0 7 fun v2 =>
    rc h1 q4 4 <| ci (P_X4_endingAt q4 v2 h1) fun v3 h2 =>
    some (v3, h2)

set_option maxHeartbeats 4000000 in
set_option maxRecDepth 100000 in
theorem ct_X5_nothing (l : Launch) (K : Kt) (p0 : Nat) (h0 : Hp) {r : Int32} {h' : Hp} (hp : P_X5_nothing p0 h0 = some (r, h')) : CT l K yX5_nothing cX5_nothing 1 (some FieldType.int) rmX5_nothing [.ref (K.1 + p0)] h0 (Qi K r h') := by
  refine ct_of (own := RX5) (by decide +kernel) rfl (Nat.le_of_ble_eq_true rfl) ?_
  intro p e s m args below meth c C X hr hlk hm ls hl
  have hl : lv_has ls 1 [(0, .ref (K.1 + p0))] := hl
  unfold P_X5_nothing at hp
  refine lv_aload_n C.1 C.2.1 dX5_nothing_0 rfl (lv_at hl 0 rfl) ?_
  refine w_gr C X fX5_32 rfl dX5_nothing_1 hp (fun q1 hp => ?_)
  refine lv_aload_n C.1 C.2.1 dX5_nothing_4 rfl (lv_at hl 0 rfl) ?_
  refine w_gr C X fX5_19 rfl dX5_nothing_5 hp (fun q2 hp => ?_)
  refine lv_aload_n C.1 C.2.1 dX5_nothing_8 rfl (lv_at hl 0 rfl) ?_
  refine w_gr C X fX5_19 rfl dX5_nothing_9 hp (fun q3 hp => ?_)
  refine w_gi C X fX5_93 rfl dX5_nothing_12 hp (fun v1 hp => ?_)
  have hrc := (rc_some hp).1
  have hp := (rc_some hp).2
  refine w_cv (cells' := 0) (slots' := 0) X (fun _ e => run_VN (As := [.ref (K.1 + q2), .int v1]) (c0 := 4) C X mX4_lead miX4_lead lX5_176 (by decide) rfl hrc (ct_X4_lead l K q1 q2 v1 h0 e) (by decide) (by decide) rfl (by decide) rfl hl.1 dX5_nothing_15) (by decide) hp (fun h1 H locs X hp => ?_)
  refine lv_aload_n C.1 C.2.1 dX5_nothing_18 rfl (lv_at hl 0 rfl) ?_
  refine w_gr C X fX5_32 rfl dX5_nothing_19 hp (fun q4 hp => ?_)
  refine lv_aload_n C.1 C.2.1 dX5_nothing_22 rfl (lv_at hl 0 rfl) ?_
  refine w_gr C X fX5_19 rfl dX5_nothing_23 hp (fun q5 hp => ?_)
  refine w_gi C X fX5_93 rfl dX5_nothing_26 hp (fun v2 hp => ?_)
  have hrc := (rc_some hp).1
  have hp := (rc_some hp).2
  refine w_ci (cells' := 0) (slots' := 0) X (fun _ _ e => run_VN (As := [.int v2]) (c0 := 4) C X mX4_endingAt miX4_endingAt lX5_199 (by decide) rfl hrc (ct_X4_endingAt l K q4 v2 h1 e) (by decide) (by decide) rfl (by decide) rfl hl.1 dX5_nothing_29) (by decide) hp (fun v3 h2 H locs X hp => ?_)
  exact w_reti C X hr hlk (by decide) dX5_nothing_32 hp

abbrev rmX5_states : Room := { frames := 4, cells := 0, slots := 0, locals := 91 }
def P_X5_states (p0 : Nat) (h0 : Hp) : Option (Int32 × Hp) :=
    gr h0 p0 5 4 fun q1 =>
    gr h0 p0 5 1 fun q2 =>
    gr h0 p0 5 1 fun q3 =>
    gi h0 q3 0 7 fun v1 =>
    rc h0 q1 4 <| cv (P_X4_lead q1 q2 v1 h0) fun h1 =>
    gr h1 p0 5 4 fun q4 =>
    gi h1 q4 4 3 fun v2 =>
    gr h1 p0 5 4 fun q5 =>
    gr h1 p0 5 1 fun q6 =>
    gi h1 q6 0 7 fun v3 =>
    rc h1 q5 4 <| ci (P_X4_endingAt q5 v3 h1) fun v4 h2 =>
    ci (P_X5_quotient v2 v4 h2) fun v5 h3 =>
    some (v5, h3)

set_option maxHeartbeats 4000000 in
set_option maxRecDepth 100000 in
theorem ct_X5_states (l : Launch) (K : Kt) (p0 : Nat) (h0 : Hp) {r : Int32} {h' : Hp} (hp : P_X5_states p0 h0 = some (r, h')) : CT l K yX5_states cX5_states 1 (some FieldType.int) rmX5_states [.ref (K.1 + p0)] h0 (Qi K r h') := by
  refine ct_of (own := RX5) (by decide +kernel) rfl (Nat.le_of_ble_eq_true rfl) ?_
  intro p e s m args below meth c C X hr hlk hm ls hl
  have hl : lv_has ls 1 [(0, .ref (K.1 + p0))] := hl
  unfold P_X5_states at hp
  refine lv_aload_n C.1 C.2.1 dX5_states_0 rfl (lv_at hl 0 rfl) ?_
  refine w_gr C X fX5_32 rfl dX5_states_1 hp (fun q1 hp => ?_)
  refine lv_aload_n C.1 C.2.1 dX5_states_4 rfl (lv_at hl 0 rfl) ?_
  refine w_gr C X fX5_19 rfl dX5_states_5 hp (fun q2 hp => ?_)
  refine lv_aload_n C.1 C.2.1 dX5_states_8 rfl (lv_at hl 0 rfl) ?_
  refine w_gr C X fX5_19 rfl dX5_states_9 hp (fun q3 hp => ?_)
  refine w_gi C X fX5_93 rfl dX5_states_12 hp (fun v1 hp => ?_)
  have hrc := (rc_some hp).1
  have hp := (rc_some hp).2
  refine w_cv (cells' := 0) (slots' := 0) X (fun _ e => run_VN (As := [.ref (K.1 + q2), .int v1]) (c0 := 4) C X mX4_lead miX4_lead lX5_176 (by decide) rfl hrc (ct_X4_lead l K q1 q2 v1 h0 e) (by decide) (by decide) rfl (by decide) rfl hl.1 dX5_states_15) (by decide) hp (fun h1 H locs X hp => ?_)
  refine lv_aload_n C.1 C.2.1 dX5_states_18 rfl (lv_at hl 0 rfl) ?_
  refine w_gr C X fX5_32 rfl dX5_states_19 hp (fun q4 hp => ?_)
  refine w_gi C X fX5_180 rfl dX5_states_22 hp (fun v2 hp => ?_)
  refine lv_aload_n C.1 C.2.1 dX5_states_25 rfl (lv_at hl 0 rfl) ?_
  refine w_gr C X fX5_32 rfl dX5_states_26 hp (fun q5 hp => ?_)
  refine lv_aload_n C.1 C.2.1 dX5_states_29 rfl (lv_at hl 0 rfl) ?_
  refine w_gr C X fX5_19 rfl dX5_states_30 hp (fun q6 hp => ?_)
  refine w_gi C X fX5_93 rfl dX5_states_33 hp (fun v3 hp => ?_)
  have hrc := (rc_some hp).1
  have hp := (rc_some hp).2
  refine w_ci (cells' := 0) (slots' := 0) X (fun _ _ e => run_VN (As := [.int v3]) (c0 := 4) C X mX4_endingAt miX4_endingAt lX5_199 (by decide) rfl hrc (ct_X4_endingAt l K q5 v3 h1 e) (by decide) (by decide) rfl (Nat.le_of_ble_eq_true rfl) rfl hl.1 dX5_states_36) (by decide) hp (fun v4 h2 H locs X hp => ?_)
  refine w_ci (cells' := 0) (slots' := 0) X (fun _ _ e => run_S (As := [.int v2, .int v4]) C X mX5_quotient msX5_quotient lX5_165 (ct_X5_quotient l K v2 v4 h2 e) (by decide) (by decide) rfl (by decide) rfl hl.1 dX5_states_39) (by decide) hp (fun v5 h3 H locs X hp => ?_)
  exact w_reti C X hr hlk (by decide) dX5_states_42 hp

abbrev rmX5_keys : Room := { frames := 5, cells := 0, slots := 0, locals := 112 }
def P_X5_keys_L20 : Nat → Nat → Int32 → Int32 → Int32 → Hp → Option (Int32 × Hp)
  | 0, _, _, _, _, _ => none
  | n + 1, q1, v3, v4, v5, h1 =>
    gr h1 q1 5 1 fun q2 =>
    gi h1 q2 0 2 fun v6 =>
    if (jshl 1 v6) ≤ v5 then (
    if v4 = (-9) then (
    some (v4, h1))
    else (
    if v3 = 1 then (
    some (v4, h1))
    else (
    ci (P_J6_bitCount_0f7a4 v4 h1) fun v7 h2 =>
    some (v7, h2))))
    else (
    if v4 = (-9) then (
    lt (1 : Int32) fun v8 =>
    if v8 = 0 then (
    lt ((v5 + 1) : Int32) fun v9 =>
    P_X5_keys_L20 n q1 v3 v4 v9 h1)
    else (
    gr h1 q1 5 4 fun q3 =>
    gr h1 q1 5 1 fun q4 =>
    rc h1 q3 4 <| ci (P_X4_bringAll q3 q4 v5 h1) fun v10 h3 =>
    if v10 = 0 then (
    lt ((v5 + 1) : Int32) fun v11 =>
    P_X5_keys_L20 n q1 v3 v4 v11 h3)
    else (
    lt (v5 : Int32) fun v12 =>
    lt ((v5 + 1) : Int32) fun v13 =>
    P_X5_keys_L20 n q1 v3 v12 v13 h3)))
    else (
    ci (P_J6_bitCount_0f7a4 v5 h1) fun v14 h4 =>
    ci (P_J6_bitCount_0f7a4 v4 h4) fun v15 h5 =>
    if v15 ≤ v14 then (
    lt (0 : Int32) fun v16 =>
    if v16 = 0 then (
    lt ((v5 + 1) : Int32) fun v17 =>
    P_X5_keys_L20 n q1 v3 v4 v17 h5)
    else (
    gr h5 q1 5 4 fun q5 =>
    gr h5 q1 5 1 fun q6 =>
    rc h5 q5 4 <| ci (P_X4_bringAll q5 q6 v5 h5) fun v18 h6 =>
    if v18 = 0 then (
    lt ((v5 + 1) : Int32) fun v19 =>
    P_X5_keys_L20 n q1 v3 v4 v19 h6)
    else (
    lt (v5 : Int32) fun v20 =>
    lt ((v5 + 1) : Int32) fun v21 =>
    P_X5_keys_L20 n q1 v3 v20 v21 h6)))
    else (
    lt (1 : Int32) fun v22 =>
    if v22 = 0 then (
    lt ((v5 + 1) : Int32) fun v23 =>
    P_X5_keys_L20 n q1 v3 v4 v23 h5)
    else (
    gr h5 q1 5 4 fun q7 =>
    gr h5 q1 5 1 fun q8 =>
    rc h5 q7 4 <| ci (P_X4_bringAll q7 q8 v5 h5) fun v24 h7 =>
    if v24 = 0 then (
    lt ((v5 + 1) : Int32) fun v25 =>
    P_X5_keys_L20 n q1 v3 v4 v25 h7)
    else (
    lt (v5 : Int32) fun v26 =>
    lt ((v5 + 1) : Int32) fun v27 =>
    P_X5_keys_L20 n q1 v3 v26 v27 h7)))))

def P_X5_keys (p0 : Nat) (a1 : Int32) (h0 : Hp) : Option (Int32 × Hp) :=
    if a1 = 0 then (
    lt ((-9) : Int32) fun v1 =>
    lt (0 : Int32) fun v2 =>
    P_X5_keys_L20 FU p0 a1 v1 v2 h0)
    else (
    if a1 = 1 then (
    lt ((-9) : Int32) fun v28 =>
    lt (0 : Int32) fun v29 =>
    P_X5_keys_L20 FU p0 a1 v28 v29 h0)
    else (
    rc h0 p0 5 <| ci (P_X5_refuse p0 2 h0) fun v30 h8 =>
    some (v30, h8)))

set_option maxHeartbeats 4000000 in
set_option maxRecDepth 100000 in
theorem wl_X5_keys_L20 (C : CX K p m c cX5_keys 5 s args RX5) (hr : meth.sig.returnType = (some FieldType.int)) (hlk : meth.locks = false) {r : Int32} {h' : Hp} : ∀ (n : Nat) (q1 : Nat) (v3 : Int32) (v4 : Int32) (v5 : Int32) (h1 : Hp) (H : Heap) (locs : List Loc) (ls : Array Slot), HX K s.heap H locs h1 → lv_has ls 5 [(0, .ref (K.1 + q1)), (1, .int v3), (2, .int v4), (3, .int v5)] → P_X5_keys_L20 n q1 v3 v4 v5 h1 = some (r, h') → W p l e rmX5_keys s m args below meth c H locs 0 0 (MQ below (Qi K r h') args s rmX5_keys.cells rmX5_keys.slots (KA K)) (F0 m 20 ls []) := by
  intro n
  induction n with
  | zero =>
    intro  q1 v3 v4 v5 h1 H locs ls X hl hp
    cases hp
  | succ n ih =>
    intro  q1 v3 v4 v5 h1 H locs ls X hl hp
    unfold P_X5_keys_L20 at hp
    refine lv_iload_n C.1 C.2.1 dX5_keys_20 rfl (lv_at hl 3 rfl) ?_
    refine lv_iconst (v := 1) C.1 C.2.1 dX5_keys_21 (by decide) ?_
    refine lv_aload_n C.1 C.2.1 dX5_keys_22 rfl (lv_at hl 0 rfl) ?_
    refine w_gr C X fX5_19 rfl dX5_keys_23 hp (fun q2 hp => ?_)
    refine w_gi C X fX5_202 rfl dX5_keys_26 hp (fun v6 hp => ?_)
    refine w_shl C dX5_keys_29 ?_
    refine lv_icmp_ge (tgt := 85) C.1 C.2.1 dX5_keys_30 (by decide) (fun c2 => ?_) (fun c2 => ?_)
    · have hp := if_p _ c2 hp
      refine lv_iload_n C.1 C.2.1 dX5_keys_85 rfl (lv_at hl 2 rfl) ?_
      refine lv_bipush (v := -9) C.1 C.2.1 dX5_keys_86 (by decide) ?_
      refine lv_icmp_eq (tgt := 96) C.1 C.2.1 dX5_keys_88 (by decide) (fun c3 => ?_) (fun c3 => ?_)
      · have hp := if_p _ c3 hp
        refine lv_iload_n C.1 C.2.1 dX5_keys_96 rfl (lv_at hl 2 rfl) ?_
        refine lv_goto (tgt := 104) C.1 C.2.1 dX5_keys_97 (by decide) ?_
        exact w_reti C X hr hlk (by decide) dX5_keys_104 hp
      · have hp := if_n _ c3 hp
        refine lv_iload_n C.1 C.2.1 dX5_keys_91 rfl (lv_at hl 1 rfl) ?_
        refine lv_iconst (v := 1) C.1 C.2.1 dX5_keys_92 (by decide) ?_
        refine lv_icmp_ne (tgt := 100) C.1 C.2.1 dX5_keys_93 (by decide) (fun c4 => ?_) (fun c4 => ?_)
        · have hp := if_n _ c4 hp
          refine lv_iload_n C.1 C.2.1 dX5_keys_100 rfl (lv_at hl 2 rfl) ?_
          refine w_ci (cells' := 0) (slots' := 0) X (fun _ _ e => run_S (As := [.int v4]) C X mJ6_bitCount_0f7a4 msJ6_bitCount_0f7a4 lX5_205 (ct_J6_bitCount_0f7a4 l K v4 h1 e) (by decide) (by decide) rfl (by decide) rfl hl.1 dX5_keys_101) (by decide) hp (fun v7 h2 H locs X hp => ?_)
          exact w_reti C X hr hlk (by decide) dX5_keys_104 hp
        · have hp := if_p _ c4 hp
          refine lv_iload_n C.1 C.2.1 dX5_keys_96 rfl (lv_at hl 2 rfl) ?_
          refine lv_goto (tgt := 104) C.1 C.2.1 dX5_keys_97 (by decide) ?_
          exact w_reti C X hr hlk (by decide) dX5_keys_104 hp
    · have hp := if_n _ c2 hp
      refine lv_iload_n C.1 C.2.1 dX5_keys_33 rfl (lv_at hl 2 rfl) ?_
      refine lv_bipush (v := -9) C.1 C.2.1 dX5_keys_34 (by decide) ?_
      refine lv_icmp_eq (tgt := 50) C.1 C.2.1 dX5_keys_36 (by decide) (fun c5 => ?_) (fun c5 => ?_)
      · have hp := if_p _ c5 hp
        refine lv_iconst (v := 1) C.1 C.2.1 dX5_keys_50 (by decide) ?_
        refine lv_goto (tgt := 55) C.1 C.2.1 dX5_keys_51 (by decide) ?_
        refine w_ist C (fun v => [(4, .int (v)), (0, .ref (K.1 + q1)), (1, .int v3), (2, .int v4), (3, .int v5)]) dX5_keys_55 hl (by decide) (fun _ => rfl) hp (fun v8 ls hl hp => ?_)
        refine lv_iload C.1 C.2.1 dX5_keys_57 (lv_at hl 0 rfl) ?_
        refine lv_if_eq (tgt := 79) C.1 C.2.1 dX5_keys_59 (by decide) (fun c6 => ?_) (fun c6 => ?_)
        · have hp := if_p _ c6 hp
          refine w_inc (k := 4) C (fun v => [(3, .int (v)), (4, .int v8), (0, .ref (K.1 + q1)), (1, .int v3), (2, .int v4)]) dX5_keys_79 hl rfl (y := (v5 + 1)) rfl (by decide) (fun _ => rfl) hp (fun v9 ls hl hp => ?_)
          refine lv_goto (tgt := 20) C.1 C.2.1 dX5_keys_82 (by decide) ?_
          exact ih _ _ _ _ _ _ _ _ X (lv_sub hl [2, 3, 4, 0] rfl) hp
        · have hp := if_n _ c6 hp
          refine lv_aload_n C.1 C.2.1 dX5_keys_62 rfl (lv_at hl 1 rfl) ?_
          refine w_gr C X fX5_32 rfl dX5_keys_63 hp (fun q3 hp => ?_)
          refine lv_aload_n C.1 C.2.1 dX5_keys_66 rfl (lv_at hl 1 rfl) ?_
          refine w_gr C X fX5_19 rfl dX5_keys_67 hp (fun q4 hp => ?_)
          refine lv_iload_n C.1 C.2.1 dX5_keys_70 rfl (lv_at hl 4 rfl) ?_
          have hrc := (rc_some hp).1
          have hp := (rc_some hp).2
          refine w_ci (cells' := 0) (slots' := 0) X (fun _ _ e => run_VN (As := [.ref (K.1 + q4), .int v5]) (c0 := 4) C X mX4_bringAll miX4_bringAll lX5_210 (by decide) rfl hrc (ct_X4_bringAll l K q3 q4 v5 h1 e) (by decide) (by decide) rfl (by decide) rfl hl.1 dX5_keys_71) (by decide) hp (fun v10 h3 H locs X hp => ?_)
          refine lv_if_eq (tgt := 79) C.1 C.2.1 dX5_keys_74 (by decide) (fun c7 => ?_) (fun c7 => ?_)
          · have hp := if_p _ c7 hp
            refine w_inc (k := 4) C (fun v => [(3, .int (v)), (4, .int v8), (0, .ref (K.1 + q1)), (1, .int v3), (2, .int v4)]) dX5_keys_79 hl rfl (y := (v5 + 1)) rfl (by decide) (fun _ => rfl) hp (fun v11 ls hl hp => ?_)
            refine lv_goto (tgt := 20) C.1 C.2.1 dX5_keys_82 (by decide) ?_
            exact ih _ _ _ _ _ _ _ _ X (lv_sub hl [2, 3, 4, 0] rfl) hp
          · have hp := if_n _ c7 hp
            refine lv_iload_n C.1 C.2.1 dX5_keys_77 rfl (lv_at hl 4 rfl) ?_
            refine w_istn C (fun v => [(2, .int (v)), (4, .int v8), (0, .ref (K.1 + q1)), (1, .int v3), (3, .int v5)]) dX5_keys_78 rfl hl (by decide) (fun _ => rfl) hp (fun v12 ls hl hp => ?_)
            refine w_inc (k := 4) C (fun v => [(3, .int (v)), (2, .int v12), (4, .int v8), (0, .ref (K.1 + q1)), (1, .int v3)]) dX5_keys_79 hl rfl (y := (v5 + 1)) rfl (by decide) (fun _ => rfl) hp (fun v13 ls hl hp => ?_)
            refine lv_goto (tgt := 20) C.1 C.2.1 dX5_keys_82 (by decide) ?_
            exact ih _ _ _ _ _ _ _ _ X (lv_sub hl [3, 4, 1, 0] rfl) hp
      · have hp := if_n _ c5 hp
        refine lv_iload_n C.1 C.2.1 dX5_keys_39 rfl (lv_at hl 3 rfl) ?_
        refine w_ci (cells' := 0) (slots' := 0) X (fun _ _ e => run_S (As := [.int v5]) C X mJ6_bitCount_0f7a4 msJ6_bitCount_0f7a4 lX5_205 (ct_J6_bitCount_0f7a4 l K v5 h1 e) (by decide) (by decide) rfl (by decide) rfl hl.1 dX5_keys_40) (by decide) hp (fun v14 h4 H locs X hp => ?_)
        refine lv_iload_n C.1 C.2.1 dX5_keys_43 rfl (lv_at hl 2 rfl) ?_
        refine w_ci (cells' := 0) (slots' := 0) X (fun _ _ e => run_S (As := [.int v4]) C X mJ6_bitCount_0f7a4 msJ6_bitCount_0f7a4 lX5_205 (ct_J6_bitCount_0f7a4 l K v4 h4 e) (by decide) (by decide) rfl (Nat.le_of_ble_eq_true rfl) rfl hl.1 dX5_keys_44) (by decide) hp (fun v15 h5 H locs X hp => ?_)
        refine lv_icmp_ge (tgt := 54) C.1 C.2.1 dX5_keys_47 (by decide) (fun c8 => ?_) (fun c8 => ?_)
        · have hp := if_p _ c8 hp
          refine lv_iconst (v := 0) C.1 C.2.1 dX5_keys_54 (by decide) ?_
          refine w_ist C (fun v => [(4, .int (v)), (0, .ref (K.1 + q1)), (1, .int v3), (2, .int v4), (3, .int v5)]) dX5_keys_55 hl (by decide) (fun _ => rfl) hp (fun v16 ls hl hp => ?_)
          refine lv_iload C.1 C.2.1 dX5_keys_57 (lv_at hl 0 rfl) ?_
          refine lv_if_eq (tgt := 79) C.1 C.2.1 dX5_keys_59 (by decide) (fun c9 => ?_) (fun c9 => ?_)
          · have hp := if_p _ c9 hp
            refine w_inc (k := 4) C (fun v => [(3, .int (v)), (4, .int v16), (0, .ref (K.1 + q1)), (1, .int v3), (2, .int v4)]) dX5_keys_79 hl rfl (y := (v5 + 1)) rfl (by decide) (fun _ => rfl) hp (fun v17 ls hl hp => ?_)
            refine lv_goto (tgt := 20) C.1 C.2.1 dX5_keys_82 (by decide) ?_
            exact ih _ _ _ _ _ _ _ _ X (lv_sub hl [2, 3, 4, 0] rfl) hp
          · have hp := if_n _ c9 hp
            refine lv_aload_n C.1 C.2.1 dX5_keys_62 rfl (lv_at hl 1 rfl) ?_
            refine w_gr C X fX5_32 rfl dX5_keys_63 hp (fun q5 hp => ?_)
            refine lv_aload_n C.1 C.2.1 dX5_keys_66 rfl (lv_at hl 1 rfl) ?_
            refine w_gr C X fX5_19 rfl dX5_keys_67 hp (fun q6 hp => ?_)
            refine lv_iload_n C.1 C.2.1 dX5_keys_70 rfl (lv_at hl 4 rfl) ?_
            have hrc := (rc_some hp).1
            have hp := (rc_some hp).2
            refine w_ci (cells' := 0) (slots' := 0) X (fun _ _ e => run_VN (As := [.ref (K.1 + q6), .int v5]) (c0 := 4) C X mX4_bringAll miX4_bringAll lX5_210 (by decide) rfl hrc (ct_X4_bringAll l K q5 q6 v5 h5 e) (by decide) (by decide) rfl (by decide) rfl hl.1 dX5_keys_71) (by decide) hp (fun v18 h6 H locs X hp => ?_)
            refine lv_if_eq (tgt := 79) C.1 C.2.1 dX5_keys_74 (by decide) (fun c10 => ?_) (fun c10 => ?_)
            · have hp := if_p _ c10 hp
              refine w_inc (k := 4) C (fun v => [(3, .int (v)), (4, .int v16), (0, .ref (K.1 + q1)), (1, .int v3), (2, .int v4)]) dX5_keys_79 hl rfl (y := (v5 + 1)) rfl (by decide) (fun _ => rfl) hp (fun v19 ls hl hp => ?_)
              refine lv_goto (tgt := 20) C.1 C.2.1 dX5_keys_82 (by decide) ?_
              exact ih _ _ _ _ _ _ _ _ X (lv_sub hl [2, 3, 4, 0] rfl) hp
            · have hp := if_n _ c10 hp
              refine lv_iload_n C.1 C.2.1 dX5_keys_77 rfl (lv_at hl 4 rfl) ?_
              refine w_istn C (fun v => [(2, .int (v)), (4, .int v16), (0, .ref (K.1 + q1)), (1, .int v3), (3, .int v5)]) dX5_keys_78 rfl hl (by decide) (fun _ => rfl) hp (fun v20 ls hl hp => ?_)
              refine w_inc (k := 4) C (fun v => [(3, .int (v)), (2, .int v20), (4, .int v16), (0, .ref (K.1 + q1)), (1, .int v3)]) dX5_keys_79 hl rfl (y := (v5 + 1)) rfl (by decide) (fun _ => rfl) hp (fun v21 ls hl hp => ?_)
              refine lv_goto (tgt := 20) C.1 C.2.1 dX5_keys_82 (by decide) ?_
              exact ih _ _ _ _ _ _ _ _ X (lv_sub hl [3, 4, 1, 0] rfl) hp
        · have hp := if_n _ c8 hp
          refine lv_iconst (v := 1) C.1 C.2.1 dX5_keys_50 (by decide) ?_
          refine lv_goto (tgt := 55) C.1 C.2.1 dX5_keys_51 (by decide) ?_
          refine w_ist C (fun v => [(4, .int (v)), (0, .ref (K.1 + q1)), (1, .int v3), (2, .int v4), (3, .int v5)]) dX5_keys_55 hl (by decide) (fun _ => rfl) hp (fun v22 ls hl hp => ?_)
          refine lv_iload C.1 C.2.1 dX5_keys_57 (lv_at hl 0 rfl) ?_
          refine lv_if_eq (tgt := 79) C.1 C.2.1 dX5_keys_59 (by decide) (fun c11 => ?_) (fun c11 => ?_)
          · have hp := if_p _ c11 hp
            refine w_inc (k := 4) C (fun v => [(3, .int (v)), (4, .int v22), (0, .ref (K.1 + q1)), (1, .int v3), (2, .int v4)]) dX5_keys_79 hl rfl (y := (v5 + 1)) rfl (by decide) (fun _ => rfl) hp (fun v23 ls hl hp => ?_)
            refine lv_goto (tgt := 20) C.1 C.2.1 dX5_keys_82 (by decide) ?_
            exact ih _ _ _ _ _ _ _ _ X (lv_sub hl [2, 3, 4, 0] rfl) hp
          · have hp := if_n _ c11 hp
            refine lv_aload_n C.1 C.2.1 dX5_keys_62 rfl (lv_at hl 1 rfl) ?_
            refine w_gr C X fX5_32 rfl dX5_keys_63 hp (fun q7 hp => ?_)
            refine lv_aload_n C.1 C.2.1 dX5_keys_66 rfl (lv_at hl 1 rfl) ?_
            refine w_gr C X fX5_19 rfl dX5_keys_67 hp (fun q8 hp => ?_)
            refine lv_iload_n C.1 C.2.1 dX5_keys_70 rfl (lv_at hl 4 rfl) ?_
            have hrc := (rc_some hp).1
            have hp := (rc_some hp).2
            refine w_ci (cells' := 0) (slots' := 0) X (fun _ _ e => run_VN (As := [.ref (K.1 + q8), .int v5]) (c0 := 4) C X mX4_bringAll miX4_bringAll lX5_210 (by decide) rfl hrc (ct_X4_bringAll l K q7 q8 v5 h5 e) (by decide) (by decide) rfl (by decide) rfl hl.1 dX5_keys_71) (by decide) hp (fun v24 h7 H locs X hp => ?_)
            refine lv_if_eq (tgt := 79) C.1 C.2.1 dX5_keys_74 (by decide) (fun c12 => ?_) (fun c12 => ?_)
            · have hp := if_p _ c12 hp
              refine w_inc (k := 4) C (fun v => [(3, .int (v)), (4, .int v22), (0, .ref (K.1 + q1)), (1, .int v3), (2, .int v4)]) dX5_keys_79 hl rfl (y := (v5 + 1)) rfl (by decide) (fun _ => rfl) hp (fun v25 ls hl hp => ?_)
              refine lv_goto (tgt := 20) C.1 C.2.1 dX5_keys_82 (by decide) ?_
              exact ih _ _ _ _ _ _ _ _ X (lv_sub hl [2, 3, 4, 0] rfl) hp
            · have hp := if_n _ c12 hp
              refine lv_iload_n C.1 C.2.1 dX5_keys_77 rfl (lv_at hl 4 rfl) ?_
              refine w_istn C (fun v => [(2, .int (v)), (4, .int v22), (0, .ref (K.1 + q1)), (1, .int v3), (3, .int v5)]) dX5_keys_78 rfl hl (by decide) (fun _ => rfl) hp (fun v26 ls hl hp => ?_)
              refine w_inc (k := 4) C (fun v => [(3, .int (v)), (2, .int v26), (4, .int v22), (0, .ref (K.1 + q1)), (1, .int v3)]) dX5_keys_79 hl rfl (y := (v5 + 1)) rfl (by decide) (fun _ => rfl) hp (fun v27 ls hl hp => ?_)
              refine lv_goto (tgt := 20) C.1 C.2.1 dX5_keys_82 (by decide) ?_
              exact ih _ _ _ _ _ _ _ _ X (lv_sub hl [3, 4, 1, 0] rfl) hp

set_option maxHeartbeats 4000000 in
set_option maxRecDepth 100000 in
theorem ct_X5_keys (l : Launch) (K : Kt) (p0 : Nat) (a1 : Int32) (h0 : Hp) {r : Int32} {h' : Hp} (hp : P_X5_keys p0 a1 h0 = some (r, h')) : CT l K yX5_keys cX5_keys 5 (some FieldType.int) rmX5_keys [.ref (K.1 + p0), .int a1] h0 (Qi K r h') := by
  refine ct_of (own := RX5) (by decide +kernel) rfl (Nat.le_of_ble_eq_true rfl) ?_
  intro p e s m args below meth c C X hr hlk hm ls hl
  have hl : lv_has ls 5 [(0, .ref (K.1 + p0)), (1, .int a1)] := hl
  unfold P_X5_keys at hp
  refine lv_iload_n C.1 C.2.1 dX5_keys_0 rfl (lv_at hl 1 rfl) ?_
  refine lv_if_eq (tgt := 15) C.1 C.2.1 dX5_keys_1 (by decide) (fun c1 => ?_) (fun c1 => ?_)
  · have hp := if_p _ c1 hp
    refine lv_bipush (v := -9) C.1 C.2.1 dX5_keys_15 (by decide) ?_
    refine w_istn C (fun v => [(2, .int (v)), (0, .ref (K.1 + p0)), (1, .int a1)]) dX5_keys_17 rfl hl (by decide) (fun _ => rfl) hp (fun v1 ls hl hp => ?_)
    refine lv_iconst (v := 0) C.1 C.2.1 dX5_keys_18 (by decide) ?_
    refine w_istn C (fun v => [(3, .int (v)), (2, .int v1), (0, .ref (K.1 + p0)), (1, .int a1)]) dX5_keys_19 rfl hl (by decide) (fun _ => rfl) hp (fun v2 ls hl hp => ?_)
    exact wl_X5_keys_L20 C hr hlk _ _ _ _ _ _ _ _ _ X (lv_sub hl [2, 3, 1, 0] rfl) hp
  · have hp := if_n _ c1 hp
    refine lv_iload_n C.1 C.2.1 dX5_keys_4 rfl (lv_at hl 1 rfl) ?_
    refine lv_iconst (v := 1) C.1 C.2.1 dX5_keys_5 (by decide) ?_
    refine lv_icmp_eq (tgt := 15) C.1 C.2.1 dX5_keys_6 (by decide) (fun c13 => ?_) (fun c13 => ?_)
    · have hp := if_p _ c13 hp
      refine lv_bipush (v := -9) C.1 C.2.1 dX5_keys_15 (by decide) ?_
      refine w_istn C (fun v => [(2, .int (v)), (0, .ref (K.1 + p0)), (1, .int a1)]) dX5_keys_17 rfl hl (by decide) (fun _ => rfl) hp (fun v28 ls hl hp => ?_)
      refine lv_iconst (v := 0) C.1 C.2.1 dX5_keys_18 (by decide) ?_
      refine w_istn C (fun v => [(3, .int (v)), (2, .int v28), (0, .ref (K.1 + p0)), (1, .int a1)]) dX5_keys_19 rfl hl (by decide) (fun _ => rfl) hp (fun v29 ls hl hp => ?_)
      exact wl_X5_keys_L20 C hr hlk _ _ _ _ _ _ _ _ _ X (lv_sub hl [2, 3, 1, 0] rfl) hp
    · have hp := if_n _ c13 hp
      refine lv_aload_n C.1 C.2.1 dX5_keys_9 rfl (lv_at hl 0 rfl) ?_
      refine lv_iconst (v := 2) C.1 C.2.1 dX5_keys_10 (by decide) ?_
      have hrc := (rc_some hp).1
      have hp := (rc_some hp).2
      refine w_ci (cells' := 0) (slots' := 0) X (fun _ _ e => run_V (As := [.int 2]) (c0 := 5) C X mX5_refuse miX5_refuse lX5_50 (by decide) rfl hrc (ct_X5_refuse l K p0 2 h0 e) (by decide) (by decide) rfl (by decide) rfl hl.1 dX5_keys_11) (by decide) hp (fun v30 h8 H locs X hp => ?_)
      exact w_reti C X hr hlk (by decide) dX5_keys_14 hp

abbrev rmX5_been : Room := { frames := 4, cells := 0, slots := 0, locals := 91 }
def P_X5_been (p0 : Nat) (h0 : Hp) : Option (Int32 × Hp) :=
    gr h0 p0 5 4 fun q1 =>
    gr h0 p0 5 1 fun q2 =>
    rc h0 q1 4 <| cv (P_X4_lead q1 q2 0 h0) fun h1 =>
    gr h1 p0 5 4 fun q3 =>
    gr h1 p0 5 1 fun q4 =>
    gi h1 q4 0 7 fun v1 =>
    rc h1 q3 4 <| ci (P_X4_endingAt q3 v1 h1) fun v2 h2 =>
    some (v2, h2)

set_option maxHeartbeats 4000000 in
set_option maxRecDepth 100000 in
theorem ct_X5_been (l : Launch) (K : Kt) (p0 : Nat) (h0 : Hp) {r : Int32} {h' : Hp} (hp : P_X5_been p0 h0 = some (r, h')) : CT l K yX5_been cX5_been 1 (some FieldType.int) rmX5_been [.ref (K.1 + p0)] h0 (Qi K r h') := by
  refine ct_of (own := RX5) (by decide +kernel) rfl (Nat.le_of_ble_eq_true rfl) ?_
  intro p e s m args below meth c C X hr hlk hm ls hl
  have hl : lv_has ls 1 [(0, .ref (K.1 + p0))] := hl
  unfold P_X5_been at hp
  refine lv_aload_n C.1 C.2.1 dX5_been_0 rfl (lv_at hl 0 rfl) ?_
  refine w_gr C X fX5_32 rfl dX5_been_1 hp (fun q1 hp => ?_)
  refine lv_aload_n C.1 C.2.1 dX5_been_4 rfl (lv_at hl 0 rfl) ?_
  refine w_gr C X fX5_19 rfl dX5_been_5 hp (fun q2 hp => ?_)
  refine lv_iconst (v := 0) C.1 C.2.1 dX5_been_8 (by decide) ?_
  have hrc := (rc_some hp).1
  have hp := (rc_some hp).2
  refine w_cv (cells' := 0) (slots' := 0) X (fun _ e => run_VN (As := [.ref (K.1 + q2), .int 0]) (c0 := 4) C X mX4_lead miX4_lead lX5_176 (by decide) rfl hrc (ct_X4_lead l K q1 q2 0 h0 e) (by decide) (by decide) rfl (by decide) rfl hl.1 dX5_been_9) (by decide) hp (fun h1 H locs X hp => ?_)
  refine lv_aload_n C.1 C.2.1 dX5_been_12 rfl (lv_at hl 0 rfl) ?_
  refine w_gr C X fX5_32 rfl dX5_been_13 hp (fun q3 hp => ?_)
  refine lv_aload_n C.1 C.2.1 dX5_been_16 rfl (lv_at hl 0 rfl) ?_
  refine w_gr C X fX5_19 rfl dX5_been_17 hp (fun q4 hp => ?_)
  refine w_gi C X fX5_93 rfl dX5_been_20 hp (fun v1 hp => ?_)
  have hrc := (rc_some hp).1
  have hp := (rc_some hp).2
  refine w_ci (cells' := 0) (slots' := 0) X (fun _ _ e => run_VN (As := [.int v1]) (c0 := 4) C X mX4_endingAt miX4_endingAt lX5_199 (by decide) rfl hrc (ct_X4_endingAt l K q3 v1 h1 e) (by decide) (by decide) rfl (by decide) rfl hl.1 dX5_been_23) (by decide) hp (fun v2 h2 H locs X hp => ?_)
  exact w_reti C X hr hlk (by decide) dX5_been_26 hp

abbrev rmX5_sure : Room := { frames := 4, cells := 0, slots := 0, locals := 91 }
def P_X5_sure_L28 : Nat → Nat → Int32 → Int32 → Int32 → Hp → Option (Int32 × Hp)
  | 0, _, _, _, _, _ => none
  | n + 1, q4, v5, v6, v7, h2 =>
    gr h2 q4 5 4 fun q5 =>
    gi h2 q5 4 3 fun v8 =>
    if v8 ≤ v7 then (
    if v6 = 0 then (
    some (0, h2))
    else (
    some (v5, h2)))
    else (
    gr h2 q4 5 4 fun q6 =>
    rc h2 q6 4 <| ci (P_X4_endOf q6 v7 h2) fun v9 h3 =>
    gr h3 q4 5 1 fun q7 =>
    gi h3 q7 0 7 fun v10 =>
    if v9 = v10 then (
    lt (1 : Int32) fun v12 =>
    gr h3 q4 5 4 fun q8 =>
    rc h3 q8 4 <| ci (P_X4_goersIn q8 v7 h3) fun v13 h4 =>
    lt ((v5 &&& v13) : Int32) fun v14 =>
    lt ((v7 + 1) : Int32) fun v15 =>
    P_X5_sure_L28 n q4 v14 v12 v15 h4)
    else (
    lt ((v7 + 1) : Int32) fun v11 =>
    P_X5_sure_L28 n q4 v5 v6 v11 h3))

def P_X5_sure (p0 : Nat) (h0 : Hp) : Option (Int32 × Hp) :=
    gr h0 p0 5 4 fun q1 =>
    gr h0 p0 5 1 fun q2 =>
    rc h0 q1 4 <| cv (P_X4_lead q1 q2 0 h0) fun h1 =>
    gr h1 p0 5 1 fun q3 =>
    gi h1 q3 0 2 fun v1 =>
    lt (((jshl 1 v1) - 1) : Int32) fun v2 =>
    lt (0 : Int32) fun v3 =>
    lt (0 : Int32) fun v4 =>
    P_X5_sure_L28 FU p0 v2 v3 v4 h1

set_option maxHeartbeats 4000000 in
set_option maxRecDepth 100000 in
theorem wl_X5_sure_L28 (C : CX K p m c cX5_sure 4 s args RX5) (hr : meth.sig.returnType = (some FieldType.int)) (hlk : meth.locks = false) {r : Int32} {h' : Hp} : ∀ (n : Nat) (q4 : Nat) (v5 : Int32) (v6 : Int32) (v7 : Int32) (h2 : Hp) (H : Heap) (locs : List Loc) (ls : Array Slot), HX K s.heap H locs h2 → lv_has ls 4 [(0, .ref (K.1 + q4)), (1, .int v5), (2, .int v6), (3, .int v7)] → P_X5_sure_L28 n q4 v5 v6 v7 h2 = some (r, h') → W p l e rmX5_sure s m args below meth c H locs 0 0 (MQ below (Qi K r h') args s rmX5_sure.cells rmX5_sure.slots (KA K)) (F0 m 28 ls []) := by
  intro n
  induction n with
  | zero =>
    intro  q4 v5 v6 v7 h2 H locs ls X hl hp
    cases hp
  | succ n ih =>
    intro  q4 v5 v6 v7 h2 H locs ls X hl hp
    unfold P_X5_sure_L28 at hp
    refine lv_iload_n C.1 C.2.1 dX5_sure_28 rfl (lv_at hl 3 rfl) ?_
    refine lv_aload_n C.1 C.2.1 dX5_sure_29 rfl (lv_at hl 0 rfl) ?_
    refine w_gr C X fX5_32 rfl dX5_sure_30 hp (fun q5 hp => ?_)
    refine w_gi C X fX5_180 rfl dX5_sure_33 hp (fun v8 hp => ?_)
    refine lv_icmp_ge (tgt := 76) C.1 C.2.1 dX5_sure_36 (by decide) (fun c1 => ?_) (fun c1 => ?_)
    · have hp := if_p _ c1 hp
      refine lv_iload_n C.1 C.2.1 dX5_sure_76 rfl (lv_at hl 2 rfl) ?_
      refine lv_if_eq (tgt := 84) C.1 C.2.1 dX5_sure_77 (by decide) (fun c2 => ?_) (fun c2 => ?_)
      · have hp := if_p _ c2 hp
        refine lv_iconst (v := 0) C.1 C.2.1 dX5_sure_84 (by decide) ?_
        exact w_reti C X hr hlk (by decide) dX5_sure_85 hp
      · have hp := if_n _ c2 hp
        refine lv_iload_n C.1 C.2.1 dX5_sure_80 rfl (lv_at hl 1 rfl) ?_
        refine lv_goto (tgt := 85) C.1 C.2.1 dX5_sure_81 (by decide) ?_
        exact w_reti C X hr hlk (by decide) dX5_sure_85 hp
    · have hp := if_n _ c1 hp
      refine lv_aload_n C.1 C.2.1 dX5_sure_39 rfl (lv_at hl 0 rfl) ?_
      refine w_gr C X fX5_32 rfl dX5_sure_40 hp (fun q6 hp => ?_)
      refine lv_iload_n C.1 C.2.1 dX5_sure_43 rfl (lv_at hl 3 rfl) ?_
      have hrc := (rc_some hp).1
      have hp := (rc_some hp).2
      refine w_ci (cells' := 0) (slots' := 0) X (fun _ _ e => run_VN (As := [.int v7]) (c0 := 4) C X mX4_endOf miX4_endOf lX5_183 (by decide) rfl hrc (ct_X4_endOf l K q6 v7 h2 e) (by decide) (by decide) rfl (by decide) rfl hl.1 dX5_sure_44) (by decide) hp (fun v9 h3 H locs X hp => ?_)
      refine lv_aload_n C.1 C.2.1 dX5_sure_47 rfl (lv_at hl 0 rfl) ?_
      refine w_gr C X fX5_19 rfl dX5_sure_48 hp (fun q7 hp => ?_)
      refine w_gi C X fX5_93 rfl dX5_sure_51 hp (fun v10 hp => ?_)
      refine lv_icmp_ne (tgt := 70) C.1 C.2.1 dX5_sure_54 (by decide) (fun c3 => ?_) (fun c3 => ?_)
      · have hp := if_n _ c3 hp
        refine w_inc (k := 3) C (fun v => [(3, .int (v)), (0, .ref (K.1 + q4)), (1, .int v5), (2, .int v6)]) dX5_sure_70 hl rfl (y := (v7 + 1)) rfl (by decide) (fun _ => rfl) hp (fun v11 ls hl hp => ?_)
        refine lv_goto (tgt := 28) C.1 C.2.1 dX5_sure_73 (by decide) ?_
        exact ih _ _ _ _ _ _ _ _ X (lv_sub hl [1, 2, 3, 0] rfl) hp
      · have hp := if_p _ c3 hp
        refine lv_iconst (v := 1) C.1 C.2.1 dX5_sure_57 (by decide) ?_
        refine w_istn C (fun v => [(2, .int (v)), (0, .ref (K.1 + q4)), (1, .int v5), (3, .int v7)]) dX5_sure_58 rfl hl (by decide) (fun _ => rfl) hp (fun v12 ls hl hp => ?_)
        refine lv_iload_n C.1 C.2.1 dX5_sure_59 rfl (lv_at hl 2 rfl) ?_
        refine lv_aload_n C.1 C.2.1 dX5_sure_60 rfl (lv_at hl 1 rfl) ?_
        refine w_gr C X fX5_32 rfl dX5_sure_61 hp (fun q8 hp => ?_)
        refine lv_iload_n C.1 C.2.1 dX5_sure_64 rfl (lv_at hl 3 rfl) ?_
        have hrc := (rc_some hp).1
        have hp := (rc_some hp).2
        refine w_ci (cells' := 0) (slots' := 0) X (fun _ _ e => run_VN (As := [.int v7]) (c0 := 4) C X mX4_goersIn miX4_goersIn lX5_214 (by decide) rfl hrc (ct_X4_goersIn l K q8 v7 h3 e) (by decide) (by decide) rfl (Nat.le_of_ble_eq_true rfl) rfl hl.1 dX5_sure_65) (by decide) hp (fun v13 h4 H locs X hp => ?_)
        refine lv_iand C.1 C.2.1 dX5_sure_68 ?_
        refine w_istn C (fun v => [(1, .int (v)), (2, .int v12), (0, .ref (K.1 + q4)), (3, .int v7)]) dX5_sure_69 rfl hl (by decide) (fun _ => rfl) hp (fun v14 ls hl hp => ?_)
        refine w_inc (k := 3) C (fun v => [(3, .int (v)), (1, .int v14), (2, .int v12), (0, .ref (K.1 + q4))]) dX5_sure_70 hl rfl (y := (v7 + 1)) rfl (by decide) (fun _ => rfl) hp (fun v15 ls hl hp => ?_)
        refine lv_goto (tgt := 28) C.1 C.2.1 dX5_sure_73 (by decide) ?_
        exact ih _ _ _ _ _ _ _ _ X (lv_sub hl [3, 1, 2, 0] rfl) hp

set_option maxHeartbeats 4000000 in
set_option maxRecDepth 100000 in
theorem ct_X5_sure (l : Launch) (K : Kt) (p0 : Nat) (h0 : Hp) {r : Int32} {h' : Hp} (hp : P_X5_sure p0 h0 = some (r, h')) : CT l K yX5_sure cX5_sure 4 (some FieldType.int) rmX5_sure [.ref (K.1 + p0)] h0 (Qi K r h') := by
  refine ct_of (own := RX5) (by decide +kernel) rfl (Nat.le_of_ble_eq_true rfl) ?_
  intro p e s m args below meth c C X hr hlk hm ls hl
  have hl : lv_has ls 4 [(0, .ref (K.1 + p0))] := hl
  unfold P_X5_sure at hp
  refine lv_aload_n C.1 C.2.1 dX5_sure_0 rfl (lv_at hl 0 rfl) ?_
  refine w_gr C X fX5_32 rfl dX5_sure_1 hp (fun q1 hp => ?_)
  refine lv_aload_n C.1 C.2.1 dX5_sure_4 rfl (lv_at hl 0 rfl) ?_
  refine w_gr C X fX5_19 rfl dX5_sure_5 hp (fun q2 hp => ?_)
  refine lv_iconst (v := 0) C.1 C.2.1 dX5_sure_8 (by decide) ?_
  have hrc := (rc_some hp).1
  have hp := (rc_some hp).2
  refine w_cv (cells' := 0) (slots' := 0) X (fun _ e => run_VN (As := [.ref (K.1 + q2), .int 0]) (c0 := 4) C X mX4_lead miX4_lead lX5_176 (by decide) rfl hrc (ct_X4_lead l K q1 q2 0 h0 e) (by decide) (by decide) rfl (by decide) rfl hl.1 dX5_sure_9) (by decide) hp (fun h1 H locs X hp => ?_)
  refine lv_iconst (v := 1) C.1 C.2.1 dX5_sure_12 (by decide) ?_
  refine lv_aload_n C.1 C.2.1 dX5_sure_13 rfl (lv_at hl 0 rfl) ?_
  refine w_gr C X fX5_19 rfl dX5_sure_14 hp (fun q3 hp => ?_)
  refine w_gi C X fX5_202 rfl dX5_sure_17 hp (fun v1 hp => ?_)
  refine w_shl C dX5_sure_20 ?_
  refine lv_iconst (v := 1) C.1 C.2.1 dX5_sure_21 (by decide) ?_
  refine lv_isub C.1 C.2.1 dX5_sure_22 ?_
  refine w_istn C (fun v => [(1, .int (v)), (0, .ref (K.1 + p0))]) dX5_sure_23 rfl hl (by decide) (fun _ => rfl) hp (fun v2 ls hl hp => ?_)
  refine lv_iconst (v := 0) C.1 C.2.1 dX5_sure_24 (by decide) ?_
  refine w_istn C (fun v => [(2, .int (v)), (1, .int v2), (0, .ref (K.1 + p0))]) dX5_sure_25 rfl hl (by decide) (fun _ => rfl) hp (fun v3 ls hl hp => ?_)
  refine lv_iconst (v := 0) C.1 C.2.1 dX5_sure_26 (by decide) ?_
  refine w_istn C (fun v => [(3, .int (v)), (2, .int v3), (1, .int v2), (0, .ref (K.1 + p0))]) dX5_sure_27 rfl hl (by decide) (fun _ => rfl) hp (fun v4 ls hl hp => ?_)
  exact wl_X5_sure_L28 C hr hlk _ _ _ _ _ _ _ _ _ X (lv_sub hl [3, 2, 1, 0] rfl) hp

abbrev rmX5_divisorsOf : Room := { frames := 1, cells := 0, slots := 0, locals := 21 }
def P_X5_divisorsOf_L23 : Nat → Int32 → Int32 → Int32 → Int32 → Hp → (Int32 → Int32 → Hp → Option (Int32 × Hp)) → Option (Int32 × Hp)
  | 0, _, _, _, _, _, _ => none
  | n + 1, v8, v9, v10, v11, h2, kont =>
    if 31 ≤ v11 then (
    kont v9 v11 h2)
    else (
    ci (P_X5_goesInto v10 v9 h2) fun v12 h3 =>
    if v12 = 0 then (
    kont v9 v11 h3)
    else (
    nz v10 <|
    lt ((v9 / v10) : Int32) fun v13 =>
    lt ((v11 + 1) : Int32) fun v14 =>
    P_X5_divisorsOf_L23 n v8 v13 v10 v14 h3 kont))

def P_X5_divisorsOf_L6 : Nat → Int32 → Int32 → Int32 → Hp → Option (Int32 × Hp)
  | 0, _, _, _, _ => none
  | n + 1, v4, v5, v6, h1 =>
    if 31622 < v6 then (
    if v5 ≤ 1 then (
    some (v4, h1))
    else (
    some ((v4 * 2), h1)))
    else (
    if v5 < (v6 * v6) then (
    if v5 ≤ 1 then (
    some (v4, h1))
    else (
    some ((v4 * 2), h1)))
    else (
    lt (0 : Int32) fun v7 =>
    P_X5_divisorsOf_L23 FU v4 v5 v6 v7 h1 fun v15 v16 h4 =>
    lt ((v4 * (v16 + 1)) : Int32) fun v17 =>
    lt ((v6 + 1) : Int32) fun v18 =>
    P_X5_divisorsOf_L6 n v17 v15 v18 h4))

def P_X5_divisorsOf (a0 : Int32) (h0 : Hp) : Option (Int32 × Hp) :=
    lt (1 : Int32) fun v1 =>
    lt (a0 : Int32) fun v2 =>
    lt (2 : Int32) fun v3 =>
    P_X5_divisorsOf_L6 FU v1 v2 v3 h0

set_option maxHeartbeats 4000000 in
set_option maxRecDepth 100000 in
theorem wl_X5_divisorsOf_L23 (C : CX K p m c cX5_divisorsOf 5 s args RX5) (hr : meth.sig.returnType = (some FieldType.int)) (hlk : meth.locks = false) {r : Int32} {h' : Hp} : ∀ (n : Nat) (v8 : Int32) (v9 : Int32) (v10 : Int32) (v11 : Int32) (h2 : Hp) (kont : Int32 → Int32 → Hp → Option (Int32 × Hp)) (H : Heap) (locs : List Loc) (ls : Array Slot), HX K s.heap H locs h2 → lv_has ls 5 [(1, .int v8), (2, .int v9), (3, .int v10), (4, .int v11)] → P_X5_divisorsOf_L23 n v8 v9 v10 v11 h2 kont = some (r, h') → (∀ (y0 : Int32) (y1 : Int32) (hk : Hp) (H : Heap) (locs : List Loc) (ls : Array Slot), HX K s.heap H locs hk → lv_has ls 5 [(1, .int v8), (2, .int y0), (3, .int v10), (4, .int y1)] → kont y0 y1 hk = some (r, h') → W p l e rmX5_divisorsOf s m args below meth c H locs 0 0 (MQ below (Qi K r h') args s rmX5_divisorsOf.cells rmX5_divisorsOf.slots (KA K)) (F0 m 48 ls [])) → W p l e rmX5_divisorsOf s m args below meth c H locs 0 0 (MQ below (Qi K r h') args s rmX5_divisorsOf.cells rmX5_divisorsOf.slots (KA K)) (F0 m 23 ls []) := by
  intro n
  induction n with
  | zero =>
    intro  v8 v9 v10 v11 h2 kont H locs ls X hl hp hk
    cases hp
  | succ n ih =>
    intro  v8 v9 v10 v11 h2 kont H locs ls X hl hp hk
    unfold P_X5_divisorsOf_L23 at hp
    refine lv_iload C.1 C.2.1 dX5_divisorsOf_23 (lv_at hl 3 rfl) ?_
    refine lv_bipush (v := 31) C.1 C.2.1 dX5_divisorsOf_25 (by decide) ?_
    refine lv_icmp_ge (tgt := 48) C.1 C.2.1 dX5_divisorsOf_27 (by decide) (fun c5 => ?_) (fun c5 => ?_)
    · have hp := if_p _ c5 hp
      exact hk _ _ _ _ _ _ X (lv_sub hl [0, 1, 2, 3] rfl) hp
    · have hp := if_n _ c5 hp
      refine lv_iload_n C.1 C.2.1 dX5_divisorsOf_30 rfl (lv_at hl 2 rfl) ?_
      refine lv_iload_n C.1 C.2.1 dX5_divisorsOf_31 rfl (lv_at hl 1 rfl) ?_
      refine w_ci (cells' := 0) (slots' := 0) X (fun _ _ e => run_S (As := [.int v10, .int v9]) C X mX5_goesInto msX5_goesInto lX5_172 (ct_X5_goesInto l K v10 v9 h2 e) (by decide) (by decide) rfl (by decide) rfl hl.1 dX5_divisorsOf_32) (by decide) hp (fun v12 h3 H locs X hp => ?_)
      refine lv_if_eq (tgt := 48) C.1 C.2.1 dX5_divisorsOf_35 (by decide) (fun c6 => ?_) (fun c6 => ?_)
      · have hp := if_p _ c6 hp
        exact hk _ _ _ _ _ _ X (lv_sub hl [0, 1, 2, 3] rfl) hp
      · have hp := if_n _ c6 hp
        refine lv_iload_n C.1 C.2.1 dX5_divisorsOf_38 rfl (lv_at hl 1 rfl) ?_
        refine lv_iload_n C.1 C.2.1 dX5_divisorsOf_39 rfl (lv_at hl 2 rfl) ?_
        have hz := (nz_some hp).1
        have hp := (nz_some hp).2
        refine lv_idiv C.1 C.2.1 dX5_divisorsOf_40 hz ?_
        refine w_istn C (fun v => [(2, .int (v)), (1, .int v8), (3, .int v10), (4, .int v11)]) dX5_divisorsOf_41 rfl hl (by decide) (fun _ => rfl) hp (fun v13 ls hl hp => ?_)
        refine w_inc (k := 3) C (fun v => [(4, .int (v)), (2, .int v13), (1, .int v8), (3, .int v10)]) dX5_divisorsOf_42 hl rfl (y := (v11 + 1)) rfl (by decide) (fun _ => rfl) hp (fun v14 ls hl hp => ?_)
        refine lv_goto (tgt := 23) C.1 C.2.1 dX5_divisorsOf_45 (by decide) ?_
        exact ih _ _ _ _ _ _ _ _ _ X (lv_sub hl [2, 1, 3, 0] rfl) hp hk

set_option maxHeartbeats 4000000 in
set_option maxRecDepth 100000 in
theorem wl_X5_divisorsOf_L6 (C : CX K p m c cX5_divisorsOf 5 s args RX5) (hr : meth.sig.returnType = (some FieldType.int)) (hlk : meth.locks = false) {r : Int32} {h' : Hp} : ∀ (n : Nat) (v4 : Int32) (v5 : Int32) (v6 : Int32) (h1 : Hp) (H : Heap) (locs : List Loc) (ls : Array Slot), HX K s.heap H locs h1 → lv_has ls 5 [(1, .int v4), (2, .int v5), (3, .int v6)] → P_X5_divisorsOf_L6 n v4 v5 v6 h1 = some (r, h') → W p l e rmX5_divisorsOf s m args below meth c H locs 0 0 (MQ below (Qi K r h') args s rmX5_divisorsOf.cells rmX5_divisorsOf.slots (KA K)) (F0 m 6 ls []) := by
  intro n
  induction n with
  | zero =>
    intro  v4 v5 v6 h1 H locs ls X hl hp
    cases hp
  | succ n ih =>
    intro  v4 v5 v6 h1 H locs ls X hl hp
    unfold P_X5_divisorsOf_L6 at hp
    refine lv_iload_n C.1 C.2.1 dX5_divisorsOf_6 rfl (lv_at hl 2 rfl) ?_
    refine lv_sipush (v := 31622) C.1 C.2.1 dX5_divisorsOf_7 (by decide) ?_
    refine lv_icmp_gt (tgt := 61) C.1 C.2.1 dX5_divisorsOf_10 (by decide) (fun c1 => ?_) (fun c1 => ?_)
    · have hp := if_p _ c1 hp
      refine lv_iload_n C.1 C.2.1 dX5_divisorsOf_61 rfl (lv_at hl 1 rfl) ?_
      refine lv_iconst (v := 1) C.1 C.2.1 dX5_divisorsOf_62 (by decide) ?_
      refine lv_icmp_le (tgt := 72) C.1 C.2.1 dX5_divisorsOf_63 (by decide) (fun c2 => ?_) (fun c2 => ?_)
      · have hp := if_p _ c2 hp
        refine lv_iload_n C.1 C.2.1 dX5_divisorsOf_72 rfl (lv_at hl 0 rfl) ?_
        exact w_reti C X hr hlk (by decide) dX5_divisorsOf_73 hp
      · have hp := if_n _ c2 hp
        refine lv_iload_n C.1 C.2.1 dX5_divisorsOf_66 rfl (lv_at hl 0 rfl) ?_
        refine lv_iconst (v := 2) C.1 C.2.1 dX5_divisorsOf_67 (by decide) ?_
        refine lv_imul C.1 C.2.1 dX5_divisorsOf_68 ?_
        refine lv_goto (tgt := 73) C.1 C.2.1 dX5_divisorsOf_69 (by decide) ?_
        exact w_reti C X hr hlk (by decide) dX5_divisorsOf_73 hp
    · have hp := if_n _ c1 hp
      refine lv_iload_n C.1 C.2.1 dX5_divisorsOf_13 rfl (lv_at hl 2 rfl) ?_
      refine lv_iload_n C.1 C.2.1 dX5_divisorsOf_14 rfl (lv_at hl 2 rfl) ?_
      refine lv_imul C.1 C.2.1 dX5_divisorsOf_15 ?_
      refine lv_iload_n C.1 C.2.1 dX5_divisorsOf_16 rfl (lv_at hl 1 rfl) ?_
      refine lv_icmp_gt (tgt := 61) C.1 C.2.1 dX5_divisorsOf_17 (by decide) (fun c3 => ?_) (fun c3 => ?_)
      · have hp := if_p _ c3 hp
        refine lv_iload_n C.1 C.2.1 dX5_divisorsOf_61 rfl (lv_at hl 1 rfl) ?_
        refine lv_iconst (v := 1) C.1 C.2.1 dX5_divisorsOf_62 (by decide) ?_
        refine lv_icmp_le (tgt := 72) C.1 C.2.1 dX5_divisorsOf_63 (by decide) (fun c4 => ?_) (fun c4 => ?_)
        · have hp := if_p _ c4 hp
          refine lv_iload_n C.1 C.2.1 dX5_divisorsOf_72 rfl (lv_at hl 0 rfl) ?_
          exact w_reti C X hr hlk (by decide) dX5_divisorsOf_73 hp
        · have hp := if_n _ c4 hp
          refine lv_iload_n C.1 C.2.1 dX5_divisorsOf_66 rfl (lv_at hl 0 rfl) ?_
          refine lv_iconst (v := 2) C.1 C.2.1 dX5_divisorsOf_67 (by decide) ?_
          refine lv_imul C.1 C.2.1 dX5_divisorsOf_68 ?_
          refine lv_goto (tgt := 73) C.1 C.2.1 dX5_divisorsOf_69 (by decide) ?_
          exact w_reti C X hr hlk (by decide) dX5_divisorsOf_73 hp
      · have hp := if_n _ c3 hp
        refine lv_iconst (v := 0) C.1 C.2.1 dX5_divisorsOf_20 (by decide) ?_
        refine w_ist C (fun v => [(4, .int (v)), (1, .int v4), (2, .int v5), (3, .int v6)]) dX5_divisorsOf_21 hl (by decide) (fun _ => rfl) hp (fun v7 ls hl hp => ?_)
        refine wl_X5_divisorsOf_L23 C hr hlk _ _ _ _ _ _ _ _ _ _ X (lv_sub hl [1, 2, 3, 0] rfl) hp (fun v15 v16 h4 H locs ls X hl hp => ?_)
        refine lv_iload_n C.1 C.2.1 dX5_divisorsOf_48 rfl (lv_at hl 0 rfl) ?_
        refine lv_iload C.1 C.2.1 dX5_divisorsOf_49 (lv_at hl 3 rfl) ?_
        refine lv_iconst (v := 1) C.1 C.2.1 dX5_divisorsOf_51 (by decide) ?_
        refine lv_iadd C.1 C.2.1 dX5_divisorsOf_52 ?_
        refine lv_imul C.1 C.2.1 dX5_divisorsOf_53 ?_
        refine w_istn C (fun v => [(1, .int (v)), (2, .int v15), (3, .int v6), (4, .int v16)]) dX5_divisorsOf_54 rfl hl (by decide) (fun _ => rfl) hp (fun v17 ls hl hp => ?_)
        refine w_inc (k := 2) C (fun v => [(3, .int (v)), (1, .int v17), (2, .int v15), (4, .int v16)]) dX5_divisorsOf_55 hl rfl (y := (v6 + 1)) rfl (by decide) (fun _ => rfl) hp (fun v18 ls hl hp => ?_)
        refine lv_goto (tgt := 6) C.1 C.2.1 dX5_divisorsOf_58 (by decide) ?_
        exact ih _ _ _ _ _ _ _ X (lv_sub hl [1, 2, 0] rfl) hp

set_option maxHeartbeats 4000000 in
set_option maxRecDepth 100000 in
theorem ct_X5_divisorsOf (l : Launch) (K : Kt) (a0 : Int32) (h0 : Hp) {r : Int32} {h' : Hp} (hp : P_X5_divisorsOf a0 h0 = some (r, h')) : CT l K yX5_divisorsOf cX5_divisorsOf 5 (some FieldType.int) rmX5_divisorsOf [.int a0] h0 (Qi K r h') := by
  refine ct_of (own := RX5) (by decide +kernel) rfl (Nat.le_of_ble_eq_true rfl) ?_
  intro p e s m args below meth c C X hr hlk hm ls hl
  have hl : lv_has ls 5 [(0, .int a0)] := hl
  unfold P_X5_divisorsOf at hp
  refine lv_iconst (v := 1) C.1 C.2.1 dX5_divisorsOf_0 (by decide) ?_
  refine w_istn C (fun v => [(1, .int (v)), (0, .int a0)]) dX5_divisorsOf_1 rfl hl (by decide) (fun _ => rfl) hp (fun v1 ls hl hp => ?_)
  refine lv_iload_n C.1 C.2.1 dX5_divisorsOf_2 rfl (lv_at hl 1 rfl) ?_
  refine w_istn C (fun v => [(2, .int (v)), (1, .int v1), (0, .int a0)]) dX5_divisorsOf_3 rfl hl (by decide) (fun _ => rfl) hp (fun v2 ls hl hp => ?_)
  refine lv_iconst (v := 2) C.1 C.2.1 dX5_divisorsOf_4 (by decide) ?_
  refine w_istn C (fun v => [(3, .int (v)), (2, .int v2), (1, .int v1), (0, .int a0)]) dX5_divisorsOf_5 rfl hl (by decide) (fun _ => rfl) hp (fun v3 ls hl hp => ?_)
  exact wl_X5_divisorsOf_L6 C hr hlk _ _ _ _ _ _ _ _ X (lv_sub hl [2, 1, 0] rfl) hp

abbrev rmX5_farWay : Room := { frames := 2, cells := 0, slots := 0, locals := 45 }
def P_X5_farWay (p0 : Nat) (a1 : Int32) (h0 : Hp) : Option (Int32 × Hp) :=
    ci (P_X5_divisorsOf a1 h0) fun v1 h1 =>
    gr h1 p0 5 1 fun q1 =>
    gi h1 q1 0 1 fun v2 =>
    ci (P_X5_remainder v1 v2 h1) fun v3 h2 =>
    some (v3, h2)

set_option maxHeartbeats 4000000 in
set_option maxRecDepth 100000 in
theorem ct_X5_farWay (l : Launch) (K : Kt) (p0 : Nat) (a1 : Int32) (h0 : Hp) {r : Int32} {h' : Hp} (hp : P_X5_farWay p0 a1 h0 = some (r, h')) : CT l K yX5_farWay cX5_farWay 2 (some FieldType.int) rmX5_farWay [.ref (K.1 + p0), .int a1] h0 (Qi K r h') := by
  refine ct_of (own := RX5) (by decide +kernel) rfl (Nat.le_of_ble_eq_true rfl) ?_
  intro p e s m args below meth c C X hr hlk hm ls hl
  have hl : lv_has ls 2 [(0, .ref (K.1 + p0)), (1, .int a1)] := hl
  unfold P_X5_farWay at hp
  refine lv_iload_n C.1 C.2.1 dX5_farWay_0 rfl (lv_at hl 1 rfl) ?_
  refine w_ci (cells' := 0) (slots' := 0) X (fun _ _ e => run_S (As := [.int a1]) C X mX5_divisorsOf msX5_divisorsOf lX5_221 (ct_X5_divisorsOf l K a1 h0 e) (by decide) (by decide) rfl (by decide) rfl hl.1 dX5_farWay_1) (by decide) hp (fun v1 h1 H locs X hp => ?_)
  refine lv_aload_n C.1 C.2.1 dX5_farWay_4 rfl (lv_at hl 0 rfl) ?_
  refine w_gr C X fX5_19 rfl dX5_farWay_5 hp (fun q1 hp => ?_)
  refine w_gi C X fX5_133 rfl dX5_farWay_8 hp (fun v2 hp => ?_)
  refine w_ci (cells' := 0) (slots' := 0) X (fun _ _ e => run_S (As := [.int v1, .int v2]) C X mX5_remainder msX5_remainder lX5_162 (ct_X5_remainder l K v1 v2 h1 e) (by decide) (by decide) rfl (by decide) rfl hl.1 dX5_farWay_11) (by decide) hp (fun v3 h2 H locs X hp => ?_)
  exact w_reti C X hr hlk (by decide) dX5_farWay_14 hp

abbrev rmX5_forEver : Room := { frames := 3, cells := 0, slots := 0, locals := 66 }
def P_X5_forEver (p0 : Nat) (a1 : Int32) (h0 : Hp) : Option (Int32 × Hp) :=
    if 1 ≤ a1 then (
    if a1 ≤ 1000000000 then (
    rc h0 p0 5 <| ci (P_X5_farWay p0 a1 h0) fun v1 h1 =>
    some (v1, h1))
    else (
    rc h0 p0 5 <| ci (P_X5_refuse p0 6 h0) fun v2 h2 =>
    some (v2, h2)))
    else (
    rc h0 p0 5 <| ci (P_X5_refuse p0 4 h0) fun v3 h3 =>
    some (v3, h3))

set_option maxHeartbeats 4000000 in
set_option maxRecDepth 100000 in
theorem ct_X5_forEver (l : Launch) (K : Kt) (p0 : Nat) (a1 : Int32) (h0 : Hp) {r : Int32} {h' : Hp} (hp : P_X5_forEver p0 a1 h0 = some (r, h')) : CT l K yX5_forEver cX5_forEver 2 (some FieldType.int) rmX5_forEver [.ref (K.1 + p0), .int a1] h0 (Qi K r h') := by
  refine ct_of (own := RX5) (by decide +kernel) rfl (Nat.le_of_ble_eq_true rfl) ?_
  intro p e s m args below meth c C X hr hlk hm ls hl
  have hl : lv_has ls 2 [(0, .ref (K.1 + p0)), (1, .int a1)] := hl
  unfold P_X5_forEver at hp
  refine lv_iload_n C.1 C.2.1 dX5_forEver_0 rfl (lv_at hl 1 rfl) ?_
  refine lv_iconst (v := 1) C.1 C.2.1 dX5_forEver_1 (by decide) ?_
  refine lv_icmp_ge (tgt := 11) C.1 C.2.1 dX5_forEver_2 (by decide) (fun c1 => ?_) (fun c1 => ?_)
  · have hp := if_p _ c1 hp
    refine lv_iload_n C.1 C.2.1 dX5_forEver_11 rfl (lv_at hl 1 rfl) ?_
    refine lv_ldc C.1 C.2.1 C.2.2.2.1 (C.2.2.2.2.1 _ kX5_217) dX5_forEver_12 ?_
    refine lv_icmp_le (tgt := 24) C.1 C.2.1 dX5_forEver_14 (by decide) (fun c2 => ?_) (fun c2 => ?_)
    · have hp := if_p _ c2 hp
      refine lv_aload_n C.1 C.2.1 dX5_forEver_24 rfl (lv_at hl 0 rfl) ?_
      refine lv_iload_n C.1 C.2.1 dX5_forEver_25 rfl (lv_at hl 1 rfl) ?_
      have hrc := (rc_some hp).1
      have hp := (rc_some hp).2
      refine w_ci (cells' := 0) (slots' := 0) X (fun _ _ e => run_V (As := [.int a1]) (c0 := 5) C X mX5_farWay miX5_farWay lX5_218 (by decide) rfl hrc (ct_X5_farWay l K p0 a1 h0 e) (by decide) (by decide) rfl (by decide) rfl hl.1 dX5_forEver_26) (by decide) hp (fun v1 h1 H locs X hp => ?_)
      exact w_reti C X hr hlk (by decide) dX5_forEver_29 hp
    · have hp := if_n _ c2 hp
      refine lv_aload_n C.1 C.2.1 dX5_forEver_17 rfl (lv_at hl 0 rfl) ?_
      refine lv_bipush (v := 6) C.1 C.2.1 dX5_forEver_18 (by decide) ?_
      have hrc := (rc_some hp).1
      have hp := (rc_some hp).2
      refine w_ci (cells' := 0) (slots' := 0) X (fun _ _ e => run_V (As := [.int 6]) (c0 := 5) C X mX5_refuse miX5_refuse lX5_50 (by decide) rfl hrc (ct_X5_refuse l K p0 6 h0 e) (by decide) (by decide) rfl (by decide) rfl hl.1 dX5_forEver_20) (by decide) hp (fun v2 h2 H locs X hp => ?_)
      exact w_reti C X hr hlk (by decide) dX5_forEver_23 hp
  · have hp := if_n _ c1 hp
    refine lv_aload_n C.1 C.2.1 dX5_forEver_5 rfl (lv_at hl 0 rfl) ?_
    refine lv_iconst (v := 4) C.1 C.2.1 dX5_forEver_6 (by decide) ?_
    have hrc := (rc_some hp).1
    have hp := (rc_some hp).2
    refine w_ci (cells' := 0) (slots' := 0) X (fun _ _ e => run_V (As := [.int 4]) (c0 := 5) C X mX5_refuse miX5_refuse lX5_50 (by decide) rfl hrc (ct_X5_refuse l K p0 4 h0 e) (by decide) (by decide) rfl (by decide) rfl hl.1 dX5_forEver_7) (by decide) hp (fun v3 h3 H locs X hp => ?_)
    exact w_reti C X hr hlk (by decide) dX5_forEver_10 hp

abbrev rmX5_nth : Room := { frames := 3, cells := 0, slots := 0, locals := 66 }
def P_X5_nth_L28 : Nat → Nat → Int32 → Int32 → Int32 → Hp → Option (Int32 × Hp)
  | 0, _, _, _, _, _ => none
  | n + 1, q1, v3, v4, v5, h1 =>
    if v3 ≤ v4 then (
    some (v5, h1))
    else (
    if 2000 ≤ v5 then (
    some (v5, h1))
    else (
    lt ((v5 + 1) : Int32) fun v6 =>
    rc h1 q1 5 <| ci (P_X5_farWay q1 v6 h1) fun v7 h2 =>
    if v7 = 0 then (
    P_X5_nth_L28 n q1 v3 v4 v6 h2)
    else (
    lt ((v4 + 1) : Int32) fun v8 =>
    P_X5_nth_L28 n q1 v3 v8 v6 h2)))

def P_X5_nth (p0 : Nat) (a1 : Int32) (h0 : Hp) : Option (Int32 × Hp) :=
    if 1 ≤ a1 then (
    if a1 ≤ 40 then (
    lt (0 : Int32) fun v1 =>
    lt (0 : Int32) fun v2 =>
    P_X5_nth_L28 FU p0 a1 v1 v2 h0)
    else (
    rc h0 p0 5 <| ci (P_X5_refuse p0 6 h0) fun v9 h3 =>
    some (v9, h3)))
    else (
    rc h0 p0 5 <| ci (P_X5_refuse p0 4 h0) fun v10 h4 =>
    some (v10, h4))

set_option maxHeartbeats 4000000 in
set_option maxRecDepth 100000 in
theorem wl_X5_nth_L28 (C : CX K p m c cX5_nth 4 s args RX5) (hr : meth.sig.returnType = (some FieldType.int)) (hlk : meth.locks = false) {r : Int32} {h' : Hp} : ∀ (n : Nat) (q1 : Nat) (v3 : Int32) (v4 : Int32) (v5 : Int32) (h1 : Hp) (H : Heap) (locs : List Loc) (ls : Array Slot), HX K s.heap H locs h1 → lv_has ls 4 [(0, .ref (K.1 + q1)), (1, .int v3), (2, .int v4), (3, .int v5)] → P_X5_nth_L28 n q1 v3 v4 v5 h1 = some (r, h') → W p l e rmX5_nth s m args below meth c H locs 0 0 (MQ below (Qi K r h') args s rmX5_nth.cells rmX5_nth.slots (KA K)) (F0 m 28 ls []) := by
  intro n
  induction n with
  | zero =>
    intro  q1 v3 v4 v5 h1 H locs ls X hl hp
    cases hp
  | succ n ih =>
    intro  q1 v3 v4 v5 h1 H locs ls X hl hp
    unfold P_X5_nth_L28 at hp
    refine lv_iload_n C.1 C.2.1 dX5_nth_28 rfl (lv_at hl 2 rfl) ?_
    refine lv_iload_n C.1 C.2.1 dX5_nth_29 rfl (lv_at hl 1 rfl) ?_
    refine lv_icmp_ge (tgt := 57) C.1 C.2.1 dX5_nth_30 (by decide) (fun c3 => ?_) (fun c3 => ?_)
    · have hp := if_p _ c3 hp
      refine lv_iload_n C.1 C.2.1 dX5_nth_57 rfl (lv_at hl 3 rfl) ?_
      exact w_reti C X hr hlk (by decide) dX5_nth_58 hp
    · have hp := if_n _ c3 hp
      refine lv_iload_n C.1 C.2.1 dX5_nth_33 rfl (lv_at hl 3 rfl) ?_
      refine lv_sipush (v := 2000) C.1 C.2.1 dX5_nth_34 (by decide) ?_
      refine lv_icmp_ge (tgt := 57) C.1 C.2.1 dX5_nth_37 (by decide) (fun c4 => ?_) (fun c4 => ?_)
      · have hp := if_p _ c4 hp
        refine lv_iload_n C.1 C.2.1 dX5_nth_57 rfl (lv_at hl 3 rfl) ?_
        exact w_reti C X hr hlk (by decide) dX5_nth_58 hp
      · have hp := if_n _ c4 hp
        refine w_inc (k := 3) C (fun v => [(3, .int (v)), (0, .ref (K.1 + q1)), (1, .int v3), (2, .int v4)]) dX5_nth_40 hl rfl (y := (v5 + 1)) rfl (by decide) (fun _ => rfl) hp (fun v6 ls hl hp => ?_)
        refine lv_aload_n C.1 C.2.1 dX5_nth_43 rfl (lv_at hl 1 rfl) ?_
        refine lv_iload_n C.1 C.2.1 dX5_nth_44 rfl (lv_at hl 0 rfl) ?_
        have hrc := (rc_some hp).1
        have hp := (rc_some hp).2
        refine w_ci (cells' := 0) (slots' := 0) X (fun _ _ e => run_V (As := [.int v6]) (c0 := 5) C X mX5_farWay miX5_farWay lX5_218 (by decide) rfl hrc (ct_X5_farWay l K q1 v6 h1 e) (by decide) (by decide) rfl (by decide) rfl hl.1 dX5_nth_45) (by decide) hp (fun v7 h2 H locs X hp => ?_)
        refine lv_if_eq (tgt := 28) C.1 C.2.1 dX5_nth_48 (by decide) (fun c5 => ?_) (fun c5 => ?_)
        · have hp := if_p _ c5 hp
          exact ih _ _ _ _ _ _ _ _ X (lv_sub hl [1, 2, 3, 0] rfl) hp
        · have hp := if_n _ c5 hp
          refine w_inc (k := 3) C (fun v => [(2, .int (v)), (3, .int v6), (0, .ref (K.1 + q1)), (1, .int v3)]) dX5_nth_51 hl rfl (y := (v4 + 1)) rfl (by decide) (fun _ => rfl) hp (fun v8 ls hl hp => ?_)
          refine lv_goto (tgt := 28) C.1 C.2.1 dX5_nth_54 (by decide) ?_
          exact ih _ _ _ _ _ _ _ _ X (lv_sub hl [2, 3, 0, 1] rfl) hp

set_option maxHeartbeats 4000000 in
set_option maxRecDepth 100000 in
theorem ct_X5_nth (l : Launch) (K : Kt) (p0 : Nat) (a1 : Int32) (h0 : Hp) {r : Int32} {h' : Hp} (hp : P_X5_nth p0 a1 h0 = some (r, h')) : CT l K yX5_nth cX5_nth 4 (some FieldType.int) rmX5_nth [.ref (K.1 + p0), .int a1] h0 (Qi K r h') := by
  refine ct_of (own := RX5) (by decide +kernel) rfl (Nat.le_of_ble_eq_true rfl) ?_
  intro p e s m args below meth c C X hr hlk hm ls hl
  have hl : lv_has ls 4 [(0, .ref (K.1 + p0)), (1, .int a1)] := hl
  unfold P_X5_nth at hp
  refine lv_iload_n C.1 C.2.1 dX5_nth_0 rfl (lv_at hl 1 rfl) ?_
  refine lv_iconst (v := 1) C.1 C.2.1 dX5_nth_1 (by decide) ?_
  refine lv_icmp_ge (tgt := 11) C.1 C.2.1 dX5_nth_2 (by decide) (fun c1 => ?_) (fun c1 => ?_)
  · have hp := if_p _ c1 hp
    refine lv_iload_n C.1 C.2.1 dX5_nth_11 rfl (lv_at hl 1 rfl) ?_
    refine lv_bipush (v := 40) C.1 C.2.1 dX5_nth_12 (by decide) ?_
    refine lv_icmp_le (tgt := 24) C.1 C.2.1 dX5_nth_14 (by decide) (fun c2 => ?_) (fun c2 => ?_)
    · have hp := if_p _ c2 hp
      refine lv_iconst (v := 0) C.1 C.2.1 dX5_nth_24 (by decide) ?_
      refine w_istn C (fun v => [(2, .int (v)), (0, .ref (K.1 + p0)), (1, .int a1)]) dX5_nth_25 rfl hl (by decide) (fun _ => rfl) hp (fun v1 ls hl hp => ?_)
      refine lv_iconst (v := 0) C.1 C.2.1 dX5_nth_26 (by decide) ?_
      refine w_istn C (fun v => [(3, .int (v)), (2, .int v1), (0, .ref (K.1 + p0)), (1, .int a1)]) dX5_nth_27 rfl hl (by decide) (fun _ => rfl) hp (fun v2 ls hl hp => ?_)
      exact wl_X5_nth_L28 C hr hlk _ _ _ _ _ _ _ _ _ X (lv_sub hl [2, 3, 1, 0] rfl) hp
    · have hp := if_n _ c2 hp
      refine lv_aload_n C.1 C.2.1 dX5_nth_17 rfl (lv_at hl 0 rfl) ?_
      refine lv_bipush (v := 6) C.1 C.2.1 dX5_nth_18 (by decide) ?_
      have hrc := (rc_some hp).1
      have hp := (rc_some hp).2
      refine w_ci (cells' := 0) (slots' := 0) X (fun _ _ e => run_V (As := [.int 6]) (c0 := 5) C X mX5_refuse miX5_refuse lX5_50 (by decide) rfl hrc (ct_X5_refuse l K p0 6 h0 e) (by decide) (by decide) rfl (by decide) rfl hl.1 dX5_nth_20) (by decide) hp (fun v9 h3 H locs X hp => ?_)
      exact w_reti C X hr hlk (by decide) dX5_nth_23 hp
  · have hp := if_n _ c1 hp
    refine lv_aload_n C.1 C.2.1 dX5_nth_5 rfl (lv_at hl 0 rfl) ?_
    refine lv_iconst (v := 4) C.1 C.2.1 dX5_nth_6 (by decide) ?_
    have hrc := (rc_some hp).1
    have hp := (rc_some hp).2
    refine w_ci (cells' := 0) (slots' := 0) X (fun _ _ e => run_V (As := [.int 4]) (c0 := 5) C X mX5_refuse miX5_refuse lX5_50 (by decide) rfl hrc (ct_X5_refuse l K p0 4 h0 e) (by decide) (by decide) rfl (by decide) rfl hl.1 dX5_nth_7) (by decide) hp (fun v10 h4 H locs X hp => ?_)
    exact w_reti C X hr hlk (by decide) dX5_nth_10 hp

abbrev rmX5_open : Room := { frames := 3, cells := 0, slots := 0, locals := 66 }
def P_X5_open_L29 : Nat → Nat → Int32 → Int32 → Int32 → Hp → Option (Int32 × Hp)
  | 0, _, _, _, _, _ => none
  | n + 1, q1, v3, v4, v5, h1 =>
    if v3 < v5 then (
    some (v4, h1))
    else (
    rc h1 q1 5 <| ci (P_X5_farWay q1 v5 h1) fun v6 h2 =>
    if v6 = 0 then (
    lt ((v5 + 1) : Int32) fun v7 =>
    P_X5_open_L29 n q1 v3 v4 v7 h2)
    else (
    lt ((v4 + 1) : Int32) fun v8 =>
    lt ((v5 + 1) : Int32) fun v9 =>
    P_X5_open_L29 n q1 v3 v8 v9 h2))

def P_X5_open (p0 : Nat) (a1 : Int32) (h0 : Hp) : Option (Int32 × Hp) :=
    if 1 ≤ a1 then (
    if a1 ≤ 2000 then (
    lt (0 : Int32) fun v1 =>
    lt (1 : Int32) fun v2 =>
    P_X5_open_L29 FU p0 a1 v1 v2 h0)
    else (
    rc h0 p0 5 <| ci (P_X5_refuse p0 6 h0) fun v10 h3 =>
    some (v10, h3)))
    else (
    rc h0 p0 5 <| ci (P_X5_refuse p0 4 h0) fun v11 h4 =>
    some (v11, h4))

set_option maxHeartbeats 4000000 in
set_option maxRecDepth 100000 in
theorem wl_X5_open_L29 (C : CX K p m c cX5_open 4 s args RX5) (hr : meth.sig.returnType = (some FieldType.int)) (hlk : meth.locks = false) {r : Int32} {h' : Hp} : ∀ (n : Nat) (q1 : Nat) (v3 : Int32) (v4 : Int32) (v5 : Int32) (h1 : Hp) (H : Heap) (locs : List Loc) (ls : Array Slot), HX K s.heap H locs h1 → lv_has ls 4 [(0, .ref (K.1 + q1)), (1, .int v3), (2, .int v4), (3, .int v5)] → P_X5_open_L29 n q1 v3 v4 v5 h1 = some (r, h') → W p l e rmX5_open s m args below meth c H locs 0 0 (MQ below (Qi K r h') args s rmX5_open.cells rmX5_open.slots (KA K)) (F0 m 29 ls []) := by
  intro n
  induction n with
  | zero =>
    intro  q1 v3 v4 v5 h1 H locs ls X hl hp
    cases hp
  | succ n ih =>
    intro  q1 v3 v4 v5 h1 H locs ls X hl hp
    unfold P_X5_open_L29 at hp
    refine lv_iload_n C.1 C.2.1 dX5_open_29 rfl (lv_at hl 3 rfl) ?_
    refine lv_iload_n C.1 C.2.1 dX5_open_30 rfl (lv_at hl 1 rfl) ?_
    refine lv_icmp_gt (tgt := 51) C.1 C.2.1 dX5_open_31 (by decide) (fun c3 => ?_) (fun c3 => ?_)
    · have hp := if_p _ c3 hp
      refine lv_iload_n C.1 C.2.1 dX5_open_51 rfl (lv_at hl 2 rfl) ?_
      exact w_reti C X hr hlk (by decide) dX5_open_52 hp
    · have hp := if_n _ c3 hp
      refine lv_aload_n C.1 C.2.1 dX5_open_34 rfl (lv_at hl 0 rfl) ?_
      refine lv_iload_n C.1 C.2.1 dX5_open_35 rfl (lv_at hl 3 rfl) ?_
      have hrc := (rc_some hp).1
      have hp := (rc_some hp).2
      refine w_ci (cells' := 0) (slots' := 0) X (fun _ _ e => run_V (As := [.int v5]) (c0 := 5) C X mX5_farWay miX5_farWay lX5_218 (by decide) rfl hrc (ct_X5_farWay l K q1 v5 h1 e) (by decide) (by decide) rfl (by decide) rfl hl.1 dX5_open_36) (by decide) hp (fun v6 h2 H locs X hp => ?_)
      refine lv_if_eq (tgt := 45) C.1 C.2.1 dX5_open_39 (by decide) (fun c4 => ?_) (fun c4 => ?_)
      · have hp := if_p _ c4 hp
        refine w_inc (k := 3) C (fun v => [(3, .int (v)), (0, .ref (K.1 + q1)), (1, .int v3), (2, .int v4)]) dX5_open_45 hl rfl (y := (v5 + 1)) rfl (by decide) (fun _ => rfl) hp (fun v7 ls hl hp => ?_)
        refine lv_goto (tgt := 29) C.1 C.2.1 dX5_open_48 (by decide) ?_
        exact ih _ _ _ _ _ _ _ _ X (lv_sub hl [1, 2, 3, 0] rfl) hp
      · have hp := if_n _ c4 hp
        refine w_inc (k := 2) C (fun v => [(2, .int (v)), (0, .ref (K.1 + q1)), (1, .int v3), (3, .int v5)]) dX5_open_42 hl rfl (y := (v4 + 1)) rfl (by decide) (fun _ => rfl) hp (fun v8 ls hl hp => ?_)
        refine w_inc (k := 3) C (fun v => [(3, .int (v)), (2, .int v8), (0, .ref (K.1 + q1)), (1, .int v3)]) dX5_open_45 hl rfl (y := (v5 + 1)) rfl (by decide) (fun _ => rfl) hp (fun v9 ls hl hp => ?_)
        refine lv_goto (tgt := 29) C.1 C.2.1 dX5_open_48 (by decide) ?_
        exact ih _ _ _ _ _ _ _ _ X (lv_sub hl [2, 3, 1, 0] rfl) hp

set_option maxHeartbeats 4000000 in
set_option maxRecDepth 100000 in
theorem ct_X5_open (l : Launch) (K : Kt) (p0 : Nat) (a1 : Int32) (h0 : Hp) {r : Int32} {h' : Hp} (hp : P_X5_open p0 a1 h0 = some (r, h')) : CT l K yX5_open cX5_open 4 (some FieldType.int) rmX5_open [.ref (K.1 + p0), .int a1] h0 (Qi K r h') := by
  refine ct_of (own := RX5) (by decide +kernel) rfl (Nat.le_of_ble_eq_true rfl) ?_
  intro p e s m args below meth c C X hr hlk hm ls hl
  have hl : lv_has ls 4 [(0, .ref (K.1 + p0)), (1, .int a1)] := hl
  unfold P_X5_open at hp
  refine lv_iload_n C.1 C.2.1 dX5_open_0 rfl (lv_at hl 1 rfl) ?_
  refine lv_iconst (v := 1) C.1 C.2.1 dX5_open_1 (by decide) ?_
  refine lv_icmp_ge (tgt := 11) C.1 C.2.1 dX5_open_2 (by decide) (fun c1 => ?_) (fun c1 => ?_)
  · have hp := if_p _ c1 hp
    refine lv_iload_n C.1 C.2.1 dX5_open_11 rfl (lv_at hl 1 rfl) ?_
    refine lv_sipush (v := 2000) C.1 C.2.1 dX5_open_12 (by decide) ?_
    refine lv_icmp_le (tgt := 25) C.1 C.2.1 dX5_open_15 (by decide) (fun c2 => ?_) (fun c2 => ?_)
    · have hp := if_p _ c2 hp
      refine lv_iconst (v := 0) C.1 C.2.1 dX5_open_25 (by decide) ?_
      refine w_istn C (fun v => [(2, .int (v)), (0, .ref (K.1 + p0)), (1, .int a1)]) dX5_open_26 rfl hl (by decide) (fun _ => rfl) hp (fun v1 ls hl hp => ?_)
      refine lv_iconst (v := 1) C.1 C.2.1 dX5_open_27 (by decide) ?_
      refine w_istn C (fun v => [(3, .int (v)), (2, .int v1), (0, .ref (K.1 + p0)), (1, .int a1)]) dX5_open_28 rfl hl (by decide) (fun _ => rfl) hp (fun v2 ls hl hp => ?_)
      exact wl_X5_open_L29 C hr hlk _ _ _ _ _ _ _ _ _ X (lv_sub hl [2, 3, 1, 0] rfl) hp
    · have hp := if_n _ c2 hp
      refine lv_aload_n C.1 C.2.1 dX5_open_18 rfl (lv_at hl 0 rfl) ?_
      refine lv_bipush (v := 6) C.1 C.2.1 dX5_open_19 (by decide) ?_
      have hrc := (rc_some hp).1
      have hp := (rc_some hp).2
      refine w_ci (cells' := 0) (slots' := 0) X (fun _ _ e => run_V (As := [.int 6]) (c0 := 5) C X mX5_refuse miX5_refuse lX5_50 (by decide) rfl hrc (ct_X5_refuse l K p0 6 h0 e) (by decide) (by decide) rfl (by decide) rfl hl.1 dX5_open_21) (by decide) hp (fun v10 h3 H locs X hp => ?_)
      exact w_reti C X hr hlk (by decide) dX5_open_24 hp
  · have hp := if_n _ c1 hp
    refine lv_aload_n C.1 C.2.1 dX5_open_5 rfl (lv_at hl 0 rfl) ?_
    refine lv_iconst (v := 4) C.1 C.2.1 dX5_open_6 (by decide) ?_
    have hrc := (rc_some hp).1
    have hp := (rc_some hp).2
    refine w_ci (cells' := 0) (slots' := 0) X (fun _ _ e => run_V (As := [.int 4]) (c0 := 5) C X mX5_refuse miX5_refuse lX5_50 (by decide) rfl hrc (ct_X5_refuse l K p0 4 h0 e) (by decide) (by decide) rfl (by decide) rfl hl.1 dX5_open_7) (by decide) hp (fun v11 h4 H locs X hp => ?_)
    exact w_reti C X hr hlk (by decide) dX5_open_10 hp

abbrev rmX5_log : Room := { frames := 1, cells := 0, slots := 0, locals := 21 }
def P_X5_log (p0 : Nat) (a1 : Int32) (h0 : Hp) : Option (Int32 × Hp) :=
    if a1 = 9 then (
    gr h0 p0 5 1 fun q1 =>
    gi h0 q1 0 10 fun v1 =>
    if v1 < 10 then (
    gr h0 p0 5 1 fun q2 =>
    rc h0 q2 0 <| ci (P_X0_note q2 a1 h0) fun v2 h1 =>
    some (v2, h1))
    else (
    rc h0 p0 5 <| ci (P_X5_refuse p0 6 h0) fun v3 h2 =>
    some (v3, h2)))
    else (
    gr h0 p0 5 1 fun q3 =>
    rc h0 q3 0 <| ci (P_X0_goerOf q3 a1 h0) fun o1 h3 =>
    nn o1 (
    rc h3 p0 5 <| ci (P_X5_refuse p0 1 h3) fun v4 h4 =>
    some (v4, h4)) fun q4 =>
    gr h3 p0 5 1 fun q5 =>
    gi h3 q5 0 10 fun v5 =>
    if v5 < 10 then (
    gr h3 p0 5 1 fun q6 =>
    rc h3 q6 0 <| ci (P_X0_note q6 a1 h3) fun v6 h5 =>
    some (v6, h5))
    else (
    rc h3 p0 5 <| ci (P_X5_refuse p0 6 h3) fun v7 h6 =>
    some (v7, h6)))

set_option maxHeartbeats 4000000 in
set_option maxRecDepth 100000 in
theorem ct_X5_log (l : Launch) (K : Kt) (p0 : Nat) (a1 : Int32) (h0 : Hp) {r : Int32} {h' : Hp} (hp : P_X5_log p0 a1 h0 = some (r, h')) : CT l K yX5_log cX5_log 2 (some FieldType.int) rmX5_log [.ref (K.1 + p0), .int a1] h0 (Qi K r h') := by
  refine ct_of (own := RX5) (by decide +kernel) rfl (Nat.le_of_ble_eq_true rfl) ?_
  intro p e s m args below meth c C X hr hlk hm ls hl
  have hl : lv_has ls 2 [(0, .ref (K.1 + p0)), (1, .int a1)] := hl
  unfold P_X5_log at hp
  refine lv_iload_n C.1 C.2.1 dX5_log_0 rfl (lv_at hl 1 rfl) ?_
  refine lv_bipush (v := 9) C.1 C.2.1 dX5_log_1 (by decide) ?_
  refine lv_icmp_eq (tgt := 23) C.1 C.2.1 dX5_log_3 (by decide) (fun c1 => ?_) (fun c1 => ?_)
  · have hp := if_p _ c1 hp
    refine lv_aload_n C.1 C.2.1 dX5_log_23 rfl (lv_at hl 0 rfl) ?_
    refine w_gr C X fX5_19 rfl dX5_log_24 hp (fun q1 hp => ?_)
    refine w_gi C X fX5_224 rfl dX5_log_27 hp (fun v1 hp => ?_)
    refine lv_bipush (v := 10) C.1 C.2.1 dX5_log_30 (by decide) ?_
    refine lv_icmp_lt (tgt := 42) C.1 C.2.1 dX5_log_32 (by decide) (fun c2 => ?_) (fun c2 => ?_)
    · have hp := if_p _ c2 hp
      refine lv_aload_n C.1 C.2.1 dX5_log_42 rfl (lv_at hl 0 rfl) ?_
      refine w_gr C X fX5_19 rfl dX5_log_43 hp (fun q2 hp => ?_)
      refine lv_iload_n C.1 C.2.1 dX5_log_46 rfl (lv_at hl 1 rfl) ?_
      have hrc := (rc_some hp).1
      have hp := (rc_some hp).2
      refine w_ci (cells' := 0) (slots' := 0) X (fun _ _ e => run_VN (As := [.int a1]) (c0 := 0) C X mX0_note miX0_note lX5_227 (by decide) rfl hrc (ct_X0_note l K q2 a1 h0 e) (by decide) (by decide) rfl (by decide) rfl hl.1 dX5_log_47) (by decide) hp (fun v2 h1 H locs X hp => ?_)
      exact w_reti C X hr hlk (by decide) dX5_log_50 hp
    · have hp := if_n _ c2 hp
      refine lv_aload_n C.1 C.2.1 dX5_log_35 rfl (lv_at hl 0 rfl) ?_
      refine lv_bipush (v := 6) C.1 C.2.1 dX5_log_36 (by decide) ?_
      have hrc := (rc_some hp).1
      have hp := (rc_some hp).2
      refine w_ci (cells' := 0) (slots' := 0) X (fun _ _ e => run_V (As := [.int 6]) (c0 := 5) C X mX5_refuse miX5_refuse lX5_50 (by decide) rfl hrc (ct_X5_refuse l K p0 6 h0 e) (by decide) (by decide) rfl (by decide) rfl hl.1 dX5_log_38) (by decide) hp (fun v3 h2 H locs X hp => ?_)
      exact w_reti C X hr hlk (by decide) dX5_log_41 hp
  · have hp := if_n _ c1 hp
    refine lv_aload_n C.1 C.2.1 dX5_log_6 rfl (lv_at hl 0 rfl) ?_
    refine w_gr C X fX5_19 rfl dX5_log_7 hp (fun q3 hp => ?_)
    refine lv_iload_n C.1 C.2.1 dX5_log_10 rfl (lv_at hl 1 rfl) ?_
    have hrc := (rc_some hp).1
    have hp := (rc_some hp).2
    refine w_cq (cells' := 0) (slots' := 0) X (fun _ _ e => run_VN (As := [.int a1]) (c0 := 0) C X mX0_goerOf miX0_goerOf lX5_106 (by decide) rfl hrc (ct_X0_goerOf l K q3 a1 h0 e) (by decide) (by decide) rfl (by decide) rfl hl.1 dX5_log_11) (by decide) hp (fun o1 h3 H locs X hp => ?_)
    refine w_nn hp (fun hp => ?_) (fun q4 hp => ?_)
    · skip
      refine lv_ifnonnullN C.1 C.2.1 dX5_log_14 ?_
      refine lv_aload_n C.1 C.2.1 dX5_log_17 rfl (lv_at hl 0 rfl) ?_
      refine lv_iconst (v := 1) C.1 C.2.1 dX5_log_18 (by decide) ?_
      have hrc := (rc_some hp).1
      have hp := (rc_some hp).2
      refine w_ci (cells' := 0) (slots' := 0) X (fun _ _ e => run_V (As := [.int 1]) (c0 := 5) C X mX5_refuse miX5_refuse lX5_50 (by decide) rfl hrc (ct_X5_refuse l K p0 1 h3 e) (by decide) (by decide) rfl (by decide) rfl hl.1 dX5_log_19) (by decide) hp (fun v4 h4 H locs X hp => ?_)
      exact w_reti C X hr hlk (by decide) dX5_log_22 hp
    · skip
      refine lv_ifnonnull (tgt := 23) C.1 C.2.1 dX5_log_14 (by decide) ?_
      refine lv_aload_n C.1 C.2.1 dX5_log_23 rfl (lv_at hl 0 rfl) ?_
      refine w_gr C X fX5_19 rfl dX5_log_24 hp (fun q5 hp => ?_)
      refine w_gi C X fX5_224 rfl dX5_log_27 hp (fun v5 hp => ?_)
      refine lv_bipush (v := 10) C.1 C.2.1 dX5_log_30 (by decide) ?_
      refine lv_icmp_lt (tgt := 42) C.1 C.2.1 dX5_log_32 (by decide) (fun c3 => ?_) (fun c3 => ?_)
      · have hp := if_p _ c3 hp
        refine lv_aload_n C.1 C.2.1 dX5_log_42 rfl (lv_at hl 0 rfl) ?_
        refine w_gr C X fX5_19 rfl dX5_log_43 hp (fun q6 hp => ?_)
        refine lv_iload_n C.1 C.2.1 dX5_log_46 rfl (lv_at hl 1 rfl) ?_
        have hrc := (rc_some hp).1
        have hp := (rc_some hp).2
        refine w_ci (cells' := 0) (slots' := 0) X (fun _ _ e => run_VN (As := [.int a1]) (c0 := 0) C X mX0_note miX0_note lX5_227 (by decide) rfl hrc (ct_X0_note l K q6 a1 h3 e) (by decide) (by decide) rfl (by decide) rfl hl.1 dX5_log_47) (by decide) hp (fun v6 h5 H locs X hp => ?_)
        exact w_reti C X hr hlk (by decide) dX5_log_50 hp
      · have hp := if_n _ c3 hp
        refine lv_aload_n C.1 C.2.1 dX5_log_35 rfl (lv_at hl 0 rfl) ?_
        refine lv_bipush (v := 6) C.1 C.2.1 dX5_log_36 (by decide) ?_
        have hrc := (rc_some hp).1
        have hp := (rc_some hp).2
        refine w_ci (cells' := 0) (slots' := 0) X (fun _ _ e => run_V (As := [.int 6]) (c0 := 5) C X mX5_refuse miX5_refuse lX5_50 (by decide) rfl hrc (ct_X5_refuse l K p0 6 h3 e) (by decide) (by decide) rfl (by decide) rfl hl.1 dX5_log_38) (by decide) hp (fun v7 h6 H locs X hp => ?_)
        exact w_reti C X hr hlk (by decide) dX5_log_41 hp

abbrev rmX5_order : Room := { frames := 3, cells := 0, slots := 0, locals := 68 }
def P_X5_order_L37 : Nat → Nat → Int32 → Int32 → Int32 → Int32 → Int32 → Hp → Option (Int32 × Hp)
  | 0, _, _, _, _, _, _, _ => none
  | n + 1, q3, v8, v9, v10, v11, v12, h3 =>
    gr h3 q3 5 1 fun q4 =>
    gi h3 q4 0 10 fun v13 =>
    if v13 ≤ v12 then (
    if v9 = 0 then (
    if v10 = 0 then (
    gr h3 q3 5 1 fun q5 =>
    gi h3 q5 0 10 fun v14 =>
    some (v14, h3))
    else (
    some (v11, h3)))
    else (
    some (v11, h3)))
    else (
    gr h3 q3 5 1 fun q6 =>
    gr h3 q3 5 1 fun q7 =>
    rc h3 q7 0 <| ci (P_X0_loggedAt q7 v12 h3) fun v15 h4 =>
    rc h4 q6 0 <| ci (P_X0_turnsOf q6 v15 h4) fun v16 h5 =>
    ci (P_X5_bitOf v8 h5) fun v17 h6 =>
    if (v16 &&& v17) = 0 then (
    lt ((v12 + 1) : Int32) fun v18 =>
    P_X5_order_L37 n q3 v8 v9 v10 v11 v18 h6)
    else (
    lt ((v10 + 1) : Int32) fun v19 =>
    gr h6 q3 5 1 fun q8 =>
    gi h6 q8 0 1 fun v20 =>
    ci (P_X5_remainder (v9 + v19) v20 h6) fun v21 h7 =>
    if v21 = 0 then (
    lt ((v11 + 1) : Int32) fun v23 =>
    lt ((v12 + 1) : Int32) fun v24 =>
    P_X5_order_L37 n q3 v8 v9 v19 v23 v24 h7)
    else (
    lt ((v12 + 1) : Int32) fun v22 =>
    P_X5_order_L37 n q3 v8 v9 v19 v11 v22 h7)))

def P_X5_order (p0 : Nat) (a1 : Int32) (h0 : Hp) : Option (Int32 × Hp) :=
    gr h0 p0 5 1 fun q1 =>
    rc h0 q1 0 <| ci (P_X0_hasDoor q1 a1 h0) fun v1 h1 =>
    if v1 = 0 then (
    rc h1 p0 5 <| ci (P_X5_refuse p0 1 h1) fun v25 h8 =>
    some (v25, h8))
    else (
    gr h1 p0 5 1 fun q2 =>
    gi h1 q2 0 7 fun v2 =>
    ci (P_X5_wayOf v2 a1 h1) fun v3 h2 =>
    lt (v3 : Int32) fun v4 =>
    lt (0 : Int32) fun v5 =>
    lt (0 : Int32) fun v6 =>
    lt (0 : Int32) fun v7 =>
    P_X5_order_L37 FU p0 a1 v4 v5 v6 v7 h2)

set_option maxHeartbeats 4000000 in
set_option maxRecDepth 100000 in
theorem wl_X5_order_L37 (C : CX K p m c cX5_order 6 s args RX5) (hr : meth.sig.returnType = (some FieldType.int)) (hlk : meth.locks = false) {r : Int32} {h' : Hp} : ∀ (n : Nat) (q3 : Nat) (v8 : Int32) (v9 : Int32) (v10 : Int32) (v11 : Int32) (v12 : Int32) (h3 : Hp) (H : Heap) (locs : List Loc) (ls : Array Slot), HX K s.heap H locs h3 → lv_has ls 6 [(0, .ref (K.1 + q3)), (1, .int v8), (2, .int v9), (3, .int v10), (4, .int v11), (5, .int v12)] → P_X5_order_L37 n q3 v8 v9 v10 v11 v12 h3 = some (r, h') → W p l e rmX5_order s m args below meth c H locs 0 0 (MQ below (Qi K r h') args s rmX5_order.cells rmX5_order.slots (KA K)) (F0 m 37 ls []) := by
  intro n
  induction n with
  | zero =>
    intro  q3 v8 v9 v10 v11 v12 h3 H locs ls X hl hp
    cases hp
  | succ n ih =>
    intro  q3 v8 v9 v10 v11 v12 h3 H locs ls X hl hp
    unfold P_X5_order_L37 at hp
    refine lv_iload C.1 C.2.1 dX5_order_37 (lv_at hl 5 rfl) ?_
    refine lv_aload_n C.1 C.2.1 dX5_order_39 rfl (lv_at hl 0 rfl) ?_
    refine w_gr C X fX5_19 rfl dX5_order_40 hp (fun q4 hp => ?_)
    refine w_gi C X fX5_224 rfl dX5_order_43 hp (fun v13 hp => ?_)
    refine lv_icmp_ge (tgt := 101) C.1 C.2.1 dX5_order_46 (by decide) (fun c2 => ?_) (fun c2 => ?_)
    · have hp := if_p _ c2 hp
      refine lv_iload_n C.1 C.2.1 dX5_order_101 rfl (lv_at hl 2 rfl) ?_
      refine lv_if_ne (tgt := 119) C.1 C.2.1 dX5_order_102 (by decide) (fun c3 => ?_) (fun c3 => ?_)
      · have hp := if_n _ c3 hp
        refine lv_iload C.1 C.2.1 dX5_order_119 (lv_at hl 4 rfl) ?_
        exact w_reti C X hr hlk (by decide) dX5_order_121 hp
      · have hp := if_p _ c3 hp
        refine lv_iload_n C.1 C.2.1 dX5_order_105 rfl (lv_at hl 3 rfl) ?_
        refine lv_if_ne (tgt := 119) C.1 C.2.1 dX5_order_106 (by decide) (fun c4 => ?_) (fun c4 => ?_)
        · have hp := if_n _ c4 hp
          refine lv_iload C.1 C.2.1 dX5_order_119 (lv_at hl 4 rfl) ?_
          exact w_reti C X hr hlk (by decide) dX5_order_121 hp
        · have hp := if_p _ c4 hp
          refine lv_aload_n C.1 C.2.1 dX5_order_109 rfl (lv_at hl 0 rfl) ?_
          refine w_gr C X fX5_19 rfl dX5_order_110 hp (fun q5 hp => ?_)
          refine w_gi C X fX5_224 rfl dX5_order_113 hp (fun v14 hp => ?_)
          refine lv_goto (tgt := 121) C.1 C.2.1 dX5_order_116 (by decide) ?_
          exact w_reti C X hr hlk (by decide) dX5_order_121 hp
    · have hp := if_n _ c2 hp
      refine lv_aload_n C.1 C.2.1 dX5_order_49 rfl (lv_at hl 0 rfl) ?_
      refine w_gr C X fX5_19 rfl dX5_order_50 hp (fun q6 hp => ?_)
      refine lv_aload_n C.1 C.2.1 dX5_order_53 rfl (lv_at hl 0 rfl) ?_
      refine w_gr C X fX5_19 rfl dX5_order_54 hp (fun q7 hp => ?_)
      refine lv_iload C.1 C.2.1 dX5_order_57 (lv_at hl 5 rfl) ?_
      have hrc := (rc_some hp).1
      have hp := (rc_some hp).2
      refine w_ci (cells' := 0) (slots' := 0) X (fun _ _ e => run_VN (As := [.int v12]) (c0 := 0) C X mX0_loggedAt miX0_loggedAt lX5_230 (by decide) rfl hrc (ct_X0_loggedAt l K q7 v12 h3 e) (by decide) (by decide) rfl (Nat.le_of_ble_eq_true rfl) rfl hl.1 dX5_order_59) (by decide) hp (fun v15 h4 H locs X hp => ?_)
      have hrc := (rc_some hp).1
      have hp := (rc_some hp).2
      refine w_ci (cells' := 0) (slots' := 0) X (fun _ _ e => run_VN (As := [.int v15]) (c0 := 0) C X mX0_turnsOf miX0_turnsOf lX5_124 (by decide) rfl hrc (ct_X0_turnsOf l K q6 v15 h4 e) (by decide) (by decide) rfl (by decide) rfl hl.1 dX5_order_62) (by decide) hp (fun v16 h5 H locs X hp => ?_)
      refine lv_iload_n C.1 C.2.1 dX5_order_65 rfl (lv_at hl 1 rfl) ?_
      refine w_ci (cells' := 0) (slots' := 0) X (fun _ _ e => run_S (As := [.int v8]) C X mX5_bitOf msX5_bitOf lX5_130 (ct_X5_bitOf l K v8 h5 e) (by decide) (by decide) rfl (Nat.le_of_ble_eq_true rfl) rfl hl.1 dX5_order_66) (by decide) hp (fun v17 h6 H locs X hp => ?_)
      refine lv_iand C.1 C.2.1 dX5_order_69 ?_
      refine lv_if_eq (tgt := 95) C.1 C.2.1 dX5_order_70 (by decide) (fun c5 => ?_) (fun c5 => ?_)
      · have hp := if_p _ c5 hp
        refine w_inc (k := 5) C (fun v => [(5, .int (v)), (0, .ref (K.1 + q3)), (1, .int v8), (2, .int v9), (3, .int v10), (4, .int v11)]) dX5_order_95 hl rfl (y := (v12 + 1)) rfl (by decide) (fun _ => rfl) hp (fun v18 ls hl hp => ?_)
        refine lv_goto (tgt := 37) C.1 C.2.1 dX5_order_98 (by decide) ?_
        exact ih _ _ _ _ _ _ _ _ _ _ X (lv_sub hl [1, 2, 3, 4, 5, 0] rfl) hp
      · have hp := if_n _ c5 hp
        refine w_inc (k := 3) C (fun v => [(3, .int (v)), (0, .ref (K.1 + q3)), (1, .int v8), (2, .int v9), (4, .int v11), (5, .int v12)]) dX5_order_73 hl rfl (y := (v10 + 1)) rfl (by decide) (fun _ => rfl) hp (fun v19 ls hl hp => ?_)
        refine lv_iload_n C.1 C.2.1 dX5_order_76 rfl (lv_at hl 3 rfl) ?_
        refine lv_iload_n C.1 C.2.1 dX5_order_77 rfl (lv_at hl 0 rfl) ?_
        refine lv_iadd C.1 C.2.1 dX5_order_78 ?_
        refine lv_aload_n C.1 C.2.1 dX5_order_79 rfl (lv_at hl 1 rfl) ?_
        refine w_gr C X fX5_19 rfl dX5_order_80 hp (fun q8 hp => ?_)
        refine w_gi C X fX5_133 rfl dX5_order_83 hp (fun v20 hp => ?_)
        refine w_ci (cells' := 0) (slots' := 0) X (fun _ _ e => run_S (As := [.int (v9 + v19), .int v20]) C X mX5_remainder msX5_remainder lX5_162 (ct_X5_remainder l K (v9 + v19) v20 h6 e) (by decide) (by decide) rfl (by decide) rfl hl.1 dX5_order_86) (by decide) hp (fun v21 h7 H locs X hp => ?_)
        refine lv_if_ne (tgt := 95) C.1 C.2.1 dX5_order_89 (by decide) (fun c6 => ?_) (fun c6 => ?_)
        · have hp := if_n _ c6 hp
          refine w_inc (k := 5) C (fun v => [(5, .int (v)), (3, .int v19), (0, .ref (K.1 + q3)), (1, .int v8), (2, .int v9), (4, .int v11)]) dX5_order_95 hl rfl (y := (v12 + 1)) rfl (by decide) (fun _ => rfl) hp (fun v22 ls hl hp => ?_)
          refine lv_goto (tgt := 37) C.1 C.2.1 dX5_order_98 (by decide) ?_
          exact ih _ _ _ _ _ _ _ _ _ _ X (lv_sub hl [2, 3, 4, 1, 5, 0] rfl) hp
        · have hp := if_p _ c6 hp
          refine w_inc (k := 4) C (fun v => [(4, .int (v)), (3, .int v19), (0, .ref (K.1 + q3)), (1, .int v8), (2, .int v9), (5, .int v12)]) dX5_order_92 hl rfl (y := (v11 + 1)) rfl (by decide) (fun _ => rfl) hp (fun v23 ls hl hp => ?_)
          refine w_inc (k := 5) C (fun v => [(5, .int (v)), (4, .int v23), (3, .int v19), (0, .ref (K.1 + q3)), (1, .int v8), (2, .int v9)]) dX5_order_95 hl rfl (y := (v12 + 1)) rfl (by decide) (fun _ => rfl) hp (fun v24 ls hl hp => ?_)
          refine lv_goto (tgt := 37) C.1 C.2.1 dX5_order_98 (by decide) ?_
          exact ih _ _ _ _ _ _ _ _ _ _ X (lv_sub hl [3, 4, 5, 2, 1, 0] rfl) hp

set_option maxHeartbeats 4000000 in
set_option maxRecDepth 100000 in
theorem ct_X5_order (l : Launch) (K : Kt) (p0 : Nat) (a1 : Int32) (h0 : Hp) {r : Int32} {h' : Hp} (hp : P_X5_order p0 a1 h0 = some (r, h')) : CT l K yX5_order cX5_order 6 (some FieldType.int) rmX5_order [.ref (K.1 + p0), .int a1] h0 (Qi K r h') := by
  refine ct_of (own := RX5) (by decide +kernel) rfl (Nat.le_of_ble_eq_true rfl) ?_
  intro p e s m args below meth c C X hr hlk hm ls hl
  have hl : lv_has ls 6 [(0, .ref (K.1 + p0)), (1, .int a1)] := hl
  unfold P_X5_order at hp
  refine lv_aload_n C.1 C.2.1 dX5_order_0 rfl (lv_at hl 0 rfl) ?_
  refine w_gr C X fX5_19 rfl dX5_order_1 hp (fun q1 hp => ?_)
  refine lv_iload_n C.1 C.2.1 dX5_order_4 rfl (lv_at hl 1 rfl) ?_
  have hrc := (rc_some hp).1
  have hp := (rc_some hp).2
  refine w_ci (cells' := 0) (slots' := 0) X (fun _ _ e => run_VN (As := [.int a1]) (c0 := 0) C X mX0_hasDoor miX0_hasDoor lX5_89 (by decide) rfl hrc (ct_X0_hasDoor l K q1 a1 h0 e) (by decide) (by decide) rfl (by decide) rfl hl.1 dX5_order_5) (by decide) hp (fun v1 h1 H locs X hp => ?_)
  refine lv_if_ne (tgt := 17) C.1 C.2.1 dX5_order_8 (by decide) (fun c1 => ?_) (fun c1 => ?_)
  · have hp := if_n _ c1 hp
    refine lv_aload_n C.1 C.2.1 dX5_order_17 rfl (lv_at hl 0 rfl) ?_
    refine w_gr C X fX5_19 rfl dX5_order_18 hp (fun q2 hp => ?_)
    refine w_gi C X fX5_93 rfl dX5_order_21 hp (fun v2 hp => ?_)
    refine lv_iload_n C.1 C.2.1 dX5_order_24 rfl (lv_at hl 1 rfl) ?_
    refine w_ci (cells' := 0) (slots' := 0) X (fun _ _ e => run_S (As := [.int v2, .int a1]) C X mX5_wayOf msX5_wayOf lX5_96 (ct_X5_wayOf l K v2 a1 h1 e) (by decide) (by decide) rfl (by decide) rfl hl.1 dX5_order_25) (by decide) hp (fun v3 h2 H locs X hp => ?_)
    refine w_istn C (fun v => [(2, .int (v)), (0, .ref (K.1 + p0)), (1, .int a1)]) dX5_order_28 rfl hl (by decide) (fun _ => rfl) hp (fun v4 ls hl hp => ?_)
    refine lv_iconst (v := 0) C.1 C.2.1 dX5_order_29 (by decide) ?_
    refine w_istn C (fun v => [(3, .int (v)), (2, .int v4), (0, .ref (K.1 + p0)), (1, .int a1)]) dX5_order_30 rfl hl (by decide) (fun _ => rfl) hp (fun v5 ls hl hp => ?_)
    refine lv_iconst (v := 0) C.1 C.2.1 dX5_order_31 (by decide) ?_
    refine w_ist C (fun v => [(4, .int (v)), (3, .int v5), (2, .int v4), (0, .ref (K.1 + p0)), (1, .int a1)]) dX5_order_32 hl (by decide) (fun _ => rfl) hp (fun v6 ls hl hp => ?_)
    refine lv_iconst (v := 0) C.1 C.2.1 dX5_order_34 (by decide) ?_
    refine w_ist C (fun v => [(5, .int (v)), (4, .int v6), (3, .int v5), (2, .int v4), (0, .ref (K.1 + p0)), (1, .int a1)]) dX5_order_35 hl (by decide) (fun _ => rfl) hp (fun v7 ls hl hp => ?_)
    exact wl_X5_order_L37 C hr hlk _ _ _ _ _ _ _ _ _ _ _ X (lv_sub hl [4, 5, 3, 2, 1, 0] rfl) hp
  · have hp := if_p _ c1 hp
    refine lv_aload_n C.1 C.2.1 dX5_order_11 rfl (lv_at hl 0 rfl) ?_
    refine lv_iconst (v := 1) C.1 C.2.1 dX5_order_12 (by decide) ?_
    have hrc := (rc_some hp).1
    have hp := (rc_some hp).2
    refine w_ci (cells' := 0) (slots' := 0) X (fun _ _ e => run_V (As := [.int 1]) (c0 := 5) C X mX5_refuse miX5_refuse lX5_50 (by decide) rfl hrc (ct_X5_refuse l K p0 1 h1 e) (by decide) (by decide) rfl (by decide) rfl hl.1 dX5_order_13) (by decide) hp (fun v25 h8 H locs X hp => ?_)
    exact w_reti C X hr hlk (by decide) dX5_order_16 hp

abbrev rmX5_filled : Room := { frames := 3, cells := 0, slots := 0, locals := 68 }
def P_X5_filled_L9 : Nat → Nat → Int32 → Int32 → Int32 → Int32 → Hp → Option (Int32 × Hp)
  | 0, _, _, _, _, _, _ => none
  | n + 1, q1, v4, v5, v6, v7, h1 =>
    if v4 ≤ v7 then (
    some (v5, h1))
    else (
    gr h1 q1 5 1 fun q2 =>
    gr h1 q1 5 1 fun q3 =>
    gi h1 q3 0 2 fun v8 =>
    ci (P_X5_remainder v6 v8 h1) fun v9 h2 =>
    rc h2 q2 0 <| ci (P_X0_turnsOf q2 v9 h2) fun v10 h3 =>
    gr h3 q1 5 1 fun q4 =>
    gi h3 q4 0 1 fun v11 =>
    ci (P_X5_turned v5 v10 v11 h3) fun v12 h4 =>
    lt (v12 : Int32) fun v13 =>
    gr h4 q1 5 1 fun q5 =>
    gi h4 q5 0 2 fun v14 =>
    ci (P_X5_quotient v6 v14 h4) fun v15 h5 =>
    lt (v15 : Int32) fun v16 =>
    lt ((v7 + 1) : Int32) fun v17 =>
    P_X5_filled_L9 n q1 v4 v13 v16 v17 h5)

def P_X5_filled (p0 : Nat) (a1 : Int32) (a2 : Int32) (a3 : Int32) (h0 : Hp) : Option (Int32 × Hp) :=
    lt (a1 : Int32) fun v1 =>
    lt (a3 : Int32) fun v2 =>
    lt (0 : Int32) fun v3 =>
    P_X5_filled_L9 FU p0 a2 v1 v2 v3 h0

set_option maxHeartbeats 4000000 in
set_option maxRecDepth 100000 in
theorem wl_X5_filled_L9 (C : CX K p m c cX5_filled 7 s args RX5) (hr : meth.sig.returnType = (some FieldType.int)) (hlk : meth.locks = false) {r : Int32} {h' : Hp} : ∀ (n : Nat) (q1 : Nat) (v4 : Int32) (v5 : Int32) (v6 : Int32) (v7 : Int32) (h1 : Hp) (H : Heap) (locs : List Loc) (ls : Array Slot), HX K s.heap H locs h1 → lv_has ls 7 [(0, .ref (K.1 + q1)), (2, .int v4), (4, .int v5), (5, .int v6), (6, .int v7)] → P_X5_filled_L9 n q1 v4 v5 v6 v7 h1 = some (r, h') → W p l e rmX5_filled s m args below meth c H locs 0 0 (MQ below (Qi K r h') args s rmX5_filled.cells rmX5_filled.slots (KA K)) (F0 m 9 ls []) := by
  intro n
  induction n with
  | zero =>
    intro  q1 v4 v5 v6 v7 h1 H locs ls X hl hp
    cases hp
  | succ n ih =>
    intro  q1 v4 v5 v6 v7 h1 H locs ls X hl hp
    unfold P_X5_filled_L9 at hp
    refine lv_iload C.1 C.2.1 dX5_filled_9 (lv_at hl 4 rfl) ?_
    refine lv_iload_n C.1 C.2.1 dX5_filled_11 rfl (lv_at hl 1 rfl) ?_
    refine lv_icmp_ge (tgt := 68) C.1 C.2.1 dX5_filled_12 (by decide) (fun c1 => ?_) (fun c1 => ?_)
    · have hp := if_p _ c1 hp
      refine lv_iload C.1 C.2.1 dX5_filled_68 (lv_at hl 2 rfl) ?_
      exact w_reti C X hr hlk (by decide) dX5_filled_70 hp
    · have hp := if_n _ c1 hp
      refine lv_iload C.1 C.2.1 dX5_filled_15 (lv_at hl 2 rfl) ?_
      refine lv_aload_n C.1 C.2.1 dX5_filled_17 rfl (lv_at hl 0 rfl) ?_
      refine w_gr C X fX5_19 rfl dX5_filled_18 hp (fun q2 hp => ?_)
      refine lv_iload C.1 C.2.1 dX5_filled_21 (lv_at hl 3 rfl) ?_
      refine lv_aload_n C.1 C.2.1 dX5_filled_23 rfl (lv_at hl 0 rfl) ?_
      refine w_gr C X fX5_19 rfl dX5_filled_24 hp (fun q3 hp => ?_)
      refine w_gi C X fX5_202 rfl dX5_filled_27 hp (fun v8 hp => ?_)
      refine w_ci (cells' := 0) (slots' := 0) X (fun _ _ e => run_S (As := [.int v6, .int v8]) C X mX5_remainder msX5_remainder lX5_162 (ct_X5_remainder l K v6 v8 h1 e) (by decide) (by decide) rfl (Nat.le_of_ble_eq_true rfl) rfl hl.1 dX5_filled_30) (by decide) hp (fun v9 h2 H locs X hp => ?_)
      have hrc := (rc_some hp).1
      have hp := (rc_some hp).2
      refine w_ci (cells' := 0) (slots' := 0) X (fun _ _ e => run_VN (As := [.int v9]) (c0 := 0) C X mX0_turnsOf miX0_turnsOf lX5_124 (by decide) rfl hrc (ct_X0_turnsOf l K q2 v9 h2 e) (by decide) (by decide) rfl (Nat.le_of_ble_eq_true rfl) rfl hl.1 dX5_filled_33) (by decide) hp (fun v10 h3 H locs X hp => ?_)
      refine lv_aload_n C.1 C.2.1 dX5_filled_36 rfl (lv_at hl 0 rfl) ?_
      refine w_gr C X fX5_19 rfl dX5_filled_37 hp (fun q4 hp => ?_)
      refine w_gi C X fX5_133 rfl dX5_filled_40 hp (fun v11 hp => ?_)
      refine w_ci (cells' := 0) (slots' := 0) X (fun _ _ e => run_S (As := [.int v5, .int v10, .int v11]) C X mX5_turned msX5_turned lX5_136 (ct_X5_turned l K v5 v10 v11 h3 e) (by decide) (by decide) rfl (by decide) rfl hl.1 dX5_filled_43) (by decide) hp (fun v12 h4 H locs X hp => ?_)
      refine w_ist C (fun v => [(4, .int (v)), (0, .ref (K.1 + q1)), (2, .int v4), (5, .int v6), (6, .int v7)]) dX5_filled_46 hl (by decide) (fun _ => rfl) hp (fun v13 ls hl hp => ?_)
      refine lv_iload C.1 C.2.1 dX5_filled_48 (lv_at hl 3 rfl) ?_
      refine lv_aload_n C.1 C.2.1 dX5_filled_50 rfl (lv_at hl 1 rfl) ?_
      refine w_gr C X fX5_19 rfl dX5_filled_51 hp (fun q5 hp => ?_)
      refine w_gi C X fX5_202 rfl dX5_filled_54 hp (fun v14 hp => ?_)
      refine w_ci (cells' := 0) (slots' := 0) X (fun _ _ e => run_S (As := [.int v6, .int v14]) C X mX5_quotient msX5_quotient lX5_165 (ct_X5_quotient l K v6 v14 h4 e) (by decide) (by decide) rfl (by decide) rfl hl.1 dX5_filled_57) (by decide) hp (fun v15 h5 H locs X hp => ?_)
      refine w_ist C (fun v => [(5, .int (v)), (4, .int v13), (0, .ref (K.1 + q1)), (2, .int v4), (6, .int v7)]) dX5_filled_60 hl (by decide) (fun _ => rfl) hp (fun v16 ls hl hp => ?_)
      refine w_inc (k := 4) C (fun v => [(6, .int (v)), (5, .int v16), (4, .int v13), (0, .ref (K.1 + q1)), (2, .int v4)]) dX5_filled_62 hl rfl (y := (v7 + 1)) rfl (by decide) (fun _ => rfl) hp (fun v17 ls hl hp => ?_)
      refine lv_goto (tgt := 9) C.1 C.2.1 dX5_filled_65 (by decide) ?_
      exact ih _ _ _ _ _ _ _ _ _ X (lv_sub hl [3, 4, 2, 1, 0] rfl) hp

set_option maxHeartbeats 4000000 in
set_option maxRecDepth 100000 in
theorem ct_X5_filled (l : Launch) (K : Kt) (p0 : Nat) (a1 : Int32) (a2 : Int32) (a3 : Int32) (h0 : Hp) {r : Int32} {h' : Hp} (hp : P_X5_filled p0 a1 a2 a3 h0 = some (r, h')) : CT l K yX5_filled cX5_filled 7 (some FieldType.int) rmX5_filled [.ref (K.1 + p0), .int a1, .int a2, .int a3] h0 (Qi K r h') := by
  refine ct_of (own := RX5) (by decide +kernel) rfl (Nat.le_of_ble_eq_true rfl) ?_
  intro p e s m args below meth c C X hr hlk hm ls hl
  have hl : lv_has ls 7 [(0, .ref (K.1 + p0)), (1, .int a1), (2, .int a2), (3, .int a3)] := hl
  unfold P_X5_filled at hp
  refine lv_iload_n C.1 C.2.1 dX5_filled_0 rfl (lv_at hl 1 rfl) ?_
  refine w_ist C (fun v => [(4, .int (v)), (0, .ref (K.1 + p0)), (1, .int a1), (2, .int a2), (3, .int a3)]) dX5_filled_1 hl (by decide) (fun _ => rfl) hp (fun v1 ls hl hp => ?_)
  refine lv_iload_n C.1 C.2.1 dX5_filled_3 rfl (lv_at hl 4 rfl) ?_
  refine w_ist C (fun v => [(5, .int (v)), (4, .int v1), (0, .ref (K.1 + p0)), (1, .int a1), (2, .int a2), (3, .int a3)]) dX5_filled_4 hl (by decide) (fun _ => rfl) hp (fun v2 ls hl hp => ?_)
  refine lv_iconst (v := 0) C.1 C.2.1 dX5_filled_6 (by decide) ?_
  refine w_ist C (fun v => [(6, .int (v)), (5, .int v2), (4, .int v1), (0, .ref (K.1 + p0)), (1, .int a1), (2, .int a2), (3, .int a3)]) dX5_filled_7 hl (by decide) (fun _ => rfl) hp (fun v3 ls hl hp => ?_)
  exact wl_X5_filled_L9 C hr hlk _ _ _ _ _ _ _ _ _ _ X (lv_sub hl [3, 5, 2, 1, 0] rfl) hp

abbrev rmX5_fills : Room := { frames := 4, cells := 0, slots := 0, locals := 94 }
def P_X5_fills_L47 : Nat → Nat → Int32 → Int32 → Int32 → Int32 → Int32 → Hp → Option (Int32 × Hp)
  | 0, _, _, _, _, _, _, _ => none
  | n + 1, q4, v10, v11, v12, v13, v14, h4 =>
    if v12 ≤ v14 then (
    some (v13, h4))
    else (
    rc h4 q4 5 <| ci (P_X5_filled q4 v11 v10 v14 h4) fun v15 h5 =>
    gr h5 q4 5 1 fun q5 =>
    gi h5 q5 0 7 fun v16 =>
    if v15 = v16 then (
    lt ((v13 + 1) : Int32) fun v18 =>
    lt ((v14 + 1) : Int32) fun v19 =>
    P_X5_fills_L47 n q4 v10 v11 v12 v18 v19 h5)
    else (
    lt ((v14 + 1) : Int32) fun v17 =>
    P_X5_fills_L47 n q4 v10 v11 v12 v13 v17 h5))

def P_X5_fills (p0 : Nat) (h0 : Hp) : Option (Int32 × Hp) :=
    gr h0 p0 5 1 fun q1 =>
    rc h0 q1 0 <| ci (P_X0_unknown q1 h0) fun v1 h1 =>
    lt (v1 : Int32) fun v2 =>
    if v2 ≤ 3 then (
    gr h1 p0 5 1 fun q2 =>
    rc h1 q2 0 <| ci (P_X0_behindLog q2 0 h1) fun v3 h2 =>
    lt (v3 : Int32) fun v4 =>
    gr h2 p0 5 1 fun q3 =>
    gi h2 q3 0 2 fun v5 =>
    ci (P_X5_power v5 v2 h2) fun v6 h3 =>
    lt (v6 : Int32) fun v7 =>
    lt (0 : Int32) fun v8 =>
    lt (0 : Int32) fun v9 =>
    P_X5_fills_L47 FU p0 v2 v4 v7 v8 v9 h3)
    else (
    rc h1 p0 5 <| ci (P_X5_refuse p0 6 h1) fun v20 h6 =>
    some (v20, h6))

set_option maxHeartbeats 4000000 in
set_option maxRecDepth 100000 in
theorem wl_X5_fills_L47 (C : CX K p m c cX5_fills 6 s args RX5) (hr : meth.sig.returnType = (some FieldType.int)) (hlk : meth.locks = false) {r : Int32} {h' : Hp} : ∀ (n : Nat) (q4 : Nat) (v10 : Int32) (v11 : Int32) (v12 : Int32) (v13 : Int32) (v14 : Int32) (h4 : Hp) (H : Heap) (locs : List Loc) (ls : Array Slot), HX K s.heap H locs h4 → lv_has ls 6 [(0, .ref (K.1 + q4)), (1, .int v10), (2, .int v11), (3, .int v12), (4, .int v13), (5, .int v14)] → P_X5_fills_L47 n q4 v10 v11 v12 v13 v14 h4 = some (r, h') → W p l e rmX5_fills s m args below meth c H locs 0 0 (MQ below (Qi K r h') args s rmX5_fills.cells rmX5_fills.slots (KA K)) (F0 m 47 ls []) := by
  intro n
  induction n with
  | zero =>
    intro  q4 v10 v11 v12 v13 v14 h4 H locs ls X hl hp
    cases hp
  | succ n ih =>
    intro  q4 v10 v11 v12 v13 v14 h4 H locs ls X hl hp
    unfold P_X5_fills_L47 at hp
    refine lv_iload C.1 C.2.1 dX5_fills_47 (lv_at hl 5 rfl) ?_
    refine lv_iload_n C.1 C.2.1 dX5_fills_49 rfl (lv_at hl 3 rfl) ?_
    refine lv_icmp_ge (tgt := 80) C.1 C.2.1 dX5_fills_50 (by decide) (fun c2 => ?_) (fun c2 => ?_)
    · have hp := if_p _ c2 hp
      refine lv_iload C.1 C.2.1 dX5_fills_80 (lv_at hl 4 rfl) ?_
      exact w_reti C X hr hlk (by decide) dX5_fills_82 hp
    · have hp := if_n _ c2 hp
      refine lv_aload_n C.1 C.2.1 dX5_fills_53 rfl (lv_at hl 0 rfl) ?_
      refine lv_iload_n C.1 C.2.1 dX5_fills_54 rfl (lv_at hl 2 rfl) ?_
      refine lv_iload_n C.1 C.2.1 dX5_fills_55 rfl (lv_at hl 1 rfl) ?_
      refine lv_iload C.1 C.2.1 dX5_fills_56 (lv_at hl 5 rfl) ?_
      have hrc := (rc_some hp).1
      have hp := (rc_some hp).2
      refine w_ci (cells' := 0) (slots' := 0) X (fun _ _ e => run_V (As := [.int v11, .int v10, .int v14]) (c0 := 5) C X mX5_filled miX5_filled lX5_239 (by decide) rfl hrc (ct_X5_filled l K q4 v11 v10 v14 h4 e) (by decide) (by decide) rfl (by decide) rfl hl.1 dX5_fills_58) (by decide) hp (fun v15 h5 H locs X hp => ?_)
      refine lv_aload_n C.1 C.2.1 dX5_fills_61 rfl (lv_at hl 0 rfl) ?_
      refine w_gr C X fX5_19 rfl dX5_fills_62 hp (fun q5 hp => ?_)
      refine w_gi C X fX5_93 rfl dX5_fills_65 hp (fun v16 hp => ?_)
      refine lv_icmp_ne (tgt := 74) C.1 C.2.1 dX5_fills_68 (by decide) (fun c3 => ?_) (fun c3 => ?_)
      · have hp := if_n _ c3 hp
        refine w_inc (k := 5) C (fun v => [(5, .int (v)), (0, .ref (K.1 + q4)), (1, .int v10), (2, .int v11), (3, .int v12), (4, .int v13)]) dX5_fills_74 hl rfl (y := (v14 + 1)) rfl (by decide) (fun _ => rfl) hp (fun v17 ls hl hp => ?_)
        refine lv_goto (tgt := 47) C.1 C.2.1 dX5_fills_77 (by decide) ?_
        exact ih _ _ _ _ _ _ _ _ _ _ X (lv_sub hl [1, 2, 3, 4, 5, 0] rfl) hp
      · have hp := if_p _ c3 hp
        refine w_inc (k := 4) C (fun v => [(4, .int (v)), (0, .ref (K.1 + q4)), (1, .int v10), (2, .int v11), (3, .int v12), (5, .int v14)]) dX5_fills_71 hl rfl (y := (v13 + 1)) rfl (by decide) (fun _ => rfl) hp (fun v18 ls hl hp => ?_)
        refine w_inc (k := 5) C (fun v => [(5, .int (v)), (4, .int v18), (0, .ref (K.1 + q4)), (1, .int v10), (2, .int v11), (3, .int v12)]) dX5_fills_74 hl rfl (y := (v14 + 1)) rfl (by decide) (fun _ => rfl) hp (fun v19 ls hl hp => ?_)
        refine lv_goto (tgt := 47) C.1 C.2.1 dX5_fills_77 (by decide) ?_
        exact ih _ _ _ _ _ _ _ _ _ _ X (lv_sub hl [2, 3, 4, 5, 1, 0] rfl) hp

set_option maxHeartbeats 4000000 in
set_option maxRecDepth 100000 in
theorem ct_X5_fills (l : Launch) (K : Kt) (p0 : Nat) (h0 : Hp) {r : Int32} {h' : Hp} (hp : P_X5_fills p0 h0 = some (r, h')) : CT l K yX5_fills cX5_fills 6 (some FieldType.int) rmX5_fills [.ref (K.1 + p0)] h0 (Qi K r h') := by
  refine ct_of (own := RX5) (by decide +kernel) rfl (Nat.le_of_ble_eq_true rfl) ?_
  intro p e s m args below meth c C X hr hlk hm ls hl
  have hl : lv_has ls 6 [(0, .ref (K.1 + p0))] := hl
  unfold P_X5_fills at hp
  refine lv_aload_n C.1 C.2.1 dX5_fills_0 rfl (lv_at hl 0 rfl) ?_
  refine w_gr C X fX5_19 rfl dX5_fills_1 hp (fun q1 hp => ?_)
  have hrc := (rc_some hp).1
  have hp := (rc_some hp).2
  refine w_ci (cells' := 0) (slots' := 0) X (fun _ _ e => run_VN (As := []) (c0 := 0) C X mX0_unknown miX0_unknown lX5_233 (by decide) rfl hrc (ct_X0_unknown l K q1 h0 e) (by decide) (by decide) rfl (by decide) rfl hl.1 dX5_fills_4) (by decide) hp (fun v1 h1 H locs X hp => ?_)
  refine w_istn C (fun v => [(1, .int (v)), (0, .ref (K.1 + p0))]) dX5_fills_7 rfl hl (by decide) (fun _ => rfl) hp (fun v2 ls hl hp => ?_)
  refine lv_iload_n C.1 C.2.1 dX5_fills_8 rfl (lv_at hl 0 rfl) ?_
  refine lv_iconst (v := 3) C.1 C.2.1 dX5_fills_9 (by decide) ?_
  refine lv_icmp_le (tgt := 20) C.1 C.2.1 dX5_fills_10 (by decide) (fun c1 => ?_) (fun c1 => ?_)
  · have hp := if_p _ c1 hp
    refine lv_aload_n C.1 C.2.1 dX5_fills_20 rfl (lv_at hl 1 rfl) ?_
    refine w_gr C X fX5_19 rfl dX5_fills_21 hp (fun q2 hp => ?_)
    refine lv_iconst (v := 0) C.1 C.2.1 dX5_fills_24 (by decide) ?_
    have hrc := (rc_some hp).1
    have hp := (rc_some hp).2
    refine w_ci (cells' := 0) (slots' := 0) X (fun _ _ e => run_VN (As := [.int 0]) (c0 := 0) C X mX0_behindLog miX0_behindLog lX5_236 (by decide) rfl hrc (ct_X0_behindLog l K q2 0 h1 e) (by decide) (by decide) rfl (by decide) rfl hl.1 dX5_fills_25) (by decide) hp (fun v3 h2 H locs X hp => ?_)
    refine w_istn C (fun v => [(2, .int (v)), (1, .int v2), (0, .ref (K.1 + p0))]) dX5_fills_28 rfl hl (by decide) (fun _ => rfl) hp (fun v4 ls hl hp => ?_)
    refine lv_aload_n C.1 C.2.1 dX5_fills_29 rfl (lv_at hl 2 rfl) ?_
    refine w_gr C X fX5_19 rfl dX5_fills_30 hp (fun q3 hp => ?_)
    refine w_gi C X fX5_202 rfl dX5_fills_33 hp (fun v5 hp => ?_)
    refine lv_iload_n C.1 C.2.1 dX5_fills_36 rfl (lv_at hl 1 rfl) ?_
    refine w_ci (cells' := 0) (slots' := 0) X (fun _ _ e => run_S (As := [.int v5, .int v2]) C X mX5_power msX5_power lX5_149 (ct_X5_power l K v5 v2 h2 e) (by decide) (by decide) rfl (by decide) rfl hl.1 dX5_fills_37) (by decide) hp (fun v6 h3 H locs X hp => ?_)
    refine w_istn C (fun v => [(3, .int (v)), (2, .int v4), (1, .int v2), (0, .ref (K.1 + p0))]) dX5_fills_40 rfl hl (by decide) (fun _ => rfl) hp (fun v7 ls hl hp => ?_)
    refine lv_iconst (v := 0) C.1 C.2.1 dX5_fills_41 (by decide) ?_
    refine w_ist C (fun v => [(4, .int (v)), (3, .int v7), (2, .int v4), (1, .int v2), (0, .ref (K.1 + p0))]) dX5_fills_42 hl (by decide) (fun _ => rfl) hp (fun v8 ls hl hp => ?_)
    refine lv_iconst (v := 0) C.1 C.2.1 dX5_fills_44 (by decide) ?_
    refine w_ist C (fun v => [(5, .int (v)), (4, .int v8), (3, .int v7), (2, .int v4), (1, .int v2), (0, .ref (K.1 + p0))]) dX5_fills_45 hl (by decide) (fun _ => rfl) hp (fun v9 ls hl hp => ?_)
    exact wl_X5_fills_L47 C hr hlk _ _ _ _ _ _ _ _ _ _ _ X (lv_sub hl [5, 4, 3, 2, 1, 0] rfl) hp
  · have hp := if_n _ c1 hp
    refine lv_aload_n C.1 C.2.1 dX5_fills_13 rfl (lv_at hl 1 rfl) ?_
    refine lv_bipush (v := 6) C.1 C.2.1 dX5_fills_14 (by decide) ?_
    have hrc := (rc_some hp).1
    have hp := (rc_some hp).2
    refine w_ci (cells' := 0) (slots' := 0) X (fun _ _ e => run_V (As := [.int 6]) (c0 := 5) C X mX5_refuse miX5_refuse lX5_50 (by decide) rfl hrc (ct_X5_refuse l K p0 6 h1 e) (by decide) (by decide) rfl (by decide) rfl hl.1 dX5_fills_16) (by decide) hp (fun v20 h6 H locs X hp => ?_)
    exact w_reti C X hr hlk (by decide) dX5_fills_19 hp

abbrev rmX5_run : Room := { frames := 4, cells := 0, slots := 0, locals := 91 }
def P_X5_run (p0 : Nat) (a1 : Int32) (h0 : Hp) : Option (Int32 × Hp) :=
    gr h0 p0 5 1 fun q1 =>
    rc h0 q1 0 <| ci (P_X0_hasDoor q1 a1 h0) fun v1 h1 =>
    if v1 = 0 then (
    rc h1 p0 5 <| ci (P_X5_refuse p0 1 h1) fun v7 h6 =>
    some (v7, h6))
    else (
    gr h1 p0 5 1 fun q2 =>
    rc h1 q2 0 <| ci (P_X0_unknown q2 h1) fun v2 h2 =>
    if v2 ≤ 0 then (
    gr h2 p0 5 1 fun q3 =>
    gr h2 p0 5 1 fun q4 =>
    gi h2 q4 0 7 fun v3 =>
    rc h2 q3 0 <| ci (P_X0_behindLog q3 v3 h2) fun v4 h3 =>
    ci (P_X5_wayOf v4 a1 h3) fun v5 h4 =>
    some (v5, h4))
    else (
    rc h2 p0 5 <| ci (P_X5_refuse p0 3 h2) fun v6 h5 =>
    some (v6, h5)))

set_option maxHeartbeats 4000000 in
set_option maxRecDepth 100000 in
theorem ct_X5_run (l : Launch) (K : Kt) (p0 : Nat) (a1 : Int32) (h0 : Hp) {r : Int32} {h' : Hp} (hp : P_X5_run p0 a1 h0 = some (r, h')) : CT l K yX5_run cX5_run 2 (some FieldType.int) rmX5_run [.ref (K.1 + p0), .int a1] h0 (Qi K r h') := by
  refine ct_of (own := RX5) (by decide +kernel) rfl (Nat.le_of_ble_eq_true rfl) ?_
  intro p e s m args below meth c C X hr hlk hm ls hl
  have hl : lv_has ls 2 [(0, .ref (K.1 + p0)), (1, .int a1)] := hl
  unfold P_X5_run at hp
  refine lv_aload_n C.1 C.2.1 dX5_run_0 rfl (lv_at hl 0 rfl) ?_
  refine w_gr C X fX5_19 rfl dX5_run_1 hp (fun q1 hp => ?_)
  refine lv_iload_n C.1 C.2.1 dX5_run_4 rfl (lv_at hl 1 rfl) ?_
  have hrc := (rc_some hp).1
  have hp := (rc_some hp).2
  refine w_ci (cells' := 0) (slots' := 0) X (fun _ _ e => run_VN (As := [.int a1]) (c0 := 0) C X mX0_hasDoor miX0_hasDoor lX5_89 (by decide) rfl hrc (ct_X0_hasDoor l K q1 a1 h0 e) (by decide) (by decide) rfl (by decide) rfl hl.1 dX5_run_5) (by decide) hp (fun v1 h1 H locs X hp => ?_)
  refine lv_if_ne (tgt := 17) C.1 C.2.1 dX5_run_8 (by decide) (fun c1 => ?_) (fun c1 => ?_)
  · have hp := if_n _ c1 hp
    refine lv_aload_n C.1 C.2.1 dX5_run_17 rfl (lv_at hl 0 rfl) ?_
    refine w_gr C X fX5_19 rfl dX5_run_18 hp (fun q2 hp => ?_)
    have hrc := (rc_some hp).1
    have hp := (rc_some hp).2
    refine w_ci (cells' := 0) (slots' := 0) X (fun _ _ e => run_VN (As := []) (c0 := 0) C X mX0_unknown miX0_unknown lX5_233 (by decide) rfl hrc (ct_X0_unknown l K q2 h1 e) (by decide) (by decide) rfl (by decide) rfl hl.1 dX5_run_21) (by decide) hp (fun v2 h2 H locs X hp => ?_)
    refine lv_if_le (tgt := 33) C.1 C.2.1 dX5_run_24 (by decide) (fun c2 => ?_) (fun c2 => ?_)
    · have hp := if_p _ c2 hp
      refine lv_aload_n C.1 C.2.1 dX5_run_33 rfl (lv_at hl 0 rfl) ?_
      refine w_gr C X fX5_19 rfl dX5_run_34 hp (fun q3 hp => ?_)
      refine lv_aload_n C.1 C.2.1 dX5_run_37 rfl (lv_at hl 0 rfl) ?_
      refine w_gr C X fX5_19 rfl dX5_run_38 hp (fun q4 hp => ?_)
      refine w_gi C X fX5_93 rfl dX5_run_41 hp (fun v3 hp => ?_)
      have hrc := (rc_some hp).1
      have hp := (rc_some hp).2
      refine w_ci (cells' := 0) (slots' := 0) X (fun _ _ e => run_VN (As := [.int v3]) (c0 := 0) C X mX0_behindLog miX0_behindLog lX5_236 (by decide) rfl hrc (ct_X0_behindLog l K q3 v3 h2 e) (by decide) (by decide) rfl (by decide) rfl hl.1 dX5_run_44) (by decide) hp (fun v4 h3 H locs X hp => ?_)
      refine lv_iload_n C.1 C.2.1 dX5_run_47 rfl (lv_at hl 1 rfl) ?_
      refine w_ci (cells' := 0) (slots' := 0) X (fun _ _ e => run_S (As := [.int v4, .int a1]) C X mX5_wayOf msX5_wayOf lX5_96 (ct_X5_wayOf l K v4 a1 h3 e) (by decide) (by decide) rfl (by decide) rfl hl.1 dX5_run_48) (by decide) hp (fun v5 h4 H locs X hp => ?_)
      exact w_reti C X hr hlk (by decide) dX5_run_51 hp
    · have hp := if_n _ c2 hp
      refine lv_aload_n C.1 C.2.1 dX5_run_27 rfl (lv_at hl 0 rfl) ?_
      refine lv_iconst (v := 3) C.1 C.2.1 dX5_run_28 (by decide) ?_
      have hrc := (rc_some hp).1
      have hp := (rc_some hp).2
      refine w_ci (cells' := 0) (slots' := 0) X (fun _ _ e => run_V (As := [.int 3]) (c0 := 5) C X mX5_refuse miX5_refuse lX5_50 (by decide) rfl hrc (ct_X5_refuse l K p0 3 h2 e) (by decide) (by decide) rfl (by decide) rfl hl.1 dX5_run_29) (by decide) hp (fun v6 h5 H locs X hp => ?_)
      exact w_reti C X hr hlk (by decide) dX5_run_32 hp
  · have hp := if_p _ c1 hp
    refine lv_aload_n C.1 C.2.1 dX5_run_11 rfl (lv_at hl 0 rfl) ?_
    refine lv_iconst (v := 1) C.1 C.2.1 dX5_run_12 (by decide) ?_
    have hrc := (rc_some hp).1
    have hp := (rc_some hp).2
    refine w_ci (cells' := 0) (slots' := 0) X (fun _ _ e => run_V (As := [.int 1]) (c0 := 5) C X mX5_refuse miX5_refuse lX5_50 (by decide) rfl hrc (ct_X5_refuse l K p0 1 h1 e) (by decide) (by decide) rfl (by decide) rfl hl.1 dX5_run_13) (by decide) hp (fun v7 h6 H locs X hp => ?_)
    exact w_reti C X hr hlk (by decide) dX5_run_16 hp

abbrev rmX5_notAtZero : Room := { frames := 0, cells := 0, slots := 0, locals := 0 }
def P_X5_notAtZero (a0 : Int32) (h0 : Hp) : Option (Int32 × Hp) :=
    some (((a0 ||| (jshr a0 12)) &&& 4095), h0)

set_option maxHeartbeats 4000000 in
set_option maxRecDepth 100000 in
theorem ct_X5_notAtZero (l : Launch) (K : Kt) (a0 : Int32) (h0 : Hp) {r : Int32} {h' : Hp} (hp : P_X5_notAtZero a0 h0 = some (r, h')) : CT l K yX5_notAtZero cX5_notAtZero 1 (some FieldType.int) rmX5_notAtZero [.int a0] h0 (Qi K r h') := by
  refine ct_of (own := RX5) (by decide +kernel) rfl (Nat.le_of_ble_eq_true rfl) ?_
  intro p e s m args below meth c C X hr hlk hm ls hl
  have hl : lv_has ls 1 [(0, .int a0)] := hl
  unfold P_X5_notAtZero at hp
  refine lv_iload_n C.1 C.2.1 dX5_notAtZero_0 rfl (lv_at hl 0 rfl) ?_
  refine lv_iload_n C.1 C.2.1 dX5_notAtZero_1 rfl (lv_at hl 0 rfl) ?_
  refine lv_bipush (v := 12) C.1 C.2.1 dX5_notAtZero_2 (by decide) ?_
  refine w_shr C dX5_notAtZero_4 ?_
  refine lv_ior C.1 C.2.1 dX5_notAtZero_5 ?_
  refine lv_sipush (v := 4095) C.1 C.2.1 dX5_notAtZero_6 (by decide) ?_
  refine lv_iand C.1 C.2.1 dX5_notAtZero_9 ?_
  exact w_reti C X hr hlk (by decide) dX5_notAtZero_10 hp

abbrev rmX5_judge : Room := { frames := 3, cells := 0, slots := 0, locals := 68 }
def P_X5_judge_L26 : Nat → Nat → Int32 → Int32 → Hp → Option (Int32 × Hp)
  | 0, _, _, _, _ => none
  | n + 1, q3, v5, v6, h2 =>
    gr h2 q3 5 1 fun q4 =>
    gi h2 q4 0 10 fun v7 =>
    if v7 ≤ v6 then (
    some ((-9), h2))
    else (
    gr h2 q3 5 1 fun q5 =>
    gr h2 q3 5 1 fun q6 =>
    rc h2 q6 0 <| ci (P_X0_loggedAt q6 v6 h2) fun v8 h3 =>
    rc h3 q5 0 <| ci (P_X0_turnsOf q5 v8 h3) fun v9 h4 =>
    gr h4 q3 5 1 fun q7 =>
    gi h4 q7 0 1 fun v10 =>
    ci (P_X5_turned v5 v9 v10 h4) fun v11 h5 =>
    lt (v11 : Int32) fun v12 =>
    ci (P_X5_notAtZero v5 h5) fun v13 h6 =>
    ci (P_X5_notAtZero v12 h6) fun v14 h7 =>
    if (v13 &&& (v14 ^^^ (-1))) = 0 then (
    lt (v12 : Int32) fun v15 =>
    lt ((v6 + 1) : Int32) fun v16 =>
    P_X5_judge_L26 n q3 v15 v16 h7)
    else (
    some (v6, h7)))

def P_X5_judge (p0 : Nat) (h0 : Hp) : Option (Int32 × Hp) :=
    gr h0 p0 5 1 fun q1 =>
    rc h0 q1 0 <| ci (P_X0_unknown q1 h0) fun v1 h1 =>
    if v1 ≤ 0 then (
    gr h1 p0 5 1 fun q2 =>
    gi h1 q2 0 7 fun v2 =>
    lt (v2 : Int32) fun v3 =>
    lt (0 : Int32) fun v4 =>
    P_X5_judge_L26 FU p0 v3 v4 h1)
    else (
    rc h1 p0 5 <| ci (P_X5_refuse p0 3 h1) fun v17 h8 =>
    some (v17, h8))

set_option maxHeartbeats 4000000 in
set_option maxRecDepth 100000 in
theorem wl_X5_judge_L26 (C : CX K p m c cX5_judge 4 s args RX5) (hr : meth.sig.returnType = (some FieldType.int)) (hlk : meth.locks = false) {r : Int32} {h' : Hp} : ∀ (n : Nat) (q3 : Nat) (v5 : Int32) (v6 : Int32) (h2 : Hp) (H : Heap) (locs : List Loc) (ls : Array Slot), HX K s.heap H locs h2 → lv_has ls 4 [(0, .ref (K.1 + q3)), (1, .int v5), (2, .int v6)] → P_X5_judge_L26 n q3 v5 v6 h2 = some (r, h') → W p l e rmX5_judge s m args below meth c H locs 0 0 (MQ below (Qi K r h') args s rmX5_judge.cells rmX5_judge.slots (KA K)) (F0 m 26 ls []) := by
  intro n
  induction n with
  | zero =>
    intro  q3 v5 v6 h2 H locs ls X hl hp
    cases hp
  | succ n ih =>
    intro  q3 v5 v6 h2 H locs ls X hl hp
    unfold P_X5_judge_L26 at hp
    refine lv_iload_n C.1 C.2.1 dX5_judge_26 rfl (lv_at hl 2 rfl) ?_
    refine lv_aload_n C.1 C.2.1 dX5_judge_27 rfl (lv_at hl 0 rfl) ?_
    refine w_gr C X fX5_19 rfl dX5_judge_28 hp (fun q4 hp => ?_)
    refine w_gi C X fX5_224 rfl dX5_judge_31 hp (fun v7 hp => ?_)
    refine lv_icmp_ge (tgt := 88) C.1 C.2.1 dX5_judge_34 (by decide) (fun c2 => ?_) (fun c2 => ?_)
    · have hp := if_p _ c2 hp
      refine lv_bipush (v := -9) C.1 C.2.1 dX5_judge_88 (by decide) ?_
      exact w_reti C X hr hlk (by decide) dX5_judge_90 hp
    · have hp := if_n _ c2 hp
      refine lv_iload_n C.1 C.2.1 dX5_judge_37 rfl (lv_at hl 1 rfl) ?_
      refine lv_aload_n C.1 C.2.1 dX5_judge_38 rfl (lv_at hl 0 rfl) ?_
      refine w_gr C X fX5_19 rfl dX5_judge_39 hp (fun q5 hp => ?_)
      refine lv_aload_n C.1 C.2.1 dX5_judge_42 rfl (lv_at hl 0 rfl) ?_
      refine w_gr C X fX5_19 rfl dX5_judge_43 hp (fun q6 hp => ?_)
      refine lv_iload_n C.1 C.2.1 dX5_judge_46 rfl (lv_at hl 2 rfl) ?_
      have hrc := (rc_some hp).1
      have hp := (rc_some hp).2
      refine w_ci (cells' := 0) (slots' := 0) X (fun _ _ e => run_VN (As := [.int v6]) (c0 := 0) C X mX0_loggedAt miX0_loggedAt lX5_230 (by decide) rfl hrc (ct_X0_loggedAt l K q6 v6 h2 e) (by decide) (by decide) rfl (Nat.le_of_ble_eq_true rfl) rfl hl.1 dX5_judge_47) (by decide) hp (fun v8 h3 H locs X hp => ?_)
      have hrc := (rc_some hp).1
      have hp := (rc_some hp).2
      refine w_ci (cells' := 0) (slots' := 0) X (fun _ _ e => run_VN (As := [.int v8]) (c0 := 0) C X mX0_turnsOf miX0_turnsOf lX5_124 (by decide) rfl hrc (ct_X0_turnsOf l K q5 v8 h3 e) (by decide) (by decide) rfl (Nat.le_of_ble_eq_true rfl) rfl hl.1 dX5_judge_50) (by decide) hp (fun v9 h4 H locs X hp => ?_)
      refine lv_aload_n C.1 C.2.1 dX5_judge_53 rfl (lv_at hl 0 rfl) ?_
      refine w_gr C X fX5_19 rfl dX5_judge_54 hp (fun q7 hp => ?_)
      refine w_gi C X fX5_133 rfl dX5_judge_57 hp (fun v10 hp => ?_)
      refine w_ci (cells' := 0) (slots' := 0) X (fun _ _ e => run_S (As := [.int v5, .int v9, .int v10]) C X mX5_turned msX5_turned lX5_136 (ct_X5_turned l K v5 v9 v10 h4 e) (by decide) (by decide) rfl (by decide) rfl hl.1 dX5_judge_60) (by decide) hp (fun v11 h5 H locs X hp => ?_)
      refine w_istn C (fun v => [(3, .int (v)), (0, .ref (K.1 + q3)), (1, .int v5), (2, .int v6)]) dX5_judge_63 rfl hl (by decide) (fun _ => rfl) hp (fun v12 ls hl hp => ?_)
      refine lv_iload_n C.1 C.2.1 dX5_judge_64 rfl (lv_at hl 2 rfl) ?_
      refine w_ci (cells' := 0) (slots' := 0) X (fun _ _ e => run_S (As := [.int v5]) C X mX5_notAtZero msX5_notAtZero lX5_242 (ct_X5_notAtZero l K v5 h5 e) (by decide) (by decide) rfl (by decide) rfl hl.1 dX5_judge_65) (by decide) hp (fun v13 h6 H locs X hp => ?_)
      refine lv_iload_n C.1 C.2.1 dX5_judge_68 rfl (lv_at hl 0 rfl) ?_
      refine w_ci (cells' := 0) (slots' := 0) X (fun _ _ e => run_S (As := [.int v12]) C X mX5_notAtZero msX5_notAtZero lX5_242 (ct_X5_notAtZero l K v12 h6 e) (by decide) (by decide) rfl (Nat.le_of_ble_eq_true rfl) rfl hl.1 dX5_judge_69) (by decide) hp (fun v14 h7 H locs X hp => ?_)
      refine lv_iconst (v := -1) C.1 C.2.1 dX5_judge_72 (by decide) ?_
      refine lv_ixor C.1 C.2.1 dX5_judge_73 ?_
      refine lv_iand C.1 C.2.1 dX5_judge_74 ?_
      refine lv_if_eq (tgt := 80) C.1 C.2.1 dX5_judge_75 (by decide) (fun c3 => ?_) (fun c3 => ?_)
      · have hp := if_p _ c3 hp
        refine lv_iload_n C.1 C.2.1 dX5_judge_80 rfl (lv_at hl 0 rfl) ?_
        refine w_istn C (fun v => [(1, .int (v)), (3, .int v12), (0, .ref (K.1 + q3)), (2, .int v6)]) dX5_judge_81 rfl hl (by decide) (fun _ => rfl) hp (fun v15 ls hl hp => ?_)
        refine w_inc (k := 3) C (fun v => [(2, .int (v)), (1, .int v15), (3, .int v12), (0, .ref (K.1 + q3))]) dX5_judge_82 hl rfl (y := (v6 + 1)) rfl (by decide) (fun _ => rfl) hp (fun v16 ls hl hp => ?_)
        refine lv_goto (tgt := 26) C.1 C.2.1 dX5_judge_85 (by decide) ?_
        exact ih _ _ _ _ _ _ _ X (lv_sub hl [3, 1, 0] rfl) hp
      · have hp := if_n _ c3 hp
        refine lv_iload_n C.1 C.2.1 dX5_judge_78 rfl (lv_at hl 3 rfl) ?_
        exact w_reti C X hr hlk (by decide) dX5_judge_79 hp

set_option maxHeartbeats 4000000 in
set_option maxRecDepth 100000 in
theorem ct_X5_judge (l : Launch) (K : Kt) (p0 : Nat) (h0 : Hp) {r : Int32} {h' : Hp} (hp : P_X5_judge p0 h0 = some (r, h')) : CT l K yX5_judge cX5_judge 4 (some FieldType.int) rmX5_judge [.ref (K.1 + p0)] h0 (Qi K r h') := by
  refine ct_of (own := RX5) (by decide +kernel) rfl (Nat.le_of_ble_eq_true rfl) ?_
  intro p e s m args below meth c C X hr hlk hm ls hl
  have hl : lv_has ls 4 [(0, .ref (K.1 + p0))] := hl
  unfold P_X5_judge at hp
  refine lv_aload_n C.1 C.2.1 dX5_judge_0 rfl (lv_at hl 0 rfl) ?_
  refine w_gr C X fX5_19 rfl dX5_judge_1 hp (fun q1 hp => ?_)
  have hrc := (rc_some hp).1
  have hp := (rc_some hp).2
  refine w_ci (cells' := 0) (slots' := 0) X (fun _ _ e => run_VN (As := []) (c0 := 0) C X mX0_unknown miX0_unknown lX5_233 (by decide) rfl hrc (ct_X0_unknown l K q1 h0 e) (by decide) (by decide) rfl (by decide) rfl hl.1 dX5_judge_4) (by decide) hp (fun v1 h1 H locs X hp => ?_)
  refine lv_if_le (tgt := 16) C.1 C.2.1 dX5_judge_7 (by decide) (fun c1 => ?_) (fun c1 => ?_)
  · have hp := if_p _ c1 hp
    refine lv_aload_n C.1 C.2.1 dX5_judge_16 rfl (lv_at hl 0 rfl) ?_
    refine w_gr C X fX5_19 rfl dX5_judge_17 hp (fun q2 hp => ?_)
    refine w_gi C X fX5_93 rfl dX5_judge_20 hp (fun v2 hp => ?_)
    refine w_istn C (fun v => [(1, .int (v)), (0, .ref (K.1 + p0))]) dX5_judge_23 rfl hl (by decide) (fun _ => rfl) hp (fun v3 ls hl hp => ?_)
    refine lv_iconst (v := 0) C.1 C.2.1 dX5_judge_24 (by decide) ?_
    refine w_istn C (fun v => [(2, .int (v)), (1, .int v3), (0, .ref (K.1 + p0))]) dX5_judge_25 rfl hl (by decide) (fun _ => rfl) hp (fun v4 ls hl hp => ?_)
    exact wl_X5_judge_L26 C hr hlk _ _ _ _ _ _ _ _ X (lv_sub hl [2, 1, 0] rfl) hp
  · have hp := if_n _ c1 hp
    refine lv_aload_n C.1 C.2.1 dX5_judge_10 rfl (lv_at hl 0 rfl) ?_
    refine lv_iconst (v := 3) C.1 C.2.1 dX5_judge_11 (by decide) ?_
    have hrc := (rc_some hp).1
    have hp := (rc_some hp).2
    refine w_ci (cells' := 0) (slots' := 0) X (fun _ _ e => run_V (As := [.int 3]) (c0 := 5) C X mX5_refuse miX5_refuse lX5_50 (by decide) rfl hrc (ct_X5_refuse l K p0 3 h1 e) (by decide) (by decide) rfl (by decide) rfl hl.1 dX5_judge_12) (by decide) hp (fun v17 h8 H locs X hp => ?_)
    exact w_reti C X hr hlk (by decide) dX5_judge_15 hp

abbrev rmX5_clear : Room := { frames := 0, cells := 0, slots := 0, locals := 0 }
def P_X5_clear (p0 : Nat) (h0 : Hp) : Option (Int32 × Hp) :=
    gr h0 p0 5 1 fun q1 =>
    gi h0 q1 0 10 fun v1 =>
    lt (v1 : Int32) fun v2 =>
    gr h0 p0 5 1 fun q2 =>
    pi h0 q2 0 10 0 fun h1 =>
    some (v2, h1)

set_option maxHeartbeats 4000000 in
set_option maxRecDepth 100000 in
theorem ct_X5_clear (l : Launch) (K : Kt) (p0 : Nat) (h0 : Hp) {r : Int32} {h' : Hp} (hp : P_X5_clear p0 h0 = some (r, h')) : CT l K yX5_clear cX5_clear 2 (some FieldType.int) rmX5_clear [.ref (K.1 + p0)] h0 (Qi K r h') := by
  refine ct_of (own := RX5) (by decide +kernel) rfl (Nat.le_of_ble_eq_true rfl) ?_
  intro p e s m args below meth c C X hr hlk hm ls hl
  have hl : lv_has ls 2 [(0, .ref (K.1 + p0))] := hl
  unfold P_X5_clear at hp
  refine lv_aload_n C.1 C.2.1 dX5_clear_0 rfl (lv_at hl 0 rfl) ?_
  refine w_gr C X fX5_19 rfl dX5_clear_1 hp (fun q1 hp => ?_)
  refine w_gi C X fX5_224 rfl dX5_clear_4 hp (fun v1 hp => ?_)
  refine w_istn C (fun v => [(1, .int (v)), (0, .ref (K.1 + p0))]) dX5_clear_7 rfl hl (by decide) (fun _ => rfl) hp (fun v2 ls hl hp => ?_)
  refine lv_aload_n C.1 C.2.1 dX5_clear_8 rfl (lv_at hl 1 rfl) ?_
  refine w_gr C X fX5_19 rfl dX5_clear_9 hp (fun q2 hp => ?_)
  refine lv_iconst (v := 0) C.1 C.2.1 dX5_clear_12 (by decide) ?_
  refine w_pi C X fX5_224 rfl rfl rfl rfl dX5_clear_13 hp (fun H locs h1 X hp => ?_)
  refine lv_iload_n C.1 C.2.1 dX5_clear_16 rfl (lv_at hl 0 rfl) ?_
  exact w_reti C X hr hlk (by decide) dX5_clear_17 hp

abbrev rmX5_match : Room := { frames := 4, cells := 0, slots := 0, locals := 91 }
def P_X5_match (p0 : Nat) (h0 : Hp) : Option (Int32 × Hp) :=
    gr h0 p0 5 4 fun q1 =>
    gr h0 p0 5 1 fun q2 =>
    gr h0 p0 5 1 fun q3 =>
    gi h0 q3 0 7 fun v1 =>
    rc h0 q1 4 <| cv (P_X4_lead q1 q2 v1 h0) fun h1 =>
    gr h1 p0 5 5 fun q4 =>
    gr h1 p0 5 1 fun q5 =>
    gr h1 p0 5 4 fun q6 =>
    rc h1 q4 1 <| ci (P_X1_judged q4 q5 q6 h1) fun v2 h2 =>
    some (v2, h2)

set_option maxHeartbeats 4000000 in
set_option maxRecDepth 100000 in
theorem ct_X5_match (l : Launch) (K : Kt) (p0 : Nat) (h0 : Hp) {r : Int32} {h' : Hp} (hp : P_X5_match p0 h0 = some (r, h')) : CT l K yX5_match cX5_match 1 (some FieldType.int) rmX5_match [.ref (K.1 + p0)] h0 (Qi K r h') := by
  refine ct_of (own := RX5) (by decide +kernel) rfl (Nat.le_of_ble_eq_true rfl) ?_
  intro p e s m args below meth c C X hr hlk hm ls hl
  have hl : lv_has ls 1 [(0, .ref (K.1 + p0))] := hl
  unfold P_X5_match at hp
  refine lv_aload_n C.1 C.2.1 dX5_match_0 rfl (lv_at hl 0 rfl) ?_
  refine w_gr C X fX5_32 rfl dX5_match_1 hp (fun q1 hp => ?_)
  refine lv_aload_n C.1 C.2.1 dX5_match_4 rfl (lv_at hl 0 rfl) ?_
  refine w_gr C X fX5_19 rfl dX5_match_5 hp (fun q2 hp => ?_)
  refine lv_aload_n C.1 C.2.1 dX5_match_8 rfl (lv_at hl 0 rfl) ?_
  refine w_gr C X fX5_19 rfl dX5_match_9 hp (fun q3 hp => ?_)
  refine w_gi C X fX5_93 rfl dX5_match_12 hp (fun v1 hp => ?_)
  have hrc := (rc_some hp).1
  have hp := (rc_some hp).2
  refine w_cv (cells' := 0) (slots' := 0) X (fun _ e => run_VN (As := [.ref (K.1 + q2), .int v1]) (c0 := 4) C X mX4_lead miX4_lead lX5_176 (by decide) rfl hrc (ct_X4_lead l K q1 q2 v1 h0 e) (by decide) (by decide) rfl (by decide) rfl hl.1 dX5_match_15) (by decide) hp (fun h1 H locs X hp => ?_)
  refine lv_aload_n C.1 C.2.1 dX5_match_18 rfl (lv_at hl 0 rfl) ?_
  refine w_gr C X fX5_39 rfl dX5_match_19 hp (fun q4 hp => ?_)
  refine lv_aload_n C.1 C.2.1 dX5_match_22 rfl (lv_at hl 0 rfl) ?_
  refine w_gr C X fX5_19 rfl dX5_match_23 hp (fun q5 hp => ?_)
  refine lv_aload_n C.1 C.2.1 dX5_match_26 rfl (lv_at hl 0 rfl) ?_
  refine w_gr C X fX5_32 rfl dX5_match_27 hp (fun q6 hp => ?_)
  have hrc := (rc_some hp).1
  have hp := (rc_some hp).2
  refine w_ci (cells' := 0) (slots' := 0) X (fun _ _ e => run_VN (As := [.ref (K.1 + q5), .ref (K.1 + q6)]) (c0 := 1) C X mX1_judged miX1_judged lX5_245 (by decide) rfl hrc (ct_X1_judged l K q4 q5 q6 h1 e) (by decide) (by decide) rfl (by decide) rfl hl.1 dX5_match_30) (by decide) hp (fun v2 h2 H locs X hp => ?_)
  exact w_reti C X hr hlk (by decide) dX5_match_33 hp

abbrev rmX5_seeds : Room := { frames := 4, cells := 0, slots := 0, locals := 85 }
def P_X5_seeds_L54 : Nat → Nat → Int32 → Int32 → Int32 → Int32 → Hp → Option (Int32 × Hp)
  | 0, _, _, _, _, _, _ => none
  | n + 1, q3, v6, v7, v8, v9, h1 =>
    if v6 ≤ v9 then (
    gr h1 q3 5 1 fun q4 =>
    rc h1 q4 0 <| ci (P_X0_stateOf q4 v7 h1) fun v10 h2 =>
    some (v10, h2))
    else (
    lt (((v8 * 1664525) + 1013904223) : Int32) fun v11 =>
    gr h1 q3 5 1 fun q5 =>
    gi h1 q5 0 2 fun v12 =>
    ci (P_X5_remainder ((v11 &&& 2147483647) / 256) v12 h1) fun v13 h3 =>
    lt (v13 : Int32) fun v14 =>
    gr h3 q3 5 1 fun q6 =>
    rc h3 q6 0 <| ci (P_X0_turnsOf q6 v14 h3) fun v15 h4 =>
    gr h4 q3 5 1 fun q7 =>
    gi h4 q7 0 1 fun v16 =>
    ci (P_X5_turned v7 v15 v16 h4) fun v17 h5 =>
    lt (v17 : Int32) fun v18 =>
    lt ((v9 + 1) : Int32) fun v19 =>
    P_X5_seeds_L54 n q3 v6 v18 v11 v19 h5)

def P_X5_seeds (p0 : Nat) (a1 : Int32) (a2 : Int32) (h0 : Hp) : Option (Int32 × Hp) :=
    if 0 ≤ a1 then (
    if a1 ≤ 99 then (
    gr h0 p0 5 1 fun q1 =>
    gi h0 q1 0 2 fun v1 =>
    if 1 ≤ v1 then (
    gr h0 p0 5 1 fun q2 =>
    gi h0 q2 0 7 fun v2 =>
    lt (v2 : Int32) fun v3 =>
    lt (a2 : Int32) fun v4 =>
    lt (0 : Int32) fun v5 =>
    P_X5_seeds_L54 FU p0 a1 v3 v4 v5 h0)
    else (
    rc h0 p0 5 <| ci (P_X5_refuse p0 3 h0) fun v20 h6 =>
    some (v20, h6)))
    else (
    rc h0 p0 5 <| ci (P_X5_refuse p0 6 h0) fun v21 h7 =>
    some (v21, h7)))
    else (
    rc h0 p0 5 <| ci (P_X5_refuse p0 4 h0) fun v22 h8 =>
    some (v22, h8))

set_option maxHeartbeats 4000000 in
set_option maxRecDepth 100000 in
theorem wl_X5_seeds_L54 (C : CX K p m c cX5_seeds 7 s args RX5) (hr : meth.sig.returnType = (some FieldType.int)) (hlk : meth.locks = false) {r : Int32} {h' : Hp} : ∀ (n : Nat) (q3 : Nat) (v6 : Int32) (v7 : Int32) (v8 : Int32) (v9 : Int32) (h1 : Hp) (H : Heap) (locs : List Loc) (ls : Array Slot), HX K s.heap H locs h1 → lv_has ls 7 [(0, .ref (K.1 + q3)), (1, .int v6), (3, .int v7), (4, .int v8), (5, .int v9)] → P_X5_seeds_L54 n q3 v6 v7 v8 v9 h1 = some (r, h') → W p l e rmX5_seeds s m args below meth c H locs 0 0 (MQ below (Qi K r h') args s rmX5_seeds.cells rmX5_seeds.slots (KA K)) (F0 m 54 ls []) := by
  intro n
  induction n with
  | zero =>
    intro  q3 v6 v7 v8 v9 h1 H locs ls X hl hp
    cases hp
  | succ n ih =>
    intro  q3 v6 v7 v8 v9 h1 H locs ls X hl hp
    unfold P_X5_seeds_L54 at hp
    refine lv_iload C.1 C.2.1 dX5_seeds_54 (lv_at hl 4 rfl) ?_
    refine lv_iload_n C.1 C.2.1 dX5_seeds_56 rfl (lv_at hl 1 rfl) ?_
    refine lv_icmp_ge (tgt := 118) C.1 C.2.1 dX5_seeds_57 (by decide) (fun c4 => ?_) (fun c4 => ?_)
    · have hp := if_p _ c4 hp
      refine lv_aload_n C.1 C.2.1 dX5_seeds_118 rfl (lv_at hl 0 rfl) ?_
      refine w_gr C X fX5_19 rfl dX5_seeds_119 hp (fun q4 hp => ?_)
      refine lv_iload_n C.1 C.2.1 dX5_seeds_122 rfl (lv_at hl 2 rfl) ?_
      have hrc := (rc_some hp).1
      have hp := (rc_some hp).2
      refine w_ci (cells' := 0) (slots' := 0) X (fun _ _ e => run_VN (As := [.int v7]) (c0 := 0) C X mX0_stateOf miX0_stateOf lX5_140 (by decide) rfl hrc (ct_X0_stateOf l K q4 v7 h1 e) (by decide) (by decide) rfl (by decide) rfl hl.1 dX5_seeds_123) (by decide) hp (fun v10 h2 H locs X hp => ?_)
      exact w_reti C X hr hlk (by decide) dX5_seeds_126 hp
    · have hp := if_n _ c4 hp
      refine lv_iload C.1 C.2.1 dX5_seeds_60 (lv_at hl 3 rfl) ?_
      refine lv_ldc C.1 C.2.1 C.2.2.2.1 (C.2.2.2.2.1 _ kX5_249) dX5_seeds_62 ?_
      refine lv_imul C.1 C.2.1 dX5_seeds_64 ?_
      refine lv_ldc C.1 C.2.1 C.2.2.2.1 (C.2.2.2.2.1 _ kX5_250) dX5_seeds_65 ?_
      refine lv_iadd C.1 C.2.1 dX5_seeds_67 ?_
      refine w_ist C (fun v => [(4, .int (v)), (0, .ref (K.1 + q3)), (1, .int v6), (3, .int v7), (5, .int v9)]) dX5_seeds_68 hl (by decide) (fun _ => rfl) hp (fun v11 ls hl hp => ?_)
      refine lv_iload C.1 C.2.1 dX5_seeds_70 (lv_at hl 0 rfl) ?_
      refine lv_ldc C.1 C.2.1 C.2.2.2.1 (C.2.2.2.2.1 _ kX5_251) dX5_seeds_72 ?_
      refine lv_iand C.1 C.2.1 dX5_seeds_74 ?_
      refine lv_sipush (v := 256) C.1 C.2.1 dX5_seeds_75 (by decide) ?_
      refine lv_idiv C.1 C.2.1 dX5_seeds_78 (by decide) ?_
      refine lv_aload_n C.1 C.2.1 dX5_seeds_79 rfl (lv_at hl 1 rfl) ?_
      refine w_gr C X fX5_19 rfl dX5_seeds_80 hp (fun q5 hp => ?_)
      refine w_gi C X fX5_202 rfl dX5_seeds_83 hp (fun v12 hp => ?_)
      refine w_ci (cells' := 0) (slots' := 0) X (fun _ _ e => run_S (As := [.int ((v11 &&& 2147483647) / 256), .int v12]) C X mX5_remainder msX5_remainder lX5_162 (ct_X5_remainder l K ((v11 &&& 2147483647) / 256) v12 h1 e) (by decide) (by decide) rfl (by decide) rfl hl.1 dX5_seeds_86) (by decide) hp (fun v13 h3 H locs X hp => ?_)
      refine w_ist C (fun v => [(6, .int (v)), (4, .int v11), (0, .ref (K.1 + q3)), (1, .int v6), (3, .int v7), (5, .int v9)]) dX5_seeds_89 hl (by decide) (fun _ => rfl) hp (fun v14 ls hl hp => ?_)
      refine lv_iload_n C.1 C.2.1 dX5_seeds_91 rfl (lv_at hl 4 rfl) ?_
      refine lv_aload_n C.1 C.2.1 dX5_seeds_92 rfl (lv_at hl 2 rfl) ?_
      refine w_gr C X fX5_19 rfl dX5_seeds_93 hp (fun q6 hp => ?_)
      refine lv_iload C.1 C.2.1 dX5_seeds_96 (lv_at hl 0 rfl) ?_
      have hrc := (rc_some hp).1
      have hp := (rc_some hp).2
      refine w_ci (cells' := 0) (slots' := 0) X (fun _ _ e => run_VN (As := [.int v14]) (c0 := 0) C X mX0_turnsOf miX0_turnsOf lX5_124 (by decide) rfl hrc (ct_X0_turnsOf l K q6 v14 h3 e) (by decide) (by decide) rfl (Nat.le_of_ble_eq_true rfl) rfl hl.1 dX5_seeds_98) (by decide) hp (fun v15 h4 H locs X hp => ?_)
      refine lv_aload_n C.1 C.2.1 dX5_seeds_101 rfl (lv_at hl 2 rfl) ?_
      refine w_gr C X fX5_19 rfl dX5_seeds_102 hp (fun q7 hp => ?_)
      refine w_gi C X fX5_133 rfl dX5_seeds_105 hp (fun v16 hp => ?_)
      refine w_ci (cells' := 0) (slots' := 0) X (fun _ _ e => run_S (As := [.int v7, .int v15, .int v16]) C X mX5_turned msX5_turned lX5_136 (ct_X5_turned l K v7 v15 v16 h4 e) (by decide) (by decide) rfl (by decide) rfl hl.1 dX5_seeds_108) (by decide) hp (fun v17 h5 H locs X hp => ?_)
      refine w_istn C (fun v => [(3, .int (v)), (6, .int v14), (4, .int v11), (0, .ref (K.1 + q3)), (1, .int v6), (5, .int v9)]) dX5_seeds_111 rfl hl (by decide) (fun _ => rfl) hp (fun v18 ls hl hp => ?_)
      refine w_inc (k := 5) C (fun v => [(5, .int (v)), (3, .int v18), (6, .int v14), (4, .int v11), (0, .ref (K.1 + q3)), (1, .int v6)]) dX5_seeds_112 hl rfl (y := (v9 + 1)) rfl (by decide) (fun _ => rfl) hp (fun v19 ls hl hp => ?_)
      refine lv_goto (tgt := 54) C.1 C.2.1 dX5_seeds_115 (by decide) ?_
      exact ih _ _ _ _ _ _ _ _ _ X (lv_sub hl [4, 5, 1, 3, 0] rfl) hp

set_option maxHeartbeats 4000000 in
set_option maxRecDepth 100000 in
theorem ct_X5_seeds (l : Launch) (K : Kt) (p0 : Nat) (a1 : Int32) (a2 : Int32) (h0 : Hp) {r : Int32} {h' : Hp} (hp : P_X5_seeds p0 a1 a2 h0 = some (r, h')) : CT l K yX5_seeds cX5_seeds 7 (some FieldType.int) rmX5_seeds [.ref (K.1 + p0), .int a1, .int a2] h0 (Qi K r h') := by
  refine ct_of (own := RX5) (by decide +kernel) rfl (Nat.le_of_ble_eq_true rfl) ?_
  intro p e s m args below meth c C X hr hlk hm ls hl
  have hl : lv_has ls 7 [(0, .ref (K.1 + p0)), (1, .int a1), (2, .int a2)] := hl
  unfold P_X5_seeds at hp
  refine lv_iload_n C.1 C.2.1 dX5_seeds_0 rfl (lv_at hl 1 rfl) ?_
  refine lv_if_ge (tgt := 10) C.1 C.2.1 dX5_seeds_1 (by decide) (fun c1 => ?_) (fun c1 => ?_)
  · have hp := if_p _ c1 hp
    refine lv_iload_n C.1 C.2.1 dX5_seeds_10 rfl (lv_at hl 1 rfl) ?_
    refine lv_bipush (v := 99) C.1 C.2.1 dX5_seeds_11 (by decide) ?_
    refine lv_icmp_le (tgt := 23) C.1 C.2.1 dX5_seeds_13 (by decide) (fun c2 => ?_) (fun c2 => ?_)
    · have hp := if_p _ c2 hp
      refine lv_aload_n C.1 C.2.1 dX5_seeds_23 rfl (lv_at hl 0 rfl) ?_
      refine w_gr C X fX5_19 rfl dX5_seeds_24 hp (fun q1 hp => ?_)
      refine w_gi C X fX5_202 rfl dX5_seeds_27 hp (fun v1 hp => ?_)
      refine lv_iconst (v := 1) C.1 C.2.1 dX5_seeds_30 (by decide) ?_
      refine lv_icmp_ge (tgt := 40) C.1 C.2.1 dX5_seeds_31 (by decide) (fun c3 => ?_) (fun c3 => ?_)
      · have hp := if_p _ c3 hp
        refine lv_aload_n C.1 C.2.1 dX5_seeds_40 rfl (lv_at hl 0 rfl) ?_
        refine w_gr C X fX5_19 rfl dX5_seeds_41 hp (fun q2 hp => ?_)
        refine w_gi C X fX5_93 rfl dX5_seeds_44 hp (fun v2 hp => ?_)
        refine w_istn C (fun v => [(3, .int (v)), (0, .ref (K.1 + p0)), (1, .int a1), (2, .int a2)]) dX5_seeds_47 rfl hl (by decide) (fun _ => rfl) hp (fun v3 ls hl hp => ?_)
        refine lv_iload_n C.1 C.2.1 dX5_seeds_48 rfl (lv_at hl 3 rfl) ?_
        refine w_ist C (fun v => [(4, .int (v)), (3, .int v3), (0, .ref (K.1 + p0)), (1, .int a1), (2, .int a2)]) dX5_seeds_49 hl (by decide) (fun _ => rfl) hp (fun v4 ls hl hp => ?_)
        refine lv_iconst (v := 0) C.1 C.2.1 dX5_seeds_51 (by decide) ?_
        refine w_ist C (fun v => [(5, .int (v)), (4, .int v4), (3, .int v3), (0, .ref (K.1 + p0)), (1, .int a1), (2, .int a2)]) dX5_seeds_52 hl (by decide) (fun _ => rfl) hp (fun v5 ls hl hp => ?_)
        exact wl_X5_seeds_L54 C hr hlk _ _ _ _ _ _ _ _ _ _ X (lv_sub hl [3, 4, 2, 1, 0] rfl) hp
      · have hp := if_n _ c3 hp
        refine lv_aload_n C.1 C.2.1 dX5_seeds_34 rfl (lv_at hl 0 rfl) ?_
        refine lv_iconst (v := 3) C.1 C.2.1 dX5_seeds_35 (by decide) ?_
        have hrc := (rc_some hp).1
        have hp := (rc_some hp).2
        refine w_ci (cells' := 0) (slots' := 0) X (fun _ _ e => run_V (As := [.int 3]) (c0 := 5) C X mX5_refuse miX5_refuse lX5_50 (by decide) rfl hrc (ct_X5_refuse l K p0 3 h0 e) (by decide) (by decide) rfl (by decide) rfl hl.1 dX5_seeds_36) (by decide) hp (fun v20 h6 H locs X hp => ?_)
        exact w_reti C X hr hlk (by decide) dX5_seeds_39 hp
    · have hp := if_n _ c2 hp
      refine lv_aload_n C.1 C.2.1 dX5_seeds_16 rfl (lv_at hl 0 rfl) ?_
      refine lv_bipush (v := 6) C.1 C.2.1 dX5_seeds_17 (by decide) ?_
      have hrc := (rc_some hp).1
      have hp := (rc_some hp).2
      refine w_ci (cells' := 0) (slots' := 0) X (fun _ _ e => run_V (As := [.int 6]) (c0 := 5) C X mX5_refuse miX5_refuse lX5_50 (by decide) rfl hrc (ct_X5_refuse l K p0 6 h0 e) (by decide) (by decide) rfl (by decide) rfl hl.1 dX5_seeds_19) (by decide) hp (fun v21 h7 H locs X hp => ?_)
      exact w_reti C X hr hlk (by decide) dX5_seeds_22 hp
  · have hp := if_n _ c1 hp
    refine lv_aload_n C.1 C.2.1 dX5_seeds_4 rfl (lv_at hl 0 rfl) ?_
    refine lv_iconst (v := 4) C.1 C.2.1 dX5_seeds_5 (by decide) ?_
    have hrc := (rc_some hp).1
    have hp := (rc_some hp).2
    refine w_ci (cells' := 0) (slots' := 0) X (fun _ _ e => run_V (As := [.int 4]) (c0 := 5) C X mX5_refuse miX5_refuse lX5_50 (by decide) rfl hrc (ct_X5_refuse l K p0 4 h0 e) (by decide) (by decide) rfl (by decide) rfl hl.1 dX5_seeds_6) (by decide) hp (fun v22 h8 H locs X hp => ?_)
    exact w_reti C X hr hlk (by decide) dX5_seeds_9 hp

abbrev rmX5_image : Room := { frames := 1, cells := 0, slots := 0, locals := 22 }
def P_X5_image (p0 : Nat) (h0 : Hp) : Option (Int32 × Hp) :=
    gr h0 p0 5 3 fun q1 =>
    gr h0 p0 5 1 fun q2 =>
    rc h0 q1 0 <| cv (P_X0_become q1 q2 h0) fun h1 =>
    pi h1 p0 5 8 1 fun h2 =>
    gr h2 p0 5 3 fun q3 =>
    gi h2 q3 0 2 fun v1 =>
    some (v1, h2)

set_option maxHeartbeats 4000000 in
set_option maxRecDepth 100000 in
theorem ct_X5_image (l : Launch) (K : Kt) (p0 : Nat) (h0 : Hp) {r : Int32} {h' : Hp} (hp : P_X5_image p0 h0 = some (r, h')) : CT l K yX5_image cX5_image 1 (some FieldType.int) rmX5_image [.ref (K.1 + p0)] h0 (Qi K r h') := by
  refine ct_of (own := RX5) (by decide +kernel) rfl (Nat.le_of_ble_eq_true rfl) ?_
  intro p e s m args below meth c C X hr hlk hm ls hl
  have hl : lv_has ls 1 [(0, .ref (K.1 + p0))] := hl
  unfold P_X5_image at hp
  refine lv_aload_n C.1 C.2.1 dX5_image_0 rfl (lv_at hl 0 rfl) ?_
  refine w_gr C X fX5_26 rfl dX5_image_1 hp (fun q1 hp => ?_)
  refine lv_aload_n C.1 C.2.1 dX5_image_4 rfl (lv_at hl 0 rfl) ?_
  refine w_gr C X fX5_19 rfl dX5_image_5 hp (fun q2 hp => ?_)
  have hrc := (rc_some hp).1
  have hp := (rc_some hp).2
  refine w_cv (cells' := 0) (slots' := 0) X (fun _ e => run_VN (As := [.ref (K.1 + q2)]) (c0 := 0) C X mX0_become miX0_become lX5_71 (by decide) rfl hrc (ct_X0_become l K q1 q2 h0 e) (by decide) (by decide) rfl (by decide) rfl hl.1 dX5_image_8) (by decide) hp (fun h1 H locs X hp => ?_)
  refine lv_aload_n C.1 C.2.1 dX5_image_11 rfl (lv_at hl 0 rfl) ?_
  refine lv_iconst (v := 1) C.1 C.2.1 dX5_image_12 (by decide) ?_
  refine w_pi C X fX5_252 rfl rfl rfl rfl dX5_image_13 hp (fun H locs h2 X hp => ?_)
  refine lv_aload_n C.1 C.2.1 dX5_image_16 rfl (lv_at hl 0 rfl) ?_
  refine w_gr C X fX5_26 rfl dX5_image_17 hp (fun q3 hp => ?_)
  refine w_gi C X fX5_202 rfl dX5_image_20 hp (fun v1 hp => ?_)
  exact w_reti C X hr hlk (by decide) dX5_image_23 hp

abbrev rmX5_on : Room := { frames := 1, cells := 0, slots := 0, locals := 22 }
def P_X5_on (p0 : Nat) (h0 : Hp) : Option (Int32 × Hp) :=
    gi h0 p0 5 8 fun v1 =>
    if v1 = 0 then (
    rc h0 p0 5 <| ci (P_X5_refuse p0 3 h0) fun v3 h2 =>
    some (v3, h2))
    else (
    gr h0 p0 5 1 fun q1 =>
    gr h0 p0 5 3 fun q2 =>
    rc h0 q1 0 <| cv (P_X0_become q1 q2 h0) fun h1 =>
    gr h1 p0 5 1 fun q3 =>
    gi h1 q3 0 2 fun v2 =>
    some (v2, h1))

set_option maxHeartbeats 4000000 in
set_option maxRecDepth 100000 in
theorem ct_X5_on (l : Launch) (K : Kt) (p0 : Nat) (h0 : Hp) {r : Int32} {h' : Hp} (hp : P_X5_on p0 h0 = some (r, h')) : CT l K yX5_on cX5_on 1 (some FieldType.int) rmX5_on [.ref (K.1 + p0)] h0 (Qi K r h') := by
  refine ct_of (own := RX5) (by decide +kernel) rfl (Nat.le_of_ble_eq_true rfl) ?_
  intro p e s m args below meth c C X hr hlk hm ls hl
  have hl : lv_has ls 1 [(0, .ref (K.1 + p0))] := hl
  unfold P_X5_on at hp
  refine lv_aload_n C.1 C.2.1 dX5_on_0 rfl (lv_at hl 0 rfl) ?_
  refine w_gi C X fX5_252 rfl dX5_on_1 hp (fun v1 hp => ?_)
  refine lv_if_ne (tgt := 13) C.1 C.2.1 dX5_on_4 (by decide) (fun c1 => ?_) (fun c1 => ?_)
  · have hp := if_n _ c1 hp
    refine lv_aload_n C.1 C.2.1 dX5_on_13 rfl (lv_at hl 0 rfl) ?_
    refine w_gr C X fX5_19 rfl dX5_on_14 hp (fun q1 hp => ?_)
    refine lv_aload_n C.1 C.2.1 dX5_on_17 rfl (lv_at hl 0 rfl) ?_
    refine w_gr C X fX5_26 rfl dX5_on_18 hp (fun q2 hp => ?_)
    have hrc := (rc_some hp).1
    have hp := (rc_some hp).2
    refine w_cv (cells' := 0) (slots' := 0) X (fun _ e => run_VN (As := [.ref (K.1 + q2)]) (c0 := 0) C X mX0_become miX0_become lX5_71 (by decide) rfl hrc (ct_X0_become l K q1 q2 h0 e) (by decide) (by decide) rfl (by decide) rfl hl.1 dX5_on_21) (by decide) hp (fun h1 H locs X hp => ?_)
    refine lv_aload_n C.1 C.2.1 dX5_on_24 rfl (lv_at hl 0 rfl) ?_
    refine w_gr C X fX5_19 rfl dX5_on_25 hp (fun q3 hp => ?_)
    refine w_gi C X fX5_202 rfl dX5_on_28 hp (fun v2 hp => ?_)
    exact w_reti C X hr hlk (by decide) dX5_on_31 hp
  · have hp := if_p _ c1 hp
    refine lv_aload_n C.1 C.2.1 dX5_on_7 rfl (lv_at hl 0 rfl) ?_
    refine lv_iconst (v := 3) C.1 C.2.1 dX5_on_8 (by decide) ?_
    have hrc := (rc_some hp).1
    have hp := (rc_some hp).2
    refine w_ci (cells' := 0) (slots' := 0) X (fun _ _ e => run_V (As := [.int 3]) (c0 := 5) C X mX5_refuse miX5_refuse lX5_50 (by decide) rfl hrc (ct_X5_refuse l K p0 3 h0 e) (by decide) (by decide) rfl (by decide) rfl hl.1 dX5_on_9) (by decide) hp (fun v3 h2 H locs X hp => ?_)
    exact w_reti C X hr hlk (by decide) dX5_on_12 hp

end
