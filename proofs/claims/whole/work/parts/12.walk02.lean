noncomputable section
variable {p : Program} {l : Launch} {e : Env} {s : State} {m : MethodId} {args : Array Value} {below : List Frame} {meth : Method} {c : Code} {K : Kt}
abbrev rmX4_lead : Room := { frames := 3, cells := 0, slots := 0, locals := 68 }
def P_X4_lead_L35 : Nat → Nat → Nat → Int32 → Hp → Option (Hp)
  | 0, _, _, _, _ => none
  | n + 1, q2, q3, v5, h5 =>
    if v5 < 0 then (
    some h5)
    else (
    gr h5 q2 4 1 fun q4 =>
    ln h5 q4 fun v6 =>
    if v6 ≤ v5 then (
    lt ((v5 + (-1)) : Int32) fun v7 =>
    P_X4_lead_L35 n q2 q3 v7 h5)
    else (
    gr h5 q2 4 1 fun q5 =>
    gi h5 q2 4 3 fun v8 =>
    as h5 q5 v5 v8 fun h6 =>
    rc h6 q3 0 <| ci (P_X0_turnsOf q3 v5 h6) fun v9 h7 =>
    rc h7 q2 4 <| cv (P_X4_goOnceMore q2 v9 h7) fun h8 =>
    lt ((v5 + (-1)) : Int32) fun v10 =>
    P_X4_lead_L35 n q2 q3 v10 h8))

def P_X4_lead (p0 : Nat) (p1 : Nat) (a2 : Int32) (h0 : Hp) : Option (Hp) :=
    gi h0 p1 0 2 fun v1 =>
    pi h0 p0 4 4 v1 fun h1 =>
    gi h1 p1 0 1 fun v2 =>
    pi h1 p0 4 5 v2 fun h2 =>
    gr h2 p0 4 0 fun q1 =>
    as h2 q1 0 a2 fun h3 =>
    pi h3 p0 4 3 1 fun h4 =>
    gi h4 p0 4 4 fun v3 =>
    lt ((v3 - 1) : Int32) fun v4 =>
    P_X4_lead_L35 FU p0 p1 v4 h4

set_option maxHeartbeats 4000000 in
set_option maxRecDepth 100000 in
theorem wl_X4_lead_L35 (C : CX K p m c cX4_lead 4 s args RX4) (hr : meth.sig.returnType = none) (hlk : meth.locks = false) {h' : Hp} : ∀ (n : Nat) (q2 : Nat) (q3 : Nat) (v5 : Int32) (h5 : Hp) (H : Heap) (locs : List Loc) (ls : Array Slot), HX K s.heap H locs h5 → lv_has ls 4 [(0, .ref (K.1 + q2)), (1, .ref (K.1 + q3)), (3, .int v5)] → P_X4_lead_L35 n q2 q3 v5 h5 = some h' → W p l e rmX4_lead s m args below meth c H locs 0 0 (MQ below (Qv K h') args s rmX4_lead.cells rmX4_lead.slots (KA K)) (F0 m 35 ls []) := by
  intro n
  induction n with
  | zero =>
    intro  q2 q3 v5 h5 H locs ls X hl hp
    cases hp
  | succ n ih =>
    intro  q2 q3 v5 h5 H locs ls X hl hp
    unfold P_X4_lead_L35 at hp
    refine lv_iload_n C.1 C.2.1 dX4_lead_35 rfl (lv_at hl 2 rfl) ?_
    refine lv_if_lt (tgt := 73) C.1 C.2.1 dX4_lead_36 (by decide) (fun c1 => ?_) (fun c1 => ?_)
    · have hp := if_p _ c1 hp
      exact w_retv C X hr hlk (by decide) dX4_lead_73 hp
    · have hp := if_n _ c1 hp
      refine lv_iload_n C.1 C.2.1 dX4_lead_39 rfl (lv_at hl 2 rfl) ?_
      refine lv_aload_n C.1 C.2.1 dX4_lead_40 rfl (lv_at hl 0 rfl) ?_
      refine w_gr C X fX4_15 rfl dX4_lead_41 hp (fun q4 hp => ?_)
      refine w_ln C X dX4_lead_44 hp (fun v6 hp => ?_)
      refine lv_icmp_ge (tgt := 67) C.1 C.2.1 dX4_lead_45 (by decide) (fun c2 => ?_) (fun c2 => ?_)
      · have hp := if_p _ c2 hp
        refine w_inc (k := 2) C (fun v => [(3, .int (v)), (0, .ref (K.1 + q2)), (1, .ref (K.1 + q3))]) dX4_lead_67 hl rfl (y := (v5 + (-1))) rfl (by decide) (fun _ => rfl) hp (fun v7 ls hl hp => ?_)
        refine lv_goto (tgt := 35) C.1 C.2.1 dX4_lead_70 (by decide) ?_
        exact ih _ _ _ _ _ _ _ X (lv_sub hl [1, 2, 0] rfl) hp
      · have hp := if_n _ c2 hp
        refine lv_aload_n C.1 C.2.1 dX4_lead_48 rfl (lv_at hl 0 rfl) ?_
        refine w_gr C X fX4_15 rfl dX4_lead_49 hp (fun q5 hp => ?_)
        refine lv_iload_n C.1 C.2.1 dX4_lead_52 rfl (lv_at hl 2 rfl) ?_
        refine lv_aload_n C.1 C.2.1 dX4_lead_53 rfl (lv_at hl 0 rfl) ?_
        refine w_gi C X fX4_32 rfl dX4_lead_54 hp (fun v8 hp => ?_)
        refine w_as C X dX4_lead_57 hp (fun H locs h6 X hp => ?_)
        refine lv_aload_n C.1 C.2.1 dX4_lead_58 rfl (lv_at hl 0 rfl) ?_
        refine lv_aload_n C.1 C.2.1 dX4_lead_59 rfl (lv_at hl 1 rfl) ?_
        refine lv_iload_n C.1 C.2.1 dX4_lead_60 rfl (lv_at hl 2 rfl) ?_
        have hrc := (rc_some hp).1
        have hp := (rc_some hp).2
        refine w_ci (cells' := 0) (slots' := 0) X (fun _ _ e => run_VN (As := [.int v5]) (c0 := 0) C X mX0_turnsOf miX0_turnsOf lX4_35 (by decide) rfl hrc (ct_X0_turnsOf l K q3 v5 h6 e) (by decide) (by decide) rfl (Nat.le_of_ble_eq_true rfl) rfl hl.1 dX4_lead_61) (by decide) hp (fun v9 h7 H locs X hp => ?_)
        have hrc := (rc_some hp).1
        have hp := (rc_some hp).2
        refine w_cv (cells' := 0) (slots' := 0) X (fun _ e => run_V (As := [.int v9]) (c0 := 4) C X mX4_goOnceMore miX4_goOnceMore lX4_39 (by decide) rfl hrc (ct_X4_goOnceMore l K q2 v9 h7 e) (by decide) (by decide) rfl (by decide) rfl hl.1 dX4_lead_64) (by decide) hp (fun h8 H locs X hp => ?_)
        refine w_inc (k := 2) C (fun v => [(3, .int (v)), (0, .ref (K.1 + q2)), (1, .ref (K.1 + q3))]) dX4_lead_67 hl rfl (y := (v5 + (-1))) rfl (by decide) (fun _ => rfl) hp (fun v10 ls hl hp => ?_)
        refine lv_goto (tgt := 35) C.1 C.2.1 dX4_lead_70 (by decide) ?_
        exact ih _ _ _ _ _ _ _ X (lv_sub hl [1, 2, 0] rfl) hp

set_option maxHeartbeats 4000000 in
set_option maxRecDepth 100000 in
theorem ct_X4_lead (l : Launch) (K : Kt) (p0 : Nat) (p1 : Nat) (a2 : Int32) (h0 : Hp) {h' : Hp} (hp : P_X4_lead p0 p1 a2 h0 = some h') : CT l K yX4_lead cX4_lead 4 none rmX4_lead [.ref (K.1 + p0), .ref (K.1 + p1), .int a2] h0 (Qv K h') := by
  refine ct_of (own := RX4) (by decide +kernel) rfl (Nat.le_of_ble_eq_true rfl) ?_
  intro p e s m args below meth c C X hr hlk hm ls hl
  have hl : lv_has ls 4 [(0, .ref (K.1 + p0)), (1, .ref (K.1 + p1)), (2, .int a2)] := hl
  unfold P_X4_lead at hp
  refine lv_aload_n C.1 C.2.1 dX4_lead_0 rfl (lv_at hl 0 rfl) ?_
  refine lv_aload_n C.1 C.2.1 dX4_lead_1 rfl (lv_at hl 1 rfl) ?_
  refine w_gi C X fX4_21 rfl dX4_lead_2 hp (fun v1 hp => ?_)
  refine w_pi C X fX4_27 rfl rfl rfl rfl dX4_lead_5 hp (fun H locs h1 X hp => ?_)
  refine lv_aload_n C.1 C.2.1 dX4_lead_8 rfl (lv_at hl 0 rfl) ?_
  refine lv_aload_n C.1 C.2.1 dX4_lead_9 rfl (lv_at hl 1 rfl) ?_
  refine w_gi C X fX4_28 rfl dX4_lead_10 hp (fun v2 hp => ?_)
  refine w_pi C X fX4_31 rfl rfl rfl rfl dX4_lead_13 hp (fun H locs h2 X hp => ?_)
  refine lv_aload_n C.1 C.2.1 dX4_lead_16 rfl (lv_at hl 0 rfl) ?_
  refine w_gr C X fX4_9 rfl dX4_lead_17 hp (fun q1 hp => ?_)
  refine lv_iconst (v := 0) C.1 C.2.1 dX4_lead_20 (by decide) ?_
  refine lv_iload_n C.1 C.2.1 dX4_lead_21 rfl (lv_at hl 2 rfl) ?_
  refine w_as C X dX4_lead_22 hp (fun H locs h3 X hp => ?_)
  refine lv_aload_n C.1 C.2.1 dX4_lead_23 rfl (lv_at hl 0 rfl) ?_
  refine lv_iconst (v := 1) C.1 C.2.1 dX4_lead_24 (by decide) ?_
  refine w_pi C X fX4_32 rfl rfl rfl rfl dX4_lead_25 hp (fun H locs h4 X hp => ?_)
  refine lv_aload_n C.1 C.2.1 dX4_lead_28 rfl (lv_at hl 0 rfl) ?_
  refine w_gi C X fX4_27 rfl dX4_lead_29 hp (fun v3 hp => ?_)
  refine lv_iconst (v := 1) C.1 C.2.1 dX4_lead_32 (by decide) ?_
  refine lv_isub C.1 C.2.1 dX4_lead_33 ?_
  refine w_istn C (fun v => [(3, .int (v)), (0, .ref (K.1 + p0)), (1, .ref (K.1 + p1)), (2, .int a2)]) dX4_lead_34 rfl hl (by decide) (fun _ => rfl) hp (fun v4 ls hl hp => ?_)
  exact wl_X4_lead_L35 C hr hlk _ _ _ _ _ _ _ _ X (lv_sub hl [1, 2, 0] rfl) hp

abbrev rmX4_endingAt : Room := { frames := 1, cells := 0, slots := 0, locals := 21 }
def P_X4_endingAt_L4 : Nat → Nat → Int32 → Int32 → Int32 → Hp → Option (Int32 × Hp)
  | 0, _, _, _, _, _ => none
  | n + 1, q1, v3, v4, v5, h1 =>
    gi h1 q1 4 3 fun v6 =>
    if v6 ≤ v5 then (
    some (v4, h1))
    else (
    rc h1 q1 4 <| ci (P_X4_endOf q1 v5 h1) fun v7 h2 =>
    if v7 = v3 then (
    lt ((v4 + 1) : Int32) fun v9 =>
    lt ((v5 + 1) : Int32) fun v10 =>
    P_X4_endingAt_L4 n q1 v3 v9 v10 h2)
    else (
    lt ((v5 + 1) : Int32) fun v8 =>
    P_X4_endingAt_L4 n q1 v3 v4 v8 h2))

def P_X4_endingAt (p0 : Nat) (a1 : Int32) (h0 : Hp) : Option (Int32 × Hp) :=
    lt (0 : Int32) fun v1 =>
    lt (0 : Int32) fun v2 =>
    P_X4_endingAt_L4 FU p0 a1 v1 v2 h0

set_option maxHeartbeats 4000000 in
set_option maxRecDepth 100000 in
theorem wl_X4_endingAt_L4 (C : CX K p m c cX4_endingAt 4 s args RX4) (hr : meth.sig.returnType = (some FieldType.int)) (hlk : meth.locks = false) {r : Int32} {h' : Hp} : ∀ (n : Nat) (q1 : Nat) (v3 : Int32) (v4 : Int32) (v5 : Int32) (h1 : Hp) (H : Heap) (locs : List Loc) (ls : Array Slot), HX K s.heap H locs h1 → lv_has ls 4 [(0, .ref (K.1 + q1)), (1, .int v3), (2, .int v4), (3, .int v5)] → P_X4_endingAt_L4 n q1 v3 v4 v5 h1 = some (r, h') → W p l e rmX4_endingAt s m args below meth c H locs 0 0 (MQ below (Qi K r h') args s rmX4_endingAt.cells rmX4_endingAt.slots (KA K)) (F0 m 4 ls []) := by
  intro n
  induction n with
  | zero =>
    intro  q1 v3 v4 v5 h1 H locs ls X hl hp
    cases hp
  | succ n ih =>
    intro  q1 v3 v4 v5 h1 H locs ls X hl hp
    unfold P_X4_endingAt_L4 at hp
    refine lv_iload_n C.1 C.2.1 dX4_endingAt_4 rfl (lv_at hl 3 rfl) ?_
    refine lv_aload_n C.1 C.2.1 dX4_endingAt_5 rfl (lv_at hl 0 rfl) ?_
    refine w_gi C X fX4_32 rfl dX4_endingAt_6 hp (fun v6 hp => ?_)
    refine lv_icmp_ge (tgt := 30) C.1 C.2.1 dX4_endingAt_9 (by decide) (fun c1 => ?_) (fun c1 => ?_)
    · have hp := if_p _ c1 hp
      refine lv_iload_n C.1 C.2.1 dX4_endingAt_30 rfl (lv_at hl 2 rfl) ?_
      exact w_reti C X hr hlk (by decide) dX4_endingAt_31 hp
    · have hp := if_n _ c1 hp
      refine lv_aload_n C.1 C.2.1 dX4_endingAt_12 rfl (lv_at hl 0 rfl) ?_
      refine lv_iload_n C.1 C.2.1 dX4_endingAt_13 rfl (lv_at hl 3 rfl) ?_
      have hrc := (rc_some hp).1
      have hp := (rc_some hp).2
      refine w_ci (cells' := 0) (slots' := 0) X (fun _ _ e => run_V (As := [.int v5]) (c0 := 4) C X mX4_endOf miX4_endOf lX4_47 (by decide) rfl hrc (ct_X4_endOf l K q1 v5 h1 e) (by decide) (by decide) rfl (by decide) rfl hl.1 dX4_endingAt_14) (by decide) hp (fun v7 h2 H locs X hp => ?_)
      refine lv_iload_n C.1 C.2.1 dX4_endingAt_17 rfl (lv_at hl 1 rfl) ?_
      refine lv_icmp_ne (tgt := 24) C.1 C.2.1 dX4_endingAt_18 (by decide) (fun c2 => ?_) (fun c2 => ?_)
      · have hp := if_n _ c2 hp
        refine w_inc (k := 3) C (fun v => [(3, .int (v)), (0, .ref (K.1 + q1)), (1, .int v3), (2, .int v4)]) dX4_endingAt_24 hl rfl (y := (v5 + 1)) rfl (by decide) (fun _ => rfl) hp (fun v8 ls hl hp => ?_)
        refine lv_goto (tgt := 4) C.1 C.2.1 dX4_endingAt_27 (by decide) ?_
        exact ih _ _ _ _ _ _ _ _ X (lv_sub hl [1, 2, 3, 0] rfl) hp
      · have hp := if_p _ c2 hp
        refine w_inc (k := 2) C (fun v => [(2, .int (v)), (0, .ref (K.1 + q1)), (1, .int v3), (3, .int v5)]) dX4_endingAt_21 hl rfl (y := (v4 + 1)) rfl (by decide) (fun _ => rfl) hp (fun v9 ls hl hp => ?_)
        refine w_inc (k := 3) C (fun v => [(3, .int (v)), (2, .int v9), (0, .ref (K.1 + q1)), (1, .int v3)]) dX4_endingAt_24 hl rfl (y := (v5 + 1)) rfl (by decide) (fun _ => rfl) hp (fun v10 ls hl hp => ?_)
        refine lv_goto (tgt := 4) C.1 C.2.1 dX4_endingAt_27 (by decide) ?_
        exact ih _ _ _ _ _ _ _ _ X (lv_sub hl [2, 3, 1, 0] rfl) hp

set_option maxHeartbeats 4000000 in
set_option maxRecDepth 100000 in
theorem ct_X4_endingAt (l : Launch) (K : Kt) (p0 : Nat) (a1 : Int32) (h0 : Hp) {r : Int32} {h' : Hp} (hp : P_X4_endingAt p0 a1 h0 = some (r, h')) : CT l K yX4_endingAt cX4_endingAt 4 (some FieldType.int) rmX4_endingAt [.ref (K.1 + p0), .int a1] h0 (Qi K r h') := by
  refine ct_of (own := RX4) (by decide +kernel) rfl (Nat.le_of_ble_eq_true rfl) ?_
  intro p e s m args below meth c C X hr hlk hm ls hl
  have hl : lv_has ls 4 [(0, .ref (K.1 + p0)), (1, .int a1)] := hl
  unfold P_X4_endingAt at hp
  refine lv_iconst (v := 0) C.1 C.2.1 dX4_endingAt_0 (by decide) ?_
  refine w_istn C (fun v => [(2, .int (v)), (0, .ref (K.1 + p0)), (1, .int a1)]) dX4_endingAt_1 rfl hl (by decide) (fun _ => rfl) hp (fun v1 ls hl hp => ?_)
  refine lv_iconst (v := 0) C.1 C.2.1 dX4_endingAt_2 (by decide) ?_
  refine w_istn C (fun v => [(3, .int (v)), (2, .int v1), (0, .ref (K.1 + p0)), (1, .int a1)]) dX4_endingAt_3 rfl hl (by decide) (fun _ => rfl) hp (fun v2 ls hl hp => ?_)
  exact wl_X4_endingAt_L4 C hr hlk _ _ _ _ _ _ _ _ _ X (lv_sub hl [2, 3, 1, 0] rfl) hp

abbrev rmX4_goingsIn : Room := { frames := 2, cells := 0, slots := 0, locals := 43 }
def P_X4_goingsIn_L4 : Nat → Nat → Int32 → Int32 → Int32 → Hp → Option (Int32 × Hp)
  | 0, _, _, _, _, _ => none
  | n + 1, q1, v3, v4, v5, h1 =>
    gi h1 q1 4 4 fun v6 =>
    if v6 ≤ v5 then (
    some (v4, h1))
    else (
    rc h1 q1 4 <| ci (P_X4_timesIn q1 v3 v5 h1) fun v7 h2 =>
    lt ((v4 + v7) : Int32) fun v8 =>
    lt ((v5 + 1) : Int32) fun v9 =>
    P_X4_goingsIn_L4 n q1 v3 v8 v9 h2)

def P_X4_goingsIn (p0 : Nat) (a1 : Int32) (h0 : Hp) : Option (Int32 × Hp) :=
    lt (0 : Int32) fun v1 =>
    lt (0 : Int32) fun v2 =>
    P_X4_goingsIn_L4 FU p0 a1 v1 v2 h0

set_option maxHeartbeats 4000000 in
set_option maxRecDepth 100000 in
theorem wl_X4_goingsIn_L4 (C : CX K p m c cX4_goingsIn 4 s args RX4) (hr : meth.sig.returnType = (some FieldType.int)) (hlk : meth.locks = false) {r : Int32} {h' : Hp} : ∀ (n : Nat) (q1 : Nat) (v3 : Int32) (v4 : Int32) (v5 : Int32) (h1 : Hp) (H : Heap) (locs : List Loc) (ls : Array Slot), HX K s.heap H locs h1 → lv_has ls 4 [(0, .ref (K.1 + q1)), (1, .int v3), (2, .int v4), (3, .int v5)] → P_X4_goingsIn_L4 n q1 v3 v4 v5 h1 = some (r, h') → W p l e rmX4_goingsIn s m args below meth c H locs 0 0 (MQ below (Qi K r h') args s rmX4_goingsIn.cells rmX4_goingsIn.slots (KA K)) (F0 m 4 ls []) := by
  intro n
  induction n with
  | zero =>
    intro  q1 v3 v4 v5 h1 H locs ls X hl hp
    cases hp
  | succ n ih =>
    intro  q1 v3 v4 v5 h1 H locs ls X hl hp
    unfold P_X4_goingsIn_L4 at hp
    refine lv_iload_n C.1 C.2.1 dX4_goingsIn_4 rfl (lv_at hl 3 rfl) ?_
    refine lv_aload_n C.1 C.2.1 dX4_goingsIn_5 rfl (lv_at hl 0 rfl) ?_
    refine w_gi C X fX4_27 rfl dX4_goingsIn_6 hp (fun v6 hp => ?_)
    refine lv_icmp_ge (tgt := 27) C.1 C.2.1 dX4_goingsIn_9 (by decide) (fun c1 => ?_) (fun c1 => ?_)
    · have hp := if_p _ c1 hp
      refine lv_iload_n C.1 C.2.1 dX4_goingsIn_27 rfl (lv_at hl 2 rfl) ?_
      exact w_reti C X hr hlk (by decide) dX4_goingsIn_28 hp
    · have hp := if_n _ c1 hp
      refine lv_iload_n C.1 C.2.1 dX4_goingsIn_12 rfl (lv_at hl 2 rfl) ?_
      refine lv_aload_n C.1 C.2.1 dX4_goingsIn_13 rfl (lv_at hl 0 rfl) ?_
      refine lv_iload_n C.1 C.2.1 dX4_goingsIn_14 rfl (lv_at hl 1 rfl) ?_
      refine lv_iload_n C.1 C.2.1 dX4_goingsIn_15 rfl (lv_at hl 3 rfl) ?_
      have hrc := (rc_some hp).1
      have hp := (rc_some hp).2
      refine w_ci (cells' := 0) (slots' := 0) X (fun _ _ e => run_V (As := [.int v3, .int v5]) (c0 := 4) C X mX4_timesIn miX4_timesIn lX4_60 (by decide) rfl hrc (ct_X4_timesIn l K q1 v3 v5 h1 e) (by decide) (by decide) rfl (Nat.le_of_ble_eq_true rfl) rfl hl.1 dX4_goingsIn_16) (by decide) hp (fun v7 h2 H locs X hp => ?_)
      refine lv_iadd C.1 C.2.1 dX4_goingsIn_19 ?_
      refine w_istn C (fun v => [(2, .int (v)), (0, .ref (K.1 + q1)), (1, .int v3), (3, .int v5)]) dX4_goingsIn_20 rfl hl (by decide) (fun _ => rfl) hp (fun v8 ls hl hp => ?_)
      refine w_inc (k := 3) C (fun v => [(3, .int (v)), (2, .int v8), (0, .ref (K.1 + q1)), (1, .int v3)]) dX4_goingsIn_21 hl rfl (y := (v5 + 1)) rfl (by decide) (fun _ => rfl) hp (fun v9 ls hl hp => ?_)
      refine lv_goto (tgt := 4) C.1 C.2.1 dX4_goingsIn_24 (by decide) ?_
      exact ih _ _ _ _ _ _ _ _ X (lv_sub hl [2, 3, 1, 0] rfl) hp

set_option maxHeartbeats 4000000 in
set_option maxRecDepth 100000 in
theorem ct_X4_goingsIn (l : Launch) (K : Kt) (p0 : Nat) (a1 : Int32) (h0 : Hp) {r : Int32} {h' : Hp} (hp : P_X4_goingsIn p0 a1 h0 = some (r, h')) : CT l K yX4_goingsIn cX4_goingsIn 4 (some FieldType.int) rmX4_goingsIn [.ref (K.1 + p0), .int a1] h0 (Qi K r h') := by
  refine ct_of (own := RX4) (by decide +kernel) rfl (Nat.le_of_ble_eq_true rfl) ?_
  intro p e s m args below meth c C X hr hlk hm ls hl
  have hl : lv_has ls 4 [(0, .ref (K.1 + p0)), (1, .int a1)] := hl
  unfold P_X4_goingsIn at hp
  refine lv_iconst (v := 0) C.1 C.2.1 dX4_goingsIn_0 (by decide) ?_
  refine w_istn C (fun v => [(2, .int (v)), (0, .ref (K.1 + p0)), (1, .int a1)]) dX4_goingsIn_1 rfl hl (by decide) (fun _ => rfl) hp (fun v1 ls hl hp => ?_)
  refine lv_iconst (v := 0) C.1 C.2.1 dX4_goingsIn_2 (by decide) ?_
  refine w_istn C (fun v => [(3, .int (v)), (2, .int v1), (0, .ref (K.1 + p0)), (1, .int a1)]) dX4_goingsIn_3 rfl hl (by decide) (fun _ => rfl) hp (fun v2 ls hl hp => ?_)
  exact wl_X4_goingsIn_L4 C hr hlk _ _ _ _ _ _ _ _ _ X (lv_sub hl [2, 3, 1, 0] rfl) hp

abbrev rmX4_costOf : Room := { frames := 2, cells := 0, slots := 0, locals := 43 }
def P_X4_costOf_L5 : Nat → Nat → Int32 → Nat → Int32 → Int32 → Hp → Option (Int32 × Hp)
  | 0, _, _, _, _, _, _ => none
  | n + 1, q1, v3, q2, v4, v5, h1 =>
    gi h1 q1 4 4 fun v6 =>
    if v6 ≤ v5 then (
    some (v4, h1))
    else (
    rc h1 q2 0 <| ci (P_X0_goerOf q2 v5 h1) fun o1 h2 =>
    nn o1 (
    lt ((v5 + 1) : Int32) fun v7 =>
    P_X4_costOf_L5 n q1 v3 q2 v4 v7 h2) fun q3 =>
    rc h2 q1 4 <| ci (P_X4_timesIn q1 v3 v5 h2) fun v8 h3 =>
    gi h3 q3 2 3 fun v9 =>
    lt ((v4 + (v8 * v9)) : Int32) fun v10 =>
    lt ((v5 + 1) : Int32) fun v11 =>
    P_X4_costOf_L5 n q1 v3 q2 v10 v11 h3)

def P_X4_costOf (p0 : Nat) (a1 : Int32) (p2 : Nat) (h0 : Hp) : Option (Int32 × Hp) :=
    lt (0 : Int32) fun v1 =>
    lt (0 : Int32) fun v2 =>
    P_X4_costOf_L5 FU p0 a1 p2 v1 v2 h0

set_option maxHeartbeats 4000000 in
set_option maxRecDepth 100000 in
theorem wl_X4_costOf_L5 (C : CX K p m c cX4_costOf 6 s args RX4) (hr : meth.sig.returnType = (some FieldType.int)) (hlk : meth.locks = false) {r : Int32} {h' : Hp} : ∀ (n : Nat) (q1 : Nat) (v3 : Int32) (q2 : Nat) (v4 : Int32) (v5 : Int32) (h1 : Hp) (H : Heap) (locs : List Loc) (ls : Array Slot), HX K s.heap H locs h1 → lv_has ls 6 [(0, .ref (K.1 + q1)), (1, .int v3), (2, .ref (K.1 + q2)), (3, .int v4), (4, .int v5)] → P_X4_costOf_L5 n q1 v3 q2 v4 v5 h1 = some (r, h') → W p l e rmX4_costOf s m args below meth c H locs 0 0 (MQ below (Qi K r h') args s rmX4_costOf.cells rmX4_costOf.slots (KA K)) (F0 m 5 ls []) := by
  intro n
  induction n with
  | zero =>
    intro  q1 v3 q2 v4 v5 h1 H locs ls X hl hp
    cases hp
  | succ n ih =>
    intro  q1 v3 q2 v4 v5 h1 H locs ls X hl hp
    unfold P_X4_costOf_L5 at hp
    refine lv_iload C.1 C.2.1 dX4_costOf_5 (lv_at hl 4 rfl) ?_
    refine lv_aload_n C.1 C.2.1 dX4_costOf_7 rfl (lv_at hl 0 rfl) ?_
    refine w_gi C X fX4_27 rfl dX4_costOf_8 hp (fun v6 hp => ?_)
    refine lv_icmp_ge (tgt := 49) C.1 C.2.1 dX4_costOf_11 (by decide) (fun c1 => ?_) (fun c1 => ?_)
    · have hp := if_p _ c1 hp
      refine lv_iload_n C.1 C.2.1 dX4_costOf_49 rfl (lv_at hl 3 rfl) ?_
      exact w_reti C X hr hlk (by decide) dX4_costOf_50 hp
    · have hp := if_n _ c1 hp
      refine lv_aload_n C.1 C.2.1 dX4_costOf_14 rfl (lv_at hl 2 rfl) ?_
      refine lv_iload C.1 C.2.1 dX4_costOf_15 (lv_at hl 4 rfl) ?_
      have hrc := (rc_some hp).1
      have hp := (rc_some hp).2
      refine w_cq (cells' := 0) (slots' := 0) X (fun _ _ e => run_VN (As := [.int v5]) (c0 := 0) C X mX0_goerOf miX0_goerOf lX4_63 (by decide) rfl hrc (ct_X0_goerOf l K q2 v5 h1 e) (by decide) (by decide) rfl (by decide) rfl hl.1 dX4_costOf_17) (by decide) hp (fun o1 h2 H locs X hp => ?_)
      refine w_nn hp (fun hp => ?_) (fun q3 hp => ?_)
      · skip
        refine lv_astoreN (lv' := [(5, .null), (0, .ref (K.1 + q1)), (1, .int v3), (2, .ref (K.1 + q2)), (3, .int v4), (4, .int v5)]) C.1 C.2.1 dX4_costOf_20 hl (by decide) rfl (fun ls hl => ?_)
        refine lv_aloadN C.1 C.2.1 dX4_costOf_22 (lv_at hl 0 rfl) ?_
        refine lv_ifnullN (tgt := 43) C.1 C.2.1 dX4_costOf_24 (by decide) ?_
        refine w_inc (k := 5) C (fun v => [(4, .int (v)), (5, .null), (0, .ref (K.1 + q1)), (1, .int v3), (2, .ref (K.1 + q2)), (3, .int v4)]) dX4_costOf_43 hl rfl (y := (v5 + 1)) rfl (by decide) (fun _ => rfl) hp (fun v7 ls hl hp => ?_)
        refine lv_goto (tgt := 5) C.1 C.2.1 dX4_costOf_46 (by decide) ?_
        exact ih _ _ _ _ _ _ _ _ _ X (lv_sub hl [2, 3, 4, 5, 0] rfl) hp
      · skip
        refine lv_astore (lv' := [(5, .ref (K.1 + q3)), (0, .ref (K.1 + q1)), (1, .int v3), (2, .ref (K.1 + q2)), (3, .int v4), (4, .int v5)]) C.1 C.2.1 dX4_costOf_20 hl (by decide) rfl (fun ls hl => ?_)
        refine lv_aload C.1 C.2.1 dX4_costOf_22 (lv_at hl 0 rfl) ?_
        refine lv_ifnull C.1 C.2.1 dX4_costOf_24 ?_
        refine lv_iload_n C.1 C.2.1 dX4_costOf_27 rfl (lv_at hl 4 rfl) ?_
        refine lv_aload_n C.1 C.2.1 dX4_costOf_28 rfl (lv_at hl 1 rfl) ?_
        refine lv_iload_n C.1 C.2.1 dX4_costOf_29 rfl (lv_at hl 2 rfl) ?_
        refine lv_iload C.1 C.2.1 dX4_costOf_30 (lv_at hl 5 rfl) ?_
        have hrc := (rc_some hp).1
        have hp := (rc_some hp).2
        refine w_ci (cells' := 0) (slots' := 0) X (fun _ _ e => run_V (As := [.int v3, .int v5]) (c0 := 4) C X mX4_timesIn miX4_timesIn lX4_60 (by decide) rfl hrc (ct_X4_timesIn l K q1 v3 v5 h2 e) (by decide) (by decide) rfl (Nat.le_of_ble_eq_true rfl) rfl hl.1 dX4_costOf_32) (by decide) hp (fun v8 h3 H locs X hp => ?_)
        refine lv_aload C.1 C.2.1 dX4_costOf_35 (lv_at hl 0 rfl) ?_
        refine w_gi C X fX4_67 rfl dX4_costOf_37 hp (fun v9 hp => ?_)
        refine lv_imul C.1 C.2.1 dX4_costOf_40 ?_
        refine lv_iadd C.1 C.2.1 dX4_costOf_41 ?_
        refine w_istn C (fun v => [(3, .int (v)), (5, .ref (K.1 + q3)), (0, .ref (K.1 + q1)), (1, .int v3), (2, .ref (K.1 + q2)), (4, .int v5)]) dX4_costOf_42 rfl hl (by decide) (fun _ => rfl) hp (fun v10 ls hl hp => ?_)
        refine w_inc (k := 5) C (fun v => [(4, .int (v)), (3, .int v10), (5, .ref (K.1 + q3)), (0, .ref (K.1 + q1)), (1, .int v3), (2, .ref (K.1 + q2))]) dX4_costOf_43 hl rfl (y := (v5 + 1)) rfl (by decide) (fun _ => rfl) hp (fun v11 ls hl hp => ?_)
        refine lv_goto (tgt := 5) C.1 C.2.1 dX4_costOf_46 (by decide) ?_
        exact ih _ _ _ _ _ _ _ _ _ X (lv_sub hl [3, 4, 5, 1, 0] rfl) hp

set_option maxHeartbeats 4000000 in
set_option maxRecDepth 100000 in
theorem ct_X4_costOf (l : Launch) (K : Kt) (p0 : Nat) (a1 : Int32) (p2 : Nat) (h0 : Hp) {r : Int32} {h' : Hp} (hp : P_X4_costOf p0 a1 p2 h0 = some (r, h')) : CT l K yX4_costOf cX4_costOf 6 (some FieldType.int) rmX4_costOf [.ref (K.1 + p0), .int a1, .ref (K.1 + p2)] h0 (Qi K r h') := by
  refine ct_of (own := RX4) (by decide +kernel) rfl (Nat.le_of_ble_eq_true rfl) ?_
  intro p e s m args below meth c C X hr hlk hm ls hl
  have hl : lv_has ls 6 [(0, .ref (K.1 + p0)), (1, .int a1), (2, .ref (K.1 + p2))] := hl
  unfold P_X4_costOf at hp
  refine lv_iconst (v := 0) C.1 C.2.1 dX4_costOf_0 (by decide) ?_
  refine w_istn C (fun v => [(3, .int (v)), (0, .ref (K.1 + p0)), (1, .int a1), (2, .ref (K.1 + p2))]) dX4_costOf_1 rfl hl (by decide) (fun _ => rfl) hp (fun v1 ls hl hp => ?_)
  refine lv_iconst (v := 0) C.1 C.2.1 dX4_costOf_2 (by decide) ?_
  refine w_ist C (fun v => [(4, .int (v)), (3, .int v1), (0, .ref (K.1 + p0)), (1, .int a1), (2, .ref (K.1 + p2))]) dX4_costOf_3 hl (by decide) (fun _ => rfl) hp (fun v2 ls hl hp => ?_)
  exact wl_X4_costOf_L5 C hr hlk _ _ _ _ _ _ _ _ _ _ X (lv_sub hl [2, 3, 4, 1, 0] rfl) hp

abbrev rmX4_goersIn : Room := { frames := 2, cells := 0, slots := 0, locals := 43 }
def P_X4_goersIn_L4 : Nat → Nat → Int32 → Int32 → Int32 → Hp → Option (Int32 × Hp)
  | 0, _, _, _, _, _ => none
  | n + 1, q1, v3, v4, v5, h1 =>
    gi h1 q1 4 4 fun v6 =>
    if v6 ≤ v5 then (
    some (v4, h1))
    else (
    rc h1 q1 4 <| ci (P_X4_timesIn q1 v3 v5 h1) fun v7 h2 =>
    if v7 ≤ 0 then (
    lt ((v5 + 1) : Int32) fun v8 =>
    P_X4_goersIn_L4 n q1 v3 v4 v8 h2)
    else (
    lt ((v4 ||| (jshl 1 v5)) : Int32) fun v9 =>
    lt ((v5 + 1) : Int32) fun v10 =>
    P_X4_goersIn_L4 n q1 v3 v9 v10 h2))

def P_X4_goersIn (p0 : Nat) (a1 : Int32) (h0 : Hp) : Option (Int32 × Hp) :=
    lt (0 : Int32) fun v1 =>
    lt (0 : Int32) fun v2 =>
    P_X4_goersIn_L4 FU p0 a1 v1 v2 h0

set_option maxHeartbeats 4000000 in
set_option maxRecDepth 100000 in
theorem wl_X4_goersIn_L4 (C : CX K p m c cX4_goersIn 4 s args RX4) (hr : meth.sig.returnType = (some FieldType.int)) (hlk : meth.locks = false) {r : Int32} {h' : Hp} : ∀ (n : Nat) (q1 : Nat) (v3 : Int32) (v4 : Int32) (v5 : Int32) (h1 : Hp) (H : Heap) (locs : List Loc) (ls : Array Slot), HX K s.heap H locs h1 → lv_has ls 4 [(0, .ref (K.1 + q1)), (1, .int v3), (2, .int v4), (3, .int v5)] → P_X4_goersIn_L4 n q1 v3 v4 v5 h1 = some (r, h') → W p l e rmX4_goersIn s m args below meth c H locs 0 0 (MQ below (Qi K r h') args s rmX4_goersIn.cells rmX4_goersIn.slots (KA K)) (F0 m 4 ls []) := by
  intro n
  induction n with
  | zero =>
    intro  q1 v3 v4 v5 h1 H locs ls X hl hp
    cases hp
  | succ n ih =>
    intro  q1 v3 v4 v5 h1 H locs ls X hl hp
    unfold P_X4_goersIn_L4 at hp
    refine lv_iload_n C.1 C.2.1 dX4_goersIn_4 rfl (lv_at hl 3 rfl) ?_
    refine lv_aload_n C.1 C.2.1 dX4_goersIn_5 rfl (lv_at hl 0 rfl) ?_
    refine w_gi C X fX4_27 rfl dX4_goersIn_6 hp (fun v6 hp => ?_)
    refine lv_icmp_ge (tgt := 33) C.1 C.2.1 dX4_goersIn_9 (by decide) (fun c1 => ?_) (fun c1 => ?_)
    · have hp := if_p _ c1 hp
      refine lv_iload_n C.1 C.2.1 dX4_goersIn_33 rfl (lv_at hl 2 rfl) ?_
      exact w_reti C X hr hlk (by decide) dX4_goersIn_34 hp
    · have hp := if_n _ c1 hp
      refine lv_aload_n C.1 C.2.1 dX4_goersIn_12 rfl (lv_at hl 0 rfl) ?_
      refine lv_iload_n C.1 C.2.1 dX4_goersIn_13 rfl (lv_at hl 1 rfl) ?_
      refine lv_iload_n C.1 C.2.1 dX4_goersIn_14 rfl (lv_at hl 3 rfl) ?_
      have hrc := (rc_some hp).1
      have hp := (rc_some hp).2
      refine w_ci (cells' := 0) (slots' := 0) X (fun _ _ e => run_V (As := [.int v3, .int v5]) (c0 := 4) C X mX4_timesIn miX4_timesIn lX4_60 (by decide) rfl hrc (ct_X4_timesIn l K q1 v3 v5 h1 e) (by decide) (by decide) rfl (by decide) rfl hl.1 dX4_goersIn_15) (by decide) hp (fun v7 h2 H locs X hp => ?_)
      refine lv_if_le (tgt := 27) C.1 C.2.1 dX4_goersIn_18 (by decide) (fun c2 => ?_) (fun c2 => ?_)
      · have hp := if_p _ c2 hp
        refine w_inc (k := 3) C (fun v => [(3, .int (v)), (0, .ref (K.1 + q1)), (1, .int v3), (2, .int v4)]) dX4_goersIn_27 hl rfl (y := (v5 + 1)) rfl (by decide) (fun _ => rfl) hp (fun v8 ls hl hp => ?_)
        refine lv_goto (tgt := 4) C.1 C.2.1 dX4_goersIn_30 (by decide) ?_
        exact ih _ _ _ _ _ _ _ _ X (lv_sub hl [1, 2, 3, 0] rfl) hp
      · have hp := if_n _ c2 hp
        refine lv_iload_n C.1 C.2.1 dX4_goersIn_21 rfl (lv_at hl 2 rfl) ?_
        refine lv_iconst (v := 1) C.1 C.2.1 dX4_goersIn_22 (by decide) ?_
        refine lv_iload_n C.1 C.2.1 dX4_goersIn_23 rfl (lv_at hl 3 rfl) ?_
        refine w_shl C dX4_goersIn_24 ?_
        refine lv_ior C.1 C.2.1 dX4_goersIn_25 ?_
        refine w_istn C (fun v => [(2, .int (v)), (0, .ref (K.1 + q1)), (1, .int v3), (3, .int v5)]) dX4_goersIn_26 rfl hl (by decide) (fun _ => rfl) hp (fun v9 ls hl hp => ?_)
        refine w_inc (k := 3) C (fun v => [(3, .int (v)), (2, .int v9), (0, .ref (K.1 + q1)), (1, .int v3)]) dX4_goersIn_27 hl rfl (y := (v5 + 1)) rfl (by decide) (fun _ => rfl) hp (fun v10 ls hl hp => ?_)
        refine lv_goto (tgt := 4) C.1 C.2.1 dX4_goersIn_30 (by decide) ?_
        exact ih _ _ _ _ _ _ _ _ X (lv_sub hl [2, 3, 1, 0] rfl) hp

set_option maxHeartbeats 4000000 in
set_option maxRecDepth 100000 in
theorem ct_X4_goersIn (l : Launch) (K : Kt) (p0 : Nat) (a1 : Int32) (h0 : Hp) {r : Int32} {h' : Hp} (hp : P_X4_goersIn p0 a1 h0 = some (r, h')) : CT l K yX4_goersIn cX4_goersIn 4 (some FieldType.int) rmX4_goersIn [.ref (K.1 + p0), .int a1] h0 (Qi K r h') := by
  refine ct_of (own := RX4) (by decide +kernel) rfl (Nat.le_of_ble_eq_true rfl) ?_
  intro p e s m args below meth c C X hr hlk hm ls hl
  have hl : lv_has ls 4 [(0, .ref (K.1 + p0)), (1, .int a1)] := hl
  unfold P_X4_goersIn at hp
  refine lv_iconst (v := 0) C.1 C.2.1 dX4_goersIn_0 (by decide) ?_
  refine w_istn C (fun v => [(2, .int (v)), (0, .ref (K.1 + p0)), (1, .int a1)]) dX4_goersIn_1 rfl hl (by decide) (fun _ => rfl) hp (fun v1 ls hl hp => ?_)
  refine lv_iconst (v := 0) C.1 C.2.1 dX4_goersIn_2 (by decide) ?_
  refine w_istn C (fun v => [(3, .int (v)), (2, .int v1), (0, .ref (K.1 + p0)), (1, .int a1)]) dX4_goersIn_3 rfl hl (by decide) (fun _ => rfl) hp (fun v2 ls hl hp => ?_)
  exact wl_X4_goersIn_L4 C hr hlk _ _ _ _ _ _ _ _ _ X (lv_sub hl [2, 3, 1, 0] rfl) hp

abbrev rmX4_added : Room := { frames := 1, cells := 0, slots := 0, locals := 27 }
def P_X4_added_L6 : Nat → Int32 → Int32 → Int32 → Int32 → Int32 → Hp → Option (Int32 × Hp)
  | 0, _, _, _, _, _, _ => none
  | n + 1, v3, v4, v5, v6, v7, h1 =>
    if v4 ≤ v7 then (
    some (v6, h1))
    else (
    ci (P_X5_turned v6 (v3 &&& 4095) v5 h1) fun v8 h2 =>
    lt (v8 : Int32) fun v9 =>
    ci (P_X5_turned v9 (jshr v3 12) v5 h2) fun v10 h3 =>
    lt (v10 : Int32) fun v11 =>
    ci (P_X5_turned v11 (jshr v3 12) v5 h3) fun v12 h4 =>
    lt (v12 : Int32) fun v13 =>
    lt ((v7 + 1) : Int32) fun v14 =>
    P_X4_added_L6 n v3 v4 v5 v13 v14 h4)

def P_X4_added (a0 : Int32) (a1 : Int32) (a2 : Int32) (a3 : Int32) (h0 : Hp) : Option (Int32 × Hp) :=
    lt (a0 : Int32) fun v1 =>
    lt (0 : Int32) fun v2 =>
    P_X4_added_L6 FU a1 a2 a3 v1 v2 h0

set_option maxHeartbeats 4000000 in
set_option maxRecDepth 100000 in
theorem wl_X4_added_L6 (C : CX K p m c cX4_added 6 s args RX4) (hr : meth.sig.returnType = (some FieldType.int)) (hlk : meth.locks = false) {r : Int32} {h' : Hp} : ∀ (n : Nat) (v3 : Int32) (v4 : Int32) (v5 : Int32) (v6 : Int32) (v7 : Int32) (h1 : Hp) (H : Heap) (locs : List Loc) (ls : Array Slot), HX K s.heap H locs h1 → lv_has ls 6 [(1, .int v3), (2, .int v4), (3, .int v5), (4, .int v6), (5, .int v7)] → P_X4_added_L6 n v3 v4 v5 v6 v7 h1 = some (r, h') → W p l e rmX4_added s m args below meth c H locs 0 0 (MQ below (Qi K r h') args s rmX4_added.cells rmX4_added.slots (KA K)) (F0 m 6 ls []) := by
  intro n
  induction n with
  | zero =>
    intro  v3 v4 v5 v6 v7 h1 H locs ls X hl hp
    cases hp
  | succ n ih =>
    intro  v3 v4 v5 v6 v7 h1 H locs ls X hl hp
    unfold P_X4_added_L6 at hp
    refine lv_iload C.1 C.2.1 dX4_added_6 (lv_at hl 4 rfl) ?_
    refine lv_iload_n C.1 C.2.1 dX4_added_8 rfl (lv_at hl 1 rfl) ?_
    refine lv_icmp_ge (tgt := 55) C.1 C.2.1 dX4_added_9 (by decide) (fun c1 => ?_) (fun c1 => ?_)
    · have hp := if_p _ c1 hp
      refine lv_iload C.1 C.2.1 dX4_added_55 (lv_at hl 3 rfl) ?_
      exact w_reti C X hr hlk (by decide) dX4_added_57 hp
    · have hp := if_n _ c1 hp
      refine lv_iload C.1 C.2.1 dX4_added_12 (lv_at hl 3 rfl) ?_
      refine lv_iload_n C.1 C.2.1 dX4_added_14 rfl (lv_at hl 0 rfl) ?_
      refine lv_sipush (v := 4095) C.1 C.2.1 dX4_added_15 (by decide) ?_
      refine lv_iand C.1 C.2.1 dX4_added_18 ?_
      refine lv_iload_n C.1 C.2.1 dX4_added_19 rfl (lv_at hl 2 rfl) ?_
      refine w_ci (cells' := 0) (slots' := 0) X (fun _ _ e => run_SN (As := [.int v6, .int (v3 &&& 4095), .int v5]) C X mX5_turned msX5_turned lX4_43 (ct_X5_turned l K v6 (v3 &&& 4095) v5 h1 e) (by decide) (by decide) rfl (by decide) rfl hl.1 dX4_added_20) (by decide) hp (fun v8 h2 H locs X hp => ?_)
      refine w_ist C (fun v => [(4, .int (v)), (1, .int v3), (2, .int v4), (3, .int v5), (5, .int v7)]) dX4_added_23 hl (by decide) (fun _ => rfl) hp (fun v9 ls hl hp => ?_)
      refine lv_iload C.1 C.2.1 dX4_added_25 (lv_at hl 0 rfl) ?_
      refine lv_iload_n C.1 C.2.1 dX4_added_27 rfl (lv_at hl 1 rfl) ?_
      refine lv_bipush (v := 12) C.1 C.2.1 dX4_added_28 (by decide) ?_
      refine w_shr C dX4_added_30 ?_
      refine lv_iload_n C.1 C.2.1 dX4_added_31 rfl (lv_at hl 3 rfl) ?_
      refine w_ci (cells' := 0) (slots' := 0) X (fun _ _ e => run_SN (As := [.int v9, .int (jshr v3 12), .int v5]) C X mX5_turned msX5_turned lX4_43 (ct_X5_turned l K v9 (jshr v3 12) v5 h2 e) (by decide) (by decide) rfl (by decide) rfl hl.1 dX4_added_32) (by decide) hp (fun v10 h3 H locs X hp => ?_)
      refine w_ist C (fun v => [(4, .int (v)), (1, .int v3), (2, .int v4), (3, .int v5), (5, .int v7)]) dX4_added_35 hl (by decide) (fun _ => rfl) hp (fun v11 ls hl hp => ?_)
      refine lv_iload C.1 C.2.1 dX4_added_37 (lv_at hl 0 rfl) ?_
      refine lv_iload_n C.1 C.2.1 dX4_added_39 rfl (lv_at hl 1 rfl) ?_
      refine lv_bipush (v := 12) C.1 C.2.1 dX4_added_40 (by decide) ?_
      refine w_shr C dX4_added_42 ?_
      refine lv_iload_n C.1 C.2.1 dX4_added_43 rfl (lv_at hl 3 rfl) ?_
      refine w_ci (cells' := 0) (slots' := 0) X (fun _ _ e => run_SN (As := [.int v11, .int (jshr v3 12), .int v5]) C X mX5_turned msX5_turned lX4_43 (ct_X5_turned l K v11 (jshr v3 12) v5 h3 e) (by decide) (by decide) rfl (by decide) rfl hl.1 dX4_added_44) (by decide) hp (fun v12 h4 H locs X hp => ?_)
      refine w_ist C (fun v => [(4, .int (v)), (1, .int v3), (2, .int v4), (3, .int v5), (5, .int v7)]) dX4_added_47 hl (by decide) (fun _ => rfl) hp (fun v13 ls hl hp => ?_)
      refine w_inc (k := 4) C (fun v => [(5, .int (v)), (4, .int v13), (1, .int v3), (2, .int v4), (3, .int v5)]) dX4_added_49 hl rfl (y := (v7 + 1)) rfl (by decide) (fun _ => rfl) hp (fun v14 ls hl hp => ?_)
      refine lv_goto (tgt := 6) C.1 C.2.1 dX4_added_52 (by decide) ?_
      exact ih _ _ _ _ _ _ _ _ _ X (lv_sub hl [2, 3, 4, 1, 0] rfl) hp

set_option maxHeartbeats 4000000 in
set_option maxRecDepth 100000 in
theorem ct_X4_added (l : Launch) (K : Kt) (a0 : Int32) (a1 : Int32) (a2 : Int32) (a3 : Int32) (h0 : Hp) {r : Int32} {h' : Hp} (hp : P_X4_added a0 a1 a2 a3 h0 = some (r, h')) : CT l K yX4_added cX4_added 6 (some FieldType.int) rmX4_added [.int a0, .int a1, .int a2, .int a3] h0 (Qi K r h') := by
  refine ct_of (own := RX4) (by decide +kernel) rfl (Nat.le_of_ble_eq_true rfl) ?_
  intro p e s m args below meth c C X hr hlk hm ls hl
  have hl : lv_has ls 6 [(0, .int a0), (1, .int a1), (2, .int a2), (3, .int a3)] := hl
  unfold P_X4_added at hp
  refine lv_iload_n C.1 C.2.1 dX4_added_0 rfl (lv_at hl 0 rfl) ?_
  refine w_ist C (fun v => [(4, .int (v)), (0, .int a0), (1, .int a1), (2, .int a2), (3, .int a3)]) dX4_added_1 hl (by decide) (fun _ => rfl) hp (fun v1 ls hl hp => ?_)
  refine lv_iconst (v := 0) C.1 C.2.1 dX4_added_3 (by decide) ?_
  refine w_ist C (fun v => [(5, .int (v)), (4, .int v1), (0, .int a0), (1, .int a1), (2, .int a2), (3, .int a3)]) dX4_added_4 hl (by decide) (fun _ => rfl) hp (fun v2 ls hl hp => ?_)
  exact wl_X4_added_L6 C hr hlk _ _ _ _ _ _ _ _ _ _ X (lv_sub hl [3, 4, 5, 1, 0] rfl) hp

abbrev rmX4_findPivot : Room := { frames := 3, cells := 0, slots := 0, locals := 62 }
def P_X4_findPivot_L5 : Nat → Nat → Nat → Int32 → Int32 → Hp → Option (Int32 × Hp)
  | 0, _, _, _, _, _ => none
  | n + 1, q1, q2, v3, v4, h1 =>
    gi h1 q2 0 0 fun v5 =>
    if v5 < v4 then (
    some (0, h1))
    else (
    gr h1 q1 4 2 fun q3 =>
    ln h1 q3 fun v6 =>
    if v6 ≤ v4 then (
    some (0, h1))
    else (
    ci (P_X5_wayOf v3 v4 h1) fun v7 h2 =>
    lt (v7 : Int32) fun v8 =>
    if v8 = 0 then (
    lt ((v4 + 1) : Int32) fun v9 =>
    P_X4_findPivot_L5 n q1 q2 v3 v9 h2)
    else (
    gr h2 q1 4 2 fun q4 =>
    al h2 q4 v4 fun v10 =>
    if v10 = 0 then (
    gr h2 q1 4 2 fun q8 =>
    as h2 q8 v4 v3 fun h6 =>
    some (1, h6))
    else (
    gr h2 q1 4 2 fun q5 =>
    al h2 q5 v4 fun v11 =>
    ci (P_X5_wayOf v11 v4 h2) fun v12 h3 =>
    if v8 = v12 then (
    gi h3 q2 0 1 fun v19 =>
    lt ((v19 - 1) : Int32) fun v20 =>
    gr h3 q1 4 2 fun q7 =>
    al h3 q7 v4 fun v21 =>
    gi h3 q2 0 1 fun v22 =>
    ci (P_X4_added v3 v21 v20 v22 h3) fun v23 h5 =>
    lt (v23 : Int32) fun v24 =>
    lt ((v4 + 1) : Int32) fun v25 =>
    P_X4_findPivot_L5 n q1 q2 v24 v25 h5)
    else (
    lt (1 : Int32) fun v13 =>
    gr h3 q1 4 2 fun q6 =>
    al h3 q6 v4 fun v14 =>
    gi h3 q2 0 1 fun v15 =>
    ci (P_X4_added v3 v14 v13 v15 h3) fun v16 h4 =>
    lt (v16 : Int32) fun v17 =>
    lt ((v4 + 1) : Int32) fun v18 =>
    P_X4_findPivot_L5 n q1 q2 v17 v18 h4)))))

def P_X4_findPivot (p0 : Nat) (p1 : Nat) (a2 : Int32) (h0 : Hp) : Option (Int32 × Hp) :=
    lt (a2 : Int32) fun v1 =>
    lt (1 : Int32) fun v2 =>
    P_X4_findPivot_L5 FU p0 p1 v1 v2 h0

set_option maxHeartbeats 4000000 in
set_option maxRecDepth 100000 in
theorem wl_X4_findPivot_L5 (C : CX K p m c cX4_findPivot 7 s args RX4) (hr : meth.sig.returnType = (some FieldType.boolean)) (hlk : meth.locks = false) {r : Int32} {h' : Hp} : ∀ (n : Nat) (q1 : Nat) (q2 : Nat) (v3 : Int32) (v4 : Int32) (h1 : Hp) (H : Heap) (locs : List Loc) (ls : Array Slot), HX K s.heap H locs h1 → lv_has ls 7 [(0, .ref (K.1 + q1)), (1, .ref (K.1 + q2)), (3, .int v3), (4, .int v4)] → P_X4_findPivot_L5 n q1 q2 v3 v4 h1 = some (r, h') → W p l e rmX4_findPivot s m args below meth c H locs 0 0 (MQ below (Qi K r h') args s rmX4_findPivot.cells rmX4_findPivot.slots (KA K)) (F0 m 5 ls []) := by
  intro n
  induction n with
  | zero =>
    intro  q1 q2 v3 v4 h1 H locs ls X hl hp
    cases hp
  | succ n ih =>
    intro  q1 q2 v3 v4 h1 H locs ls X hl hp
    unfold P_X4_findPivot_L5 at hp
    refine lv_iload C.1 C.2.1 dX4_findPivot_5 (lv_at hl 3 rfl) ?_
    refine lv_aload_n C.1 C.2.1 dX4_findPivot_7 rfl (lv_at hl 1 rfl) ?_
    refine w_gi C X fX4_76 rfl dX4_findPivot_8 hp (fun v5 hp => ?_)
    refine lv_icmp_gt (tgt := 110) C.1 C.2.1 dX4_findPivot_11 (by decide) (fun c1 => ?_) (fun c1 => ?_)
    · have hp := if_p _ c1 hp
      refine lv_iconst (v := 0) C.1 C.2.1 dX4_findPivot_110 (by decide) ?_
      exact w_retz C X hr hlk (by decide) (by decide) dX4_findPivot_111 hp
    · have hp := if_n _ c1 hp
      refine lv_iload C.1 C.2.1 dX4_findPivot_14 (lv_at hl 3 rfl) ?_
      refine lv_aload_n C.1 C.2.1 dX4_findPivot_16 rfl (lv_at hl 0 rfl) ?_
      refine w_gr C X fX4_18 rfl dX4_findPivot_17 hp (fun q3 hp => ?_)
      refine w_ln C X dX4_findPivot_20 hp (fun v6 hp => ?_)
      refine lv_icmp_ge (tgt := 110) C.1 C.2.1 dX4_findPivot_21 (by decide) (fun c2 => ?_) (fun c2 => ?_)
      · have hp := if_p _ c2 hp
        refine lv_iconst (v := 0) C.1 C.2.1 dX4_findPivot_110 (by decide) ?_
        exact w_retz C X hr hlk (by decide) (by decide) dX4_findPivot_111 hp
      · have hp := if_n _ c2 hp
        refine lv_iload_n C.1 C.2.1 dX4_findPivot_24 rfl (lv_at hl 2 rfl) ?_
        refine lv_iload C.1 C.2.1 dX4_findPivot_25 (lv_at hl 3 rfl) ?_
        refine w_ci (cells' := 0) (slots' := 0) X (fun _ _ e => run_SN (As := [.int v3, .int v4]) C X mX5_wayOf msX5_wayOf lX4_79 (ct_X5_wayOf l K v3 v4 h1 e) (by decide) (by decide) rfl (by decide) rfl hl.1 dX4_findPivot_27) (by decide) hp (fun v7 h2 H locs X hp => ?_)
        refine w_ist C (fun v => [(5, .int (v)), (0, .ref (K.1 + q1)), (1, .ref (K.1 + q2)), (3, .int v3), (4, .int v4)]) dX4_findPivot_30 hl (by decide) (fun _ => rfl) hp (fun v8 ls hl hp => ?_)
        refine lv_iload C.1 C.2.1 dX4_findPivot_32 (lv_at hl 0 rfl) ?_
        refine lv_if_eq (tgt := 104) C.1 C.2.1 dX4_findPivot_34 (by decide) (fun c3 => ?_) (fun c3 => ?_)
        · have hp := if_p _ c3 hp
          refine w_inc (k := 4) C (fun v => [(4, .int (v)), (5, .int v8), (0, .ref (K.1 + q1)), (1, .ref (K.1 + q2)), (3, .int v3)]) dX4_findPivot_104 hl rfl (y := (v4 + 1)) rfl (by decide) (fun _ => rfl) hp (fun v9 ls hl hp => ?_)
          refine lv_goto (tgt := 5) C.1 C.2.1 dX4_findPivot_107 (by decide) ?_
          exact ih _ _ _ _ _ _ _ _ X (lv_sub hl [2, 3, 4, 0] rfl) hp
        · have hp := if_n _ c3 hp
          refine lv_aload_n C.1 C.2.1 dX4_findPivot_37 rfl (lv_at hl 1 rfl) ?_
          refine w_gr C X fX4_18 rfl dX4_findPivot_38 hp (fun q4 hp => ?_)
          refine lv_iload C.1 C.2.1 dX4_findPivot_41 (lv_at hl 4 rfl) ?_
          refine w_al C X dX4_findPivot_43 hp (fun v10 hp => ?_)
          refine lv_if_ne (tgt := 57) C.1 C.2.1 dX4_findPivot_44 (by decide) (fun c4 => ?_) (fun c4 => ?_)
          · have hp := if_n _ c4 hp
            refine lv_iload C.1 C.2.1 dX4_findPivot_57 (lv_at hl 0 rfl) ?_
            refine lv_aload_n C.1 C.2.1 dX4_findPivot_59 rfl (lv_at hl 1 rfl) ?_
            refine w_gr C X fX4_18 rfl dX4_findPivot_60 hp (fun q5 hp => ?_)
            refine lv_iload C.1 C.2.1 dX4_findPivot_63 (lv_at hl 4 rfl) ?_
            refine w_al C X dX4_findPivot_65 hp (fun v11 hp => ?_)
            refine lv_iload C.1 C.2.1 dX4_findPivot_66 (lv_at hl 4 rfl) ?_
            refine w_ci (cells' := 0) (slots' := 0) X (fun _ _ e => run_SN (As := [.int v11, .int v4]) C X mX5_wayOf msX5_wayOf lX4_79 (ct_X5_wayOf l K v11 v4 h2 e) (by decide) (by decide) rfl (Nat.le_of_ble_eq_true rfl) rfl hl.1 dX4_findPivot_68) (by decide) hp (fun v12 h3 H locs X hp => ?_)
            refine lv_icmp_ne (tgt := 83) C.1 C.2.1 dX4_findPivot_71 (by decide) (fun c5 => ?_) (fun c5 => ?_)
            · have hp := if_n _ c5 hp
              refine lv_iconst (v := 1) C.1 C.2.1 dX4_findPivot_83 (by decide) ?_
              refine w_ist C (fun v => [(6, .int (v)), (5, .int v8), (0, .ref (K.1 + q1)), (1, .ref (K.1 + q2)), (3, .int v3), (4, .int v4)]) dX4_findPivot_84 hl (by decide) (fun _ => rfl) hp (fun v13 ls hl hp => ?_)
              refine lv_iload_n C.1 C.2.1 dX4_findPivot_86 rfl (lv_at hl 4 rfl) ?_
              refine lv_aload_n C.1 C.2.1 dX4_findPivot_87 rfl (lv_at hl 2 rfl) ?_
              refine w_gr C X fX4_18 rfl dX4_findPivot_88 hp (fun q6 hp => ?_)
              refine lv_iload C.1 C.2.1 dX4_findPivot_91 (lv_at hl 5 rfl) ?_
              refine w_al C X dX4_findPivot_93 hp (fun v14 hp => ?_)
              refine lv_iload C.1 C.2.1 dX4_findPivot_94 (lv_at hl 0 rfl) ?_
              refine lv_aload_n C.1 C.2.1 dX4_findPivot_96 rfl (lv_at hl 3 rfl) ?_
              refine w_gi C X fX4_28 rfl dX4_findPivot_97 hp (fun v15 hp => ?_)
              refine w_ci (cells' := 0) (slots' := 0) X (fun _ _ e => run_S (As := [.int v3, .int v14, .int v13, .int v15]) C X mX4_added msX4_added lX4_82 (ct_X4_added l K v3 v14 v13 v15 h3 e) (by decide) (by decide) rfl (by decide) rfl hl.1 dX4_findPivot_100) (by decide) hp (fun v16 h4 H locs X hp => ?_)
              refine w_istn C (fun v => [(3, .int (v)), (6, .int v13), (5, .int v8), (0, .ref (K.1 + q1)), (1, .ref (K.1 + q2)), (4, .int v4)]) dX4_findPivot_103 rfl hl (by decide) (fun _ => rfl) hp (fun v17 ls hl hp => ?_)
              refine w_inc (k := 5) C (fun v => [(4, .int (v)), (3, .int v17), (6, .int v13), (5, .int v8), (0, .ref (K.1 + q1)), (1, .ref (K.1 + q2))]) dX4_findPivot_104 hl rfl (y := (v4 + 1)) rfl (by decide) (fun _ => rfl) hp (fun v18 ls hl hp => ?_)
              refine lv_goto (tgt := 5) C.1 C.2.1 dX4_findPivot_107 (by decide) ?_
              exact ih _ _ _ _ _ _ _ _ X (lv_sub hl [4, 5, 1, 0] rfl) hp
            · have hp := if_p _ c5 hp
              refine lv_aload_n C.1 C.2.1 dX4_findPivot_74 rfl (lv_at hl 2 rfl) ?_
              refine w_gi C X fX4_28 rfl dX4_findPivot_75 hp (fun v19 hp => ?_)
              refine lv_iconst (v := 1) C.1 C.2.1 dX4_findPivot_78 (by decide) ?_
              refine lv_isub C.1 C.2.1 dX4_findPivot_79 ?_
              refine lv_goto (tgt := 84) C.1 C.2.1 dX4_findPivot_80 (by decide) ?_
              refine w_ist C (fun v => [(6, .int (v)), (5, .int v8), (0, .ref (K.1 + q1)), (1, .ref (K.1 + q2)), (3, .int v3), (4, .int v4)]) dX4_findPivot_84 hl (by decide) (fun _ => rfl) hp (fun v20 ls hl hp => ?_)
              refine lv_iload_n C.1 C.2.1 dX4_findPivot_86 rfl (lv_at hl 4 rfl) ?_
              refine lv_aload_n C.1 C.2.1 dX4_findPivot_87 rfl (lv_at hl 2 rfl) ?_
              refine w_gr C X fX4_18 rfl dX4_findPivot_88 hp (fun q7 hp => ?_)
              refine lv_iload C.1 C.2.1 dX4_findPivot_91 (lv_at hl 5 rfl) ?_
              refine w_al C X dX4_findPivot_93 hp (fun v21 hp => ?_)
              refine lv_iload C.1 C.2.1 dX4_findPivot_94 (lv_at hl 0 rfl) ?_
              refine lv_aload_n C.1 C.2.1 dX4_findPivot_96 rfl (lv_at hl 3 rfl) ?_
              refine w_gi C X fX4_28 rfl dX4_findPivot_97 hp (fun v22 hp => ?_)
              refine w_ci (cells' := 0) (slots' := 0) X (fun _ _ e => run_S (As := [.int v3, .int v21, .int v20, .int v22]) C X mX4_added msX4_added lX4_82 (ct_X4_added l K v3 v21 v20 v22 h3 e) (by decide) (by decide) rfl (by decide) rfl hl.1 dX4_findPivot_100) (by decide) hp (fun v23 h5 H locs X hp => ?_)
              refine w_istn C (fun v => [(3, .int (v)), (6, .int v20), (5, .int v8), (0, .ref (K.1 + q1)), (1, .ref (K.1 + q2)), (4, .int v4)]) dX4_findPivot_103 rfl hl (by decide) (fun _ => rfl) hp (fun v24 ls hl hp => ?_)
              refine w_inc (k := 5) C (fun v => [(4, .int (v)), (3, .int v24), (6, .int v20), (5, .int v8), (0, .ref (K.1 + q1)), (1, .ref (K.1 + q2))]) dX4_findPivot_104 hl rfl (y := (v4 + 1)) rfl (by decide) (fun _ => rfl) hp (fun v25 ls hl hp => ?_)
              refine lv_goto (tgt := 5) C.1 C.2.1 dX4_findPivot_107 (by decide) ?_
              exact ih _ _ _ _ _ _ _ _ X (lv_sub hl [4, 5, 1, 0] rfl) hp
          · have hp := if_p _ c4 hp
            refine lv_aload_n C.1 C.2.1 dX4_findPivot_47 rfl (lv_at hl 1 rfl) ?_
            refine w_gr C X fX4_18 rfl dX4_findPivot_48 hp (fun q8 hp => ?_)
            refine lv_iload C.1 C.2.1 dX4_findPivot_51 (lv_at hl 4 rfl) ?_
            refine lv_iload_n C.1 C.2.1 dX4_findPivot_53 rfl (lv_at hl 3 rfl) ?_
            refine w_as C X dX4_findPivot_54 hp (fun H locs h6 X hp => ?_)
            refine lv_iconst (v := 1) C.1 C.2.1 dX4_findPivot_55 (by decide) ?_
            exact w_retz C X hr hlk (by decide) (by decide) dX4_findPivot_56 hp

set_option maxHeartbeats 4000000 in
set_option maxRecDepth 100000 in
theorem ct_X4_findPivot (l : Launch) (K : Kt) (p0 : Nat) (p1 : Nat) (a2 : Int32) (h0 : Hp) {r : Int32} {h' : Hp} (hp : P_X4_findPivot p0 p1 a2 h0 = some (r, h')) : CT l K yX4_findPivot cX4_findPivot 7 (some FieldType.boolean) rmX4_findPivot [.ref (K.1 + p0), .ref (K.1 + p1), .int a2] h0 (Qi K r h') := by
  refine ct_of (own := RX4) (by decide +kernel) rfl (Nat.le_of_ble_eq_true rfl) ?_
  intro p e s m args below meth c C X hr hlk hm ls hl
  have hl : lv_has ls 7 [(0, .ref (K.1 + p0)), (1, .ref (K.1 + p1)), (2, .int a2)] := hl
  unfold P_X4_findPivot at hp
  refine lv_iload_n C.1 C.2.1 dX4_findPivot_0 rfl (lv_at hl 2 rfl) ?_
  refine w_istn C (fun v => [(3, .int (v)), (0, .ref (K.1 + p0)), (1, .ref (K.1 + p1)), (2, .int a2)]) dX4_findPivot_1 rfl hl (by decide) (fun _ => rfl) hp (fun v1 ls hl hp => ?_)
  refine lv_iconst (v := 1) C.1 C.2.1 dX4_findPivot_2 (by decide) ?_
  refine w_ist C (fun v => [(4, .int (v)), (3, .int v1), (0, .ref (K.1 + p0)), (1, .ref (K.1 + p1)), (2, .int a2)]) dX4_findPivot_3 hl (by decide) (fun _ => rfl) hp (fun v2 ls hl hp => ?_)
  exact wl_X4_findPivot_L5 C hr hlk _ _ _ _ _ _ _ _ _ X (lv_sub hl [2, 3, 1, 0] rfl) hp

abbrev rmX4_bringAll : Room := { frames := 4, cells := 0, slots := 0, locals := 88 }
def P_X4_bringAll_L2 : Nat → Nat → Nat → Int32 → Int32 → Hp → (Hp → Option (Int32 × Hp)) → Option (Int32 × Hp)
  | 0, _, _, _, _, _, _ => none
  | n + 1, q1, q2, v2, v3, h1, kont =>
    gr h1 q1 4 2 fun q3 =>
    ln h1 q3 fun v4 =>
    if v4 ≤ v3 then (
    kont h1)
    else (
    gr h1 q1 4 2 fun q4 =>
    as h1 q4 v3 0 fun h2 =>
    lt ((v3 + 1) : Int32) fun v5 =>
    P_X4_bringAll_L2 n q1 q2 v2 v5 h2 kont)

def P_X4_bringAll_L29 : Nat → Nat → Nat → Int32 → Int32 → Int32 → Hp → Option (Int32 × Hp)
  | 0, _, _, _, _, _, _ => none
  | n + 1, q5, q6, v8, v9, v10, h4 =>
    gi h4 q6 0 2 fun v11 =>
    if v11 ≤ v10 then (
    gi h4 q6 0 0 fun v12 =>
    if v9 = v12 then (
    some (1, h4))
    else (
    some (0, h4)))
    else (
    if ((jshr v8 v10) &&& 1) = 0 then (
    lt ((v10 + 1) : Int32) fun v13 =>
    P_X4_bringAll_L29 n q5 q6 v8 v9 v13 h4)
    else (
    rc h4 q6 0 <| ci (P_X0_turnsOf q6 v10 h4) fun v14 h5 =>
    rc h5 q5 4 <| ci (P_X4_findPivot q5 q6 v14 h5) fun v15 h6 =>
    if v15 = 0 then (
    lt ((v10 + 1) : Int32) fun v16 =>
    P_X4_bringAll_L29 n q5 q6 v8 v9 v16 h6)
    else (
    lt ((v9 + 1) : Int32) fun v17 =>
    lt ((v10 + 1) : Int32) fun v18 =>
    P_X4_bringAll_L29 n q5 q6 v8 v17 v18 h6)))

def P_X4_bringAll (p0 : Nat) (p1 : Nat) (a2 : Int32) (h0 : Hp) : Option (Int32 × Hp) :=
    lt (0 : Int32) fun v1 =>
    P_X4_bringAll_L2 FU p0 p1 a2 v1 h0 fun h3 =>
    lt (0 : Int32) fun v6 =>
    lt (0 : Int32) fun v7 =>
    P_X4_bringAll_L29 FU p0 p1 a2 v6 v7 h3

set_option maxHeartbeats 4000000 in
set_option maxRecDepth 100000 in
theorem wl_X4_bringAll_L2 (C : CX K p m c cX4_bringAll 5 s args RX4) (hr : meth.sig.returnType = (some FieldType.boolean)) (hlk : meth.locks = false) {r : Int32} {h' : Hp} : ∀ (n : Nat) (q1 : Nat) (q2 : Nat) (v2 : Int32) (v3 : Int32) (h1 : Hp) (kont : Hp → Option (Int32 × Hp)) (H : Heap) (locs : List Loc) (ls : Array Slot), HX K s.heap H locs h1 → lv_has ls 5 [(0, .ref (K.1 + q1)), (1, .ref (K.1 + q2)), (2, .int v2), (3, .int v3)] → P_X4_bringAll_L2 n q1 q2 v2 v3 h1 kont = some (r, h') → (∀  (hk : Hp) (H : Heap) (locs : List Loc) (ls : Array Slot), HX K s.heap H locs hk → lv_has ls 5 [(0, .ref (K.1 + q1)), (1, .ref (K.1 + q2)), (2, .int v2)] → kont  hk = some (r, h') → W p l e rmX4_bringAll s m args below meth c H locs 0 0 (MQ below (Qi K r h') args s rmX4_bringAll.cells rmX4_bringAll.slots (KA K)) (F0 m 24 ls [])) → W p l e rmX4_bringAll s m args below meth c H locs 0 0 (MQ below (Qi K r h') args s rmX4_bringAll.cells rmX4_bringAll.slots (KA K)) (F0 m 2 ls []) := by
  intro n
  induction n with
  | zero =>
    intro  q1 q2 v2 v3 h1 kont H locs ls X hl hp hk
    cases hp
  | succ n ih =>
    intro  q1 q2 v2 v3 h1 kont H locs ls X hl hp hk
    unfold P_X4_bringAll_L2 at hp
    refine lv_iload_n C.1 C.2.1 dX4_bringAll_2 rfl (lv_at hl 3 rfl) ?_
    refine lv_aload_n C.1 C.2.1 dX4_bringAll_3 rfl (lv_at hl 0 rfl) ?_
    refine w_gr C X fX4_18 rfl dX4_bringAll_4 hp (fun q3 hp => ?_)
    refine w_ln C X dX4_bringAll_7 hp (fun v4 hp => ?_)
    refine lv_icmp_ge (tgt := 24) C.1 C.2.1 dX4_bringAll_8 (by decide) (fun c1 => ?_) (fun c1 => ?_)
    · have hp := if_p _ c1 hp
      exact hk _ _ _ _ X (lv_sub hl [0, 1, 2] rfl) hp
    · have hp := if_n _ c1 hp
      refine lv_aload_n C.1 C.2.1 dX4_bringAll_11 rfl (lv_at hl 0 rfl) ?_
      refine w_gr C X fX4_18 rfl dX4_bringAll_12 hp (fun q4 hp => ?_)
      refine lv_iload_n C.1 C.2.1 dX4_bringAll_15 rfl (lv_at hl 3 rfl) ?_
      refine lv_iconst (v := 0) C.1 C.2.1 dX4_bringAll_16 (by decide) ?_
      refine w_as C X dX4_bringAll_17 hp (fun H locs h2 X hp => ?_)
      refine w_inc (k := 3) C (fun v => [(3, .int (v)), (0, .ref (K.1 + q1)), (1, .ref (K.1 + q2)), (2, .int v2)]) dX4_bringAll_18 hl rfl (y := (v3 + 1)) rfl (by decide) (fun _ => rfl) hp (fun v5 ls hl hp => ?_)
      refine lv_goto (tgt := 2) C.1 C.2.1 dX4_bringAll_21 (by decide) ?_
      exact ih _ _ _ _ _ _ _ _ _ X (lv_sub hl [1, 2, 3, 0] rfl) hp hk

set_option maxHeartbeats 4000000 in
set_option maxRecDepth 100000 in
theorem wl_X4_bringAll_L29 (C : CX K p m c cX4_bringAll 5 s args RX4) (hr : meth.sig.returnType = (some FieldType.boolean)) (hlk : meth.locks = false) {r : Int32} {h' : Hp} : ∀ (n : Nat) (q5 : Nat) (q6 : Nat) (v8 : Int32) (v9 : Int32) (v10 : Int32) (h4 : Hp) (H : Heap) (locs : List Loc) (ls : Array Slot), HX K s.heap H locs h4 → lv_has ls 5 [(0, .ref (K.1 + q5)), (1, .ref (K.1 + q6)), (2, .int v8), (3, .int v9), (4, .int v10)] → P_X4_bringAll_L29 n q5 q6 v8 v9 v10 h4 = some (r, h') → W p l e rmX4_bringAll s m args below meth c H locs 0 0 (MQ below (Qi K r h') args s rmX4_bringAll.cells rmX4_bringAll.slots (KA K)) (F0 m 29 ls []) := by
  intro n
  induction n with
  | zero =>
    intro  q5 q6 v8 v9 v10 h4 H locs ls X hl hp
    cases hp
  | succ n ih =>
    intro  q5 q6 v8 v9 v10 h4 H locs ls X hl hp
    unfold P_X4_bringAll_L29 at hp
    refine lv_iload C.1 C.2.1 dX4_bringAll_29 (lv_at hl 4 rfl) ?_
    refine lv_aload_n C.1 C.2.1 dX4_bringAll_31 rfl (lv_at hl 1 rfl) ?_
    refine w_gi C X fX4_21 rfl dX4_bringAll_32 hp (fun v11 hp => ?_)
    refine lv_icmp_ge (tgt := 70) C.1 C.2.1 dX4_bringAll_35 (by decide) (fun c2 => ?_) (fun c2 => ?_)
    · have hp := if_p _ c2 hp
      refine lv_iload_n C.1 C.2.1 dX4_bringAll_70 rfl (lv_at hl 3 rfl) ?_
      refine lv_aload_n C.1 C.2.1 dX4_bringAll_71 rfl (lv_at hl 1 rfl) ?_
      refine w_gi C X fX4_76 rfl dX4_bringAll_72 hp (fun v12 hp => ?_)
      refine lv_icmp_ne (tgt := 82) C.1 C.2.1 dX4_bringAll_75 (by decide) (fun c3 => ?_) (fun c3 => ?_)
      · have hp := if_n _ c3 hp
        refine lv_iconst (v := 0) C.1 C.2.1 dX4_bringAll_82 (by decide) ?_
        exact w_retz C X hr hlk (by decide) (by decide) dX4_bringAll_83 hp
      · have hp := if_p _ c3 hp
        refine lv_iconst (v := 1) C.1 C.2.1 dX4_bringAll_78 (by decide) ?_
        refine lv_goto (tgt := 83) C.1 C.2.1 dX4_bringAll_79 (by decide) ?_
        exact w_retz C X hr hlk (by decide) (by decide) dX4_bringAll_83 hp
    · have hp := if_n _ c2 hp
      refine lv_iload_n C.1 C.2.1 dX4_bringAll_38 rfl (lv_at hl 2 rfl) ?_
      refine lv_iload C.1 C.2.1 dX4_bringAll_39 (lv_at hl 4 rfl) ?_
      refine w_shr C dX4_bringAll_41 ?_
      refine lv_iconst (v := 1) C.1 C.2.1 dX4_bringAll_42 (by decide) ?_
      refine lv_iand C.1 C.2.1 dX4_bringAll_43 ?_
      refine lv_if_eq (tgt := 64) C.1 C.2.1 dX4_bringAll_44 (by decide) (fun c4 => ?_) (fun c4 => ?_)
      · have hp := if_p _ c4 hp
        refine w_inc (k := 4) C (fun v => [(4, .int (v)), (0, .ref (K.1 + q5)), (1, .ref (K.1 + q6)), (2, .int v8), (3, .int v9)]) dX4_bringAll_64 hl rfl (y := (v10 + 1)) rfl (by decide) (fun _ => rfl) hp (fun v13 ls hl hp => ?_)
        refine lv_goto (tgt := 29) C.1 C.2.1 dX4_bringAll_67 (by decide) ?_
        exact ih _ _ _ _ _ _ _ _ _ X (lv_sub hl [1, 2, 3, 4, 0] rfl) hp
      · have hp := if_n _ c4 hp
        refine lv_aload_n C.1 C.2.1 dX4_bringAll_47 rfl (lv_at hl 0 rfl) ?_
        refine lv_aload_n C.1 C.2.1 dX4_bringAll_48 rfl (lv_at hl 1 rfl) ?_
        refine lv_aload_n C.1 C.2.1 dX4_bringAll_49 rfl (lv_at hl 1 rfl) ?_
        refine lv_iload C.1 C.2.1 dX4_bringAll_50 (lv_at hl 4 rfl) ?_
        have hrc := (rc_some hp).1
        have hp := (rc_some hp).2
        refine w_ci (cells' := 0) (slots' := 0) X (fun _ _ e => run_VN (As := [.int v10]) (c0 := 0) C X mX0_turnsOf miX0_turnsOf lX4_35 (by decide) rfl hrc (ct_X0_turnsOf l K q6 v10 h4 e) (by decide) (by decide) rfl (Nat.le_of_ble_eq_true rfl) rfl hl.1 dX4_bringAll_52) (by decide) hp (fun v14 h5 H locs X hp => ?_)
        have hrc := (rc_some hp).1
        have hp := (rc_some hp).2
        refine w_ci (cells' := 0) (slots' := 0) X (fun _ _ e => run_V (As := [.ref (K.1 + q6), .int v14]) (c0 := 4) C X mX4_findPivot miX4_findPivot lX4_72 (by decide) rfl hrc (ct_X4_findPivot l K q5 q6 v14 h5 e) (by decide) (by decide) rfl (by decide) rfl hl.1 dX4_bringAll_55) (by decide) hp (fun v15 h6 H locs X hp => ?_)
        refine lv_if_eq (tgt := 64) C.1 C.2.1 dX4_bringAll_58 (by decide) (fun c5 => ?_) (fun c5 => ?_)
        · have hp := if_p _ c5 hp
          refine w_inc (k := 4) C (fun v => [(4, .int (v)), (0, .ref (K.1 + q5)), (1, .ref (K.1 + q6)), (2, .int v8), (3, .int v9)]) dX4_bringAll_64 hl rfl (y := (v10 + 1)) rfl (by decide) (fun _ => rfl) hp (fun v16 ls hl hp => ?_)
          refine lv_goto (tgt := 29) C.1 C.2.1 dX4_bringAll_67 (by decide) ?_
          exact ih _ _ _ _ _ _ _ _ _ X (lv_sub hl [1, 2, 3, 4, 0] rfl) hp
        · have hp := if_n _ c5 hp
          refine w_inc (k := 3) C (fun v => [(3, .int (v)), (0, .ref (K.1 + q5)), (1, .ref (K.1 + q6)), (2, .int v8), (4, .int v10)]) dX4_bringAll_61 hl rfl (y := (v9 + 1)) rfl (by decide) (fun _ => rfl) hp (fun v17 ls hl hp => ?_)
          refine w_inc (k := 4) C (fun v => [(4, .int (v)), (3, .int v17), (0, .ref (K.1 + q5)), (1, .ref (K.1 + q6)), (2, .int v8)]) dX4_bringAll_64 hl rfl (y := (v10 + 1)) rfl (by decide) (fun _ => rfl) hp (fun v18 ls hl hp => ?_)
          refine lv_goto (tgt := 29) C.1 C.2.1 dX4_bringAll_67 (by decide) ?_
          exact ih _ _ _ _ _ _ _ _ _ X (lv_sub hl [2, 3, 4, 1, 0] rfl) hp

set_option maxHeartbeats 4000000 in
set_option maxRecDepth 100000 in
theorem ct_X4_bringAll (l : Launch) (K : Kt) (p0 : Nat) (p1 : Nat) (a2 : Int32) (h0 : Hp) {r : Int32} {h' : Hp} (hp : P_X4_bringAll p0 p1 a2 h0 = some (r, h')) : CT l K yX4_bringAll cX4_bringAll 5 (some FieldType.boolean) rmX4_bringAll [.ref (K.1 + p0), .ref (K.1 + p1), .int a2] h0 (Qi K r h') := by
  refine ct_of (own := RX4) (by decide +kernel) rfl (Nat.le_of_ble_eq_true rfl) ?_
  intro p e s m args below meth c C X hr hlk hm ls hl
  have hl : lv_has ls 5 [(0, .ref (K.1 + p0)), (1, .ref (K.1 + p1)), (2, .int a2)] := hl
  unfold P_X4_bringAll at hp
  refine lv_iconst (v := 0) C.1 C.2.1 dX4_bringAll_0 (by decide) ?_
  refine w_istn C (fun v => [(3, .int (v)), (0, .ref (K.1 + p0)), (1, .ref (K.1 + p1)), (2, .int a2)]) dX4_bringAll_1 rfl hl (by decide) (fun _ => rfl) hp (fun v1 ls hl hp => ?_)
  refine wl_X4_bringAll_L2 C hr hlk _ _ _ _ _ _ _ _ _ _ X (lv_sub hl [1, 2, 3, 0] rfl) hp (fun h3 H locs ls X hl hp => ?_)
  refine lv_iconst (v := 0) C.1 C.2.1 dX4_bringAll_24 (by decide) ?_
  refine w_istn C (fun v => [(3, .int (v)), (0, .ref (K.1 + p0)), (1, .ref (K.1 + p1)), (2, .int a2)]) dX4_bringAll_25 rfl hl (by decide) (fun _ => rfl) hp (fun v6 ls hl hp => ?_)
  refine lv_iconst (v := 0) C.1 C.2.1 dX4_bringAll_26 (by decide) ?_
  refine w_ist C (fun v => [(4, .int (v)), (3, .int v6), (0, .ref (K.1 + p0)), (1, .ref (K.1 + p1)), (2, .int a2)]) dX4_bringAll_27 hl (by decide) (fun _ => rfl) hp (fun v7 ls hl hp => ?_)
  exact wl_X4_bringAll_L29 C hr hlk _ _ _ _ _ _ _ _ _ _ X (lv_sub hl [2, 3, 4, 1, 0] rfl) hp

abbrev rmX5_init : Room := { frames := 2, cells := 23, slots := 8970, locals := 40 }
def P_X5_init (p0 : Nat) (h0 : Hp) : Option (Hp) :=
    nw h0 3 fun q1 h1 =>
    cv (P_X3_init q1 h1) fun h2 =>
    pr h2 p0 5 0 q1 fun h3 =>
    nw h3 0 fun q2 h4 =>
    cv (P_X0_init q2 h4) fun h5 =>
    pr h5 p0 5 1 q2 fun h6 =>
    nw h6 0 fun q3 h7 =>
    cv (P_X0_init q3 h7) fun h8 =>
    pr h8 p0 5 2 q3 fun h9 =>
    nw h9 0 fun q4 h10 =>
    cv (P_X0_init q4 h10) fun h11 =>
    pr h11 p0 5 3 q4 fun h12 =>
    nw h12 4 fun q5 h13 =>
    cv (P_X4_init q5 h13) fun h14 =>
    pr h14 p0 5 4 q5 fun h15 =>
    nw h15 1 fun q6 h16 =>
    cv (P_X1_init q6 h16) fun h17 =>
    pr h17 p0 5 5 q6 fun h18 =>
    na h18 13 fun q7 h19 =>
    pr h19 p0 5 6 q7 fun h20 =>
    na h20 7 fun q8 h21 =>
    pr h21 p0 5 7 q8 fun h22 =>
    some h22

set_option maxHeartbeats 4000000 in
set_option maxRecDepth 100000 in
theorem ct_X5_init (l : Launch) (K : Kt) (p0 : Nat) (h0 : Hp) {h' : Hp} (hp : P_X5_init p0 h0 = some h') : CT l K yX5_init cX5_init 1 none rmX5_init [.ref (K.1 + p0)] h0 (Qv K h') := by
  refine ct_of (own := RX5) (by decide +kernel) rfl (Nat.le_of_ble_eq_true rfl) ?_
  intro p e s m args below meth c C X hr hlk hm ls hl
  have hl : lv_has ls 1 [(0, .ref (K.1 + p0))] := hl
  unfold P_X5_init at hp
  refine lv_aload_n C.1 C.2.1 dX5_init_0 rfl (lv_at hl 0 rfl) ?_
  refine w_oi0 C lX5_1 hl.1 (by decide) (by decide) dX5_init_1 ?_
  refine lv_aload_n C.1 C.2.1 dX5_init_4 rfl (lv_at hl 0 rfl) ?_
  refine w_nw (cells' := 1) (slots' := 9) C X nX5_7 (by decide) (by decide) dX5_init_5 hp (fun q1 h1 H locs X hp => ?_)
  refine lv_dup C.1 C.2.1 dX5_init_8 rfl ?_
  refine w_cv (cells' := 4) (slots' := 88) X (fun _ e => run_IN (As := []) C X mX3_init rfl mnX3_init lX5_9 (ct_X3_init l K q1 h1 e) (by decide) (by decide) rfl (Nat.le_of_ble_eq_true rfl) rfl hl.1 dX5_init_9) (by decide) hp (fun h2 H locs X hp => ?_)
  refine w_prf C X fX5_10 rfl rfl hm rfl flX5_10 (fun _ => rfl) (fun _ => rfl) dX5_init_12 hp (fun H locs h3 X hp => ?_)
  refine lv_aload_n C.1 C.2.1 dX5_init_15 rfl (lv_at hl 0 rfl) ?_
  refine w_nw (cells' := 5) (slots' := 99) C X nX5_16 (by decide) (by decide) dX5_init_16 hp (fun q2 h4 H locs X hp => ?_)
  refine lv_dup C.1 C.2.1 dX5_init_19 rfl ?_
  refine w_cv (cells' := 7) (slots' := 116) X (fun _ e => run_IN (As := []) C X mX0_init rfl mnX0_init lX5_18 (ct_X0_init l K q2 h4 e) (by decide) (by decide) rfl (Nat.le_of_ble_eq_true rfl) rfl hl.1 dX5_init_20) (by decide) hp (fun h5 H locs X hp => ?_)
  refine w_prf C X fX5_19 rfl rfl hm rfl flX5_19 (fun _ => rfl) (fun _ => rfl) dX5_init_23 hp (fun H locs h6 X hp => ?_)
  refine lv_aload_n C.1 C.2.1 dX5_init_26 rfl (lv_at hl 0 rfl) ?_
  refine w_nw (cells' := 8) (slots' := 127) C X nX5_16 (by decide) (by decide) dX5_init_27 hp (fun q3 h7 H locs X hp => ?_)
  refine lv_dup C.1 C.2.1 dX5_init_30 rfl ?_
  refine w_cv (cells' := 10) (slots' := 144) X (fun _ e => run_IN (As := []) C X mX0_init rfl mnX0_init lX5_18 (ct_X0_init l K q3 h7 e) (by decide) (by decide) rfl (Nat.le_of_ble_eq_true rfl) rfl hl.1 dX5_init_31) (by decide) hp (fun h8 H locs X hp => ?_)
  refine w_prf C X fX5_23 rfl rfl hm rfl flX5_23 (fun _ => rfl) (fun _ => rfl) dX5_init_34 hp (fun H locs h9 X hp => ?_)
  refine lv_aload_n C.1 C.2.1 dX5_init_37 rfl (lv_at hl 0 rfl) ?_
  refine w_nw (cells' := 11) (slots' := 155) C X nX5_16 (by decide) (by decide) dX5_init_38 hp (fun q4 h10 H locs X hp => ?_)
  refine lv_dup C.1 C.2.1 dX5_init_41 rfl ?_
  refine w_cv (cells' := 13) (slots' := 172) X (fun _ e => run_IN (As := []) C X mX0_init rfl mnX0_init lX5_18 (ct_X0_init l K q4 h10 e) (by decide) (by decide) rfl (Nat.le_of_ble_eq_true rfl) rfl hl.1 dX5_init_42) (by decide) hp (fun h11 H locs X hp => ?_)
  refine w_prf C X fX5_26 rfl rfl hm rfl flX5_26 (fun _ => rfl) (fun _ => rfl) dX5_init_45 hp (fun H locs h12 X hp => ?_)
  refine lv_aload_n C.1 C.2.1 dX5_init_48 rfl (lv_at hl 0 rfl) ?_
  refine w_nw (cells' := 14) (slots' := 178) C X nX5_29 (by decide) (by decide) dX5_init_49 hp (fun q5 h13 H locs X hp => ?_)
  refine lv_dup C.1 C.2.1 dX5_init_52 rfl ?_
  refine w_cv (cells' := 17) (slots' := 2385) X (fun _ e => run_IN (As := []) C X mX4_init rfl mnX4_init lX5_31 (ct_X4_init l K q5 h13 e) (by decide) (by decide) rfl (Nat.le_of_ble_eq_true rfl) rfl hl.1 dX5_init_53) (by decide) hp (fun h14 H locs X hp => ?_)
  refine w_prf C X fX5_32 rfl rfl hm rfl flX5_32 (fun _ => rfl) (fun _ => rfl) dX5_init_56 hp (fun H locs h15 X hp => ?_)
  refine lv_aload_n C.1 C.2.1 dX5_init_59 rfl (lv_at hl 0 rfl) ?_
  refine w_nw (cells' := 18) (slots' := 2389) C X nX5_36 (by decide) (by decide) dX5_init_60 hp (fun q6 h16 H locs X hp => ?_)
  refine lv_dup C.1 C.2.1 dX5_init_63 rfl ?_
  refine w_cv (cells' := 21) (slots' := 8950) X (fun _ e => run_IN (As := []) C X mX1_init rfl mnX1_init lX5_38 (ct_X1_init l K q6 h16 e) (by decide) (by decide) rfl (Nat.le_of_ble_eq_true rfl) rfl hl.1 dX5_init_64) (by decide) hp (fun h17 H locs X hp => ?_)
  refine w_prf C X fX5_39 rfl rfl hm rfl flX5_39 (fun _ => rfl) (fun _ => rfl) dX5_init_67 hp (fun H locs h18 X hp => ?_)
  refine lv_aload_n C.1 C.2.1 dX5_init_70 rfl (lv_at hl 0 rfl) ?_
  refine lv_bipush (v := 13) C.1 C.2.1 dX5_init_71 (by decide) ?_
  refine w_na (cells' := 22) (slots' := 8963) (N := 13) C X (by decide +kernel) (by decide) (by decide) (by decide) dX5_init_73 hp (fun q7 h19 H locs X hp => ?_)
  refine w_prf C X fX5_43 rfl rfl hm rfl flX5_43 (fun _ => rfl) (fun _ => rfl) dX5_init_75 hp (fun H locs h20 X hp => ?_)
  refine lv_aload_n C.1 C.2.1 dX5_init_78 rfl (lv_at hl 0 rfl) ?_
  refine lv_bipush (v := 7) C.1 C.2.1 dX5_init_79 (by decide) ?_
  refine w_na (cells' := 23) (slots' := 8970) (N := 7) C X (by decide +kernel) (by decide) (by decide) (by decide) dX5_init_81 hp (fun q8 h21 H locs X hp => ?_)
  refine w_prf C X fX5_47 rfl rfl hm rfl flX5_47 (fun _ => rfl) (fun _ => rfl) dX5_init_83 hp (fun H locs h22 X hp => ?_)
  exact w_retv C X hr hlk (by decide) dX5_init_86 hp

abbrev rmX5_refuse : Room := { frames := 0, cells := 0, slots := 0, locals := 0 }
def P_X5_refuse (p0 : Nat) (a1 : Int32) (h0 : Hp) : Option (Int32 × Hp) :=
    if a1 < 0 then (
    some ((-a1), h0))
    else (
    gr h0 p0 5 7 fun q1 =>
    ln h0 q1 fun v1 =>
    if v1 ≤ a1 then (
    some ((-a1), h0))
    else (
    gr h0 p0 5 7 fun q2 =>
    al h0 q2 a1 fun v2 =>
    as h0 q2 a1 (v2 + 1) fun h1 =>
    some ((-a1), h1)))

set_option maxHeartbeats 4000000 in
set_option maxRecDepth 100000 in
theorem ct_X5_refuse (l : Launch) (K : Kt) (p0 : Nat) (a1 : Int32) (h0 : Hp) {r : Int32} {h' : Hp} (hp : P_X5_refuse p0 a1 h0 = some (r, h')) : CT l K yX5_refuse cX5_refuse 2 (some FieldType.int) rmX5_refuse [.ref (K.1 + p0), .int a1] h0 (Qi K r h') := by
  refine ct_of (own := RX5) (by decide +kernel) rfl (Nat.le_of_ble_eq_true rfl) ?_
  intro p e s m args below meth c C X hr hlk hm ls hl
  have hl : lv_has ls 2 [(0, .ref (K.1 + p0)), (1, .int a1)] := hl
  unfold P_X5_refuse at hp
  refine lv_iload_n C.1 C.2.1 dX5_refuse_0 rfl (lv_at hl 1 rfl) ?_
  refine lv_if_lt (tgt := 23) C.1 C.2.1 dX5_refuse_1 (by decide) (fun c1 => ?_) (fun c1 => ?_)
  · have hp := if_p _ c1 hp
    refine lv_iload_n C.1 C.2.1 dX5_refuse_23 rfl (lv_at hl 1 rfl) ?_
    refine lv_ineg C.1 C.2.1 dX5_refuse_24 ?_
    exact w_reti C X hr hlk (by decide) dX5_refuse_25 hp
  · have hp := if_n _ c1 hp
    refine lv_iload_n C.1 C.2.1 dX5_refuse_4 rfl (lv_at hl 1 rfl) ?_
    refine lv_aload_n C.1 C.2.1 dX5_refuse_5 rfl (lv_at hl 0 rfl) ?_
    refine w_gr C X fX5_47 rfl dX5_refuse_6 hp (fun q1 hp => ?_)
    refine w_ln C X dX5_refuse_9 hp (fun v1 hp => ?_)
    refine lv_icmp_ge (tgt := 23) C.1 C.2.1 dX5_refuse_10 (by decide) (fun c2 => ?_) (fun c2 => ?_)
    · have hp := if_p _ c2 hp
      refine lv_iload_n C.1 C.2.1 dX5_refuse_23 rfl (lv_at hl 1 rfl) ?_
      refine lv_ineg C.1 C.2.1 dX5_refuse_24 ?_
      exact w_reti C X hr hlk (by decide) dX5_refuse_25 hp
    · have hp := if_n _ c2 hp
      refine lv_aload_n C.1 C.2.1 dX5_refuse_13 rfl (lv_at hl 0 rfl) ?_
      refine w_gr C X fX5_47 rfl dX5_refuse_14 hp (fun q2 hp => ?_)
      refine lv_iload_n C.1 C.2.1 dX5_refuse_17 rfl (lv_at hl 1 rfl) ?_
      refine lv_dup2_11 C.1 C.2.1 dX5_refuse_18 rfl rfl ?_
      refine w_al C X dX5_refuse_19 hp (fun v2 hp => ?_)
      refine lv_iconst (v := 1) C.1 C.2.1 dX5_refuse_20 (by decide) ?_
      refine lv_iadd C.1 C.2.1 dX5_refuse_21 ?_
      refine w_as C X dX5_refuse_22 hp (fun H locs h1 X hp => ?_)
      refine lv_iload_n C.1 C.2.1 dX5_refuse_23 rfl (lv_at hl 1 rfl) ?_
      refine lv_ineg C.1 C.2.1 dX5_refuse_24 ?_
      exact w_reti C X hr hlk (by decide) dX5_refuse_25 hp

abbrev rmX5_letter : Room := { frames := 1, cells := 0, slots := 0, locals := 21 }
def P_X5_letter (p0 : Nat) (a1 : Int32) (h0 : Hp) : Option (Int32 × Hp) :=
    if 0 ≤ a1 then (
    if 255 < a1 then (
    rc h0 p0 5 <| ci (P_X5_refuse p0 6 h0) fun v1 h1 =>
    some (v1, h1))
    else (
    gr h0 p0 5 0 fun q1 =>
    gi h0 q1 3 1 fun v2 =>
    if v2 < 64 then (
    gr h0 p0 5 0 fun q2 =>
    rc h0 q2 3 <| ci (P_X3_append q2 a1 h0) fun v3 h2 =>
    some (v3, h2))
    else (
    rc h0 p0 5 <| ci (P_X5_refuse p0 6 h0) fun v4 h3 =>
    some (v4, h3))))
    else (
    rc h0 p0 5 <| ci (P_X5_refuse p0 4 h0) fun v5 h4 =>
    some (v5, h4))

set_option maxHeartbeats 4000000 in
set_option maxRecDepth 100000 in
theorem ct_X5_letter (l : Launch) (K : Kt) (p0 : Nat) (a1 : Int32) (h0 : Hp) {r : Int32} {h' : Hp} (hp : P_X5_letter p0 a1 h0 = some (r, h')) : CT l K yX5_letter cX5_letter 2 (some FieldType.int) rmX5_letter [.ref (K.1 + p0), .int a1] h0 (Qi K r h') := by
  refine ct_of (own := RX5) (by decide +kernel) rfl (Nat.le_of_ble_eq_true rfl) ?_
  intro p e s m args below meth c C X hr hlk hm ls hl
  have hl : lv_has ls 2 [(0, .ref (K.1 + p0)), (1, .int a1)] := hl
  unfold P_X5_letter at hp
  refine lv_iload_n C.1 C.2.1 dX5_letter_0 rfl (lv_at hl 1 rfl) ?_
  refine lv_if_ge (tgt := 10) C.1 C.2.1 dX5_letter_1 (by decide) (fun c1 => ?_) (fun c1 => ?_)
  · have hp := if_p _ c1 hp
    refine lv_iload_n C.1 C.2.1 dX5_letter_10 rfl (lv_at hl 1 rfl) ?_
    refine lv_sipush (v := 255) C.1 C.2.1 dX5_letter_11 (by decide) ?_
    refine lv_icmp_gt (tgt := 29) C.1 C.2.1 dX5_letter_14 (by decide) (fun c2 => ?_) (fun c2 => ?_)
    · have hp := if_p _ c2 hp
      refine lv_aload_n C.1 C.2.1 dX5_letter_29 rfl (lv_at hl 0 rfl) ?_
      refine lv_bipush (v := 6) C.1 C.2.1 dX5_letter_30 (by decide) ?_
      have hrc := (rc_some hp).1
      have hp := (rc_some hp).2
      refine w_ci (cells' := 0) (slots' := 0) X (fun _ _ e => run_V (As := [.int 6]) (c0 := 5) C X mX5_refuse miX5_refuse lX5_50 (by decide) rfl hrc (ct_X5_refuse l K p0 6 h0 e) (by decide) (by decide) rfl (by decide) rfl hl.1 dX5_letter_32) (by decide) hp (fun v1 h1 H locs X hp => ?_)
      exact w_reti C X hr hlk (by decide) dX5_letter_35 hp
    · have hp := if_n _ c2 hp
      refine lv_aload_n C.1 C.2.1 dX5_letter_17 rfl (lv_at hl 0 rfl) ?_
      refine w_gr C X fX5_10 rfl dX5_letter_18 hp (fun q1 hp => ?_)
      refine w_gi C X fX5_54 rfl dX5_letter_21 hp (fun v2 hp => ?_)
      refine lv_bipush (v := 64) C.1 C.2.1 dX5_letter_24 (by decide) ?_
      refine lv_icmp_lt (tgt := 36) C.1 C.2.1 dX5_letter_26 (by decide) (fun c3 => ?_) (fun c3 => ?_)
      · have hp := if_p _ c3 hp
        refine lv_aload_n C.1 C.2.1 dX5_letter_36 rfl (lv_at hl 0 rfl) ?_
        refine w_gr C X fX5_10 rfl dX5_letter_37 hp (fun q2 hp => ?_)
        refine lv_iload_n C.1 C.2.1 dX5_letter_40 rfl (lv_at hl 1 rfl) ?_
        have hrc := (rc_some hp).1
        have hp := (rc_some hp).2
        refine w_ci (cells' := 0) (slots' := 0) X (fun _ _ e => run_VN (As := [.int a1]) (c0 := 3) C X mX3_append miX3_append lX5_58 (by decide) rfl hrc (ct_X3_append l K q2 a1 h0 e) (by decide) (by decide) rfl (by decide) rfl hl.1 dX5_letter_41) (by decide) hp (fun v3 h2 H locs X hp => ?_)
        exact w_reti C X hr hlk (by decide) dX5_letter_44 hp
      · have hp := if_n _ c3 hp
        refine lv_aload_n C.1 C.2.1 dX5_letter_29 rfl (lv_at hl 0 rfl) ?_
        refine lv_bipush (v := 6) C.1 C.2.1 dX5_letter_30 (by decide) ?_
        have hrc := (rc_some hp).1
        have hp := (rc_some hp).2
        refine w_ci (cells' := 0) (slots' := 0) X (fun _ _ e => run_V (As := [.int 6]) (c0 := 5) C X mX5_refuse miX5_refuse lX5_50 (by decide) rfl hrc (ct_X5_refuse l K p0 6 h0 e) (by decide) (by decide) rfl (by decide) rfl hl.1 dX5_letter_32) (by decide) hp (fun v4 h3 H locs X hp => ?_)
        exact w_reti C X hr hlk (by decide) dX5_letter_35 hp
  · have hp := if_n _ c1 hp
    refine lv_aload_n C.1 C.2.1 dX5_letter_4 rfl (lv_at hl 0 rfl) ?_
    refine lv_iconst (v := 4) C.1 C.2.1 dX5_letter_5 (by decide) ?_
    have hrc := (rc_some hp).1
    have hp := (rc_some hp).2
    refine w_ci (cells' := 0) (slots' := 0) X (fun _ _ e => run_V (As := [.int 4]) (c0 := 5) C X mX5_refuse miX5_refuse lX5_50 (by decide) rfl hrc (ct_X5_refuse l K p0 4 h0 e) (by decide) (by decide) rfl (by decide) rfl hl.1 dX5_letter_6) (by decide) hp (fun v5 h4 H locs X hp => ?_)
    exact w_reti C X hr hlk (by decide) dX5_letter_9 hp

abbrev rmX5_readHouse : Room := { frames := 5, cells := 65, slots := 260, locals := 104 }
def P_X5_readHouse_L38 : Nat → Nat → Int32 → Hp → Option (Int32 × Hp)
  | 0, _, _, _ => none
  | n + 1, q5, v4, h4 =>
    gr h4 q5 5 0 fun q6 =>
    gi h4 q6 3 2 fun v5 =>
    gr h4 q5 5 0 fun q7 =>
    gi h4 q7 3 1 fun v6 =>
    if v6 ≤ v5 then (
    gr h4 q5 5 1 fun q8 =>
    gr h4 q5 5 2 fun q9 =>
    rc h4 q8 0 <| cv (P_X0_become q8 q9 h4) fun h5 =>
    some (v4, h5))
    else (
    if 64 ≤ v4 then (
    gr h4 q5 5 1 fun q10 =>
    gr h4 q5 5 2 fun q11 =>
    rc h4 q10 0 <| cv (P_X0_become q10 q11 h4) fun h6 =>
    some (v4, h6))
    else (
    gr h4 q5 5 0 fun q12 =>
    gi h4 q12 3 2 fun v7 =>
    lt (v7 : Int32) fun v8 =>
    gr h4 q5 5 0 fun q13 =>
    rc h4 q13 3 <| ci (P_X3_readStatement q13 h4) fun v9 h7 =>
    if v9 = 0 then (
    some (((-2000) - v8), h7))
    else (
    gr h7 q5 5 2 fun q14 =>
    gr h7 q5 5 0 fun q15 =>
    rc h7 q14 0 <| ci (P_X0_obeys q14 q15 h7) fun v10 h8 =>
    if v10 = 0 then (
    some (((-2000) - v8), h8))
    else (
    lt ((v4 + 1) : Int32) fun v11 =>
    P_X5_readHouse_L38 n q5 v11 h8))))

def P_X5_readHouse (p0 : Nat) (h0 : Hp) : Option (Int32 × Hp) :=
    gr h0 p0 5 0 fun q1 =>
    rc h0 q1 3 <| ci (P_X3_misplaced q1 h0) fun v1 h1 =>
    lt (v1 : Int32) fun v2 =>
    if v2 < 0 then (
    gr h1 p0 5 2 fun q2 =>
    gr h1 p0 5 1 fun q3 =>
    rc h1 q2 0 <| cv (P_X0_become q2 q3 h1) fun h2 =>
    gr h2 p0 5 0 fun q4 =>
    rc h2 q4 3 <| cv (P_X3_rewind q4 h2) fun h3 =>
    lt (0 : Int32) fun v3 =>
    P_X5_readHouse_L38 65 p0 v3 h3)
    else (
    some (((-1000) - v2), h1))

set_option maxHeartbeats 4000000 in
set_option maxRecDepth 100000 in
theorem wl_X5_readHouse_L38 (C : CX K p m c cX5_readHouse 4 s args RX5) (hr : meth.sig.returnType = (some FieldType.int)) (hlk : meth.locks = false) {r : Int32} {h' : Hp} : ∀ (n : Nat) (cn sn : Nat) (q5 : Nat) (v4 : Int32) (h4 : Hp) (H : Heap) (locs : List Loc) (ls : Array Slot), HX K s.heap H locs h4 → lv_has ls 4 [(0, .ref (K.1 + q5)), (2, .int v4)] → cn + 1 * n ≤ 65 → sn + 4 * n ≤ 260 → P_X5_readHouse_L38 n q5 v4 h4 = some (r, h') → W p l e rmX5_readHouse s m args below meth c H locs cn sn (MQ below (Qi K r h') args s rmX5_readHouse.cells rmX5_readHouse.slots (KA K)) (F0 m 38 ls []) := by
  intro n
  induction n with
  | zero =>
    intro cn sn q5 v4 h4 H locs ls X hl hcn hsn hp
    cases hp
  | succ n ih =>
    intro cn sn q5 v4 h4 H locs ls X hl hcn hsn hp
    unfold P_X5_readHouse_L38 at hp
    refine lv_aload_n C.1 C.2.1 dX5_readHouse_38 rfl (lv_at hl 0 rfl) ?_
    refine w_gr C X fX5_10 rfl dX5_readHouse_39 hp (fun q6 hp => ?_)
    refine w_gi C X fX5_78 rfl dX5_readHouse_42 hp (fun v5 hp => ?_)
    refine lv_aload_n C.1 C.2.1 dX5_readHouse_45 rfl (lv_at hl 0 rfl) ?_
    refine w_gr C X fX5_10 rfl dX5_readHouse_46 hp (fun q7 hp => ?_)
    refine w_gi C X fX5_54 rfl dX5_readHouse_49 hp (fun v6 hp => ?_)
    refine lv_icmp_ge (tgt := 105) C.1 C.2.1 dX5_readHouse_52 (by decide) (fun c2 => ?_) (fun c2 => ?_)
    · have hp := if_p _ c2 hp
      refine lv_aload_n C.1 C.2.1 dX5_readHouse_105 rfl (lv_at hl 0 rfl) ?_
      refine w_gr C X fX5_19 rfl dX5_readHouse_106 hp (fun q8 hp => ?_)
      refine lv_aload_n C.1 C.2.1 dX5_readHouse_109 rfl (lv_at hl 0 rfl) ?_
      refine w_gr C X fX5_23 rfl dX5_readHouse_110 hp (fun q9 hp => ?_)
      have hrc := (rc_some hp).1
      have hp := (rc_some hp).2
      refine w_cv (cells' := cn) (slots' := sn) X (fun _ e => run_VN (As := [.ref (K.1 + q9)]) (c0 := 0) C X mX0_become miX0_become lX5_71 (by decide) rfl hrc (ct_X0_become l K q8 q9 h4 e) (by decide) ⟨show cn + 0 ≤ 65 by omega, show sn + 0 ≤ 260 by omega⟩ rfl (by decide) rfl hl.1 dX5_readHouse_113) ⟨rfl, rfl⟩ hp (fun h5 H locs X hp => ?_)
      refine lv_iload_n C.1 C.2.1 dX5_readHouse_116 rfl (lv_at hl 1 rfl) ?_
      exact w_reti C X hr hlk ⟨show cn ≤ 65 by omega, show sn ≤ 260 by omega⟩ dX5_readHouse_117 hp
    · have hp := if_n _ c2 hp
      refine lv_iload_n C.1 C.2.1 dX5_readHouse_55 rfl (lv_at hl 1 rfl) ?_
      refine lv_bipush (v := 64) C.1 C.2.1 dX5_readHouse_56 (by decide) ?_
      refine lv_icmp_ge (tgt := 105) C.1 C.2.1 dX5_readHouse_58 (by decide) (fun c3 => ?_) (fun c3 => ?_)
      · have hp := if_p _ c3 hp
        refine lv_aload_n C.1 C.2.1 dX5_readHouse_105 rfl (lv_at hl 0 rfl) ?_
        refine w_gr C X fX5_19 rfl dX5_readHouse_106 hp (fun q10 hp => ?_)
        refine lv_aload_n C.1 C.2.1 dX5_readHouse_109 rfl (lv_at hl 0 rfl) ?_
        refine w_gr C X fX5_23 rfl dX5_readHouse_110 hp (fun q11 hp => ?_)
        have hrc := (rc_some hp).1
        have hp := (rc_some hp).2
        refine w_cv (cells' := cn) (slots' := sn) X (fun _ e => run_VN (As := [.ref (K.1 + q11)]) (c0 := 0) C X mX0_become miX0_become lX5_71 (by decide) rfl hrc (ct_X0_become l K q10 q11 h4 e) (by decide) ⟨show cn + 0 ≤ 65 by omega, show sn + 0 ≤ 260 by omega⟩ rfl (by decide) rfl hl.1 dX5_readHouse_113) ⟨rfl, rfl⟩ hp (fun h6 H locs X hp => ?_)
        refine lv_iload_n C.1 C.2.1 dX5_readHouse_116 rfl (lv_at hl 1 rfl) ?_
        exact w_reti C X hr hlk ⟨show cn ≤ 65 by omega, show sn ≤ 260 by omega⟩ dX5_readHouse_117 hp
      · have hp := if_n _ c3 hp
        refine lv_aload_n C.1 C.2.1 dX5_readHouse_61 rfl (lv_at hl 0 rfl) ?_
        refine w_gr C X fX5_10 rfl dX5_readHouse_62 hp (fun q12 hp => ?_)
        refine w_gi C X fX5_78 rfl dX5_readHouse_65 hp (fun v7 hp => ?_)
        refine w_istn C (fun v => [(3, .int (v)), (0, .ref (K.1 + q5)), (2, .int v4)]) dX5_readHouse_68 rfl hl (by decide) (fun _ => rfl) hp (fun v8 ls hl hp => ?_)
        refine lv_aload_n C.1 C.2.1 dX5_readHouse_69 rfl (lv_at hl 1 rfl) ?_
        refine w_gr C X fX5_10 rfl dX5_readHouse_70 hp (fun q13 hp => ?_)
        have hrc := (rc_some hp).1
        have hp := (rc_some hp).2
        refine w_ci (cells' := cn) (slots' := sn) X (fun _ _ e => run_VN (As := []) (c0 := 3) C X mX3_readStatement miX3_readStatement lX5_81 (by decide) rfl hrc (ct_X3_readStatement l K q13 h4 e) (by decide) ⟨show cn + 0 ≤ 65 by omega, show sn + 0 ≤ 260 by omega⟩ rfl (by decide) rfl hl.1 dX5_readHouse_73) ⟨rfl, rfl⟩ hp (fun v9 h7 H locs X hp => ?_)
        refine lv_if_eq (tgt := 93) C.1 C.2.1 dX5_readHouse_76 (by decide) (fun c4 => ?_) (fun c4 => ?_)
        · have hp := if_p _ c4 hp
          refine lv_sipush (v := -2000) C.1 C.2.1 dX5_readHouse_93 (by decide) ?_
          refine lv_iload_n C.1 C.2.1 dX5_readHouse_96 rfl (lv_at hl 0 rfl) ?_
          refine lv_isub C.1 C.2.1 dX5_readHouse_97 ?_
          exact w_reti C X hr hlk ⟨show cn ≤ 65 by omega, show sn ≤ 260 by omega⟩ dX5_readHouse_98 hp
        · have hp := if_n _ c4 hp
          refine lv_aload_n C.1 C.2.1 dX5_readHouse_79 rfl (lv_at hl 1 rfl) ?_
          refine w_gr C X fX5_23 rfl dX5_readHouse_80 hp (fun q14 hp => ?_)
          refine lv_aload_n C.1 C.2.1 dX5_readHouse_83 rfl (lv_at hl 1 rfl) ?_
          refine w_gr C X fX5_10 rfl dX5_readHouse_84 hp (fun q15 hp => ?_)
          have hrc := (rc_some hp).1
          have hp := (rc_some hp).2
          refine w_ci (cells' := (cn + 1)) (slots' := (sn + 4)) X (fun _ _ e => run_VN (As := [.ref (K.1 + q15)]) (c0 := 0) C X mX0_obeys miX0_obeys lX5_85 (by decide) rfl hrc (ct_X0_obeys l K q14 q15 h7 e) (by decide) ⟨show cn + 1 ≤ 65 by omega, show sn + 4 ≤ 260 by omega⟩ rfl (by decide) rfl hl.1 dX5_readHouse_87) ⟨rfl, rfl⟩ hp (fun v10 h8 H locs X hp => ?_)
          refine lv_if_ne (tgt := 99) C.1 C.2.1 dX5_readHouse_90 (by decide) (fun c5 => ?_) (fun c5 => ?_)
          · have hp := if_n _ c5 hp
            refine w_inc (k := 2) C (fun v => [(2, .int (v)), (3, .int v8), (0, .ref (K.1 + q5))]) dX5_readHouse_99 hl rfl (y := (v4 + 1)) rfl (by decide) (fun _ => rfl) hp (fun v11 ls hl hp => ?_)
            refine lv_goto (tgt := 38) C.1 C.2.1 dX5_readHouse_102 (by decide) ?_
            exact ih _ _ _ _ _ _ _ _ X (lv_sub hl [2, 0] rfl) (by omega) (by omega) hp
          · have hp := if_p _ c5 hp
            refine lv_sipush (v := -2000) C.1 C.2.1 dX5_readHouse_93 (by decide) ?_
            refine lv_iload_n C.1 C.2.1 dX5_readHouse_96 rfl (lv_at hl 0 rfl) ?_
            refine lv_isub C.1 C.2.1 dX5_readHouse_97 ?_
            exact w_reti C X hr hlk ⟨show (cn + 1) ≤ 65 by omega, show (sn + 4) ≤ 260 by omega⟩ dX5_readHouse_98 hp

set_option maxHeartbeats 4000000 in
set_option maxRecDepth 100000 in
theorem ct_X5_readHouse (l : Launch) (K : Kt) (p0 : Nat) (h0 : Hp) {r : Int32} {h' : Hp} (hp : P_X5_readHouse p0 h0 = some (r, h')) : CT l K yX5_readHouse cX5_readHouse 4 (some FieldType.int) rmX5_readHouse [.ref (K.1 + p0)] h0 (Qi K r h') := by
  refine ct_of (own := RX5) (by decide +kernel) rfl (Nat.le_of_ble_eq_true rfl) ?_
  intro p e s m args below meth c C X hr hlk hm ls hl
  have hl : lv_has ls 4 [(0, .ref (K.1 + p0))] := hl
  unfold P_X5_readHouse at hp
  refine lv_aload_n C.1 C.2.1 dX5_readHouse_0 rfl (lv_at hl 0 rfl) ?_
  refine w_gr C X fX5_10 rfl dX5_readHouse_1 hp (fun q1 hp => ?_)
  have hrc := (rc_some hp).1
  have hp := (rc_some hp).2
  refine w_ci (cells' := 0) (slots' := 0) X (fun _ _ e => run_VN (As := []) (c0 := 3) C X mX3_misplaced miX3_misplaced lX5_68 (by decide) rfl hrc (ct_X3_misplaced l K q1 h0 e) (by decide) (by decide) rfl (by decide) rfl hl.1 dX5_readHouse_4) (by decide) hp (fun v1 h1 H locs X hp => ?_)
  refine w_istn C (fun v => [(1, .int (v)), (0, .ref (K.1 + p0))]) dX5_readHouse_7 rfl hl (by decide) (fun _ => rfl) hp (fun v2 ls hl hp => ?_)
  refine lv_iload_n C.1 C.2.1 dX5_readHouse_8 rfl (lv_at hl 0 rfl) ?_
  refine lv_if_lt (tgt := 18) C.1 C.2.1 dX5_readHouse_9 (by decide) (fun c1 => ?_) (fun c1 => ?_)
  · have hp := if_p _ c1 hp
    refine lv_aload_n C.1 C.2.1 dX5_readHouse_18 rfl (lv_at hl 1 rfl) ?_
    refine w_gr C X fX5_23 rfl dX5_readHouse_19 hp (fun q2 hp => ?_)
    refine lv_aload_n C.1 C.2.1 dX5_readHouse_22 rfl (lv_at hl 1 rfl) ?_
    refine w_gr C X fX5_19 rfl dX5_readHouse_23 hp (fun q3 hp => ?_)
    have hrc := (rc_some hp).1
    have hp := (rc_some hp).2
    refine w_cv (cells' := 0) (slots' := 0) X (fun _ e => run_VN (As := [.ref (K.1 + q3)]) (c0 := 0) C X mX0_become miX0_become lX5_71 (by decide) rfl hrc (ct_X0_become l K q2 q3 h1 e) (by decide) (by decide) rfl (by decide) rfl hl.1 dX5_readHouse_26) (by decide) hp (fun h2 H locs X hp => ?_)
    refine lv_aload_n C.1 C.2.1 dX5_readHouse_29 rfl (lv_at hl 1 rfl) ?_
    refine w_gr C X fX5_10 rfl dX5_readHouse_30 hp (fun q4 hp => ?_)
    have hrc := (rc_some hp).1
    have hp := (rc_some hp).2
    refine w_cv (cells' := 0) (slots' := 0) X (fun _ e => run_VN (As := []) (c0 := 3) C X mX3_rewind miX3_rewind lX5_75 (by decide) rfl hrc (ct_X3_rewind l K q4 h2 e) (by decide) (by decide) rfl (by decide) rfl hl.1 dX5_readHouse_33) (by decide) hp (fun h3 H locs X hp => ?_)
    refine lv_iconst (v := 0) C.1 C.2.1 dX5_readHouse_36 (by decide) ?_
    refine w_istn C (fun v => [(2, .int (v)), (1, .int v2), (0, .ref (K.1 + p0))]) dX5_readHouse_37 rfl hl (by decide) (fun _ => rfl) hp (fun v3 ls hl hp => ?_)
    exact wl_X5_readHouse_L38 C hr hlk _ 0 0 _ _ _ _ _ _ X (lv_sub hl [2, 0] rfl) (by decide) (by decide) hp
  · have hp := if_n _ c1 hp
    refine lv_sipush (v := -1000) C.1 C.2.1 dX5_readHouse_12 (by decide) ?_
    refine lv_iload_n C.1 C.2.1 dX5_readHouse_15 rfl (lv_at hl 0 rfl) ?_
    refine lv_isub C.1 C.2.1 dX5_readHouse_16 ?_
    exact w_reti C X hr hlk (by decide) dX5_readHouse_17 hp

abbrev rmX5_house : Room := { frames := 6, cells := 65, slots := 260, locals := 127 }
def P_X5_house (p0 : Nat) (h0 : Hp) : Option (Int32 × Hp) :=
    rc h0 p0 5 <| ci (P_X5_readHouse p0 h0) fun v1 h1 =>
    lt (v1 : Int32) fun v2 =>
    gr h1 p0 5 0 fun q1 =>
    rc h1 q1 3 <| cv (P_X3_wipe q1 h1) fun h2 =>
    some (v2, h2)

set_option maxHeartbeats 4000000 in
set_option maxRecDepth 100000 in
theorem ct_X5_house (l : Launch) (K : Kt) (p0 : Nat) (h0 : Hp) {r : Int32} {h' : Hp} (hp : P_X5_house p0 h0 = some (r, h')) : CT l K yX5_house cX5_house 2 (some FieldType.int) rmX5_house [.ref (K.1 + p0)] h0 (Qi K r h') := by
  refine ct_of (own := RX5) (by decide +kernel) rfl (Nat.le_of_ble_eq_true rfl) ?_
  intro p e s m args below meth c C X hr hlk hm ls hl
  have hl : lv_has ls 2 [(0, .ref (K.1 + p0))] := hl
  unfold P_X5_house at hp
  refine lv_aload_n C.1 C.2.1 dX5_house_0 rfl (lv_at hl 0 rfl) ?_
  have hrc := (rc_some hp).1
  have hp := (rc_some hp).2
  refine w_ci (cells' := 65) (slots' := 260) X (fun _ _ e => run_V (As := []) (c0 := 5) C X mX5_readHouse miX5_readHouse lX5_61 (by decide) rfl hrc (ct_X5_readHouse l K p0 h0 e) (by decide) (by decide) rfl (by decide) rfl hl.1 dX5_house_1) (by decide) hp (fun v1 h1 H locs X hp => ?_)
  refine w_istn C (fun v => [(1, .int (v)), (0, .ref (K.1 + p0))]) dX5_house_4 rfl hl (by decide) (fun _ => rfl) hp (fun v2 ls hl hp => ?_)
  refine lv_aload_n C.1 C.2.1 dX5_house_5 rfl (lv_at hl 1 rfl) ?_
  refine w_gr C X fX5_10 rfl dX5_house_6 hp (fun q1 hp => ?_)
  have hrc := (rc_some hp).1
  have hp := (rc_some hp).2
  refine w_cv (cells' := 65) (slots' := 260) X (fun _ e => run_VN (As := []) (c0 := 3) C X mX3_wipe miX3_wipe lX5_65 (by decide) rfl hrc (ct_X3_wipe l K q1 h1 e) (by decide) (by decide) rfl (by decide) rfl hl.1 dX5_house_9) (by decide) hp (fun h2 H locs X hp => ?_)
  refine lv_iload_n C.1 C.2.1 dX5_house_12 rfl (lv_at hl 0 rfl) ?_
  exact w_reti C X hr hlk (by decide) dX5_house_13 hp

abbrev rmX5_door : Room := { frames := 4, cells := 0, slots := 0, locals := 83 }
def P_X5_door (p0 : Nat) (a1 : Int32) (a2 : Int32) (h0 : Hp) : Option (Int32 × Hp) :=
    gr h0 p0 5 1 fun q1 =>
    rc h0 q1 0 <| ci (P_X0_hasDoor q1 a1 h0) fun v1 h1 =>
    if v1 = 0 then (
    rc h1 p0 5 <| ci (P_X5_refuse p0 1 h1) fun v7 h6 =>
    some (v7, h6))
    else (
    if a2 = 0 then (
    gr h1 p0 5 1 fun q2 =>
    gi h1 q2 0 7 fun v2 =>
    ci (P_X5_wayOf v2 a1 h1) fun v3 h2 =>
    some (v3, h2))
    else if a2 = 1 then (
    gr h1 p0 5 1 fun q3 =>
    rc h1 q3 0 <| ci (P_X0_wishFor q3 a1 h1) fun v4 h3 =>
    some (v4, h3))
    else if a2 = 2 then (
    gr h1 p0 5 1 fun q4 =>
    rc h1 q4 0 <| ci (P_X0_isStuck q4 a1 h1) fun v5 h4 =>
    if v5 = 0 then (
    some (0, h4))
    else (
    some (1, h4)))
    else (
    rc h1 p0 5 <| ci (P_X5_refuse p0 2 h1) fun v6 h5 =>
    some (v6, h5)))

set_option maxHeartbeats 4000000 in
set_option maxRecDepth 100000 in
theorem ct_X5_door (l : Launch) (K : Kt) (p0 : Nat) (a1 : Int32) (a2 : Int32) (h0 : Hp) {r : Int32} {h' : Hp} (hp : P_X5_door p0 a1 a2 h0 = some (r, h')) : CT l K yX5_door cX5_door 3 (some FieldType.int) rmX5_door [.ref (K.1 + p0), .int a1, .int a2] h0 (Qi K r h') := by
  refine ct_of (own := RX5) (by decide +kernel) rfl (Nat.le_of_ble_eq_true rfl) ?_
  intro p e s m args below meth c C X hr hlk hm ls hl
  have hl : lv_has ls 3 [(0, .ref (K.1 + p0)), (1, .int a1), (2, .int a2)] := hl
  unfold P_X5_door at hp
  refine lv_aload_n C.1 C.2.1 dX5_door_0 rfl (lv_at hl 0 rfl) ?_
  refine w_gr C X fX5_19 rfl dX5_door_1 hp (fun q1 hp => ?_)
  refine lv_iload_n C.1 C.2.1 dX5_door_4 rfl (lv_at hl 1 rfl) ?_
  have hrc := (rc_some hp).1
  have hp := (rc_some hp).2
  refine w_ci (cells' := 0) (slots' := 0) X (fun _ _ e => run_VN (As := [.int a1]) (c0 := 0) C X mX0_hasDoor miX0_hasDoor lX5_89 (by decide) rfl hrc (ct_X0_hasDoor l K q1 a1 h0 e) (by decide) (by decide) rfl (by decide) rfl hl.1 dX5_door_5) (by decide) hp (fun v1 h1 H locs X hp => ?_)
  refine lv_if_ne (tgt := 17) C.1 C.2.1 dX5_door_8 (by decide) (fun c1 => ?_) (fun c1 => ?_)
  · have hp := if_n _ c1 hp
    refine lv_iload_n C.1 C.2.1 dX5_door_17 rfl (lv_at hl 2 rfl) ?_
    by_cases c2 : a2 = 0
    · have hp := if_p _ c2 hp
      refine w_tsC (tgt := 44) C dX5_door_18 c2 (by decide) (by decide) rfl (by decide) ?_
      refine lv_aload_n C.1 C.2.1 dX5_door_44 rfl (lv_at hl 0 rfl) ?_
      refine w_gr C X fX5_19 rfl dX5_door_45 hp (fun q2 hp => ?_)
      refine w_gi C X fX5_93 rfl dX5_door_48 hp (fun v2 hp => ?_)
      refine lv_iload_n C.1 C.2.1 dX5_door_51 rfl (lv_at hl 1 rfl) ?_
      refine w_ci (cells' := 0) (slots' := 0) X (fun _ _ e => run_S (As := [.int v2, .int a1]) C X mX5_wayOf msX5_wayOf lX5_96 (ct_X5_wayOf l K v2 a1 h1 e) (by decide) (by decide) rfl (by decide) rfl hl.1 dX5_door_52) (by decide) hp (fun v3 h2 H locs X hp => ?_)
      exact w_reti C X hr hlk (by decide) dX5_door_55 hp
    · have hp := if_n _ c2 hp
      by_cases c3 : a2 = 1
      · have hp := if_p _ c3 hp
        refine w_tsC (tgt := 56) C dX5_door_18 c3 (by decide) (by decide) rfl (by decide) ?_
        refine lv_aload_n C.1 C.2.1 dX5_door_56 rfl (lv_at hl 0 rfl) ?_
        refine w_gr C X fX5_19 rfl dX5_door_57 hp (fun q3 hp => ?_)
        refine lv_iload_n C.1 C.2.1 dX5_door_60 rfl (lv_at hl 1 rfl) ?_
        have hrc := (rc_some hp).1
        have hp := (rc_some hp).2
        refine w_ci (cells' := 0) (slots' := 0) X (fun _ _ e => run_VN (As := [.int a1]) (c0 := 0) C X mX0_wishFor miX0_wishFor lX5_100 (by decide) rfl hrc (ct_X0_wishFor l K q3 a1 h1 e) (by decide) (by decide) rfl (by decide) rfl hl.1 dX5_door_61) (by decide) hp (fun v4 h3 H locs X hp => ?_)
        exact w_reti C X hr hlk (by decide) dX5_door_64 hp
      · have hp := if_n _ c3 hp
        by_cases c4 : a2 = 2
        · have hp := if_p _ c4 hp
          refine w_tsC (tgt := 65) C dX5_door_18 c4 (by decide) (by decide) rfl (by decide) ?_
          refine lv_aload_n C.1 C.2.1 dX5_door_65 rfl (lv_at hl 0 rfl) ?_
          refine w_gr C X fX5_19 rfl dX5_door_66 hp (fun q4 hp => ?_)
          refine lv_iload_n C.1 C.2.1 dX5_door_69 rfl (lv_at hl 1 rfl) ?_
          have hrc := (rc_some hp).1
          have hp := (rc_some hp).2
          refine w_ci (cells' := 0) (slots' := 0) X (fun _ _ e => run_VN (As := [.int a1]) (c0 := 0) C X mX0_isStuck miX0_isStuck lX5_103 (by decide) rfl hrc (ct_X0_isStuck l K q4 a1 h1 e) (by decide) (by decide) rfl (by decide) rfl hl.1 dX5_door_70) (by decide) hp (fun v5 h4 H locs X hp => ?_)
          refine lv_if_eq (tgt := 80) C.1 C.2.1 dX5_door_73 (by decide) (fun c5 => ?_) (fun c5 => ?_)
          · have hp := if_p _ c5 hp
            refine lv_iconst (v := 0) C.1 C.2.1 dX5_door_80 (by decide) ?_
            exact w_reti C X hr hlk (by decide) dX5_door_81 hp
          · have hp := if_n _ c5 hp
            refine lv_iconst (v := 1) C.1 C.2.1 dX5_door_76 (by decide) ?_
            refine lv_goto (tgt := 81) C.1 C.2.1 dX5_door_77 (by decide) ?_
            exact w_reti C X hr hlk (by decide) dX5_door_81 hp
        · have hp := if_n _ c4 hp
          refine w_tsD (tgt := 82) C [0, 1, 2] dX5_door_18 (by intro k hk; simp only [List.mem_cons, List.not_mem_nil, or_false] at hk; rcases hk with hk | hk | hk <;> subst hk <;> assumption) (by decide) (by decide) (by decide) ?_
          refine lv_aload_n C.1 C.2.1 dX5_door_82 rfl (lv_at hl 0 rfl) ?_
          refine lv_iconst (v := 2) C.1 C.2.1 dX5_door_83 (by decide) ?_
          have hrc := (rc_some hp).1
          have hp := (rc_some hp).2
          refine w_ci (cells' := 0) (slots' := 0) X (fun _ _ e => run_V (As := [.int 2]) (c0 := 5) C X mX5_refuse miX5_refuse lX5_50 (by decide) rfl hrc (ct_X5_refuse l K p0 2 h1 e) (by decide) (by decide) rfl (by decide) rfl hl.1 dX5_door_84) (by decide) hp (fun v6 h5 H locs X hp => ?_)
          exact w_reti C X hr hlk (by decide) dX5_door_87 hp
  · have hp := if_p _ c1 hp
    refine lv_aload_n C.1 C.2.1 dX5_door_11 rfl (lv_at hl 0 rfl) ?_
    refine lv_iconst (v := 1) C.1 C.2.1 dX5_door_12 (by decide) ?_
    have hrc := (rc_some hp).1
    have hp := (rc_some hp).2
    refine w_ci (cells' := 0) (slots' := 0) X (fun _ _ e => run_V (As := [.int 1]) (c0 := 5) C X mX5_refuse miX5_refuse lX5_50 (by decide) rfl hrc (ct_X5_refuse l K p0 1 h1 e) (by decide) (by decide) rfl (by decide) rfl hl.1 dX5_door_13) (by decide) hp (fun v7 h6 H locs X hp => ?_)
    exact w_reti C X hr hlk (by decide) dX5_door_16 hp

abbrev rmX5_person : Room := { frames := 3, cells := 0, slots := 0, locals := 68 }
def P_X5_person (p0 : Nat) (a1 : Int32) (a2 : Int32) (h0 : Hp) : Option (Int32 × Hp) :=
    gr h0 p0 5 1 fun q1 =>
    rc h0 q1 0 <| ci (P_X0_goerOf q1 a1 h0) fun o1 h1 =>
    nn o1 (
    rc h1 p0 5 <| ci (P_X5_refuse p0 1 h1) fun v1 h2 =>
    some (v1, h2)) fun q2 =>
    if a2 = 0 then (
    gi h1 q2 2 0 fun v2 =>
    some (v2, h1))
    else if a2 = 1 then (
    gi h1 q2 2 1 fun v3 =>
    some (v3, h1))
    else if a2 = 2 then (
    gi h1 q2 2 2 fun v4 =>
    some (v4, h1))
    else if a2 = 3 then (
    gi h1 q2 2 3 fun v5 =>
    some (v5, h1))
    else if a2 = 4 then (
    gr h1 p0 5 1 fun q3 =>
    rc h1 q3 0 <| ci (P_X0_turnsOf q3 a1 h1) fun v6 h3 =>
    some (v6, h3))
    else (
    rc h1 p0 5 <| ci (P_X5_refuse p0 2 h1) fun v7 h4 =>
    some (v7, h4))

set_option maxHeartbeats 4000000 in
set_option maxRecDepth 100000 in
theorem ct_X5_person (l : Launch) (K : Kt) (p0 : Nat) (a1 : Int32) (a2 : Int32) (h0 : Hp) {r : Int32} {h' : Hp} (hp : P_X5_person p0 a1 a2 h0 = some (r, h')) : CT l K yX5_person cX5_person 4 (some FieldType.int) rmX5_person [.ref (K.1 + p0), .int a1, .int a2] h0 (Qi K r h') := by
  refine ct_of (own := RX5) (by decide +kernel) rfl (Nat.le_of_ble_eq_true rfl) ?_
  intro p e s m args below meth c C X hr hlk hm ls hl
  have hl : lv_has ls 4 [(0, .ref (K.1 + p0)), (1, .int a1), (2, .int a2)] := hl
  unfold P_X5_person at hp
  refine lv_aload_n C.1 C.2.1 dX5_person_0 rfl (lv_at hl 0 rfl) ?_
  refine w_gr C X fX5_19 rfl dX5_person_1 hp (fun q1 hp => ?_)
  refine lv_iload_n C.1 C.2.1 dX5_person_4 rfl (lv_at hl 1 rfl) ?_
  have hrc := (rc_some hp).1
  have hp := (rc_some hp).2
  refine w_cq (cells' := 0) (slots' := 0) X (fun _ _ e => run_VN (As := [.int a1]) (c0 := 0) C X mX0_goerOf miX0_goerOf lX5_106 (by decide) rfl hrc (ct_X0_goerOf l K q1 a1 h0 e) (by decide) (by decide) rfl (by decide) rfl hl.1 dX5_person_5) (by decide) hp (fun o1 h1 H locs X hp => ?_)
  refine w_nn hp (fun hp => ?_) (fun q2 hp => ?_)
  · skip
    refine lv_astore_nN (lv' := [(3, .null), (0, .ref (K.1 + p0)), (1, .int a1), (2, .int a2)]) C.1 C.2.1 dX5_person_8 rfl hl (by decide) rfl (fun ls hl => ?_)
    refine lv_aload_nN C.1 C.2.1 dX5_person_9 rfl (lv_at hl 0 rfl) ?_
    refine lv_ifnonnullN C.1 C.2.1 dX5_person_10 ?_
    refine lv_aload_n C.1 C.2.1 dX5_person_13 rfl (lv_at hl 1 rfl) ?_
    refine lv_iconst (v := 1) C.1 C.2.1 dX5_person_14 (by decide) ?_
    have hrc := (rc_some hp).1
    have hp := (rc_some hp).2
    refine w_ci (cells' := 0) (slots' := 0) X (fun _ _ e => run_V (As := [.int 1]) (c0 := 5) C X mX5_refuse miX5_refuse lX5_50 (by decide) rfl hrc (ct_X5_refuse l K p0 1 h1 e) (by decide) (by decide) rfl (by decide) rfl hl.1 dX5_person_15) (by decide) hp (fun v1 h2 H locs X hp => ?_)
    exact w_reti C X hr hlk (by decide) dX5_person_18 hp
  · skip
    refine lv_astore_n (lv' := [(3, .ref (K.1 + q2)), (0, .ref (K.1 + p0)), (1, .int a1), (2, .int a2)]) C.1 C.2.1 dX5_person_8 rfl hl (by decide) rfl (fun ls hl => ?_)
    refine lv_aload_n C.1 C.2.1 dX5_person_9 rfl (lv_at hl 0 rfl) ?_
    refine lv_ifnonnull (tgt := 19) C.1 C.2.1 dX5_person_10 (by decide) ?_
    refine lv_iload_n C.1 C.2.1 dX5_person_19 rfl (lv_at hl 3 rfl) ?_
    by_cases c1 : a2 = 0
    · have hp := if_p _ c1 hp
      refine w_tsC (tgt := 56) C dX5_person_20 c1 (by decide) (by decide) rfl (by decide) ?_
      refine lv_aload_n C.1 C.2.1 dX5_person_56 rfl (lv_at hl 0 rfl) ?_
      refine w_gi C X fX5_110 rfl dX5_person_57 hp (fun v2 hp => ?_)
      exact w_reti C X hr hlk (by decide) dX5_person_60 hp
    · have hp := if_n _ c1 hp
      by_cases c2 : a2 = 1
      · have hp := if_p _ c2 hp
        refine w_tsC (tgt := 61) C dX5_person_20 c2 (by decide) (by decide) rfl (by decide) ?_
        refine lv_aload_n C.1 C.2.1 dX5_person_61 rfl (lv_at hl 0 rfl) ?_
        refine w_gi C X fX5_115 rfl dX5_person_62 hp (fun v3 hp => ?_)
        exact w_reti C X hr hlk (by decide) dX5_person_65 hp
      · have hp := if_n _ c2 hp
        by_cases c3 : a2 = 2
        · have hp := if_p _ c3 hp
          refine w_tsC (tgt := 66) C dX5_person_20 c3 (by decide) (by decide) rfl (by decide) ?_
          refine lv_aload_n C.1 C.2.1 dX5_person_66 rfl (lv_at hl 0 rfl) ?_
          refine w_gi C X fX5_118 rfl dX5_person_67 hp (fun v4 hp => ?_)
          exact w_reti C X hr hlk (by decide) dX5_person_70 hp
        · have hp := if_n _ c3 hp
          by_cases c4 : a2 = 3
          · have hp := if_p _ c4 hp
            refine w_tsC (tgt := 71) C dX5_person_20 c4 (by decide) (by decide) rfl (by decide) ?_
            refine lv_aload_n C.1 C.2.1 dX5_person_71 rfl (lv_at hl 0 rfl) ?_
            refine w_gi C X fX5_121 rfl dX5_person_72 hp (fun v5 hp => ?_)
            exact w_reti C X hr hlk (by decide) dX5_person_75 hp
          · have hp := if_n _ c4 hp
            by_cases c5 : a2 = 4
            · have hp := if_p _ c5 hp
              refine w_tsC (tgt := 76) C dX5_person_20 c5 (by decide) (by decide) rfl (by decide) ?_
              refine lv_aload_n C.1 C.2.1 dX5_person_76 rfl (lv_at hl 1 rfl) ?_
              refine w_gr C X fX5_19 rfl dX5_person_77 hp (fun q3 hp => ?_)
              refine lv_iload_n C.1 C.2.1 dX5_person_80 rfl (lv_at hl 2 rfl) ?_
              have hrc := (rc_some hp).1
              have hp := (rc_some hp).2
              refine w_ci (cells' := 0) (slots' := 0) X (fun _ _ e => run_VN (As := [.int a1]) (c0 := 0) C X mX0_turnsOf miX0_turnsOf lX5_124 (by decide) rfl hrc (ct_X0_turnsOf l K q3 a1 h1 e) (by decide) (by decide) rfl (by decide) rfl hl.1 dX5_person_81) (by decide) hp (fun v6 h3 H locs X hp => ?_)
              exact w_reti C X hr hlk (by decide) dX5_person_84 hp
            · have hp := if_n _ c5 hp
              refine w_tsD (tgt := 85) C [0, 1, 2, 3, 4] dX5_person_20 (by intro k hk; simp only [List.mem_cons, List.not_mem_nil, or_false] at hk; rcases hk with hk | hk | hk | hk | hk <;> subst hk <;> assumption) (by decide) (by decide) (by decide) ?_
              refine lv_aload_n C.1 C.2.1 dX5_person_85 rfl (lv_at hl 1 rfl) ?_
              refine lv_iconst (v := 2) C.1 C.2.1 dX5_person_86 (by decide) ?_
              have hrc := (rc_some hp).1
              have hp := (rc_some hp).2
              refine w_ci (cells' := 0) (slots' := 0) X (fun _ _ e => run_V (As := [.int 2]) (c0 := 5) C X mX5_refuse miX5_refuse lX5_50 (by decide) rfl hrc (ct_X5_refuse l K p0 2 h1 e) (by decide) (by decide) rfl (by decide) rfl hl.1 dX5_person_87) (by decide) hp (fun v7 h4 H locs X hp => ?_)
              exact w_reti C X hr hlk (by decide) dX5_person_90 hp

abbrev rmX5_go : Room := { frames := 4, cells := 0, slots := 0, locals := 90 }
def P_X5_go (p0 : Nat) (a1 : Int32) (h0 : Hp) : Option (Int32 × Hp) :=
    gr h0 p0 5 1 fun q1 =>
    rc h0 q1 0 <| ci (P_X0_goerOf q1 a1 h0) fun o1 h1 =>
    nn o1 (
    rc h1 p0 5 <| ci (P_X5_refuse p0 1 h1) fun v1 h2 =>
    some (v1, h2)) fun q2 =>
    gr h1 p0 5 1 fun q3 =>
    rc h1 q3 0 <| ci (P_X0_goAlong q3 a1 h1) fun v2 h3 =>
    some (v2, h3)

set_option maxHeartbeats 4000000 in
set_option maxRecDepth 100000 in
theorem ct_X5_go (l : Launch) (K : Kt) (p0 : Nat) (a1 : Int32) (h0 : Hp) {r : Int32} {h' : Hp} (hp : P_X5_go p0 a1 h0 = some (r, h')) : CT l K yX5_go cX5_go 2 (some FieldType.int) rmX5_go [.ref (K.1 + p0), .int a1] h0 (Qi K r h') := by
  refine ct_of (own := RX5) (by decide +kernel) rfl (Nat.le_of_ble_eq_true rfl) ?_
  intro p e s m args below meth c C X hr hlk hm ls hl
  have hl : lv_has ls 2 [(0, .ref (K.1 + p0)), (1, .int a1)] := hl
  unfold P_X5_go at hp
  refine lv_aload_n C.1 C.2.1 dX5_go_0 rfl (lv_at hl 0 rfl) ?_
  refine w_gr C X fX5_19 rfl dX5_go_1 hp (fun q1 hp => ?_)
  refine lv_iload_n C.1 C.2.1 dX5_go_4 rfl (lv_at hl 1 rfl) ?_
  have hrc := (rc_some hp).1
  have hp := (rc_some hp).2
  refine w_cq (cells' := 0) (slots' := 0) X (fun _ _ e => run_VN (As := [.int a1]) (c0 := 0) C X mX0_goerOf miX0_goerOf lX5_106 (by decide) rfl hrc (ct_X0_goerOf l K q1 a1 h0 e) (by decide) (by decide) rfl (by decide) rfl hl.1 dX5_go_5) (by decide) hp (fun o1 h1 H locs X hp => ?_)
  refine w_nn hp (fun hp => ?_) (fun q2 hp => ?_)
  · skip
    refine lv_ifnonnullN C.1 C.2.1 dX5_go_8 ?_
    refine lv_aload_n C.1 C.2.1 dX5_go_11 rfl (lv_at hl 0 rfl) ?_
    refine lv_iconst (v := 1) C.1 C.2.1 dX5_go_12 (by decide) ?_
    have hrc := (rc_some hp).1
    have hp := (rc_some hp).2
    refine w_ci (cells' := 0) (slots' := 0) X (fun _ _ e => run_V (As := [.int 1]) (c0 := 5) C X mX5_refuse miX5_refuse lX5_50 (by decide) rfl hrc (ct_X5_refuse l K p0 1 h1 e) (by decide) (by decide) rfl (by decide) rfl hl.1 dX5_go_13) (by decide) hp (fun v1 h2 H locs X hp => ?_)
    exact w_reti C X hr hlk (by decide) dX5_go_16 hp
  · skip
    refine lv_ifnonnull (tgt := 17) C.1 C.2.1 dX5_go_8 (by decide) ?_
    refine lv_aload_n C.1 C.2.1 dX5_go_17 rfl (lv_at hl 0 rfl) ?_
    refine w_gr C X fX5_19 rfl dX5_go_18 hp (fun q3 hp => ?_)
    refine lv_iload_n C.1 C.2.1 dX5_go_21 rfl (lv_at hl 1 rfl) ?_
    have hrc := (rc_some hp).1
    have hp := (rc_some hp).2
    refine w_ci (cells' := 0) (slots' := 0) X (fun _ _ e => run_VN (As := [.int a1]) (c0 := 0) C X mX0_goAlong miX0_goAlong lX5_127 (by decide) rfl hrc (ct_X0_goAlong l K q3 a1 h1 e) (by decide) (by decide) rfl (by decide) rfl hl.1 dX5_go_22) (by decide) hp (fun v2 h3 H locs X hp => ?_)
    exact w_reti C X hr hlk (by decide) dX5_go_25 hp

abbrev rmX5_turn : Room := { frames := 3, cells := 0, slots := 0, locals := 62 }
def P_X5_turn (p0 : Nat) (a1 : Int32) (h0 : Hp) : Option (Int32 × Hp) :=
    gr h0 p0 5 1 fun q1 =>
    rc h0 q1 0 <| ci (P_X0_hasDoor q1 a1 h0) fun v1 h1 =>
    if v1 = 0 then (
    rc h1 p0 5 <| ci (P_X5_refuse p0 1 h1) fun v10 h8 =>
    some (v10, h8))
    else (
    gr h1 p0 5 1 fun q2 =>
    rc h1 q2 0 <| ci (P_X0_isStuck q2 a1 h1) fun v2 h2 =>
    if v2 = 0 then (
    gr h2 p0 5 1 fun q3 =>
    gr h2 p0 5 1 fun q4 =>
    gi h2 q4 0 7 fun v3 =>
    ci (P_X5_bitOf a1 h2) fun v4 h3 =>
    gr h3 p0 5 1 fun q5 =>
    gi h3 q5 0 1 fun v5 =>
    ci (P_X5_turned v3 v4 v5 h3) fun v6 h4 =>
    pi h4 q3 0 7 v6 fun h5 =>
    gr h5 p0 5 1 fun q6 =>
    gi h5 q6 0 7 fun v7 =>
    ci (P_X5_wayOf v7 a1 h5) fun v8 h6 =>
    some (v8, h6))
    else (
    rc h2 p0 5 <| ci (P_X5_refuse p0 3 h2) fun v9 h7 =>
    some (v9, h7)))

set_option maxHeartbeats 4000000 in
set_option maxRecDepth 100000 in
theorem ct_X5_turn (l : Launch) (K : Kt) (p0 : Nat) (a1 : Int32) (h0 : Hp) {r : Int32} {h' : Hp} (hp : P_X5_turn p0 a1 h0 = some (r, h')) : CT l K yX5_turn cX5_turn 2 (some FieldType.int) rmX5_turn [.ref (K.1 + p0), .int a1] h0 (Qi K r h') := by
  refine ct_of (own := RX5) (by decide +kernel) rfl (Nat.le_of_ble_eq_true rfl) ?_
  intro p e s m args below meth c C X hr hlk hm ls hl
  have hl : lv_has ls 2 [(0, .ref (K.1 + p0)), (1, .int a1)] := hl
  unfold P_X5_turn at hp
  refine lv_aload_n C.1 C.2.1 dX5_turn_0 rfl (lv_at hl 0 rfl) ?_
  refine w_gr C X fX5_19 rfl dX5_turn_1 hp (fun q1 hp => ?_)
  refine lv_iload_n C.1 C.2.1 dX5_turn_4 rfl (lv_at hl 1 rfl) ?_
  have hrc := (rc_some hp).1
  have hp := (rc_some hp).2
  refine w_ci (cells' := 0) (slots' := 0) X (fun _ _ e => run_VN (As := [.int a1]) (c0 := 0) C X mX0_hasDoor miX0_hasDoor lX5_89 (by decide) rfl hrc (ct_X0_hasDoor l K q1 a1 h0 e) (by decide) (by decide) rfl (by decide) rfl hl.1 dX5_turn_5) (by decide) hp (fun v1 h1 H locs X hp => ?_)
  refine lv_if_ne (tgt := 17) C.1 C.2.1 dX5_turn_8 (by decide) (fun c1 => ?_) (fun c1 => ?_)
  · have hp := if_n _ c1 hp
    refine lv_aload_n C.1 C.2.1 dX5_turn_17 rfl (lv_at hl 0 rfl) ?_
    refine w_gr C X fX5_19 rfl dX5_turn_18 hp (fun q2 hp => ?_)
    refine lv_iload_n C.1 C.2.1 dX5_turn_21 rfl (lv_at hl 1 rfl) ?_
    have hrc := (rc_some hp).1
    have hp := (rc_some hp).2
    refine w_ci (cells' := 0) (slots' := 0) X (fun _ _ e => run_VN (As := [.int a1]) (c0 := 0) C X mX0_isStuck miX0_isStuck lX5_103 (by decide) rfl hrc (ct_X0_isStuck l K q2 a1 h1 e) (by decide) (by decide) rfl (by decide) rfl hl.1 dX5_turn_22) (by decide) hp (fun v2 h2 H locs X hp => ?_)
    refine lv_if_eq (tgt := 34) C.1 C.2.1 dX5_turn_25 (by decide) (fun c2 => ?_) (fun c2 => ?_)
    · have hp := if_p _ c2 hp
      refine lv_aload_n C.1 C.2.1 dX5_turn_34 rfl (lv_at hl 0 rfl) ?_
      refine w_gr C X fX5_19 rfl dX5_turn_35 hp (fun q3 hp => ?_)
      refine lv_aload_n C.1 C.2.1 dX5_turn_38 rfl (lv_at hl 0 rfl) ?_
      refine w_gr C X fX5_19 rfl dX5_turn_39 hp (fun q4 hp => ?_)
      refine w_gi C X fX5_93 rfl dX5_turn_42 hp (fun v3 hp => ?_)
      refine lv_iload_n C.1 C.2.1 dX5_turn_45 rfl (lv_at hl 1 rfl) ?_
      refine w_ci (cells' := 0) (slots' := 0) X (fun _ _ e => run_S (As := [.int a1]) C X mX5_bitOf msX5_bitOf lX5_130 (ct_X5_bitOf l K a1 h2 e) (by decide) (by decide) rfl (Nat.le_of_ble_eq_true rfl) rfl hl.1 dX5_turn_46) (by decide) hp (fun v4 h3 H locs X hp => ?_)
      refine lv_aload_n C.1 C.2.1 dX5_turn_49 rfl (lv_at hl 0 rfl) ?_
      refine w_gr C X fX5_19 rfl dX5_turn_50 hp (fun q5 hp => ?_)
      refine w_gi C X fX5_133 rfl dX5_turn_53 hp (fun v5 hp => ?_)
      refine w_ci (cells' := 0) (slots' := 0) X (fun _ _ e => run_S (As := [.int v3, .int v4, .int v5]) C X mX5_turned msX5_turned lX5_136 (ct_X5_turned l K v3 v4 v5 h3 e) (by decide) (by decide) rfl (Nat.le_of_ble_eq_true rfl) rfl hl.1 dX5_turn_56) (by decide) hp (fun v6 h4 H locs X hp => ?_)
      refine w_pi C X fX5_93 rfl rfl rfl rfl dX5_turn_59 hp (fun H locs h5 X hp => ?_)
      refine lv_aload_n C.1 C.2.1 dX5_turn_62 rfl (lv_at hl 0 rfl) ?_
      refine w_gr C X fX5_19 rfl dX5_turn_63 hp (fun q6 hp => ?_)
      refine w_gi C X fX5_93 rfl dX5_turn_66 hp (fun v7 hp => ?_)
      refine lv_iload_n C.1 C.2.1 dX5_turn_69 rfl (lv_at hl 1 rfl) ?_
      refine w_ci (cells' := 0) (slots' := 0) X (fun _ _ e => run_S (As := [.int v7, .int a1]) C X mX5_wayOf msX5_wayOf lX5_96 (ct_X5_wayOf l K v7 a1 h5 e) (by decide) (by decide) rfl (by decide) rfl hl.1 dX5_turn_70) (by decide) hp (fun v8 h6 H locs X hp => ?_)
      exact w_reti C X hr hlk (by decide) dX5_turn_73 hp
    · have hp := if_n _ c2 hp
      refine lv_aload_n C.1 C.2.1 dX5_turn_28 rfl (lv_at hl 0 rfl) ?_
      refine lv_iconst (v := 3) C.1 C.2.1 dX5_turn_29 (by decide) ?_
      have hrc := (rc_some hp).1
      have hp := (rc_some hp).2
      refine w_ci (cells' := 0) (slots' := 0) X (fun _ _ e => run_V (As := [.int 3]) (c0 := 5) C X mX5_refuse miX5_refuse lX5_50 (by decide) rfl hrc (ct_X5_refuse l K p0 3 h2 e) (by decide) (by decide) rfl (by decide) rfl hl.1 dX5_turn_30) (by decide) hp (fun v9 h7 H locs X hp => ?_)
      exact w_reti C X hr hlk (by decide) dX5_turn_33 hp
  · have hp := if_p _ c1 hp
    refine lv_aload_n C.1 C.2.1 dX5_turn_11 rfl (lv_at hl 0 rfl) ?_
    refine lv_iconst (v := 1) C.1 C.2.1 dX5_turn_12 (by decide) ?_
    have hrc := (rc_some hp).1
    have hp := (rc_some hp).2
    refine w_ci (cells' := 0) (slots' := 0) X (fun _ _ e => run_V (As := [.int 1]) (c0 := 5) C X mX5_refuse miX5_refuse lX5_50 (by decide) rfl hrc (ct_X5_refuse l K p0 1 h1 e) (by decide) (by decide) rfl (by decide) rfl hl.1 dX5_turn_13) (by decide) hp (fun v10 h8 H locs X hp => ?_)
    exact w_reti C X hr hlk (by decide) dX5_turn_16 hp

abbrev rmX5_state : Room := { frames := 4, cells := 0, slots := 0, locals := 85 }
def P_X5_state (p0 : Nat) (h0 : Hp) : Option (Int32 × Hp) :=
    gr h0 p0 5 1 fun q1 =>
    gr h0 p0 5 1 fun q2 =>
    gi h0 q2 0 7 fun v1 =>
    rc h0 q1 0 <| ci (P_X0_stateOf q1 v1 h0) fun v2 h1 =>
    some (v2, h1)

set_option maxHeartbeats 4000000 in
set_option maxRecDepth 100000 in
theorem ct_X5_state (l : Launch) (K : Kt) (p0 : Nat) (h0 : Hp) {r : Int32} {h' : Hp} (hp : P_X5_state p0 h0 = some (r, h')) : CT l K yX5_state cX5_state 1 (some FieldType.int) rmX5_state [.ref (K.1 + p0)] h0 (Qi K r h') := by
  refine ct_of (own := RX5) (by decide +kernel) rfl (Nat.le_of_ble_eq_true rfl) ?_
  intro p e s m args below meth c C X hr hlk hm ls hl
  have hl : lv_has ls 1 [(0, .ref (K.1 + p0))] := hl
  unfold P_X5_state at hp
  refine lv_aload_n C.1 C.2.1 dX5_state_0 rfl (lv_at hl 0 rfl) ?_
  refine w_gr C X fX5_19 rfl dX5_state_1 hp (fun q1 hp => ?_)
  refine lv_aload_n C.1 C.2.1 dX5_state_4 rfl (lv_at hl 0 rfl) ?_
  refine w_gr C X fX5_19 rfl dX5_state_5 hp (fun q2 hp => ?_)
  refine w_gi C X fX5_93 rfl dX5_state_8 hp (fun v1 hp => ?_)
  have hrc := (rc_some hp).1
  have hp := (rc_some hp).2
  refine w_ci (cells' := 0) (slots' := 0) X (fun _ _ e => run_VN (As := [.int v1]) (c0 := 0) C X mX0_stateOf miX0_stateOf lX5_140 (by decide) rfl hrc (ct_X0_stateOf l K q1 v1 h0 e) (by decide) (by decide) rfl (by decide) rfl hl.1 dX5_state_11) (by decide) hp (fun v2 h1 H locs X hp => ?_)
  exact w_reti C X hr hlk (by decide) dX5_state_14 hp

abbrev rmX5_wished : Room := { frames := 1, cells := 0, slots := 0, locals := 21 }
def P_X5_wished (p0 : Nat) (h0 : Hp) : Option (Int32 × Hp) :=
    gr h0 p0 5 1 fun q1 =>
    gr h0 p0 5 1 fun q2 =>
    gi h0 q2 0 7 fun v1 =>
    rc h0 q1 0 <| ci (P_X0_isWish q1 v1 h0) fun v2 h1 =>
    if v2 = 0 then (
    some (0, h1))
    else (
    some (1, h1))

set_option maxHeartbeats 4000000 in
set_option maxRecDepth 100000 in
theorem ct_X5_wished (l : Launch) (K : Kt) (p0 : Nat) (h0 : Hp) {r : Int32} {h' : Hp} (hp : P_X5_wished p0 h0 = some (r, h')) : CT l K yX5_wished cX5_wished 1 (some FieldType.int) rmX5_wished [.ref (K.1 + p0)] h0 (Qi K r h') := by
  refine ct_of (own := RX5) (by decide +kernel) rfl (Nat.le_of_ble_eq_true rfl) ?_
  intro p e s m args below meth c C X hr hlk hm ls hl
  have hl : lv_has ls 1 [(0, .ref (K.1 + p0))] := hl
  unfold P_X5_wished at hp
  refine lv_aload_n C.1 C.2.1 dX5_wished_0 rfl (lv_at hl 0 rfl) ?_
  refine w_gr C X fX5_19 rfl dX5_wished_1 hp (fun q1 hp => ?_)
  refine lv_aload_n C.1 C.2.1 dX5_wished_4 rfl (lv_at hl 0 rfl) ?_
  refine w_gr C X fX5_19 rfl dX5_wished_5 hp (fun q2 hp => ?_)
  refine w_gi C X fX5_93 rfl dX5_wished_8 hp (fun v1 hp => ?_)
  have hrc := (rc_some hp).1
  have hp := (rc_some hp).2
  refine w_ci (cells' := 0) (slots' := 0) X (fun _ _ e => run_VN (As := [.int v1]) (c0 := 0) C X mX0_isWish miX0_isWish lX5_143 (by decide) rfl hrc (ct_X0_isWish l K q1 v1 h0 e) (by decide) (by decide) rfl (by decide) rfl hl.1 dX5_wished_11) (by decide) hp (fun v2 h1 H locs X hp => ?_)
  refine lv_if_eq (tgt := 21) C.1 C.2.1 dX5_wished_14 (by decide) (fun c1 => ?_) (fun c1 => ?_)
  · have hp := if_p _ c1 hp
    refine lv_iconst (v := 0) C.1 C.2.1 dX5_wished_21 (by decide) ?_
    exact w_reti C X hr hlk (by decide) dX5_wished_22 hp
  · have hp := if_n _ c1 hp
    refine lv_iconst (v := 1) C.1 C.2.1 dX5_wished_17 (by decide) ?_
    refine lv_goto (tgt := 22) C.1 C.2.1 dX5_wished_18 (by decide) ?_
    exact w_reti C X hr hlk (by decide) dX5_wished_22 hp

abbrev rmX5_power : Room := { frames := 0, cells := 0, slots := 0, locals := 0 }
def P_X5_power_L4 : Nat → Int32 → Int32 → Int32 → Int32 → Hp → Option (Int32 × Hp)
  | 0, _, _, _, _, _ => none
  | n + 1, v3, v4, v5, v6, h1 =>
    if v4 ≤ v6 then (
    some (v5, h1))
    else (
    lt ((v5 * v3) : Int32) fun v7 =>
    lt ((v6 + 1) : Int32) fun v8 =>
    P_X5_power_L4 n v3 v4 v7 v8 h1)

def P_X5_power (a0 : Int32) (a1 : Int32) (h0 : Hp) : Option (Int32 × Hp) :=
    lt (1 : Int32) fun v1 =>
    lt (0 : Int32) fun v2 =>
    P_X5_power_L4 FU a0 a1 v1 v2 h0

set_option maxHeartbeats 4000000 in
set_option maxRecDepth 100000 in
theorem wl_X5_power_L4 (C : CX K p m c cX5_power 4 s args RX5) (hr : meth.sig.returnType = (some FieldType.int)) (hlk : meth.locks = false) {r : Int32} {h' : Hp} : ∀ (n : Nat) (v3 : Int32) (v4 : Int32) (v5 : Int32) (v6 : Int32) (h1 : Hp) (H : Heap) (locs : List Loc) (ls : Array Slot), HX K s.heap H locs h1 → lv_has ls 4 [(0, .int v3), (1, .int v4), (2, .int v5), (3, .int v6)] → P_X5_power_L4 n v3 v4 v5 v6 h1 = some (r, h') → W p l e rmX5_power s m args below meth c H locs 0 0 (MQ below (Qi K r h') args s rmX5_power.cells rmX5_power.slots (KA K)) (F0 m 4 ls []) := by
  intro n
  induction n with
  | zero =>
    intro  v3 v4 v5 v6 h1 H locs ls X hl hp
    cases hp
  | succ n ih =>
    intro  v3 v4 v5 v6 h1 H locs ls X hl hp
    unfold P_X5_power_L4 at hp
    refine lv_iload_n C.1 C.2.1 dX5_power_4 rfl (lv_at hl 3 rfl) ?_
    refine lv_iload_n C.1 C.2.1 dX5_power_5 rfl (lv_at hl 1 rfl) ?_
    refine lv_icmp_ge (tgt := 19) C.1 C.2.1 dX5_power_6 (by decide) (fun c1 => ?_) (fun c1 => ?_)
    · have hp := if_p _ c1 hp
      refine lv_iload_n C.1 C.2.1 dX5_power_19 rfl (lv_at hl 2 rfl) ?_
      exact w_reti C X hr hlk (by decide) dX5_power_20 hp
    · have hp := if_n _ c1 hp
      refine lv_iload_n C.1 C.2.1 dX5_power_9 rfl (lv_at hl 2 rfl) ?_
      refine lv_iload_n C.1 C.2.1 dX5_power_10 rfl (lv_at hl 0 rfl) ?_
      refine lv_imul C.1 C.2.1 dX5_power_11 ?_
      refine w_istn C (fun v => [(2, .int (v)), (0, .int v3), (1, .int v4), (3, .int v6)]) dX5_power_12 rfl hl (by decide) (fun _ => rfl) hp (fun v7 ls hl hp => ?_)
      refine w_inc (k := 3) C (fun v => [(3, .int (v)), (2, .int v7), (0, .int v3), (1, .int v4)]) dX5_power_13 hl rfl (y := (v6 + 1)) rfl (by decide) (fun _ => rfl) hp (fun v8 ls hl hp => ?_)
      refine lv_goto (tgt := 4) C.1 C.2.1 dX5_power_16 (by decide) ?_
      exact ih _ _ _ _ _ _ _ _ X (lv_sub hl [2, 3, 1, 0] rfl) hp

set_option maxHeartbeats 4000000 in
set_option maxRecDepth 100000 in
theorem ct_X5_power (l : Launch) (K : Kt) (a0 : Int32) (a1 : Int32) (h0 : Hp) {r : Int32} {h' : Hp} (hp : P_X5_power a0 a1 h0 = some (r, h')) : CT l K yX5_power cX5_power 4 (some FieldType.int) rmX5_power [.int a0, .int a1] h0 (Qi K r h') := by
  refine ct_of (own := RX5) (by decide +kernel) rfl (Nat.le_of_ble_eq_true rfl) ?_
  intro p e s m args below meth c C X hr hlk hm ls hl
  have hl : lv_has ls 4 [(0, .int a0), (1, .int a1)] := hl
  unfold P_X5_power at hp
  refine lv_iconst (v := 1) C.1 C.2.1 dX5_power_0 (by decide) ?_
  refine w_istn C (fun v => [(2, .int (v)), (0, .int a0), (1, .int a1)]) dX5_power_1 rfl hl (by decide) (fun _ => rfl) hp (fun v1 ls hl hp => ?_)
  refine lv_iconst (v := 0) C.1 C.2.1 dX5_power_2 (by decide) ?_
  refine w_istn C (fun v => [(3, .int (v)), (2, .int v1), (0, .int a0), (1, .int a1)]) dX5_power_3 rfl hl (by decide) (fun _ => rfl) hp (fun v2 ls hl hp => ?_)
  exact wl_X5_power_L4 C hr hlk _ _ _ _ _ _ _ _ _ X (lv_sub hl [2, 3, 1, 0] rfl) hp

abbrev rmX5_spread : Room := { frames := 1, cells := 0, slots := 0, locals := 21 }
def P_X5_spread_L13 : Nat → Nat → Int32 → Int32 → Int32 → Hp → Option (Hp)
  | 0, _, _, _, _, _ => none
  | n + 1, q2, v5, v6, v7, h1 =>
    gr h1 q2 5 1 fun q3 =>
    gi h1 q3 0 0 fun v8 =>
    if v8 < v7 then (
    some h1)
    else (
    gr h1 q2 5 6 fun q4 =>
    ln h1 q4 fun v9 =>
    if v9 ≤ v7 then (
    some h1)
    else (
    gr h1 q2 5 6 fun q5 =>
    ci (P_X5_remainder v5 v6 h1) fun v10 h2 =>
    as h2 q5 v7 v10 fun h3 =>
    ci (P_X5_quotient v5 v6 h3) fun v11 h4 =>
    lt (v11 : Int32) fun v12 =>
    lt ((v7 + 1) : Int32) fun v13 =>
    P_X5_spread_L13 n q2 v12 v6 v13 h4))

def P_X5_spread (p0 : Nat) (a1 : Int32) (h0 : Hp) : Option (Hp) :=
    lt (a1 : Int32) fun v1 =>
    gr h0 p0 5 1 fun q1 =>
    gi h0 q1 0 1 fun v2 =>
    lt (v2 : Int32) fun v3 =>
    lt (1 : Int32) fun v4 =>
    P_X5_spread_L13 FU p0 v1 v3 v4 h0

set_option maxHeartbeats 4000000 in
set_option maxRecDepth 100000 in
theorem wl_X5_spread_L13 (C : CX K p m c cX5_spread 5 s args RX5) (hr : meth.sig.returnType = none) (hlk : meth.locks = false) {h' : Hp} : ∀ (n : Nat) (q2 : Nat) (v5 : Int32) (v6 : Int32) (v7 : Int32) (h1 : Hp) (H : Heap) (locs : List Loc) (ls : Array Slot), HX K s.heap H locs h1 → lv_has ls 5 [(0, .ref (K.1 + q2)), (2, .int v5), (3, .int v6), (4, .int v7)] → P_X5_spread_L13 n q2 v5 v6 v7 h1 = some h' → W p l e rmX5_spread s m args below meth c H locs 0 0 (MQ below (Qv K h') args s rmX5_spread.cells rmX5_spread.slots (KA K)) (F0 m 13 ls []) := by
  intro n
  induction n with
  | zero =>
    intro  q2 v5 v6 v7 h1 H locs ls X hl hp
    cases hp
  | succ n ih =>
    intro  q2 v5 v6 v7 h1 H locs ls X hl hp
    unfold P_X5_spread_L13 at hp
    refine lv_iload C.1 C.2.1 dX5_spread_13 (lv_at hl 3 rfl) ?_
    refine lv_aload_n C.1 C.2.1 dX5_spread_15 rfl (lv_at hl 0 rfl) ?_
    refine w_gr C X fX5_19 rfl dX5_spread_16 hp (fun q3 hp => ?_)
    refine w_gi C X fX5_146 rfl dX5_spread_19 hp (fun v8 hp => ?_)
    refine lv_icmp_gt (tgt := 59) C.1 C.2.1 dX5_spread_22 (by decide) (fun c1 => ?_) (fun c1 => ?_)
    · have hp := if_p _ c1 hp
      exact w_retv C X hr hlk (by decide) dX5_spread_59 hp
    · have hp := if_n _ c1 hp
      refine lv_iload C.1 C.2.1 dX5_spread_25 (lv_at hl 3 rfl) ?_
      refine lv_aload_n C.1 C.2.1 dX5_spread_27 rfl (lv_at hl 0 rfl) ?_
      refine w_gr C X fX5_43 rfl dX5_spread_28 hp (fun q4 hp => ?_)
      refine w_ln C X dX5_spread_31 hp (fun v9 hp => ?_)
      refine lv_icmp_ge (tgt := 59) C.1 C.2.1 dX5_spread_32 (by decide) (fun c2 => ?_) (fun c2 => ?_)
      · have hp := if_p _ c2 hp
        exact w_retv C X hr hlk (by decide) dX5_spread_59 hp
      · have hp := if_n _ c2 hp
        refine lv_aload_n C.1 C.2.1 dX5_spread_35 rfl (lv_at hl 0 rfl) ?_
        refine w_gr C X fX5_43 rfl dX5_spread_36 hp (fun q5 hp => ?_)
        refine lv_iload C.1 C.2.1 dX5_spread_39 (lv_at hl 3 rfl) ?_
        refine lv_iload_n C.1 C.2.1 dX5_spread_41 rfl (lv_at hl 1 rfl) ?_
        refine lv_iload_n C.1 C.2.1 dX5_spread_42 rfl (lv_at hl 2 rfl) ?_
        refine w_ci (cells' := 0) (slots' := 0) X (fun _ _ e => run_S (As := [.int v5, .int v6]) C X mX5_remainder msX5_remainder lX5_162 (ct_X5_remainder l K v5 v6 h1 e) (by decide) (by decide) rfl (Nat.le_of_ble_eq_true rfl) rfl hl.1 dX5_spread_43) (by decide) hp (fun v10 h2 H locs X hp => ?_)
        refine w_as C X dX5_spread_46 hp (fun H locs h3 X hp => ?_)
        refine lv_iload_n C.1 C.2.1 dX5_spread_47 rfl (lv_at hl 1 rfl) ?_
        refine lv_iload_n C.1 C.2.1 dX5_spread_48 rfl (lv_at hl 2 rfl) ?_
        refine w_ci (cells' := 0) (slots' := 0) X (fun _ _ e => run_S (As := [.int v5, .int v6]) C X mX5_quotient msX5_quotient lX5_165 (ct_X5_quotient l K v5 v6 h3 e) (by decide) (by decide) rfl (by decide) rfl hl.1 dX5_spread_49) (by decide) hp (fun v11 h4 H locs X hp => ?_)
        refine w_istn C (fun v => [(2, .int (v)), (0, .ref (K.1 + q2)), (3, .int v6), (4, .int v7)]) dX5_spread_52 rfl hl (by decide) (fun _ => rfl) hp (fun v12 ls hl hp => ?_)
        refine w_inc (k := 3) C (fun v => [(4, .int (v)), (2, .int v12), (0, .ref (K.1 + q2)), (3, .int v6)]) dX5_spread_53 hl rfl (y := (v7 + 1)) rfl (by decide) (fun _ => rfl) hp (fun v13 ls hl hp => ?_)
        refine lv_goto (tgt := 13) C.1 C.2.1 dX5_spread_56 (by decide) ?_
        exact ih _ _ _ _ _ _ _ _ X (lv_sub hl [2, 1, 3, 0] rfl) hp

set_option maxHeartbeats 4000000 in
set_option maxRecDepth 100000 in
theorem ct_X5_spread (l : Launch) (K : Kt) (p0 : Nat) (a1 : Int32) (h0 : Hp) {h' : Hp} (hp : P_X5_spread p0 a1 h0 = some h') : CT l K yX5_spread cX5_spread 5 none rmX5_spread [.ref (K.1 + p0), .int a1] h0 (Qv K h') := by
  refine ct_of (own := RX5) (by decide +kernel) rfl (Nat.le_of_ble_eq_true rfl) ?_
  intro p e s m args below meth c C X hr hlk hm ls hl
  have hl : lv_has ls 5 [(0, .ref (K.1 + p0)), (1, .int a1)] := hl
  unfold P_X5_spread at hp
  refine lv_iload_n C.1 C.2.1 dX5_spread_0 rfl (lv_at hl 1 rfl) ?_
  refine w_istn C (fun v => [(2, .int (v)), (0, .ref (K.1 + p0)), (1, .int a1)]) dX5_spread_1 rfl hl (by decide) (fun _ => rfl) hp (fun v1 ls hl hp => ?_)
  refine lv_aload_n C.1 C.2.1 dX5_spread_2 rfl (lv_at hl 1 rfl) ?_
  refine w_gr C X fX5_19 rfl dX5_spread_3 hp (fun q1 hp => ?_)
  refine w_gi C X fX5_133 rfl dX5_spread_6 hp (fun v2 hp => ?_)
  refine w_istn C (fun v => [(3, .int (v)), (2, .int v1), (0, .ref (K.1 + p0)), (1, .int a1)]) dX5_spread_9 rfl hl (by decide) (fun _ => rfl) hp (fun v3 ls hl hp => ?_)
  refine lv_iconst (v := 1) C.1 C.2.1 dX5_spread_10 (by decide) ?_
  refine w_ist C (fun v => [(4, .int (v)), (3, .int v3), (2, .int v1), (0, .ref (K.1 + p0)), (1, .int a1)]) dX5_spread_11 hl (by decide) (fun _ => rfl) hp (fun v4 ls hl hp => ?_)
  exact wl_X5_spread_L13 C hr hlk _ _ _ _ _ _ _ _ _ X (lv_sub hl [3, 2, 1, 0] rfl) hp

abbrev rmX5_takeBack : Room := { frames := 1, cells := 0, slots := 0, locals := 21 }
def P_X5_takeBack (p0 : Nat) (a1 : Int32) (a2 : Int32) (h0 : Hp) : Option (Hp) :=
    if a1 < 0 then (
    some h0)
    else (
    gr h0 p0 5 6 fun q1 =>
    ln h0 q1 fun v1 =>
    if v1 ≤ a1 then (
    some h0)
    else (
    if a2 < 0 then (
    some h0)
    else (
    gr h0 p0 5 6 fun q2 =>
    ln h0 q2 fun v2 =>
    if v2 ≤ a2 then (
    some h0)
    else (
    gr h0 p0 5 6 fun q3 =>
    gr h0 p0 5 6 fun q4 =>
    al h0 q4 a1 fun v3 =>
    gr h0 p0 5 1 fun q5 =>
    gi h0 q5 0 1 fun v4 =>
    gr h0 p0 5 6 fun q6 =>
    al h0 q6 a2 fun v5 =>
    gr h0 p0 5 1 fun q7 =>
    gi h0 q7 0 1 fun v6 =>
    ci (P_X5_remainder ((v3 + v4) - v5) v6 h0) fun v7 h1 =>
    as h1 q3 a1 v7 fun h2 =>
    some h2))))

set_option maxHeartbeats 4000000 in
set_option maxRecDepth 100000 in
theorem ct_X5_takeBack (l : Launch) (K : Kt) (p0 : Nat) (a1 : Int32) (a2 : Int32) (h0 : Hp) {h' : Hp} (hp : P_X5_takeBack p0 a1 a2 h0 = some h') : CT l K yX5_takeBack cX5_takeBack 3 none rmX5_takeBack [.ref (K.1 + p0), .int a1, .int a2] h0 (Qv K h') := by
  refine ct_of (own := RX5) (by decide +kernel) rfl (Nat.le_of_ble_eq_true rfl) ?_
  intro p e s m args below meth c C X hr hlk hm ls hl
  have hl : lv_has ls 3 [(0, .ref (K.1 + p0)), (1, .int a1), (2, .int a2)] := hl
  unfold P_X5_takeBack at hp
  refine lv_iload_n C.1 C.2.1 dX5_takeBack_0 rfl (lv_at hl 1 rfl) ?_
  refine lv_if_lt (tgt := 63) C.1 C.2.1 dX5_takeBack_1 (by decide) (fun c1 => ?_) (fun c1 => ?_)
  · have hp := if_p _ c1 hp
    exact w_retv C X hr hlk (by decide) dX5_takeBack_63 hp
  · have hp := if_n _ c1 hp
    refine lv_iload_n C.1 C.2.1 dX5_takeBack_4 rfl (lv_at hl 1 rfl) ?_
    refine lv_aload_n C.1 C.2.1 dX5_takeBack_5 rfl (lv_at hl 0 rfl) ?_
    refine w_gr C X fX5_43 rfl dX5_takeBack_6 hp (fun q1 hp => ?_)
    refine w_ln C X dX5_takeBack_9 hp (fun v1 hp => ?_)
    refine lv_icmp_ge (tgt := 63) C.1 C.2.1 dX5_takeBack_10 (by decide) (fun c2 => ?_) (fun c2 => ?_)
    · have hp := if_p _ c2 hp
      exact w_retv C X hr hlk (by decide) dX5_takeBack_63 hp
    · have hp := if_n _ c2 hp
      refine lv_iload_n C.1 C.2.1 dX5_takeBack_13 rfl (lv_at hl 2 rfl) ?_
      refine lv_if_lt (tgt := 63) C.1 C.2.1 dX5_takeBack_14 (by decide) (fun c3 => ?_) (fun c3 => ?_)
      · have hp := if_p _ c3 hp
        exact w_retv C X hr hlk (by decide) dX5_takeBack_63 hp
      · have hp := if_n _ c3 hp
        refine lv_iload_n C.1 C.2.1 dX5_takeBack_17 rfl (lv_at hl 2 rfl) ?_
        refine lv_aload_n C.1 C.2.1 dX5_takeBack_18 rfl (lv_at hl 0 rfl) ?_
        refine w_gr C X fX5_43 rfl dX5_takeBack_19 hp (fun q2 hp => ?_)
        refine w_ln C X dX5_takeBack_22 hp (fun v2 hp => ?_)
        refine lv_icmp_ge (tgt := 63) C.1 C.2.1 dX5_takeBack_23 (by decide) (fun c4 => ?_) (fun c4 => ?_)
        · have hp := if_p _ c4 hp
          exact w_retv C X hr hlk (by decide) dX5_takeBack_63 hp
        · have hp := if_n _ c4 hp
          refine lv_aload_n C.1 C.2.1 dX5_takeBack_26 rfl (lv_at hl 0 rfl) ?_
          refine w_gr C X fX5_43 rfl dX5_takeBack_27 hp (fun q3 hp => ?_)
          refine lv_iload_n C.1 C.2.1 dX5_takeBack_30 rfl (lv_at hl 1 rfl) ?_
          refine lv_aload_n C.1 C.2.1 dX5_takeBack_31 rfl (lv_at hl 0 rfl) ?_
          refine w_gr C X fX5_43 rfl dX5_takeBack_32 hp (fun q4 hp => ?_)
          refine lv_iload_n C.1 C.2.1 dX5_takeBack_35 rfl (lv_at hl 1 rfl) ?_
          refine w_al C X dX5_takeBack_36 hp (fun v3 hp => ?_)
          refine lv_aload_n C.1 C.2.1 dX5_takeBack_37 rfl (lv_at hl 0 rfl) ?_
          refine w_gr C X fX5_19 rfl dX5_takeBack_38 hp (fun q5 hp => ?_)
          refine w_gi C X fX5_133 rfl dX5_takeBack_41 hp (fun v4 hp => ?_)
          refine lv_iadd C.1 C.2.1 dX5_takeBack_44 ?_
          refine lv_aload_n C.1 C.2.1 dX5_takeBack_45 rfl (lv_at hl 0 rfl) ?_
          refine w_gr C X fX5_43 rfl dX5_takeBack_46 hp (fun q6 hp => ?_)
          refine lv_iload_n C.1 C.2.1 dX5_takeBack_49 rfl (lv_at hl 2 rfl) ?_
          refine w_al C X dX5_takeBack_50 hp (fun v5 hp => ?_)
          refine lv_isub C.1 C.2.1 dX5_takeBack_51 ?_
          refine lv_aload_n C.1 C.2.1 dX5_takeBack_52 rfl (lv_at hl 0 rfl) ?_
          refine w_gr C X fX5_19 rfl dX5_takeBack_53 hp (fun q7 hp => ?_)
          refine w_gi C X fX5_133 rfl dX5_takeBack_56 hp (fun v6 hp => ?_)
          refine w_ci (cells' := 0) (slots' := 0) X (fun _ _ e => run_S (As := [.int ((v3 + v4) - v5), .int v6]) C X mX5_remainder msX5_remainder lX5_162 (ct_X5_remainder l K ((v3 + v4) - v5) v6 h0 e) (by decide) (by decide) rfl (Nat.le_of_ble_eq_true rfl) rfl hl.1 dX5_takeBack_59) (by decide) hp (fun v7 h1 H locs X hp => ?_)
          refine w_as C X dX5_takeBack_62 hp (fun H locs h2 X hp => ?_)
          exact w_retv C X hr hlk (by decide) dX5_takeBack_63 hp

abbrev rmX5_solveByMultiples : Room := { frames := 2, cells := 0, slots := 0, locals := 43 }
def P_X5_solveByMultiples_L17 : Nat → Nat → Int32 → Int32 → Hp → (Hp → Option (Hp)) → Option (Hp)
  | 0, _, _, _, _, _ => none
  | n + 1, q3, v5, v6, h2, kont =>
    gr h2 q3 5 1 fun q4 =>
    gi h2 q4 0 0 fun v7 =>
    if v7 < v6 then (
    kont h2)
    else (
    rc h2 q3 5 <| cv (P_X5_takeBack q3 v6 v5 h2) fun h3 =>
    lt ((v6 + v5) : Int32) fun v8 =>
    P_X5_solveByMultiples_L17 n q3 v5 v8 h3 kont)

def P_X5_solveByMultiples_L2 : Nat → Nat → Int32 → Hp → Option (Hp)
  | 0, _, _, _ => none
  | n + 1, q1, v2, h1 =>
    gr h1 q1 5 1 fun q2 =>
    gi h1 q2 0 0 fun v3 =>
    if v3 < v2 then (
    some h1)
    else (
    lt ((2 * v2) : Int32) fun v4 =>
    P_X5_solveByMultiples_L17 FU q1 v2 v4 h1 fun h4 =>
    lt ((v2 + 1) : Int32) fun v9 =>
    P_X5_solveByMultiples_L2 n q1 v9 h4)

def P_X5_solveByMultiples (p0 : Nat) (h0 : Hp) : Option (Hp) :=
    lt (1 : Int32) fun v1 =>
    P_X5_solveByMultiples_L2 FU p0 v1 h0

set_option maxHeartbeats 4000000 in
set_option maxRecDepth 100000 in
theorem wl_X5_solveByMultiples_L17 (C : CX K p m c cX5_solveByMultiples 3 s args RX5) (hr : meth.sig.returnType = none) (hlk : meth.locks = false) {h' : Hp} : ∀ (n : Nat) (q3 : Nat) (v5 : Int32) (v6 : Int32) (h2 : Hp) (kont : Hp → Option (Hp)) (H : Heap) (locs : List Loc) (ls : Array Slot), HX K s.heap H locs h2 → lv_has ls 3 [(0, .ref (K.1 + q3)), (1, .int v5), (2, .int v6)] → P_X5_solveByMultiples_L17 n q3 v5 v6 h2 kont = some h' → (∀  (hk : Hp) (H : Heap) (locs : List Loc) (ls : Array Slot), HX K s.heap H locs hk → lv_has ls 3 [(0, .ref (K.1 + q3)), (1, .int v5)] → kont  hk = some h' → W p l e rmX5_solveByMultiples s m args below meth c H locs 0 0 (MQ below (Qv K h') args s rmX5_solveByMultiples.cells rmX5_solveByMultiples.slots (KA K)) (F0 m 41 ls [])) → W p l e rmX5_solveByMultiples s m args below meth c H locs 0 0 (MQ below (Qv K h') args s rmX5_solveByMultiples.cells rmX5_solveByMultiples.slots (KA K)) (F0 m 17 ls []) := by
  intro n
  induction n with
  | zero =>
    intro  q3 v5 v6 h2 kont H locs ls X hl hp hk
    cases hp
  | succ n ih =>
    intro  q3 v5 v6 h2 kont H locs ls X hl hp hk
    unfold P_X5_solveByMultiples_L17 at hp
    refine lv_iload_n C.1 C.2.1 dX5_solveByMultiples_17 rfl (lv_at hl 2 rfl) ?_
    refine lv_aload_n C.1 C.2.1 dX5_solveByMultiples_18 rfl (lv_at hl 0 rfl) ?_
    refine w_gr C X fX5_19 rfl dX5_solveByMultiples_19 hp (fun q4 hp => ?_)
    refine w_gi C X fX5_146 rfl dX5_solveByMultiples_22 hp (fun v7 hp => ?_)
    refine lv_icmp_gt (tgt := 41) C.1 C.2.1 dX5_solveByMultiples_25 (by decide) (fun c2 => ?_) (fun c2 => ?_)
    · have hp := if_p _ c2 hp
      exact hk _ _ _ _ X (lv_sub hl [0, 1] rfl) hp
    · have hp := if_n _ c2 hp
      refine lv_aload_n C.1 C.2.1 dX5_solveByMultiples_28 rfl (lv_at hl 0 rfl) ?_
      refine lv_iload_n C.1 C.2.1 dX5_solveByMultiples_29 rfl (lv_at hl 2 rfl) ?_
      refine lv_iload_n C.1 C.2.1 dX5_solveByMultiples_30 rfl (lv_at hl 1 rfl) ?_
      have hrc := (rc_some hp).1
      have hp := (rc_some hp).2
      refine w_cv (cells' := 0) (slots' := 0) X (fun _ e => run_V (As := [.int v6, .int v5]) (c0 := 5) C X mX5_takeBack miX5_takeBack lX5_168 (by decide) rfl hrc (ct_X5_takeBack l K q3 v6 v5 h2 e) (by decide) (by decide) rfl (by decide) rfl hl.1 dX5_solveByMultiples_31) (by decide) hp (fun h3 H locs X hp => ?_)
      refine lv_iload_n C.1 C.2.1 dX5_solveByMultiples_34 rfl (lv_at hl 2 rfl) ?_
      refine lv_iload_n C.1 C.2.1 dX5_solveByMultiples_35 rfl (lv_at hl 1 rfl) ?_
      refine lv_iadd C.1 C.2.1 dX5_solveByMultiples_36 ?_
      refine w_istn C (fun v => [(2, .int (v)), (0, .ref (K.1 + q3)), (1, .int v5)]) dX5_solveByMultiples_37 rfl hl (by decide) (fun _ => rfl) hp (fun v8 ls hl hp => ?_)
      refine lv_goto (tgt := 17) C.1 C.2.1 dX5_solveByMultiples_38 (by decide) ?_
      exact ih _ _ _ _ _ _ _ _ X (lv_sub hl [1, 2, 0] rfl) hp hk

set_option maxHeartbeats 4000000 in
set_option maxRecDepth 100000 in
theorem wl_X5_solveByMultiples_L2 (C : CX K p m c cX5_solveByMultiples 3 s args RX5) (hr : meth.sig.returnType = none) (hlk : meth.locks = false) {h' : Hp} : ∀ (n : Nat) (q1 : Nat) (v2 : Int32) (h1 : Hp) (H : Heap) (locs : List Loc) (ls : Array Slot), HX K s.heap H locs h1 → lv_has ls 3 [(0, .ref (K.1 + q1)), (1, .int v2)] → P_X5_solveByMultiples_L2 n q1 v2 h1 = some h' → W p l e rmX5_solveByMultiples s m args below meth c H locs 0 0 (MQ below (Qv K h') args s rmX5_solveByMultiples.cells rmX5_solveByMultiples.slots (KA K)) (F0 m 2 ls []) := by
  intro n
  induction n with
  | zero =>
    intro  q1 v2 h1 H locs ls X hl hp
    cases hp
  | succ n ih =>
    intro  q1 v2 h1 H locs ls X hl hp
    unfold P_X5_solveByMultiples_L2 at hp
    refine lv_iload_n C.1 C.2.1 dX5_solveByMultiples_2 rfl (lv_at hl 1 rfl) ?_
    refine lv_aload_n C.1 C.2.1 dX5_solveByMultiples_3 rfl (lv_at hl 0 rfl) ?_
    refine w_gr C X fX5_19 rfl dX5_solveByMultiples_4 hp (fun q2 hp => ?_)
    refine w_gi C X fX5_146 rfl dX5_solveByMultiples_7 hp (fun v3 hp => ?_)
    refine lv_icmp_gt (tgt := 47) C.1 C.2.1 dX5_solveByMultiples_10 (by decide) (fun c1 => ?_) (fun c1 => ?_)
    · have hp := if_p _ c1 hp
      exact w_retv C X hr hlk (by decide) dX5_solveByMultiples_47 hp
    · have hp := if_n _ c1 hp
      refine lv_iconst (v := 2) C.1 C.2.1 dX5_solveByMultiples_13 (by decide) ?_
      refine lv_iload_n C.1 C.2.1 dX5_solveByMultiples_14 rfl (lv_at hl 1 rfl) ?_
      refine lv_imul C.1 C.2.1 dX5_solveByMultiples_15 ?_
      refine w_istn C (fun v => [(2, .int (v)), (0, .ref (K.1 + q1)), (1, .int v2)]) dX5_solveByMultiples_16 rfl hl (by decide) (fun _ => rfl) hp (fun v4 ls hl hp => ?_)
      refine wl_X5_solveByMultiples_L17 C hr hlk _ _ _ _ _ _ _ _ _ X (lv_sub hl [1, 2, 0] rfl) hp (fun h4 H locs ls X hl hp => ?_)
      refine w_inc (k := 1) C (fun v => [(1, .int (v)), (0, .ref (K.1 + q1))]) dX5_solveByMultiples_41 hl rfl (y := (v2 + 1)) rfl (by decide) (fun _ => rfl) hp (fun v9 ls hl hp => ?_)
      refine lv_goto (tgt := 2) C.1 C.2.1 dX5_solveByMultiples_44 (by decide) ?_
      exact ih _ _ _ _ _ _ X (lv_sub hl [1, 0] rfl) hp

set_option maxHeartbeats 4000000 in
set_option maxRecDepth 100000 in
theorem ct_X5_solveByMultiples (l : Launch) (K : Kt) (p0 : Nat) (h0 : Hp) {h' : Hp} (hp : P_X5_solveByMultiples p0 h0 = some h') : CT l K yX5_solveByMultiples cX5_solveByMultiples 3 none rmX5_solveByMultiples [.ref (K.1 + p0)] h0 (Qv K h') := by
  refine ct_of (own := RX5) (by decide +kernel) rfl (Nat.le_of_ble_eq_true rfl) ?_
  intro p e s m args below meth c C X hr hlk hm ls hl
  have hl : lv_has ls 3 [(0, .ref (K.1 + p0))] := hl
  unfold P_X5_solveByMultiples at hp
  refine lv_iconst (v := 1) C.1 C.2.1 dX5_solveByMultiples_0 (by decide) ?_
  refine w_istn C (fun v => [(1, .int (v)), (0, .ref (K.1 + p0))]) dX5_solveByMultiples_1 rfl hl (by decide) (fun _ => rfl) hp (fun v1 ls hl hp => ?_)
  exact wl_X5_solveByMultiples_L2 C hr hlk _ _ _ _ _ _ _ X (lv_sub hl [1, 0] rfl) hp

abbrev rmX5_solveByDivisors : Room := { frames := 2, cells := 0, slots := 0, locals := 43 }
def P_X5_solveByDivisors_L15 : Nat → Nat → Int32 → Int32 → Hp → (Hp → Option (Hp)) → Option (Hp)
  | 0, _, _, _, _, _ => none
  | n + 1, q3, v5, v6, h2, kont =>
    if v5 ≤ v6 then (
    kont h2)
    else (
    ci (P_X5_goesInto v6 v5 h2) fun v7 h3 =>
    if v7 = 0 then (
    lt ((v6 + 1) : Int32) fun v8 =>
    P_X5_solveByDivisors_L15 n q3 v5 v8 h3 kont)
    else (
    rc h3 q3 5 <| cv (P_X5_takeBack q3 v6 v5 h3) fun h4 =>
    lt ((v6 + 1) : Int32) fun v9 =>
    P_X5_solveByDivisors_L15 n q3 v5 v9 h4 kont))

def P_X5_solveByDivisors_L8 : Nat → Nat → Int32 → Hp → Option (Hp)
  | 0, _, _, _ => none
  | n + 1, q2, v3, h1 =>
    if v3 < 1 then (
    some h1)
    else (
    lt (1 : Int32) fun v4 =>
    P_X5_solveByDivisors_L15 FU q2 v3 v4 h1 fun h5 =>
    lt ((v3 + (-1)) : Int32) fun v10 =>
    P_X5_solveByDivisors_L8 n q2 v10 h5)

def P_X5_solveByDivisors (p0 : Nat) (h0 : Hp) : Option (Hp) :=
    gr h0 p0 5 1 fun q1 =>
    gi h0 q1 0 0 fun v1 =>
    lt (v1 : Int32) fun v2 =>
    P_X5_solveByDivisors_L8 FU p0 v2 h0

set_option maxHeartbeats 4000000 in
set_option maxRecDepth 100000 in
theorem wl_X5_solveByDivisors_L15 (C : CX K p m c cX5_solveByDivisors 3 s args RX5) (hr : meth.sig.returnType = none) (hlk : meth.locks = false) {h' : Hp} : ∀ (n : Nat) (q3 : Nat) (v5 : Int32) (v6 : Int32) (h2 : Hp) (kont : Hp → Option (Hp)) (H : Heap) (locs : List Loc) (ls : Array Slot), HX K s.heap H locs h2 → lv_has ls 3 [(0, .ref (K.1 + q3)), (1, .int v5), (2, .int v6)] → P_X5_solveByDivisors_L15 n q3 v5 v6 h2 kont = some h' → (∀  (hk : Hp) (H : Heap) (locs : List Loc) (ls : Array Slot), HX K s.heap H locs hk → lv_has ls 3 [(0, .ref (K.1 + q3)), (1, .int v5)] → kont  hk = some h' → W p l e rmX5_solveByDivisors s m args below meth c H locs 0 0 (MQ below (Qv K h') args s rmX5_solveByDivisors.cells rmX5_solveByDivisors.slots (KA K)) (F0 m 40 ls [])) → W p l e rmX5_solveByDivisors s m args below meth c H locs 0 0 (MQ below (Qv K h') args s rmX5_solveByDivisors.cells rmX5_solveByDivisors.slots (KA K)) (F0 m 15 ls []) := by
  intro n
  induction n with
  | zero =>
    intro  q3 v5 v6 h2 kont H locs ls X hl hp hk
    cases hp
  | succ n ih =>
    intro  q3 v5 v6 h2 kont H locs ls X hl hp hk
    unfold P_X5_solveByDivisors_L15 at hp
    refine lv_iload_n C.1 C.2.1 dX5_solveByDivisors_15 rfl (lv_at hl 2 rfl) ?_
    refine lv_iload_n C.1 C.2.1 dX5_solveByDivisors_16 rfl (lv_at hl 1 rfl) ?_
    refine lv_icmp_ge (tgt := 40) C.1 C.2.1 dX5_solveByDivisors_17 (by decide) (fun c2 => ?_) (fun c2 => ?_)
    · have hp := if_p _ c2 hp
      exact hk _ _ _ _ X (lv_sub hl [0, 1] rfl) hp
    · have hp := if_n _ c2 hp
      refine lv_iload_n C.1 C.2.1 dX5_solveByDivisors_20 rfl (lv_at hl 2 rfl) ?_
      refine lv_iload_n C.1 C.2.1 dX5_solveByDivisors_21 rfl (lv_at hl 1 rfl) ?_
      refine w_ci (cells' := 0) (slots' := 0) X (fun _ _ e => run_S (As := [.int v6, .int v5]) C X mX5_goesInto msX5_goesInto lX5_172 (ct_X5_goesInto l K v6 v5 h2 e) (by decide) (by decide) rfl (by decide) rfl hl.1 dX5_solveByDivisors_22) (by decide) hp (fun v7 h3 H locs X hp => ?_)
      refine lv_if_eq (tgt := 34) C.1 C.2.1 dX5_solveByDivisors_25 (by decide) (fun c3 => ?_) (fun c3 => ?_)
      · have hp := if_p _ c3 hp
        refine w_inc (k := 2) C (fun v => [(2, .int (v)), (0, .ref (K.1 + q3)), (1, .int v5)]) dX5_solveByDivisors_34 hl rfl (y := (v6 + 1)) rfl (by decide) (fun _ => rfl) hp (fun v8 ls hl hp => ?_)
        refine lv_goto (tgt := 15) C.1 C.2.1 dX5_solveByDivisors_37 (by decide) ?_
        exact ih _ _ _ _ _ _ _ _ X (lv_sub hl [1, 2, 0] rfl) hp hk
      · have hp := if_n _ c3 hp
        refine lv_aload_n C.1 C.2.1 dX5_solveByDivisors_28 rfl (lv_at hl 0 rfl) ?_
        refine lv_iload_n C.1 C.2.1 dX5_solveByDivisors_29 rfl (lv_at hl 2 rfl) ?_
        refine lv_iload_n C.1 C.2.1 dX5_solveByDivisors_30 rfl (lv_at hl 1 rfl) ?_
        have hrc := (rc_some hp).1
        have hp := (rc_some hp).2
        refine w_cv (cells' := 0) (slots' := 0) X (fun _ e => run_V (As := [.int v6, .int v5]) (c0 := 5) C X mX5_takeBack miX5_takeBack lX5_168 (by decide) rfl hrc (ct_X5_takeBack l K q3 v6 v5 h3 e) (by decide) (by decide) rfl (by decide) rfl hl.1 dX5_solveByDivisors_31) (by decide) hp (fun h4 H locs X hp => ?_)
        refine w_inc (k := 2) C (fun v => [(2, .int (v)), (0, .ref (K.1 + q3)), (1, .int v5)]) dX5_solveByDivisors_34 hl rfl (y := (v6 + 1)) rfl (by decide) (fun _ => rfl) hp (fun v9 ls hl hp => ?_)
        refine lv_goto (tgt := 15) C.1 C.2.1 dX5_solveByDivisors_37 (by decide) ?_
        exact ih _ _ _ _ _ _ _ _ X (lv_sub hl [1, 2, 0] rfl) hp hk

set_option maxHeartbeats 4000000 in
set_option maxRecDepth 100000 in
theorem wl_X5_solveByDivisors_L8 (C : CX K p m c cX5_solveByDivisors 3 s args RX5) (hr : meth.sig.returnType = none) (hlk : meth.locks = false) {h' : Hp} : ∀ (n : Nat) (q2 : Nat) (v3 : Int32) (h1 : Hp) (H : Heap) (locs : List Loc) (ls : Array Slot), HX K s.heap H locs h1 → lv_has ls 3 [(0, .ref (K.1 + q2)), (1, .int v3)] → P_X5_solveByDivisors_L8 n q2 v3 h1 = some h' → W p l e rmX5_solveByDivisors s m args below meth c H locs 0 0 (MQ below (Qv K h') args s rmX5_solveByDivisors.cells rmX5_solveByDivisors.slots (KA K)) (F0 m 8 ls []) := by
  intro n
  induction n with
  | zero =>
    intro  q2 v3 h1 H locs ls X hl hp
    cases hp
  | succ n ih =>
    intro  q2 v3 h1 H locs ls X hl hp
    unfold P_X5_solveByDivisors_L8 at hp
    refine lv_iload_n C.1 C.2.1 dX5_solveByDivisors_8 rfl (lv_at hl 1 rfl) ?_
    refine lv_iconst (v := 1) C.1 C.2.1 dX5_solveByDivisors_9 (by decide) ?_
    refine lv_icmp_lt (tgt := 46) C.1 C.2.1 dX5_solveByDivisors_10 (by decide) (fun c1 => ?_) (fun c1 => ?_)
    · have hp := if_p _ c1 hp
      exact w_retv C X hr hlk (by decide) dX5_solveByDivisors_46 hp
    · have hp := if_n _ c1 hp
      refine lv_iconst (v := 1) C.1 C.2.1 dX5_solveByDivisors_13 (by decide) ?_
      refine w_istn C (fun v => [(2, .int (v)), (0, .ref (K.1 + q2)), (1, .int v3)]) dX5_solveByDivisors_14 rfl hl (by decide) (fun _ => rfl) hp (fun v4 ls hl hp => ?_)
      refine wl_X5_solveByDivisors_L15 C hr hlk _ _ _ _ _ _ _ _ _ X (lv_sub hl [1, 2, 0] rfl) hp (fun h5 H locs ls X hl hp => ?_)
      refine w_inc (k := 1) C (fun v => [(1, .int (v)), (0, .ref (K.1 + q2))]) dX5_solveByDivisors_40 hl rfl (y := (v3 + (-1))) rfl (by decide) (fun _ => rfl) hp (fun v10 ls hl hp => ?_)
      refine lv_goto (tgt := 8) C.1 C.2.1 dX5_solveByDivisors_43 (by decide) ?_
      exact ih _ _ _ _ _ _ X (lv_sub hl [1, 0] rfl) hp

set_option maxHeartbeats 4000000 in
set_option maxRecDepth 100000 in
theorem ct_X5_solveByDivisors (l : Launch) (K : Kt) (p0 : Nat) (h0 : Hp) {h' : Hp} (hp : P_X5_solveByDivisors p0 h0 = some h') : CT l K yX5_solveByDivisors cX5_solveByDivisors 3 none rmX5_solveByDivisors [.ref (K.1 + p0)] h0 (Qv K h') := by
  refine ct_of (own := RX5) (by decide +kernel) rfl (Nat.le_of_ble_eq_true rfl) ?_
  intro p e s m args below meth c C X hr hlk hm ls hl
  have hl : lv_has ls 3 [(0, .ref (K.1 + p0))] := hl
  unfold P_X5_solveByDivisors at hp
  refine lv_aload_n C.1 C.2.1 dX5_solveByDivisors_0 rfl (lv_at hl 0 rfl) ?_
  refine w_gr C X fX5_19 rfl dX5_solveByDivisors_1 hp (fun q1 hp => ?_)
  refine w_gi C X fX5_146 rfl dX5_solveByDivisors_4 hp (fun v1 hp => ?_)
  refine w_istn C (fun v => [(1, .int (v)), (0, .ref (K.1 + p0))]) dX5_solveByDivisors_7 rfl hl (by decide) (fun _ => rfl) hp (fun v2 ls hl hp => ?_)
  exact wl_X5_solveByDivisors_L8 C hr hlk _ _ _ _ _ _ _ X (lv_sub hl [1, 0] rfl) hp

abbrev rmX5_way : Room := { frames := 3, cells := 0, slots := 0, locals := 65 }
def P_X5_way (p0 : Nat) (a1 : Int32) (a2 : Int32) (a3 : Int32) (h0 : Hp) : Option (Int32 × Hp) :=
    if a1 < 0 then (
    rc h0 p0 5 <| ci (P_X5_refuse p0 1 h0) fun v1 h1 =>
    some (v1, h1))
    else (
    gr h0 p0 5 1 fun q1 =>
    gi h0 q1 0 1 fun v2 =>
    gr h0 p0 5 1 fun q2 =>
    gi h0 q2 0 0 fun v3 =>
    ci (P_X5_power v2 v3 h0) fun v4 h2 =>
    if v4 ≤ a1 then (
    rc h2 p0 5 <| ci (P_X5_refuse p0 1 h2) fun v5 h3 =>
    some (v5, h3))
    else (
    gr h2 p0 5 1 fun q3 =>
    rc h2 q3 0 <| ci (P_X0_hasDoor q3 a2 h2) fun v6 h4 =>
    if v6 = 0 then (
    rc h4 p0 5 <| ci (P_X5_refuse p0 1 h4) fun v16 h12 =>
    some (v16, h12))
    else (
    if a3 = 0 then (
    rc h4 p0 5 <| cv (P_X5_spread p0 a1 h4) fun h5 =>
    if a3 = 0 then (
    rc h5 p0 5 <| cv (P_X5_solveByMultiples p0 h5) fun h7 =>
    gr h7 p0 5 6 fun q6 =>
    ln h7 q6 fun v9 =>
    if v9 ≤ a2 then (
    some (0, h7))
    else (
    gr h7 p0 5 6 fun q7 =>
    al h7 q7 a2 fun v10 =>
    some (v10, h7)))
    else (
    rc h5 p0 5 <| cv (P_X5_solveByDivisors p0 h5) fun h6 =>
    gr h6 p0 5 6 fun q4 =>
    ln h6 q4 fun v7 =>
    if v7 ≤ a2 then (
    some (0, h6))
    else (
    gr h6 p0 5 6 fun q5 =>
    al h6 q5 a2 fun v8 =>
    some (v8, h6))))
    else (
    if a3 = 1 then (
    rc h4 p0 5 <| cv (P_X5_spread p0 a1 h4) fun h8 =>
    if a3 = 0 then (
    rc h8 p0 5 <| cv (P_X5_solveByMultiples p0 h8) fun h10 =>
    gr h10 p0 5 6 fun q10 =>
    ln h10 q10 fun v13 =>
    if v13 ≤ a2 then (
    some (0, h10))
    else (
    gr h10 p0 5 6 fun q11 =>
    al h10 q11 a2 fun v14 =>
    some (v14, h10)))
    else (
    rc h8 p0 5 <| cv (P_X5_solveByDivisors p0 h8) fun h9 =>
    gr h9 p0 5 6 fun q8 =>
    ln h9 q8 fun v11 =>
    if v11 ≤ a2 then (
    some (0, h9))
    else (
    gr h9 p0 5 6 fun q9 =>
    al h9 q9 a2 fun v12 =>
    some (v12, h9))))
    else (
    rc h4 p0 5 <| ci (P_X5_refuse p0 2 h4) fun v15 h11 =>
    some (v15, h11))))))

set_option maxHeartbeats 4000000 in
set_option maxRecDepth 100000 in
theorem ct_X5_way (l : Launch) (K : Kt) (p0 : Nat) (a1 : Int32) (a2 : Int32) (a3 : Int32) (h0 : Hp) {r : Int32} {h' : Hp} (hp : P_X5_way p0 a1 a2 a3 h0 = some (r, h')) : CT l K yX5_way cX5_way 4 (some FieldType.int) rmX5_way [.ref (K.1 + p0), .int a1, .int a2, .int a3] h0 (Qi K r h') := by
  refine ct_of (own := RX5) (by decide +kernel) rfl (Nat.le_of_ble_eq_true rfl) ?_
  intro p e s m args below meth c C X hr hlk hm ls hl
  have hl : lv_has ls 4 [(0, .ref (K.1 + p0)), (1, .int a1), (2, .int a2), (3, .int a3)] := hl
  unfold P_X5_way at hp
  refine lv_iload_n C.1 C.2.1 dX5_way_0 rfl (lv_at hl 1 rfl) ?_
  refine lv_if_lt (tgt := 36) C.1 C.2.1 dX5_way_1 (by decide) (fun c1 => ?_) (fun c1 => ?_)
  · have hp := if_p _ c1 hp
    refine lv_aload_n C.1 C.2.1 dX5_way_36 rfl (lv_at hl 0 rfl) ?_
    refine lv_iconst (v := 1) C.1 C.2.1 dX5_way_37 (by decide) ?_
    have hrc := (rc_some hp).1
    have hp := (rc_some hp).2
    refine w_ci (cells' := 0) (slots' := 0) X (fun _ _ e => run_V (As := [.int 1]) (c0 := 5) C X mX5_refuse miX5_refuse lX5_50 (by decide) rfl hrc (ct_X5_refuse l K p0 1 h0 e) (by decide) (by decide) rfl (by decide) rfl hl.1 dX5_way_38) (by decide) hp (fun v1 h1 H locs X hp => ?_)
    exact w_reti C X hr hlk (by decide) dX5_way_41 hp
  · have hp := if_n _ c1 hp
    refine lv_iload_n C.1 C.2.1 dX5_way_4 rfl (lv_at hl 1 rfl) ?_
    refine lv_aload_n C.1 C.2.1 dX5_way_5 rfl (lv_at hl 0 rfl) ?_
    refine w_gr C X fX5_19 rfl dX5_way_6 hp (fun q1 hp => ?_)
    refine w_gi C X fX5_133 rfl dX5_way_9 hp (fun v2 hp => ?_)
    refine lv_aload_n C.1 C.2.1 dX5_way_12 rfl (lv_at hl 0 rfl) ?_
    refine w_gr C X fX5_19 rfl dX5_way_13 hp (fun q2 hp => ?_)
    refine w_gi C X fX5_146 rfl dX5_way_16 hp (fun v3 hp => ?_)
    refine w_ci (cells' := 0) (slots' := 0) X (fun _ _ e => run_S (As := [.int v2, .int v3]) C X mX5_power msX5_power lX5_149 (ct_X5_power l K v2 v3 h0 e) (by decide) (by decide) rfl (Nat.le_of_ble_eq_true rfl) rfl hl.1 dX5_way_19) (by decide) hp (fun v4 h2 H locs X hp => ?_)
    refine lv_icmp_ge (tgt := 36) C.1 C.2.1 dX5_way_22 (by decide) (fun c2 => ?_) (fun c2 => ?_)
    · have hp := if_p _ c2 hp
      refine lv_aload_n C.1 C.2.1 dX5_way_36 rfl (lv_at hl 0 rfl) ?_
      refine lv_iconst (v := 1) C.1 C.2.1 dX5_way_37 (by decide) ?_
      have hrc := (rc_some hp).1
      have hp := (rc_some hp).2
      refine w_ci (cells' := 0) (slots' := 0) X (fun _ _ e => run_V (As := [.int 1]) (c0 := 5) C X mX5_refuse miX5_refuse lX5_50 (by decide) rfl hrc (ct_X5_refuse l K p0 1 h2 e) (by decide) (by decide) rfl (by decide) rfl hl.1 dX5_way_38) (by decide) hp (fun v5 h3 H locs X hp => ?_)
      exact w_reti C X hr hlk (by decide) dX5_way_41 hp
    · have hp := if_n _ c2 hp
      refine lv_aload_n C.1 C.2.1 dX5_way_25 rfl (lv_at hl 0 rfl) ?_
      refine w_gr C X fX5_19 rfl dX5_way_26 hp (fun q3 hp => ?_)
      refine lv_iload_n C.1 C.2.1 dX5_way_29 rfl (lv_at hl 2 rfl) ?_
      have hrc := (rc_some hp).1
      have hp := (rc_some hp).2
      refine w_ci (cells' := 0) (slots' := 0) X (fun _ _ e => run_VN (As := [.int a2]) (c0 := 0) C X mX0_hasDoor miX0_hasDoor lX5_89 (by decide) rfl hrc (ct_X0_hasDoor l K q3 a2 h2 e) (by decide) (by decide) rfl (by decide) rfl hl.1 dX5_way_30) (by decide) hp (fun v6 h4 H locs X hp => ?_)
      refine lv_if_ne (tgt := 42) C.1 C.2.1 dX5_way_33 (by decide) (fun c3 => ?_) (fun c3 => ?_)
      · have hp := if_n _ c3 hp
        refine lv_iload_n C.1 C.2.1 dX5_way_42 rfl (lv_at hl 3 rfl) ?_
        refine lv_if_eq (tgt := 57) C.1 C.2.1 dX5_way_43 (by decide) (fun c4 => ?_) (fun c4 => ?_)
        · have hp := if_p _ c4 hp
          refine lv_aload_n C.1 C.2.1 dX5_way_57 rfl (lv_at hl 0 rfl) ?_
          refine lv_iload_n C.1 C.2.1 dX5_way_58 rfl (lv_at hl 1 rfl) ?_
          have hrc := (rc_some hp).1
          have hp := (rc_some hp).2
          refine w_cv (cells' := 0) (slots' := 0) X (fun _ e => run_V (As := [.int a1]) (c0 := 5) C X mX5_spread miX5_spread lX5_152 (by decide) rfl hrc (ct_X5_spread l K p0 a1 h4 e) (by decide) (by decide) rfl (by decide) rfl hl.1 dX5_way_59) (by decide) hp (fun h5 H locs X hp => ?_)
          refine lv_iload_n C.1 C.2.1 dX5_way_62 rfl (lv_at hl 3 rfl) ?_
          refine lv_if_ne (tgt := 73) C.1 C.2.1 dX5_way_63 (by decide) (fun c5 => ?_) (fun c5 => ?_)
          · have hp := if_n _ c5 hp
            refine lv_aload_n C.1 C.2.1 dX5_way_73 rfl (lv_at hl 0 rfl) ?_
            have hrc := (rc_some hp).1
            have hp := (rc_some hp).2
            refine w_cv (cells' := 0) (slots' := 0) X (fun _ e => run_V (As := []) (c0 := 5) C X mX5_solveByDivisors miX5_solveByDivisors lX5_159 (by decide) rfl hrc (ct_X5_solveByDivisors l K p0 h5 e) (by decide) (by decide) rfl (by decide) rfl hl.1 dX5_way_74) (by decide) hp (fun h6 H locs X hp => ?_)
            refine lv_iload_n C.1 C.2.1 dX5_way_77 rfl (lv_at hl 2 rfl) ?_
            refine lv_aload_n C.1 C.2.1 dX5_way_78 rfl (lv_at hl 0 rfl) ?_
            refine w_gr C X fX5_43 rfl dX5_way_79 hp (fun q4 hp => ?_)
            refine w_ln C X dX5_way_82 hp (fun v7 hp => ?_)
            refine lv_icmp_ge (tgt := 95) C.1 C.2.1 dX5_way_83 (by decide) (fun c6 => ?_) (fun c6 => ?_)
            · have hp := if_p _ c6 hp
              refine lv_iconst (v := 0) C.1 C.2.1 dX5_way_95 (by decide) ?_
              exact w_reti C X hr hlk (by decide) dX5_way_96 hp
            · have hp := if_n _ c6 hp
              refine lv_aload_n C.1 C.2.1 dX5_way_86 rfl (lv_at hl 0 rfl) ?_
              refine w_gr C X fX5_43 rfl dX5_way_87 hp (fun q5 hp => ?_)
              refine lv_iload_n C.1 C.2.1 dX5_way_90 rfl (lv_at hl 2 rfl) ?_
              refine w_al C X dX5_way_91 hp (fun v8 hp => ?_)
              refine lv_goto (tgt := 96) C.1 C.2.1 dX5_way_92 (by decide) ?_
              exact w_reti C X hr hlk (by decide) dX5_way_96 hp
          · have hp := if_p _ c5 hp
            refine lv_aload_n C.1 C.2.1 dX5_way_66 rfl (lv_at hl 0 rfl) ?_
            have hrc := (rc_some hp).1
            have hp := (rc_some hp).2
            refine w_cv (cells' := 0) (slots' := 0) X (fun _ e => run_V (As := []) (c0 := 5) C X mX5_solveByMultiples miX5_solveByMultiples lX5_156 (by decide) rfl hrc (ct_X5_solveByMultiples l K p0 h5 e) (by decide) (by decide) rfl (by decide) rfl hl.1 dX5_way_67) (by decide) hp (fun h7 H locs X hp => ?_)
            refine lv_goto (tgt := 77) C.1 C.2.1 dX5_way_70 (by decide) ?_
            refine lv_iload_n C.1 C.2.1 dX5_way_77 rfl (lv_at hl 2 rfl) ?_
            refine lv_aload_n C.1 C.2.1 dX5_way_78 rfl (lv_at hl 0 rfl) ?_
            refine w_gr C X fX5_43 rfl dX5_way_79 hp (fun q6 hp => ?_)
            refine w_ln C X dX5_way_82 hp (fun v9 hp => ?_)
            refine lv_icmp_ge (tgt := 95) C.1 C.2.1 dX5_way_83 (by decide) (fun c7 => ?_) (fun c7 => ?_)
            · have hp := if_p _ c7 hp
              refine lv_iconst (v := 0) C.1 C.2.1 dX5_way_95 (by decide) ?_
              exact w_reti C X hr hlk (by decide) dX5_way_96 hp
            · have hp := if_n _ c7 hp
              refine lv_aload_n C.1 C.2.1 dX5_way_86 rfl (lv_at hl 0 rfl) ?_
              refine w_gr C X fX5_43 rfl dX5_way_87 hp (fun q7 hp => ?_)
              refine lv_iload_n C.1 C.2.1 dX5_way_90 rfl (lv_at hl 2 rfl) ?_
              refine w_al C X dX5_way_91 hp (fun v10 hp => ?_)
              refine lv_goto (tgt := 96) C.1 C.2.1 dX5_way_92 (by decide) ?_
              exact w_reti C X hr hlk (by decide) dX5_way_96 hp
        · have hp := if_n _ c4 hp
          refine lv_iload_n C.1 C.2.1 dX5_way_46 rfl (lv_at hl 3 rfl) ?_
          refine lv_iconst (v := 1) C.1 C.2.1 dX5_way_47 (by decide) ?_
          refine lv_icmp_eq (tgt := 57) C.1 C.2.1 dX5_way_48 (by decide) (fun c8 => ?_) (fun c8 => ?_)
          · have hp := if_p _ c8 hp
            refine lv_aload_n C.1 C.2.1 dX5_way_57 rfl (lv_at hl 0 rfl) ?_
            refine lv_iload_n C.1 C.2.1 dX5_way_58 rfl (lv_at hl 1 rfl) ?_
            have hrc := (rc_some hp).1
            have hp := (rc_some hp).2
            refine w_cv (cells' := 0) (slots' := 0) X (fun _ e => run_V (As := [.int a1]) (c0 := 5) C X mX5_spread miX5_spread lX5_152 (by decide) rfl hrc (ct_X5_spread l K p0 a1 h4 e) (by decide) (by decide) rfl (by decide) rfl hl.1 dX5_way_59) (by decide) hp (fun h8 H locs X hp => ?_)
            refine lv_iload_n C.1 C.2.1 dX5_way_62 rfl (lv_at hl 3 rfl) ?_
            refine lv_if_ne (tgt := 73) C.1 C.2.1 dX5_way_63 (by decide) (fun c9 => ?_) (fun c9 => ?_)
            · have hp := if_n _ c9 hp
              refine lv_aload_n C.1 C.2.1 dX5_way_73 rfl (lv_at hl 0 rfl) ?_
              have hrc := (rc_some hp).1
              have hp := (rc_some hp).2
              refine w_cv (cells' := 0) (slots' := 0) X (fun _ e => run_V (As := []) (c0 := 5) C X mX5_solveByDivisors miX5_solveByDivisors lX5_159 (by decide) rfl hrc (ct_X5_solveByDivisors l K p0 h8 e) (by decide) (by decide) rfl (by decide) rfl hl.1 dX5_way_74) (by decide) hp (fun h9 H locs X hp => ?_)
              refine lv_iload_n C.1 C.2.1 dX5_way_77 rfl (lv_at hl 2 rfl) ?_
              refine lv_aload_n C.1 C.2.1 dX5_way_78 rfl (lv_at hl 0 rfl) ?_
              refine w_gr C X fX5_43 rfl dX5_way_79 hp (fun q8 hp => ?_)
              refine w_ln C X dX5_way_82 hp (fun v11 hp => ?_)
              refine lv_icmp_ge (tgt := 95) C.1 C.2.1 dX5_way_83 (by decide) (fun c10 => ?_) (fun c10 => ?_)
              · have hp := if_p _ c10 hp
                refine lv_iconst (v := 0) C.1 C.2.1 dX5_way_95 (by decide) ?_
                exact w_reti C X hr hlk (by decide) dX5_way_96 hp
              · have hp := if_n _ c10 hp
                refine lv_aload_n C.1 C.2.1 dX5_way_86 rfl (lv_at hl 0 rfl) ?_
                refine w_gr C X fX5_43 rfl dX5_way_87 hp (fun q9 hp => ?_)
                refine lv_iload_n C.1 C.2.1 dX5_way_90 rfl (lv_at hl 2 rfl) ?_
                refine w_al C X dX5_way_91 hp (fun v12 hp => ?_)
                refine lv_goto (tgt := 96) C.1 C.2.1 dX5_way_92 (by decide) ?_
                exact w_reti C X hr hlk (by decide) dX5_way_96 hp
            · have hp := if_p _ c9 hp
              refine lv_aload_n C.1 C.2.1 dX5_way_66 rfl (lv_at hl 0 rfl) ?_
              have hrc := (rc_some hp).1
              have hp := (rc_some hp).2
              refine w_cv (cells' := 0) (slots' := 0) X (fun _ e => run_V (As := []) (c0 := 5) C X mX5_solveByMultiples miX5_solveByMultiples lX5_156 (by decide) rfl hrc (ct_X5_solveByMultiples l K p0 h8 e) (by decide) (by decide) rfl (by decide) rfl hl.1 dX5_way_67) (by decide) hp (fun h10 H locs X hp => ?_)
              refine lv_goto (tgt := 77) C.1 C.2.1 dX5_way_70 (by decide) ?_
              refine lv_iload_n C.1 C.2.1 dX5_way_77 rfl (lv_at hl 2 rfl) ?_
              refine lv_aload_n C.1 C.2.1 dX5_way_78 rfl (lv_at hl 0 rfl) ?_
              refine w_gr C X fX5_43 rfl dX5_way_79 hp (fun q10 hp => ?_)
              refine w_ln C X dX5_way_82 hp (fun v13 hp => ?_)
              refine lv_icmp_ge (tgt := 95) C.1 C.2.1 dX5_way_83 (by decide) (fun c11 => ?_) (fun c11 => ?_)
              · have hp := if_p _ c11 hp
                refine lv_iconst (v := 0) C.1 C.2.1 dX5_way_95 (by decide) ?_
                exact w_reti C X hr hlk (by decide) dX5_way_96 hp
              · have hp := if_n _ c11 hp
                refine lv_aload_n C.1 C.2.1 dX5_way_86 rfl (lv_at hl 0 rfl) ?_
                refine w_gr C X fX5_43 rfl dX5_way_87 hp (fun q11 hp => ?_)
                refine lv_iload_n C.1 C.2.1 dX5_way_90 rfl (lv_at hl 2 rfl) ?_
                refine w_al C X dX5_way_91 hp (fun v14 hp => ?_)
                refine lv_goto (tgt := 96) C.1 C.2.1 dX5_way_92 (by decide) ?_
                exact w_reti C X hr hlk (by decide) dX5_way_96 hp
          · have hp := if_n _ c8 hp
            refine lv_aload_n C.1 C.2.1 dX5_way_51 rfl (lv_at hl 0 rfl) ?_
            refine lv_iconst (v := 2) C.1 C.2.1 dX5_way_52 (by decide) ?_
            have hrc := (rc_some hp).1
            have hp := (rc_some hp).2
            refine w_ci (cells' := 0) (slots' := 0) X (fun _ _ e => run_V (As := [.int 2]) (c0 := 5) C X mX5_refuse miX5_refuse lX5_50 (by decide) rfl hrc (ct_X5_refuse l K p0 2 h4 e) (by decide) (by decide) rfl (by decide) rfl hl.1 dX5_way_53) (by decide) hp (fun v15 h11 H locs X hp => ?_)
            exact w_reti C X hr hlk (by decide) dX5_way_56 hp
      · have hp := if_p _ c3 hp
        refine lv_aload_n C.1 C.2.1 dX5_way_36 rfl (lv_at hl 0 rfl) ?_
        refine lv_iconst (v := 1) C.1 C.2.1 dX5_way_37 (by decide) ?_
        have hrc := (rc_some hp).1
        have hp := (rc_some hp).2
        refine w_ci (cells' := 0) (slots' := 0) X (fun _ _ e => run_V (As := [.int 1]) (c0 := 5) C X mX5_refuse miX5_refuse lX5_50 (by decide) rfl hrc (ct_X5_refuse l K p0 1 h4 e) (by decide) (by decide) rfl (by decide) rfl hl.1 dX5_way_38) (by decide) hp (fun v16 h12 H locs X hp => ?_)
        exact w_reti C X hr hlk (by decide) dX5_way_41 hp

abbrev rmX5_can : Room := { frames := 4, cells := 0, slots := 0, locals := 91 }
def P_X5_can_L22 : Nat → Nat → Int32 → Int32 → Hp → Option (Int32 × Hp)
  | 0, _, _, _, _ => none
  | n + 1, q4, v4, v5, h2 =>
    gr h2 q4 5 4 fun q5 =>
    gi h2 q5 4 3 fun v6 =>
    if v6 ≤ v5 then (
    some (v4, h2))
    else (
    gr h2 q4 5 1 fun q6 =>
    gr h2 q4 5 4 fun q7 =>
    rc h2 q7 4 <| ci (P_X4_endOf q7 v5 h2) fun v7 h3 =>
    rc h3 q6 0 <| ci (P_X0_isWish q6 v7 h3) fun v8 h4 =>
    if v8 = 0 then (
    lt ((v5 + 1) : Int32) fun v9 =>
    P_X5_can_L22 n q4 v4 v9 h4)
    else (
    lt ((v4 + 1) : Int32) fun v10 =>
    lt ((v5 + 1) : Int32) fun v11 =>
    P_X5_can_L22 n q4 v10 v11 h4))

def P_X5_can (p0 : Nat) (h0 : Hp) : Option (Int32 × Hp) :=
    gr h0 p0 5 4 fun q1 =>
    gr h0 p0 5 1 fun q2 =>
    gr h0 p0 5 1 fun q3 =>
    gi h0 q3 0 7 fun v1 =>
    rc h0 q1 4 <| cv (P_X4_lead q1 q2 v1 h0) fun h1 =>
    lt (0 : Int32) fun v2 =>
    lt (0 : Int32) fun v3 =>
    P_X5_can_L22 FU p0 v2 v3 h1

set_option maxHeartbeats 4000000 in
set_option maxRecDepth 100000 in
theorem wl_X5_can_L22 (C : CX K p m c cX5_can 3 s args RX5) (hr : meth.sig.returnType = (some FieldType.int)) (hlk : meth.locks = false) {r : Int32} {h' : Hp} : ∀ (n : Nat) (q4 : Nat) (v4 : Int32) (v5 : Int32) (h2 : Hp) (H : Heap) (locs : List Loc) (ls : Array Slot), HX K s.heap H locs h2 → lv_has ls 3 [(0, .ref (K.1 + q4)), (1, .int v4), (2, .int v5)] → P_X5_can_L22 n q4 v4 v5 h2 = some (r, h') → W p l e rmX5_can s m args below meth c H locs 0 0 (MQ below (Qi K r h') args s rmX5_can.cells rmX5_can.slots (KA K)) (F0 m 22 ls []) := by
  intro n
  induction n with
  | zero =>
    intro  q4 v4 v5 h2 H locs ls X hl hp
    cases hp
  | succ n ih =>
    intro  q4 v4 v5 h2 H locs ls X hl hp
    unfold P_X5_can_L22 at hp
    refine lv_iload_n C.1 C.2.1 dX5_can_22 rfl (lv_at hl 2 rfl) ?_
    refine lv_aload_n C.1 C.2.1 dX5_can_23 rfl (lv_at hl 0 rfl) ?_
    refine w_gr C X fX5_32 rfl dX5_can_24 hp (fun q5 hp => ?_)
    refine w_gi C X fX5_180 rfl dX5_can_27 hp (fun v6 hp => ?_)
    refine lv_icmp_ge (tgt := 60) C.1 C.2.1 dX5_can_30 (by decide) (fun c1 => ?_) (fun c1 => ?_)
    · have hp := if_p _ c1 hp
      refine lv_iload_n C.1 C.2.1 dX5_can_60 rfl (lv_at hl 1 rfl) ?_
      exact w_reti C X hr hlk (by decide) dX5_can_61 hp
    · have hp := if_n _ c1 hp
      refine lv_aload_n C.1 C.2.1 dX5_can_33 rfl (lv_at hl 0 rfl) ?_
      refine w_gr C X fX5_19 rfl dX5_can_34 hp (fun q6 hp => ?_)
      refine lv_aload_n C.1 C.2.1 dX5_can_37 rfl (lv_at hl 0 rfl) ?_
      refine w_gr C X fX5_32 rfl dX5_can_38 hp (fun q7 hp => ?_)
      refine lv_iload_n C.1 C.2.1 dX5_can_41 rfl (lv_at hl 2 rfl) ?_
      have hrc := (rc_some hp).1
      have hp := (rc_some hp).2
      refine w_ci (cells' := 0) (slots' := 0) X (fun _ _ e => run_VN (As := [.int v5]) (c0 := 4) C X mX4_endOf miX4_endOf lX5_183 (by decide) rfl hrc (ct_X4_endOf l K q7 v5 h2 e) (by decide) (by decide) rfl (Nat.le_of_ble_eq_true rfl) rfl hl.1 dX5_can_42) (by decide) hp (fun v7 h3 H locs X hp => ?_)
      have hrc := (rc_some hp).1
      have hp := (rc_some hp).2
      refine w_ci (cells' := 0) (slots' := 0) X (fun _ _ e => run_VN (As := [.int v7]) (c0 := 0) C X mX0_isWish miX0_isWish lX5_143 (by decide) rfl hrc (ct_X0_isWish l K q6 v7 h3 e) (by decide) (by decide) rfl (by decide) rfl hl.1 dX5_can_45) (by decide) hp (fun v8 h4 H locs X hp => ?_)
      refine lv_if_eq (tgt := 54) C.1 C.2.1 dX5_can_48 (by decide) (fun c2 => ?_) (fun c2 => ?_)
      · have hp := if_p _ c2 hp
        refine w_inc (k := 2) C (fun v => [(2, .int (v)), (0, .ref (K.1 + q4)), (1, .int v4)]) dX5_can_54 hl rfl (y := (v5 + 1)) rfl (by decide) (fun _ => rfl) hp (fun v9 ls hl hp => ?_)
        refine lv_goto (tgt := 22) C.1 C.2.1 dX5_can_57 (by decide) ?_
        exact ih _ _ _ _ _ _ _ X (lv_sub hl [1, 2, 0] rfl) hp
      · have hp := if_n _ c2 hp
        refine w_inc (k := 1) C (fun v => [(1, .int (v)), (0, .ref (K.1 + q4)), (2, .int v5)]) dX5_can_51 hl rfl (y := (v4 + 1)) rfl (by decide) (fun _ => rfl) hp (fun v10 ls hl hp => ?_)
        refine w_inc (k := 2) C (fun v => [(2, .int (v)), (1, .int v10), (0, .ref (K.1 + q4))]) dX5_can_54 hl rfl (y := (v5 + 1)) rfl (by decide) (fun _ => rfl) hp (fun v11 ls hl hp => ?_)
        refine lv_goto (tgt := 22) C.1 C.2.1 dX5_can_57 (by decide) ?_
        exact ih _ _ _ _ _ _ _ X (lv_sub hl [2, 1, 0] rfl) hp

set_option maxHeartbeats 4000000 in
set_option maxRecDepth 100000 in
theorem ct_X5_can (l : Launch) (K : Kt) (p0 : Nat) (h0 : Hp) {r : Int32} {h' : Hp} (hp : P_X5_can p0 h0 = some (r, h')) : CT l K yX5_can cX5_can 3 (some FieldType.int) rmX5_can [.ref (K.1 + p0)] h0 (Qi K r h') := by
  refine ct_of (own := RX5) (by decide +kernel) rfl (Nat.le_of_ble_eq_true rfl) ?_
  intro p e s m args below meth c C X hr hlk hm ls hl
  have hl : lv_has ls 3 [(0, .ref (K.1 + p0))] := hl
  unfold P_X5_can at hp
  refine lv_aload_n C.1 C.2.1 dX5_can_0 rfl (lv_at hl 0 rfl) ?_
  refine w_gr C X fX5_32 rfl dX5_can_1 hp (fun q1 hp => ?_)
  refine lv_aload_n C.1 C.2.1 dX5_can_4 rfl (lv_at hl 0 rfl) ?_
  refine w_gr C X fX5_19 rfl dX5_can_5 hp (fun q2 hp => ?_)
  refine lv_aload_n C.1 C.2.1 dX5_can_8 rfl (lv_at hl 0 rfl) ?_
  refine w_gr C X fX5_19 rfl dX5_can_9 hp (fun q3 hp => ?_)
  refine w_gi C X fX5_93 rfl dX5_can_12 hp (fun v1 hp => ?_)
  have hrc := (rc_some hp).1
  have hp := (rc_some hp).2
  refine w_cv (cells' := 0) (slots' := 0) X (fun _ e => run_VN (As := [.ref (K.1 + q2), .int v1]) (c0 := 4) C X mX4_lead miX4_lead lX5_176 (by decide) rfl hrc (ct_X4_lead l K q1 q2 v1 h0 e) (by decide) (by decide) rfl (by decide) rfl hl.1 dX5_can_15) (by decide) hp (fun h1 H locs X hp => ?_)
  refine lv_iconst (v := 0) C.1 C.2.1 dX5_can_18 (by decide) ?_
  refine w_istn C (fun v => [(1, .int (v)), (0, .ref (K.1 + p0))]) dX5_can_19 rfl hl (by decide) (fun _ => rfl) hp (fun v2 ls hl hp => ?_)
  refine lv_iconst (v := 0) C.1 C.2.1 dX5_can_20 (by decide) ?_
  refine w_istn C (fun v => [(2, .int (v)), (1, .int v2), (0, .ref (K.1 + p0))]) dX5_can_21 rfl hl (by decide) (fun _ => rfl) hp (fun v3 ls hl hp => ?_)
  exact wl_X5_can_L22 C hr hlk _ _ _ _ _ _ _ _ X (lv_sub hl [2, 1, 0] rfl) hp

end
