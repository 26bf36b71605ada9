noncomputable section
variable {p : Program} {l : Launch} {e : Env} {s : State} {m : MethodId} {args : Array Value} {below : List Frame} {meth : Method} {c : Code} {K : Kt}
abbrev rmX6_zeroes : Room := { frames := 0, cells := 0, slots := 0, locals := 0 }
def P_X6_zeroes_L2 : Nat → Nat → Int32 → Hp → Option (Hp)
  | 0, _, _, _ => none
  | n + 1, q1, v2, h1 =>
    if 12 ≤ v2 then (
    some h1)
    else (
    gr h1 q1 6 1 fun q2 =>
    as h1 q2 (4 + v2) 0 fun h2 =>
    lt ((v2 + 1) : Int32) fun v3 =>
    P_X6_zeroes_L2 n q1 v3 h2)

def P_X6_zeroes (p0 : Nat) (h0 : Hp) : Option (Hp) :=
    lt (0 : Int32) fun v1 =>
    P_X6_zeroes_L2 FU p0 v1 h0

set_option maxHeartbeats 4000000 in
set_option maxRecDepth 100000 in
theorem wl_X6_zeroes_L2 (C : CX K p m c cX6_zeroes 2 s args RX6) (hr : meth.sig.returnType = none) (hlk : meth.locks = false) {h' : Hp} : ∀ (n : Nat) (q1 : Nat) (v2 : Int32) (h1 : Hp) (H : Heap) (locs : List Loc) (ls : Array Slot), HX K s.heap H locs h1 → lv_has ls 2 [(0, .ref (K.1 + q1)), (1, .int v2)] → P_X6_zeroes_L2 n q1 v2 h1 = some h' → W p l e rmX6_zeroes s m args below meth c H locs 0 0 (MQ below (Qv K h') args s rmX6_zeroes.cells rmX6_zeroes.slots (KA K)) (F0 m 2 ls []) := by
  intro n
  induction n with
  | zero =>
    intro  q1 v2 h1 H locs ls X hl hp
    cases hp
  | succ n ih =>
    intro  q1 v2 h1 H locs ls X hl hp
    unfold P_X6_zeroes_L2 at hp
    refine lv_iload_n C.1 C.2.1 dX6_zeroes_2 rfl (lv_at hl 1 rfl) ?_
    refine lv_bipush (v := 12) C.1 C.2.1 dX6_zeroes_3 (by decide) ?_
    refine lv_icmp_ge (tgt := 23) C.1 C.2.1 dX6_zeroes_5 (by decide) (fun c1 => ?_) (fun c1 => ?_)
    · have hp := if_p _ c1 hp
      exact w_retv C X hr hlk (by decide) dX6_zeroes_23 hp
    · have hp := if_n _ c1 hp
      refine lv_aload_n C.1 C.2.1 dX6_zeroes_8 rfl (lv_at hl 0 rfl) ?_
      refine w_gr C X fX6_13 rfl dX6_zeroes_9 hp (fun q2 hp => ?_)
      refine lv_iconst (v := 4) C.1 C.2.1 dX6_zeroes_12 (by decide) ?_
      refine lv_iload_n C.1 C.2.1 dX6_zeroes_13 rfl (lv_at hl 1 rfl) ?_
      refine lv_iadd C.1 C.2.1 dX6_zeroes_14 ?_
      refine lv_iconst (v := 0) C.1 C.2.1 dX6_zeroes_15 (by decide) ?_
      refine w_as C X dX6_zeroes_16 hp (fun H locs h2 X hp => ?_)
      refine w_inc (k := 1) C (fun v => [(1, .int (v)), (0, .ref (K.1 + q1))]) dX6_zeroes_17 hl rfl (y := (v2 + 1)) rfl (by decide) (fun _ => rfl) hp (fun v3 ls hl hp => ?_)
      refine lv_goto (tgt := 2) C.1 C.2.1 dX6_zeroes_20 (by decide) ?_
      exact ih _ _ _ _ _ _ X (lv_sub hl [1, 0] rfl) hp

set_option maxHeartbeats 4000000 in
set_option maxRecDepth 100000 in
theorem ct_X6_zeroes (l : Launch) (K : Kt) (p0 : Nat) (h0 : Hp) {h' : Hp} (hp : P_X6_zeroes p0 h0 = some h') : CT l K yX6_zeroes cX6_zeroes 2 none rmX6_zeroes [.ref (K.1 + p0)] h0 (Qv K h') := by
  refine ct_of (own := RX6) (by decide +kernel) rfl (Nat.le_of_ble_eq_true rfl) ?_
  intro p e s m args below meth c C X hr hlk hm ls hl
  have hl : lv_has ls 2 [(0, .ref (K.1 + p0))] := hl
  unfold P_X6_zeroes at hp
  refine lv_iconst (v := 0) C.1 C.2.1 dX6_zeroes_0 (by decide) ?_
  refine w_istn C (fun v => [(1, .int (v)), (0, .ref (K.1 + p0))]) dX6_zeroes_1 rfl hl (by decide) (fun _ => rfl) hp (fun v1 ls hl hp => ?_)
  exact wl_X6_zeroes_L2 C hr hlk _ _ _ _ _ _ _ X (lv_sub hl [1, 0] rfl) hp

abbrev rmX6_timesOf : Room := { frames := 0, cells := 0, slots := 0, locals := 0 }
def P_X6_timesOf_L5 : Nat → Nat → Int32 → Int32 → Int32 → Hp → Option (Int32 × Hp)
  | 0, _, _, _, _, _ => none
  | n + 1, q1, v3, v4, v5, h1 =>
    if v3 ≤ v5 then (
    gr h1 q1 6 1 fun q2 =>
    al h1 q2 1 fun v6 =>
    nz v6 <|
    some ((jrem v4 v6), h1))
    else (
    gr h1 q1 6 1 fun q3 =>
    al h1 q3 1 fun v7 =>
    nz v7 <|
    lt ((v4 / v7) : Int32) fun v8 =>
    lt ((v5 + 1) : Int32) fun v9 =>
    P_X6_timesOf_L5 n q1 v3 v8 v9 h1)

def P_X6_timesOf (p0 : Nat) (a1 : Int32) (a2 : Int32) (h0 : Hp) : Option (Int32 × Hp) :=
    lt (a1 : Int32) fun v1 =>
    lt (0 : Int32) fun v2 =>
    P_X6_timesOf_L5 FU p0 a2 v1 v2 h0

set_option maxHeartbeats 4000000 in
set_option maxRecDepth 100000 in
theorem wl_X6_timesOf_L5 (C : CX K p m c cX6_timesOf 5 s args RX6) (hr : meth.sig.returnType = (some FieldType.int)) (hlk : meth.locks = false) {r : Int32} {h' : Hp} : ∀ (n : Nat) (q1 : Nat) (v3 : Int32) (v4 : Int32) (v5 : Int32) (h1 : Hp) (H : Heap) (locs : List Loc) (ls : Array Slot), HX K s.heap H locs h1 → lv_has ls 5 [(0, .ref (K.1 + q1)), (2, .int v3), (3, .int v4), (4, .int v5)] → P_X6_timesOf_L5 n q1 v3 v4 v5 h1 = some (r, h') → W p l e rmX6_timesOf s m args below meth c H locs 0 0 (MQ below (Qi K r h') args s rmX6_timesOf.cells rmX6_timesOf.slots (KA K)) (F0 m 5 ls []) := by
  intro n
  induction n with
  | zero =>
    intro  q1 v3 v4 v5 h1 H locs ls X hl hp
    cases hp
  | succ n ih =>
    intro  q1 v3 v4 v5 h1 H locs ls X hl hp
    unfold P_X6_timesOf_L5 at hp
    refine lv_iload C.1 C.2.1 dX6_timesOf_5 (lv_at hl 3 rfl) ?_
    refine lv_iload_n C.1 C.2.1 dX6_timesOf_7 rfl (lv_at hl 1 rfl) ?_
    refine lv_icmp_ge (tgt := 26) C.1 C.2.1 dX6_timesOf_8 (by decide) (fun c1 => ?_) (fun c1 => ?_)
    · have hp := if_p _ c1 hp
      refine lv_iload_n C.1 C.2.1 dX6_timesOf_26 rfl (lv_at hl 2 rfl) ?_
      refine lv_aload_n C.1 C.2.1 dX6_timesOf_27 rfl (lv_at hl 0 rfl) ?_
      refine w_gr C X fX6_13 rfl dX6_timesOf_28 hp (fun q2 hp => ?_)
      refine lv_iconst (v := 1) C.1 C.2.1 dX6_timesOf_31 (by decide) ?_
      refine w_al C X dX6_timesOf_32 hp (fun v6 hp => ?_)
      have hz := (nz_some hp).1
      have hp := (nz_some hp).2
      refine w_rem C dX6_timesOf_33 hz ?_
      exact w_reti C X hr hlk (by decide) dX6_timesOf_34 hp
    · have hp := if_n _ c1 hp
      refine lv_iload_n C.1 C.2.1 dX6_timesOf_11 rfl (lv_at hl 2 rfl) ?_
      refine lv_aload_n C.1 C.2.1 dX6_timesOf_12 rfl (lv_at hl 0 rfl) ?_
      refine w_gr C X fX6_13 rfl dX6_timesOf_13 hp (fun q3 hp => ?_)
      refine lv_iconst (v := 1) C.1 C.2.1 dX6_timesOf_16 (by decide) ?_
      refine w_al C X dX6_timesOf_17 hp (fun v7 hp => ?_)
      have hz := (nz_some hp).1
      have hp := (nz_some hp).2
      refine lv_idiv C.1 C.2.1 dX6_timesOf_18 hz ?_
      refine w_istn C (fun v => [(3, .int (v)), (0, .ref (K.1 + q1)), (2, .int v3), (4, .int v5)]) dX6_timesOf_19 rfl hl (by decide) (fun _ => rfl) hp (fun v8 ls hl hp => ?_)
      refine w_inc (k := 3) C (fun v => [(4, .int (v)), (3, .int v8), (0, .ref (K.1 + q1)), (2, .int v3)]) dX6_timesOf_20 hl rfl (y := (v5 + 1)) rfl (by decide) (fun _ => rfl) hp (fun v9 ls hl hp => ?_)
      refine lv_goto (tgt := 5) C.1 C.2.1 dX6_timesOf_23 (by decide) ?_
      exact ih _ _ _ _ _ _ _ _ X (lv_sub hl [2, 3, 1, 0] rfl) hp

set_option maxHeartbeats 4000000 in
set_option maxRecDepth 100000 in
theorem ct_X6_timesOf (l : Launch) (K : Kt) (p0 : Nat) (a1 : Int32) (a2 : Int32) (h0 : Hp) {r : Int32} {h' : Hp} (hp : P_X6_timesOf p0 a1 a2 h0 = some (r, h')) : CT l K yX6_timesOf cX6_timesOf 5 (some FieldType.int) rmX6_timesOf [.ref (K.1 + p0), .int a1, .int a2] h0 (Qi K r h') := by
  refine ct_of (own := RX6) (by decide +kernel) rfl (Nat.le_of_ble_eq_true rfl) ?_
  intro p e s m args below meth c C X hr hlk hm ls hl
  have hl : lv_has ls 5 [(0, .ref (K.1 + p0)), (1, .int a1), (2, .int a2)] := hl
  unfold P_X6_timesOf at hp
  refine lv_iload_n C.1 C.2.1 dX6_timesOf_0 rfl (lv_at hl 1 rfl) ?_
  refine w_istn C (fun v => [(3, .int (v)), (0, .ref (K.1 + p0)), (1, .int a1), (2, .int a2)]) dX6_timesOf_1 rfl hl (by decide) (fun _ => rfl) hp (fun v1 ls hl hp => ?_)
  refine lv_iconst (v := 0) C.1 C.2.1 dX6_timesOf_2 (by decide) ?_
  refine w_ist C (fun v => [(4, .int (v)), (3, .int v1), (0, .ref (K.1 + p0)), (1, .int a1), (2, .int a2)]) dX6_timesOf_3 hl (by decide) (fun _ => rfl) hp (fun v2 ls hl hp => ?_)
  exact wl_X6_timesOf_L5 C hr hlk _ _ _ _ _ _ _ _ _ X (lv_sub hl [2, 4, 1, 0] rfl) hp

abbrev rmX6_goesRow : Room := { frames := 3, cells := 0, slots := 0, locals := 69 }
def P_X6_goesRow_L19 : Nat → Nat → Int32 → Int32 → Int32 → Hp → (Hp → Option (Hp)) → Option (Hp)
  | 0, _, _, _, _, _, _ => none
  | n + 1, q3, v7, v8, v9, h3, kont =>
    if v9 ≤ 0 then (
    kont h3)
    else (
    rc h3 q3 6 <| ci (P_X6_goes q3 v8 h3) fun v10 h4 =>
    lt ((v9 + (-1)) : Int32) fun v11 =>
    P_X6_goesRow_L19 n q3 v7 v8 v11 h4 kont)

def P_X6_goesRow_L2 : Nat → Nat → Int32 → Int32 → Hp → Option (Hp)
  | 0, _, _, _, _ => none
  | n + 1, q1, v2, v3, h1 =>
    gr h1 q1 6 1 fun q2 =>
    al h1 q2 2 fun v4 =>
    if v4 ≤ v3 then (
    some h1)
    else (
    rc h1 q1 6 <| ci (P_X6_timesOf q1 v2 v3 h1) fun v5 h2 =>
    lt (v5 : Int32) fun v6 =>
    P_X6_goesRow_L19 FU q1 v2 v3 v6 h2 fun h5 =>
    lt ((v3 + 1) : Int32) fun v12 =>
    P_X6_goesRow_L2 n q1 v2 v12 h5)

def P_X6_goesRow (p0 : Nat) (a1 : Int32) (h0 : Hp) : Option (Hp) :=
    lt (0 : Int32) fun v1 =>
    P_X6_goesRow_L2 FU p0 a1 v1 h0

set_option maxHeartbeats 4000000 in
set_option maxRecDepth 100000 in
theorem wl_X6_goesRow_L19 (C : CX K p m c cX6_goesRow 4 s args RX6) (hr : meth.sig.returnType = none) (hlk : meth.locks = false) {h' : Hp} : ∀ (n : Nat) (q3 : Nat) (v7 : Int32) (v8 : Int32) (v9 : Int32) (h3 : Hp) (kont : Hp → Option (Hp)) (H : Heap) (locs : List Loc) (ls : Array Slot), HX K s.heap H locs h3 → lv_has ls 4 [(0, .ref (K.1 + q3)), (1, .int v7), (2, .int v8), (3, .int v9)] → P_X6_goesRow_L19 n q3 v7 v8 v9 h3 kont = some h' → (∀  (hk : Hp) (H : Heap) (locs : List Loc) (ls : Array Slot), HX K s.heap H locs hk → lv_has ls 4 [(0, .ref (K.1 + q3)), (1, .int v7), (2, .int v8)] → kont  hk = some h' → W p l e rmX6_goesRow s m args below meth c H locs 0 0 (MQ below (Qv K h') args s rmX6_goesRow.cells rmX6_goesRow.slots (KA K)) (F0 m 35 ls [])) → W p l e rmX6_goesRow s m args below meth c H locs 0 0 (MQ below (Qv K h') args s rmX6_goesRow.cells rmX6_goesRow.slots (KA K)) (F0 m 19 ls []) := by
  intro n
  induction n with
  | zero =>
    intro  q3 v7 v8 v9 h3 kont H locs ls X hl hp hk
    cases hp
  | succ n ih =>
    intro  q3 v7 v8 v9 h3 kont H locs ls X hl hp hk
    unfold P_X6_goesRow_L19 at hp
    refine lv_iload_n C.1 C.2.1 dX6_goesRow_19 rfl (lv_at hl 3 rfl) ?_
    refine lv_if_le (tgt := 35) C.1 C.2.1 dX6_goesRow_20 (by decide) (fun c2 => ?_) (fun c2 => ?_)
    · have hp := if_p _ c2 hp
      exact hk _ _ _ _ X (lv_sub hl [0, 1, 2] rfl) hp
    · have hp := if_n _ c2 hp
      refine lv_aload_n C.1 C.2.1 dX6_goesRow_23 rfl (lv_at hl 0 rfl) ?_
      refine lv_iload_n C.1 C.2.1 dX6_goesRow_24 rfl (lv_at hl 2 rfl) ?_
      have hrc := (rc_some hp).1
      have hp := (rc_some hp).2
      refine w_ci (cells' := 0) (slots' := 0) X (fun _ _ e => run_V (As := [.int v8]) (c0 := 6) C X mX6_goes miX6_goes lX6_128 (by decide) rfl hrc (ct_X6_goes l K q3 v8 h3 e) (by decide) (by decide) rfl (by decide) rfl hl.1 dX6_goesRow_25) (by decide) hp (fun v10 h4 H locs X hp => ?_)
      refine lv_pop C.1 C.2.1 dX6_goesRow_28 rfl ?_
      refine w_inc (k := 3) C (fun v => [(3, .int (v)), (0, .ref (K.1 + q3)), (1, .int v7), (2, .int v8)]) dX6_goesRow_29 hl rfl (y := (v9 + (-1))) rfl (by decide) (fun _ => rfl) hp (fun v11 ls hl hp => ?_)
      refine lv_goto (tgt := 19) C.1 C.2.1 dX6_goesRow_32 (by decide) ?_
      exact ih _ _ _ _ _ _ _ _ _ X (lv_sub hl [1, 2, 3, 0] rfl) hp hk

set_option maxHeartbeats 4000000 in
set_option maxRecDepth 100000 in
theorem wl_X6_goesRow_L2 (C : CX K p m c cX6_goesRow 4 s args RX6) (hr : meth.sig.returnType = none) (hlk : meth.locks = false) {h' : Hp} : ∀ (n : Nat) (q1 : Nat) (v2 : Int32) (v3 : Int32) (h1 : Hp) (H : Heap) (locs : List Loc) (ls : Array Slot), HX K s.heap H locs h1 → lv_has ls 4 [(0, .ref (K.1 + q1)), (1, .int v2), (2, .int v3)] → P_X6_goesRow_L2 n q1 v2 v3 h1 = some h' → W p l e rmX6_goesRow s m args below meth c H locs 0 0 (MQ below (Qv K h') args s rmX6_goesRow.cells rmX6_goesRow.slots (KA K)) (F0 m 2 ls []) := by
  intro n
  induction n with
  | zero =>
    intro  q1 v2 v3 h1 H locs ls X hl hp
    cases hp
  | succ n ih =>
    intro  q1 v2 v3 h1 H locs ls X hl hp
    unfold P_X6_goesRow_L2 at hp
    refine lv_iload_n C.1 C.2.1 dX6_goesRow_2 rfl (lv_at hl 2 rfl) ?_
    refine lv_aload_n C.1 C.2.1 dX6_goesRow_3 rfl (lv_at hl 0 rfl) ?_
    refine w_gr C X fX6_13 rfl dX6_goesRow_4 hp (fun q2 hp => ?_)
    refine lv_iconst (v := 2) C.1 C.2.1 dX6_goesRow_7 (by decide) ?_
    refine w_al C X dX6_goesRow_8 hp (fun v4 hp => ?_)
    refine lv_icmp_ge (tgt := 41) C.1 C.2.1 dX6_goesRow_9 (by decide) (fun c1 => ?_) (fun c1 => ?_)
    · have hp := if_p _ c1 hp
      exact w_retv C X hr hlk (by decide) dX6_goesRow_41 hp
    · have hp := if_n _ c1 hp
      refine lv_aload_n C.1 C.2.1 dX6_goesRow_12 rfl (lv_at hl 0 rfl) ?_
      refine lv_iload_n C.1 C.2.1 dX6_goesRow_13 rfl (lv_at hl 1 rfl) ?_
      refine lv_iload_n C.1 C.2.1 dX6_goesRow_14 rfl (lv_at hl 2 rfl) ?_
      have hrc := (rc_some hp).1
      have hp := (rc_some hp).2
      refine w_ci (cells' := 0) (slots' := 0) X (fun _ _ e => run_V (As := [.int v2, .int v3]) (c0 := 6) C X mX6_timesOf miX6_timesOf lX6_144 (by decide) rfl hrc (ct_X6_timesOf l K q1 v2 v3 h1 e) (by decide) (by decide) rfl (by decide) rfl hl.1 dX6_goesRow_15) (by decide) hp (fun v5 h2 H locs X hp => ?_)
      refine w_istn C (fun v => [(3, .int (v)), (0, .ref (K.1 + q1)), (1, .int v2), (2, .int v3)]) dX6_goesRow_18 rfl hl (by decide) (fun _ => rfl) hp (fun v6 ls hl hp => ?_)
      refine wl_X6_goesRow_L19 C hr hlk _ _ _ _ _ _ _ _ _ _ X (lv_sub hl [1, 2, 3, 0] rfl) hp (fun h5 H locs ls X hl hp => ?_)
      refine w_inc (k := 2) C (fun v => [(2, .int (v)), (0, .ref (K.1 + q1)), (1, .int v2)]) dX6_goesRow_35 hl rfl (y := (v3 + 1)) rfl (by decide) (fun _ => rfl) hp (fun v12 ls hl hp => ?_)
      refine lv_goto (tgt := 2) C.1 C.2.1 dX6_goesRow_38 (by decide) ?_
      exact ih _ _ _ _ _ _ _ X (lv_sub hl [1, 2, 0] rfl) hp

set_option maxHeartbeats 4000000 in
set_option maxRecDepth 100000 in
theorem ct_X6_goesRow (l : Launch) (K : Kt) (p0 : Nat) (a1 : Int32) (h0 : Hp) {h' : Hp} (hp : P_X6_goesRow p0 a1 h0 = some h') : CT l K yX6_goesRow cX6_goesRow 4 none rmX6_goesRow [.ref (K.1 + p0), .int a1] h0 (Qv K h') := by
  refine ct_of (own := RX6) (by decide +kernel) rfl (Nat.le_of_ble_eq_true rfl) ?_
  intro p e s m args below meth c C X hr hlk hm ls hl
  have hl : lv_has ls 4 [(0, .ref (K.1 + p0)), (1, .int a1)] := hl
  unfold P_X6_goesRow at hp
  refine lv_iconst (v := 0) C.1 C.2.1 dX6_goesRow_0 (by decide) ?_
  refine w_istn C (fun v => [(2, .int (v)), (0, .ref (K.1 + p0)), (1, .int a1)]) dX6_goesRow_1 rfl hl (by decide) (fun _ => rfl) hp (fun v1 ls hl hp => ?_)
  exact wl_X6_goesRow_L2 C hr hlk _ _ _ _ _ _ _ _ X (lv_sub hl [1, 2, 0] rfl) hp

abbrev rmX6_rows : Room := { frames := 1, cells := 0, slots := 0, locals := 23 }
def P_X6_rows (p0 : Nat) (h0 : Hp) : Option (Int32 × Hp) :=
    gr h0 p0 6 1 fun q1 =>
    al h0 q1 2 fun v1 =>
    rc h0 p0 6 <| ci (P_X6_power p0 v1 h0) fun v2 h1 =>
    some (v2, h1)

set_option maxHeartbeats 4000000 in
set_option maxRecDepth 100000 in
theorem ct_X6_rows (l : Launch) (K : Kt) (p0 : Nat) (h0 : Hp) {r : Int32} {h' : Hp} (hp : P_X6_rows p0 h0 = some (r, h')) : CT l K yX6_rows cX6_rows 1 (some FieldType.int) rmX6_rows [.ref (K.1 + p0)] h0 (Qi K r h') := by
  refine ct_of (own := RX6) (by decide +kernel) rfl (Nat.le_of_ble_eq_true rfl) ?_
  intro p e s m args below meth c C X hr hlk hm ls hl
  have hl : lv_has ls 1 [(0, .ref (K.1 + p0))] := hl
  unfold P_X6_rows at hp
  refine lv_aload_n C.1 C.2.1 dX6_rows_0 rfl (lv_at hl 0 rfl) ?_
  refine lv_aload_n C.1 C.2.1 dX6_rows_1 rfl (lv_at hl 0 rfl) ?_
  refine w_gr C X fX6_13 rfl dX6_rows_2 hp (fun q1 hp => ?_)
  refine lv_iconst (v := 2) C.1 C.2.1 dX6_rows_5 (by decide) ?_
  refine w_al C X dX6_rows_6 hp (fun v1 hp => ?_)
  have hrc := (rc_some hp).1
  have hp := (rc_some hp).2
  refine w_ci (cells' := 0) (slots' := 0) X (fun _ _ e => run_V (As := [.int v1]) (c0 := 6) C X mX6_power miX6_power lX6_137 (by decide) rfl hrc (ct_X6_power l K p0 v1 h0 e) (by decide) (by decide) rfl (by decide) rfl hl.1 dX6_rows_7) (by decide) hp (fun v2 h1 H locs X hp => ?_)
  exact w_reti C X hr hlk (by decide) dX6_rows_10 hp

abbrev rmX6_brings : Room := { frames := 4, cells := 0, slots := 0, locals := 92 }
def P_X6_brings (p0 : Nat) (a1 : Int32) (h0 : Hp) : Option (Int32 × Hp) :=
    rc h0 p0 6 <| cv (P_X6_keeps p0 h0) fun h1 =>
    rc h1 p0 6 <| cv (P_X6_goesRow p0 a1 h1) fun h2 =>
    rc h2 p0 6 <| ci (P_X6_isWished p0 h2) fun v1 h3 =>
    lt (v1 : Int32) fun v2 =>
    rc h3 p0 6 <| cv (P_X6_putsBack p0 h3) fun h4 =>
    bz v2 <| some (v2, h4)

set_option maxHeartbeats 4000000 in
set_option maxRecDepth 100000 in
theorem ct_X6_brings (l : Launch) (K : Kt) (p0 : Nat) (a1 : Int32) (h0 : Hp) {r : Int32} {h' : Hp} (hp : P_X6_brings p0 a1 h0 = some (r, h')) : CT l K yX6_brings cX6_brings 3 (some FieldType.boolean) rmX6_brings [.ref (K.1 + p0), .int a1] h0 (Qi K r h') := by
  refine ct_of (own := RX6) (by decide +kernel) rfl (Nat.le_of_ble_eq_true rfl) ?_
  intro p e s m args below meth c C X hr hlk hm ls hl
  have hl : lv_has ls 3 [(0, .ref (K.1 + p0)), (1, .int a1)] := hl
  unfold P_X6_brings at hp
  refine lv_aload_n C.1 C.2.1 dX6_brings_0 rfl (lv_at hl 0 rfl) ?_
  have hrc := (rc_some hp).1
  have hp := (rc_some hp).2
  refine w_cv (cells' := 0) (slots' := 0) X (fun _ e => run_V (As := []) (c0 := 6) C X mX6_keeps miX6_keeps lX6_147 (by decide) rfl hrc (ct_X6_keeps l K p0 h0 e) (by decide) (by decide) rfl (by decide) rfl hl.1 dX6_brings_1) (by decide) hp (fun h1 H locs X hp => ?_)
  refine lv_aload_n C.1 C.2.1 dX6_brings_4 rfl (lv_at hl 0 rfl) ?_
  refine lv_iload_n C.1 C.2.1 dX6_brings_5 rfl (lv_at hl 1 rfl) ?_
  have hrc := (rc_some hp).1
  have hp := (rc_some hp).2
  refine w_cv (cells' := 0) (slots' := 0) X (fun _ e => run_V (As := [.int a1]) (c0 := 6) C X mX6_goesRow miX6_goesRow lX6_150 (by decide) rfl hrc (ct_X6_goesRow l K p0 a1 h1 e) (by decide) (by decide) rfl (by decide) rfl hl.1 dX6_brings_6) (by decide) hp (fun h2 H locs X hp => ?_)
  refine lv_aload_n C.1 C.2.1 dX6_brings_9 rfl (lv_at hl 0 rfl) ?_
  have hrc := (rc_some hp).1
  have hp := (rc_some hp).2
  refine w_ci (cells' := 0) (slots' := 0) X (fun _ _ e => run_V (As := []) (c0 := 6) C X mX6_isWished miX6_isWished lX6_134 (by decide) rfl hrc (ct_X6_isWished l K p0 h2 e) (by decide) (by decide) rfl (by decide) rfl hl.1 dX6_brings_10) (by decide) hp (fun v1 h3 H locs X hp => ?_)
  refine w_istn C (fun v => [(2, .int (v)), (0, .ref (K.1 + p0)), (1, .int a1)]) dX6_brings_13 rfl hl (by decide) (fun _ => rfl) hp (fun v2 ls hl hp => ?_)
  refine lv_aload_n C.1 C.2.1 dX6_brings_14 rfl (lv_at hl 1 rfl) ?_
  have hrc := (rc_some hp).1
  have hp := (rc_some hp).2
  refine w_cv (cells' := 0) (slots' := 0) X (fun _ e => run_V (As := []) (c0 := 6) C X mX6_putsBack miX6_putsBack lX6_153 (by decide) rfl hrc (ct_X6_putsBack l K p0 h3 e) (by decide) (by decide) rfl (by decide) rfl hl.1 dX6_brings_15) (by decide) hp (fun h4 H locs X hp => ?_)
  refine lv_iload_n C.1 C.2.1 dX6_brings_18 rfl (lv_at hl 0 rfl) ?_
  exact w_retz C X hr hlk (by decide) (bz_some hp).1 dX6_brings_19 (bz_some hp).2

abbrev rmX6_goingsOf : Room := { frames := 1, cells := 0, slots := 0, locals := 24 }
def P_X6_goingsOf_L4 : Nat → Nat → Int32 → Int32 → Int32 → Hp → Option (Int32 × Hp)
  | 0, _, _, _, _, _ => none
  | n + 1, q1, v3, v4, v5, h1 =>
    gr h1 q1 6 1 fun q2 =>
    al h1 q2 2 fun v6 =>
    if v6 ≤ v5 then (
    some (v4, h1))
    else (
    rc h1 q1 6 <| ci (P_X6_timesOf q1 v3 v5 h1) fun v7 h2 =>
    lt ((v4 + v7) : Int32) fun v8 =>
    lt ((v5 + 1) : Int32) fun v9 =>
    P_X6_goingsOf_L4 n q1 v3 v8 v9 h2)

def P_X6_goingsOf (p0 : Nat) (a1 : Int32) (h0 : Hp) : Option (Int32 × Hp) :=
    lt (0 : Int32) fun v1 =>
    lt (0 : Int32) fun v2 =>
    P_X6_goingsOf_L4 FU p0 a1 v1 v2 h0

set_option maxHeartbeats 4000000 in
set_option maxRecDepth 100000 in
theorem wl_X6_goingsOf_L4 (C : CX K p m c cX6_goingsOf 4 s args RX6) (hr : meth.sig.returnType = (some FieldType.int)) (hlk : meth.locks = false) {r : Int32} {h' : Hp} : ∀ (n : Nat) (q1 : Nat) (v3 : Int32) (v4 : Int32) (v5 : Int32) (h1 : Hp) (H : Heap) (locs : List Loc) (ls : Array Slot), HX K s.heap H locs h1 → lv_has ls 4 [(0, .ref (K.1 + q1)), (1, .int v3), (2, .int v4), (3, .int v5)] → P_X6_goingsOf_L4 n q1 v3 v4 v5 h1 = some (r, h') → W p l e rmX6_goingsOf s m args below meth c H locs 0 0 (MQ below (Qi K r h') args s rmX6_goingsOf.cells rmX6_goingsOf.slots (KA K)) (F0 m 4 ls []) := by
  intro n
  induction n with
  | zero =>
    intro  q1 v3 v4 v5 h1 H locs ls X hl hp
    cases hp
  | succ n ih =>
    intro  q1 v3 v4 v5 h1 H locs ls X hl hp
    unfold P_X6_goingsOf_L4 at hp
    refine lv_iload_n C.1 C.2.1 dX6_goingsOf_4 rfl (lv_at hl 3 rfl) ?_
    refine lv_aload_n C.1 C.2.1 dX6_goingsOf_5 rfl (lv_at hl 0 rfl) ?_
    refine w_gr C X fX6_13 rfl dX6_goingsOf_6 hp (fun q2 hp => ?_)
    refine lv_iconst (v := 2) C.1 C.2.1 dX6_goingsOf_9 (by decide) ?_
    refine w_al C X dX6_goingsOf_10 hp (fun v6 hp => ?_)
    refine lv_icmp_ge (tgt := 29) C.1 C.2.1 dX6_goingsOf_11 (by decide) (fun c1 => ?_) (fun c1 => ?_)
    · have hp := if_p _ c1 hp
      refine lv_iload_n C.1 C.2.1 dX6_goingsOf_29 rfl (lv_at hl 2 rfl) ?_
      exact w_reti C X hr hlk (by decide) dX6_goingsOf_30 hp
    · have hp := if_n _ c1 hp
      refine lv_iload_n C.1 C.2.1 dX6_goingsOf_14 rfl (lv_at hl 2 rfl) ?_
      refine lv_aload_n C.1 C.2.1 dX6_goingsOf_15 rfl (lv_at hl 0 rfl) ?_
      refine lv_iload_n C.1 C.2.1 dX6_goingsOf_16 rfl (lv_at hl 1 rfl) ?_
      refine lv_iload_n C.1 C.2.1 dX6_goingsOf_17 rfl (lv_at hl 3 rfl) ?_
      have hrc := (rc_some hp).1
      have hp := (rc_some hp).2
      refine w_ci (cells' := 0) (slots' := 0) X (fun _ _ e => run_V (As := [.int v3, .int v5]) (c0 := 6) C X mX6_timesOf miX6_timesOf lX6_144 (by decide) rfl hrc (ct_X6_timesOf l K q1 v3 v5 h1 e) (by decide) (by decide) rfl (Nat.le_of_ble_eq_true rfl) rfl hl.1 dX6_goingsOf_18) (by decide) hp (fun v7 h2 H locs X hp => ?_)
      refine lv_iadd C.1 C.2.1 dX6_goingsOf_21 ?_
      refine w_istn C (fun v => [(2, .int (v)), (0, .ref (K.1 + q1)), (1, .int v3), (3, .int v5)]) dX6_goingsOf_22 rfl hl (by decide) (fun _ => rfl) hp (fun v8 ls hl hp => ?_)
      refine w_inc (k := 3) C (fun v => [(3, .int (v)), (2, .int v8), (0, .ref (K.1 + q1)), (1, .int v3)]) dX6_goingsOf_23 hl rfl (y := (v5 + 1)) rfl (by decide) (fun _ => rfl) hp (fun v9 ls hl hp => ?_)
      refine lv_goto (tgt := 4) C.1 C.2.1 dX6_goingsOf_26 (by decide) ?_
      exact ih _ _ _ _ _ _ _ _ X (lv_sub hl [2, 3, 1, 0] rfl) hp

set_option maxHeartbeats 4000000 in
set_option maxRecDepth 100000 in
theorem ct_X6_goingsOf (l : Launch) (K : Kt) (p0 : Nat) (a1 : Int32) (h0 : Hp) {r : Int32} {h' : Hp} (hp : P_X6_goingsOf p0 a1 h0 = some (r, h')) : CT l K yX6_goingsOf cX6_goingsOf 4 (some FieldType.int) rmX6_goingsOf [.ref (K.1 + p0), .int a1] h0 (Qi K r h') := by
  refine ct_of (own := RX6) (by decide +kernel) rfl (Nat.le_of_ble_eq_true rfl) ?_
  intro p e s m args below meth c C X hr hlk hm ls hl
  have hl : lv_has ls 4 [(0, .ref (K.1 + p0)), (1, .int a1)] := hl
  unfold P_X6_goingsOf at hp
  refine lv_iconst (v := 0) C.1 C.2.1 dX6_goingsOf_0 (by decide) ?_
  refine w_istn C (fun v => [(2, .int (v)), (0, .ref (K.1 + p0)), (1, .int a1)]) dX6_goingsOf_1 rfl hl (by decide) (fun _ => rfl) hp (fun v1 ls hl hp => ?_)
  refine lv_iconst (v := 0) C.1 C.2.1 dX6_goingsOf_2 (by decide) ?_
  refine w_istn C (fun v => [(3, .int (v)), (2, .int v1), (0, .ref (K.1 + p0)), (1, .int a1)]) dX6_goingsOf_3 rfl hl (by decide) (fun _ => rfl) hp (fun v2 ls hl hp => ?_)
  exact wl_X6_goingsOf_L4 C hr hlk _ _ _ _ _ _ _ _ _ X (lv_sub hl [2, 3, 1, 0] rfl) hp

abbrev rmX6_costOf : Room := { frames := 1, cells := 0, slots := 0, locals := 24 }
def P_X6_costOf_L4 : Nat → Nat → Int32 → Int32 → Int32 → Hp → Option (Int32 × Hp)
  | 0, _, _, _, _, _ => none
  | n + 1, q1, v3, v4, v5, h1 =>
    gr h1 q1 6 1 fun q2 =>
    al h1 q2 2 fun v6 =>
    if v6 ≤ v5 then (
    some (v4, h1))
    else (
    rc h1 q1 6 <| ci (P_X6_timesOf q1 v3 v5 h1) fun v7 h2 =>
    rc h2 q1 6 <| ci (P_X6_get q1 v5 3 h2) fun v8 h3 =>
    lt ((v4 + (v7 * v8)) : Int32) fun v9 =>
    lt ((v5 + 1) : Int32) fun v10 =>
    P_X6_costOf_L4 n q1 v3 v9 v10 h3)

def P_X6_costOf (p0 : Nat) (a1 : Int32) (h0 : Hp) : Option (Int32 × Hp) :=
    lt (0 : Int32) fun v1 =>
    lt (0 : Int32) fun v2 =>
    P_X6_costOf_L4 FU p0 a1 v1 v2 h0

set_option maxHeartbeats 4000000 in
set_option maxRecDepth 100000 in
theorem wl_X6_costOf_L4 (C : CX K p m c cX6_costOf 4 s args RX6) (hr : meth.sig.returnType = (some FieldType.int)) (hlk : meth.locks = false) {r : Int32} {h' : Hp} : ∀ (n : Nat) (q1 : Nat) (v3 : Int32) (v4 : Int32) (v5 : Int32) (h1 : Hp) (H : Heap) (locs : List Loc) (ls : Array Slot), HX K s.heap H locs h1 → lv_has ls 4 [(0, .ref (K.1 + q1)), (1, .int v3), (2, .int v4), (3, .int v5)] → P_X6_costOf_L4 n q1 v3 v4 v5 h1 = some (r, h') → W p l e rmX6_costOf s m args below meth c H locs 0 0 (MQ below (Qi K r h') args s rmX6_costOf.cells rmX6_costOf.slots (KA K)) (F0 m 4 ls []) := by
  intro n
  induction n with
  | zero =>
    intro  q1 v3 v4 v5 h1 H locs ls X hl hp
    cases hp
  | succ n ih =>
    intro  q1 v3 v4 v5 h1 H locs ls X hl hp
    unfold P_X6_costOf_L4 at hp
    refine lv_iload_n C.1 C.2.1 dX6_costOf_4 rfl (lv_at hl 3 rfl) ?_
    refine lv_aload_n C.1 C.2.1 dX6_costOf_5 rfl (lv_at hl 0 rfl) ?_
    refine w_gr C X fX6_13 rfl dX6_costOf_6 hp (fun q2 hp => ?_)
    refine lv_iconst (v := 2) C.1 C.2.1 dX6_costOf_9 (by decide) ?_
    refine w_al C X dX6_costOf_10 hp (fun v6 hp => ?_)
    refine lv_icmp_ge (tgt := 36) C.1 C.2.1 dX6_costOf_11 (by decide) (fun c1 => ?_) (fun c1 => ?_)
    · have hp := if_p _ c1 hp
      refine lv_iload_n C.1 C.2.1 dX6_costOf_36 rfl (lv_at hl 2 rfl) ?_
      exact w_reti C X hr hlk (by decide) dX6_costOf_37 hp
    · have hp := if_n _ c1 hp
      refine lv_iload_n C.1 C.2.1 dX6_costOf_14 rfl (lv_at hl 2 rfl) ?_
      refine lv_aload_n C.1 C.2.1 dX6_costOf_15 rfl (lv_at hl 0 rfl) ?_
      refine lv_iload_n C.1 C.2.1 dX6_costOf_16 rfl (lv_at hl 1 rfl) ?_
      refine lv_iload_n C.1 C.2.1 dX6_costOf_17 rfl (lv_at hl 3 rfl) ?_
      have hrc := (rc_some hp).1
      have hp := (rc_some hp).2
      refine w_ci (cells' := 0) (slots' := 0) X (fun _ _ e => run_V (As := [.int v3, .int v5]) (c0 := 6) C X mX6_timesOf miX6_timesOf lX6_144 (by decide) rfl hrc (ct_X6_timesOf l K q1 v3 v5 h1 e) (by decide) (by decide) rfl (Nat.le_of_ble_eq_true rfl) rfl hl.1 dX6_costOf_18) (by decide) hp (fun v7 h2 H locs X hp => ?_)
      refine lv_aload_n C.1 C.2.1 dX6_costOf_21 rfl (lv_at hl 0 rfl) ?_
      refine lv_iload_n C.1 C.2.1 dX6_costOf_22 rfl (lv_at hl 3 rfl) ?_
      refine lv_iconst (v := 3) C.1 C.2.1 dX6_costOf_23 (by decide) ?_
      have hrc := (rc_some hp).1
      have hp := (rc_some hp).2
      refine w_ci (cells' := 0) (slots' := 0) X (fun _ _ e => run_V (As := [.int v5, .int 3]) (c0 := 6) C X mX6_get miX6_get lX6_105 (by decide) rfl hrc (ct_X6_get l K q1 v5 3 h2 e) (by decide) (by decide) rfl (Nat.le_of_ble_eq_true rfl) rfl hl.1 dX6_costOf_24) (by decide) hp (fun v8 h3 H locs X hp => ?_)
      refine lv_imul C.1 C.2.1 dX6_costOf_27 ?_
      refine lv_iadd C.1 C.2.1 dX6_costOf_28 ?_
      refine w_istn C (fun v => [(2, .int (v)), (0, .ref (K.1 + q1)), (1, .int v3), (3, .int v5)]) dX6_costOf_29 rfl hl (by decide) (fun _ => rfl) hp (fun v9 ls hl hp => ?_)
      refine w_inc (k := 3) C (fun v => [(3, .int (v)), (2, .int v9), (0, .ref (K.1 + q1)), (1, .int v3)]) dX6_costOf_30 hl rfl (y := (v5 + 1)) rfl (by decide) (fun _ => rfl) hp (fun v10 ls hl hp => ?_)
      refine lv_goto (tgt := 4) C.1 C.2.1 dX6_costOf_33 (by decide) ?_
      exact ih _ _ _ _ _ _ _ _ X (lv_sub hl [2, 3, 1, 0] rfl) hp

set_option maxHeartbeats 4000000 in
set_option maxRecDepth 100000 in
theorem ct_X6_costOf (l : Launch) (K : Kt) (p0 : Nat) (a1 : Int32) (h0 : Hp) {r : Int32} {h' : Hp} (hp : P_X6_costOf p0 a1 h0 = some (r, h')) : CT l K yX6_costOf cX6_costOf 4 (some FieldType.int) rmX6_costOf [.ref (K.1 + p0), .int a1] h0 (Qi K r h') := by
  refine ct_of (own := RX6) (by decide +kernel) rfl (Nat.le_of_ble_eq_true rfl) ?_
  intro p e s m args below meth c C X hr hlk hm ls hl
  have hl : lv_has ls 4 [(0, .ref (K.1 + p0)), (1, .int a1)] := hl
  unfold P_X6_costOf at hp
  refine lv_iconst (v := 0) C.1 C.2.1 dX6_costOf_0 (by decide) ?_
  refine w_istn C (fun v => [(2, .int (v)), (0, .ref (K.1 + p0)), (1, .int a1)]) dX6_costOf_1 rfl hl (by decide) (fun _ => rfl) hp (fun v1 ls hl hp => ?_)
  refine lv_iconst (v := 0) C.1 C.2.1 dX6_costOf_2 (by decide) ?_
  refine w_istn C (fun v => [(3, .int (v)), (2, .int v1), (0, .ref (K.1 + p0)), (1, .int a1)]) dX6_costOf_3 rfl hl (by decide) (fun _ => rfl) hp (fun v2 ls hl hp => ?_)
  exact wl_X6_costOf_L4 C hr hlk _ _ _ _ _ _ _ _ _ X (lv_sub hl [2, 3, 1, 0] rfl) hp

abbrev rmX6_can : Room := { frames := 5, cells := 0, slots := 0, locals := 114 }
def P_X6_can_L4 : Nat → Nat → Int32 → Int32 → Hp → Option (Int32 × Hp)
  | 0, _, _, _, _ => none
  | n + 1, q1, v3, v4, h1 =>
    rc h1 q1 6 <| ci (P_X6_rows q1 h1) fun v5 h2 =>
    if v5 ≤ v4 then (
    some (v3, h2))
    else (
    rc h2 q1 6 <| ci (P_X6_brings q1 v4 h2) fun v6 h3 =>
    if v6 = 0 then (
    lt ((v3 + 0) : Int32) fun v7 =>
    lt ((v4 + 1) : Int32) fun v8 =>
    P_X6_can_L4 n q1 v7 v8 h3)
    else (
    lt ((v3 + 1) : Int32) fun v9 =>
    lt ((v4 + 1) : Int32) fun v10 =>
    P_X6_can_L4 n q1 v9 v10 h3))

def P_X6_can (p0 : Nat) (h0 : Hp) : Option (Int32 × Hp) :=
    lt (0 : Int32) fun v1 =>
    lt (0 : Int32) fun v2 =>
    P_X6_can_L4 FU p0 v1 v2 h0

set_option maxHeartbeats 4000000 in
set_option maxRecDepth 100000 in
theorem wl_X6_can_L4 (C : CX K p m c cX6_can 3 s args RX6) (hr : meth.sig.returnType = (some FieldType.int)) (hlk : meth.locks = false) {r : Int32} {h' : Hp} : ∀ (n : Nat) (q1 : Nat) (v3 : Int32) (v4 : Int32) (h1 : Hp) (H : Heap) (locs : List Loc) (ls : Array Slot), HX K s.heap H locs h1 → lv_has ls 3 [(0, .ref (K.1 + q1)), (1, .int v3), (2, .int v4)] → P_X6_can_L4 n q1 v3 v4 h1 = some (r, h') → W p l e rmX6_can s m args below meth c H locs 0 0 (MQ below (Qi K r h') args s rmX6_can.cells rmX6_can.slots (KA K)) (F0 m 4 ls []) := by
  intro n
  induction n with
  | zero =>
    intro  q1 v3 v4 h1 H locs ls X hl hp
    cases hp
  | succ n ih =>
    intro  q1 v3 v4 h1 H locs ls X hl hp
    unfold P_X6_can_L4 at hp
    refine lv_iload_n C.1 C.2.1 dX6_can_4 rfl (lv_at hl 2 rfl) ?_
    refine lv_aload_n C.1 C.2.1 dX6_can_5 rfl (lv_at hl 0 rfl) ?_
    have hrc := (rc_some hp).1
    have hp := (rc_some hp).2
    refine w_ci (cells' := 0) (slots' := 0) X (fun _ _ e => run_V (As := []) (c0 := 6) C X mX6_rows miX6_rows lX6_156 (by decide) rfl hrc (ct_X6_rows l K q1 h1 e) (by decide) (by decide) rfl (Nat.le_of_ble_eq_true rfl) rfl hl.1 dX6_can_6) (by decide) hp (fun v5 h2 H locs X hp => ?_)
    refine lv_icmp_ge (tgt := 34) C.1 C.2.1 dX6_can_9 (by decide) (fun c1 => ?_) (fun c1 => ?_)
    · have hp := if_p _ c1 hp
      refine lv_iload_n C.1 C.2.1 dX6_can_34 rfl (lv_at hl 1 rfl) ?_
      exact w_reti C X hr hlk (by decide) dX6_can_35 hp
    · have hp := if_n _ c1 hp
      refine lv_iload_n C.1 C.2.1 dX6_can_12 rfl (lv_at hl 1 rfl) ?_
      refine lv_aload_n C.1 C.2.1 dX6_can_13 rfl (lv_at hl 0 rfl) ?_
      refine lv_iload_n C.1 C.2.1 dX6_can_14 rfl (lv_at hl 2 rfl) ?_
      have hrc := (rc_some hp).1
      have hp := (rc_some hp).2
      refine w_ci (cells' := 0) (slots' := 0) X (fun _ _ e => run_V (As := [.int v4]) (c0 := 6) C X mX6_brings miX6_brings lX6_159 (by decide) rfl hrc (ct_X6_brings l K q1 v4 h2 e) (by decide) (by decide) rfl (Nat.le_of_ble_eq_true rfl) rfl hl.1 dX6_can_15) (by decide) hp (fun v6 h3 H locs X hp => ?_)
      refine lv_if_eq (tgt := 25) C.1 C.2.1 dX6_can_18 (by decide) (fun c2 => ?_) (fun c2 => ?_)
      · have hp := if_p _ c2 hp
        refine lv_iconst (v := 0) C.1 C.2.1 dX6_can_25 (by decide) ?_
        refine lv_iadd C.1 C.2.1 dX6_can_26 ?_
        refine w_istn C (fun v => [(1, .int (v)), (0, .ref (K.1 + q1)), (2, .int v4)]) dX6_can_27 rfl hl (by decide) (fun _ => rfl) hp (fun v7 ls hl hp => ?_)
        refine w_inc (k := 2) C (fun v => [(2, .int (v)), (1, .int v7), (0, .ref (K.1 + q1))]) dX6_can_28 hl rfl (y := (v4 + 1)) rfl (by decide) (fun _ => rfl) hp (fun v8 ls hl hp => ?_)
        refine lv_goto (tgt := 4) C.1 C.2.1 dX6_can_31 (by decide) ?_
        exact ih _ _ _ _ _ _ _ X (lv_sub hl [2, 1, 0] rfl) hp
      · have hp := if_n _ c2 hp
        refine lv_iconst (v := 1) C.1 C.2.1 dX6_can_21 (by decide) ?_
        refine lv_goto (tgt := 26) C.1 C.2.1 dX6_can_22 (by decide) ?_
        refine lv_iadd C.1 C.2.1 dX6_can_26 ?_
        refine w_istn C (fun v => [(1, .int (v)), (0, .ref (K.1 + q1)), (2, .int v4)]) dX6_can_27 rfl hl (by decide) (fun _ => rfl) hp (fun v9 ls hl hp => ?_)
        refine w_inc (k := 2) C (fun v => [(2, .int (v)), (1, .int v9), (0, .ref (K.1 + q1))]) dX6_can_28 hl rfl (y := (v4 + 1)) rfl (by decide) (fun _ => rfl) hp (fun v10 ls hl hp => ?_)
        refine lv_goto (tgt := 4) C.1 C.2.1 dX6_can_31 (by decide) ?_
        exact ih _ _ _ _ _ _ _ X (lv_sub hl [2, 1, 0] rfl) hp

set_option maxHeartbeats 4000000 in
set_option maxRecDepth 100000 in
theorem ct_X6_can (l : Launch) (K : Kt) (p0 : Nat) (h0 : Hp) {r : Int32} {h' : Hp} (hp : P_X6_can p0 h0 = some (r, h')) : CT l K yX6_can cX6_can 3 (some FieldType.int) rmX6_can [.ref (K.1 + p0)] h0 (Qi K r h') := by
  refine ct_of (own := RX6) (by decide +kernel) rfl (Nat.le_of_ble_eq_true rfl) ?_
  intro p e s m args below meth c C X hr hlk hm ls hl
  have hl : lv_has ls 3 [(0, .ref (K.1 + p0))] := hl
  unfold P_X6_can at hp
  refine lv_iconst (v := 0) C.1 C.2.1 dX6_can_0 (by decide) ?_
  refine w_istn C (fun v => [(1, .int (v)), (0, .ref (K.1 + p0))]) dX6_can_1 rfl hl (by decide) (fun _ => rfl) hp (fun v1 ls hl hp => ?_)
  refine lv_iconst (v := 0) C.1 C.2.1 dX6_can_2 (by decide) ?_
  refine w_istn C (fun v => [(2, .int (v)), (1, .int v1), (0, .ref (K.1 + p0))]) dX6_can_3 rfl hl (by decide) (fun _ => rfl) hp (fun v2 ls hl hp => ?_)
  exact wl_X6_can_L4 C hr hlk _ _ _ _ _ _ _ _ X (lv_sub hl [2, 1, 0] rfl) hp

abbrev rmX6_isAhead : Room := { frames := 1, cells := 0, slots := 0, locals := 24 }
def P_X6_isAhead_L2 : Nat → Nat → Int32 → Int32 → Int32 → Hp → Option (Int32 × Hp)
  | 0, _, _, _, _, _ => none
  | n + 1, q1, v2, v3, v4, h1 =>
    gr h1 q1 6 1 fun q2 =>
    al h1 q2 2 fun v5 =>
    if v5 ≤ v4 then (
    some (0, h1))
    else (
    rc h1 q1 6 <| ci (P_X6_timesOf q1 v2 v4 h1) fun v6 h2 =>
    rc h2 q1 6 <| ci (P_X6_timesOf q1 v3 v4 h2) fun v7 h3 =>
    if v6 = v7 then (
    lt ((v4 + 1) : Int32) fun v8 =>
    P_X6_isAhead_L2 n q1 v2 v3 v8 h3)
    else (
    rc h3 q1 6 <| ci (P_X6_timesOf q1 v2 v4 h3) fun v9 h4 =>
    rc h4 q1 6 <| ci (P_X6_timesOf q1 v3 v4 h4) fun v10 h5 =>
    if v10 ≤ v9 then (
    some (0, h5))
    else (
    some (1, h5))))

def P_X6_isAhead (p0 : Nat) (a1 : Int32) (a2 : Int32) (h0 : Hp) : Option (Int32 × Hp) :=
    lt (0 : Int32) fun v1 =>
    P_X6_isAhead_L2 FU p0 a1 a2 v1 h0

set_option maxHeartbeats 4000000 in
set_option maxRecDepth 100000 in
theorem wl_X6_isAhead_L2 (C : CX K p m c cX6_isAhead 4 s args RX6) (hr : meth.sig.returnType = (some FieldType.boolean)) (hlk : meth.locks = false) {r : Int32} {h' : Hp} : ∀ (n : Nat) (q1 : Nat) (v2 : Int32) (v3 : Int32) (v4 : Int32) (h1 : Hp) (H : Heap) (locs : List Loc) (ls : Array Slot), HX K s.heap H locs h1 → lv_has ls 4 [(0, .ref (K.1 + q1)), (1, .int v2), (2, .int v3), (3, .int v4)] → P_X6_isAhead_L2 n q1 v2 v3 v4 h1 = some (r, h') → W p l e rmX6_isAhead s m args below meth c H locs 0 0 (MQ below (Qi K r h') args s rmX6_isAhead.cells rmX6_isAhead.slots (KA K)) (F0 m 2 ls []) := by
  intro n
  induction n with
  | zero =>
    intro  q1 v2 v3 v4 h1 H locs ls X hl hp
    cases hp
  | succ n ih =>
    intro  q1 v2 v3 v4 h1 H locs ls X hl hp
    unfold P_X6_isAhead_L2 at hp
    refine lv_iload_n C.1 C.2.1 dX6_isAhead_2 rfl (lv_at hl 3 rfl) ?_
    refine lv_aload_n C.1 C.2.1 dX6_isAhead_3 rfl (lv_at hl 0 rfl) ?_
    refine w_gr C X fX6_13 rfl dX6_isAhead_4 hp (fun q2 hp => ?_)
    refine lv_iconst (v := 2) C.1 C.2.1 dX6_isAhead_7 (by decide) ?_
    refine w_al C X dX6_isAhead_8 hp (fun v5 hp => ?_)
    refine lv_icmp_ge (tgt := 54) C.1 C.2.1 dX6_isAhead_9 (by decide) (fun c1 => ?_) (fun c1 => ?_)
    · have hp := if_p _ c1 hp
      refine lv_iconst (v := 0) C.1 C.2.1 dX6_isAhead_54 (by decide) ?_
      exact w_retz C X hr hlk (by decide) (by decide) dX6_isAhead_55 hp
    · have hp := if_n _ c1 hp
      refine lv_aload_n C.1 C.2.1 dX6_isAhead_12 rfl (lv_at hl 0 rfl) ?_
      refine lv_iload_n C.1 C.2.1 dX6_isAhead_13 rfl (lv_at hl 1 rfl) ?_
      refine lv_iload_n C.1 C.2.1 dX6_isAhead_14 rfl (lv_at hl 3 rfl) ?_
      have hrc := (rc_some hp).1
      have hp := (rc_some hp).2
      refine w_ci (cells' := 0) (slots' := 0) X (fun _ _ e => run_V (As := [.int v2, .int v4]) (c0 := 6) C X mX6_timesOf miX6_timesOf lX6_144 (by decide) rfl hrc (ct_X6_timesOf l K q1 v2 v4 h1 e) (by decide) (by decide) rfl (by decide) rfl hl.1 dX6_isAhead_15) (by decide) hp (fun v6 h2 H locs X hp => ?_)
      refine lv_aload_n C.1 C.2.1 dX6_isAhead_18 rfl (lv_at hl 0 rfl) ?_
      refine lv_iload_n C.1 C.2.1 dX6_isAhead_19 rfl (lv_at hl 2 rfl) ?_
      refine lv_iload_n C.1 C.2.1 dX6_isAhead_20 rfl (lv_at hl 3 rfl) ?_
      have hrc := (rc_some hp).1
      have hp := (rc_some hp).2
      refine w_ci (cells' := 0) (slots' := 0) X (fun _ _ e => run_V (As := [.int v3, .int v4]) (c0 := 6) C X mX6_timesOf miX6_timesOf lX6_144 (by decide) rfl hrc (ct_X6_timesOf l K q1 v3 v4 h2 e) (by decide) (by decide) rfl (Nat.le_of_ble_eq_true rfl) rfl hl.1 dX6_isAhead_21) (by decide) hp (fun v7 h3 H locs X hp => ?_)
      refine lv_icmp_eq (tgt := 48) C.1 C.2.1 dX6_isAhead_24 (by decide) (fun c2 => ?_) (fun c2 => ?_)
      · have hp := if_p _ c2 hp
        refine w_inc (k := 3) C (fun v => [(3, .int (v)), (0, .ref (K.1 + q1)), (1, .int v2), (2, .int v3)]) dX6_isAhead_48 hl rfl (y := (v4 + 1)) rfl (by decide) (fun _ => rfl) hp (fun v8 ls hl hp => ?_)
        refine lv_goto (tgt := 2) C.1 C.2.1 dX6_isAhead_51 (by decide) ?_
        exact ih _ _ _ _ _ _ _ _ X (lv_sub hl [1, 2, 3, 0] rfl) hp
      · have hp := if_n _ c2 hp
        refine lv_aload_n C.1 C.2.1 dX6_isAhead_27 rfl (lv_at hl 0 rfl) ?_
        refine lv_iload_n C.1 C.2.1 dX6_isAhead_28 rfl (lv_at hl 1 rfl) ?_
        refine lv_iload_n C.1 C.2.1 dX6_isAhead_29 rfl (lv_at hl 3 rfl) ?_
        have hrc := (rc_some hp).1
        have hp := (rc_some hp).2
        refine w_ci (cells' := 0) (slots' := 0) X (fun _ _ e => run_V (As := [.int v2, .int v4]) (c0 := 6) C X mX6_timesOf miX6_timesOf lX6_144 (by decide) rfl hrc (ct_X6_timesOf l K q1 v2 v4 h3 e) (by decide) (by decide) rfl (by decide) rfl hl.1 dX6_isAhead_30) (by decide) hp (fun v9 h4 H locs X hp => ?_)
        refine lv_aload_n C.1 C.2.1 dX6_isAhead_33 rfl (lv_at hl 0 rfl) ?_
        refine lv_iload_n C.1 C.2.1 dX6_isAhead_34 rfl (lv_at hl 2 rfl) ?_
        refine lv_iload_n C.1 C.2.1 dX6_isAhead_35 rfl (lv_at hl 3 rfl) ?_
        have hrc := (rc_some hp).1
        have hp := (rc_some hp).2
        refine w_ci (cells' := 0) (slots' := 0) X (fun _ _ e => run_V (As := [.int v3, .int v4]) (c0 := 6) C X mX6_timesOf miX6_timesOf lX6_144 (by decide) rfl hrc (ct_X6_timesOf l K q1 v3 v4 h4 e) (by decide) (by decide) rfl (Nat.le_of_ble_eq_true rfl) rfl hl.1 dX6_isAhead_36) (by decide) hp (fun v10 h5 H locs X hp => ?_)
        refine lv_icmp_ge (tgt := 46) C.1 C.2.1 dX6_isAhead_39 (by decide) (fun c3 => ?_) (fun c3 => ?_)
        · have hp := if_p _ c3 hp
          refine lv_iconst (v := 0) C.1 C.2.1 dX6_isAhead_46 (by decide) ?_
          exact w_retz C X hr hlk (by decide) (by decide) dX6_isAhead_47 hp
        · have hp := if_n _ c3 hp
          refine lv_iconst (v := 1) C.1 C.2.1 dX6_isAhead_42 (by decide) ?_
          refine lv_goto (tgt := 47) C.1 C.2.1 dX6_isAhead_43 (by decide) ?_
          exact w_retz C X hr hlk (by decide) (by decide) dX6_isAhead_47 hp

set_option maxHeartbeats 4000000 in
set_option maxRecDepth 100000 in
theorem ct_X6_isAhead (l : Launch) (K : Kt) (p0 : Nat) (a1 : Int32) (a2 : Int32) (h0 : Hp) {r : Int32} {h' : Hp} (hp : P_X6_isAhead p0 a1 a2 h0 = some (r, h')) : CT l K yX6_isAhead cX6_isAhead 4 (some FieldType.boolean) rmX6_isAhead [.ref (K.1 + p0), .int a1, .int a2] h0 (Qi K r h') := by
  refine ct_of (own := RX6) (by decide +kernel) rfl (Nat.le_of_ble_eq_true rfl) ?_
  intro p e s m args below meth c C X hr hlk hm ls hl
  have hl : lv_has ls 4 [(0, .ref (K.1 + p0)), (1, .int a1), (2, .int a2)] := hl
  unfold P_X6_isAhead at hp
  refine lv_iconst (v := 0) C.1 C.2.1 dX6_isAhead_0 (by decide) ?_
  refine w_istn C (fun v => [(3, .int (v)), (0, .ref (K.1 + p0)), (1, .int a1), (2, .int a2)]) dX6_isAhead_1 rfl hl (by decide) (fun _ => rfl) hp (fun v1 ls hl hp => ?_)
  exact wl_X6_isAhead_L2 C hr hlk _ _ _ _ _ _ _ _ _ X (lv_sub hl [1, 2, 3, 0] rfl) hp

abbrev rmX6_firstRow : Room := { frames := 5, cells := 0, slots := 0, locals := 114 }
def P_X6_firstRow_L5 : Nat → Nat → Int32 → Int32 → Hp → Option (Int32 × Hp)
  | 0, _, _, _, _ => none
  | n + 1, q1, v3, v4, h1 =>
    rc h1 q1 6 <| ci (P_X6_rows q1 h1) fun v5 h2 =>
    if v5 ≤ v4 then (
    some (v3, h2))
    else (
    rc h2 q1 6 <| ci (P_X6_goingsOf q1 v4 h2) fun v6 h3 =>
    lt (v6 : Int32) fun v7 =>
    if v3 < 0 then (
    rc h3 q1 6 <| ci (P_X6_brings q1 v4 h3) fun v8 h4 =>
    if v8 = 0 then (
    lt ((v4 + 1) : Int32) fun v11 =>
    P_X6_firstRow_L5 n q1 v3 v11 h4)
    else (
    lt (v4 : Int32) fun v9 =>
    lt ((v4 + 1) : Int32) fun v10 =>
    P_X6_firstRow_L5 n q1 v9 v10 h4))
    else (
    rc h3 q1 6 <| ci (P_X6_goingsOf q1 v3 h3) fun v12 h5 =>
    if v12 < v7 then (
    lt ((v4 + 1) : Int32) fun v13 =>
    P_X6_firstRow_L5 n q1 v3 v13 h5)
    else (
    rc h5 q1 6 <| ci (P_X6_goingsOf q1 v3 h5) fun v14 h6 =>
    if v7 = v14 then (
    rc h6 q1 6 <| ci (P_X6_isAhead q1 v4 v3 h6) fun v19 h8 =>
    if v19 = 0 then (
    lt ((v4 + 1) : Int32) fun v20 =>
    P_X6_firstRow_L5 n q1 v3 v20 h8)
    else (
    rc h8 q1 6 <| ci (P_X6_brings q1 v4 h8) fun v21 h9 =>
    if v21 = 0 then (
    lt ((v4 + 1) : Int32) fun v24 =>
    P_X6_firstRow_L5 n q1 v3 v24 h9)
    else (
    lt (v4 : Int32) fun v22 =>
    lt ((v4 + 1) : Int32) fun v23 =>
    P_X6_firstRow_L5 n q1 v22 v23 h9)))
    else (
    rc h6 q1 6 <| ci (P_X6_brings q1 v4 h6) fun v15 h7 =>
    if v15 = 0 then (
    lt ((v4 + 1) : Int32) fun v18 =>
    P_X6_firstRow_L5 n q1 v3 v18 h7)
    else (
    lt (v4 : Int32) fun v16 =>
    lt ((v4 + 1) : Int32) fun v17 =>
    P_X6_firstRow_L5 n q1 v16 v17 h7)))))

def P_X6_firstRow (p0 : Nat) (h0 : Hp) : Option (Int32 × Hp) :=
    lt ((-9) : Int32) fun v1 =>
    lt (0 : Int32) fun v2 =>
    P_X6_firstRow_L5 FU p0 v1 v2 h0

set_option maxHeartbeats 4000000 in
set_option maxRecDepth 100000 in
theorem wl_X6_firstRow_L5 (C : CX K p m c cX6_firstRow 4 s args RX6) (hr : meth.sig.returnType = (some FieldType.int)) (hlk : meth.locks = false) {r : Int32} {h' : Hp} : ∀ (n : Nat) (q1 : Nat) (v3 : Int32) (v4 : Int32) (h1 : Hp) (H : Heap) (locs : List Loc) (ls : Array Slot), HX K s.heap H locs h1 → lv_has ls 4 [(0, .ref (K.1 + q1)), (1, .int v3), (2, .int v4)] → P_X6_firstRow_L5 n q1 v3 v4 h1 = some (r, h') → W p l e rmX6_firstRow s m args below meth c H locs 0 0 (MQ below (Qi K r h') args s rmX6_firstRow.cells rmX6_firstRow.slots (KA K)) (F0 m 5 ls []) := by
  intro n
  induction n with
  | zero =>
    intro  q1 v3 v4 h1 H locs ls X hl hp
    cases hp
  | succ n ih =>
    intro  q1 v3 v4 h1 H locs ls X hl hp
    unfold P_X6_firstRow_L5 at hp
    refine lv_iload_n C.1 C.2.1 dX6_firstRow_5 rfl (lv_at hl 2 rfl) ?_
    refine lv_aload_n C.1 C.2.1 dX6_firstRow_6 rfl (lv_at hl 0 rfl) ?_
    have hrc := (rc_some hp).1
    have hp := (rc_some hp).2
    refine w_ci (cells' := 0) (slots' := 0) X (fun _ _ e => run_V (As := []) (c0 := 6) C X mX6_rows miX6_rows lX6_156 (by decide) rfl hrc (ct_X6_rows l K q1 h1 e) (by decide) (by decide) rfl (Nat.le_of_ble_eq_true rfl) rfl hl.1 dX6_firstRow_7) (by decide) hp (fun v5 h2 H locs X hp => ?_)
    refine lv_icmp_ge (tgt := 69) C.1 C.2.1 dX6_firstRow_10 (by decide) (fun c1 => ?_) (fun c1 => ?_)
    · have hp := if_p _ c1 hp
      refine lv_iload_n C.1 C.2.1 dX6_firstRow_69 rfl (lv_at hl 1 rfl) ?_
      exact w_reti C X hr hlk (by decide) dX6_firstRow_70 hp
    · have hp := if_n _ c1 hp
      refine lv_aload_n C.1 C.2.1 dX6_firstRow_13 rfl (lv_at hl 0 rfl) ?_
      refine lv_iload_n C.1 C.2.1 dX6_firstRow_14 rfl (lv_at hl 2 rfl) ?_
      have hrc := (rc_some hp).1
      have hp := (rc_some hp).2
      refine w_ci (cells' := 0) (slots' := 0) X (fun _ _ e => run_V (As := [.int v4]) (c0 := 6) C X mX6_goingsOf miX6_goingsOf lX6_162 (by decide) rfl hrc (ct_X6_goingsOf l K q1 v4 h2 e) (by decide) (by decide) rfl (by decide) rfl hl.1 dX6_firstRow_15) (by decide) hp (fun v6 h3 H locs X hp => ?_)
      refine w_istn C (fun v => [(3, .int (v)), (0, .ref (K.1 + q1)), (1, .int v3), (2, .int v4)]) dX6_firstRow_18 rfl hl (by decide) (fun _ => rfl) hp (fun v7 ls hl hp => ?_)
      refine lv_iload_n C.1 C.2.1 dX6_firstRow_19 rfl (lv_at hl 2 rfl) ?_
      refine lv_if_lt (tgt := 50) C.1 C.2.1 dX6_firstRow_20 (by decide) (fun c2 => ?_) (fun c2 => ?_)
      · have hp := if_p _ c2 hp
        refine lv_aload_n C.1 C.2.1 dX6_firstRow_50 rfl (lv_at hl 1 rfl) ?_
        refine lv_iload_n C.1 C.2.1 dX6_firstRow_51 rfl (lv_at hl 3 rfl) ?_
        have hrc := (rc_some hp).1
        have hp := (rc_some hp).2
        refine w_ci (cells' := 0) (slots' := 0) X (fun _ _ e => run_V (As := [.int v4]) (c0 := 6) C X mX6_brings miX6_brings lX6_159 (by decide) rfl hrc (ct_X6_brings l K q1 v4 h3 e) (by decide) (by decide) rfl (by decide) rfl hl.1 dX6_firstRow_52) (by decide) hp (fun v8 h4 H locs X hp => ?_)
        refine lv_if_ne (tgt := 61) C.1 C.2.1 dX6_firstRow_55 (by decide) (fun c3 => ?_) (fun c3 => ?_)
        · have hp := if_n _ c3 hp
          refine lv_iload_n C.1 C.2.1 dX6_firstRow_61 rfl (lv_at hl 3 rfl) ?_
          refine w_istn C (fun v => [(1, .int (v)), (3, .int v7), (0, .ref (K.1 + q1)), (2, .int v4)]) dX6_firstRow_62 rfl hl (by decide) (fun _ => rfl) hp (fun v9 ls hl hp => ?_)
          refine w_inc (k := 3) C (fun v => [(2, .int (v)), (1, .int v9), (3, .int v7), (0, .ref (K.1 + q1))]) dX6_firstRow_63 hl rfl (y := (v4 + 1)) rfl (by decide) (fun _ => rfl) hp (fun v10 ls hl hp => ?_)
          refine lv_goto (tgt := 5) C.1 C.2.1 dX6_firstRow_66 (by decide) ?_
          exact ih _ _ _ _ _ _ _ X (lv_sub hl [3, 1, 0] rfl) hp
        · have hp := if_p _ c3 hp
          refine lv_goto (tgt := 63) C.1 C.2.1 dX6_firstRow_58 (by decide) ?_
          refine w_inc (k := 3) C (fun v => [(2, .int (v)), (3, .int v7), (0, .ref (K.1 + q1)), (1, .int v3)]) dX6_firstRow_63 hl rfl (y := (v4 + 1)) rfl (by decide) (fun _ => rfl) hp (fun v11 ls hl hp => ?_)
          refine lv_goto (tgt := 5) C.1 C.2.1 dX6_firstRow_66 (by decide) ?_
          exact ih _ _ _ _ _ _ _ X (lv_sub hl [2, 3, 0] rfl) hp
      · have hp := if_n _ c2 hp
        refine lv_iload_n C.1 C.2.1 dX6_firstRow_23 rfl (lv_at hl 0 rfl) ?_
        refine lv_aload_n C.1 C.2.1 dX6_firstRow_24 rfl (lv_at hl 1 rfl) ?_
        refine lv_iload_n C.1 C.2.1 dX6_firstRow_25 rfl (lv_at hl 2 rfl) ?_
        have hrc := (rc_some hp).1
        have hp := (rc_some hp).2
        refine w_ci (cells' := 0) (slots' := 0) X (fun _ _ e => run_V (As := [.int v3]) (c0 := 6) C X mX6_goingsOf miX6_goingsOf lX6_162 (by decide) rfl hrc (ct_X6_goingsOf l K q1 v3 h3 e) (by decide) (by decide) rfl (Nat.le_of_ble_eq_true rfl) rfl hl.1 dX6_firstRow_26) (by decide) hp (fun v12 h5 H locs X hp => ?_)
        refine lv_icmp_gt (tgt := 63) C.1 C.2.1 dX6_firstRow_29 (by decide) (fun c4 => ?_) (fun c4 => ?_)
        · have hp := if_p _ c4 hp
          refine w_inc (k := 3) C (fun v => [(2, .int (v)), (3, .int v7), (0, .ref (K.1 + q1)), (1, .int v3)]) dX6_firstRow_63 hl rfl (y := (v4 + 1)) rfl (by decide) (fun _ => rfl) hp (fun v13 ls hl hp => ?_)
          refine lv_goto (tgt := 5) C.1 C.2.1 dX6_firstRow_66 (by decide) ?_
          exact ih _ _ _ _ _ _ _ X (lv_sub hl [2, 3, 0] rfl) hp
        · have hp := if_n _ c4 hp
          refine lv_iload_n C.1 C.2.1 dX6_firstRow_32 rfl (lv_at hl 0 rfl) ?_
          refine lv_aload_n C.1 C.2.1 dX6_firstRow_33 rfl (lv_at hl 1 rfl) ?_
          refine lv_iload_n C.1 C.2.1 dX6_firstRow_34 rfl (lv_at hl 2 rfl) ?_
          have hrc := (rc_some hp).1
          have hp := (rc_some hp).2
          refine w_ci (cells' := 0) (slots' := 0) X (fun _ _ e => run_V (As := [.int v3]) (c0 := 6) C X mX6_goingsOf miX6_goingsOf lX6_162 (by decide) rfl hrc (ct_X6_goingsOf l K q1 v3 h5 e) (by decide) (by decide) rfl (Nat.le_of_ble_eq_true rfl) rfl hl.1 dX6_firstRow_35) (by decide) hp (fun v14 h6 H locs X hp => ?_)
          refine lv_icmp_ne (tgt := 50) C.1 C.2.1 dX6_firstRow_38 (by decide) (fun c5 => ?_) (fun c5 => ?_)
          · have hp := if_n _ c5 hp
            refine lv_aload_n C.1 C.2.1 dX6_firstRow_50 rfl (lv_at hl 1 rfl) ?_
            refine lv_iload_n C.1 C.2.1 dX6_firstRow_51 rfl (lv_at hl 3 rfl) ?_
            have hrc := (rc_some hp).1
            have hp := (rc_some hp).2
            refine w_ci (cells' := 0) (slots' := 0) X (fun _ _ e => run_V (As := [.int v4]) (c0 := 6) C X mX6_brings miX6_brings lX6_159 (by decide) rfl hrc (ct_X6_brings l K q1 v4 h6 e) (by decide) (by decide) rfl (by decide) rfl hl.1 dX6_firstRow_52) (by decide) hp (fun v15 h7 H locs X hp => ?_)
            refine lv_if_ne (tgt := 61) C.1 C.2.1 dX6_firstRow_55 (by decide) (fun c6 => ?_) (fun c6 => ?_)
            · have hp := if_n _ c6 hp
              refine lv_iload_n C.1 C.2.1 dX6_firstRow_61 rfl (lv_at hl 3 rfl) ?_
              refine w_istn C (fun v => [(1, .int (v)), (3, .int v7), (0, .ref (K.1 + q1)), (2, .int v4)]) dX6_firstRow_62 rfl hl (by decide) (fun _ => rfl) hp (fun v16 ls hl hp => ?_)
              refine w_inc (k := 3) C (fun v => [(2, .int (v)), (1, .int v16), (3, .int v7), (0, .ref (K.1 + q1))]) dX6_firstRow_63 hl rfl (y := (v4 + 1)) rfl (by decide) (fun _ => rfl) hp (fun v17 ls hl hp => ?_)
              refine lv_goto (tgt := 5) C.1 C.2.1 dX6_firstRow_66 (by decide) ?_
              exact ih _ _ _ _ _ _ _ X (lv_sub hl [3, 1, 0] rfl) hp
            · have hp := if_p _ c6 hp
              refine lv_goto (tgt := 63) C.1 C.2.1 dX6_firstRow_58 (by decide) ?_
              refine w_inc (k := 3) C (fun v => [(2, .int (v)), (3, .int v7), (0, .ref (K.1 + q1)), (1, .int v3)]) dX6_firstRow_63 hl rfl (y := (v4 + 1)) rfl (by decide) (fun _ => rfl) hp (fun v18 ls hl hp => ?_)
              refine lv_goto (tgt := 5) C.1 C.2.1 dX6_firstRow_66 (by decide) ?_
              exact ih _ _ _ _ _ _ _ X (lv_sub hl [2, 3, 0] rfl) hp
          · have hp := if_p _ c5 hp
            refine lv_aload_n C.1 C.2.1 dX6_firstRow_41 rfl (lv_at hl 1 rfl) ?_
            refine lv_iload_n C.1 C.2.1 dX6_firstRow_42 rfl (lv_at hl 3 rfl) ?_
            refine lv_iload_n C.1 C.2.1 dX6_firstRow_43 rfl (lv_at hl 2 rfl) ?_
            have hrc := (rc_some hp).1
            have hp := (rc_some hp).2
            refine w_ci (cells' := 0) (slots' := 0) X (fun _ _ e => run_V (As := [.int v4, .int v3]) (c0 := 6) C X mX6_isAhead miX6_isAhead lX6_165 (by decide) rfl hrc (ct_X6_isAhead l K q1 v4 v3 h6 e) (by decide) (by decide) rfl (by decide) rfl hl.1 dX6_firstRow_44) (by decide) hp (fun v19 h8 H locs X hp => ?_)
            refine lv_if_eq (tgt := 63) C.1 C.2.1 dX6_firstRow_47 (by decide) (fun c7 => ?_) (fun c7 => ?_)
            · have hp := if_p _ c7 hp
              refine w_inc (k := 3) C (fun v => [(2, .int (v)), (3, .int v7), (0, .ref (K.1 + q1)), (1, .int v3)]) dX6_firstRow_63 hl rfl (y := (v4 + 1)) rfl (by decide) (fun _ => rfl) hp (fun v20 ls hl hp => ?_)
              refine lv_goto (tgt := 5) C.1 C.2.1 dX6_firstRow_66 (by decide) ?_
              exact ih _ _ _ _ _ _ _ X (lv_sub hl [2, 3, 0] rfl) hp
            · have hp := if_n _ c7 hp
              refine lv_aload_n C.1 C.2.1 dX6_firstRow_50 rfl (lv_at hl 1 rfl) ?_
              refine lv_iload_n C.1 C.2.1 dX6_firstRow_51 rfl (lv_at hl 3 rfl) ?_
              have hrc := (rc_some hp).1
              have hp := (rc_some hp).2
              refine w_ci (cells' := 0) (slots' := 0) X (fun _ _ e => run_V (As := [.int v4]) (c0 := 6) C X mX6_brings miX6_brings lX6_159 (by decide) rfl hrc (ct_X6_brings l K q1 v4 h8 e) (by decide) (by decide) rfl (by decide) rfl hl.1 dX6_firstRow_52) (by decide) hp (fun v21 h9 H locs X hp => ?_)
              refine lv_if_ne (tgt := 61) C.1 C.2.1 dX6_firstRow_55 (by decide) (fun c8 => ?_) (fun c8 => ?_)
              · have hp := if_n _ c8 hp
                refine lv_iload_n C.1 C.2.1 dX6_firstRow_61 rfl (lv_at hl 3 rfl) ?_
                refine w_istn C (fun v => [(1, .int (v)), (3, .int v7), (0, .ref (K.1 + q1)), (2, .int v4)]) dX6_firstRow_62 rfl hl (by decide) (fun _ => rfl) hp (fun v22 ls hl hp => ?_)
                refine w_inc (k := 3) C (fun v => [(2, .int (v)), (1, .int v22), (3, .int v7), (0, .ref (K.1 + q1))]) dX6_firstRow_63 hl rfl (y := (v4 + 1)) rfl (by decide) (fun _ => rfl) hp (fun v23 ls hl hp => ?_)
                refine lv_goto (tgt := 5) C.1 C.2.1 dX6_firstRow_66 (by decide) ?_
                exact ih _ _ _ _ _ _ _ X (lv_sub hl [3, 1, 0] rfl) hp
              · have hp := if_p _ c8 hp
                refine lv_goto (tgt := 63) C.1 C.2.1 dX6_firstRow_58 (by decide) ?_
                refine w_inc (k := 3) C (fun v => [(2, .int (v)), (3, .int v7), (0, .ref (K.1 + q1)), (1, .int v3)]) dX6_firstRow_63 hl rfl (y := (v4 + 1)) rfl (by decide) (fun _ => rfl) hp (fun v24 ls hl hp => ?_)
                refine lv_goto (tgt := 5) C.1 C.2.1 dX6_firstRow_66 (by decide) ?_
                exact ih _ _ _ _ _ _ _ X (lv_sub hl [2, 3, 0] rfl) hp

set_option maxHeartbeats 4000000 in
set_option maxRecDepth 100000 in
theorem ct_X6_firstRow (l : Launch) (K : Kt) (p0 : Nat) (h0 : Hp) {r : Int32} {h' : Hp} (hp : P_X6_firstRow p0 h0 = some (r, h')) : CT l K yX6_firstRow cX6_firstRow 4 (some FieldType.int) rmX6_firstRow [.ref (K.1 + p0)] h0 (Qi K r h') := by
  refine ct_of (own := RX6) (by decide +kernel) rfl (Nat.le_of_ble_eq_true rfl) ?_
  intro p e s m args below meth c C X hr hlk hm ls hl
  have hl : lv_has ls 4 [(0, .ref (K.1 + p0))] := hl
  unfold P_X6_firstRow at hp
  refine lv_bipush (v := -9) C.1 C.2.1 dX6_firstRow_0 (by decide) ?_
  refine w_istn C (fun v => [(1, .int (v)), (0, .ref (K.1 + p0))]) dX6_firstRow_2 rfl hl (by decide) (fun _ => rfl) hp (fun v1 ls hl hp => ?_)
  refine lv_iconst (v := 0) C.1 C.2.1 dX6_firstRow_3 (by decide) ?_
  refine w_istn C (fun v => [(2, .int (v)), (1, .int v1), (0, .ref (K.1 + p0))]) dX6_firstRow_4 rfl hl (by decide) (fun _ => rfl) hp (fun v2 ls hl hp => ?_)
  exact wl_X6_firstRow_L5 C hr hlk _ _ _ _ _ _ _ _ X (lv_sub hl [2, 1, 0] rfl) hp

abbrev rmX6_fewest : Room := { frames := 6, cells := 0, slots := 0, locals := 137 }
def P_X6_fewest (p0 : Nat) (h0 : Hp) : Option (Int32 × Hp) :=
    rc h0 p0 6 <| ci (P_X6_firstRow p0 h0) fun v1 h1 =>
    lt (v1 : Int32) fun v2 =>
    if 0 ≤ v2 then (
    rc h1 p0 6 <| ci (P_X6_goingsOf p0 v2 h1) fun v3 h2 =>
    some (v3, h2))
    else (
    some ((-9), h1))

set_option maxHeartbeats 4000000 in
set_option maxRecDepth 100000 in
theorem ct_X6_fewest (l : Launch) (K : Kt) (p0 : Nat) (h0 : Hp) {r : Int32} {h' : Hp} (hp : P_X6_fewest p0 h0 = some (r, h')) : CT l K yX6_fewest cX6_fewest 2 (some FieldType.int) rmX6_fewest [.ref (K.1 + p0)] h0 (Qi K r h') := by
  refine ct_of (own := RX6) (by decide +kernel) rfl (Nat.le_of_ble_eq_true rfl) ?_
  intro p e s m args below meth c C X hr hlk hm ls hl
  have hl : lv_has ls 2 [(0, .ref (K.1 + p0))] := hl
  unfold P_X6_fewest at hp
  refine lv_aload_n C.1 C.2.1 dX6_fewest_0 rfl (lv_at hl 0 rfl) ?_
  have hrc := (rc_some hp).1
  have hp := (rc_some hp).2
  refine w_ci (cells' := 0) (slots' := 0) X (fun _ _ e => run_V (As := []) (c0 := 6) C X mX6_firstRow miX6_firstRow lX6_168 (by decide) rfl hrc (ct_X6_firstRow l K p0 h0 e) (by decide) (by decide) rfl (by decide) rfl hl.1 dX6_fewest_1) (by decide) hp (fun v1 h1 H locs X hp => ?_)
  refine w_istn C (fun v => [(1, .int (v)), (0, .ref (K.1 + p0))]) dX6_fewest_4 rfl hl (by decide) (fun _ => rfl) hp (fun v2 ls hl hp => ?_)
  refine lv_iload_n C.1 C.2.1 dX6_fewest_5 rfl (lv_at hl 0 rfl) ?_
  refine lv_if_ge (tgt := 14) C.1 C.2.1 dX6_fewest_6 (by decide) (fun c1 => ?_) (fun c1 => ?_)
  · have hp := if_p _ c1 hp
    refine lv_aload_n C.1 C.2.1 dX6_fewest_14 rfl (lv_at hl 1 rfl) ?_
    refine lv_iload_n C.1 C.2.1 dX6_fewest_15 rfl (lv_at hl 0 rfl) ?_
    have hrc := (rc_some hp).1
    have hp := (rc_some hp).2
    refine w_ci (cells' := 0) (slots' := 0) X (fun _ _ e => run_V (As := [.int v2]) (c0 := 6) C X mX6_goingsOf miX6_goingsOf lX6_162 (by decide) rfl hrc (ct_X6_goingsOf l K p0 v2 h1 e) (by decide) (by decide) rfl (by decide) rfl hl.1 dX6_fewest_16) (by decide) hp (fun v3 h2 H locs X hp => ?_)
    exact w_reti C X hr hlk (by decide) dX6_fewest_19 hp
  · have hp := if_n _ c1 hp
    refine lv_bipush (v := -9) C.1 C.2.1 dX6_fewest_9 (by decide) ?_
    refine lv_goto (tgt := 19) C.1 C.2.1 dX6_fewest_11 (by decide) ?_
    exact w_reti C X hr hlk (by decide) dX6_fewest_19 hp

abbrev rmX6_cheapest : Room := { frames := 5, cells := 0, slots := 0, locals := 114 }
def P_X6_cheapest_L5 : Nat → Nat → Int32 → Int32 → Hp → Option (Int32 × Hp)
  | 0, _, _, _, _ => none
  | n + 1, q1, v3, v4, h1 =>
    rc h1 q1 6 <| ci (P_X6_rows q1 h1) fun v5 h2 =>
    if v5 ≤ v4 then (
    some (v3, h2))
    else (
    if v3 < 0 then (
    rc h2 q1 6 <| ci (P_X6_brings q1 v4 h2) fun v6 h3 =>
    if v6 = 0 then (
    lt ((v4 + 1) : Int32) fun v7 =>
    P_X6_cheapest_L5 n q1 v3 v7 h3)
    else (
    rc h3 q1 6 <| ci (P_X6_costOf q1 v4 h3) fun v8 h4 =>
    lt (v8 : Int32) fun v9 =>
    lt ((v4 + 1) : Int32) fun v10 =>
    P_X6_cheapest_L5 n q1 v9 v10 h4))
    else (
    rc h2 q1 6 <| ci (P_X6_costOf q1 v4 h2) fun v11 h5 =>
    if v3 ≤ v11 then (
    lt ((v4 + 1) : Int32) fun v12 =>
    P_X6_cheapest_L5 n q1 v3 v12 h5)
    else (
    rc h5 q1 6 <| ci (P_X6_brings q1 v4 h5) fun v13 h6 =>
    if v13 = 0 then (
    lt ((v4 + 1) : Int32) fun v14 =>
    P_X6_cheapest_L5 n q1 v3 v14 h6)
    else (
    rc h6 q1 6 <| ci (P_X6_costOf q1 v4 h6) fun v15 h7 =>
    lt (v15 : Int32) fun v16 =>
    lt ((v4 + 1) : Int32) fun v17 =>
    P_X6_cheapest_L5 n q1 v16 v17 h7))))

def P_X6_cheapest (p0 : Nat) (h0 : Hp) : Option (Int32 × Hp) :=
    lt ((-9) : Int32) fun v1 =>
    lt (0 : Int32) fun v2 =>
    P_X6_cheapest_L5 FU p0 v1 v2 h0

set_option maxHeartbeats 4000000 in
set_option maxRecDepth 100000 in
theorem wl_X6_cheapest_L5 (C : CX K p m c cX6_cheapest 3 s args RX6) (hr : meth.sig.returnType = (some FieldType.int)) (hlk : meth.locks = false) {r : Int32} {h' : Hp} : ∀ (n : Nat) (q1 : Nat) (v3 : Int32) (v4 : Int32) (h1 : Hp) (H : Heap) (locs : List Loc) (ls : Array Slot), HX K s.heap H locs h1 → lv_has ls 3 [(0, .ref (K.1 + q1)), (1, .int v3), (2, .int v4)] → P_X6_cheapest_L5 n q1 v3 v4 h1 = some (r, h') → W p l e rmX6_cheapest s m args below meth c H locs 0 0 (MQ below (Qi K r h') args s rmX6_cheapest.cells rmX6_cheapest.slots (KA K)) (F0 m 5 ls []) := by
  intro n
  induction n with
  | zero =>
    intro  q1 v3 v4 h1 H locs ls X hl hp
    cases hp
  | succ n ih =>
    intro  q1 v3 v4 h1 H locs ls X hl hp
    unfold P_X6_cheapest_L5 at hp
    refine lv_iload_n C.1 C.2.1 dX6_cheapest_5 rfl (lv_at hl 2 rfl) ?_
    refine lv_aload_n C.1 C.2.1 dX6_cheapest_6 rfl (lv_at hl 0 rfl) ?_
    have hrc := (rc_some hp).1
    have hp := (rc_some hp).2
    refine w_ci (cells' := 0) (slots' := 0) X (fun _ _ e => run_V (As := []) (c0 := 6) C X mX6_rows miX6_rows lX6_156 (by decide) rfl hrc (ct_X6_rows l K q1 h1 e) (by decide) (by decide) rfl (Nat.le_of_ble_eq_true rfl) rfl hl.1 dX6_cheapest_7) (by decide) hp (fun v5 h2 H locs X hp => ?_)
    refine lv_icmp_ge (tgt := 46) C.1 C.2.1 dX6_cheapest_10 (by decide) (fun c1 => ?_) (fun c1 => ?_)
    · have hp := if_p _ c1 hp
      refine lv_iload_n C.1 C.2.1 dX6_cheapest_46 rfl (lv_at hl 1 rfl) ?_
      exact w_reti C X hr hlk (by decide) dX6_cheapest_47 hp
    · have hp := if_n _ c1 hp
      refine lv_iload_n C.1 C.2.1 dX6_cheapest_13 rfl (lv_at hl 1 rfl) ?_
      refine lv_if_lt (tgt := 26) C.1 C.2.1 dX6_cheapest_14 (by decide) (fun c2 => ?_) (fun c2 => ?_)
      · have hp := if_p _ c2 hp
        refine lv_aload_n C.1 C.2.1 dX6_cheapest_26 rfl (lv_at hl 0 rfl) ?_
        refine lv_iload_n C.1 C.2.1 dX6_cheapest_27 rfl (lv_at hl 2 rfl) ?_
        have hrc := (rc_some hp).1
        have hp := (rc_some hp).2
        refine w_ci (cells' := 0) (slots' := 0) X (fun _ _ e => run_V (As := [.int v4]) (c0 := 6) C X mX6_brings miX6_brings lX6_159 (by decide) rfl hrc (ct_X6_brings l K q1 v4 h2 e) (by decide) (by decide) rfl (by decide) rfl hl.1 dX6_cheapest_28) (by decide) hp (fun v6 h3 H locs X hp => ?_)
        refine lv_if_eq (tgt := 40) C.1 C.2.1 dX6_cheapest_31 (by decide) (fun c3 => ?_) (fun c3 => ?_)
        · have hp := if_p _ c3 hp
          refine w_inc (k := 2) C (fun v => [(2, .int (v)), (0, .ref (K.1 + q1)), (1, .int v3)]) dX6_cheapest_40 hl rfl (y := (v4 + 1)) rfl (by decide) (fun _ => rfl) hp (fun v7 ls hl hp => ?_)
          refine lv_goto (tgt := 5) C.1 C.2.1 dX6_cheapest_43 (by decide) ?_
          exact ih _ _ _ _ _ _ _ X (lv_sub hl [1, 2, 0] rfl) hp
        · have hp := if_n _ c3 hp
          refine lv_aload_n C.1 C.2.1 dX6_cheapest_34 rfl (lv_at hl 0 rfl) ?_
          refine lv_iload_n C.1 C.2.1 dX6_cheapest_35 rfl (lv_at hl 2 rfl) ?_
          have hrc := (rc_some hp).1
          have hp := (rc_some hp).2
          refine w_ci (cells' := 0) (slots' := 0) X (fun _ _ e => run_V (As := [.int v4]) (c0 := 6) C X mX6_costOf miX6_costOf lX6_171 (by decide) rfl hrc (ct_X6_costOf l K q1 v4 h3 e) (by decide) (by decide) rfl (by decide) rfl hl.1 dX6_cheapest_36) (by decide) hp (fun v8 h4 H locs X hp => ?_)
          refine w_istn C (fun v => [(1, .int (v)), (0, .ref (K.1 + q1)), (2, .int v4)]) dX6_cheapest_39 rfl hl (by decide) (fun _ => rfl) hp (fun v9 ls hl hp => ?_)
          refine w_inc (k := 2) C (fun v => [(2, .int (v)), (1, .int v9), (0, .ref (K.1 + q1))]) dX6_cheapest_40 hl rfl (y := (v4 + 1)) rfl (by decide) (fun _ => rfl) hp (fun v10 ls hl hp => ?_)
          refine lv_goto (tgt := 5) C.1 C.2.1 dX6_cheapest_43 (by decide) ?_
          exact ih _ _ _ _ _ _ _ X (lv_sub hl [2, 1, 0] rfl) hp
      · have hp := if_n _ c2 hp
        refine lv_aload_n C.1 C.2.1 dX6_cheapest_17 rfl (lv_at hl 0 rfl) ?_
        refine lv_iload_n C.1 C.2.1 dX6_cheapest_18 rfl (lv_at hl 2 rfl) ?_
        have hrc := (rc_some hp).1
        have hp := (rc_some hp).2
        refine w_ci (cells' := 0) (slots' := 0) X (fun _ _ e => run_V (As := [.int v4]) (c0 := 6) C X mX6_costOf miX6_costOf lX6_171 (by decide) rfl hrc (ct_X6_costOf l K q1 v4 h2 e) (by decide) (by decide) rfl (by decide) rfl hl.1 dX6_cheapest_19) (by decide) hp (fun v11 h5 H locs X hp => ?_)
        refine lv_iload_n C.1 C.2.1 dX6_cheapest_22 rfl (lv_at hl 1 rfl) ?_
        refine lv_icmp_ge (tgt := 40) C.1 C.2.1 dX6_cheapest_23 (by decide) (fun c4 => ?_) (fun c4 => ?_)
        · have hp := if_p _ c4 hp
          refine w_inc (k := 2) C (fun v => [(2, .int (v)), (0, .ref (K.1 + q1)), (1, .int v3)]) dX6_cheapest_40 hl rfl (y := (v4 + 1)) rfl (by decide) (fun _ => rfl) hp (fun v12 ls hl hp => ?_)
          refine lv_goto (tgt := 5) C.1 C.2.1 dX6_cheapest_43 (by decide) ?_
          exact ih _ _ _ _ _ _ _ X (lv_sub hl [1, 2, 0] rfl) hp
        · have hp := if_n _ c4 hp
          refine lv_aload_n C.1 C.2.1 dX6_cheapest_26 rfl (lv_at hl 0 rfl) ?_
          refine lv_iload_n C.1 C.2.1 dX6_cheapest_27 rfl (lv_at hl 2 rfl) ?_
          have hrc := (rc_some hp).1
          have hp := (rc_some hp).2
          refine w_ci (cells' := 0) (slots' := 0) X (fun _ _ e => run_V (As := [.int v4]) (c0 := 6) C X mX6_brings miX6_brings lX6_159 (by decide) rfl hrc (ct_X6_brings l K q1 v4 h5 e) (by decide) (by decide) rfl (by decide) rfl hl.1 dX6_cheapest_28) (by decide) hp (fun v13 h6 H locs X hp => ?_)
          refine lv_if_eq (tgt := 40) C.1 C.2.1 dX6_cheapest_31 (by decide) (fun c5 => ?_) (fun c5 => ?_)
          · have hp := if_p _ c5 hp
            refine w_inc (k := 2) C (fun v => [(2, .int (v)), (0, .ref (K.1 + q1)), (1, .int v3)]) dX6_cheapest_40 hl rfl (y := (v4 + 1)) rfl (by decide) (fun _ => rfl) hp (fun v14 ls hl hp => ?_)
            refine lv_goto (tgt := 5) C.1 C.2.1 dX6_cheapest_43 (by decide) ?_
            exact ih _ _ _ _ _ _ _ X (lv_sub hl [1, 2, 0] rfl) hp
          · have hp := if_n _ c5 hp
            refine lv_aload_n C.1 C.2.1 dX6_cheapest_34 rfl (lv_at hl 0 rfl) ?_
            refine lv_iload_n C.1 C.2.1 dX6_cheapest_35 rfl (lv_at hl 2 rfl) ?_
            have hrc := (rc_some hp).1
            have hp := (rc_some hp).2
            refine w_ci (cells' := 0) (slots' := 0) X (fun _ _ e => run_V (As := [.int v4]) (c0 := 6) C X mX6_costOf miX6_costOf lX6_171 (by decide) rfl hrc (ct_X6_costOf l K q1 v4 h6 e) (by decide) (by decide) rfl (by decide) rfl hl.1 dX6_cheapest_36) (by decide) hp (fun v15 h7 H locs X hp => ?_)
            refine w_istn C (fun v => [(1, .int (v)), (0, .ref (K.1 + q1)), (2, .int v4)]) dX6_cheapest_39 rfl hl (by decide) (fun _ => rfl) hp (fun v16 ls hl hp => ?_)
            refine w_inc (k := 2) C (fun v => [(2, .int (v)), (1, .int v16), (0, .ref (K.1 + q1))]) dX6_cheapest_40 hl rfl (y := (v4 + 1)) rfl (by decide) (fun _ => rfl) hp (fun v17 ls hl hp => ?_)
            refine lv_goto (tgt := 5) C.1 C.2.1 dX6_cheapest_43 (by decide) ?_
            exact ih _ _ _ _ _ _ _ X (lv_sub hl [2, 1, 0] rfl) hp

set_option maxHeartbeats 4000000 in
set_option maxRecDepth 100000 in
theorem ct_X6_cheapest (l : Launch) (K : Kt) (p0 : Nat) (h0 : Hp) {r : Int32} {h' : Hp} (hp : P_X6_cheapest p0 h0 = some (r, h')) : CT l K yX6_cheapest cX6_cheapest 3 (some FieldType.int) rmX6_cheapest [.ref (K.1 + p0)] h0 (Qi K r h') := by
  refine ct_of (own := RX6) (by decide +kernel) rfl (Nat.le_of_ble_eq_true rfl) ?_
  intro p e s m args below meth c C X hr hlk hm ls hl
  have hl : lv_has ls 3 [(0, .ref (K.1 + p0))] := hl
  unfold P_X6_cheapest at hp
  refine lv_bipush (v := -9) C.1 C.2.1 dX6_cheapest_0 (by decide) ?_
  refine w_istn C (fun v => [(1, .int (v)), (0, .ref (K.1 + p0))]) dX6_cheapest_2 rfl hl (by decide) (fun _ => rfl) hp (fun v1 ls hl hp => ?_)
  refine lv_iconst (v := 0) C.1 C.2.1 dX6_cheapest_3 (by decide) ?_
  refine w_istn C (fun v => [(2, .int (v)), (1, .int v1), (0, .ref (K.1 + p0))]) dX6_cheapest_4 rfl hl (by decide) (fun _ => rfl) hp (fun v2 ls hl hp => ?_)
  exact wl_X6_cheapest_L5 C hr hlk _ _ _ _ _ _ _ _ X (lv_sub hl [2, 1, 0] rfl) hp

abbrev rmX6_how : Room := { frames := 6, cells := 0, slots := 0, locals := 137 }
def P_X6_how (p0 : Nat) (a1 : Int32) (h0 : Hp) : Option (Int32 × Hp) :=
    rc h0 p0 6 <| ci (P_X6_isPerson p0 a1 h0) fun v1 h1 =>
    if v1 = 0 then (
    rc h1 p0 6 <| ci (P_X6_refuse p0 (-1) h1) fun v5 h4 =>
    some (v5, h4))
    else (
    rc h1 p0 6 <| ci (P_X6_firstRow p0 h1) fun v2 h2 =>
    lt (v2 : Int32) fun v3 =>
    if 0 ≤ v3 then (
    rc h2 p0 6 <| ci (P_X6_timesOf p0 v3 a1 h2) fun v4 h3 =>
    some (v4, h3))
    else (
    some ((-9), h2)))

set_option maxHeartbeats 4000000 in
set_option maxRecDepth 100000 in
theorem ct_X6_how (l : Launch) (K : Kt) (p0 : Nat) (a1 : Int32) (h0 : Hp) {r : Int32} {h' : Hp} (hp : P_X6_how p0 a1 h0 = some (r, h')) : CT l K yX6_how cX6_how 3 (some FieldType.int) rmX6_how [.ref (K.1 + p0), .int a1] h0 (Qi K r h') := by
  refine ct_of (own := RX6) (by decide +kernel) rfl (Nat.le_of_ble_eq_true rfl) ?_
  intro p e s m args below meth c C X hr hlk hm ls hl
  have hl : lv_has ls 3 [(0, .ref (K.1 + p0)), (1, .int a1)] := hl
  unfold P_X6_how at hp
  refine lv_aload_n C.1 C.2.1 dX6_how_0 rfl (lv_at hl 0 rfl) ?_
  refine lv_iload_n C.1 C.2.1 dX6_how_1 rfl (lv_at hl 1 rfl) ?_
  have hrc := (rc_some hp).1
  have hp := (rc_some hp).2
  refine w_ci (cells' := 0) (slots' := 0) X (fun _ _ e => run_V (As := [.int a1]) (c0 := 6) C X mX6_isPerson miX6_isPerson lX6_118 (by decide) rfl hrc (ct_X6_isPerson l K p0 a1 h0 e) (by decide) (by decide) rfl (by decide) rfl hl.1 dX6_how_2) (by decide) hp (fun v1 h1 H locs X hp => ?_)
  refine lv_if_ne (tgt := 14) C.1 C.2.1 dX6_how_5 (by decide) (fun c1 => ?_) (fun c1 => ?_)
  · have hp := if_n _ c1 hp
    refine lv_aload_n C.1 C.2.1 dX6_how_14 rfl (lv_at hl 0 rfl) ?_
    have hrc := (rc_some hp).1
    have hp := (rc_some hp).2
    refine w_ci (cells' := 0) (slots' := 0) X (fun _ _ e => run_V (As := []) (c0 := 6) C X mX6_firstRow miX6_firstRow lX6_168 (by decide) rfl hrc (ct_X6_firstRow l K p0 h1 e) (by decide) (by decide) rfl (by decide) rfl hl.1 dX6_how_15) (by decide) hp (fun v2 h2 H locs X hp => ?_)
    refine w_istn C (fun v => [(2, .int (v)), (0, .ref (K.1 + p0)), (1, .int a1)]) dX6_how_18 rfl hl (by decide) (fun _ => rfl) hp (fun v3 ls hl hp => ?_)
    refine lv_iload_n C.1 C.2.1 dX6_how_19 rfl (lv_at hl 0 rfl) ?_
    refine lv_if_ge (tgt := 28) C.1 C.2.1 dX6_how_20 (by decide) (fun c2 => ?_) (fun c2 => ?_)
    · have hp := if_p _ c2 hp
      refine lv_aload_n C.1 C.2.1 dX6_how_28 rfl (lv_at hl 1 rfl) ?_
      refine lv_iload_n C.1 C.2.1 dX6_how_29 rfl (lv_at hl 0 rfl) ?_
      refine lv_iload_n C.1 C.2.1 dX6_how_30 rfl (lv_at hl 2 rfl) ?_
      have hrc := (rc_some hp).1
      have hp := (rc_some hp).2
      refine w_ci (cells' := 0) (slots' := 0) X (fun _ _ e => run_V (As := [.int v3, .int a1]) (c0 := 6) C X mX6_timesOf miX6_timesOf lX6_144 (by decide) rfl hrc (ct_X6_timesOf l K p0 v3 a1 h2 e) (by decide) (by decide) rfl (by decide) rfl hl.1 dX6_how_31) (by decide) hp (fun v4 h3 H locs X hp => ?_)
      exact w_reti C X hr hlk (by decide) dX6_how_34 hp
    · have hp := if_n _ c2 hp
      refine lv_bipush (v := -9) C.1 C.2.1 dX6_how_23 (by decide) ?_
      refine lv_goto (tgt := 34) C.1 C.2.1 dX6_how_25 (by decide) ?_
      exact w_reti C X hr hlk (by decide) dX6_how_34 hp
  · have hp := if_p _ c1 hp
    refine lv_aload_n C.1 C.2.1 dX6_how_8 rfl (lv_at hl 0 rfl) ?_
    refine lv_iconst (v := -1) C.1 C.2.1 dX6_how_9 (by decide) ?_
    have hrc := (rc_some hp).1
    have hp := (rc_some hp).2
    refine w_ci (cells' := 0) (slots' := 0) X (fun _ _ e => run_V (As := [.int (-1)]) (c0 := 6) C X mX6_refuse miX6_refuse lX6_52 (by decide) rfl hrc (ct_X6_refuse l K p0 (-1) h1 e) (by decide) (by decide) rfl (by decide) rfl hl.1 dX6_how_10) (by decide) hp (fun v5 h4 H locs X hp => ?_)
    exact w_reti C X hr hlk (by decide) dX6_how_13 hp

abbrev rmX6_nothingBy : Room := { frames := 4, cells := 0, slots := 0, locals := 92 }
def P_X6_nothingBy_L26 : Nat → Nat → Int32 → Int32 → Int32 → Int32 → Int32 → Hp → (Int32 → Hp → Option (Int32 × Hp)) → Option (Int32 × Hp)
  | 0, _, _, _, _, _, _, _, _ => none
  | n + 1, q2, v9, v10, v11, v12, v13, h6, kont =>
    gr h6 q2 6 1 fun q3 =>
    al h6 q3 2 fun v14 =>
    if v14 ≤ v13 then (
    kont v12 h6)
    else (
    if v12 = 0 then (
    lt (0 : Int32) fun v15 =>
    lt ((v13 + 1) : Int32) fun v16 =>
    P_X6_nothingBy_L26 n q2 v9 v10 v11 v15 v16 h6 kont)
    else (
    if ((jshr v9 v13) &&& 1) = 1 then (
    lt (1 : Int32) fun v17 =>
    lt ((v13 + 1) : Int32) fun v18 =>
    P_X6_nothingBy_L26 n q2 v9 v10 v11 v17 v18 h6 kont)
    else (
    rc h6 q2 6 <| ci (P_X6_timesOf q2 v11 v13 h6) fun v19 h7 =>
    if v19 = 0 then (
    lt (1 : Int32) fun v22 =>
    lt ((v13 + 1) : Int32) fun v23 =>
    P_X6_nothingBy_L26 n q2 v9 v10 v11 v22 v23 h7 kont)
    else (
    lt (0 : Int32) fun v20 =>
    lt ((v13 + 1) : Int32) fun v21 =>
    P_X6_nothingBy_L26 n q2 v9 v10 v11 v20 v21 h7 kont))))

def P_X6_nothingBy_L12 : Nat → Nat → Int32 → Int32 → Int32 → Hp → Option (Int32 × Hp)
  | 0, _, _, _, _, _ => none
  | n + 1, q1, v3, v4, v5, h3 =>
    rc h3 q1 6 <| ci (P_X6_rows q1 h3) fun v6 h4 =>
    if v6 ≤ v5 then (
    rc h4 q1 6 <| cv (P_X6_putsBack q1 h4) fun h5 =>
    some (v4, h5))
    else (
    lt (1 : Int32) fun v7 =>
    lt (0 : Int32) fun v8 =>
    P_X6_nothingBy_L26 FU q1 v3 v4 v5 v7 v8 h4 fun v24 h8 =>
    if v24 = 0 then (
    lt ((v5 + 1) : Int32) fun v30 =>
    P_X6_nothingBy_L12 n q1 v3 v4 v30 h8)
    else (
    rc h8 q1 6 <| cv (P_X6_goesRow q1 v5 h8) fun h9 =>
    rc h9 q1 6 <| ci (P_X6_stateNow q1 h9) fun v25 h10 =>
    if v25 = 0 then (
    lt ((v4 + 1) : Int32) fun v28 =>
    rc h10 q1 6 <| cv (P_X6_zeroes q1 h10) fun h12 =>
    lt ((v5 + 1) : Int32) fun v29 =>
    P_X6_nothingBy_L12 n q1 v3 v28 v29 h12)
    else (
    lt ((v4 + 0) : Int32) fun v26 =>
    rc h10 q1 6 <| cv (P_X6_zeroes q1 h10) fun h11 =>
    lt ((v5 + 1) : Int32) fun v27 =>
    P_X6_nothingBy_L12 n q1 v3 v26 v27 h11)))

def P_X6_nothingBy (p0 : Nat) (a1 : Int32) (h0 : Hp) : Option (Int32 × Hp) :=
    lt (0 : Int32) fun v1 =>
    rc h0 p0 6 <| cv (P_X6_keeps p0 h0) fun h1 =>
    rc h1 p0 6 <| cv (P_X6_zeroes p0 h1) fun h2 =>
    lt (0 : Int32) fun v2 =>
    P_X6_nothingBy_L12 FU p0 a1 v1 v2 h2

set_option maxHeartbeats 4000000 in
set_option maxRecDepth 100000 in
theorem wl_X6_nothingBy_L26 (C : CX K p m c cX6_nothingBy 6 s args RX6) (hr : meth.sig.returnType = (some FieldType.int)) (hlk : meth.locks = false) {r : Int32} {h' : Hp} : ∀ (n : Nat) (q2 : Nat) (v9 : Int32) (v10 : Int32) (v11 : Int32) (v12 : Int32) (v13 : Int32) (h6 : Hp) (kont : Int32 → Hp → Option (Int32 × Hp)) (H : Heap) (locs : List Loc) (ls : Array Slot), HX K s.heap H locs h6 → lv_has ls 6 [(0, .ref (K.1 + q2)), (1, .int v9), (2, .int v10), (3, .int v11), (4, .int v12), (5, .int v13)] → P_X6_nothingBy_L26 n q2 v9 v10 v11 v12 v13 h6 kont = some (r, h') → (∀ (y0 : Int32) (hk : Hp) (H : Heap) (locs : List Loc) (ls : Array Slot), HX K s.heap H locs hk → lv_has ls 6 [(0, .ref (K.1 + q2)), (1, .int v9), (2, .int v10), (3, .int v11), (4, .int y0)] → kont y0 hk = some (r, h') → W p l e rmX6_nothingBy s m args below meth c H locs 0 0 (MQ below (Qi K r h') args s rmX6_nothingBy.cells rmX6_nothingBy.slots (KA K)) (F0 m 75 ls [])) → W p l e rmX6_nothingBy s m args below meth c H locs 0 0 (MQ below (Qi K r h') args s rmX6_nothingBy.cells rmX6_nothingBy.slots (KA K)) (F0 m 26 ls []) := by
  intro n
  induction n with
  | zero =>
    intro  q2 v9 v10 v11 v12 v13 h6 kont H locs ls X hl hp hk
    cases hp
  | succ n ih =>
    intro  q2 v9 v10 v11 v12 v13 h6 kont H locs ls X hl hp hk
    unfold P_X6_nothingBy_L26 at hp
    refine lv_iload C.1 C.2.1 dX6_nothingBy_26 (lv_at hl 5 rfl) ?_
    refine lv_aload_n C.1 C.2.1 dX6_nothingBy_28 rfl (lv_at hl 0 rfl) ?_
    refine w_gr C X fX6_13 rfl dX6_nothingBy_29 hp (fun q3 hp => ?_)
    refine lv_iconst (v := 2) C.1 C.2.1 dX6_nothingBy_32 (by decide) ?_
    refine w_al C X dX6_nothingBy_33 hp (fun v14 hp => ?_)
    refine lv_icmp_ge (tgt := 75) C.1 C.2.1 dX6_nothingBy_34 (by decide) (fun c2 => ?_) (fun c2 => ?_)
    · have hp := if_p _ c2 hp
      exact hk _ _ _ _ _ X (lv_sub hl [0, 1, 2, 3, 4] rfl) hp
    · have hp := if_n _ c2 hp
      refine lv_iload C.1 C.2.1 dX6_nothingBy_37 (lv_at hl 4 rfl) ?_
      refine lv_if_eq (tgt := 66) C.1 C.2.1 dX6_nothingBy_39 (by decide) (fun c3 => ?_) (fun c3 => ?_)
      · have hp := if_p _ c3 hp
        refine lv_iconst (v := 0) C.1 C.2.1 dX6_nothingBy_66 (by decide) ?_
        refine w_ist C (fun v => [(4, .int (v)), (0, .ref (K.1 + q2)), (1, .int v9), (2, .int v10), (3, .int v11), (5, .int v13)]) dX6_nothingBy_67 hl (by decide) (fun _ => rfl) hp (fun v15 ls hl hp => ?_)
        refine w_inc (k := 5) C (fun v => [(5, .int (v)), (4, .int v15), (0, .ref (K.1 + q2)), (1, .int v9), (2, .int v10), (3, .int v11)]) dX6_nothingBy_69 hl rfl (y := (v13 + 1)) rfl (by decide) (fun _ => rfl) hp (fun v16 ls hl hp => ?_)
        refine lv_goto (tgt := 26) C.1 C.2.1 dX6_nothingBy_72 (by decide) ?_
        exact ih _ _ _ _ _ _ _ _ _ _ _ X (lv_sub hl [2, 3, 4, 5, 1, 0] rfl) hp hk
      · have hp := if_n _ c3 hp
        refine lv_iload_n C.1 C.2.1 dX6_nothingBy_42 rfl (lv_at hl 1 rfl) ?_
        refine lv_iload C.1 C.2.1 dX6_nothingBy_43 (lv_at hl 5 rfl) ?_
        refine w_shr C dX6_nothingBy_45 ?_
        refine lv_iconst (v := 1) C.1 C.2.1 dX6_nothingBy_46 (by decide) ?_
        refine lv_iand C.1 C.2.1 dX6_nothingBy_47 ?_
        refine lv_iconst (v := 1) C.1 C.2.1 dX6_nothingBy_48 (by decide) ?_
        refine lv_icmp_eq (tgt := 62) C.1 C.2.1 dX6_nothingBy_49 (by decide) (fun c4 => ?_) (fun c4 => ?_)
        · have hp := if_p _ c4 hp
          refine lv_iconst (v := 1) C.1 C.2.1 dX6_nothingBy_62 (by decide) ?_
          refine lv_goto (tgt := 67) C.1 C.2.1 dX6_nothingBy_63 (by decide) ?_
          refine w_ist C (fun v => [(4, .int (v)), (0, .ref (K.1 + q2)), (1, .int v9), (2, .int v10), (3, .int v11), (5, .int v13)]) dX6_nothingBy_67 hl (by decide) (fun _ => rfl) hp (fun v17 ls hl hp => ?_)
          refine w_inc (k := 5) C (fun v => [(5, .int (v)), (4, .int v17), (0, .ref (K.1 + q2)), (1, .int v9), (2, .int v10), (3, .int v11)]) dX6_nothingBy_69 hl rfl (y := (v13 + 1)) rfl (by decide) (fun _ => rfl) hp (fun v18 ls hl hp => ?_)
          refine lv_goto (tgt := 26) C.1 C.2.1 dX6_nothingBy_72 (by decide) ?_
          exact ih _ _ _ _ _ _ _ _ _ _ _ X (lv_sub hl [2, 3, 4, 5, 1, 0] rfl) hp hk
        · have hp := if_n _ c4 hp
          refine lv_aload_n C.1 C.2.1 dX6_nothingBy_52 rfl (lv_at hl 0 rfl) ?_
          refine lv_iload_n C.1 C.2.1 dX6_nothingBy_53 rfl (lv_at hl 3 rfl) ?_
          refine lv_iload C.1 C.2.1 dX6_nothingBy_54 (lv_at hl 5 rfl) ?_
          have hrc := (rc_some hp).1
          have hp := (rc_some hp).2
          refine w_ci (cells' := 0) (slots' := 0) X (fun _ _ e => run_V (As := [.int v11, .int v13]) (c0 := 6) C X mX6_timesOf miX6_timesOf lX6_144 (by decide) rfl hrc (ct_X6_timesOf l K q2 v11 v13 h6 e) (by decide) (by decide) rfl (by decide) rfl hl.1 dX6_nothingBy_56) (by decide) hp (fun v19 h7 H locs X hp => ?_)
          refine lv_if_ne (tgt := 66) C.1 C.2.1 dX6_nothingBy_59 (by decide) (fun c5 => ?_) (fun c5 => ?_)
          · have hp := if_n _ c5 hp
            refine lv_iconst (v := 0) C.1 C.2.1 dX6_nothingBy_66 (by decide) ?_
            refine w_ist C (fun v => [(4, .int (v)), (0, .ref (K.1 + q2)), (1, .int v9), (2, .int v10), (3, .int v11), (5, .int v13)]) dX6_nothingBy_67 hl (by decide) (fun _ => rfl) hp (fun v20 ls hl hp => ?_)
            refine w_inc (k := 5) C (fun v => [(5, .int (v)), (4, .int v20), (0, .ref (K.1 + q2)), (1, .int v9), (2, .int v10), (3, .int v11)]) dX6_nothingBy_69 hl rfl (y := (v13 + 1)) rfl (by decide) (fun _ => rfl) hp (fun v21 ls hl hp => ?_)
            refine lv_goto (tgt := 26) C.1 C.2.1 dX6_nothingBy_72 (by decide) ?_
            exact ih _ _ _ _ _ _ _ _ _ _ _ X (lv_sub hl [2, 3, 4, 5, 1, 0] rfl) hp hk
          · have hp := if_p _ c5 hp
            refine lv_iconst (v := 1) C.1 C.2.1 dX6_nothingBy_62 (by decide) ?_
            refine lv_goto (tgt := 67) C.1 C.2.1 dX6_nothingBy_63 (by decide) ?_
            refine w_ist C (fun v => [(4, .int (v)), (0, .ref (K.1 + q2)), (1, .int v9), (2, .int v10), (3, .int v11), (5, .int v13)]) dX6_nothingBy_67 hl (by decide) (fun _ => rfl) hp (fun v22 ls hl hp => ?_)
            refine w_inc (k := 5) C (fun v => [(5, .int (v)), (4, .int v22), (0, .ref (K.1 + q2)), (1, .int v9), (2, .int v10), (3, .int v11)]) dX6_nothingBy_69 hl rfl (y := (v13 + 1)) rfl (by decide) (fun _ => rfl) hp (fun v23 ls hl hp => ?_)
            refine lv_goto (tgt := 26) C.1 C.2.1 dX6_nothingBy_72 (by decide) ?_
            exact ih _ _ _ _ _ _ _ _ _ _ _ X (lv_sub hl [2, 3, 4, 5, 1, 0] rfl) hp hk

set_option maxHeartbeats 4000000 in
set_option maxRecDepth 100000 in
theorem wl_X6_nothingBy_L12 (C : CX K p m c cX6_nothingBy 6 s args RX6) (hr : meth.sig.returnType = (some FieldType.int)) (hlk : meth.locks = false) {r : Int32} {h' : Hp} : ∀ (n : Nat) (q1 : Nat) (v3 : Int32) (v4 : Int32) (v5 : Int32) (h3 : Hp) (H : Heap) (locs : List Loc) (ls : Array Slot), HX K s.heap H locs h3 → lv_has ls 6 [(0, .ref (K.1 + q1)), (1, .int v3), (2, .int v4), (3, .int v5)] → P_X6_nothingBy_L12 n q1 v3 v4 v5 h3 = some (r, h') → W p l e rmX6_nothingBy s m args below meth c H locs 0 0 (MQ below (Qi K r h') args s rmX6_nothingBy.cells rmX6_nothingBy.slots (KA K)) (F0 m 12 ls []) := by
  intro n
  induction n with
  | zero =>
    intro  q1 v3 v4 v5 h3 H locs ls X hl hp
    cases hp
  | succ n ih =>
    intro  q1 v3 v4 v5 h3 H locs ls X hl hp
    unfold P_X6_nothingBy_L12 at hp
    refine lv_iload_n C.1 C.2.1 dX6_nothingBy_12 rfl (lv_at hl 3 rfl) ?_
    refine lv_aload_n C.1 C.2.1 dX6_nothingBy_13 rfl (lv_at hl 0 rfl) ?_
    have hrc := (rc_some hp).1
    have hp := (rc_some hp).2
    refine w_ci (cells' := 0) (slots' := 0) X (fun _ _ e => run_V (As := []) (c0 := 6) C X mX6_rows miX6_rows lX6_156 (by decide) rfl hrc (ct_X6_rows l K q1 h3 e) (by decide) (by decide) rfl (Nat.le_of_ble_eq_true rfl) rfl hl.1 dX6_nothingBy_14) (by decide) hp (fun v6 h4 H locs X hp => ?_)
    refine lv_icmp_ge (tgt := 113) C.1 C.2.1 dX6_nothingBy_17 (by decide) (fun c1 => ?_) (fun c1 => ?_)
    · have hp := if_p _ c1 hp
      refine lv_aload_n C.1 C.2.1 dX6_nothingBy_113 rfl (lv_at hl 0 rfl) ?_
      have hrc := (rc_some hp).1
      have hp := (rc_some hp).2
      refine w_cv (cells' := 0) (slots' := 0) X (fun _ e => run_V (As := []) (c0 := 6) C X mX6_putsBack miX6_putsBack lX6_153 (by decide) rfl hrc (ct_X6_putsBack l K q1 h4 e) (by decide) (by decide) rfl (by decide) rfl hl.1 dX6_nothingBy_114) (by decide) hp (fun h5 H locs X hp => ?_)
      refine lv_iload_n C.1 C.2.1 dX6_nothingBy_117 rfl (lv_at hl 2 rfl) ?_
      exact w_reti C X hr hlk (by decide) dX6_nothingBy_118 hp
    · have hp := if_n _ c1 hp
      refine lv_iconst (v := 1) C.1 C.2.1 dX6_nothingBy_20 (by decide) ?_
      refine w_ist C (fun v => [(4, .int (v)), (0, .ref (K.1 + q1)), (1, .int v3), (2, .int v4), (3, .int v5)]) dX6_nothingBy_21 hl (by decide) (fun _ => rfl) hp (fun v7 ls hl hp => ?_)
      refine lv_iconst (v := 0) C.1 C.2.1 dX6_nothingBy_23 (by decide) ?_
      refine w_ist C (fun v => [(5, .int (v)), (4, .int v7), (0, .ref (K.1 + q1)), (1, .int v3), (2, .int v4), (3, .int v5)]) dX6_nothingBy_24 hl (by decide) (fun _ => rfl) hp (fun v8 ls hl hp => ?_)
      refine wl_X6_nothingBy_L26 C hr hlk _ _ _ _ _ _ _ _ _ _ _ _ X (lv_sub hl [2, 3, 4, 5, 1, 0] rfl) hp (fun v24 h8 H locs ls X hl hp => ?_)
      refine lv_iload C.1 C.2.1 dX6_nothingBy_75 (lv_at hl 4 rfl) ?_
      refine lv_if_ne (tgt := 83) C.1 C.2.1 dX6_nothingBy_77 (by decide) (fun c6 => ?_) (fun c6 => ?_)
      · have hp := if_n _ c6 hp
        refine lv_aload_n C.1 C.2.1 dX6_nothingBy_83 rfl (lv_at hl 0 rfl) ?_
        refine lv_iload_n C.1 C.2.1 dX6_nothingBy_84 rfl (lv_at hl 3 rfl) ?_
        have hrc := (rc_some hp).1
        have hp := (rc_some hp).2
        refine w_cv (cells' := 0) (slots' := 0) X (fun _ e => run_V (As := [.int v5]) (c0 := 6) C X mX6_goesRow miX6_goesRow lX6_150 (by decide) rfl hrc (ct_X6_goesRow l K q1 v5 h8 e) (by decide) (by decide) rfl (by decide) rfl hl.1 dX6_nothingBy_85) (by decide) hp (fun h9 H locs X hp => ?_)
        refine lv_iload_n C.1 C.2.1 dX6_nothingBy_88 rfl (lv_at hl 2 rfl) ?_
        refine lv_aload_n C.1 C.2.1 dX6_nothingBy_89 rfl (lv_at hl 0 rfl) ?_
        have hrc := (rc_some hp).1
        have hp := (rc_some hp).2
        refine w_ci (cells' := 0) (slots' := 0) X (fun _ _ e => run_V (As := []) (c0 := 6) C X mX6_stateNow miX6_stateNow lX6_131 (by decide) rfl hrc (ct_X6_stateNow l K q1 h9 e) (by decide) (by decide) rfl (Nat.le_of_ble_eq_true rfl) rfl hl.1 dX6_nothingBy_90) (by decide) hp (fun v25 h10 H locs X hp => ?_)
        refine lv_if_ne (tgt := 100) C.1 C.2.1 dX6_nothingBy_93 (by decide) (fun c7 => ?_) (fun c7 => ?_)
        · have hp := if_n _ c7 hp
          refine lv_iconst (v := 0) C.1 C.2.1 dX6_nothingBy_100 (by decide) ?_
          refine lv_iadd C.1 C.2.1 dX6_nothingBy_101 ?_
          refine w_istn C (fun v => [(2, .int (v)), (0, .ref (K.1 + q1)), (1, .int v3), (3, .int v5), (4, .int v24)]) dX6_nothingBy_102 rfl hl (by decide) (fun _ => rfl) hp (fun v26 ls hl hp => ?_)
          refine lv_aload_n C.1 C.2.1 dX6_nothingBy_103 rfl (lv_at hl 1 rfl) ?_
          have hrc := (rc_some hp).1
          have hp := (rc_some hp).2
          refine w_cv (cells' := 0) (slots' := 0) X (fun _ e => run_V (As := []) (c0 := 6) C X mX6_zeroes miX6_zeroes lX6_174 (by decide) rfl hrc (ct_X6_zeroes l K q1 h10 e) (by decide) (by decide) rfl (by decide) rfl hl.1 dX6_nothingBy_104) (by decide) hp (fun h11 H locs X hp => ?_)
          refine w_inc (k := 3) C (fun v => [(3, .int (v)), (2, .int v26), (0, .ref (K.1 + q1)), (1, .int v3), (4, .int v24)]) dX6_nothingBy_107 hl rfl (y := (v5 + 1)) rfl (by decide) (fun _ => rfl) hp (fun v27 ls hl hp => ?_)
          refine lv_goto (tgt := 12) C.1 C.2.1 dX6_nothingBy_110 (by decide) ?_
          exact ih _ _ _ _ _ _ _ _ X (lv_sub hl [2, 3, 1, 0] rfl) hp
        · have hp := if_p _ c7 hp
          refine lv_iconst (v := 1) C.1 C.2.1 dX6_nothingBy_96 (by decide) ?_
          refine lv_goto (tgt := 101) C.1 C.2.1 dX6_nothingBy_97 (by decide) ?_
          refine lv_iadd C.1 C.2.1 dX6_nothingBy_101 ?_
          refine w_istn C (fun v => [(2, .int (v)), (0, .ref (K.1 + q1)), (1, .int v3), (3, .int v5), (4, .int v24)]) dX6_nothingBy_102 rfl hl (by decide) (fun _ => rfl) hp (fun v28 ls hl hp => ?_)
          refine lv_aload_n C.1 C.2.1 dX6_nothingBy_103 rfl (lv_at hl 1 rfl) ?_
          have hrc := (rc_some hp).1
          have hp := (rc_some hp).2
          refine w_cv (cells' := 0) (slots' := 0) X (fun _ e => run_V (As := []) (c0 := 6) C X mX6_zeroes miX6_zeroes lX6_174 (by decide) rfl hrc (ct_X6_zeroes l K q1 h10 e) (by decide) (by decide) rfl (by decide) rfl hl.1 dX6_nothingBy_104) (by decide) hp (fun h12 H locs X hp => ?_)
          refine w_inc (k := 3) C (fun v => [(3, .int (v)), (2, .int v28), (0, .ref (K.1 + q1)), (1, .int v3), (4, .int v24)]) dX6_nothingBy_107 hl rfl (y := (v5 + 1)) rfl (by decide) (fun _ => rfl) hp (fun v29 ls hl hp => ?_)
          refine lv_goto (tgt := 12) C.1 C.2.1 dX6_nothingBy_110 (by decide) ?_
          exact ih _ _ _ _ _ _ _ _ X (lv_sub hl [2, 3, 1, 0] rfl) hp
      · have hp := if_p _ c6 hp
        refine lv_goto (tgt := 107) C.1 C.2.1 dX6_nothingBy_80 (by decide) ?_
        refine w_inc (k := 3) C (fun v => [(3, .int (v)), (0, .ref (K.1 + q1)), (1, .int v3), (2, .int v4), (4, .int v24)]) dX6_nothingBy_107 hl rfl (y := (v5 + 1)) rfl (by decide) (fun _ => rfl) hp (fun v30 ls hl hp => ?_)
        refine lv_goto (tgt := 12) C.1 C.2.1 dX6_nothingBy_110 (by decide) ?_
        exact ih _ _ _ _ _ _ _ _ X (lv_sub hl [1, 2, 3, 0] rfl) hp

set_option maxHeartbeats 4000000 in
set_option maxRecDepth 100000 in
theorem ct_X6_nothingBy (l : Launch) (K : Kt) (p0 : Nat) (a1 : Int32) (h0 : Hp) {r : Int32} {h' : Hp} (hp : P_X6_nothingBy p0 a1 h0 = some (r, h')) : CT l K yX6_nothingBy cX6_nothingBy 6 (some FieldType.int) rmX6_nothingBy [.ref (K.1 + p0), .int a1] h0 (Qi K r h') := by
  refine ct_of (own := RX6) (by decide +kernel) rfl (Nat.le_of_ble_eq_true rfl) ?_
  intro p e s m args below meth c C X hr hlk hm ls hl
  have hl : lv_has ls 6 [(0, .ref (K.1 + p0)), (1, .int a1)] := hl
  unfold P_X6_nothingBy at hp
  refine lv_iconst (v := 0) C.1 C.2.1 dX6_nothingBy_0 (by decide) ?_
  refine w_istn C (fun v => [(2, .int (v)), (0, .ref (K.1 + p0)), (1, .int a1)]) dX6_nothingBy_1 rfl hl (by decide) (fun _ => rfl) hp (fun v1 ls hl hp => ?_)
  refine lv_aload_n C.1 C.2.1 dX6_nothingBy_2 rfl (lv_at hl 1 rfl) ?_
  have hrc := (rc_some hp).1
  have hp := (rc_some hp).2
  refine w_cv (cells' := 0) (slots' := 0) X (fun _ e => run_V (As := []) (c0 := 6) C X mX6_keeps miX6_keeps lX6_147 (by decide) rfl hrc (ct_X6_keeps l K p0 h0 e) (by decide) (by decide) rfl (by decide) rfl hl.1 dX6_nothingBy_3) (by decide) hp (fun h1 H locs X hp => ?_)
  refine lv_aload_n C.1 C.2.1 dX6_nothingBy_6 rfl (lv_at hl 1 rfl) ?_
  have hrc := (rc_some hp).1
  have hp := (rc_some hp).2
  refine w_cv (cells' := 0) (slots' := 0) X (fun _ e => run_V (As := []) (c0 := 6) C X mX6_zeroes miX6_zeroes lX6_174 (by decide) rfl hrc (ct_X6_zeroes l K p0 h1 e) (by decide) (by decide) rfl (by decide) rfl hl.1 dX6_nothingBy_7) (by decide) hp (fun h2 H locs X hp => ?_)
  refine lv_iconst (v := 0) C.1 C.2.1 dX6_nothingBy_10 (by decide) ?_
  refine w_istn C (fun v => [(3, .int (v)), (2, .int v1), (0, .ref (K.1 + p0)), (1, .int a1)]) dX6_nothingBy_11 rfl hl (by decide) (fun _ => rfl) hp (fun v2 ls hl hp => ?_)
  exact wl_X6_nothingBy_L12 C hr hlk _ _ _ _ _ _ _ _ _ X (lv_sub hl [2, 3, 1, 0] rfl) hp

abbrev rmX6_allPeople : Room := { frames := 0, cells := 0, slots := 0, locals := 0 }
def P_X6_allPeople (p0 : Nat) (h0 : Hp) : Option (Int32 × Hp) :=
    gr h0 p0 6 1 fun q1 =>
    al h0 q1 2 fun v1 =>
    some (((jshl 1 v1) - 1), h0)

set_option maxHeartbeats 4000000 in
set_option maxRecDepth 100000 in
theorem ct_X6_allPeople (l : Launch) (K : Kt) (p0 : Nat) (h0 : Hp) {r : Int32} {h' : Hp} (hp : P_X6_allPeople p0 h0 = some (r, h')) : CT l K yX6_allPeople cX6_allPeople 1 (some FieldType.int) rmX6_allPeople [.ref (K.1 + p0)] h0 (Qi K r h') := by
  refine ct_of (own := RX6) (by decide +kernel) rfl (Nat.le_of_ble_eq_true rfl) ?_
  intro p e s m args below meth c C X hr hlk hm ls hl
  have hl : lv_has ls 1 [(0, .ref (K.1 + p0))] := hl
  unfold P_X6_allPeople at hp
  refine lv_iconst (v := 1) C.1 C.2.1 dX6_allPeople_0 (by decide) ?_
  refine lv_aload_n C.1 C.2.1 dX6_allPeople_1 rfl (lv_at hl 0 rfl) ?_
  refine w_gr C X fX6_13 rfl dX6_allPeople_2 hp (fun q1 hp => ?_)
  refine lv_iconst (v := 2) C.1 C.2.1 dX6_allPeople_5 (by decide) ?_
  refine w_al C X dX6_allPeople_6 hp (fun v1 hp => ?_)
  refine w_shl C dX6_allPeople_7 ?_
  refine lv_iconst (v := 1) C.1 C.2.1 dX6_allPeople_8 (by decide) ?_
  refine lv_isub C.1 C.2.1 dX6_allPeople_9 ?_
  exact w_reti C X hr hlk (by decide) dX6_allPeople_10 hp

abbrev rmX6_nothing : Room := { frames := 5, cells := 0, slots := 0, locals := 117 }
def P_X6_nothing (p0 : Nat) (h0 : Hp) : Option (Int32 × Hp) :=
    rc h0 p0 6 <| ci (P_X6_allPeople p0 h0) fun v1 h1 =>
    rc h1 p0 6 <| ci (P_X6_nothingBy p0 v1 h1) fun v2 h2 =>
    some (v2, h2)

set_option maxHeartbeats 4000000 in
set_option maxRecDepth 100000 in
theorem ct_X6_nothing (l : Launch) (K : Kt) (p0 : Nat) (h0 : Hp) {r : Int32} {h' : Hp} (hp : P_X6_nothing p0 h0 = some (r, h')) : CT l K yX6_nothing cX6_nothing 1 (some FieldType.int) rmX6_nothing [.ref (K.1 + p0)] h0 (Qi K r h') := by
  refine ct_of (own := RX6) (by decide +kernel) rfl (Nat.le_of_ble_eq_true rfl) ?_
  intro p e s m args below meth c C X hr hlk hm ls hl
  have hl : lv_has ls 1 [(0, .ref (K.1 + p0))] := hl
  unfold P_X6_nothing at hp
  refine lv_aload_n C.1 C.2.1 dX6_nothing_0 rfl (lv_at hl 0 rfl) ?_
  refine lv_aload_n C.1 C.2.1 dX6_nothing_1 rfl (lv_at hl 0 rfl) ?_
  have hrc := (rc_some hp).1
  have hp := (rc_some hp).2
  refine w_ci (cells' := 0) (slots' := 0) X (fun _ _ e => run_V (As := []) (c0 := 6) C X mX6_allPeople miX6_allPeople lX6_177 (by decide) rfl hrc (ct_X6_allPeople l K p0 h0 e) (by decide) (by decide) rfl (Nat.le_of_ble_eq_true rfl) rfl hl.1 dX6_nothing_2) (by decide) hp (fun v1 h1 H locs X hp => ?_)
  have hrc := (rc_some hp).1
  have hp := (rc_some hp).2
  refine w_ci (cells' := 0) (slots' := 0) X (fun _ _ e => run_V (As := [.int v1]) (c0 := 6) C X mX6_nothingBy miX6_nothingBy lX6_180 (by decide) rfl hrc (ct_X6_nothingBy l K p0 v1 h1 e) (by decide) (by decide) rfl (by decide) rfl hl.1 dX6_nothing_5) (by decide) hp (fun v2 h2 H locs X hp => ?_)
  exact w_reti C X hr hlk (by decide) dX6_nothing_8 hp

abbrev rmX6_bits : Room := { frames := 0, cells := 0, slots := 0, locals := 0 }
def P_X6_bits_L4 : Nat → Int32 → Int32 → Hp → Option (Int32 × Hp)
  | 0, _, _, _ => none
  | n + 1, v3, v4, h1 =>
    if v4 ≤ 0 then (
    some (v3, h1))
    else (
    lt ((v3 + (v4 &&& 1)) : Int32) fun v5 =>
    lt ((jshr v4 1) : Int32) fun v6 =>
    P_X6_bits_L4 n v5 v6 h1)

def P_X6_bits (a0 : Int32) (h0 : Hp) : Option (Int32 × Hp) :=
    lt (0 : Int32) fun v1 =>
    lt (a0 : Int32) fun v2 =>
    P_X6_bits_L4 FU v1 v2 h0

set_option maxHeartbeats 4000000 in
set_option maxRecDepth 100000 in
theorem wl_X6_bits_L4 (C : CX K p m c cX6_bits 3 s args RX6) (hr : meth.sig.returnType = (some FieldType.int)) (hlk : meth.locks = false) {r : Int32} {h' : Hp} : ∀ (n : Nat) (v3 : Int32) (v4 : Int32) (h1 : Hp) (H : Heap) (locs : List Loc) (ls : Array Slot), HX K s.heap H locs h1 → lv_has ls 3 [(1, .int v3), (2, .int v4)] → P_X6_bits_L4 n v3 v4 h1 = some (r, h') → W p l e rmX6_bits s m args below meth c H locs 0 0 (MQ below (Qi K r h') args s rmX6_bits.cells rmX6_bits.slots (KA K)) (F0 m 4 ls []) := by
  intro n
  induction n with
  | zero =>
    intro  v3 v4 h1 H locs ls X hl hp
    cases hp
  | succ n ih =>
    intro  v3 v4 h1 H locs ls X hl hp
    unfold P_X6_bits_L4 at hp
    refine lv_iload_n C.1 C.2.1 dX6_bits_4 rfl (lv_at hl 1 rfl) ?_
    refine lv_if_le (tgt := 21) C.1 C.2.1 dX6_bits_5 (by decide) (fun c1 => ?_) (fun c1 => ?_)
    · have hp := if_p _ c1 hp
      refine lv_iload_n C.1 C.2.1 dX6_bits_21 rfl (lv_at hl 0 rfl) ?_
      exact w_reti C X hr hlk (by decide) dX6_bits_22 hp
    · have hp := if_n _ c1 hp
      refine lv_iload_n C.1 C.2.1 dX6_bits_8 rfl (lv_at hl 0 rfl) ?_
      refine lv_iload_n C.1 C.2.1 dX6_bits_9 rfl (lv_at hl 1 rfl) ?_
      refine lv_iconst (v := 1) C.1 C.2.1 dX6_bits_10 (by decide) ?_
      refine lv_iand C.1 C.2.1 dX6_bits_11 ?_
      refine lv_iadd C.1 C.2.1 dX6_bits_12 ?_
      refine w_istn C (fun v => [(1, .int (v)), (2, .int v4)]) dX6_bits_13 rfl hl (by decide) (fun _ => rfl) hp (fun v5 ls hl hp => ?_)
      refine lv_iload_n C.1 C.2.1 dX6_bits_14 rfl (lv_at hl 1 rfl) ?_
      refine lv_iconst (v := 1) C.1 C.2.1 dX6_bits_15 (by decide) ?_
      refine w_shr C dX6_bits_16 ?_
      refine w_istn C (fun v => [(2, .int (v)), (1, .int v5)]) dX6_bits_17 rfl hl (by decide) (fun _ => rfl) hp (fun v6 ls hl hp => ?_)
      refine lv_goto (tgt := 4) C.1 C.2.1 dX6_bits_18 (by decide) ?_
      exact ih _ _ _ _ _ _ X (lv_sub hl [1, 0] rfl) hp

set_option maxHeartbeats 4000000 in
set_option maxRecDepth 100000 in
theorem ct_X6_bits (l : Launch) (K : Kt) (a0 : Int32) (h0 : Hp) {r : Int32} {h' : Hp} (hp : P_X6_bits a0 h0 = some (r, h')) : CT l K yX6_bits cX6_bits 3 (some FieldType.int) rmX6_bits [.int a0] h0 (Qi K r h') := by
  refine ct_of (own := RX6) (by decide +kernel) rfl (Nat.le_of_ble_eq_true rfl) ?_
  intro p e s m args below meth c C X hr hlk hm ls hl
  have hl : lv_has ls 3 [(0, .int a0)] := hl
  unfold P_X6_bits at hp
  refine lv_iconst (v := 0) C.1 C.2.1 dX6_bits_0 (by decide) ?_
  refine w_istn C (fun v => [(1, .int (v)), (0, .int a0)]) dX6_bits_1 rfl hl (by decide) (fun _ => rfl) hp (fun v1 ls hl hp => ?_)
  refine lv_iload_n C.1 C.2.1 dX6_bits_2 rfl (lv_at hl 1 rfl) ?_
  refine w_istn C (fun v => [(2, .int (v)), (1, .int v1), (0, .int a0)]) dX6_bits_3 rfl hl (by decide) (fun _ => rfl) hp (fun v2 ls hl hp => ?_)
  exact wl_X6_bits_L4 C hr hlk _ _ _ _ _ _ _ X (lv_sub hl [1, 0] rfl) hp

abbrev rmX6_states : Room := { frames := 5, cells := 0, slots := 0, locals := 117 }
def P_X6_states (p0 : Nat) (h0 : Hp) : Option (Int32 × Hp) :=
    rc h0 p0 6 <| ci (P_X6_rows p0 h0) fun v1 h1 =>
    rc h1 p0 6 <| ci (P_X6_allPeople p0 h1) fun v2 h2 =>
    rc h2 p0 6 <| ci (P_X6_nothingBy p0 v2 h2) fun v3 h3 =>
    nz v3 <|
    some ((v1 / v3), h3)

set_option maxHeartbeats 4000000 in
set_option maxRecDepth 100000 in
theorem ct_X6_states (l : Launch) (K : Kt) (p0 : Nat) (h0 : Hp) {r : Int32} {h' : Hp} (hp : P_X6_states p0 h0 = some (r, h')) : CT l K yX6_states cX6_states 1 (some FieldType.int) rmX6_states [.ref (K.1 + p0)] h0 (Qi K r h') := by
  refine ct_of (own := RX6) (by decide +kernel) rfl (Nat.le_of_ble_eq_true rfl) ?_
  intro p e s m args below meth c C X hr hlk hm ls hl
  have hl : lv_has ls 1 [(0, .ref (K.1 + p0))] := hl
  unfold P_X6_states at hp
  refine lv_aload_n C.1 C.2.1 dX6_states_0 rfl (lv_at hl 0 rfl) ?_
  have hrc := (rc_some hp).1
  have hp := (rc_some hp).2
  refine w_ci (cells' := 0) (slots' := 0) X (fun _ _ e => run_V (As := []) (c0 := 6) C X mX6_rows miX6_rows lX6_156 (by decide) rfl hrc (ct_X6_rows l K p0 h0 e) (by decide) (by decide) rfl (by decide) rfl hl.1 dX6_states_1) (by decide) hp (fun v1 h1 H locs X hp => ?_)
  refine lv_aload_n C.1 C.2.1 dX6_states_4 rfl (lv_at hl 0 rfl) ?_
  refine lv_aload_n C.1 C.2.1 dX6_states_5 rfl (lv_at hl 0 rfl) ?_
  have hrc := (rc_some hp).1
  have hp := (rc_some hp).2
  refine w_ci (cells' := 0) (slots' := 0) X (fun _ _ e => run_V (As := []) (c0 := 6) C X mX6_allPeople miX6_allPeople lX6_177 (by decide) rfl hrc (ct_X6_allPeople l K p0 h1 e) (by decide) (by decide) rfl (Nat.le_of_ble_eq_true rfl) rfl hl.1 dX6_states_6) (by decide) hp (fun v2 h2 H locs X hp => ?_)
  have hrc := (rc_some hp).1
  have hp := (rc_some hp).2
  refine w_ci (cells' := 0) (slots' := 0) X (fun _ _ e => run_V (As := [.int v2]) (c0 := 6) C X mX6_nothingBy miX6_nothingBy lX6_180 (by decide) rfl hrc (ct_X6_nothingBy l K p0 v2 h2 e) (by decide) (by decide) rfl (Nat.le_of_ble_eq_true rfl) rfl hl.1 dX6_states_9) (by decide) hp (fun v3 h3 H locs X hp => ?_)
  have hz := (nz_some hp).1
  have hp := (nz_some hp).2
  refine lv_idiv C.1 C.2.1 dX6_states_12 hz ?_
  exact w_reti C X hr hlk (by decide) dX6_states_13 hp

abbrev rmX6_stuck : Room := { frames := 0, cells := 0, slots := 0, locals := 0 }
def P_X6_stuck_L4 : Nat → Nat → Int32 → Int32 → Hp → Option (Int32 × Hp)
  | 0, _, _, _, _ => none
  | n + 1, q1, v3, v4, h1 =>
    gr h1 q1 6 1 fun q2 =>
    al h1 q2 0 fun v5 =>
    if v5 ≤ v4 then (
    some (v3, h1))
    else (
    gr h1 q1 6 1 fun q3 =>
    al h1 q3 (28 + v4) fun v6 =>
    lt ((v3 + v6) : Int32) fun v7 =>
    lt ((v4 + 1) : Int32) fun v8 =>
    P_X6_stuck_L4 n q1 v7 v8 h1)

def P_X6_stuck (p0 : Nat) (h0 : Hp) : Option (Int32 × Hp) :=
    lt (0 : Int32) fun v1 =>
    lt (0 : Int32) fun v2 =>
    P_X6_stuck_L4 FU p0 v1 v2 h0

set_option maxHeartbeats 4000000 in
set_option maxRecDepth 100000 in
theorem wl_X6_stuck_L4 (C : CX K p m c cX6_stuck 3 s args RX6) (hr : meth.sig.returnType = (some FieldType.int)) (hlk : meth.locks = false) {r : Int32} {h' : Hp} : ∀ (n : Nat) (q1 : Nat) (v3 : Int32) (v4 : Int32) (h1 : Hp) (H : Heap) (locs : List Loc) (ls : Array Slot), HX K s.heap H locs h1 → lv_has ls 3 [(0, .ref (K.1 + q1)), (1, .int v3), (2, .int v4)] → P_X6_stuck_L4 n q1 v3 v4 h1 = some (r, h') → W p l e rmX6_stuck s m args below meth c H locs 0 0 (MQ below (Qi K r h') args s rmX6_stuck.cells rmX6_stuck.slots (KA K)) (F0 m 4 ls []) := by
  intro n
  induction n with
  | zero =>
    intro  q1 v3 v4 h1 H locs ls X hl hp
    cases hp
  | succ n ih =>
    intro  q1 v3 v4 h1 H locs ls X hl hp
    unfold P_X6_stuck_L4 at hp
    refine lv_iload_n C.1 C.2.1 dX6_stuck_4 rfl (lv_at hl 2 rfl) ?_
    refine lv_aload_n C.1 C.2.1 dX6_stuck_5 rfl (lv_at hl 0 rfl) ?_
    refine w_gr C X fX6_13 rfl dX6_stuck_6 hp (fun q2 hp => ?_)
    refine lv_iconst (v := 0) C.1 C.2.1 dX6_stuck_9 (by decide) ?_
    refine w_al C X dX6_stuck_10 hp (fun v5 hp => ?_)
    refine lv_icmp_ge (tgt := 32) C.1 C.2.1 dX6_stuck_11 (by decide) (fun c1 => ?_) (fun c1 => ?_)
    · have hp := if_p _ c1 hp
      refine lv_iload_n C.1 C.2.1 dX6_stuck_32 rfl (lv_at hl 1 rfl) ?_
      exact w_reti C X hr hlk (by decide) dX6_stuck_33 hp
    · have hp := if_n _ c1 hp
      refine lv_iload_n C.1 C.2.1 dX6_stuck_14 rfl (lv_at hl 1 rfl) ?_
      refine lv_aload_n C.1 C.2.1 dX6_stuck_15 rfl (lv_at hl 0 rfl) ?_
      refine w_gr C X fX6_13 rfl dX6_stuck_16 hp (fun q3 hp => ?_)
      refine lv_bipush (v := 28) C.1 C.2.1 dX6_stuck_19 (by decide) ?_
      refine lv_iload_n C.1 C.2.1 dX6_stuck_21 rfl (lv_at hl 2 rfl) ?_
      refine lv_iadd C.1 C.2.1 dX6_stuck_22 ?_
      refine w_al C X dX6_stuck_23 hp (fun v6 hp => ?_)
      refine lv_iadd C.1 C.2.1 dX6_stuck_24 ?_
      refine w_istn C (fun v => [(1, .int (v)), (0, .ref (K.1 + q1)), (2, .int v4)]) dX6_stuck_25 rfl hl (by decide) (fun _ => rfl) hp (fun v7 ls hl hp => ?_)
      refine w_inc (k := 2) C (fun v => [(2, .int (v)), (1, .int v7), (0, .ref (K.1 + q1))]) dX6_stuck_26 hl rfl (y := (v4 + 1)) rfl (by decide) (fun _ => rfl) hp (fun v8 ls hl hp => ?_)
      refine lv_goto (tgt := 4) C.1 C.2.1 dX6_stuck_29 (by decide) ?_
      exact ih _ _ _ _ _ _ _ X (lv_sub hl [2, 1, 0] rfl) hp

set_option maxHeartbeats 4000000 in
set_option maxRecDepth 100000 in
theorem ct_X6_stuck (l : Launch) (K : Kt) (p0 : Nat) (h0 : Hp) {r : Int32} {h' : Hp} (hp : P_X6_stuck p0 h0 = some (r, h')) : CT l K yX6_stuck cX6_stuck 3 (some FieldType.int) rmX6_stuck [.ref (K.1 + p0)] h0 (Qi K r h') := by
  refine ct_of (own := RX6) (by decide +kernel) rfl (Nat.le_of_ble_eq_true rfl) ?_
  intro p e s m args below meth c C X hr hlk hm ls hl
  have hl : lv_has ls 3 [(0, .ref (K.1 + p0))] := hl
  unfold P_X6_stuck at hp
  refine lv_iconst (v := 0) C.1 C.2.1 dX6_stuck_0 (by decide) ?_
  refine w_istn C (fun v => [(1, .int (v)), (0, .ref (K.1 + p0))]) dX6_stuck_1 rfl hl (by decide) (fun _ => rfl) hp (fun v1 ls hl hp => ?_)
  refine lv_iconst (v := 0) C.1 C.2.1 dX6_stuck_2 (by decide) ?_
  refine w_istn C (fun v => [(2, .int (v)), (1, .int v1), (0, .ref (K.1 + p0))]) dX6_stuck_3 rfl hl (by decide) (fun _ => rfl) hp (fun v2 ls hl hp => ?_)
  exact wl_X6_stuck_L4 C hr hlk _ _ _ _ _ _ _ _ X (lv_sub hl [2, 1, 0] rfl) hp

abbrev rmX6_keySet : Room := { frames := 5, cells := 0, slots := 0, locals := 117 }
def P_X6_keySet_L15 : Nat → Nat → Int32 → Int32 → Hp → Option (Int32 × Hp)
  | 0, _, _, _, _ => none
  | n + 1, q1, v4, v5, h2 =>
    rc h2 q1 6 <| ci (P_X6_allPeople q1 h2) fun v6 h3 =>
    if v6 < v5 then (
    some (v4, h3))
    else (
    if v4 < 0 then (
    ci (P_X6_bits v5 h3) fun v7 h4 =>
    gr h4 q1 6 1 fun q2 =>
    al h4 q2 0 fun v8 =>
    if v8 ≤ v7 then (
    ci (P_X6_bits v5 h4) fun v9 h5 =>
    rc h5 q1 6 <| ci (P_X6_power q1 v9 h5) fun v10 h6 =>
    rc h6 q1 6 <| ci (P_X6_nothingBy q1 v5 h6) fun v11 h7 =>
    nz v11 <|
    gr h7 q1 6 1 fun q3 =>
    al h7 q3 0 fun v12 =>
    rc h7 q1 6 <| ci (P_X6_power q1 v12 h7) fun v13 h8 =>
    if (v10 / v11) = v13 then (
    lt (v5 : Int32) fun v15 =>
    lt ((v5 + 1) : Int32) fun v16 =>
    P_X6_keySet_L15 n q1 v15 v16 h8)
    else (
    lt ((v5 + 1) : Int32) fun v14 =>
    P_X6_keySet_L15 n q1 v4 v14 h8))
    else (
    lt ((v5 + 1) : Int32) fun v17 =>
    P_X6_keySet_L15 n q1 v4 v17 h4))
    else (
    ci (P_X6_bits v5 h3) fun v18 h9 =>
    ci (P_X6_bits v4 h9) fun v19 h10 =>
    if v19 ≤ v18 then (
    lt ((v5 + 1) : Int32) fun v20 =>
    P_X6_keySet_L15 n q1 v4 v20 h10)
    else (
    ci (P_X6_bits v5 h10) fun v21 h11 =>
    gr h11 q1 6 1 fun q4 =>
    al h11 q4 0 fun v22 =>
    if v22 ≤ v21 then (
    ci (P_X6_bits v5 h11) fun v23 h12 =>
    rc h12 q1 6 <| ci (P_X6_power q1 v23 h12) fun v24 h13 =>
    rc h13 q1 6 <| ci (P_X6_nothingBy q1 v5 h13) fun v25 h14 =>
    nz v25 <|
    gr h14 q1 6 1 fun q5 =>
    al h14 q5 0 fun v26 =>
    rc h14 q1 6 <| ci (P_X6_power q1 v26 h14) fun v27 h15 =>
    if (v24 / v25) = v27 then (
    lt (v5 : Int32) fun v29 =>
    lt ((v5 + 1) : Int32) fun v30 =>
    P_X6_keySet_L15 n q1 v29 v30 h15)
    else (
    lt ((v5 + 1) : Int32) fun v28 =>
    P_X6_keySet_L15 n q1 v4 v28 h15))
    else (
    lt ((v5 + 1) : Int32) fun v31 =>
    P_X6_keySet_L15 n q1 v4 v31 h11))))

def P_X6_keySet (p0 : Nat) (h0 : Hp) : Option (Int32 × Hp) :=
    lt ((-9) : Int32) fun v1 =>
    rc h0 p0 6 <| ci (P_X6_stuck p0 h0) fun v2 h1 =>
    if v2 ≤ 0 then (
    lt (0 : Int32) fun v3 =>
    P_X6_keySet_L15 FU p0 v1 v3 h1)
    else (
    some ((-9), h1))

set_option maxHeartbeats 4000000 in
set_option maxRecDepth 100000 in
theorem wl_X6_keySet_L15 (C : CX K p m c cX6_keySet 3 s args RX6) (hr : meth.sig.returnType = (some FieldType.int)) (hlk : meth.locks = false) {r : Int32} {h' : Hp} : ∀ (n : Nat) (q1 : Nat) (v4 : Int32) (v5 : Int32) (h2 : Hp) (H : Heap) (locs : List Loc) (ls : Array Slot), HX K s.heap H locs h2 → lv_has ls 3 [(0, .ref (K.1 + q1)), (1, .int v4), (2, .int v5)] → P_X6_keySet_L15 n q1 v4 v5 h2 = some (r, h') → W p l e rmX6_keySet s m args below meth c H locs 0 0 (MQ below (Qi K r h') args s rmX6_keySet.cells rmX6_keySet.slots (KA K)) (F0 m 15 ls []) := by
  intro n
  induction n with
  | zero =>
    intro  q1 v4 v5 h2 H locs ls X hl hp
    cases hp
  | succ n ih =>
    intro  q1 v4 v5 h2 H locs ls X hl hp
    unfold P_X6_keySet_L15 at hp
    refine lv_iload_n C.1 C.2.1 dX6_keySet_15 rfl (lv_at hl 2 rfl) ?_
    refine lv_aload_n C.1 C.2.1 dX6_keySet_16 rfl (lv_at hl 0 rfl) ?_
    have hrc := (rc_some hp).1
    have hp := (rc_some hp).2
    refine w_ci (cells' := 0) (slots' := 0) X (fun _ _ e => run_V (As := []) (c0 := 6) C X mX6_allPeople miX6_allPeople lX6_177 (by decide) rfl hrc (ct_X6_allPeople l K q1 h2 e) (by decide) (by decide) rfl (Nat.le_of_ble_eq_true rfl) rfl hl.1 dX6_keySet_17) (by decide) hp (fun v6 h3 H locs X hp => ?_)
    refine lv_icmp_gt (tgt := 89) C.1 C.2.1 dX6_keySet_20 (by decide) (fun c2 => ?_) (fun c2 => ?_)
    · have hp := if_p _ c2 hp
      refine lv_iload_n C.1 C.2.1 dX6_keySet_89 rfl (lv_at hl 1 rfl) ?_
      exact w_reti C X hr hlk (by decide) dX6_keySet_90 hp
    · have hp := if_n _ c2 hp
      refine lv_iload_n C.1 C.2.1 dX6_keySet_23 rfl (lv_at hl 1 rfl) ?_
      refine lv_if_lt (tgt := 38) C.1 C.2.1 dX6_keySet_24 (by decide) (fun c3 => ?_) (fun c3 => ?_)
      · have hp := if_p _ c3 hp
        refine lv_iload_n C.1 C.2.1 dX6_keySet_38 rfl (lv_at hl 2 rfl) ?_
        refine w_ci (cells' := 0) (slots' := 0) X (fun _ _ e => run_S (As := [.int v5]) C X mX6_bits msX6_bits lX6_186 (ct_X6_bits l K v5 h3 e) (by decide) (by decide) rfl (by decide) rfl hl.1 dX6_keySet_39) (by decide) hp (fun v7 h4 H locs X hp => ?_)
        refine lv_aload_n C.1 C.2.1 dX6_keySet_42 rfl (lv_at hl 0 rfl) ?_
        refine w_gr C X fX6_13 rfl dX6_keySet_43 hp (fun q2 hp => ?_)
        refine lv_iconst (v := 0) C.1 C.2.1 dX6_keySet_46 (by decide) ?_
        refine w_al C X dX6_keySet_47 hp (fun v8 hp => ?_)
        refine lv_icmp_ge (tgt := 54) C.1 C.2.1 dX6_keySet_48 (by decide) (fun c4 => ?_) (fun c4 => ?_)
        · have hp := if_p _ c4 hp
          refine lv_aload_n C.1 C.2.1 dX6_keySet_54 rfl (lv_at hl 0 rfl) ?_
          refine lv_iload_n C.1 C.2.1 dX6_keySet_55 rfl (lv_at hl 2 rfl) ?_
          refine w_ci (cells' := 0) (slots' := 0) X (fun _ _ e => run_S (As := [.int v5]) C X mX6_bits msX6_bits lX6_186 (ct_X6_bits l K v5 h4 e) (by decide) (by decide) rfl (Nat.le_of_ble_eq_true rfl) rfl hl.1 dX6_keySet_56) (by decide) hp (fun v9 h5 H locs X hp => ?_)
          have hrc := (rc_some hp).1
          have hp := (rc_some hp).2
          refine w_ci (cells' := 0) (slots' := 0) X (fun _ _ e => run_V (As := [.int v9]) (c0 := 6) C X mX6_power miX6_power lX6_137 (by decide) rfl hrc (ct_X6_power l K q1 v9 h5 e) (by decide) (by decide) rfl (by decide) rfl hl.1 dX6_keySet_59) (by decide) hp (fun v10 h6 H locs X hp => ?_)
          refine lv_aload_n C.1 C.2.1 dX6_keySet_62 rfl (lv_at hl 0 rfl) ?_
          refine lv_iload_n C.1 C.2.1 dX6_keySet_63 rfl (lv_at hl 2 rfl) ?_
          have hrc := (rc_some hp).1
          have hp := (rc_some hp).2
          refine w_ci (cells' := 0) (slots' := 0) X (fun _ _ e => run_V (As := [.int v5]) (c0 := 6) C X mX6_nothingBy miX6_nothingBy lX6_180 (by decide) rfl hrc (ct_X6_nothingBy l K q1 v5 h6 e) (by decide) (by decide) rfl (Nat.le_of_ble_eq_true rfl) rfl hl.1 dX6_keySet_64) (by decide) hp (fun v11 h7 H locs X hp => ?_)
          have hz := (nz_some hp).1
          have hp := (nz_some hp).2
          refine lv_idiv C.1 C.2.1 dX6_keySet_67 hz ?_
          refine lv_aload_n C.1 C.2.1 dX6_keySet_68 rfl (lv_at hl 0 rfl) ?_
          refine lv_aload_n C.1 C.2.1 dX6_keySet_69 rfl (lv_at hl 0 rfl) ?_
          refine w_gr C X fX6_13 rfl dX6_keySet_70 hp (fun q3 hp => ?_)
          refine lv_iconst (v := 0) C.1 C.2.1 dX6_keySet_73 (by decide) ?_
          refine w_al C X dX6_keySet_74 hp (fun v12 hp => ?_)
          have hrc := (rc_some hp).1
          have hp := (rc_some hp).2
          refine w_ci (cells' := 0) (slots' := 0) X (fun _ _ e => run_V (As := [.int v12]) (c0 := 6) C X mX6_power miX6_power lX6_137 (by decide) rfl hrc (ct_X6_power l K q1 v12 h7 e) (by decide) (by decide) rfl (Nat.le_of_ble_eq_true rfl) rfl hl.1 dX6_keySet_75) (by decide) hp (fun v13 h8 H locs X hp => ?_)
          refine lv_icmp_ne (tgt := 83) C.1 C.2.1 dX6_keySet_78 (by decide) (fun c5 => ?_) (fun c5 => ?_)
          · have hp := if_n _ c5 hp
            refine w_inc (k := 2) C (fun v => [(2, .int (v)), (0, .ref (K.1 + q1)), (1, .int v4)]) dX6_keySet_83 hl rfl (y := (v5 + 1)) rfl (by decide) (fun _ => rfl) hp (fun v14 ls hl hp => ?_)
            refine lv_goto (tgt := 15) C.1 C.2.1 dX6_keySet_86 (by decide) ?_
            exact ih _ _ _ _ _ _ _ X (lv_sub hl [1, 2, 0] rfl) hp
          · have hp := if_p _ c5 hp
            refine lv_iload_n C.1 C.2.1 dX6_keySet_81 rfl (lv_at hl 2 rfl) ?_
            refine w_istn C (fun v => [(1, .int (v)), (0, .ref (K.1 + q1)), (2, .int v5)]) dX6_keySet_82 rfl hl (by decide) (fun _ => rfl) hp (fun v15 ls hl hp => ?_)
            refine w_inc (k := 2) C (fun v => [(2, .int (v)), (1, .int v15), (0, .ref (K.1 + q1))]) dX6_keySet_83 hl rfl (y := (v5 + 1)) rfl (by decide) (fun _ => rfl) hp (fun v16 ls hl hp => ?_)
            refine lv_goto (tgt := 15) C.1 C.2.1 dX6_keySet_86 (by decide) ?_
            exact ih _ _ _ _ _ _ _ X (lv_sub hl [2, 1, 0] rfl) hp
        · have hp := if_n _ c4 hp
          refine lv_goto (tgt := 83) C.1 C.2.1 dX6_keySet_51 (by decide) ?_
          refine w_inc (k := 2) C (fun v => [(2, .int (v)), (0, .ref (K.1 + q1)), (1, .int v4)]) dX6_keySet_83 hl rfl (y := (v5 + 1)) rfl (by decide) (fun _ => rfl) hp (fun v17 ls hl hp => ?_)
          refine lv_goto (tgt := 15) C.1 C.2.1 dX6_keySet_86 (by decide) ?_
          exact ih _ _ _ _ _ _ _ X (lv_sub hl [1, 2, 0] rfl) hp
      · have hp := if_n _ c3 hp
        refine lv_iload_n C.1 C.2.1 dX6_keySet_27 rfl (lv_at hl 2 rfl) ?_
        refine w_ci (cells' := 0) (slots' := 0) X (fun _ _ e => run_S (As := [.int v5]) C X mX6_bits msX6_bits lX6_186 (ct_X6_bits l K v5 h3 e) (by decide) (by decide) rfl (by decide) rfl hl.1 dX6_keySet_28) (by decide) hp (fun v18 h9 H locs X hp => ?_)
        refine lv_iload_n C.1 C.2.1 dX6_keySet_31 rfl (lv_at hl 1 rfl) ?_
        refine w_ci (cells' := 0) (slots' := 0) X (fun _ _ e => run_S (As := [.int v4]) C X mX6_bits msX6_bits lX6_186 (ct_X6_bits l K v4 h9 e) (by decide) (by decide) rfl (Nat.le_of_ble_eq_true rfl) rfl hl.1 dX6_keySet_32) (by decide) hp (fun v19 h10 H locs X hp => ?_)
        refine lv_icmp_ge (tgt := 83) C.1 C.2.1 dX6_keySet_35 (by decide) (fun c6 => ?_) (fun c6 => ?_)
        · have hp := if_p _ c6 hp
          refine w_inc (k := 2) C (fun v => [(2, .int (v)), (0, .ref (K.1 + q1)), (1, .int v4)]) dX6_keySet_83 hl rfl (y := (v5 + 1)) rfl (by decide) (fun _ => rfl) hp (fun v20 ls hl hp => ?_)
          refine lv_goto (tgt := 15) C.1 C.2.1 dX6_keySet_86 (by decide) ?_
          exact ih _ _ _ _ _ _ _ X (lv_sub hl [1, 2, 0] rfl) hp
        · have hp := if_n _ c6 hp
          refine lv_iload_n C.1 C.2.1 dX6_keySet_38 rfl (lv_at hl 2 rfl) ?_
          refine w_ci (cells' := 0) (slots' := 0) X (fun _ _ e => run_S (As := [.int v5]) C X mX6_bits msX6_bits lX6_186 (ct_X6_bits l K v5 h10 e) (by decide) (by decide) rfl (by decide) rfl hl.1 dX6_keySet_39) (by decide) hp (fun v21 h11 H locs X hp => ?_)
          refine lv_aload_n C.1 C.2.1 dX6_keySet_42 rfl (lv_at hl 0 rfl) ?_
          refine w_gr C X fX6_13 rfl dX6_keySet_43 hp (fun q4 hp => ?_)
          refine lv_iconst (v := 0) C.1 C.2.1 dX6_keySet_46 (by decide) ?_
          refine w_al C X dX6_keySet_47 hp (fun v22 hp => ?_)
          refine lv_icmp_ge (tgt := 54) C.1 C.2.1 dX6_keySet_48 (by decide) (fun c7 => ?_) (fun c7 => ?_)
          · have hp := if_p _ c7 hp
            refine lv_aload_n C.1 C.2.1 dX6_keySet_54 rfl (lv_at hl 0 rfl) ?_
            refine lv_iload_n C.1 C.2.1 dX6_keySet_55 rfl (lv_at hl 2 rfl) ?_
            refine w_ci (cells' := 0) (slots' := 0) X (fun _ _ e => run_S (As := [.int v5]) C X mX6_bits msX6_bits lX6_186 (ct_X6_bits l K v5 h11 e) (by decide) (by decide) rfl (Nat.le_of_ble_eq_true rfl) rfl hl.1 dX6_keySet_56) (by decide) hp (fun v23 h12 H locs X hp => ?_)
            have hrc := (rc_some hp).1
            have hp := (rc_some hp).2
            refine w_ci (cells' := 0) (slots' := 0) X (fun _ _ e => run_V (As := [.int v23]) (c0 := 6) C X mX6_power miX6_power lX6_137 (by decide) rfl hrc (ct_X6_power l K q1 v23 h12 e) (by decide) (by decide) rfl (by decide) rfl hl.1 dX6_keySet_59) (by decide) hp (fun v24 h13 H locs X hp => ?_)
            refine lv_aload_n C.1 C.2.1 dX6_keySet_62 rfl (lv_at hl 0 rfl) ?_
            refine lv_iload_n C.1 C.2.1 dX6_keySet_63 rfl (lv_at hl 2 rfl) ?_
            have hrc := (rc_some hp).1
            have hp := (rc_some hp).2
            refine w_ci (cells' := 0) (slots' := 0) X (fun _ _ e => run_V (As := [.int v5]) (c0 := 6) C X mX6_nothingBy miX6_nothingBy lX6_180 (by decide) rfl hrc (ct_X6_nothingBy l K q1 v5 h13 e) (by decide) (by decide) rfl (Nat.le_of_ble_eq_true rfl) rfl hl.1 dX6_keySet_64) (by decide) hp (fun v25 h14 H locs X hp => ?_)
            have hz := (nz_some hp).1
            have hp := (nz_some hp).2
            refine lv_idiv C.1 C.2.1 dX6_keySet_67 hz ?_
            refine lv_aload_n C.1 C.2.1 dX6_keySet_68 rfl (lv_at hl 0 rfl) ?_
            refine lv_aload_n C.1 C.2.1 dX6_keySet_69 rfl (lv_at hl 0 rfl) ?_
            refine w_gr C X fX6_13 rfl dX6_keySet_70 hp (fun q5 hp => ?_)
            refine lv_iconst (v := 0) C.1 C.2.1 dX6_keySet_73 (by decide) ?_
            refine w_al C X dX6_keySet_74 hp (fun v26 hp => ?_)
            have hrc := (rc_some hp).1
            have hp := (rc_some hp).2
            refine w_ci (cells' := 0) (slots' := 0) X (fun _ _ e => run_V (As := [.int v26]) (c0 := 6) C X mX6_power miX6_power lX6_137 (by decide) rfl hrc (ct_X6_power l K q1 v26 h14 e) (by decide) (by decide) rfl (Nat.le_of_ble_eq_true rfl) rfl hl.1 dX6_keySet_75) (by decide) hp (fun v27 h15 H locs X hp => ?_)
            refine lv_icmp_ne (tgt := 83) C.1 C.2.1 dX6_keySet_78 (by decide) (fun c8 => ?_) (fun c8 => ?_)
            · have hp := if_n _ c8 hp
              refine w_inc (k := 2) C (fun v => [(2, .int (v)), (0, .ref (K.1 + q1)), (1, .int v4)]) dX6_keySet_83 hl rfl (y := (v5 + 1)) rfl (by decide) (fun _ => rfl) hp (fun v28 ls hl hp => ?_)
              refine lv_goto (tgt := 15) C.1 C.2.1 dX6_keySet_86 (by decide) ?_
              exact ih _ _ _ _ _ _ _ X (lv_sub hl [1, 2, 0] rfl) hp
            · have hp := if_p _ c8 hp
              refine lv_iload_n C.1 C.2.1 dX6_keySet_81 rfl (lv_at hl 2 rfl) ?_
              refine w_istn C (fun v => [(1, .int (v)), (0, .ref (K.1 + q1)), (2, .int v5)]) dX6_keySet_82 rfl hl (by decide) (fun _ => rfl) hp (fun v29 ls hl hp => ?_)
              refine w_inc (k := 2) C (fun v => [(2, .int (v)), (1, .int v29), (0, .ref (K.1 + q1))]) dX6_keySet_83 hl rfl (y := (v5 + 1)) rfl (by decide) (fun _ => rfl) hp (fun v30 ls hl hp => ?_)
              refine lv_goto (tgt := 15) C.1 C.2.1 dX6_keySet_86 (by decide) ?_
              exact ih _ _ _ _ _ _ _ X (lv_sub hl [2, 1, 0] rfl) hp
          · have hp := if_n _ c7 hp
            refine lv_goto (tgt := 83) C.1 C.2.1 dX6_keySet_51 (by decide) ?_
            refine w_inc (k := 2) C (fun v => [(2, .int (v)), (0, .ref (K.1 + q1)), (1, .int v4)]) dX6_keySet_83 hl rfl (y := (v5 + 1)) rfl (by decide) (fun _ => rfl) hp (fun v31 ls hl hp => ?_)
            refine lv_goto (tgt := 15) C.1 C.2.1 dX6_keySet_86 (by decide) ?_
            exact ih _ _ _ _ _ _ _ X (lv_sub hl [1, 2, 0] rfl) hp

set_option maxHeartbeats 4000000 in
set_option maxRecDepth 100000 in
theorem ct_X6_keySet (l : Launch) (K : Kt) (p0 : Nat) (h0 : Hp) {r : Int32} {h' : Hp} (hp : P_X6_keySet p0 h0 = some (r, h')) : CT l K yX6_keySet cX6_keySet 3 (some FieldType.int) rmX6_keySet [.ref (K.1 + p0)] h0 (Qi K r h') := by
  refine ct_of (own := RX6) (by decide +kernel) rfl (Nat.le_of_ble_eq_true rfl) ?_
  intro p e s m args below meth c C X hr hlk hm ls hl
  have hl : lv_has ls 3 [(0, .ref (K.1 + p0))] := hl
  unfold P_X6_keySet at hp
  refine lv_bipush (v := -9) C.1 C.2.1 dX6_keySet_0 (by decide) ?_
  refine w_istn C (fun v => [(1, .int (v)), (0, .ref (K.1 + p0))]) dX6_keySet_2 rfl hl (by decide) (fun _ => rfl) hp (fun v1 ls hl hp => ?_)
  refine lv_aload_n C.1 C.2.1 dX6_keySet_3 rfl (lv_at hl 1 rfl) ?_
  have hrc := (rc_some hp).1
  have hp := (rc_some hp).2
  refine w_ci (cells' := 0) (slots' := 0) X (fun _ _ e => run_V (As := []) (c0 := 6) C X mX6_stuck miX6_stuck lX6_183 (by decide) rfl hrc (ct_X6_stuck l K p0 h0 e) (by decide) (by decide) rfl (by decide) rfl hl.1 dX6_keySet_4) (by decide) hp (fun v2 h1 H locs X hp => ?_)
  refine lv_if_le (tgt := 13) C.1 C.2.1 dX6_keySet_7 (by decide) (fun c1 => ?_) (fun c1 => ?_)
  · have hp := if_p _ c1 hp
    refine lv_iconst (v := 0) C.1 C.2.1 dX6_keySet_13 (by decide) ?_
    refine w_istn C (fun v => [(2, .int (v)), (1, .int v1), (0, .ref (K.1 + p0))]) dX6_keySet_14 rfl hl (by decide) (fun _ => rfl) hp (fun v3 ls hl hp => ?_)
    exact wl_X6_keySet_L15 C hr hlk _ _ _ _ _ _ _ _ X (lv_sub hl [2, 1, 0] rfl) hp
  · have hp := if_n _ c1 hp
    refine lv_bipush (v := -9) C.1 C.2.1 dX6_keySet_10 (by decide) ?_
    exact w_reti C X hr hlk (by decide) dX6_keySet_12 hp

abbrev rmX6_keys : Room := { frames := 6, cells := 0, slots := 0, locals := 139 }
def P_X6_keys (p0 : Nat) (a1 : Int32) (h0 : Hp) : Option (Int32 × Hp) :=
    ci (P_X6_isIn a1 2 h0) fun v1 h1 =>
    if v1 = 0 then (
    rc h1 p0 6 <| ci (P_X6_refuse p0 (-2) h1) fun v5 h4 =>
    some (v5, h4))
    else (
    rc h1 p0 6 <| ci (P_X6_keySet p0 h1) fun v2 h2 =>
    lt (v2 : Int32) fun v3 =>
    if v3 < 0 then (
    some (v3, h2))
    else (
    if a1 = 1 then (
    some (v3, h2))
    else (
    ci (P_X6_bits v3 h2) fun v4 h3 =>
    some (v4, h3))))

set_option maxHeartbeats 4000000 in
set_option maxRecDepth 100000 in
theorem ct_X6_keys (l : Launch) (K : Kt) (p0 : Nat) (a1 : Int32) (h0 : Hp) {r : Int32} {h' : Hp} (hp : P_X6_keys p0 a1 h0 = some (r, h')) : CT l K yX6_keys cX6_keys 3 (some FieldType.int) rmX6_keys [.ref (K.1 + p0), .int a1] h0 (Qi K r h') := by
  refine ct_of (own := RX6) (by decide +kernel) rfl (Nat.le_of_ble_eq_true rfl) ?_
  intro p e s m args below meth c C X hr hlk hm ls hl
  have hl : lv_has ls 3 [(0, .ref (K.1 + p0)), (1, .int a1)] := hl
  unfold P_X6_keys at hp
  refine lv_iload_n C.1 C.2.1 dX6_keys_0 rfl (lv_at hl 1 rfl) ?_
  refine lv_iconst (v := 2) C.1 C.2.1 dX6_keys_1 (by decide) ?_
  refine w_ci (cells' := 0) (slots' := 0) X (fun _ _ e => run_S (As := [.int a1, .int 2]) C X mX6_isIn msX6_isIn lX6_40 (ct_X6_isIn l K a1 2 h0 e) (by decide) (by decide) rfl (by decide) rfl hl.1 dX6_keys_2) (by decide) hp (fun v1 h1 H locs X hp => ?_)
  refine lv_if_ne (tgt := 15) C.1 C.2.1 dX6_keys_5 (by decide) (fun c1 => ?_) (fun c1 => ?_)
  · have hp := if_n _ c1 hp
    refine lv_aload_n C.1 C.2.1 dX6_keys_15 rfl (lv_at hl 0 rfl) ?_
    have hrc := (rc_some hp).1
    have hp := (rc_some hp).2
    refine w_ci (cells' := 0) (slots' := 0) X (fun _ _ e => run_V (As := []) (c0 := 6) C X mX6_keySet miX6_keySet lX6_189 (by decide) rfl hrc (ct_X6_keySet l K p0 h1 e) (by decide) (by decide) rfl (by decide) rfl hl.1 dX6_keys_16) (by decide) hp (fun v2 h2 H locs X hp => ?_)
    refine w_istn C (fun v => [(2, .int (v)), (0, .ref (K.1 + p0)), (1, .int a1)]) dX6_keys_19 rfl hl (by decide) (fun _ => rfl) hp (fun v3 ls hl hp => ?_)
    refine lv_iload_n C.1 C.2.1 dX6_keys_20 rfl (lv_at hl 0 rfl) ?_
    refine lv_if_lt (tgt := 29) C.1 C.2.1 dX6_keys_21 (by decide) (fun c2 => ?_) (fun c2 => ?_)
    · have hp := if_p _ c2 hp
      refine lv_iload_n C.1 C.2.1 dX6_keys_29 rfl (lv_at hl 0 rfl) ?_
      refine lv_goto (tgt := 37) C.1 C.2.1 dX6_keys_30 (by decide) ?_
      exact w_reti C X hr hlk (by decide) dX6_keys_37 hp
    · have hp := if_n _ c2 hp
      refine lv_iload_n C.1 C.2.1 dX6_keys_24 rfl (lv_at hl 2 rfl) ?_
      refine lv_iconst (v := 1) C.1 C.2.1 dX6_keys_25 (by decide) ?_
      refine lv_icmp_ne (tgt := 33) C.1 C.2.1 dX6_keys_26 (by decide) (fun c3 => ?_) (fun c3 => ?_)
      · have hp := if_n _ c3 hp
        refine lv_iload_n C.1 C.2.1 dX6_keys_33 rfl (lv_at hl 0 rfl) ?_
        refine w_ci (cells' := 0) (slots' := 0) X (fun _ _ e => run_S (As := [.int v3]) C X mX6_bits msX6_bits lX6_186 (ct_X6_bits l K v3 h2 e) (by decide) (by decide) rfl (by decide) rfl hl.1 dX6_keys_34) (by decide) hp (fun v4 h3 H locs X hp => ?_)
        exact w_reti C X hr hlk (by decide) dX6_keys_37 hp
      · have hp := if_p _ c3 hp
        refine lv_iload_n C.1 C.2.1 dX6_keys_29 rfl (lv_at hl 0 rfl) ?_
        refine lv_goto (tgt := 37) C.1 C.2.1 dX6_keys_30 (by decide) ?_
        exact w_reti C X hr hlk (by decide) dX6_keys_37 hp
  · have hp := if_p _ c1 hp
    refine lv_aload_n C.1 C.2.1 dX6_keys_8 rfl (lv_at hl 0 rfl) ?_
    refine lv_bipush (v := -2) C.1 C.2.1 dX6_keys_9 (by decide) ?_
    have hrc := (rc_some hp).1
    have hp := (rc_some hp).2
    refine w_ci (cells' := 0) (slots' := 0) X (fun _ _ e => run_V (As := [.int (-2)]) (c0 := 6) C X mX6_refuse miX6_refuse lX6_52 (by decide) rfl hrc (ct_X6_refuse l K p0 (-2) h1 e) (by decide) (by decide) rfl (by decide) rfl hl.1 dX6_keys_11) (by decide) hp (fun v5 h4 H locs X hp => ?_)
    exact w_reti C X hr hlk (by decide) dX6_keys_14 hp

abbrev rmX6_findsBeen : Room := { frames := 4, cells := 0, slots := 0, locals := 92 }
def P_X6_findsBeen_L64 : Nat → Nat → Int32 → Int32 → Int32 → Hp → (Hp → Option (Hp)) → Option (Hp)
  | 0, _, _, _, _, _, _ => none
  | n + 1, q2, v11, v12, v13, h13, kont =>
    gr h13 q2 6 1 fun q3 =>
    al h13 q3 2 fun v14 =>
    if v14 ≤ v13 then (
    kont h13)
    else (
    rc h13 q2 6 <| ci (P_X6_timesOf q2 v12 v13 h13) fun v15 h14 =>
    if v15 = 0 then (
    gi h14 q2 6 14 fun v17 =>
    pi h14 q2 6 14 (v17 &&& ((jshl 1 v13) ^^^ (-1))) fun h15 =>
    lt ((v13 + 1) : Int32) fun v18 =>
    P_X6_findsBeen_L64 n q2 v11 v12 v18 h15 kont)
    else (
    lt ((v13 + 1) : Int32) fun v16 =>
    P_X6_findsBeen_L64 n q2 v11 v12 v16 h14 kont))

def P_X6_findsBeen_L24 : Nat → Nat → Int32 → Int32 → Hp → Option (Hp)
  | 0, _, _, _, _ => none
  | n + 1, q1, v5, v6, h6 =>
    rc h6 q1 6 <| ci (P_X6_rows q1 h6) fun v7 h7 =>
    if v7 ≤ v6 then (
    rc h7 q1 6 <| cv (P_X6_putsBack q1 h7) fun h8 =>
    some h8)
    else (
    rc h7 q1 6 <| cv (P_X6_zeroes q1 h7) fun h9 =>
    rc h9 q1 6 <| cv (P_X6_goesRow q1 v6 h9) fun h10 =>
    rc h10 q1 6 <| ci (P_X6_stateNow q1 h10) fun v8 h11 =>
    if v8 = v5 then (
    gi h11 q1 6 13 fun v9 =>
    pi h11 q1 6 13 (v9 + 1) fun h12 =>
    lt (0 : Int32) fun v10 =>
    P_X6_findsBeen_L64 FU q1 v5 v6 v10 h12 fun h16 =>
    lt ((v6 + 1) : Int32) fun v19 =>
    P_X6_findsBeen_L24 n q1 v5 v19 h16)
    else (
    lt ((v6 + 1) : Int32) fun v20 =>
    P_X6_findsBeen_L24 n q1 v5 v20 h11))

def P_X6_findsBeen (p0 : Nat) (h0 : Hp) : Option (Hp) :=
    rc h0 p0 6 <| ci (P_X6_stateNow p0 h0) fun v1 h1 =>
    lt (v1 : Int32) fun v2 =>
    pi h1 p0 6 13 0 fun h2 =>
    rc h2 p0 6 <| ci (P_X6_allPeople p0 h2) fun v3 h3 =>
    pi h3 p0 6 14 v3 fun h4 =>
    rc h4 p0 6 <| cv (P_X6_keeps p0 h4) fun h5 =>
    lt (0 : Int32) fun v4 =>
    P_X6_findsBeen_L24 FU p0 v2 v4 h5

set_option maxHeartbeats 4000000 in
set_option maxRecDepth 100000 in
theorem wl_X6_findsBeen_L64 (C : CX K p m c cX6_findsBeen 4 s args RX6) (hr : meth.sig.returnType = none) (hlk : meth.locks = false) {h' : Hp} : ∀ (n : Nat) (q2 : Nat) (v11 : Int32) (v12 : Int32) (v13 : Int32) (h13 : Hp) (kont : Hp → Option (Hp)) (H : Heap) (locs : List Loc) (ls : Array Slot), HX K s.heap H locs h13 → lv_has ls 4 [(0, .ref (K.1 + q2)), (1, .int v11), (2, .int v12), (3, .int v13)] → P_X6_findsBeen_L64 n q2 v11 v12 v13 h13 kont = some h' → (∀  (hk : Hp) (H : Heap) (locs : List Loc) (ls : Array Slot), HX K s.heap H locs hk → lv_has ls 4 [(0, .ref (K.1 + q2)), (1, .int v11), (2, .int v12)] → kont  hk = some h' → W p l e rmX6_findsBeen s m args below meth c H locs 0 0 (MQ below (Qv K h') args s rmX6_findsBeen.cells rmX6_findsBeen.slots (KA K)) (F0 m 103 ls [])) → W p l e rmX6_findsBeen s m args below meth c H locs 0 0 (MQ below (Qv K h') args s rmX6_findsBeen.cells rmX6_findsBeen.slots (KA K)) (F0 m 64 ls []) := by
  intro n
  induction n with
  | zero =>
    intro  q2 v11 v12 v13 h13 kont H locs ls X hl hp hk
    cases hp
  | succ n ih =>
    intro  q2 v11 v12 v13 h13 kont H locs ls X hl hp hk
    unfold P_X6_findsBeen_L64 at hp
    refine lv_iload_n C.1 C.2.1 dX6_findsBeen_64 rfl (lv_at hl 3 rfl) ?_
    refine lv_aload_n C.1 C.2.1 dX6_findsBeen_65 rfl (lv_at hl 0 rfl) ?_
    refine w_gr C X fX6_13 rfl dX6_findsBeen_66 hp (fun q3 hp => ?_)
    refine lv_iconst (v := 2) C.1 C.2.1 dX6_findsBeen_69 (by decide) ?_
    refine w_al C X dX6_findsBeen_70 hp (fun v14 hp => ?_)
    refine lv_icmp_ge (tgt := 103) C.1 C.2.1 dX6_findsBeen_71 (by decide) (fun c3 => ?_) (fun c3 => ?_)
    · have hp := if_p _ c3 hp
      exact hk _ _ _ _ X (lv_sub hl [0, 1, 2] rfl) hp
    · have hp := if_n _ c3 hp
      refine lv_aload_n C.1 C.2.1 dX6_findsBeen_74 rfl (lv_at hl 0 rfl) ?_
      refine lv_iload_n C.1 C.2.1 dX6_findsBeen_75 rfl (lv_at hl 2 rfl) ?_
      refine lv_iload_n C.1 C.2.1 dX6_findsBeen_76 rfl (lv_at hl 3 rfl) ?_
      have hrc := (rc_some hp).1
      have hp := (rc_some hp).2
      refine w_ci (cells' := 0) (slots' := 0) X (fun _ _ e => run_V (As := [.int v12, .int v13]) (c0 := 6) C X mX6_timesOf miX6_timesOf lX6_144 (by decide) rfl hrc (ct_X6_timesOf l K q2 v12 v13 h13 e) (by decide) (by decide) rfl (by decide) rfl hl.1 dX6_findsBeen_77) (by decide) hp (fun v15 h14 H locs X hp => ?_)
      refine lv_if_ne (tgt := 97) C.1 C.2.1 dX6_findsBeen_80 (by decide) (fun c4 => ?_) (fun c4 => ?_)
      · have hp := if_n _ c4 hp
        refine w_inc (k := 3) C (fun v => [(3, .int (v)), (0, .ref (K.1 + q2)), (1, .int v11), (2, .int v12)]) dX6_findsBeen_97 hl rfl (y := (v13 + 1)) rfl (by decide) (fun _ => rfl) hp (fun v16 ls hl hp => ?_)
        refine lv_goto (tgt := 64) C.1 C.2.1 dX6_findsBeen_100 (by decide) ?_
        exact ih _ _ _ _ _ _ _ _ _ X (lv_sub hl [1, 2, 3, 0] rfl) hp hk
      · have hp := if_p _ c4 hp
        refine lv_aload_n C.1 C.2.1 dX6_findsBeen_83 rfl (lv_at hl 0 rfl) ?_
        refine lv_dup C.1 C.2.1 dX6_findsBeen_84 rfl ?_
        refine w_gi C X fX6_195 rfl dX6_findsBeen_85 hp (fun v17 hp => ?_)
        refine lv_iconst (v := 1) C.1 C.2.1 dX6_findsBeen_88 (by decide) ?_
        refine lv_iload_n C.1 C.2.1 dX6_findsBeen_89 rfl (lv_at hl 3 rfl) ?_
        refine w_shl C dX6_findsBeen_90 ?_
        refine lv_iconst (v := -1) C.1 C.2.1 dX6_findsBeen_91 (by decide) ?_
        refine lv_ixor C.1 C.2.1 dX6_findsBeen_92 ?_
        refine lv_iand C.1 C.2.1 dX6_findsBeen_93 ?_
        refine w_pi C X fX6_195 rfl rfl rfl rfl dX6_findsBeen_94 hp (fun H locs h15 X hp => ?_)
        refine w_inc (k := 3) C (fun v => [(3, .int (v)), (0, .ref (K.1 + q2)), (1, .int v11), (2, .int v12)]) dX6_findsBeen_97 hl rfl (y := (v13 + 1)) rfl (by decide) (fun _ => rfl) hp (fun v18 ls hl hp => ?_)
        refine lv_goto (tgt := 64) C.1 C.2.1 dX6_findsBeen_100 (by decide) ?_
        exact ih _ _ _ _ _ _ _ _ _ X (lv_sub hl [1, 2, 3, 0] rfl) hp hk

set_option maxHeartbeats 4000000 in
set_option maxRecDepth 100000 in
theorem wl_X6_findsBeen_L24 (C : CX K p m c cX6_findsBeen 4 s args RX6) (hr : meth.sig.returnType = none) (hlk : meth.locks = false) {h' : Hp} : ∀ (n : Nat) (q1 : Nat) (v5 : Int32) (v6 : Int32) (h6 : Hp) (H : Heap) (locs : List Loc) (ls : Array Slot), HX K s.heap H locs h6 → lv_has ls 4 [(0, .ref (K.1 + q1)), (1, .int v5), (2, .int v6)] → P_X6_findsBeen_L24 n q1 v5 v6 h6 = some h' → W p l e rmX6_findsBeen s m args below meth c H locs 0 0 (MQ below (Qv K h') args s rmX6_findsBeen.cells rmX6_findsBeen.slots (KA K)) (F0 m 24 ls []) := by
  intro n
  induction n with
  | zero =>
    intro  q1 v5 v6 h6 H locs ls X hl hp
    cases hp
  | succ n ih =>
    intro  q1 v5 v6 h6 H locs ls X hl hp
    unfold P_X6_findsBeen_L24 at hp
    refine lv_iload_n C.1 C.2.1 dX6_findsBeen_24 rfl (lv_at hl 2 rfl) ?_
    refine lv_aload_n C.1 C.2.1 dX6_findsBeen_25 rfl (lv_at hl 0 rfl) ?_
    have hrc := (rc_some hp).1
    have hp := (rc_some hp).2
    refine w_ci (cells' := 0) (slots' := 0) X (fun _ _ e => run_V (As := []) (c0 := 6) C X mX6_rows miX6_rows lX6_156 (by decide) rfl hrc (ct_X6_rows l K q1 h6 e) (by decide) (by decide) rfl (Nat.le_of_ble_eq_true rfl) rfl hl.1 dX6_findsBeen_26) (by decide) hp (fun v7 h7 H locs X hp => ?_)
    refine lv_icmp_ge (tgt := 109) C.1 C.2.1 dX6_findsBeen_29 (by decide) (fun c1 => ?_) (fun c1 => ?_)
    · have hp := if_p _ c1 hp
      refine lv_aload_n C.1 C.2.1 dX6_findsBeen_109 rfl (lv_at hl 0 rfl) ?_
      have hrc := (rc_some hp).1
      have hp := (rc_some hp).2
      refine w_cv (cells' := 0) (slots' := 0) X (fun _ e => run_V (As := []) (c0 := 6) C X mX6_putsBack miX6_putsBack lX6_153 (by decide) rfl hrc (ct_X6_putsBack l K q1 h7 e) (by decide) (by decide) rfl (by decide) rfl hl.1 dX6_findsBeen_110) (by decide) hp (fun h8 H locs X hp => ?_)
      exact w_retv C X hr hlk (by decide) dX6_findsBeen_113 hp
    · have hp := if_n _ c1 hp
      refine lv_aload_n C.1 C.2.1 dX6_findsBeen_32 rfl (lv_at hl 0 rfl) ?_
      have hrc := (rc_some hp).1
      have hp := (rc_some hp).2
      refine w_cv (cells' := 0) (slots' := 0) X (fun _ e => run_V (As := []) (c0 := 6) C X mX6_zeroes miX6_zeroes lX6_174 (by decide) rfl hrc (ct_X6_zeroes l K q1 h7 e) (by decide) (by decide) rfl (by decide) rfl hl.1 dX6_findsBeen_33) (by decide) hp (fun h9 H locs X hp => ?_)
      refine lv_aload_n C.1 C.2.1 dX6_findsBeen_36 rfl (lv_at hl 0 rfl) ?_
      refine lv_iload_n C.1 C.2.1 dX6_findsBeen_37 rfl (lv_at hl 2 rfl) ?_
      have hrc := (rc_some hp).1
      have hp := (rc_some hp).2
      refine w_cv (cells' := 0) (slots' := 0) X (fun _ e => run_V (As := [.int v6]) (c0 := 6) C X mX6_goesRow miX6_goesRow lX6_150 (by decide) rfl hrc (ct_X6_goesRow l K q1 v6 h9 e) (by decide) (by decide) rfl (by decide) rfl hl.1 dX6_findsBeen_38) (by decide) hp (fun h10 H locs X hp => ?_)
      refine lv_aload_n C.1 C.2.1 dX6_findsBeen_41 rfl (lv_at hl 0 rfl) ?_
      have hrc := (rc_some hp).1
      have hp := (rc_some hp).2
      refine w_ci (cells' := 0) (slots' := 0) X (fun _ _ e => run_V (As := []) (c0 := 6) C X mX6_stateNow miX6_stateNow lX6_131 (by decide) rfl hrc (ct_X6_stateNow l K q1 h10 e) (by decide) (by decide) rfl (by decide) rfl hl.1 dX6_findsBeen_42) (by decide) hp (fun v8 h11 H locs X hp => ?_)
      refine lv_iload_n C.1 C.2.1 dX6_findsBeen_45 rfl (lv_at hl 1 rfl) ?_
      refine lv_icmp_eq (tgt := 52) C.1 C.2.1 dX6_findsBeen_46 (by decide) (fun c2 => ?_) (fun c2 => ?_)
      · have hp := if_p _ c2 hp
        refine lv_aload_n C.1 C.2.1 dX6_findsBeen_52 rfl (lv_at hl 0 rfl) ?_
        refine lv_dup C.1 C.2.1 dX6_findsBeen_53 rfl ?_
        refine w_gi C X fX6_192 rfl dX6_findsBeen_54 hp (fun v9 hp => ?_)
        refine lv_iconst (v := 1) C.1 C.2.1 dX6_findsBeen_57 (by decide) ?_
        refine lv_iadd C.1 C.2.1 dX6_findsBeen_58 ?_
        refine w_pi C X fX6_192 rfl rfl rfl rfl dX6_findsBeen_59 hp (fun H locs h12 X hp => ?_)
        refine lv_iconst (v := 0) C.1 C.2.1 dX6_findsBeen_62 (by decide) ?_
        refine w_istn C (fun v => [(3, .int (v)), (0, .ref (K.1 + q1)), (1, .int v5), (2, .int v6)]) dX6_findsBeen_63 rfl hl (by decide) (fun _ => rfl) hp (fun v10 ls hl hp => ?_)
        refine wl_X6_findsBeen_L64 C hr hlk _ _ _ _ _ _ _ _ _ _ X (lv_sub hl [1, 2, 3, 0] rfl) hp (fun h16 H locs ls X hl hp => ?_)
        refine w_inc (k := 2) C (fun v => [(2, .int (v)), (0, .ref (K.1 + q1)), (1, .int v5)]) dX6_findsBeen_103 hl rfl (y := (v6 + 1)) rfl (by decide) (fun _ => rfl) hp (fun v19 ls hl hp => ?_)
        refine lv_goto (tgt := 24) C.1 C.2.1 dX6_findsBeen_106 (by decide) ?_
        exact ih _ _ _ _ _ _ _ X (lv_sub hl [1, 2, 0] rfl) hp
      · have hp := if_n _ c2 hp
        refine lv_goto (tgt := 103) C.1 C.2.1 dX6_findsBeen_49 (by decide) ?_
        refine w_inc (k := 2) C (fun v => [(2, .int (v)), (0, .ref (K.1 + q1)), (1, .int v5)]) dX6_findsBeen_103 hl rfl (y := (v6 + 1)) rfl (by decide) (fun _ => rfl) hp (fun v20 ls hl hp => ?_)
        refine lv_goto (tgt := 24) C.1 C.2.1 dX6_findsBeen_106 (by decide) ?_
        exact ih _ _ _ _ _ _ _ X (lv_sub hl [1, 2, 0] rfl) hp

set_option maxHeartbeats 4000000 in
set_option maxRecDepth 100000 in
theorem ct_X6_findsBeen (l : Launch) (K : Kt) (p0 : Nat) (h0 : Hp) {h' : Hp} (hp : P_X6_findsBeen p0 h0 = some h') : CT l K yX6_findsBeen cX6_findsBeen 4 none rmX6_findsBeen [.ref (K.1 + p0)] h0 (Qv K h') := by
  refine ct_of (own := RX6) (by decide +kernel) rfl (Nat.le_of_ble_eq_true rfl) ?_
  intro p e s m args below meth c C X hr hlk hm ls hl
  have hl : lv_has ls 4 [(0, .ref (K.1 + p0))] := hl
  unfold P_X6_findsBeen at hp
  refine lv_aload_n C.1 C.2.1 dX6_findsBeen_0 rfl (lv_at hl 0 rfl) ?_
  have hrc := (rc_some hp).1
  have hp := (rc_some hp).2
  refine w_ci (cells' := 0) (slots' := 0) X (fun _ _ e => run_V (As := []) (c0 := 6) C X mX6_stateNow miX6_stateNow lX6_131 (by decide) rfl hrc (ct_X6_stateNow l K p0 h0 e) (by decide) (by decide) rfl (by decide) rfl hl.1 dX6_findsBeen_1) (by decide) hp (fun v1 h1 H locs X hp => ?_)
  refine w_istn C (fun v => [(1, .int (v)), (0, .ref (K.1 + p0))]) dX6_findsBeen_4 rfl hl (by decide) (fun _ => rfl) hp (fun v2 ls hl hp => ?_)
  refine lv_aload_n C.1 C.2.1 dX6_findsBeen_5 rfl (lv_at hl 1 rfl) ?_
  refine lv_iconst (v := 0) C.1 C.2.1 dX6_findsBeen_6 (by decide) ?_
  refine w_pi C X fX6_192 rfl rfl rfl rfl dX6_findsBeen_7 hp (fun H locs h2 X hp => ?_)
  refine lv_aload_n C.1 C.2.1 dX6_findsBeen_10 rfl (lv_at hl 1 rfl) ?_
  refine lv_aload_n C.1 C.2.1 dX6_findsBeen_11 rfl (lv_at hl 1 rfl) ?_
  have hrc := (rc_some hp).1
  have hp := (rc_some hp).2
  refine w_ci (cells' := 0) (slots' := 0) X (fun _ _ e => run_V (As := []) (c0 := 6) C X mX6_allPeople miX6_allPeople lX6_177 (by decide) rfl hrc (ct_X6_allPeople l K p0 h2 e) (by decide) (by decide) rfl (Nat.le_of_ble_eq_true rfl) rfl hl.1 dX6_findsBeen_12) (by decide) hp (fun v3 h3 H locs X hp => ?_)
  refine w_pi C X fX6_195 rfl rfl rfl rfl dX6_findsBeen_15 hp (fun H locs h4 X hp => ?_)
  refine lv_aload_n C.1 C.2.1 dX6_findsBeen_18 rfl (lv_at hl 1 rfl) ?_
  have hrc := (rc_some hp).1
  have hp := (rc_some hp).2
  refine w_cv (cells' := 0) (slots' := 0) X (fun _ e => run_V (As := []) (c0 := 6) C X mX6_keeps miX6_keeps lX6_147 (by decide) rfl hrc (ct_X6_keeps l K p0 h4 e) (by decide) (by decide) rfl (by decide) rfl hl.1 dX6_findsBeen_19) (by decide) hp (fun h5 H locs X hp => ?_)
  refine lv_iconst (v := 0) C.1 C.2.1 dX6_findsBeen_22 (by decide) ?_
  refine w_istn C (fun v => [(2, .int (v)), (1, .int v2), (0, .ref (K.1 + p0))]) dX6_findsBeen_23 rfl hl (by decide) (fun _ => rfl) hp (fun v4 ls hl hp => ?_)
  exact wl_X6_findsBeen_L24 C hr hlk _ _ _ _ _ _ _ _ X (lv_sub hl [2, 1, 0] rfl) hp

abbrev rmX6_been : Room := { frames := 5, cells := 0, slots := 0, locals := 115 }
def P_X6_been (p0 : Nat) (h0 : Hp) : Option (Int32 × Hp) :=
    rc h0 p0 6 <| cv (P_X6_findsBeen p0 h0) fun h1 =>
    gi h1 p0 6 13 fun v1 =>
    some (v1, h1)

set_option maxHeartbeats 4000000 in
set_option maxRecDepth 100000 in
theorem ct_X6_been (l : Launch) (K : Kt) (p0 : Nat) (h0 : Hp) {r : Int32} {h' : Hp} (hp : P_X6_been p0 h0 = some (r, h')) : CT l K yX6_been cX6_been 1 (some FieldType.int) rmX6_been [.ref (K.1 + p0)] h0 (Qi K r h') := by
  refine ct_of (own := RX6) (by decide +kernel) rfl (Nat.le_of_ble_eq_true rfl) ?_
  intro p e s m args below meth c C X hr hlk hm ls hl
  have hl : lv_has ls 1 [(0, .ref (K.1 + p0))] := hl
  unfold P_X6_been at hp
  refine lv_aload_n C.1 C.2.1 dX6_been_0 rfl (lv_at hl 0 rfl) ?_
  have hrc := (rc_some hp).1
  have hp := (rc_some hp).2
  refine w_cv (cells' := 0) (slots' := 0) X (fun _ e => run_V (As := []) (c0 := 6) C X mX6_findsBeen miX6_findsBeen lX6_198 (by decide) rfl hrc (ct_X6_findsBeen l K p0 h0 e) (by decide) (by decide) rfl (by decide) rfl hl.1 dX6_been_1) (by decide) hp (fun h1 H locs X hp => ?_)
  refine lv_aload_n C.1 C.2.1 dX6_been_4 rfl (lv_at hl 0 rfl) ?_
  refine w_gi C X fX6_192 rfl dX6_been_5 hp (fun v1 hp => ?_)
  exact w_reti C X hr hlk (by decide) dX6_been_8 hp

abbrev rmX6_sure : Room := { frames := 5, cells := 0, slots := 0, locals := 115 }
def P_X6_sure (p0 : Nat) (h0 : Hp) : Option (Int32 × Hp) :=
    rc h0 p0 6 <| cv (P_X6_findsBeen p0 h0) fun h1 =>
    gi h1 p0 6 13 fun v1 =>
    if v1 = 0 then (
    some (0, h1))
    else (
    gi h1 p0 6 14 fun v2 =>
    some (v2, h1))

set_option maxHeartbeats 4000000 in
set_option maxRecDepth 100000 in
theorem ct_X6_sure (l : Launch) (K : Kt) (p0 : Nat) (h0 : Hp) {r : Int32} {h' : Hp} (hp : P_X6_sure p0 h0 = some (r, h')) : CT l K yX6_sure cX6_sure 1 (some FieldType.int) rmX6_sure [.ref (K.1 + p0)] h0 (Qi K r h') := by
  refine ct_of (own := RX6) (by decide +kernel) rfl (Nat.le_of_ble_eq_true rfl) ?_
  intro p e s m args below meth c C X hr hlk hm ls hl
  have hl : lv_has ls 1 [(0, .ref (K.1 + p0))] := hl
  unfold P_X6_sure at hp
  refine lv_aload_n C.1 C.2.1 dX6_sure_0 rfl (lv_at hl 0 rfl) ?_
  have hrc := (rc_some hp).1
  have hp := (rc_some hp).2
  refine w_cv (cells' := 0) (slots' := 0) X (fun _ e => run_V (As := []) (c0 := 6) C X mX6_findsBeen miX6_findsBeen lX6_198 (by decide) rfl hrc (ct_X6_findsBeen l K p0 h0 e) (by decide) (by decide) rfl (by decide) rfl hl.1 dX6_sure_1) (by decide) hp (fun h1 H locs X hp => ?_)
  refine lv_aload_n C.1 C.2.1 dX6_sure_4 rfl (lv_at hl 0 rfl) ?_
  refine w_gi C X fX6_192 rfl dX6_sure_5 hp (fun v1 hp => ?_)
  refine lv_if_ne (tgt := 15) C.1 C.2.1 dX6_sure_8 (by decide) (fun c1 => ?_) (fun c1 => ?_)
  · have hp := if_n _ c1 hp
    refine lv_aload_n C.1 C.2.1 dX6_sure_15 rfl (lv_at hl 0 rfl) ?_
    refine w_gi C X fX6_195 rfl dX6_sure_16 hp (fun v2 hp => ?_)
    exact w_reti C X hr hlk (by decide) dX6_sure_19 hp
  · have hp := if_p _ c1 hp
    refine lv_iconst (v := 0) C.1 C.2.1 dX6_sure_11 (by decide) ?_
    refine lv_goto (tgt := 19) C.1 C.2.1 dX6_sure_12 (by decide) ?_
    exact w_reti C X hr hlk (by decide) dX6_sure_19 hp

abbrev rmX6_divisorsOf : Room := { frames := 0, cells := 0, slots := 0, locals := 0 }
def P_X6_divisorsOf_L16 : Nat → Int32 → Int32 → Int32 → Int32 → Hp → (Int32 → Int32 → Hp → Option (Int32 × Hp)) → Option (Int32 × Hp)
  | 0, _, _, _, _, _, _ => none
  | n + 1, v8, v9, v10, v11, h2, kont =>
    nz v10 <|
    if (jrem v9 v10) = 0 then (
    nz v10 <|
    lt ((v9 / v10) : Int32) fun v12 =>
    lt ((v11 + 1) : Int32) fun v13 =>
    P_X6_divisorsOf_L16 n v8 v12 v10 v13 h2 kont)
    else (
    kont v9 v11 h2)

def P_X6_divisorsOf_L6 : Nat → Int32 → Int32 → Int32 → Hp → Option (Int32 × Hp)
  | 0, _, _, _, _ => none
  | n + 1, v4, v5, v6, h1 =>
    nz v6 <|
    if (v5 / v6) < v6 then (
    if v5 ≤ 1 then (
    some (v4, h1))
    else (
    some ((2 * v4), h1)))
    else (
    lt (1 : Int32) fun v7 =>
    P_X6_divisorsOf_L16 FU v4 v5 v6 v7 h1 fun v14 v15 h3 =>
    lt ((v4 * v15) : Int32) fun v16 =>
    lt ((v6 + 1) : Int32) fun v17 =>
    P_X6_divisorsOf_L6 n v16 v14 v17 h3)

def P_X6_divisorsOf (a0 : Int32) (h0 : Hp) : Option (Int32 × Hp) :=
    lt (1 : Int32) fun v1 =>
    lt (a0 : Int32) fun v2 =>
    lt (2 : Int32) fun v3 =>
    P_X6_divisorsOf_L6 FU v1 v2 v3 h0

set_option maxHeartbeats 4000000 in
set_option maxRecDepth 100000 in
theorem wl_X6_divisorsOf_L16 (C : CX K p m c cX6_divisorsOf 5 s args RX6) (hr : meth.sig.returnType = (some FieldType.int)) (hlk : meth.locks = false) {r : Int32} {h' : Hp} : ∀ (n : Nat) (v8 : Int32) (v9 : Int32) (v10 : Int32) (v11 : Int32) (h2 : Hp) (kont : Int32 → Int32 → Hp → Option (Int32 × Hp)) (H : Heap) (locs : List Loc) (ls : Array Slot), HX K s.heap H locs h2 → lv_has ls 5 [(1, .int v8), (2, .int v9), (3, .int v10), (4, .int v11)] → P_X6_divisorsOf_L16 n v8 v9 v10 v11 h2 kont = some (r, h') → (∀ (y0 : Int32) (y1 : Int32) (hk : Hp) (H : Heap) (locs : List Loc) (ls : Array Slot), HX K s.heap H locs hk → lv_has ls 5 [(1, .int v8), (2, .int y0), (3, .int v10), (4, .int y1)] → kont y0 y1 hk = some (r, h') → W p l e rmX6_divisorsOf s m args below meth c H locs 0 0 (MQ below (Qi K r h') args s rmX6_divisorsOf.cells rmX6_divisorsOf.slots (KA K)) (F0 m 32 ls [])) → W p l e rmX6_divisorsOf s m args below meth c H locs 0 0 (MQ below (Qi K r h') args s rmX6_divisorsOf.cells rmX6_divisorsOf.slots (KA K)) (F0 m 16 ls []) := by
  intro n
  induction n with
  | zero =>
    intro  v8 v9 v10 v11 h2 kont H locs ls X hl hp hk
    cases hp
  | succ n ih =>
    intro  v8 v9 v10 v11 h2 kont H locs ls X hl hp hk
    unfold P_X6_divisorsOf_L16 at hp
    refine lv_iload_n C.1 C.2.1 dX6_divisorsOf_16 rfl (lv_at hl 1 rfl) ?_
    refine lv_iload_n C.1 C.2.1 dX6_divisorsOf_17 rfl (lv_at hl 2 rfl) ?_
    have hz := (nz_some hp).1
    have hp := (nz_some hp).2
    refine w_rem C dX6_divisorsOf_18 hz ?_
    refine lv_if_ne (tgt := 32) C.1 C.2.1 dX6_divisorsOf_19 (by decide) (fun c3 => ?_) (fun c3 => ?_)
    · have hp := if_n _ c3 hp
      exact hk _ _ _ _ _ _ X (lv_sub hl [0, 1, 2, 3] rfl) hp
    · have hp := if_p _ c3 hp
      refine lv_iload_n C.1 C.2.1 dX6_divisorsOf_22 rfl (lv_at hl 1 rfl) ?_
      refine lv_iload_n C.1 C.2.1 dX6_divisorsOf_23 rfl (lv_at hl 2 rfl) ?_
      have hz := (nz_some hp).1
      have hp := (nz_some hp).2
      refine lv_idiv C.1 C.2.1 dX6_divisorsOf_24 hz ?_
      refine w_istn C (fun v => [(2, .int (v)), (1, .int v8), (3, .int v10), (4, .int v11)]) dX6_divisorsOf_25 rfl hl (by decide) (fun _ => rfl) hp (fun v12 ls hl hp => ?_)
      refine w_inc (k := 3) C (fun v => [(4, .int (v)), (2, .int v12), (1, .int v8), (3, .int v10)]) dX6_divisorsOf_26 hl rfl (y := (v11 + 1)) rfl (by decide) (fun _ => rfl) hp (fun v13 ls hl hp => ?_)
      refine lv_goto (tgt := 16) C.1 C.2.1 dX6_divisorsOf_29 (by decide) ?_
      exact ih _ _ _ _ _ _ _ _ _ X (lv_sub hl [2, 1, 3, 0] rfl) hp hk

set_option maxHeartbeats 4000000 in
set_option maxRecDepth 100000 in
theorem wl_X6_divisorsOf_L6 (C : CX K p m c cX6_divisorsOf 5 s args RX6) (hr : meth.sig.returnType = (some FieldType.int)) (hlk : meth.locks = false) {r : Int32} {h' : Hp} : ∀ (n : Nat) (v4 : Int32) (v5 : Int32) (v6 : Int32) (h1 : Hp) (H : Heap) (locs : List Loc) (ls : Array Slot), HX K s.heap H locs h1 → lv_has ls 5 [(1, .int v4), (2, .int v5), (3, .int v6)] → P_X6_divisorsOf_L6 n v4 v5 v6 h1 = some (r, h') → W p l e rmX6_divisorsOf s m args below meth c H locs 0 0 (MQ below (Qi K r h') args s rmX6_divisorsOf.cells rmX6_divisorsOf.slots (KA K)) (F0 m 6 ls []) := by
  intro n
  induction n with
  | zero =>
    intro  v4 v5 v6 h1 H locs ls X hl hp
    cases hp
  | succ n ih =>
    intro  v4 v5 v6 h1 H locs ls X hl hp
    unfold P_X6_divisorsOf_L6 at hp
    refine lv_iload_n C.1 C.2.1 dX6_divisorsOf_6 rfl (lv_at hl 2 rfl) ?_
    refine lv_iload_n C.1 C.2.1 dX6_divisorsOf_7 rfl (lv_at hl 1 rfl) ?_
    refine lv_iload_n C.1 C.2.1 dX6_divisorsOf_8 rfl (lv_at hl 2 rfl) ?_
    have hz := (nz_some hp).1
    have hp := (nz_some hp).2
    refine lv_idiv C.1 C.2.1 dX6_divisorsOf_9 hz ?_
    refine lv_icmp_gt (tgt := 43) C.1 C.2.1 dX6_divisorsOf_10 (by decide) (fun c1 => ?_) (fun c1 => ?_)
    · have hp := if_p _ c1 hp
      refine lv_iload_n C.1 C.2.1 dX6_divisorsOf_43 rfl (lv_at hl 1 rfl) ?_
      refine lv_iconst (v := 1) C.1 C.2.1 dX6_divisorsOf_44 (by decide) ?_
      refine lv_icmp_le (tgt := 54) C.1 C.2.1 dX6_divisorsOf_45 (by decide) (fun c2 => ?_) (fun c2 => ?_)
      · have hp := if_p _ c2 hp
        refine lv_iload_n C.1 C.2.1 dX6_divisorsOf_54 rfl (lv_at hl 0 rfl) ?_
        exact w_reti C X hr hlk (by decide) dX6_divisorsOf_55 hp
      · have hp := if_n _ c2 hp
        refine lv_iconst (v := 2) C.1 C.2.1 dX6_divisorsOf_48 (by decide) ?_
        refine lv_iload_n C.1 C.2.1 dX6_divisorsOf_49 rfl (lv_at hl 0 rfl) ?_
        refine lv_imul C.1 C.2.1 dX6_divisorsOf_50 ?_
        refine lv_goto (tgt := 55) C.1 C.2.1 dX6_divisorsOf_51 (by decide) ?_
        exact w_reti C X hr hlk (by decide) dX6_divisorsOf_55 hp
    · have hp := if_n _ c1 hp
      refine lv_iconst (v := 1) C.1 C.2.1 dX6_divisorsOf_13 (by decide) ?_
      refine w_ist C (fun v => [(4, .int (v)), (1, .int v4), (2, .int v5), (3, .int v6)]) dX6_divisorsOf_14 hl (by decide) (fun _ => rfl) hp (fun v7 ls hl hp => ?_)
      refine wl_X6_divisorsOf_L16 C hr hlk _ _ _ _ _ _ _ _ _ _ X (lv_sub hl [1, 2, 3, 0] rfl) hp (fun v14 v15 h3 H locs ls X hl hp => ?_)
      refine lv_iload_n C.1 C.2.1 dX6_divisorsOf_32 rfl (lv_at hl 0 rfl) ?_
      refine lv_iload C.1 C.2.1 dX6_divisorsOf_33 (lv_at hl 3 rfl) ?_
      refine lv_imul C.1 C.2.1 dX6_divisorsOf_35 ?_
      refine w_istn C (fun v => [(1, .int (v)), (2, .int v14), (3, .int v6), (4, .int v15)]) dX6_divisorsOf_36 rfl hl (by decide) (fun _ => rfl) hp (fun v16 ls hl hp => ?_)
      refine w_inc (k := 2) C (fun v => [(3, .int (v)), (1, .int v16), (2, .int v14), (4, .int v15)]) dX6_divisorsOf_37 hl rfl (y := (v6 + 1)) rfl (by decide) (fun _ => rfl) hp (fun v17 ls hl hp => ?_)
      refine lv_goto (tgt := 6) C.1 C.2.1 dX6_divisorsOf_40 (by decide) ?_
      exact ih _ _ _ _ _ _ _ X (lv_sub hl [1, 2, 0] rfl) hp

set_option maxHeartbeats 4000000 in
set_option maxRecDepth 100000 in
theorem ct_X6_divisorsOf (l : Launch) (K : Kt) (a0 : Int32) (h0 : Hp) {r : Int32} {h' : Hp} (hp : P_X6_divisorsOf a0 h0 = some (r, h')) : CT l K yX6_divisorsOf cX6_divisorsOf 5 (some FieldType.int) rmX6_divisorsOf [.int a0] h0 (Qi K r h') := by
  refine ct_of (own := RX6) (by decide +kernel) rfl (Nat.le_of_ble_eq_true rfl) ?_
  intro p e s m args below meth c C X hr hlk hm ls hl
  have hl : lv_has ls 5 [(0, .int a0)] := hl
  unfold P_X6_divisorsOf at hp
  refine lv_iconst (v := 1) C.1 C.2.1 dX6_divisorsOf_0 (by decide) ?_
  refine w_istn C (fun v => [(1, .int (v)), (0, .int a0)]) dX6_divisorsOf_1 rfl hl (by decide) (fun _ => rfl) hp (fun v1 ls hl hp => ?_)
  refine lv_iload_n C.1 C.2.1 dX6_divisorsOf_2 rfl (lv_at hl 1 rfl) ?_
  refine w_istn C (fun v => [(2, .int (v)), (1, .int v1), (0, .int a0)]) dX6_divisorsOf_3 rfl hl (by decide) (fun _ => rfl) hp (fun v2 ls hl hp => ?_)
  refine lv_iconst (v := 2) C.1 C.2.1 dX6_divisorsOf_4 (by decide) ?_
  refine w_istn C (fun v => [(3, .int (v)), (2, .int v2), (1, .int v1), (0, .int a0)]) dX6_divisorsOf_5 rfl hl (by decide) (fun _ => rfl) hp (fun v3 ls hl hp => ?_)
  exact wl_X6_divisorsOf_L6 C hr hlk _ _ _ _ _ _ _ _ X (lv_sub hl [2, 1, 0] rfl) hp

abbrev rmX6_forEverOf : Room := { frames := 1, cells := 0, slots := 0, locals := 24 }
def P_X6_forEverOf (p0 : Nat) (a1 : Int32) (h0 : Hp) : Option (Int32 × Hp) :=
    ci (P_X6_divisorsOf a1 h0) fun v1 h1 =>
    gr h1 p0 6 1 fun q1 =>
    al h1 q1 1 fun v2 =>
    nz v2 <|
    some ((jrem v1 v2), h1)

set_option maxHeartbeats 4000000 in
set_option maxRecDepth 100000 in
theorem ct_X6_forEverOf (l : Launch) (K : Kt) (p0 : Nat) (a1 : Int32) (h0 : Hp) {r : Int32} {h' : Hp} (hp : P_X6_forEverOf p0 a1 h0 = some (r, h')) : CT l K yX6_forEverOf cX6_forEverOf 2 (some FieldType.int) rmX6_forEverOf [.ref (K.1 + p0), .int a1] h0 (Qi K r h') := by
  refine ct_of (own := RX6) (by decide +kernel) rfl (Nat.le_of_ble_eq_true rfl) ?_
  intro p e s m args below meth c C X hr hlk hm ls hl
  have hl : lv_has ls 2 [(0, .ref (K.1 + p0)), (1, .int a1)] := hl
  unfold P_X6_forEverOf at hp
  refine lv_iload_n C.1 C.2.1 dX6_forEverOf_0 rfl (lv_at hl 1 rfl) ?_
  refine w_ci (cells' := 0) (slots' := 0) X (fun _ _ e => run_S (As := [.int a1]) C X mX6_divisorsOf msX6_divisorsOf lX6_201 (ct_X6_divisorsOf l K a1 h0 e) (by decide) (by decide) rfl (by decide) rfl hl.1 dX6_forEverOf_1) (by decide) hp (fun v1 h1 H locs X hp => ?_)
  refine lv_aload_n C.1 C.2.1 dX6_forEverOf_4 rfl (lv_at hl 0 rfl) ?_
  refine w_gr C X fX6_13 rfl dX6_forEverOf_5 hp (fun q1 hp => ?_)
  refine lv_iconst (v := 1) C.1 C.2.1 dX6_forEverOf_8 (by decide) ?_
  refine w_al C X dX6_forEverOf_9 hp (fun v2 hp => ?_)
  have hz := (nz_some hp).1
  have hp := (nz_some hp).2
  refine w_rem C dX6_forEverOf_10 hz ?_
  exact w_reti C X hr hlk (by decide) dX6_forEverOf_11 hp

abbrev rmX6_forEver : Room := { frames := 2, cells := 0, slots := 0, locals := 45 }
def P_X6_forEver (p0 : Nat) (a1 : Int32) (h0 : Hp) : Option (Int32 × Hp) :=
    ci (P_X6_within a1 1 1000000000 h0) fun v1 h1 =>
    lt (v1 : Int32) fun v2 =>
    if v2 = 0 then (
    rc h1 p0 6 <| ci (P_X6_forEverOf p0 a1 h1) fun v3 h2 =>
    some (v3, h2))
    else (
    rc h1 p0 6 <| ci (P_X6_refuse p0 v2 h1) fun v4 h3 =>
    some (v4, h3))

set_option maxHeartbeats 4000000 in
set_option maxRecDepth 100000 in
theorem ct_X6_forEver (l : Launch) (K : Kt) (p0 : Nat) (a1 : Int32) (h0 : Hp) {r : Int32} {h' : Hp} (hp : P_X6_forEver p0 a1 h0 = some (r, h')) : CT l K yX6_forEver cX6_forEver 3 (some FieldType.int) rmX6_forEver [.ref (K.1 + p0), .int a1] h0 (Qi K r h') := by
  refine ct_of (own := RX6) (by decide +kernel) rfl (Nat.le_of_ble_eq_true rfl) ?_
  intro p e s m args below meth c C X hr hlk hm ls hl
  have hl : lv_has ls 3 [(0, .ref (K.1 + p0)), (1, .int a1)] := hl
  unfold P_X6_forEver at hp
  refine lv_iload_n C.1 C.2.1 dX6_forEver_0 rfl (lv_at hl 1 rfl) ?_
  refine lv_iconst (v := 1) C.1 C.2.1 dX6_forEver_1 (by decide) ?_
  refine lv_ldc C.1 C.2.1 C.2.2.2.1 (C.2.2.2.2.1 _ kX6_204) dX6_forEver_2 ?_
  refine w_ci (cells' := 0) (slots' := 0) X (fun _ _ e => run_S (As := [.int a1, .int 1, .int 1000000000]) C X mX6_within msX6_within lX6_44 (ct_X6_within l K a1 1 1000000000 h0 e) (by decide) (by decide) rfl (by decide) rfl hl.1 dX6_forEver_4) (by decide) hp (fun v1 h1 H locs X hp => ?_)
  refine w_istn C (fun v => [(2, .int (v)), (0, .ref (K.1 + p0)), (1, .int a1)]) dX6_forEver_7 rfl hl (by decide) (fun _ => rfl) hp (fun v2 ls hl hp => ?_)
  refine lv_iload_n C.1 C.2.1 dX6_forEver_8 rfl (lv_at hl 0 rfl) ?_
  refine lv_if_eq (tgt := 20) C.1 C.2.1 dX6_forEver_9 (by decide) (fun c1 => ?_) (fun c1 => ?_)
  · have hp := if_p _ c1 hp
    refine lv_aload_n C.1 C.2.1 dX6_forEver_20 rfl (lv_at hl 1 rfl) ?_
    refine lv_iload_n C.1 C.2.1 dX6_forEver_21 rfl (lv_at hl 2 rfl) ?_
    have hrc := (rc_some hp).1
    have hp := (rc_some hp).2
    refine w_ci (cells' := 0) (slots' := 0) X (fun _ _ e => run_V (As := [.int a1]) (c0 := 6) C X mX6_forEverOf miX6_forEverOf lX6_205 (by decide) rfl hrc (ct_X6_forEverOf l K p0 a1 h1 e) (by decide) (by decide) rfl (by decide) rfl hl.1 dX6_forEver_22) (by decide) hp (fun v3 h2 H locs X hp => ?_)
    exact w_reti C X hr hlk (by decide) dX6_forEver_25 hp
  · have hp := if_n _ c1 hp
    refine lv_aload_n C.1 C.2.1 dX6_forEver_12 rfl (lv_at hl 1 rfl) ?_
    refine lv_iload_n C.1 C.2.1 dX6_forEver_13 rfl (lv_at hl 0 rfl) ?_
    have hrc := (rc_some hp).1
    have hp := (rc_some hp).2
    refine w_ci (cells' := 0) (slots' := 0) X (fun _ _ e => run_V (As := [.int v2]) (c0 := 6) C X mX6_refuse miX6_refuse lX6_52 (by decide) rfl hrc (ct_X6_refuse l K p0 v2 h1 e) (by decide) (by decide) rfl (by decide) rfl hl.1 dX6_forEver_14) (by decide) hp (fun v4 h3 H locs X hp => ?_)
    refine lv_goto (tgt := 25) C.1 C.2.1 dX6_forEver_17 (by decide) ?_
    exact w_reti C X hr hlk (by decide) dX6_forEver_25 hp

abbrev rmX6_nth : Room := { frames := 2, cells := 0, slots := 0, locals := 45 }
def P_X6_nth_L23 : Nat → Nat → Int32 → Int32 → Hp → Option (Int32 × Hp)
  | 0, _, _, _, _ => none
  | n + 1, q1, v5, v6, h2 =>
    if v5 ≤ 0 then (
    some (v6, h2))
    else (
    lt ((v6 + 1) : Int32) fun v7 =>
    rc h2 q1 6 <| ci (P_X6_forEverOf q1 v7 h2) fun v8 h3 =>
    if v8 = 0 then (
    lt ((v5 - 0) : Int32) fun v10 =>
    P_X6_nth_L23 n q1 v10 v7 h3)
    else (
    lt ((v5 - 1) : Int32) fun v9 =>
    P_X6_nth_L23 n q1 v9 v7 h3))

def P_X6_nth (p0 : Nat) (a1 : Int32) (h0 : Hp) : Option (Int32 × Hp) :=
    ci (P_X6_within a1 1 40 h0) fun v1 h1 =>
    lt (v1 : Int32) fun v2 =>
    if v2 = 0 then (
    lt (a1 : Int32) fun v3 =>
    lt (0 : Int32) fun v4 =>
    P_X6_nth_L23 FU p0 v3 v4 h1)
    else (
    rc h1 p0 6 <| ci (P_X6_refuse p0 v2 h1) fun v11 h4 =>
    some (v11, h4))

set_option maxHeartbeats 4000000 in
set_option maxRecDepth 100000 in
theorem wl_X6_nth_L23 (C : CX K p m c cX6_nth 5 s args RX6) (hr : meth.sig.returnType = (some FieldType.int)) (hlk : meth.locks = false) {r : Int32} {h' : Hp} : ∀ (n : Nat) (q1 : Nat) (v5 : Int32) (v6 : Int32) (h2 : Hp) (H : Heap) (locs : List Loc) (ls : Array Slot), HX K s.heap H locs h2 → lv_has ls 5 [(0, .ref (K.1 + q1)), (3, .int v5), (4, .int v6)] → P_X6_nth_L23 n q1 v5 v6 h2 = some (r, h') → W p l e rmX6_nth s m args below meth c H locs 0 0 (MQ below (Qi K r h') args s rmX6_nth.cells rmX6_nth.slots (KA K)) (F0 m 23 ls []) := by
  intro n
  induction n with
  | zero =>
    intro  q1 v5 v6 h2 H locs ls X hl hp
    cases hp
  | succ n ih =>
    intro  q1 v5 v6 h2 H locs ls X hl hp
    unfold P_X6_nth_L23 at hp
    refine lv_iload_n C.1 C.2.1 dX6_nth_23 rfl (lv_at hl 1 rfl) ?_
    refine lv_if_le (tgt := 50) C.1 C.2.1 dX6_nth_24 (by decide) (fun c2 => ?_) (fun c2 => ?_)
    · have hp := if_p _ c2 hp
      refine lv_iload C.1 C.2.1 dX6_nth_50 (lv_at hl 2 rfl) ?_
      exact w_reti C X hr hlk (by decide) dX6_nth_52 hp
    · have hp := if_n _ c2 hp
      refine w_inc (k := 2) C (fun v => [(4, .int (v)), (0, .ref (K.1 + q1)), (3, .int v5)]) dX6_nth_27 hl rfl (y := (v6 + 1)) rfl (by decide) (fun _ => rfl) hp (fun v7 ls hl hp => ?_)
      refine lv_iload_n C.1 C.2.1 dX6_nth_30 rfl (lv_at hl 2 rfl) ?_
      refine lv_aload_n C.1 C.2.1 dX6_nth_31 rfl (lv_at hl 1 rfl) ?_
      refine lv_iload C.1 C.2.1 dX6_nth_32 (lv_at hl 0 rfl) ?_
      have hrc := (rc_some hp).1
      have hp := (rc_some hp).2
      refine w_ci (cells' := 0) (slots' := 0) X (fun _ _ e => run_V (As := [.int v7]) (c0 := 6) C X mX6_forEverOf miX6_forEverOf lX6_205 (by decide) rfl hrc (ct_X6_forEverOf l K q1 v7 h2 e) (by decide) (by decide) rfl (Nat.le_of_ble_eq_true rfl) rfl hl.1 dX6_nth_34) (by decide) hp (fun v8 h3 H locs X hp => ?_)
      refine lv_if_ne (tgt := 44) C.1 C.2.1 dX6_nth_37 (by decide) (fun c3 => ?_) (fun c3 => ?_)
      · have hp := if_n _ c3 hp
        refine lv_iconst (v := 1) C.1 C.2.1 dX6_nth_44 (by decide) ?_
        refine lv_isub C.1 C.2.1 dX6_nth_45 ?_
        refine w_istn C (fun v => [(3, .int (v)), (4, .int v7), (0, .ref (K.1 + q1))]) dX6_nth_46 rfl hl (by decide) (fun _ => rfl) hp (fun v9 ls hl hp => ?_)
        refine lv_goto (tgt := 23) C.1 C.2.1 dX6_nth_47 (by decide) ?_
        exact ih _ _ _ _ _ _ _ X (lv_sub hl [2, 0, 1] rfl) hp
      · have hp := if_p _ c3 hp
        refine lv_iconst (v := 0) C.1 C.2.1 dX6_nth_40 (by decide) ?_
        refine lv_goto (tgt := 45) C.1 C.2.1 dX6_nth_41 (by decide) ?_
        refine lv_isub C.1 C.2.1 dX6_nth_45 ?_
        refine w_istn C (fun v => [(3, .int (v)), (4, .int v7), (0, .ref (K.1 + q1))]) dX6_nth_46 rfl hl (by decide) (fun _ => rfl) hp (fun v10 ls hl hp => ?_)
        refine lv_goto (tgt := 23) C.1 C.2.1 dX6_nth_47 (by decide) ?_
        exact ih _ _ _ _ _ _ _ X (lv_sub hl [2, 0, 1] rfl) hp

set_option maxHeartbeats 4000000 in
set_option maxRecDepth 100000 in
theorem ct_X6_nth (l : Launch) (K : Kt) (p0 : Nat) (a1 : Int32) (h0 : Hp) {r : Int32} {h' : Hp} (hp : P_X6_nth p0 a1 h0 = some (r, h')) : CT l K yX6_nth cX6_nth 5 (some FieldType.int) rmX6_nth [.ref (K.1 + p0), .int a1] h0 (Qi K r h') := by
  refine ct_of (own := RX6) (by decide +kernel) rfl (Nat.le_of_ble_eq_true rfl) ?_
  intro p e s m args below meth c C X hr hlk hm ls hl
  have hl : lv_has ls 5 [(0, .ref (K.1 + p0)), (1, .int a1)] := hl
  unfold P_X6_nth at hp
  refine lv_iload_n C.1 C.2.1 dX6_nth_0 rfl (lv_at hl 1 rfl) ?_
  refine lv_iconst (v := 1) C.1 C.2.1 dX6_nth_1 (by decide) ?_
  refine lv_bipush (v := 40) C.1 C.2.1 dX6_nth_2 (by decide) ?_
  refine w_ci (cells' := 0) (slots' := 0) X (fun _ _ e => run_S (As := [.int a1, .int 1, .int 40]) C X mX6_within msX6_within lX6_44 (ct_X6_within l K a1 1 40 h0 e) (by decide) (by decide) rfl (by decide) rfl hl.1 dX6_nth_4) (by decide) hp (fun v1 h1 H locs X hp => ?_)
  refine w_istn C (fun v => [(2, .int (v)), (0, .ref (K.1 + p0)), (1, .int a1)]) dX6_nth_7 rfl hl (by decide) (fun _ => rfl) hp (fun v2 ls hl hp => ?_)
  refine lv_iload_n C.1 C.2.1 dX6_nth_8 rfl (lv_at hl 0 rfl) ?_
  refine lv_if_eq (tgt := 18) C.1 C.2.1 dX6_nth_9 (by decide) (fun c1 => ?_) (fun c1 => ?_)
  · have hp := if_p _ c1 hp
    refine lv_iload_n C.1 C.2.1 dX6_nth_18 rfl (lv_at hl 2 rfl) ?_
    refine w_istn C (fun v => [(3, .int (v)), (2, .int v2), (0, .ref (K.1 + p0)), (1, .int a1)]) dX6_nth_19 rfl hl (by decide) (fun _ => rfl) hp (fun v3 ls hl hp => ?_)
    refine lv_iconst (v := 0) C.1 C.2.1 dX6_nth_20 (by decide) ?_
    refine w_ist C (fun v => [(4, .int (v)), (3, .int v3), (2, .int v2), (0, .ref (K.1 + p0)), (1, .int a1)]) dX6_nth_21 hl (by decide) (fun _ => rfl) hp (fun v4 ls hl hp => ?_)
    exact wl_X6_nth_L23 C hr hlk _ _ _ _ _ _ _ _ X (lv_sub hl [3, 1, 0] rfl) hp
  · have hp := if_n _ c1 hp
    refine lv_aload_n C.1 C.2.1 dX6_nth_12 rfl (lv_at hl 1 rfl) ?_
    refine lv_iload_n C.1 C.2.1 dX6_nth_13 rfl (lv_at hl 0 rfl) ?_
    have hrc := (rc_some hp).1
    have hp := (rc_some hp).2
    refine w_ci (cells' := 0) (slots' := 0) X (fun _ _ e => run_V (As := [.int v2]) (c0 := 6) C X mX6_refuse miX6_refuse lX6_52 (by decide) rfl hrc (ct_X6_refuse l K p0 v2 h1 e) (by decide) (by decide) rfl (by decide) rfl hl.1 dX6_nth_14) (by decide) hp (fun v11 h4 H locs X hp => ?_)
    exact w_reti C X hr hlk (by decide) dX6_nth_17 hp

abbrev rmX6_open : Room := { frames := 2, cells := 0, slots := 0, locals := 45 }
def P_X6_open_L24 : Nat → Nat → Int32 → Int32 → Int32 → Hp → Option (Int32 × Hp)
  | 0, _, _, _, _, _ => none
  | n + 1, q1, v5, v6, v7, h2 =>
    if v5 < v7 then (
    some (v6, h2))
    else (
    rc h2 q1 6 <| ci (P_X6_forEverOf q1 v7 h2) fun v8 h3 =>
    if v8 = 0 then (
    lt ((v6 + 0) : Int32) fun v11 =>
    lt ((v7 + 1) : Int32) fun v12 =>
    P_X6_open_L24 n q1 v5 v11 v12 h3)
    else (
    lt ((v6 + 1) : Int32) fun v9 =>
    lt ((v7 + 1) : Int32) fun v10 =>
    P_X6_open_L24 n q1 v5 v9 v10 h3))

def P_X6_open (p0 : Nat) (a1 : Int32) (h0 : Hp) : Option (Int32 × Hp) :=
    ci (P_X6_within a1 1 2000 h0) fun v1 h1 =>
    lt (v1 : Int32) fun v2 =>
    if v2 = 0 then (
    lt (0 : Int32) fun v3 =>
    lt (1 : Int32) fun v4 =>
    P_X6_open_L24 FU p0 a1 v3 v4 h1)
    else (
    rc h1 p0 6 <| ci (P_X6_refuse p0 v2 h1) fun v13 h4 =>
    some (v13, h4))

set_option maxHeartbeats 4000000 in
set_option maxRecDepth 100000 in
theorem wl_X6_open_L24 (C : CX K p m c cX6_open 5 s args RX6) (hr : meth.sig.returnType = (some FieldType.int)) (hlk : meth.locks = false) {r : Int32} {h' : Hp} : ∀ (n : Nat) (q1 : Nat) (v5 : Int32) (v6 : Int32) (v7 : Int32) (h2 : Hp) (H : Heap) (locs : List Loc) (ls : Array Slot), HX K s.heap H locs h2 → lv_has ls 5 [(0, .ref (K.1 + q1)), (1, .int v5), (3, .int v6), (4, .int v7)] → P_X6_open_L24 n q1 v5 v6 v7 h2 = some (r, h') → W p l e rmX6_open s m args below meth c H locs 0 0 (MQ below (Qi K r h') args s rmX6_open.cells rmX6_open.slots (KA K)) (F0 m 24 ls []) := by
  intro n
  induction n with
  | zero =>
    intro  q1 v5 v6 v7 h2 H locs ls X hl hp
    cases hp
  | succ n ih =>
    intro  q1 v5 v6 v7 h2 H locs ls X hl hp
    unfold P_X6_open_L24 at hp
    refine lv_iload C.1 C.2.1 dX6_open_24 (lv_at hl 3 rfl) ?_
    refine lv_iload_n C.1 C.2.1 dX6_open_26 rfl (lv_at hl 1 rfl) ?_
    refine lv_icmp_gt (tgt := 53) C.1 C.2.1 dX6_open_27 (by decide) (fun c2 => ?_) (fun c2 => ?_)
    · have hp := if_p _ c2 hp
      refine lv_iload_n C.1 C.2.1 dX6_open_53 rfl (lv_at hl 2 rfl) ?_
      exact w_reti C X hr hlk (by decide) dX6_open_54 hp
    · have hp := if_n _ c2 hp
      refine lv_iload_n C.1 C.2.1 dX6_open_30 rfl (lv_at hl 2 rfl) ?_
      refine lv_aload_n C.1 C.2.1 dX6_open_31 rfl (lv_at hl 0 rfl) ?_
      refine lv_iload C.1 C.2.1 dX6_open_32 (lv_at hl 3 rfl) ?_
      have hrc := (rc_some hp).1
      have hp := (rc_some hp).2
      refine w_ci (cells' := 0) (slots' := 0) X (fun _ _ e => run_V (As := [.int v7]) (c0 := 6) C X mX6_forEverOf miX6_forEverOf lX6_205 (by decide) rfl hrc (ct_X6_forEverOf l K q1 v7 h2 e) (by decide) (by decide) rfl (Nat.le_of_ble_eq_true rfl) rfl hl.1 dX6_open_34) (by decide) hp (fun v8 h3 H locs X hp => ?_)
      refine lv_if_ne (tgt := 44) C.1 C.2.1 dX6_open_37 (by decide) (fun c3 => ?_) (fun c3 => ?_)
      · have hp := if_n _ c3 hp
        refine lv_iconst (v := 1) C.1 C.2.1 dX6_open_44 (by decide) ?_
        refine lv_iadd C.1 C.2.1 dX6_open_45 ?_
        refine w_istn C (fun v => [(3, .int (v)), (0, .ref (K.1 + q1)), (1, .int v5), (4, .int v7)]) dX6_open_46 rfl hl (by decide) (fun _ => rfl) hp (fun v9 ls hl hp => ?_)
        refine w_inc (k := 3) C (fun v => [(4, .int (v)), (3, .int v9), (0, .ref (K.1 + q1)), (1, .int v5)]) dX6_open_47 hl rfl (y := (v7 + 1)) rfl (by decide) (fun _ => rfl) hp (fun v10 ls hl hp => ?_)
        refine lv_goto (tgt := 24) C.1 C.2.1 dX6_open_50 (by decide) ?_
        exact ih _ _ _ _ _ _ _ _ X (lv_sub hl [2, 3, 1, 0] rfl) hp
      · have hp := if_p _ c3 hp
        refine lv_iconst (v := 0) C.1 C.2.1 dX6_open_40 (by decide) ?_
        refine lv_goto (tgt := 45) C.1 C.2.1 dX6_open_41 (by decide) ?_
        refine lv_iadd C.1 C.2.1 dX6_open_45 ?_
        refine w_istn C (fun v => [(3, .int (v)), (0, .ref (K.1 + q1)), (1, .int v5), (4, .int v7)]) dX6_open_46 rfl hl (by decide) (fun _ => rfl) hp (fun v11 ls hl hp => ?_)
        refine w_inc (k := 3) C (fun v => [(4, .int (v)), (3, .int v11), (0, .ref (K.1 + q1)), (1, .int v5)]) dX6_open_47 hl rfl (y := (v7 + 1)) rfl (by decide) (fun _ => rfl) hp (fun v12 ls hl hp => ?_)
        refine lv_goto (tgt := 24) C.1 C.2.1 dX6_open_50 (by decide) ?_
        exact ih _ _ _ _ _ _ _ _ X (lv_sub hl [2, 3, 1, 0] rfl) hp

set_option maxHeartbeats 4000000 in
set_option maxRecDepth 100000 in
theorem ct_X6_open (l : Launch) (K : Kt) (p0 : Nat) (a1 : Int32) (h0 : Hp) {r : Int32} {h' : Hp} (hp : P_X6_open p0 a1 h0 = some (r, h')) : CT l K yX6_open cX6_open 5 (some FieldType.int) rmX6_open [.ref (K.1 + p0), .int a1] h0 (Qi K r h') := by
  refine ct_of (own := RX6) (by decide +kernel) rfl (Nat.le_of_ble_eq_true rfl) ?_
  intro p e s m args below meth c C X hr hlk hm ls hl
  have hl : lv_has ls 5 [(0, .ref (K.1 + p0)), (1, .int a1)] := hl
  unfold P_X6_open at hp
  refine lv_iload_n C.1 C.2.1 dX6_open_0 rfl (lv_at hl 1 rfl) ?_
  refine lv_iconst (v := 1) C.1 C.2.1 dX6_open_1 (by decide) ?_
  refine lv_sipush (v := 2000) C.1 C.2.1 dX6_open_2 (by decide) ?_
  refine w_ci (cells' := 0) (slots' := 0) X (fun _ _ e => run_S (As := [.int a1, .int 1, .int 2000]) C X mX6_within msX6_within lX6_44 (ct_X6_within l K a1 1 2000 h0 e) (by decide) (by decide) rfl (by decide) rfl hl.1 dX6_open_5) (by decide) hp (fun v1 h1 H locs X hp => ?_)
  refine w_istn C (fun v => [(2, .int (v)), (0, .ref (K.1 + p0)), (1, .int a1)]) dX6_open_8 rfl hl (by decide) (fun _ => rfl) hp (fun v2 ls hl hp => ?_)
  refine lv_iload_n C.1 C.2.1 dX6_open_9 rfl (lv_at hl 0 rfl) ?_
  refine lv_if_eq (tgt := 19) C.1 C.2.1 dX6_open_10 (by decide) (fun c1 => ?_) (fun c1 => ?_)
  · have hp := if_p _ c1 hp
    refine lv_iconst (v := 0) C.1 C.2.1 dX6_open_19 (by decide) ?_
    refine w_istn C (fun v => [(3, .int (v)), (2, .int v2), (0, .ref (K.1 + p0)), (1, .int a1)]) dX6_open_20 rfl hl (by decide) (fun _ => rfl) hp (fun v3 ls hl hp => ?_)
    refine lv_iconst (v := 1) C.1 C.2.1 dX6_open_21 (by decide) ?_
    refine w_ist C (fun v => [(4, .int (v)), (3, .int v3), (2, .int v2), (0, .ref (K.1 + p0)), (1, .int a1)]) dX6_open_22 hl (by decide) (fun _ => rfl) hp (fun v4 ls hl hp => ?_)
    exact wl_X6_open_L24 C hr hlk _ _ _ _ _ _ _ _ _ X (lv_sub hl [3, 4, 1, 0] rfl) hp
  · have hp := if_n _ c1 hp
    refine lv_aload_n C.1 C.2.1 dX6_open_13 rfl (lv_at hl 1 rfl) ?_
    refine lv_iload_n C.1 C.2.1 dX6_open_14 rfl (lv_at hl 0 rfl) ?_
    have hrc := (rc_some hp).1
    have hp := (rc_some hp).2
    refine w_ci (cells' := 0) (slots' := 0) X (fun _ _ e => run_V (As := [.int v2]) (c0 := 6) C X mX6_refuse miX6_refuse lX6_52 (by decide) rfl hrc (ct_X6_refuse l K p0 v2 h1 e) (by decide) (by decide) rfl (by decide) rfl hl.1 dX6_open_15) (by decide) hp (fun v13 h4 H locs X hp => ?_)
    exact w_reti C X hr hlk (by decide) dX6_open_18 hp

abbrev rmX6_logAt : Room := { frames := 0, cells := 0, slots := 0, locals := 0 }
def P_X6_logAt (p0 : Nat) (a1 : Int32) (h0 : Hp) : Option (Int32 × Hp) :=
    gr h0 p0 6 1 fun q1 =>
    al h0 q1 (68 + a1) fun v1 =>
    some (v1, h0)

set_option maxHeartbeats 4000000 in
set_option maxRecDepth 100000 in
theorem ct_X6_logAt (l : Launch) (K : Kt) (p0 : Nat) (a1 : Int32) (h0 : Hp) {r : Int32} {h' : Hp} (hp : P_X6_logAt p0 a1 h0 = some (r, h')) : CT l K yX6_logAt cX6_logAt 2 (some FieldType.int) rmX6_logAt [.ref (K.1 + p0), .int a1] h0 (Qi K r h') := by
  refine ct_of (own := RX6) (by decide +kernel) rfl (Nat.le_of_ble_eq_true rfl) ?_
  intro p e s m args below meth c C X hr hlk hm ls hl
  have hl : lv_has ls 2 [(0, .ref (K.1 + p0)), (1, .int a1)] := hl
  unfold P_X6_logAt at hp
  refine lv_aload_n C.1 C.2.1 dX6_logAt_0 rfl (lv_at hl 0 rfl) ?_
  refine w_gr C X fX6_13 rfl dX6_logAt_1 hp (fun q1 hp => ?_)
  refine lv_bipush (v := 68) C.1 C.2.1 dX6_logAt_4 (by decide) ?_
  refine lv_iload_n C.1 C.2.1 dX6_logAt_6 rfl (lv_at hl 1 rfl) ?_
  refine lv_iadd C.1 C.2.1 dX6_logAt_7 ?_
  refine w_al C X dX6_logAt_8 hp (fun v1 hp => ?_)
  exact w_reti C X hr hlk (by decide) dX6_logAt_9 hp

abbrev rmX6_unknown : Room := { frames := 1, cells := 0, slots := 0, locals := 21 }
def P_X6_unknown_L4 : Nat → Nat → Int32 → Int32 → Hp → Option (Int32 × Hp)
  | 0, _, _, _, _ => none
  | n + 1, q1, v3, v4, h1 =>
    gr h1 q1 6 1 fun q2 =>
    al h1 q2 3 fun v5 =>
    if v5 ≤ v4 then (
    some (v3, h1))
    else (
    rc h1 q1 6 <| ci (P_X6_logAt q1 v4 h1) fun v6 h2 =>
    if v6 = 9 then (
    lt ((v3 + 1) : Int32) fun v9 =>
    lt ((v4 + 1) : Int32) fun v10 =>
    P_X6_unknown_L4 n q1 v9 v10 h2)
    else (
    lt ((v3 + 0) : Int32) fun v7 =>
    lt ((v4 + 1) : Int32) fun v8 =>
    P_X6_unknown_L4 n q1 v7 v8 h2))

def P_X6_unknown (p0 : Nat) (h0 : Hp) : Option (Int32 × Hp) :=
    lt (0 : Int32) fun v1 =>
    lt (0 : Int32) fun v2 =>
    P_X6_unknown_L4 FU p0 v1 v2 h0

set_option maxHeartbeats 4000000 in
set_option maxRecDepth 100000 in
theorem wl_X6_unknown_L4 (C : CX K p m c cX6_unknown 3 s args RX6) (hr : meth.sig.returnType = (some FieldType.int)) (hlk : meth.locks = false) {r : Int32} {h' : Hp} : ∀ (n : Nat) (q1 : Nat) (v3 : Int32) (v4 : Int32) (h1 : Hp) (H : Heap) (locs : List Loc) (ls : Array Slot), HX K s.heap H locs h1 → lv_has ls 3 [(0, .ref (K.1 + q1)), (1, .int v3), (2, .int v4)] → P_X6_unknown_L4 n q1 v3 v4 h1 = some (r, h') → W p l e rmX6_unknown s m args below meth c H locs 0 0 (MQ below (Qi K r h') args s rmX6_unknown.cells rmX6_unknown.slots (KA K)) (F0 m 4 ls []) := by
  intro n
  induction n with
  | zero =>
    intro  q1 v3 v4 h1 H locs ls X hl hp
    cases hp
  | succ n ih =>
    intro  q1 v3 v4 h1 H locs ls X hl hp
    unfold P_X6_unknown_L4 at hp
    refine lv_iload_n C.1 C.2.1 dX6_unknown_4 rfl (lv_at hl 2 rfl) ?_
    refine lv_aload_n C.1 C.2.1 dX6_unknown_5 rfl (lv_at hl 0 rfl) ?_
    refine w_gr C X fX6_13 rfl dX6_unknown_6 hp (fun q2 hp => ?_)
    refine lv_iconst (v := 3) C.1 C.2.1 dX6_unknown_9 (by decide) ?_
    refine w_al C X dX6_unknown_10 hp (fun v5 hp => ?_)
    refine lv_icmp_ge (tgt := 38) C.1 C.2.1 dX6_unknown_11 (by decide) (fun c1 => ?_) (fun c1 => ?_)
    · have hp := if_p _ c1 hp
      refine lv_iload_n C.1 C.2.1 dX6_unknown_38 rfl (lv_at hl 1 rfl) ?_
      exact w_reti C X hr hlk (by decide) dX6_unknown_39 hp
    · have hp := if_n _ c1 hp
      refine lv_iload_n C.1 C.2.1 dX6_unknown_14 rfl (lv_at hl 1 rfl) ?_
      refine lv_aload_n C.1 C.2.1 dX6_unknown_15 rfl (lv_at hl 0 rfl) ?_
      refine lv_iload_n C.1 C.2.1 dX6_unknown_16 rfl (lv_at hl 2 rfl) ?_
      have hrc := (rc_some hp).1
      have hp := (rc_some hp).2
      refine w_ci (cells' := 0) (slots' := 0) X (fun _ _ e => run_V (As := [.int v4]) (c0 := 6) C X mX6_logAt miX6_logAt lX6_208 (by decide) rfl hrc (ct_X6_logAt l K q1 v4 h1 e) (by decide) (by decide) rfl (Nat.le_of_ble_eq_true rfl) rfl hl.1 dX6_unknown_17) (by decide) hp (fun v6 h2 H locs X hp => ?_)
      refine lv_bipush (v := 9) C.1 C.2.1 dX6_unknown_20 (by decide) ?_
      refine lv_icmp_ne (tgt := 29) C.1 C.2.1 dX6_unknown_22 (by decide) (fun c2 => ?_) (fun c2 => ?_)
      · have hp := if_n _ c2 hp
        refine lv_iconst (v := 0) C.1 C.2.1 dX6_unknown_29 (by decide) ?_
        refine lv_iadd C.1 C.2.1 dX6_unknown_30 ?_
        refine w_istn C (fun v => [(1, .int (v)), (0, .ref (K.1 + q1)), (2, .int v4)]) dX6_unknown_31 rfl hl (by decide) (fun _ => rfl) hp (fun v7 ls hl hp => ?_)
        refine w_inc (k := 2) C (fun v => [(2, .int (v)), (1, .int v7), (0, .ref (K.1 + q1))]) dX6_unknown_32 hl rfl (y := (v4 + 1)) rfl (by decide) (fun _ => rfl) hp (fun v8 ls hl hp => ?_)
        refine lv_goto (tgt := 4) C.1 C.2.1 dX6_unknown_35 (by decide) ?_
        exact ih _ _ _ _ _ _ _ X (lv_sub hl [2, 1, 0] rfl) hp
      · have hp := if_p _ c2 hp
        refine lv_iconst (v := 1) C.1 C.2.1 dX6_unknown_25 (by decide) ?_
        refine lv_goto (tgt := 30) C.1 C.2.1 dX6_unknown_26 (by decide) ?_
        refine lv_iadd C.1 C.2.1 dX6_unknown_30 ?_
        refine w_istn C (fun v => [(1, .int (v)), (0, .ref (K.1 + q1)), (2, .int v4)]) dX6_unknown_31 rfl hl (by decide) (fun _ => rfl) hp (fun v9 ls hl hp => ?_)
        refine w_inc (k := 2) C (fun v => [(2, .int (v)), (1, .int v9), (0, .ref (K.1 + q1))]) dX6_unknown_32 hl rfl (y := (v4 + 1)) rfl (by decide) (fun _ => rfl) hp (fun v10 ls hl hp => ?_)
        refine lv_goto (tgt := 4) C.1 C.2.1 dX6_unknown_35 (by decide) ?_
        exact ih _ _ _ _ _ _ _ X (lv_sub hl [2, 1, 0] rfl) hp

set_option maxHeartbeats 4000000 in
set_option maxRecDepth 100000 in
theorem ct_X6_unknown (l : Launch) (K : Kt) (p0 : Nat) (h0 : Hp) {r : Int32} {h' : Hp} (hp : P_X6_unknown p0 h0 = some (r, h')) : CT l K yX6_unknown cX6_unknown 3 (some FieldType.int) rmX6_unknown [.ref (K.1 + p0)] h0 (Qi K r h') := by
  refine ct_of (own := RX6) (by decide +kernel) rfl (Nat.le_of_ble_eq_true rfl) ?_
  intro p e s m args below meth c C X hr hlk hm ls hl
  have hl : lv_has ls 3 [(0, .ref (K.1 + p0))] := hl
  unfold P_X6_unknown at hp
  refine lv_iconst (v := 0) C.1 C.2.1 dX6_unknown_0 (by decide) ?_
  refine w_istn C (fun v => [(1, .int (v)), (0, .ref (K.1 + p0))]) dX6_unknown_1 rfl hl (by decide) (fun _ => rfl) hp (fun v1 ls hl hp => ?_)
  refine lv_iconst (v := 0) C.1 C.2.1 dX6_unknown_2 (by decide) ?_
  refine w_istn C (fun v => [(2, .int (v)), (1, .int v1), (0, .ref (K.1 + p0))]) dX6_unknown_3 rfl hl (by decide) (fun _ => rfl) hp (fun v2 ls hl hp => ?_)
  exact wl_X6_unknown_L4 C hr hlk _ _ _ _ _ _ _ _ X (lv_sub hl [2, 1, 0] rfl) hp

end
