noncomputable section
variable {p : Program} {l : Launch} {e : Env} {s : State} {m : MethodId} {args : Array Value} {below : List Frame} {meth : Method} {c : Code} {K : Kt}
abbrev rmX0_init : Room := { frames := 1, cells := 2, slots := 17, locals := 20 }
def P_X0_init (p0 : Nat) (h0 : Hp) : Option (Hp) :=
    pi h0 p0 0 0 6 fun h1 =>
    pi h1 p0 0 1 2 fun h2 =>
    nq h2 7 fun q1 h3 =>
    pr h3 p0 0 3 q1 fun h4 =>
    na h4 10 fun q2 h5 =>
    pr h5 p0 0 9 q2 fun h6 =>
    some h6

set_option maxHeartbeats 4000000 in
set_option maxRecDepth 100000 in
theorem ct_X0_init (l : Launch) (K : Kt) (p0 : Nat) (h0 : Hp) {h' : Hp} (hp : P_X0_init p0 h0 = some h') : CT l K yX0_init cX0_init 1 none rmX0_init [.ref (K.1 + p0)] h0 (Qv K h') := by
  refine ct_of (own := RX0) (by decide +kernel) rfl (Nat.le_of_ble_eq_true rfl) ?_
  intro p e s m args below meth c C X hr hlk hm ls hl
  have hl : lv_has ls 1 [(0, .ref (K.1 + p0))] := hl
  unfold P_X0_init at hp
  refine lv_aload_n C.1 C.2.1 dX0_init_0 rfl (lv_at hl 0 rfl) ?_
  refine w_oi0 C lX0_3 hl.1 (by decide) (by decide) dX0_init_1 ?_
  refine lv_aload_n C.1 C.2.1 dX0_init_4 rfl (lv_at hl 0 rfl) ?_
  refine lv_bipush (v := 6) C.1 C.2.1 dX0_init_5 (by decide) ?_
  refine w_pi C X fX0_9 rfl rfl rfl rfl dX0_init_7 hp (fun H locs h1 X hp => ?_)
  refine lv_aload_n C.1 C.2.1 dX0_init_10 rfl (lv_at hl 0 rfl) ?_
  refine lv_iconst (v := 2) C.1 C.2.1 dX0_init_11 (by decide) ?_
  refine w_pi C X fX0_15 rfl rfl rfl rfl dX0_init_12 hp (fun H locs h2 X hp => ?_)
  refine lv_aload_n C.1 C.2.1 dX0_init_15 rfl (lv_at hl 0 rfl) ?_
  refine lv_bipush (v := 7) C.1 C.2.1 dX0_init_16 (by decide) ?_
  refine w_nq (cells' := 1) (slots' := 7) (N := 7) C X nX0_18.2.1 (by decide +kernel) (by decide) (by decide) (by decide) dX0_init_18 hp (fun q1 h3 H locs X hp => ?_)
  refine w_prf C X fX0_20 rfl rfl hm rfl flX0_20 (fun _ => rfl) (fun _ => rfl) dX0_init_21 hp (fun H locs h4 X hp => ?_)
  refine lv_aload_n C.1 C.2.1 dX0_init_24 rfl (lv_at hl 0 rfl) ?_
  refine lv_bipush (v := 10) C.1 C.2.1 dX0_init_25 (by decide) ?_
  refine w_na (cells' := 2) (slots' := 17) (N := 10) C X (by decide +kernel) (by decide) (by decide) (by decide) dX0_init_27 hp (fun q2 h5 H locs X hp => ?_)
  refine w_prf C X fX0_24 rfl rfl hm rfl flX0_24 (fun _ => rfl) (fun _ => rfl) dX0_init_29 hp (fun H locs h6 X hp => ?_)
  exact w_retv C X hr hlk (by decide) dX0_init_32 hp

abbrev rmX0_become : Room := { frames := 0, cells := 0, slots := 0, locals := 0 }
def P_X0_become_L26 : Nat → Nat → Nat → Int32 → Hp → (Hp → Option (Hp)) → Option (Hp)
  | 0, _, _, _, _, _ => none
  | n + 1, q1, q2, v5, h4, kont =>
    gr h4 q1 0 3 fun q3 =>
    ln h4 q3 fun v6 =>
    if v6 ≤ v5 then (
    kont h4)
    else (
    gr h4 q2 0 3 fun q4 =>
    ln h4 q4 fun v7 =>
    if v7 ≤ v5 then (
    kont h4)
    else (
    gr h4 q1 0 3 fun q5 =>
    gr h4 q2 0 3 fun q6 =>
    rl h4 q6 v5 fun o1 =>
    rs h4 q5 v5 o1 fun h5 =>
    lt ((v5 + 1) : Int32) fun v8 =>
    P_X0_become_L26 n q1 q2 v8 h5 kont))

def P_X0_become_L104 : Nat → Nat → Nat → Int32 → Hp → Option (Hp)
  | 0, _, _, _, _ => none
  | n + 1, q7, q8, v15, h12 =>
    gr h12 q7 0 9 fun q9 =>
    ln h12 q9 fun v16 =>
    if v16 ≤ v15 then (
    gi h12 q8 0 10 fun v17 =>
    pi h12 q7 0 10 v17 fun h13 =>
    some h13)
    else (
    gr h12 q8 0 9 fun q10 =>
    ln h12 q10 fun v18 =>
    if v18 ≤ v15 then (
    gi h12 q8 0 10 fun v19 =>
    pi h12 q7 0 10 v19 fun h14 =>
    some h14)
    else (
    gr h12 q7 0 9 fun q11 =>
    gr h12 q8 0 9 fun q12 =>
    al h12 q12 v15 fun v20 =>
    as h12 q11 v15 v20 fun h15 =>
    lt ((v15 + 1) : Int32) fun v21 =>
    P_X0_become_L104 n q7 q8 v21 h15))

def P_X0_become (p0 : Nat) (p1 : Nat) (h0 : Hp) : Option (Hp) :=
    gi h0 p1 0 0 fun v1 =>
    pi h0 p0 0 0 v1 fun h1 =>
    gi h1 p1 0 1 fun v2 =>
    pi h1 p0 0 1 v2 fun h2 =>
    gi h2 p1 0 2 fun v3 =>
    pi h2 p0 0 2 v3 fun h3 =>
    lt (0 : Int32) fun v4 =>
    P_X0_become_L26 FU p0 p1 v4 h3 fun h6 =>
    gi h6 p1 0 4 fun v9 =>
    pi h6 p0 0 4 v9 fun h7 =>
    gi h7 p1 0 5 fun v10 =>
    pi h7 p0 0 5 v10 fun h8 =>
    gi h8 p1 0 6 fun v11 =>
    pi h8 p0 0 6 v11 fun h9 =>
    gi h9 p1 0 7 fun v12 =>
    pi h9 p0 0 7 v12 fun h10 =>
    gi h10 p1 0 8 fun v13 =>
    pi h10 p0 0 8 v13 fun h11 =>
    lt (0 : Int32) fun v14 =>
    P_X0_become_L104 FU p0 p1 v14 h11

set_option maxHeartbeats 4000000 in
set_option maxRecDepth 100000 in
theorem wl_X0_become_L26 (C : CX K p m c cX0_become 3 s args RX0) (hr : meth.sig.returnType = none) (hlk : meth.locks = false) {h' : Hp} : ∀ (n : Nat) (q1 : Nat) (q2 : Nat) (v5 : Int32) (h4 : Hp) (kont : Hp → Option (Hp)) (H : Heap) (locs : List Loc) (ls : Array Slot), HX K s.heap H locs h4 → lv_has ls 3 [(0, .ref (K.1 + q1)), (1, .ref (K.1 + q2)), (2, .int v5)] → P_X0_become_L26 n q1 q2 v5 h4 kont = some h' → (∀  (hk : Hp) (H : Heap) (locs : List Loc) (ls : Array Slot), HX K s.heap H locs hk → lv_has ls 3 [(0, .ref (K.1 + q1)), (1, .ref (K.1 + q2))] → kont  hk = some h' → W p l e rmX0_become s m args below meth c H locs 0 0 (MQ below (Qv K h') args s rmX0_become.cells rmX0_become.slots (KA K)) (F0 m 62 ls [])) → W p l e rmX0_become s m args below meth c H locs 0 0 (MQ below (Qv K h') args s rmX0_become.cells rmX0_become.slots (KA K)) (F0 m 26 ls []) := by
  intro n
  induction n with
  | zero =>
    intro  q1 q2 v5 h4 kont H locs ls X hl hp hk
    cases hp
  | succ n ih =>
    intro  q1 q2 v5 h4 kont H locs ls X hl hp hk
    unfold P_X0_become_L26 at hp
    refine lv_iload_n C.1 C.2.1 dX0_become_26 rfl (lv_at hl 2 rfl) ?_
    refine lv_aload_n C.1 C.2.1 dX0_become_27 rfl (lv_at hl 0 rfl) ?_
    refine w_gr C X fX0_20 rfl dX0_become_28 hp (fun q3 hp => ?_)
    refine w_ln C X dX0_become_31 hp (fun v6 hp => ?_)
    refine lv_icmp_ge (tgt := 62) C.1 C.2.1 dX0_become_32 (by decide) (fun c1 => ?_) (fun c1 => ?_)
    · have hp := if_p _ c1 hp
      exact hk _ _ _ _ X (lv_sub hl [0, 1] rfl) hp
    · have hp := if_n _ c1 hp
      refine lv_iload_n C.1 C.2.1 dX0_become_35 rfl (lv_at hl 2 rfl) ?_
      refine lv_aload_n C.1 C.2.1 dX0_become_36 rfl (lv_at hl 1 rfl) ?_
      refine w_gr C X fX0_20 rfl dX0_become_37 hp (fun q4 hp => ?_)
      refine w_ln C X dX0_become_40 hp (fun v7 hp => ?_)
      refine lv_icmp_ge (tgt := 62) C.1 C.2.1 dX0_become_41 (by decide) (fun c2 => ?_) (fun c2 => ?_)
      · have hp := if_p _ c2 hp
        exact hk _ _ _ _ X (lv_sub hl [0, 1] rfl) hp
      · have hp := if_n _ c2 hp
        refine lv_aload_n C.1 C.2.1 dX0_become_44 rfl (lv_at hl 0 rfl) ?_
        refine w_gr C X fX0_20 rfl dX0_become_45 hp (fun q5 hp => ?_)
        refine lv_iload_n C.1 C.2.1 dX0_become_48 rfl (lv_at hl 2 rfl) ?_
        refine lv_aload_n C.1 C.2.1 dX0_become_49 rfl (lv_at hl 1 rfl) ?_
        refine w_gr C X fX0_20 rfl dX0_become_50 hp (fun q6 hp => ?_)
        refine lv_iload_n C.1 C.2.1 dX0_become_53 rfl (lv_at hl 2 rfl) ?_
        refine w_rl C X dX0_become_54 hp (fun o1 hp => ?_)
        refine w_rs (v := o1) C X dX0_become_55 hp (fun H locs h5 X hp => ?_)
        refine w_inc (k := 2) C (fun v => [(2, .int (v)), (0, .ref (K.1 + q1)), (1, .ref (K.1 + q2))]) dX0_become_56 hl rfl (y := (v5 + 1)) rfl (by decide) (fun _ => rfl) hp (fun v8 ls hl hp => ?_)
        refine lv_goto (tgt := 26) C.1 C.2.1 dX0_become_59 (by decide) ?_
        exact ih _ _ _ _ _ _ _ _ X (lv_sub hl [1, 2, 0] rfl) hp hk

set_option maxHeartbeats 4000000 in
set_option maxRecDepth 100000 in
theorem wl_X0_become_L104 (C : CX K p m c cX0_become 3 s args RX0) (hr : meth.sig.returnType = none) (hlk : meth.locks = false) {h' : Hp} : ∀ (n : Nat) (q7 : Nat) (q8 : Nat) (v15 : Int32) (h12 : Hp) (H : Heap) (locs : List Loc) (ls : Array Slot), HX K s.heap H locs h12 → lv_has ls 3 [(0, .ref (K.1 + q7)), (1, .ref (K.1 + q8)), (2, .int v15)] → P_X0_become_L104 n q7 q8 v15 h12 = some h' → W p l e rmX0_become s m args below meth c H locs 0 0 (MQ below (Qv K h') args s rmX0_become.cells rmX0_become.slots (KA K)) (F0 m 104 ls []) := by
  intro n
  induction n with
  | zero =>
    intro  q7 q8 v15 h12 H locs ls X hl hp
    cases hp
  | succ n ih =>
    intro  q7 q8 v15 h12 H locs ls X hl hp
    unfold P_X0_become_L104 at hp
    refine lv_iload_n C.1 C.2.1 dX0_become_104 rfl (lv_at hl 2 rfl) ?_
    refine lv_aload_n C.1 C.2.1 dX0_become_105 rfl (lv_at hl 0 rfl) ?_
    refine w_gr C X fX0_24 rfl dX0_become_106 hp (fun q9 hp => ?_)
    refine w_ln C X dX0_become_109 hp (fun v16 hp => ?_)
    refine lv_icmp_ge (tgt := 140) C.1 C.2.1 dX0_become_110 (by decide) (fun c3 => ?_) (fun c3 => ?_)
    · have hp := if_p _ c3 hp
      refine lv_aload_n C.1 C.2.1 dX0_become_140 rfl (lv_at hl 0 rfl) ?_
      refine lv_aload_n C.1 C.2.1 dX0_become_141 rfl (lv_at hl 1 rfl) ?_
      refine w_gi C X fX0_46 rfl dX0_become_142 hp (fun v17 hp => ?_)
      refine w_pi C X fX0_46 rfl rfl rfl rfl dX0_become_145 hp (fun H locs h13 X hp => ?_)
      exact w_retv C X hr hlk (by decide) dX0_become_148 hp
    · have hp := if_n _ c3 hp
      refine lv_iload_n C.1 C.2.1 dX0_become_113 rfl (lv_at hl 2 rfl) ?_
      refine lv_aload_n C.1 C.2.1 dX0_become_114 rfl (lv_at hl 1 rfl) ?_
      refine w_gr C X fX0_24 rfl dX0_become_115 hp (fun q10 hp => ?_)
      refine w_ln C X dX0_become_118 hp (fun v18 hp => ?_)
      refine lv_icmp_ge (tgt := 140) C.1 C.2.1 dX0_become_119 (by decide) (fun c4 => ?_) (fun c4 => ?_)
      · have hp := if_p _ c4 hp
        refine lv_aload_n C.1 C.2.1 dX0_become_140 rfl (lv_at hl 0 rfl) ?_
        refine lv_aload_n C.1 C.2.1 dX0_become_141 rfl (lv_at hl 1 rfl) ?_
        refine w_gi C X fX0_46 rfl dX0_become_142 hp (fun v19 hp => ?_)
        refine w_pi C X fX0_46 rfl rfl rfl rfl dX0_become_145 hp (fun H locs h14 X hp => ?_)
        exact w_retv C X hr hlk (by decide) dX0_become_148 hp
      · have hp := if_n _ c4 hp
        refine lv_aload_n C.1 C.2.1 dX0_become_122 rfl (lv_at hl 0 rfl) ?_
        refine w_gr C X fX0_24 rfl dX0_become_123 hp (fun q11 hp => ?_)
        refine lv_iload_n C.1 C.2.1 dX0_become_126 rfl (lv_at hl 2 rfl) ?_
        refine lv_aload_n C.1 C.2.1 dX0_become_127 rfl (lv_at hl 1 rfl) ?_
        refine w_gr C X fX0_24 rfl dX0_become_128 hp (fun q12 hp => ?_)
        refine lv_iload_n C.1 C.2.1 dX0_become_131 rfl (lv_at hl 2 rfl) ?_
        refine w_al C X dX0_become_132 hp (fun v20 hp => ?_)
        refine w_as C X dX0_become_133 hp (fun H locs h15 X hp => ?_)
        refine w_inc (k := 2) C (fun v => [(2, .int (v)), (0, .ref (K.1 + q7)), (1, .ref (K.1 + q8))]) dX0_become_134 hl rfl (y := (v15 + 1)) rfl (by decide) (fun _ => rfl) hp (fun v21 ls hl hp => ?_)
        refine lv_goto (tgt := 104) C.1 C.2.1 dX0_become_137 (by decide) ?_
        exact ih _ _ _ _ _ _ _ X (lv_sub hl [1, 2, 0] rfl) hp

set_option maxHeartbeats 4000000 in
set_option maxRecDepth 100000 in
theorem ct_X0_become (l : Launch) (K : Kt) (p0 : Nat) (p1 : Nat) (h0 : Hp) {h' : Hp} (hp : P_X0_become p0 p1 h0 = some h') : CT l K yX0_become cX0_become 3 none rmX0_become [.ref (K.1 + p0), .ref (K.1 + p1)] h0 (Qv K h') := by
  refine ct_of (own := RX0) (by decide +kernel) rfl (Nat.le_of_ble_eq_true rfl) ?_
  intro p e s m args below meth c C X hr hlk hm ls hl
  have hl : lv_has ls 3 [(0, .ref (K.1 + p0)), (1, .ref (K.1 + p1))] := hl
  unfold P_X0_become at hp
  refine lv_aload_n C.1 C.2.1 dX0_become_0 rfl (lv_at hl 0 rfl) ?_
  refine lv_aload_n C.1 C.2.1 dX0_become_1 rfl (lv_at hl 1 rfl) ?_
  refine w_gi C X fX0_9 rfl dX0_become_2 hp (fun v1 hp => ?_)
  refine w_pi C X fX0_9 rfl rfl rfl rfl dX0_become_5 hp (fun H locs h1 X hp => ?_)
  refine lv_aload_n C.1 C.2.1 dX0_become_8 rfl (lv_at hl 0 rfl) ?_
  refine lv_aload_n C.1 C.2.1 dX0_become_9 rfl (lv_at hl 1 rfl) ?_
  refine w_gi C X fX0_15 rfl dX0_become_10 hp (fun v2 hp => ?_)
  refine w_pi C X fX0_15 rfl rfl rfl rfl dX0_become_13 hp (fun H locs h2 X hp => ?_)
  refine lv_aload_n C.1 C.2.1 dX0_become_16 rfl (lv_at hl 0 rfl) ?_
  refine lv_aload_n C.1 C.2.1 dX0_become_17 rfl (lv_at hl 1 rfl) ?_
  refine w_gi C X fX0_28 rfl dX0_become_18 hp (fun v3 hp => ?_)
  refine w_pi C X fX0_28 rfl rfl rfl rfl dX0_become_21 hp (fun H locs h3 X hp => ?_)
  refine lv_iconst (v := 0) C.1 C.2.1 dX0_become_24 (by decide) ?_
  refine w_istn C (fun v => [(2, .int (v)), (0, .ref (K.1 + p0)), (1, .ref (K.1 + p1))]) dX0_become_25 rfl hl (by decide) (fun _ => rfl) hp (fun v4 ls hl hp => ?_)
  refine wl_X0_become_L26 C hr hlk _ _ _ _ _ _ _ _ _ X (lv_sub hl [1, 2, 0] rfl) hp (fun h6 H locs ls X hl hp => ?_)
  refine lv_aload_n C.1 C.2.1 dX0_become_62 rfl (lv_at hl 0 rfl) ?_
  refine lv_aload_n C.1 C.2.1 dX0_become_63 rfl (lv_at hl 1 rfl) ?_
  refine w_gi C X fX0_31 rfl dX0_become_64 hp (fun v9 hp => ?_)
  refine w_pi C X fX0_31 rfl rfl rfl rfl dX0_become_67 hp (fun H locs h7 X hp => ?_)
  refine lv_aload_n C.1 C.2.1 dX0_become_70 rfl (lv_at hl 0 rfl) ?_
  refine lv_aload_n C.1 C.2.1 dX0_become_71 rfl (lv_at hl 1 rfl) ?_
  refine w_gi C X fX0_34 rfl dX0_become_72 hp (fun v10 hp => ?_)
  refine w_pi C X fX0_34 rfl rfl rfl rfl dX0_become_75 hp (fun H locs h8 X hp => ?_)
  refine lv_aload_n C.1 C.2.1 dX0_become_78 rfl (lv_at hl 0 rfl) ?_
  refine lv_aload_n C.1 C.2.1 dX0_become_79 rfl (lv_at hl 1 rfl) ?_
  refine w_gi C X fX0_37 rfl dX0_become_80 hp (fun v11 hp => ?_)
  refine w_pi C X fX0_37 rfl rfl rfl rfl dX0_become_83 hp (fun H locs h9 X hp => ?_)
  refine lv_aload_n C.1 C.2.1 dX0_become_86 rfl (lv_at hl 0 rfl) ?_
  refine lv_aload_n C.1 C.2.1 dX0_become_87 rfl (lv_at hl 1 rfl) ?_
  refine w_gi C X fX0_40 rfl dX0_become_88 hp (fun v12 hp => ?_)
  refine w_pi C X fX0_40 rfl rfl rfl rfl dX0_become_91 hp (fun H locs h10 X hp => ?_)
  refine lv_aload_n C.1 C.2.1 dX0_become_94 rfl (lv_at hl 0 rfl) ?_
  refine lv_aload_n C.1 C.2.1 dX0_become_95 rfl (lv_at hl 1 rfl) ?_
  refine w_gi C X fX0_43 rfl dX0_become_96 hp (fun v13 hp => ?_)
  refine w_pi C X fX0_43 rfl rfl rfl rfl dX0_become_99 hp (fun H locs h11 X hp => ?_)
  refine lv_iconst (v := 0) C.1 C.2.1 dX0_become_102 (by decide) ?_
  refine w_istn C (fun v => [(2, .int (v)), (0, .ref (K.1 + p0)), (1, .ref (K.1 + p1))]) dX0_become_103 rfl hl (by decide) (fun _ => rfl) hp (fun v14 ls hl hp => ?_)
  exact wl_X0_become_L104 C hr hlk _ _ _ _ _ _ _ _ X (lv_sub hl [1, 2, 0] rfl) hp

abbrev rmX0_hasDoor : Room := { frames := 0, cells := 0, slots := 0, locals := 0 }
def P_X0_hasDoor (p0 : Nat) (a1 : Int32) (h0 : Hp) : Option (Int32 × Hp) :=
    if a1 < 1 then (
    some (0, h0))
    else (
    gi h0 p0 0 0 fun v1 =>
    if v1 < a1 then (
    some (0, h0))
    else (
    some (1, h0)))

set_option maxHeartbeats 4000000 in
set_option maxRecDepth 100000 in
theorem ct_X0_hasDoor (l : Launch) (K : Kt) (p0 : Nat) (a1 : Int32) (h0 : Hp) {r : Int32} {h' : Hp} (hp : P_X0_hasDoor p0 a1 h0 = some (r, h')) : CT l K yX0_hasDoor cX0_hasDoor 2 (some FieldType.boolean) rmX0_hasDoor [.ref (K.1 + p0), .int a1] h0 (Qi K r h') := by
  refine ct_of (own := RX0) (by decide +kernel) rfl (Nat.le_of_ble_eq_true rfl) ?_
  intro p e s m args below meth c C X hr hlk hm ls hl
  have hl : lv_has ls 2 [(0, .ref (K.1 + p0)), (1, .int a1)] := hl
  unfold P_X0_hasDoor at hp
  refine lv_iload_n C.1 C.2.1 dX0_hasDoor_0 rfl (lv_at hl 1 rfl) ?_
  refine lv_iconst (v := 1) C.1 C.2.1 dX0_hasDoor_1 (by decide) ?_
  refine lv_icmp_lt (tgt := 17) C.1 C.2.1 dX0_hasDoor_2 (by decide) (fun c1 => ?_) (fun c1 => ?_)
  · have hp := if_p _ c1 hp
    refine lv_iconst (v := 0) C.1 C.2.1 dX0_hasDoor_17 (by decide) ?_
    exact w_retz C X hr hlk (by decide) (by decide) dX0_hasDoor_18 hp
  · have hp := if_n _ c1 hp
    refine lv_iload_n C.1 C.2.1 dX0_hasDoor_5 rfl (lv_at hl 1 rfl) ?_
    refine lv_aload_n C.1 C.2.1 dX0_hasDoor_6 rfl (lv_at hl 0 rfl) ?_
    refine w_gi C X fX0_9 rfl dX0_hasDoor_7 hp (fun v1 hp => ?_)
    refine lv_icmp_gt (tgt := 17) C.1 C.2.1 dX0_hasDoor_10 (by decide) (fun c2 => ?_) (fun c2 => ?_)
    · have hp := if_p _ c2 hp
      refine lv_iconst (v := 0) C.1 C.2.1 dX0_hasDoor_17 (by decide) ?_
      exact w_retz C X hr hlk (by decide) (by decide) dX0_hasDoor_18 hp
    · have hp := if_n _ c2 hp
      refine lv_iconst (v := 1) C.1 C.2.1 dX0_hasDoor_13 (by decide) ?_
      refine lv_goto (tgt := 18) C.1 C.2.1 dX0_hasDoor_14 (by decide) ?_
      exact w_retz C X hr hlk (by decide) (by decide) dX0_hasDoor_18 hp

abbrev rmX5_bitOf : Room := { frames := 0, cells := 0, slots := 0, locals := 0 }
def P_X5_bitOf (a0 : Int32) (h0 : Hp) : Option (Int32 × Hp) :=
    some ((jshl 1 (a0 - 1)), h0)

set_option maxHeartbeats 4000000 in
set_option maxRecDepth 100000 in
theorem ct_X5_bitOf (l : Launch) (K : Kt) (a0 : Int32) (h0 : Hp) {r : Int32} {h' : Hp} (hp : P_X5_bitOf a0 h0 = some (r, h')) : CT l K yX5_bitOf cX5_bitOf 1 (some FieldType.int) rmX5_bitOf [.int a0] h0 (Qi K r h') := by
  refine ct_of (own := RX5) (by decide +kernel) rfl (Nat.le_of_ble_eq_true rfl) ?_
  intro p e s m args below meth c C X hr hlk hm ls hl
  have hl : lv_has ls 1 [(0, .int a0)] := hl
  unfold P_X5_bitOf at hp
  refine lv_iconst (v := 1) C.1 C.2.1 dX5_bitOf_0 (by decide) ?_
  refine lv_iload_n C.1 C.2.1 dX5_bitOf_1 rfl (lv_at hl 0 rfl) ?_
  refine lv_iconst (v := 1) C.1 C.2.1 dX5_bitOf_2 (by decide) ?_
  refine lv_isub C.1 C.2.1 dX5_bitOf_3 ?_
  refine w_shl C dX5_bitOf_4 ?_
  exact w_reti C X hr hlk (by decide) dX5_bitOf_5 hp

abbrev rmX0_isStuck : Room := { frames := 1, cells := 0, slots := 0, locals := 20 }
def P_X0_isStuck (p0 : Nat) (a1 : Int32) (h0 : Hp) : Option (Int32 × Hp) :=
    gi h0 p0 0 4 fun v1 =>
    ci (P_X5_bitOf a1 h0) fun v2 h1 =>
    if (v1 &&& v2) = 0 then (
    some (0, h1))
    else (
    some (1, h1))

set_option maxHeartbeats 4000000 in
set_option maxRecDepth 100000 in
theorem ct_X0_isStuck (l : Launch) (K : Kt) (p0 : Nat) (a1 : Int32) (h0 : Hp) {r : Int32} {h' : Hp} (hp : P_X0_isStuck p0 a1 h0 = some (r, h')) : CT l K yX0_isStuck cX0_isStuck 2 (some FieldType.boolean) rmX0_isStuck [.ref (K.1 + p0), .int a1] h0 (Qi K r h') := by
  refine ct_of (own := RX0) (by decide +kernel) rfl (Nat.le_of_ble_eq_true rfl) ?_
  intro p e s m args below meth c C X hr hlk hm ls hl
  have hl : lv_has ls 2 [(0, .ref (K.1 + p0)), (1, .int a1)] := hl
  unfold P_X0_isStuck at hp
  refine lv_aload_n C.1 C.2.1 dX0_isStuck_0 rfl (lv_at hl 0 rfl) ?_
  refine w_gi C X fX0_31 rfl dX0_isStuck_1 hp (fun v1 hp => ?_)
  refine lv_iload_n C.1 C.2.1 dX0_isStuck_4 rfl (lv_at hl 1 rfl) ?_
  refine w_ci (cells' := 0) (slots' := 0) X (fun _ _ e => run_SN (As := [.int a1]) C X mX5_bitOf msX5_bitOf lX0_49 (ct_X5_bitOf l K a1 h0 e) (by decide) (by decide) rfl (Nat.le_of_ble_eq_true rfl) rfl hl.1 dX0_isStuck_5) (by decide) hp (fun v2 h1 H locs X hp => ?_)
  refine lv_iand C.1 C.2.1 dX0_isStuck_8 ?_
  refine lv_if_eq (tgt := 16) C.1 C.2.1 dX0_isStuck_9 (by decide) (fun c1 => ?_) (fun c1 => ?_)
  · have hp := if_p _ c1 hp
    refine lv_iconst (v := 0) C.1 C.2.1 dX0_isStuck_16 (by decide) ?_
    exact w_retz C X hr hlk (by decide) (by decide) dX0_isStuck_17 hp
  · have hp := if_n _ c1 hp
    refine lv_iconst (v := 1) C.1 C.2.1 dX0_isStuck_12 (by decide) ?_
    refine lv_goto (tgt := 17) C.1 C.2.1 dX0_isStuck_13 (by decide) ?_
    exact w_retz C X hr hlk (by decide) (by decide) dX0_isStuck_17 hp

abbrev rmX5_bitAt : Room := { frames := 1, cells := 0, slots := 0, locals := 20 }
def P_X5_bitAt (a0 : Int32) (a1 : Int32) (h0 : Hp) : Option (Int32 × Hp) :=
    if a1 = 0 then (
    some (0, h0))
    else (
    if a1 = 1 then (
    ci (P_X5_bitOf a0 h0) fun v2 h2 =>
    some (v2, h2))
    else (
    ci (P_X5_bitOf a0 h0) fun v1 h1 =>
    some ((jshl v1 12), h1)))

set_option maxHeartbeats 4000000 in
set_option maxRecDepth 100000 in
theorem ct_X5_bitAt (l : Launch) (K : Kt) (a0 : Int32) (a1 : Int32) (h0 : Hp) {r : Int32} {h' : Hp} (hp : P_X5_bitAt a0 a1 h0 = some (r, h')) : CT l K yX5_bitAt cX5_bitAt 2 (some FieldType.int) rmX5_bitAt [.int a0, .int a1] h0 (Qi K r h') := by
  refine ct_of (own := RX5) (by decide +kernel) rfl (Nat.le_of_ble_eq_true rfl) ?_
  intro p e s m args below meth c C X hr hlk hm ls hl
  have hl : lv_has ls 2 [(0, .int a0), (1, .int a1)] := hl
  unfold P_X5_bitAt at hp
  refine lv_iload_n C.1 C.2.1 dX5_bitAt_0 rfl (lv_at hl 1 rfl) ?_
  refine lv_if_ne (tgt := 6) C.1 C.2.1 dX5_bitAt_1 (by decide) (fun c1 => ?_) (fun c1 => ?_)
  · have hp := if_n _ c1 hp
    refine lv_iload_n C.1 C.2.1 dX5_bitAt_6 rfl (lv_at hl 1 rfl) ?_
    refine lv_iconst (v := 1) C.1 C.2.1 dX5_bitAt_7 (by decide) ?_
    refine lv_icmp_ne (tgt := 18) C.1 C.2.1 dX5_bitAt_8 (by decide) (fun c2 => ?_) (fun c2 => ?_)
    · have hp := if_n _ c2 hp
      refine lv_iload_n C.1 C.2.1 dX5_bitAt_18 rfl (lv_at hl 0 rfl) ?_
      refine w_ci (cells' := 0) (slots' := 0) X (fun _ _ e => run_S (As := [.int a0]) C X mX5_bitOf msX5_bitOf lX5_130 (ct_X5_bitOf l K a0 h0 e) (by decide) (by decide) rfl (by decide) rfl hl.1 dX5_bitAt_19) (by decide) hp (fun v1 h1 H locs X hp => ?_)
      refine lv_bipush (v := 12) C.1 C.2.1 dX5_bitAt_22 (by decide) ?_
      refine w_shl C dX5_bitAt_24 ?_
      exact w_reti C X hr hlk (by decide) dX5_bitAt_25 hp
    · have hp := if_p _ c2 hp
      refine lv_iload_n C.1 C.2.1 dX5_bitAt_11 rfl (lv_at hl 0 rfl) ?_
      refine w_ci (cells' := 0) (slots' := 0) X (fun _ _ e => run_S (As := [.int a0]) C X mX5_bitOf msX5_bitOf lX5_130 (ct_X5_bitOf l K a0 h0 e) (by decide) (by decide) rfl (by decide) rfl hl.1 dX5_bitAt_12) (by decide) hp (fun v2 h2 H locs X hp => ?_)
      refine lv_goto (tgt := 25) C.1 C.2.1 dX5_bitAt_15 (by decide) ?_
      exact w_reti C X hr hlk (by decide) dX5_bitAt_25 hp
  · have hp := if_p _ c1 hp
    refine lv_iconst (v := 0) C.1 C.2.1 dX5_bitAt_4 (by decide) ?_
    exact w_reti C X hr hlk (by decide) dX5_bitAt_5 hp

abbrev rmX5_wayOf : Room := { frames := 2, cells := 0, slots := 0, locals := 41 }
def P_X5_wayOf (a0 : Int32) (a1 : Int32) (h0 : Hp) : Option (Int32 × Hp) :=
    ci (P_X5_bitAt a1 1 h0) fun v1 h1 =>
    if (a0 &&& v1) = 0 then (
    ci (P_X5_bitAt a1 2 h1) fun v2 h2 =>
    if (a0 &&& v2) = 0 then (
    some (0, h2))
    else (
    some (2, h2)))
    else (
    some (1, h1))

set_option maxHeartbeats 4000000 in
set_option maxRecDepth 100000 in
theorem ct_X5_wayOf (l : Launch) (K : Kt) (a0 : Int32) (a1 : Int32) (h0 : Hp) {r : Int32} {h' : Hp} (hp : P_X5_wayOf a0 a1 h0 = some (r, h')) : CT l K yX5_wayOf cX5_wayOf 2 (some FieldType.int) rmX5_wayOf [.int a0, .int a1] h0 (Qi K r h') := by
  refine ct_of (own := RX5) (by decide +kernel) rfl (Nat.le_of_ble_eq_true rfl) ?_
  intro p e s m args below meth c C X hr hlk hm ls hl
  have hl : lv_has ls 2 [(0, .int a0), (1, .int a1)] := hl
  unfold P_X5_wayOf at hp
  refine lv_iload_n C.1 C.2.1 dX5_wayOf_0 rfl (lv_at hl 0 rfl) ?_
  refine lv_iload_n C.1 C.2.1 dX5_wayOf_1 rfl (lv_at hl 1 rfl) ?_
  refine lv_iconst (v := 1) C.1 C.2.1 dX5_wayOf_2 (by decide) ?_
  refine w_ci (cells' := 0) (slots' := 0) X (fun _ _ e => run_S (As := [.int a1, .int 1]) C X mX5_bitAt msX5_bitAt lX5_265 (ct_X5_bitAt l K a1 1 h0 e) (by decide) (by decide) rfl (Nat.le_of_ble_eq_true rfl) rfl hl.1 dX5_wayOf_3) (by decide) hp (fun v1 h1 H locs X hp => ?_)
  refine lv_iand C.1 C.2.1 dX5_wayOf_6 ?_
  refine lv_if_eq (tgt := 12) C.1 C.2.1 dX5_wayOf_7 (by decide) (fun c1 => ?_) (fun c1 => ?_)
  · have hp := if_p _ c1 hp
    refine lv_iload_n C.1 C.2.1 dX5_wayOf_12 rfl (lv_at hl 0 rfl) ?_
    refine lv_iload_n C.1 C.2.1 dX5_wayOf_13 rfl (lv_at hl 1 rfl) ?_
    refine lv_iconst (v := 2) C.1 C.2.1 dX5_wayOf_14 (by decide) ?_
    refine w_ci (cells' := 0) (slots' := 0) X (fun _ _ e => run_S (As := [.int a1, .int 2]) C X mX5_bitAt msX5_bitAt lX5_265 (ct_X5_bitAt l K a1 2 h1 e) (by decide) (by decide) rfl (Nat.le_of_ble_eq_true rfl) rfl hl.1 dX5_wayOf_15) (by decide) hp (fun v2 h2 H locs X hp => ?_)
    refine lv_iand C.1 C.2.1 dX5_wayOf_18 ?_
    refine lv_if_eq (tgt := 26) C.1 C.2.1 dX5_wayOf_19 (by decide) (fun c2 => ?_) (fun c2 => ?_)
    · have hp := if_p _ c2 hp
      refine lv_iconst (v := 0) C.1 C.2.1 dX5_wayOf_26 (by decide) ?_
      exact w_reti C X hr hlk (by decide) dX5_wayOf_27 hp
    · have hp := if_n _ c2 hp
      refine lv_iconst (v := 2) C.1 C.2.1 dX5_wayOf_22 (by decide) ?_
      refine lv_goto (tgt := 27) C.1 C.2.1 dX5_wayOf_23 (by decide) ?_
      exact w_reti C X hr hlk (by decide) dX5_wayOf_27 hp
  · have hp := if_n _ c1 hp
    refine lv_iconst (v := 1) C.1 C.2.1 dX5_wayOf_10 (by decide) ?_
    exact w_reti C X hr hlk (by decide) dX5_wayOf_11 hp

abbrev rmX0_wishFor : Room := { frames := 3, cells := 0, slots := 0, locals := 62 }
def P_X0_wishFor (p0 : Nat) (a1 : Int32) (h0 : Hp) : Option (Int32 × Hp) :=
    gi h0 p0 0 5 fun v1 =>
    ci (P_X5_bitOf a1 h0) fun v2 h1 =>
    if (v1 &&& v2) = 0 then (
    some (9, h1))
    else (
    gi h1 p0 0 6 fun v3 =>
    ci (P_X5_wayOf v3 a1 h1) fun v4 h2 =>
    some (v4, h2))

set_option maxHeartbeats 4000000 in
set_option maxRecDepth 100000 in
theorem ct_X0_wishFor (l : Launch) (K : Kt) (p0 : Nat) (a1 : Int32) (h0 : Hp) {r : Int32} {h' : Hp} (hp : P_X0_wishFor p0 a1 h0 = some (r, h')) : CT l K yX0_wishFor cX0_wishFor 2 (some FieldType.int) rmX0_wishFor [.ref (K.1 + p0), .int a1] h0 (Qi K r h') := by
  refine ct_of (own := RX0) (by decide +kernel) rfl (Nat.le_of_ble_eq_true rfl) ?_
  intro p e s m args below meth c C X hr hlk hm ls hl
  have hl : lv_has ls 2 [(0, .ref (K.1 + p0)), (1, .int a1)] := hl
  unfold P_X0_wishFor at hp
  refine lv_aload_n C.1 C.2.1 dX0_wishFor_0 rfl (lv_at hl 0 rfl) ?_
  refine w_gi C X fX0_34 rfl dX0_wishFor_1 hp (fun v1 hp => ?_)
  refine lv_iload_n C.1 C.2.1 dX0_wishFor_4 rfl (lv_at hl 1 rfl) ?_
  refine w_ci (cells' := 0) (slots' := 0) X (fun _ _ e => run_SN (As := [.int a1]) C X mX5_bitOf msX5_bitOf lX0_49 (ct_X5_bitOf l K a1 h0 e) (by decide) (by decide) rfl (Nat.le_of_ble_eq_true rfl) rfl hl.1 dX0_wishFor_5) (by decide) hp (fun v2 h1 H locs X hp => ?_)
  refine lv_iand C.1 C.2.1 dX0_wishFor_8 ?_
  refine lv_if_ne (tgt := 17) C.1 C.2.1 dX0_wishFor_9 (by decide) (fun c1 => ?_) (fun c1 => ?_)
  · have hp := if_n _ c1 hp
    refine lv_aload_n C.1 C.2.1 dX0_wishFor_17 rfl (lv_at hl 0 rfl) ?_
    refine w_gi C X fX0_37 rfl dX0_wishFor_18 hp (fun v3 hp => ?_)
    refine lv_iload_n C.1 C.2.1 dX0_wishFor_21 rfl (lv_at hl 1 rfl) ?_
    refine w_ci (cells' := 0) (slots' := 0) X (fun _ _ e => run_SN (As := [.int v3, .int a1]) C X mX5_wayOf msX5_wayOf lX0_53 (ct_X5_wayOf l K v3 a1 h1 e) (by decide) (by decide) rfl (by decide) rfl hl.1 dX0_wishFor_22) (by decide) hp (fun v4 h2 H locs X hp => ?_)
    exact w_reti C X hr hlk (by decide) dX0_wishFor_25 hp
  · have hp := if_p _ c1 hp
    refine lv_bipush (v := 9) C.1 C.2.1 dX0_wishFor_12 (by decide) ?_
    refine lv_goto (tgt := 25) C.1 C.2.1 dX0_wishFor_14 (by decide) ?_
    exact w_reti C X hr hlk (by decide) dX0_wishFor_25 hp

abbrev rmX0_isWish : Room := { frames := 0, cells := 0, slots := 0, locals := 0 }
def P_X0_isWish (p0 : Nat) (a1 : Int32) (h0 : Hp) : Option (Int32 × Hp) :=
    gi h0 p0 0 5 fun v1 =>
    gi h0 p0 0 6 fun v2 =>
    if (a1 &&& v1) = v2 then (
    some (1, h0))
    else (
    some (0, h0))

set_option maxHeartbeats 4000000 in
set_option maxRecDepth 100000 in
theorem ct_X0_isWish (l : Launch) (K : Kt) (p0 : Nat) (a1 : Int32) (h0 : Hp) {r : Int32} {h' : Hp} (hp : P_X0_isWish p0 a1 h0 = some (r, h')) : CT l K yX0_isWish cX0_isWish 2 (some FieldType.boolean) rmX0_isWish [.ref (K.1 + p0), .int a1] h0 (Qi K r h') := by
  refine ct_of (own := RX0) (by decide +kernel) rfl (Nat.le_of_ble_eq_true rfl) ?_
  intro p e s m args below meth c C X hr hlk hm ls hl
  have hl : lv_has ls 2 [(0, .ref (K.1 + p0)), (1, .int a1)] := hl
  unfold P_X0_isWish at hp
  refine lv_iload_n C.1 C.2.1 dX0_isWish_0 rfl (lv_at hl 1 rfl) ?_
  refine lv_aload_n C.1 C.2.1 dX0_isWish_1 rfl (lv_at hl 0 rfl) ?_
  refine w_gi C X fX0_34 rfl dX0_isWish_2 hp (fun v1 hp => ?_)
  refine lv_iand C.1 C.2.1 dX0_isWish_5 ?_
  refine lv_aload_n C.1 C.2.1 dX0_isWish_6 rfl (lv_at hl 0 rfl) ?_
  refine w_gi C X fX0_37 rfl dX0_isWish_7 hp (fun v2 hp => ?_)
  refine lv_icmp_ne (tgt := 17) C.1 C.2.1 dX0_isWish_10 (by decide) (fun c1 => ?_) (fun c1 => ?_)
  · have hp := if_n _ c1 hp
    refine lv_iconst (v := 0) C.1 C.2.1 dX0_isWish_17 (by decide) ?_
    exact w_retz C X hr hlk (by decide) (by decide) dX0_isWish_18 hp
  · have hp := if_p _ c1 hp
    refine lv_iconst (v := 1) C.1 C.2.1 dX0_isWish_13 (by decide) ?_
    refine lv_goto (tgt := 18) C.1 C.2.1 dX0_isWish_14 (by decide) ?_
    exact w_retz C X hr hlk (by decide) (by decide) dX0_isWish_18 hp

abbrev rmX0_stateOf : Room := { frames := 3, cells := 0, slots := 0, locals := 62 }
def P_X0_stateOf_L7 : Nat → Nat → Int32 → Int32 → Int32 → Hp → Option (Int32 × Hp)
  | 0, _, _, _, _, _ => none
  | n + 1, q1, v4, v5, v6, h1 =>
    if v6 < 1 then (
    some (v5, h1))
    else (
    gi h1 q1 0 1 fun v7 =>
    ci (P_X5_wayOf v4 v6 h1) fun v8 h2 =>
    lt (((v5 * v7) + v8) : Int32) fun v9 =>
    lt ((v6 + (-1)) : Int32) fun v10 =>
    P_X0_stateOf_L7 n q1 v4 v9 v10 h2)

def P_X0_stateOf (p0 : Nat) (a1 : Int32) (h0 : Hp) : Option (Int32 × Hp) :=
    lt (0 : Int32) fun v1 =>
    gi h0 p0 0 0 fun v2 =>
    lt (v2 : Int32) fun v3 =>
    P_X0_stateOf_L7 FU p0 a1 v1 v3 h0

set_option maxHeartbeats 4000000 in
set_option maxRecDepth 100000 in
theorem wl_X0_stateOf_L7 (C : CX K p m c cX0_stateOf 4 s args RX0) (hr : meth.sig.returnType = (some FieldType.int)) (hlk : meth.locks = false) {r : Int32} {h' : Hp} : ∀ (n : Nat) (q1 : Nat) (v4 : Int32) (v5 : Int32) (v6 : Int32) (h1 : Hp) (H : Heap) (locs : List Loc) (ls : Array Slot), HX K s.heap H locs h1 → lv_has ls 4 [(0, .ref (K.1 + q1)), (1, .int v4), (2, .int v5), (3, .int v6)] → P_X0_stateOf_L7 n q1 v4 v5 v6 h1 = some (r, h') → W p l e rmX0_stateOf s m args below meth c H locs 0 0 (MQ below (Qi K r h') args s rmX0_stateOf.cells rmX0_stateOf.slots (KA K)) (F0 m 7 ls []) := by
  intro n
  induction n with
  | zero =>
    intro  q1 v4 v5 v6 h1 H locs ls X hl hp
    cases hp
  | succ n ih =>
    intro  q1 v4 v5 v6 h1 H locs ls X hl hp
    unfold P_X0_stateOf_L7 at hp
    refine lv_iload_n C.1 C.2.1 dX0_stateOf_7 rfl (lv_at hl 3 rfl) ?_
    refine lv_iconst (v := 1) C.1 C.2.1 dX0_stateOf_8 (by decide) ?_
    refine lv_icmp_lt (tgt := 31) C.1 C.2.1 dX0_stateOf_9 (by decide) (fun c1 => ?_) (fun c1 => ?_)
    · have hp := if_p _ c1 hp
      refine lv_iload_n C.1 C.2.1 dX0_stateOf_31 rfl (lv_at hl 2 rfl) ?_
      exact w_reti C X hr hlk (by decide) dX0_stateOf_32 hp
    · have hp := if_n _ c1 hp
      refine lv_iload_n C.1 C.2.1 dX0_stateOf_12 rfl (lv_at hl 2 rfl) ?_
      refine lv_aload_n C.1 C.2.1 dX0_stateOf_13 rfl (lv_at hl 0 rfl) ?_
      refine w_gi C X fX0_15 rfl dX0_stateOf_14 hp (fun v7 hp => ?_)
      refine lv_imul C.1 C.2.1 dX0_stateOf_17 ?_
      refine lv_iload_n C.1 C.2.1 dX0_stateOf_18 rfl (lv_at hl 1 rfl) ?_
      refine lv_iload_n C.1 C.2.1 dX0_stateOf_19 rfl (lv_at hl 3 rfl) ?_
      refine w_ci (cells' := 0) (slots' := 0) X (fun _ _ e => run_SN (As := [.int v4, .int v6]) C X mX5_wayOf msX5_wayOf lX0_53 (ct_X5_wayOf l K v4 v6 h1 e) (by decide) (by decide) rfl (Nat.le_of_ble_eq_true rfl) rfl hl.1 dX0_stateOf_20) (by decide) hp (fun v8 h2 H locs X hp => ?_)
      refine lv_iadd C.1 C.2.1 dX0_stateOf_23 ?_
      refine w_istn C (fun v => [(2, .int (v)), (0, .ref (K.1 + q1)), (1, .int v4), (3, .int v6)]) dX0_stateOf_24 rfl hl (by decide) (fun _ => rfl) hp (fun v9 ls hl hp => ?_)
      refine w_inc (k := 3) C (fun v => [(3, .int (v)), (2, .int v9), (0, .ref (K.1 + q1)), (1, .int v4)]) dX0_stateOf_25 hl rfl (y := (v6 + (-1))) rfl (by decide) (fun _ => rfl) hp (fun v10 ls hl hp => ?_)
      refine lv_goto (tgt := 7) C.1 C.2.1 dX0_stateOf_28 (by decide) ?_
      exact ih _ _ _ _ _ _ _ _ X (lv_sub hl [2, 3, 1, 0] rfl) hp

set_option maxHeartbeats 4000000 in
set_option maxRecDepth 100000 in
theorem ct_X0_stateOf (l : Launch) (K : Kt) (p0 : Nat) (a1 : Int32) (h0 : Hp) {r : Int32} {h' : Hp} (hp : P_X0_stateOf p0 a1 h0 = some (r, h')) : CT l K yX0_stateOf cX0_stateOf 4 (some FieldType.int) rmX0_stateOf [.ref (K.1 + p0), .int a1] h0 (Qi K r h') := by
  refine ct_of (own := RX0) (by decide +kernel) rfl (Nat.le_of_ble_eq_true rfl) ?_
  intro p e s m args below meth c C X hr hlk hm ls hl
  have hl : lv_has ls 4 [(0, .ref (K.1 + p0)), (1, .int a1)] := hl
  unfold P_X0_stateOf at hp
  refine lv_iconst (v := 0) C.1 C.2.1 dX0_stateOf_0 (by decide) ?_
  refine w_istn C (fun v => [(2, .int (v)), (0, .ref (K.1 + p0)), (1, .int a1)]) dX0_stateOf_1 rfl hl (by decide) (fun _ => rfl) hp (fun v1 ls hl hp => ?_)
  refine lv_aload_n C.1 C.2.1 dX0_stateOf_2 rfl (lv_at hl 1 rfl) ?_
  refine w_gi C X fX0_9 rfl dX0_stateOf_3 hp (fun v2 hp => ?_)
  refine w_istn C (fun v => [(3, .int (v)), (2, .int v1), (0, .ref (K.1 + p0)), (1, .int a1)]) dX0_stateOf_6 rfl hl (by decide) (fun _ => rfl) hp (fun v3 ls hl hp => ?_)
  exact wl_X0_stateOf_L7 C hr hlk _ _ _ _ _ _ _ _ _ X (lv_sub hl [2, 3, 1, 0] rfl) hp

abbrev rmX0_goerOf : Room := { frames := 0, cells := 0, slots := 0, locals := 0 }
def P_X0_goerOf (p0 : Nat) (a1 : Int32) (h0 : Hp) : Option (Option Nat × Hp) :=
    if a1 < 0 then (
    some (none, h0))
    else (
    gi h0 p0 0 2 fun v1 =>
    if v1 ≤ a1 then (
    some (none, h0))
    else (
    gr h0 p0 0 3 fun q1 =>
    ln h0 q1 fun v2 =>
    if v2 ≤ a1 then (
    some (none, h0))
    else (
    gr h0 p0 0 3 fun q2 =>
    rl h0 q2 a1 fun o1 =>
    some (o1, h0))))

set_option maxHeartbeats 4000000 in
set_option maxRecDepth 100000 in
theorem ct_X0_goerOf (l : Launch) (K : Kt) (p0 : Nat) (a1 : Int32) (h0 : Hp) {r : Option Nat} {h' : Hp} (hp : P_X0_goerOf p0 a1 h0 = some (r, h')) : CT l K yX0_goerOf cX0_goerOf 2 (some (FieldType.object "TurnsMultiples$Goer")) rmX0_goerOf [.ref (K.1 + p0), .int a1] h0 (Qq K r h') := by
  refine ct_of (own := RX0) (by decide +kernel) rfl (Nat.le_of_ble_eq_true rfl) ?_
  intro p e s m args below meth c C X hr hlk hm ls hl
  have hl : lv_has ls 2 [(0, .ref (K.1 + p0)), (1, .int a1)] := hl
  unfold P_X0_goerOf at hp
  refine lv_iload_n C.1 C.2.1 dX0_goerOf_0 rfl (lv_at hl 1 rfl) ?_
  refine lv_if_lt (tgt := 30) C.1 C.2.1 dX0_goerOf_1 (by decide) (fun c1 => ?_) (fun c1 => ?_)
  · have hp := if_p _ c1 hp
    refine lv_null C.1 C.2.1 dX0_goerOf_30 ?_
    exact w_retq (v := none) C X hr hlk (by decide) dX0_goerOf_31 hp
  · have hp := if_n _ c1 hp
    refine lv_iload_n C.1 C.2.1 dX0_goerOf_4 rfl (lv_at hl 1 rfl) ?_
    refine lv_aload_n C.1 C.2.1 dX0_goerOf_5 rfl (lv_at hl 0 rfl) ?_
    refine w_gi C X fX0_28 rfl dX0_goerOf_6 hp (fun v1 hp => ?_)
    refine lv_icmp_ge (tgt := 30) C.1 C.2.1 dX0_goerOf_9 (by decide) (fun c2 => ?_) (fun c2 => ?_)
    · have hp := if_p _ c2 hp
      refine lv_null C.1 C.2.1 dX0_goerOf_30 ?_
      exact w_retq (v := none) C X hr hlk (by decide) dX0_goerOf_31 hp
    · have hp := if_n _ c2 hp
      refine lv_iload_n C.1 C.2.1 dX0_goerOf_12 rfl (lv_at hl 1 rfl) ?_
      refine lv_aload_n C.1 C.2.1 dX0_goerOf_13 rfl (lv_at hl 0 rfl) ?_
      refine w_gr C X fX0_20 rfl dX0_goerOf_14 hp (fun q1 hp => ?_)
      refine w_ln C X dX0_goerOf_17 hp (fun v2 hp => ?_)
      refine lv_icmp_ge (tgt := 30) C.1 C.2.1 dX0_goerOf_18 (by decide) (fun c3 => ?_) (fun c3 => ?_)
      · have hp := if_p _ c3 hp
        refine lv_null C.1 C.2.1 dX0_goerOf_30 ?_
        exact w_retq (v := none) C X hr hlk (by decide) dX0_goerOf_31 hp
      · have hp := if_n _ c3 hp
        refine lv_aload_n C.1 C.2.1 dX0_goerOf_21 rfl (lv_at hl 0 rfl) ?_
        refine w_gr C X fX0_20 rfl dX0_goerOf_22 hp (fun q2 hp => ?_)
        refine lv_iload_n C.1 C.2.1 dX0_goerOf_25 rfl (lv_at hl 1 rfl) ?_
        refine w_rl C X dX0_goerOf_26 hp (fun o1 hp => ?_)
        refine lv_goto (tgt := 31) C.1 C.2.1 dX0_goerOf_27 (by decide) ?_
        exact w_retq (v := o1) C X hr hlk (by decide) dX0_goerOf_31 hp

abbrev rmX5_goesInto : Room := { frames := 0, cells := 0, slots := 0, locals := 0 }
def P_X5_goesInto (a0 : Int32) (a1 : Int32) (h0 : Hp) : Option (Int32 × Hp) :=
    if a0 ≤ 0 then (
    some (0, h0))
    else (
    nz a0 <|
    if (jrem a1 a0) = 0 then (
    some (1, h0))
    else (
    some (0, h0)))

set_option maxHeartbeats 4000000 in
set_option maxRecDepth 100000 in
theorem ct_X5_goesInto (l : Launch) (K : Kt) (a0 : Int32) (a1 : Int32) (h0 : Hp) {r : Int32} {h' : Hp} (hp : P_X5_goesInto a0 a1 h0 = some (r, h')) : CT l K yX5_goesInto cX5_goesInto 2 (some FieldType.boolean) rmX5_goesInto [.int a0, .int a1] h0 (Qi K r h') := by
  refine ct_of (own := RX5) (by decide +kernel) rfl (Nat.le_of_ble_eq_true rfl) ?_
  intro p e s m args below meth c C X hr hlk hm ls hl
  have hl : lv_has ls 2 [(0, .int a0), (1, .int a1)] := hl
  unfold P_X5_goesInto at hp
  refine lv_iload_n C.1 C.2.1 dX5_goesInto_0 rfl (lv_at hl 0 rfl) ?_
  refine lv_if_le (tgt := 14) C.1 C.2.1 dX5_goesInto_1 (by decide) (fun c1 => ?_) (fun c1 => ?_)
  · have hp := if_p _ c1 hp
    refine lv_iconst (v := 0) C.1 C.2.1 dX5_goesInto_14 (by decide) ?_
    exact w_retz C X hr hlk (by decide) (by decide) dX5_goesInto_15 hp
  · have hp := if_n _ c1 hp
    refine lv_iload_n C.1 C.2.1 dX5_goesInto_4 rfl (lv_at hl 1 rfl) ?_
    refine lv_iload_n C.1 C.2.1 dX5_goesInto_5 rfl (lv_at hl 0 rfl) ?_
    have hz := (nz_some hp).1
    have hp := (nz_some hp).2
    refine w_rem C dX5_goesInto_6 hz ?_
    refine lv_if_ne (tgt := 14) C.1 C.2.1 dX5_goesInto_7 (by decide) (fun c2 => ?_) (fun c2 => ?_)
    · have hp := if_n _ c2 hp
      refine lv_iconst (v := 0) C.1 C.2.1 dX5_goesInto_14 (by decide) ?_
      exact w_retz C X hr hlk (by decide) (by decide) dX5_goesInto_15 hp
    · have hp := if_p _ c2 hp
      refine lv_iconst (v := 1) C.1 C.2.1 dX5_goesInto_10 (by decide) ?_
      refine lv_goto (tgt := 15) C.1 C.2.1 dX5_goesInto_11 (by decide) ?_
      exact w_retz C X hr hlk (by decide) (by decide) dX5_goesInto_15 hp

abbrev rmX2_isGoerTo : Room := { frames := 1, cells := 0, slots := 0, locals := 21 }
def P_X2_isGoerTo (p0 : Nat) (a1 : Int32) (h0 : Hp) : Option (Int32 × Hp) :=
    gi h0 p0 2 1 fun v1 =>
    ci (P_X5_goesInto v1 a1 h0) fun v2 h1 =>
    lt (v2 : Int32) fun v3 =>
    gi h1 p0 2 2 fun v4 =>
    ci (P_X5_goesInto v4 a1 h1) fun v5 h2 =>
    lt (v5 : Int32) fun v6 =>
    gi h2 p0 2 0 fun v7 =>
    if v7 = 0 then (
    bz v3 <| some (v3, h2))
    else if v7 = 1 then (
    gi h2 p0 2 1 fun v8 =>
    ci (P_X5_goesInto a1 v8 h2) fun v9 h3 =>
    bz v9 <| some (v9, h3))
    else if v7 = 2 then (
    if v3 = 0 then (
    some (0, h2))
    else (
    if v6 = 0 then (
    some (0, h2))
    else (
    some (1, h2))))
    else if v7 = 3 then (
    if v3 = 0 then (
    if v6 = 0 then (
    some (0, h2))
    else (
    some (1, h2)))
    else (
    some (1, h2)))
    else if v7 = 4 then (
    if v3 = v6 then (
    some (0, h2))
    else (
    some (1, h2)))
    else if v7 = 5 then (
    gi h2 p0 2 1 fun v10 =>
    if a1 < v10 then (
    some (0, h2))
    else (
    gi h2 p0 2 2 fun v11 =>
    if v11 < a1 then (
    some (0, h2))
    else (
    some (1, h2))))
    else (
    some (0, h2))

set_option maxHeartbeats 4000000 in
set_option maxRecDepth 100000 in
theorem ct_X2_isGoerTo (l : Launch) (K : Kt) (p0 : Nat) (a1 : Int32) (h0 : Hp) {r : Int32} {h' : Hp} (hp : P_X2_isGoerTo p0 a1 h0 = some (r, h')) : CT l K yX2_isGoerTo cX2_isGoerTo 4 (some FieldType.boolean) rmX2_isGoerTo [.ref (K.1 + p0), .int a1] h0 (Qi K r h') := by
  refine ct_of (own := RX2) (by decide +kernel) rfl (Nat.le_of_ble_eq_true rfl) ?_
  intro p e s m args below meth c C X hr hlk hm ls hl
  have hl : lv_has ls 4 [(0, .ref (K.1 + p0)), (1, .int a1)] := hl
  unfold P_X2_isGoerTo at hp
  refine lv_aload_n C.1 C.2.1 dX2_isGoerTo_0 rfl (lv_at hl 0 rfl) ?_
  refine w_gi C X fX2_13 rfl dX2_isGoerTo_1 hp (fun v1 hp => ?_)
  refine lv_iload_n C.1 C.2.1 dX2_isGoerTo_4 rfl (lv_at hl 1 rfl) ?_
  refine w_ci (cells' := 0) (slots' := 0) X (fun _ _ e => run_SN (As := [.int v1, .int a1]) C X mX5_goesInto msX5_goesInto lX2_22 (ct_X5_goesInto l K v1 a1 h0 e) (by decide) (by decide) rfl (by decide) rfl hl.1 dX2_isGoerTo_5) (by decide) hp (fun v2 h1 H locs X hp => ?_)
  refine w_istn C (fun v => [(2, .int (v)), (0, .ref (K.1 + p0)), (1, .int a1)]) dX2_isGoerTo_8 rfl hl (by decide) (fun _ => rfl) hp (fun v3 ls hl hp => ?_)
  refine lv_aload_n C.1 C.2.1 dX2_isGoerTo_9 rfl (lv_at hl 1 rfl) ?_
  refine w_gi C X fX2_16 rfl dX2_isGoerTo_10 hp (fun v4 hp => ?_)
  refine lv_iload_n C.1 C.2.1 dX2_isGoerTo_13 rfl (lv_at hl 2 rfl) ?_
  refine w_ci (cells' := 0) (slots' := 0) X (fun _ _ e => run_SN (As := [.int v4, .int a1]) C X mX5_goesInto msX5_goesInto lX2_22 (ct_X5_goesInto l K v4 a1 h1 e) (by decide) (by decide) rfl (by decide) rfl hl.1 dX2_isGoerTo_14) (by decide) hp (fun v5 h2 H locs X hp => ?_)
  refine w_istn C (fun v => [(3, .int (v)), (2, .int v3), (0, .ref (K.1 + p0)), (1, .int a1)]) dX2_isGoerTo_17 rfl hl (by decide) (fun _ => rfl) hp (fun v6 ls hl hp => ?_)
  refine lv_aload_n C.1 C.2.1 dX2_isGoerTo_18 rfl (lv_at hl 2 rfl) ?_
  refine w_gi C X fX2_7 rfl dX2_isGoerTo_19 hp (fun v7 hp => ?_)
  by_cases c1 : v7 = 0
  · have hp := if_p _ c1 hp
    refine w_tsC (tgt := 60) C dX2_isGoerTo_22 c1 (by decide) (by decide) rfl (by decide) ?_
    refine lv_iload_n C.1 C.2.1 dX2_isGoerTo_60 rfl (lv_at hl 1 rfl) ?_
    exact w_retz C X hr hlk (by decide) (bz_some hp).1 dX2_isGoerTo_61 (bz_some hp).2
  · have hp := if_n _ c1 hp
    by_cases c2 : v7 = 1
    · have hp := if_p _ c2 hp
      refine w_tsC (tgt := 62) C dX2_isGoerTo_22 c2 (by decide) (by decide) rfl (by decide) ?_
      refine lv_iload_n C.1 C.2.1 dX2_isGoerTo_62 rfl (lv_at hl 3 rfl) ?_
      refine lv_aload_n C.1 C.2.1 dX2_isGoerTo_63 rfl (lv_at hl 2 rfl) ?_
      refine w_gi C X fX2_13 rfl dX2_isGoerTo_64 hp (fun v8 hp => ?_)
      refine w_ci (cells' := 0) (slots' := 0) X (fun _ _ e => run_SN (As := [.int a1, .int v8]) C X mX5_goesInto msX5_goesInto lX2_22 (ct_X5_goesInto l K a1 v8 h2 e) (by decide) (by decide) rfl (by decide) rfl hl.1 dX2_isGoerTo_67) (by decide) hp (fun v9 h3 H locs X hp => ?_)
      exact w_retz C X hr hlk (by decide) (bz_some hp).1 dX2_isGoerTo_70 (bz_some hp).2
    · have hp := if_n _ c2 hp
      by_cases c3 : v7 = 2
      · have hp := if_p _ c3 hp
        refine w_tsC (tgt := 71) C dX2_isGoerTo_22 c3 (by decide) (by decide) rfl (by decide) ?_
        refine lv_iload_n C.1 C.2.1 dX2_isGoerTo_71 rfl (lv_at hl 1 rfl) ?_
        refine lv_if_eq (tgt := 83) C.1 C.2.1 dX2_isGoerTo_72 (by decide) (fun c4 => ?_) (fun c4 => ?_)
        · have hp := if_p _ c4 hp
          refine lv_iconst (v := 0) C.1 C.2.1 dX2_isGoerTo_83 (by decide) ?_
          exact w_retz C X hr hlk (by decide) (by decide) dX2_isGoerTo_84 hp
        · have hp := if_n _ c4 hp
          refine lv_iload_n C.1 C.2.1 dX2_isGoerTo_75 rfl (lv_at hl 0 rfl) ?_
          refine lv_if_eq (tgt := 83) C.1 C.2.1 dX2_isGoerTo_76 (by decide) (fun c5 => ?_) (fun c5 => ?_)
          · have hp := if_p _ c5 hp
            refine lv_iconst (v := 0) C.1 C.2.1 dX2_isGoerTo_83 (by decide) ?_
            exact w_retz C X hr hlk (by decide) (by decide) dX2_isGoerTo_84 hp
          · have hp := if_n _ c5 hp
            refine lv_iconst (v := 1) C.1 C.2.1 dX2_isGoerTo_79 (by decide) ?_
            refine lv_goto (tgt := 84) C.1 C.2.1 dX2_isGoerTo_80 (by decide) ?_
            exact w_retz C X hr hlk (by decide) (by decide) dX2_isGoerTo_84 hp
      · have hp := if_n _ c3 hp
        by_cases c6 : v7 = 3
        · have hp := if_p _ c6 hp
          refine w_tsC (tgt := 85) C dX2_isGoerTo_22 c6 (by decide) (by decide) rfl (by decide) ?_
          refine lv_iload_n C.1 C.2.1 dX2_isGoerTo_85 rfl (lv_at hl 1 rfl) ?_
          refine lv_if_ne (tgt := 93) C.1 C.2.1 dX2_isGoerTo_86 (by decide) (fun c7 => ?_) (fun c7 => ?_)
          · have hp := if_n _ c7 hp
            refine lv_iconst (v := 1) C.1 C.2.1 dX2_isGoerTo_93 (by decide) ?_
            refine lv_goto (tgt := 98) C.1 C.2.1 dX2_isGoerTo_94 (by decide) ?_
            exact w_retz C X hr hlk (by decide) (by decide) dX2_isGoerTo_98 hp
          · have hp := if_p _ c7 hp
            refine lv_iload_n C.1 C.2.1 dX2_isGoerTo_89 rfl (lv_at hl 0 rfl) ?_
            refine lv_if_eq (tgt := 97) C.1 C.2.1 dX2_isGoerTo_90 (by decide) (fun c8 => ?_) (fun c8 => ?_)
            · have hp := if_p _ c8 hp
              refine lv_iconst (v := 0) C.1 C.2.1 dX2_isGoerTo_97 (by decide) ?_
              exact w_retz C X hr hlk (by decide) (by decide) dX2_isGoerTo_98 hp
            · have hp := if_n _ c8 hp
              refine lv_iconst (v := 1) C.1 C.2.1 dX2_isGoerTo_93 (by decide) ?_
              refine lv_goto (tgt := 98) C.1 C.2.1 dX2_isGoerTo_94 (by decide) ?_
              exact w_retz C X hr hlk (by decide) (by decide) dX2_isGoerTo_98 hp
        · have hp := if_n _ c6 hp
          by_cases c9 : v7 = 4
          · have hp := if_p _ c9 hp
            refine w_tsC (tgt := 99) C dX2_isGoerTo_22 c9 (by decide) (by decide) rfl (by decide) ?_
            refine lv_iload_n C.1 C.2.1 dX2_isGoerTo_99 rfl (lv_at hl 1 rfl) ?_
            refine lv_iload_n C.1 C.2.1 dX2_isGoerTo_100 rfl (lv_at hl 0 rfl) ?_
            refine lv_icmp_eq (tgt := 108) C.1 C.2.1 dX2_isGoerTo_101 (by decide) (fun c10 => ?_) (fun c10 => ?_)
            · have hp := if_p _ c10 hp
              refine lv_iconst (v := 0) C.1 C.2.1 dX2_isGoerTo_108 (by decide) ?_
              exact w_retz C X hr hlk (by decide) (by decide) dX2_isGoerTo_109 hp
            · have hp := if_n _ c10 hp
              refine lv_iconst (v := 1) C.1 C.2.1 dX2_isGoerTo_104 (by decide) ?_
              refine lv_goto (tgt := 109) C.1 C.2.1 dX2_isGoerTo_105 (by decide) ?_
              exact w_retz C X hr hlk (by decide) (by decide) dX2_isGoerTo_109 hp
          · have hp := if_n _ c9 hp
            by_cases c11 : v7 = 5
            · have hp := if_p _ c11 hp
              refine w_tsC (tgt := 110) C dX2_isGoerTo_22 c11 (by decide) (by decide) rfl (by decide) ?_
              refine lv_iload_n C.1 C.2.1 dX2_isGoerTo_110 rfl (lv_at hl 3 rfl) ?_
              refine lv_aload_n C.1 C.2.1 dX2_isGoerTo_111 rfl (lv_at hl 2 rfl) ?_
              refine w_gi C X fX2_13 rfl dX2_isGoerTo_112 hp (fun v10 hp => ?_)
              refine lv_icmp_lt (tgt := 130) C.1 C.2.1 dX2_isGoerTo_115 (by decide) (fun c12 => ?_) (fun c12 => ?_)
              · have hp := if_p _ c12 hp
                refine lv_iconst (v := 0) C.1 C.2.1 dX2_isGoerTo_130 (by decide) ?_
                exact w_retz C X hr hlk (by decide) (by decide) dX2_isGoerTo_131 hp
              · have hp := if_n _ c12 hp
                refine lv_iload_n C.1 C.2.1 dX2_isGoerTo_118 rfl (lv_at hl 3 rfl) ?_
                refine lv_aload_n C.1 C.2.1 dX2_isGoerTo_119 rfl (lv_at hl 2 rfl) ?_
                refine w_gi C X fX2_16 rfl dX2_isGoerTo_120 hp (fun v11 hp => ?_)
                refine lv_icmp_gt (tgt := 130) C.1 C.2.1 dX2_isGoerTo_123 (by decide) (fun c13 => ?_) (fun c13 => ?_)
                · have hp := if_p _ c13 hp
                  refine lv_iconst (v := 0) C.1 C.2.1 dX2_isGoerTo_130 (by decide) ?_
                  exact w_retz C X hr hlk (by decide) (by decide) dX2_isGoerTo_131 hp
                · have hp := if_n _ c13 hp
                  refine lv_iconst (v := 1) C.1 C.2.1 dX2_isGoerTo_126 (by decide) ?_
                  refine lv_goto (tgt := 131) C.1 C.2.1 dX2_isGoerTo_127 (by decide) ?_
                  exact w_retz C X hr hlk (by decide) (by decide) dX2_isGoerTo_131 hp
            · have hp := if_n _ c11 hp
              refine w_tsD (tgt := 132) C [0, 1, 2, 3, 4, 5] dX2_isGoerTo_22 (by intro k hk; simp only [List.mem_cons, List.not_mem_nil, or_false] at hk; rcases hk with hk | hk | hk | hk | hk | hk <;> subst hk <;> assumption) (by decide) (by decide) (by decide) ?_
              refine lv_iconst (v := 0) C.1 C.2.1 dX2_isGoerTo_132 (by decide) ?_
              exact w_retz C X hr hlk (by decide) (by decide) dX2_isGoerTo_133 hp

abbrev rmX0_turnsOf : Room := { frames := 2, cells := 0, slots := 0, locals := 44 }
def P_X0_turnsOf_L15 : Nat → Nat → Nat → Int32 → Int32 → Hp → Option (Int32 × Hp)
  | 0, _, _, _, _, _ => none
  | n + 1, q2, q3, v5, v6, h2 =>
    gi h2 q2 0 0 fun v7 =>
    if v7 < v6 then (
    gi h2 q2 0 4 fun v8 =>
    some ((v5 &&& (v8 ^^^ (-1))), h2))
    else (
    rc h2 q3 2 <| ci (P_X2_isGoerTo q3 v6 h2) fun v9 h3 =>
    if v9 = 0 then (
    lt ((v6 + 1) : Int32) fun v10 =>
    P_X0_turnsOf_L15 n q2 q3 v5 v10 h3)
    else (
    ci (P_X5_bitOf v6 h3) fun v11 h4 =>
    lt ((v5 ||| v11) : Int32) fun v12 =>
    lt ((v6 + 1) : Int32) fun v13 =>
    P_X0_turnsOf_L15 n q2 q3 v12 v13 h4))

def P_X0_turnsOf (p0 : Nat) (a1 : Int32) (h0 : Hp) : Option (Int32 × Hp) :=
    rc h0 p0 0 <| ci (P_X0_goerOf p0 a1 h0) fun o1 h1 =>
    nn o1 (
    lt (0 : Int32) fun v1 =>
    gi h1 p0 0 4 fun v2 =>
    some ((v1 &&& (v2 ^^^ (-1))), h1)) fun q1 =>
    lt (0 : Int32) fun v3 =>
    lt (1 : Int32) fun v4 =>
    P_X0_turnsOf_L15 FU p0 q1 v3 v4 h1

set_option maxHeartbeats 4000000 in
set_option maxRecDepth 100000 in
theorem wl_X0_turnsOf_L15 (C : CX K p m c cX0_turnsOf 5 s args RX0) (hr : meth.sig.returnType = (some FieldType.int)) (hlk : meth.locks = false) {r : Int32} {h' : Hp} : ∀ (n : Nat) (q2 : Nat) (q3 : Nat) (v5 : Int32) (v6 : Int32) (h2 : Hp) (H : Heap) (locs : List Loc) (ls : Array Slot), HX K s.heap H locs h2 → lv_has ls 5 [(0, .ref (K.1 + q2)), (2, .ref (K.1 + q3)), (3, .int v5), (4, .int v6)] → P_X0_turnsOf_L15 n q2 q3 v5 v6 h2 = some (r, h') → W p l e rmX0_turnsOf s m args below meth c H locs 0 0 (MQ below (Qi K r h') args s rmX0_turnsOf.cells rmX0_turnsOf.slots (KA K)) (F0 m 15 ls []) := by
  intro n
  induction n with
  | zero =>
    intro  q2 q3 v5 v6 h2 H locs ls X hl hp
    cases hp
  | succ n ih =>
    intro  q2 q3 v5 v6 h2 H locs ls X hl hp
    unfold P_X0_turnsOf_L15 at hp
    refine lv_iload C.1 C.2.1 dX0_turnsOf_15 (lv_at hl 3 rfl) ?_
    refine lv_aload_n C.1 C.2.1 dX0_turnsOf_17 rfl (lv_at hl 0 rfl) ?_
    refine w_gi C X fX0_9 rfl dX0_turnsOf_18 hp (fun v7 hp => ?_)
    refine lv_icmp_gt (tgt := 47) C.1 C.2.1 dX0_turnsOf_21 (by decide) (fun c1 => ?_) (fun c1 => ?_)
    · have hp := if_p _ c1 hp
      refine lv_iload_n C.1 C.2.1 dX0_turnsOf_47 rfl (lv_at hl 2 rfl) ?_
      refine lv_aload_n C.1 C.2.1 dX0_turnsOf_48 rfl (lv_at hl 0 rfl) ?_
      refine w_gi C X fX0_31 rfl dX0_turnsOf_49 hp (fun v8 hp => ?_)
      refine lv_iconst (v := -1) C.1 C.2.1 dX0_turnsOf_52 (by decide) ?_
      refine lv_ixor C.1 C.2.1 dX0_turnsOf_53 ?_
      refine lv_iand C.1 C.2.1 dX0_turnsOf_54 ?_
      exact w_reti C X hr hlk (by decide) dX0_turnsOf_55 hp
    · have hp := if_n _ c1 hp
      refine lv_aload_n C.1 C.2.1 dX0_turnsOf_24 rfl (lv_at hl 1 rfl) ?_
      refine lv_iload C.1 C.2.1 dX0_turnsOf_25 (lv_at hl 3 rfl) ?_
      have hrc := (rc_some hp).1
      have hp := (rc_some hp).2
      refine w_ci (cells' := 0) (slots' := 0) X (fun _ _ e => run_VN (As := [.int v6]) (c0 := 2) C X mX2_isGoerTo miX2_isGoerTo lX0_61 (by decide) rfl hrc (ct_X2_isGoerTo l K q3 v6 h2 e) (by decide) (by decide) rfl (by decide) rfl hl.1 dX0_turnsOf_27) (by decide) hp (fun v9 h3 H locs X hp => ?_)
      refine lv_if_eq (tgt := 41) C.1 C.2.1 dX0_turnsOf_30 (by decide) (fun c2 => ?_) (fun c2 => ?_)
      · have hp := if_p _ c2 hp
        refine w_inc (k := 3) C (fun v => [(4, .int (v)), (0, .ref (K.1 + q2)), (2, .ref (K.1 + q3)), (3, .int v5)]) dX0_turnsOf_41 hl rfl (y := (v6 + 1)) rfl (by decide) (fun _ => rfl) hp (fun v10 ls hl hp => ?_)
        refine lv_goto (tgt := 15) C.1 C.2.1 dX0_turnsOf_44 (by decide) ?_
        exact ih _ _ _ _ _ _ _ _ X (lv_sub hl [1, 2, 3, 0] rfl) hp
      · have hp := if_n _ c2 hp
        refine lv_iload_n C.1 C.2.1 dX0_turnsOf_33 rfl (lv_at hl 2 rfl) ?_
        refine lv_iload C.1 C.2.1 dX0_turnsOf_34 (lv_at hl 3 rfl) ?_
        refine w_ci (cells' := 0) (slots' := 0) X (fun _ _ e => run_SN (As := [.int v6]) C X mX5_bitOf msX5_bitOf lX0_49 (ct_X5_bitOf l K v6 h3 e) (by decide) (by decide) rfl (Nat.le_of_ble_eq_true rfl) rfl hl.1 dX0_turnsOf_36) (by decide) hp (fun v11 h4 H locs X hp => ?_)
        refine lv_ior C.1 C.2.1 dX0_turnsOf_39 ?_
        refine w_istn C (fun v => [(3, .int (v)), (0, .ref (K.1 + q2)), (2, .ref (K.1 + q3)), (4, .int v6)]) dX0_turnsOf_40 rfl hl (by decide) (fun _ => rfl) hp (fun v12 ls hl hp => ?_)
        refine w_inc (k := 3) C (fun v => [(4, .int (v)), (3, .int v12), (0, .ref (K.1 + q2)), (2, .ref (K.1 + q3))]) dX0_turnsOf_41 hl rfl (y := (v6 + 1)) rfl (by decide) (fun _ => rfl) hp (fun v13 ls hl hp => ?_)
        refine lv_goto (tgt := 15) C.1 C.2.1 dX0_turnsOf_44 (by decide) ?_
        exact ih _ _ _ _ _ _ _ _ X (lv_sub hl [2, 3, 1, 0] rfl) hp

set_option maxHeartbeats 4000000 in
set_option maxRecDepth 100000 in
theorem ct_X0_turnsOf (l : Launch) (K : Kt) (p0 : Nat) (a1 : Int32) (h0 : Hp) {r : Int32} {h' : Hp} (hp : P_X0_turnsOf p0 a1 h0 = some (r, h')) : CT l K yX0_turnsOf cX0_turnsOf 5 (some FieldType.int) rmX0_turnsOf [.ref (K.1 + p0), .int a1] h0 (Qi K r h') := by
  refine ct_of (own := RX0) (by decide +kernel) rfl (Nat.le_of_ble_eq_true rfl) ?_
  intro p e s m args below meth c C X hr hlk hm ls hl
  have hl : lv_has ls 5 [(0, .ref (K.1 + p0)), (1, .int a1)] := hl
  unfold P_X0_turnsOf at hp
  refine lv_aload_n C.1 C.2.1 dX0_turnsOf_0 rfl (lv_at hl 0 rfl) ?_
  refine lv_iload_n C.1 C.2.1 dX0_turnsOf_1 rfl (lv_at hl 1 rfl) ?_
  have hrc := (rc_some hp).1
  have hp := (rc_some hp).2
  refine w_cq (cells' := 0) (slots' := 0) X (fun _ _ e => run_V (As := [.int a1]) (c0 := 0) C X mX0_goerOf miX0_goerOf lX0_57 (by decide) rfl hrc (ct_X0_goerOf l K p0 a1 h0 e) (by decide) (by decide) rfl (by decide) rfl hl.1 dX0_turnsOf_2) (by decide) hp (fun o1 h1 H locs X hp => ?_)
  refine w_nn hp (fun hp => ?_) (fun q1 hp => ?_)
  · skip
    refine lv_astore_nN (lv' := [(2, .null), (0, .ref (K.1 + p0)), (1, .int a1)]) C.1 C.2.1 dX0_turnsOf_5 rfl hl (by decide) rfl (fun ls hl => ?_)
    refine lv_iconst (v := 0) C.1 C.2.1 dX0_turnsOf_6 (by decide) ?_
    refine w_istn C (fun v => [(3, .int (v)), (2, .null), (0, .ref (K.1 + p0)), (1, .int a1)]) dX0_turnsOf_7 rfl hl (by decide) (fun _ => rfl) hp (fun v1 ls hl hp => ?_)
    refine lv_aload_nN C.1 C.2.1 dX0_turnsOf_8 rfl (lv_at hl 1 rfl) ?_
    refine lv_ifnullN (tgt := 47) C.1 C.2.1 dX0_turnsOf_9 (by decide) ?_
    refine lv_iload_n C.1 C.2.1 dX0_turnsOf_47 rfl (lv_at hl 0 rfl) ?_
    refine lv_aload_n C.1 C.2.1 dX0_turnsOf_48 rfl (lv_at hl 2 rfl) ?_
    refine w_gi C X fX0_31 rfl dX0_turnsOf_49 hp (fun v2 hp => ?_)
    refine lv_iconst (v := -1) C.1 C.2.1 dX0_turnsOf_52 (by decide) ?_
    refine lv_ixor C.1 C.2.1 dX0_turnsOf_53 ?_
    refine lv_iand C.1 C.2.1 dX0_turnsOf_54 ?_
    exact w_reti C X hr hlk (by decide) dX0_turnsOf_55 hp
  · skip
    refine lv_astore_n (lv' := [(2, .ref (K.1 + q1)), (0, .ref (K.1 + p0)), (1, .int a1)]) C.1 C.2.1 dX0_turnsOf_5 rfl hl (by decide) rfl (fun ls hl => ?_)
    refine lv_iconst (v := 0) C.1 C.2.1 dX0_turnsOf_6 (by decide) ?_
    refine w_istn C (fun v => [(3, .int (v)), (2, .ref (K.1 + q1)), (0, .ref (K.1 + p0)), (1, .int a1)]) dX0_turnsOf_7 rfl hl (by decide) (fun _ => rfl) hp (fun v3 ls hl hp => ?_)
    refine lv_aload_n C.1 C.2.1 dX0_turnsOf_8 rfl (lv_at hl 1 rfl) ?_
    refine lv_ifnull C.1 C.2.1 dX0_turnsOf_9 ?_
    refine lv_iconst (v := 1) C.1 C.2.1 dX0_turnsOf_12 (by decide) ?_
    refine w_ist C (fun v => [(4, .int (v)), (3, .int v3), (2, .ref (K.1 + q1)), (0, .ref (K.1 + p0)), (1, .int a1)]) dX0_turnsOf_13 hl (by decide) (fun _ => rfl) hp (fun v4 ls hl hp => ?_)
    exact wl_X0_turnsOf_L15 C hr hlk _ _ _ _ _ _ _ _ _ X (lv_sub hl [3, 2, 1, 0] rfl) hp

abbrev rmX5_turned : Room := { frames := 0, cells := 0, slots := 0, locals := 0 }
def P_X5_turned (a0 : Int32) (a1 : Int32) (a2 : Int32) (h0 : Hp) : Option (Int32 × Hp) :=
    if a2 = 2 then (
    some ((a0 ^^^ a1), h0))
    else (
    lt ((a0 &&& 4095) : Int32) fun v1 =>
    lt (((jshr a0 12) &&& 4095) : Int32) fun v2 =>
    lt ((4095 &&& ((v1 ||| v2) ^^^ (-1))) : Int32) fun v3 =>
    lt (((v1 &&& (a1 ^^^ (-1))) ||| (v3 &&& a1)) : Int32) fun v4 =>
    lt (((v2 &&& (a1 ^^^ (-1))) ||| (v1 &&& a1)) : Int32) fun v5 =>
    some ((v4 ||| (jshl v5 12)), h0))

set_option maxHeartbeats 4000000 in
set_option maxRecDepth 100000 in
theorem ct_X5_turned (l : Launch) (K : Kt) (a0 : Int32) (a1 : Int32) (a2 : Int32) (h0 : Hp) {r : Int32} {h' : Hp} (hp : P_X5_turned a0 a1 a2 h0 = some (r, h')) : CT l K yX5_turned cX5_turned 8 (some FieldType.int) rmX5_turned [.int a0, .int a1, .int a2] h0 (Qi K r h') := by
  refine ct_of (own := RX5) (by decide +kernel) rfl (Nat.le_of_ble_eq_true rfl) ?_
  intro p e s m args below meth c C X hr hlk hm ls hl
  have hl : lv_has ls 8 [(0, .int a0), (1, .int a1), (2, .int a2)] := hl
  unfold P_X5_turned at hp
  refine lv_iload_n C.1 C.2.1 dX5_turned_0 rfl (lv_at hl 2 rfl) ?_
  refine lv_iconst (v := 2) C.1 C.2.1 dX5_turned_1 (by decide) ?_
  refine lv_icmp_ne (tgt := 9) C.1 C.2.1 dX5_turned_2 (by decide) (fun c1 => ?_) (fun c1 => ?_)
  · have hp := if_n _ c1 hp
    refine lv_iload_n C.1 C.2.1 dX5_turned_9 rfl (lv_at hl 0 rfl) ?_
    refine lv_sipush (v := 4095) C.1 C.2.1 dX5_turned_10 (by decide) ?_
    refine lv_iand C.1 C.2.1 dX5_turned_13 ?_
    refine w_istn C (fun v => [(3, .int (v)), (0, .int a0), (1, .int a1), (2, .int a2)]) dX5_turned_14 rfl hl (by decide) (fun _ => rfl) hp (fun v1 ls hl hp => ?_)
    refine lv_iload_n C.1 C.2.1 dX5_turned_15 rfl (lv_at hl 1 rfl) ?_
    refine lv_bipush (v := 12) C.1 C.2.1 dX5_turned_16 (by decide) ?_
    refine w_shr C dX5_turned_18 ?_
    refine lv_sipush (v := 4095) C.1 C.2.1 dX5_turned_19 (by decide) ?_
    refine lv_iand C.1 C.2.1 dX5_turned_22 ?_
    refine w_ist C (fun v => [(4, .int (v)), (3, .int v1), (0, .int a0), (1, .int a1), (2, .int a2)]) dX5_turned_23 hl (by decide) (fun _ => rfl) hp (fun v2 ls hl hp => ?_)
    refine lv_sipush (v := 4095) C.1 C.2.1 dX5_turned_25 (by decide) ?_
    refine lv_iload_n C.1 C.2.1 dX5_turned_28 rfl (lv_at hl 1 rfl) ?_
    refine lv_iload C.1 C.2.1 dX5_turned_29 (lv_at hl 0 rfl) ?_
    refine lv_ior C.1 C.2.1 dX5_turned_31 ?_
    refine lv_iconst (v := -1) C.1 C.2.1 dX5_turned_32 (by decide) ?_
    refine lv_ixor C.1 C.2.1 dX5_turned_33 ?_
    refine lv_iand C.1 C.2.1 dX5_turned_34 ?_
    refine w_ist C (fun v => [(5, .int (v)), (4, .int v2), (3, .int v1), (0, .int a0), (1, .int a1), (2, .int a2)]) dX5_turned_35 hl (by decide) (fun _ => rfl) hp (fun v3 ls hl hp => ?_)
    refine lv_iload_n C.1 C.2.1 dX5_turned_37 rfl (lv_at hl 2 rfl) ?_
    refine lv_iload_n C.1 C.2.1 dX5_turned_38 rfl (lv_at hl 4 rfl) ?_
    refine lv_iconst (v := -1) C.1 C.2.1 dX5_turned_39 (by decide) ?_
    refine lv_ixor C.1 C.2.1 dX5_turned_40 ?_
    refine lv_iand C.1 C.2.1 dX5_turned_41 ?_
    refine lv_iload C.1 C.2.1 dX5_turned_42 (lv_at hl 0 rfl) ?_
    refine lv_iload_n C.1 C.2.1 dX5_turned_44 rfl (lv_at hl 4 rfl) ?_
    refine lv_iand C.1 C.2.1 dX5_turned_45 ?_
    refine lv_ior C.1 C.2.1 dX5_turned_46 ?_
    refine w_ist C (fun v => [(6, .int (v)), (5, .int v3), (4, .int v2), (3, .int v1), (0, .int a0), (1, .int a1), (2, .int a2)]) dX5_turned_47 hl (by decide) (fun _ => rfl) hp (fun v4 ls hl hp => ?_)
    refine lv_iload C.1 C.2.1 dX5_turned_49 (lv_at hl 2 rfl) ?_
    refine lv_iload_n C.1 C.2.1 dX5_turned_51 rfl (lv_at hl 5 rfl) ?_
    refine lv_iconst (v := -1) C.1 C.2.1 dX5_turned_52 (by decide) ?_
    refine lv_ixor C.1 C.2.1 dX5_turned_53 ?_
    refine lv_iand C.1 C.2.1 dX5_turned_54 ?_
    refine lv_iload_n C.1 C.2.1 dX5_turned_55 rfl (lv_at hl 3 rfl) ?_
    refine lv_iload_n C.1 C.2.1 dX5_turned_56 rfl (lv_at hl 5 rfl) ?_
    refine lv_iand C.1 C.2.1 dX5_turned_57 ?_
    refine lv_ior C.1 C.2.1 dX5_turned_58 ?_
    refine w_ist C (fun v => [(7, .int (v)), (6, .int v4), (5, .int v3), (4, .int v2), (3, .int v1), (0, .int a0), (1, .int a1), (2, .int a2)]) dX5_turned_59 hl (by decide) (fun _ => rfl) hp (fun v5 ls hl hp => ?_)
    refine lv_iload C.1 C.2.1 dX5_turned_61 (lv_at hl 1 rfl) ?_
    refine lv_iload C.1 C.2.1 dX5_turned_63 (lv_at hl 0 rfl) ?_
    refine lv_bipush (v := 12) C.1 C.2.1 dX5_turned_65 (by decide) ?_
    refine w_shl C dX5_turned_67 ?_
    refine lv_ior C.1 C.2.1 dX5_turned_68 ?_
    exact w_reti C X hr hlk (by decide) dX5_turned_69 hp
  · have hp := if_p _ c1 hp
    refine lv_iload_n C.1 C.2.1 dX5_turned_5 rfl (lv_at hl 0 rfl) ?_
    refine lv_iload_n C.1 C.2.1 dX5_turned_6 rfl (lv_at hl 1 rfl) ?_
    refine lv_ixor C.1 C.2.1 dX5_turned_7 ?_
    exact w_reti C X hr hlk (by decide) dX5_turned_8 hp

abbrev rmJ6_bitCount_0f7a4 : Room := { frames := 0, cells := 0, slots := 0, locals := 0 }
def P_J6_bitCount_0f7a4 (a0 : Int32) (h0 : Hp) : Option (Int32 × Hp) :=
    lt ((a0 - ((jushr a0 1) &&& 1431655765)) : Int32) fun v1 =>
    lt (((v1 &&& 858993459) + ((jushr v1 2) &&& 858993459)) : Int32) fun v2 =>
    lt (((v2 + (jushr v2 4)) &&& 252645135) : Int32) fun v3 =>
    lt ((v3 + (jushr v3 8)) : Int32) fun v4 =>
    lt ((v4 + (jushr v4 16)) : Int32) fun v5 =>
    some ((v5 &&& 63), h0)

set_option maxHeartbeats 4000000 in
set_option maxRecDepth 100000 in
theorem ct_J6_bitCount_0f7a4 (l : Launch) (K : Kt) (a0 : Int32) (h0 : Hp) {r : Int32} {h' : Hp} (hp : P_J6_bitCount_0f7a4 a0 h0 = some (r, h')) : CT l K yJ6_bitCount_0f7a4 cJ6_bitCount_0f7a4 1 (some FieldType.int) rmJ6_bitCount_0f7a4 [.int a0] h0 (Qi K r h') := by
  refine ct_of (own := RJ6) (by decide +kernel) rfl (Nat.le_of_ble_eq_true rfl) ?_
  intro p e s m args below meth c C X hr hlk hm ls hl
  have hl : lv_has ls 1 [(0, .int a0)] := hl
  unfold P_J6_bitCount_0f7a4 at hp
  refine lv_iload_n C.1 C.2.1 dJ6_bitCount_0f7a4_0 rfl (lv_at hl 0 rfl) ?_
  refine lv_iload_n C.1 C.2.1 dJ6_bitCount_0f7a4_1 rfl (lv_at hl 0 rfl) ?_
  refine lv_iconst (v := 1) C.1 C.2.1 dJ6_bitCount_0f7a4_2 (by decide) ?_
  refine w_ushr C dJ6_bitCount_0f7a4_3 ?_
  refine lv_ldcw C.1 C.2.1 C.2.2.2.1 (C.2.2.2.2.1 _ kJ6_265) dJ6_bitCount_0f7a4_4 ?_
  refine lv_iand C.1 C.2.1 dJ6_bitCount_0f7a4_7 ?_
  refine lv_isub C.1 C.2.1 dJ6_bitCount_0f7a4_8 ?_
  refine w_istn C (fun v => [(0, .int (v))]) dJ6_bitCount_0f7a4_9 rfl hl (by decide) (fun _ => rfl) hp (fun v1 ls hl hp => ?_)
  refine lv_iload_n C.1 C.2.1 dJ6_bitCount_0f7a4_10 rfl (lv_at hl 0 rfl) ?_
  refine lv_ldcw C.1 C.2.1 C.2.2.2.1 (C.2.2.2.2.1 _ kJ6_266) dJ6_bitCount_0f7a4_11 ?_
  refine lv_iand C.1 C.2.1 dJ6_bitCount_0f7a4_14 ?_
  refine lv_iload_n C.1 C.2.1 dJ6_bitCount_0f7a4_15 rfl (lv_at hl 0 rfl) ?_
  refine lv_iconst (v := 2) C.1 C.2.1 dJ6_bitCount_0f7a4_16 (by decide) ?_
  refine w_ushr C dJ6_bitCount_0f7a4_17 ?_
  refine lv_ldcw C.1 C.2.1 C.2.2.2.1 (C.2.2.2.2.1 _ kJ6_266) dJ6_bitCount_0f7a4_18 ?_
  refine lv_iand C.1 C.2.1 dJ6_bitCount_0f7a4_21 ?_
  refine lv_iadd C.1 C.2.1 dJ6_bitCount_0f7a4_22 ?_
  refine w_istn C (fun v => [(0, .int (v))]) dJ6_bitCount_0f7a4_23 rfl hl (by decide) (fun _ => rfl) hp (fun v2 ls hl hp => ?_)
  refine lv_iload_n C.1 C.2.1 dJ6_bitCount_0f7a4_24 rfl (lv_at hl 0 rfl) ?_
  refine lv_iload_n C.1 C.2.1 dJ6_bitCount_0f7a4_25 rfl (lv_at hl 0 rfl) ?_
  refine lv_iconst (v := 4) C.1 C.2.1 dJ6_bitCount_0f7a4_26 (by decide) ?_
  refine w_ushr C dJ6_bitCount_0f7a4_27 ?_
  refine lv_iadd C.1 C.2.1 dJ6_bitCount_0f7a4_28 ?_
  refine lv_ldcw C.1 C.2.1 C.2.2.2.1 (C.2.2.2.2.1 _ kJ6_267) dJ6_bitCount_0f7a4_29 ?_
  refine lv_iand C.1 C.2.1 dJ6_bitCount_0f7a4_32 ?_
  refine w_istn C (fun v => [(0, .int (v))]) dJ6_bitCount_0f7a4_33 rfl hl (by decide) (fun _ => rfl) hp (fun v3 ls hl hp => ?_)
  refine lv_iload_n C.1 C.2.1 dJ6_bitCount_0f7a4_34 rfl (lv_at hl 0 rfl) ?_
  refine lv_iload_n C.1 C.2.1 dJ6_bitCount_0f7a4_35 rfl (lv_at hl 0 rfl) ?_
  refine lv_bipush (v := 8) C.1 C.2.1 dJ6_bitCount_0f7a4_36 (by decide) ?_
  refine w_ushr C dJ6_bitCount_0f7a4_38 ?_
  refine lv_iadd C.1 C.2.1 dJ6_bitCount_0f7a4_39 ?_
  refine w_istn C (fun v => [(0, .int (v))]) dJ6_bitCount_0f7a4_40 rfl hl (by decide) (fun _ => rfl) hp (fun v4 ls hl hp => ?_)
  refine lv_iload_n C.1 C.2.1 dJ6_bitCount_0f7a4_41 rfl (lv_at hl 0 rfl) ?_
  refine lv_iload_n C.1 C.2.1 dJ6_bitCount_0f7a4_42 rfl (lv_at hl 0 rfl) ?_
  refine lv_bipush (v := 16) C.1 C.2.1 dJ6_bitCount_0f7a4_43 (by decide) ?_
  refine w_ushr C dJ6_bitCount_0f7a4_45 ?_
  refine lv_iadd C.1 C.2.1 dJ6_bitCount_0f7a4_46 ?_
  refine w_istn C (fun v => [(0, .int (v))]) dJ6_bitCount_0f7a4_47 rfl hl (by decide) (fun _ => rfl) hp (fun v5 ls hl hp => ?_)
  refine lv_iload_n C.1 C.2.1 dJ6_bitCount_0f7a4_48 rfl (lv_at hl 0 rfl) ?_
  refine lv_bipush (v := 63) C.1 C.2.1 dJ6_bitCount_0f7a4_49 (by decide) ?_
  refine lv_iand C.1 C.2.1 dJ6_bitCount_0f7a4_51 ?_
  exact w_reti C X hr hlk (by decide) dJ6_bitCount_0f7a4_52 hp

abbrev rmX0_goAlong : Room := { frames := 3, cells := 0, slots := 0, locals := 68 }
def P_X0_goAlong (p0 : Nat) (a1 : Int32) (h0 : Hp) : Option (Int32 × Hp) :=
    rc h0 p0 0 <| ci (P_X0_turnsOf p0 a1 h0) fun v1 h1 =>
    lt (v1 : Int32) fun v2 =>
    gi h1 p0 0 7 fun v3 =>
    gi h1 p0 0 1 fun v4 =>
    ci (P_X5_turned v3 v2 v4 h1) fun v5 h2 =>
    pi h2 p0 0 7 v5 fun h3 =>
    gi h3 p0 0 8 fun v6 =>
    pi h3 p0 0 8 (v6 + 1) fun h4 =>
    ci (P_J6_bitCount_0f7a4 v2 h4) fun v7 h5 =>
    some (v7, h5)

set_option maxHeartbeats 4000000 in
set_option maxRecDepth 100000 in
theorem ct_X0_goAlong (l : Launch) (K : Kt) (p0 : Nat) (a1 : Int32) (h0 : Hp) {r : Int32} {h' : Hp} (hp : P_X0_goAlong p0 a1 h0 = some (r, h')) : CT l K yX0_goAlong cX0_goAlong 3 (some FieldType.int) rmX0_goAlong [.ref (K.1 + p0), .int a1] h0 (Qi K r h') := by
  refine ct_of (own := RX0) (by decide +kernel) rfl (Nat.le_of_ble_eq_true rfl) ?_
  intro p e s m args below meth c C X hr hlk hm ls hl
  have hl : lv_has ls 3 [(0, .ref (K.1 + p0)), (1, .int a1)] := hl
  unfold P_X0_goAlong at hp
  refine lv_aload_n C.1 C.2.1 dX0_goAlong_0 rfl (lv_at hl 0 rfl) ?_
  refine lv_iload_n C.1 C.2.1 dX0_goAlong_1 rfl (lv_at hl 1 rfl) ?_
  have hrc := (rc_some hp).1
  have hp := (rc_some hp).2
  refine w_ci (cells' := 0) (slots' := 0) X (fun _ _ e => run_V (As := [.int a1]) (c0 := 0) C X mX0_turnsOf miX0_turnsOf lX0_65 (by decide) rfl hrc (ct_X0_turnsOf l K p0 a1 h0 e) (by decide) (by decide) rfl (by decide) rfl hl.1 dX0_goAlong_2) (by decide) hp (fun v1 h1 H locs X hp => ?_)
  refine w_istn C (fun v => [(2, .int (v)), (0, .ref (K.1 + p0)), (1, .int a1)]) dX0_goAlong_5 rfl hl (by decide) (fun _ => rfl) hp (fun v2 ls hl hp => ?_)
  refine lv_aload_n C.1 C.2.1 dX0_goAlong_6 rfl (lv_at hl 1 rfl) ?_
  refine lv_aload_n C.1 C.2.1 dX0_goAlong_7 rfl (lv_at hl 1 rfl) ?_
  refine w_gi C X fX0_40 rfl dX0_goAlong_8 hp (fun v3 hp => ?_)
  refine lv_iload_n C.1 C.2.1 dX0_goAlong_11 rfl (lv_at hl 0 rfl) ?_
  refine lv_aload_n C.1 C.2.1 dX0_goAlong_12 rfl (lv_at hl 1 rfl) ?_
  refine w_gi C X fX0_15 rfl dX0_goAlong_13 hp (fun v4 hp => ?_)
  refine w_ci (cells' := 0) (slots' := 0) X (fun _ _ e => run_SN (As := [.int v3, .int v2, .int v4]) C X mX5_turned msX5_turned lX0_68 (ct_X5_turned l K v3 v2 v4 h1 e) (by decide) (by decide) rfl (Nat.le_of_ble_eq_true rfl) rfl hl.1 dX0_goAlong_16) (by decide) hp (fun v5 h2 H locs X hp => ?_)
  refine w_pi C X fX0_40 rfl rfl rfl rfl dX0_goAlong_19 hp (fun H locs h3 X hp => ?_)
  refine lv_aload_n C.1 C.2.1 dX0_goAlong_22 rfl (lv_at hl 1 rfl) ?_
  refine lv_dup C.1 C.2.1 dX0_goAlong_23 rfl ?_
  refine w_gi C X fX0_43 rfl dX0_goAlong_24 hp (fun v6 hp => ?_)
  refine lv_iconst (v := 1) C.1 C.2.1 dX0_goAlong_27 (by decide) ?_
  refine lv_iadd C.1 C.2.1 dX0_goAlong_28 ?_
  refine w_pi C X fX0_43 rfl rfl rfl rfl dX0_goAlong_29 hp (fun H locs h4 X hp => ?_)
  refine lv_iload_n C.1 C.2.1 dX0_goAlong_32 rfl (lv_at hl 0 rfl) ?_
  refine w_ci (cells' := 0) (slots' := 0) X (fun _ _ e => run_S (As := [.int v2]) C X mJ6_bitCount_0f7a4 msJ6_bitCount_0f7a4 lX0_72 (ct_J6_bitCount_0f7a4 l K v2 h4 e) (by decide) (by decide) rfl (by decide) rfl hl.1 dX0_goAlong_33) (by decide) hp (fun v7 h5 H locs X hp => ?_)
  exact w_reti C X hr hlk (by decide) dX0_goAlong_36 hp

abbrev rmX0_note : Room := { frames := 0, cells := 0, slots := 0, locals := 0 }
def P_X0_note (p0 : Nat) (a1 : Int32) (h0 : Hp) : Option (Int32 × Hp) :=
    gi h0 p0 0 10 fun v1 =>
    if v1 < 0 then (
    gi h0 p0 0 10 fun v2 =>
    some (v2, h0))
    else (
    gi h0 p0 0 10 fun v3 =>
    gr h0 p0 0 9 fun q1 =>
    ln h0 q1 fun v4 =>
    if v4 ≤ v3 then (
    gi h0 p0 0 10 fun v5 =>
    some (v5, h0))
    else (
    gr h0 p0 0 9 fun q2 =>
    gi h0 p0 0 10 fun v6 =>
    as h0 q2 v6 a1 fun h1 =>
    gi h1 p0 0 10 fun v7 =>
    pi h1 p0 0 10 (v7 + 1) fun h2 =>
    gi h2 p0 0 10 fun v8 =>
    some (v8, h2)))

set_option maxHeartbeats 4000000 in
set_option maxRecDepth 100000 in
theorem ct_X0_note (l : Launch) (K : Kt) (p0 : Nat) (a1 : Int32) (h0 : Hp) {r : Int32} {h' : Hp} (hp : P_X0_note p0 a1 h0 = some (r, h')) : CT l K yX0_note cX0_note 2 (some FieldType.int) rmX0_note [.ref (K.1 + p0), .int a1] h0 (Qi K r h') := by
  refine ct_of (own := RX0) (by decide +kernel) rfl (Nat.le_of_ble_eq_true rfl) ?_
  intro p e s m args below meth c C X hr hlk hm ls hl
  have hl : lv_has ls 2 [(0, .ref (K.1 + p0)), (1, .int a1)] := hl
  unfold P_X0_note at hp
  refine lv_aload_n C.1 C.2.1 dX0_note_0 rfl (lv_at hl 0 rfl) ?_
  refine w_gi C X fX0_46 rfl dX0_note_1 hp (fun v1 hp => ?_)
  refine lv_if_lt (tgt := 39) C.1 C.2.1 dX0_note_4 (by decide) (fun c1 => ?_) (fun c1 => ?_)
  · have hp := if_p _ c1 hp
    refine lv_aload_n C.1 C.2.1 dX0_note_39 rfl (lv_at hl 0 rfl) ?_
    refine w_gi C X fX0_46 rfl dX0_note_40 hp (fun v2 hp => ?_)
    exact w_reti C X hr hlk (by decide) dX0_note_43 hp
  · have hp := if_n _ c1 hp
    refine lv_aload_n C.1 C.2.1 dX0_note_7 rfl (lv_at hl 0 rfl) ?_
    refine w_gi C X fX0_46 rfl dX0_note_8 hp (fun v3 hp => ?_)
    refine lv_aload_n C.1 C.2.1 dX0_note_11 rfl (lv_at hl 0 rfl) ?_
    refine w_gr C X fX0_24 rfl dX0_note_12 hp (fun q1 hp => ?_)
    refine w_ln C X dX0_note_15 hp (fun v4 hp => ?_)
    refine lv_icmp_ge (tgt := 39) C.1 C.2.1 dX0_note_16 (by decide) (fun c2 => ?_) (fun c2 => ?_)
    · have hp := if_p _ c2 hp
      refine lv_aload_n C.1 C.2.1 dX0_note_39 rfl (lv_at hl 0 rfl) ?_
      refine w_gi C X fX0_46 rfl dX0_note_40 hp (fun v5 hp => ?_)
      exact w_reti C X hr hlk (by decide) dX0_note_43 hp
    · have hp := if_n _ c2 hp
      refine lv_aload_n C.1 C.2.1 dX0_note_19 rfl (lv_at hl 0 rfl) ?_
      refine w_gr C X fX0_24 rfl dX0_note_20 hp (fun q2 hp => ?_)
      refine lv_aload_n C.1 C.2.1 dX0_note_23 rfl (lv_at hl 0 rfl) ?_
      refine w_gi C X fX0_46 rfl dX0_note_24 hp (fun v6 hp => ?_)
      refine lv_iload_n C.1 C.2.1 dX0_note_27 rfl (lv_at hl 1 rfl) ?_
      refine w_as C X dX0_note_28 hp (fun H locs h1 X hp => ?_)
      refine lv_aload_n C.1 C.2.1 dX0_note_29 rfl (lv_at hl 0 rfl) ?_
      refine lv_dup C.1 C.2.1 dX0_note_30 rfl ?_
      refine w_gi C X fX0_46 rfl dX0_note_31 hp (fun v7 hp => ?_)
      refine lv_iconst (v := 1) C.1 C.2.1 dX0_note_34 (by decide) ?_
      refine lv_iadd C.1 C.2.1 dX0_note_35 ?_
      refine w_pi C X fX0_46 rfl rfl rfl rfl dX0_note_36 hp (fun H locs h2 X hp => ?_)
      refine lv_aload_n C.1 C.2.1 dX0_note_39 rfl (lv_at hl 0 rfl) ?_
      refine w_gi C X fX0_46 rfl dX0_note_40 hp (fun v8 hp => ?_)
      exact w_reti C X hr hlk (by decide) dX0_note_43 hp

abbrev rmX0_loggedAt : Room := { frames := 0, cells := 0, slots := 0, locals := 0 }
def P_X0_loggedAt (p0 : Nat) (a1 : Int32) (h0 : Hp) : Option (Int32 × Hp) :=
    if a1 < 0 then (
    some (9, h0))
    else (
    gi h0 p0 0 10 fun v1 =>
    if v1 ≤ a1 then (
    some (9, h0))
    else (
    gr h0 p0 0 9 fun q1 =>
    ln h0 q1 fun v2 =>
    if v2 ≤ a1 then (
    some (9, h0))
    else (
    gr h0 p0 0 9 fun q2 =>
    al h0 q2 a1 fun v3 =>
    some (v3, h0))))

set_option maxHeartbeats 4000000 in
set_option maxRecDepth 100000 in
theorem ct_X0_loggedAt (l : Launch) (K : Kt) (p0 : Nat) (a1 : Int32) (h0 : Hp) {r : Int32} {h' : Hp} (hp : P_X0_loggedAt p0 a1 h0 = some (r, h')) : CT l K yX0_loggedAt cX0_loggedAt 2 (some FieldType.int) rmX0_loggedAt [.ref (K.1 + p0), .int a1] h0 (Qi K r h') := by
  refine ct_of (own := RX0) (by decide +kernel) rfl (Nat.le_of_ble_eq_true rfl) ?_
  intro p e s m args below meth c C X hr hlk hm ls hl
  have hl : lv_has ls 2 [(0, .ref (K.1 + p0)), (1, .int a1)] := hl
  unfold P_X0_loggedAt at hp
  refine lv_iload_n C.1 C.2.1 dX0_loggedAt_0 rfl (lv_at hl 1 rfl) ?_
  refine lv_if_lt (tgt := 30) C.1 C.2.1 dX0_loggedAt_1 (by decide) (fun c1 => ?_) (fun c1 => ?_)
  · have hp := if_p _ c1 hp
    refine lv_bipush (v := 9) C.1 C.2.1 dX0_loggedAt_30 (by decide) ?_
    exact w_reti C X hr hlk (by decide) dX0_loggedAt_32 hp
  · have hp := if_n _ c1 hp
    refine lv_iload_n C.1 C.2.1 dX0_loggedAt_4 rfl (lv_at hl 1 rfl) ?_
    refine lv_aload_n C.1 C.2.1 dX0_loggedAt_5 rfl (lv_at hl 0 rfl) ?_
    refine w_gi C X fX0_46 rfl dX0_loggedAt_6 hp (fun v1 hp => ?_)
    refine lv_icmp_ge (tgt := 30) C.1 C.2.1 dX0_loggedAt_9 (by decide) (fun c2 => ?_) (fun c2 => ?_)
    · have hp := if_p _ c2 hp
      refine lv_bipush (v := 9) C.1 C.2.1 dX0_loggedAt_30 (by decide) ?_
      exact w_reti C X hr hlk (by decide) dX0_loggedAt_32 hp
    · have hp := if_n _ c2 hp
      refine lv_iload_n C.1 C.2.1 dX0_loggedAt_12 rfl (lv_at hl 1 rfl) ?_
      refine lv_aload_n C.1 C.2.1 dX0_loggedAt_13 rfl (lv_at hl 0 rfl) ?_
      refine w_gr C X fX0_24 rfl dX0_loggedAt_14 hp (fun q1 hp => ?_)
      refine w_ln C X dX0_loggedAt_17 hp (fun v2 hp => ?_)
      refine lv_icmp_ge (tgt := 30) C.1 C.2.1 dX0_loggedAt_18 (by decide) (fun c3 => ?_) (fun c3 => ?_)
      · have hp := if_p _ c3 hp
        refine lv_bipush (v := 9) C.1 C.2.1 dX0_loggedAt_30 (by decide) ?_
        exact w_reti C X hr hlk (by decide) dX0_loggedAt_32 hp
      · have hp := if_n _ c3 hp
        refine lv_aload_n C.1 C.2.1 dX0_loggedAt_21 rfl (lv_at hl 0 rfl) ?_
        refine w_gr C X fX0_24 rfl dX0_loggedAt_22 hp (fun q2 hp => ?_)
        refine lv_iload_n C.1 C.2.1 dX0_loggedAt_25 rfl (lv_at hl 1 rfl) ?_
        refine w_al C X dX0_loggedAt_26 hp (fun v3 hp => ?_)
        refine lv_goto (tgt := 32) C.1 C.2.1 dX0_loggedAt_27 (by decide) ?_
        exact w_reti C X hr hlk (by decide) dX0_loggedAt_32 hp

abbrev rmX0_unknown : Room := { frames := 1, cells := 0, slots := 0, locals := 21 }
def P_X0_unknown_L4 : Nat → Nat → Int32 → Int32 → Hp → Option (Int32 × Hp)
  | 0, _, _, _, _ => none
  | n + 1, q1, v3, v4, h1 =>
    gi h1 q1 0 10 fun v5 =>
    if v5 ≤ v4 then (
    some (v3, h1))
    else (
    rc h1 q1 0 <| ci (P_X0_loggedAt q1 v4 h1) fun v6 h2 =>
    if v6 = 9 then (
    lt ((v3 + 1) : Int32) fun v8 =>
    lt ((v4 + 1) : Int32) fun v9 =>
    P_X0_unknown_L4 n q1 v8 v9 h2)
    else (
    lt ((v4 + 1) : Int32) fun v7 =>
    P_X0_unknown_L4 n q1 v3 v7 h2))

def P_X0_unknown (p0 : Nat) (h0 : Hp) : Option (Int32 × Hp) :=
    lt (0 : Int32) fun v1 =>
    lt (0 : Int32) fun v2 =>
    P_X0_unknown_L4 FU p0 v1 v2 h0

set_option maxHeartbeats 4000000 in
set_option maxRecDepth 100000 in
theorem wl_X0_unknown_L4 (C : CX K p m c cX0_unknown 3 s args RX0) (hr : meth.sig.returnType = (some FieldType.int)) (hlk : meth.locks = false) {r : Int32} {h' : Hp} : ∀ (n : Nat) (q1 : Nat) (v3 : Int32) (v4 : Int32) (h1 : Hp) (H : Heap) (locs : List Loc) (ls : Array Slot), HX K s.heap H locs h1 → lv_has ls 3 [(0, .ref (K.1 + q1)), (1, .int v3), (2, .int v4)] → P_X0_unknown_L4 n q1 v3 v4 h1 = some (r, h') → W p l e rmX0_unknown s m args below meth c H locs 0 0 (MQ below (Qi K r h') args s rmX0_unknown.cells rmX0_unknown.slots (KA K)) (F0 m 4 ls []) := by
  intro n
  induction n with
  | zero =>
    intro  q1 v3 v4 h1 H locs ls X hl hp
    cases hp
  | succ n ih =>
    intro  q1 v3 v4 h1 H locs ls X hl hp
    unfold P_X0_unknown_L4 at hp
    refine lv_iload_n C.1 C.2.1 dX0_unknown_4 rfl (lv_at hl 2 rfl) ?_
    refine lv_aload_n C.1 C.2.1 dX0_unknown_5 rfl (lv_at hl 0 rfl) ?_
    refine w_gi C X fX0_46 rfl dX0_unknown_6 hp (fun v5 hp => ?_)
    refine lv_icmp_ge (tgt := 31) C.1 C.2.1 dX0_unknown_9 (by decide) (fun c1 => ?_) (fun c1 => ?_)
    · have hp := if_p _ c1 hp
      refine lv_iload_n C.1 C.2.1 dX0_unknown_31 rfl (lv_at hl 1 rfl) ?_
      exact w_reti C X hr hlk (by decide) dX0_unknown_32 hp
    · have hp := if_n _ c1 hp
      refine lv_aload_n C.1 C.2.1 dX0_unknown_12 rfl (lv_at hl 0 rfl) ?_
      refine lv_iload_n C.1 C.2.1 dX0_unknown_13 rfl (lv_at hl 2 rfl) ?_
      have hrc := (rc_some hp).1
      have hp := (rc_some hp).2
      refine w_ci (cells' := 0) (slots' := 0) X (fun _ _ e => run_V (As := [.int v4]) (c0 := 0) C X mX0_loggedAt miX0_loggedAt lX0_77 (by decide) rfl hrc (ct_X0_loggedAt l K q1 v4 h1 e) (by decide) (by decide) rfl (by decide) rfl hl.1 dX0_unknown_14) (by decide) hp (fun v6 h2 H locs X hp => ?_)
      refine lv_bipush (v := 9) C.1 C.2.1 dX0_unknown_17 (by decide) ?_
      refine lv_icmp_ne (tgt := 25) C.1 C.2.1 dX0_unknown_19 (by decide) (fun c2 => ?_) (fun c2 => ?_)
      · have hp := if_n _ c2 hp
        refine w_inc (k := 2) C (fun v => [(2, .int (v)), (0, .ref (K.1 + q1)), (1, .int v3)]) dX0_unknown_25 hl rfl (y := (v4 + 1)) rfl (by decide) (fun _ => rfl) hp (fun v7 ls hl hp => ?_)
        refine lv_goto (tgt := 4) C.1 C.2.1 dX0_unknown_28 (by decide) ?_
        exact ih _ _ _ _ _ _ _ X (lv_sub hl [1, 2, 0] rfl) hp
      · have hp := if_p _ c2 hp
        refine w_inc (k := 1) C (fun v => [(1, .int (v)), (0, .ref (K.1 + q1)), (2, .int v4)]) dX0_unknown_22 hl rfl (y := (v3 + 1)) rfl (by decide) (fun _ => rfl) hp (fun v8 ls hl hp => ?_)
        refine w_inc (k := 2) C (fun v => [(2, .int (v)), (1, .int v8), (0, .ref (K.1 + q1))]) dX0_unknown_25 hl rfl (y := (v4 + 1)) rfl (by decide) (fun _ => rfl) hp (fun v9 ls hl hp => ?_)
        refine lv_goto (tgt := 4) C.1 C.2.1 dX0_unknown_28 (by decide) ?_
        exact ih _ _ _ _ _ _ _ X (lv_sub hl [2, 1, 0] rfl) hp

set_option maxHeartbeats 4000000 in
set_option maxRecDepth 100000 in
theorem ct_X0_unknown (l : Launch) (K : Kt) (p0 : Nat) (h0 : Hp) {r : Int32} {h' : Hp} (hp : P_X0_unknown p0 h0 = some (r, h')) : CT l K yX0_unknown cX0_unknown 3 (some FieldType.int) rmX0_unknown [.ref (K.1 + p0)] h0 (Qi K r h') := by
  refine ct_of (own := RX0) (by decide +kernel) rfl (Nat.le_of_ble_eq_true rfl) ?_
  intro p e s m args below meth c C X hr hlk hm ls hl
  have hl : lv_has ls 3 [(0, .ref (K.1 + p0))] := hl
  unfold P_X0_unknown at hp
  refine lv_iconst (v := 0) C.1 C.2.1 dX0_unknown_0 (by decide) ?_
  refine w_istn C (fun v => [(1, .int (v)), (0, .ref (K.1 + p0))]) dX0_unknown_1 rfl hl (by decide) (fun _ => rfl) hp (fun v1 ls hl hp => ?_)
  refine lv_iconst (v := 0) C.1 C.2.1 dX0_unknown_2 (by decide) ?_
  refine w_istn C (fun v => [(2, .int (v)), (1, .int v1), (0, .ref (K.1 + p0))]) dX0_unknown_3 rfl hl (by decide) (fun _ => rfl) hp (fun v2 ls hl hp => ?_)
  exact wl_X0_unknown_L4 C hr hlk _ _ _ _ _ _ _ _ X (lv_sub hl [2, 1, 0] rfl) hp

abbrev rmX0_behindLog : Room := { frames := 3, cells := 0, slots := 0, locals := 68 }
def P_X0_behindLog_L4 : Nat → Nat → Int32 → Int32 → Hp → Option (Int32 × Hp)
  | 0, _, _, _, _ => none
  | n + 1, q1, v3, v4, h1 =>
    gi h1 q1 0 10 fun v5 =>
    if v5 ≤ v4 then (
    some (v3, h1))
    else (
    rc h1 q1 0 <| ci (P_X0_loggedAt q1 v4 h1) fun v6 h2 =>
    rc h2 q1 0 <| ci (P_X0_turnsOf q1 v6 h2) fun v7 h3 =>
    gi h3 q1 0 1 fun v8 =>
    ci (P_X5_turned v3 v7 v8 h3) fun v9 h4 =>
    lt (v9 : Int32) fun v10 =>
    lt ((v4 + 1) : Int32) fun v11 =>
    P_X0_behindLog_L4 n q1 v10 v11 h4)

def P_X0_behindLog (p0 : Nat) (a1 : Int32) (h0 : Hp) : Option (Int32 × Hp) :=
    lt (a1 : Int32) fun v1 =>
    lt (0 : Int32) fun v2 =>
    P_X0_behindLog_L4 FU p0 v1 v2 h0

set_option maxHeartbeats 4000000 in
set_option maxRecDepth 100000 in
theorem wl_X0_behindLog_L4 (C : CX K p m c cX0_behindLog 4 s args RX0) (hr : meth.sig.returnType = (some FieldType.int)) (hlk : meth.locks = false) {r : Int32} {h' : Hp} : ∀ (n : Nat) (q1 : Nat) (v3 : Int32) (v4 : Int32) (h1 : Hp) (H : Heap) (locs : List Loc) (ls : Array Slot), HX K s.heap H locs h1 → lv_has ls 4 [(0, .ref (K.1 + q1)), (2, .int v3), (3, .int v4)] → P_X0_behindLog_L4 n q1 v3 v4 h1 = some (r, h') → W p l e rmX0_behindLog s m args below meth c H locs 0 0 (MQ below (Qi K r h') args s rmX0_behindLog.cells rmX0_behindLog.slots (KA K)) (F0 m 4 ls []) := by
  intro n
  induction n with
  | zero =>
    intro  q1 v3 v4 h1 H locs ls X hl hp
    cases hp
  | succ n ih =>
    intro  q1 v3 v4 h1 H locs ls X hl hp
    unfold P_X0_behindLog_L4 at hp
    refine lv_iload_n C.1 C.2.1 dX0_behindLog_4 rfl (lv_at hl 2 rfl) ?_
    refine lv_aload_n C.1 C.2.1 dX0_behindLog_5 rfl (lv_at hl 0 rfl) ?_
    refine w_gi C X fX0_46 rfl dX0_behindLog_6 hp (fun v5 hp => ?_)
    refine lv_icmp_ge (tgt := 36) C.1 C.2.1 dX0_behindLog_9 (by decide) (fun c1 => ?_) (fun c1 => ?_)
    · have hp := if_p _ c1 hp
      refine lv_iload_n C.1 C.2.1 dX0_behindLog_36 rfl (lv_at hl 1 rfl) ?_
      exact w_reti C X hr hlk (by decide) dX0_behindLog_37 hp
    · have hp := if_n _ c1 hp
      refine lv_iload_n C.1 C.2.1 dX0_behindLog_12 rfl (lv_at hl 1 rfl) ?_
      refine lv_aload_n C.1 C.2.1 dX0_behindLog_13 rfl (lv_at hl 0 rfl) ?_
      refine lv_aload_n C.1 C.2.1 dX0_behindLog_14 rfl (lv_at hl 0 rfl) ?_
      refine lv_iload_n C.1 C.2.1 dX0_behindLog_15 rfl (lv_at hl 2 rfl) ?_
      have hrc := (rc_some hp).1
      have hp := (rc_some hp).2
      refine w_ci (cells' := 0) (slots' := 0) X (fun _ _ e => run_V (As := [.int v4]) (c0 := 0) C X mX0_loggedAt miX0_loggedAt lX0_77 (by decide) rfl hrc (ct_X0_loggedAt l K q1 v4 h1 e) (by decide) (by decide) rfl (Nat.le_of_ble_eq_true rfl) rfl hl.1 dX0_behindLog_16) (by decide) hp (fun v6 h2 H locs X hp => ?_)
      have hrc := (rc_some hp).1
      have hp := (rc_some hp).2
      refine w_ci (cells' := 0) (slots' := 0) X (fun _ _ e => run_V (As := [.int v6]) (c0 := 0) C X mX0_turnsOf miX0_turnsOf lX0_65 (by decide) rfl hrc (ct_X0_turnsOf l K q1 v6 h2 e) (by decide) (by decide) rfl (Nat.le_of_ble_eq_true rfl) rfl hl.1 dX0_behindLog_19) (by decide) hp (fun v7 h3 H locs X hp => ?_)
      refine lv_aload_n C.1 C.2.1 dX0_behindLog_22 rfl (lv_at hl 0 rfl) ?_
      refine w_gi C X fX0_15 rfl dX0_behindLog_23 hp (fun v8 hp => ?_)
      refine w_ci (cells' := 0) (slots' := 0) X (fun _ _ e => run_SN (As := [.int v3, .int v7, .int v8]) C X mX5_turned msX5_turned lX0_68 (ct_X5_turned l K v3 v7 v8 h3 e) (by decide) (by decide) rfl (by decide) rfl hl.1 dX0_behindLog_26) (by decide) hp (fun v9 h4 H locs X hp => ?_)
      refine w_istn C (fun v => [(2, .int (v)), (0, .ref (K.1 + q1)), (3, .int v4)]) dX0_behindLog_29 rfl hl (by decide) (fun _ => rfl) hp (fun v10 ls hl hp => ?_)
      refine w_inc (k := 2) C (fun v => [(3, .int (v)), (2, .int v10), (0, .ref (K.1 + q1))]) dX0_behindLog_30 hl rfl (y := (v4 + 1)) rfl (by decide) (fun _ => rfl) hp (fun v11 ls hl hp => ?_)
      refine lv_goto (tgt := 4) C.1 C.2.1 dX0_behindLog_33 (by decide) ?_
      exact ih _ _ _ _ _ _ _ X (lv_sub hl [2, 1, 0] rfl) hp

set_option maxHeartbeats 4000000 in
set_option maxRecDepth 100000 in
theorem ct_X0_behindLog (l : Launch) (K : Kt) (p0 : Nat) (a1 : Int32) (h0 : Hp) {r : Int32} {h' : Hp} (hp : P_X0_behindLog p0 a1 h0 = some (r, h')) : CT l K yX0_behindLog cX0_behindLog 4 (some FieldType.int) rmX0_behindLog [.ref (K.1 + p0), .int a1] h0 (Qi K r h') := by
  refine ct_of (own := RX0) (by decide +kernel) rfl (Nat.le_of_ble_eq_true rfl) ?_
  intro p e s m args below meth c C X hr hlk hm ls hl
  have hl : lv_has ls 4 [(0, .ref (K.1 + p0)), (1, .int a1)] := hl
  unfold P_X0_behindLog at hp
  refine lv_iload_n C.1 C.2.1 dX0_behindLog_0 rfl (lv_at hl 1 rfl) ?_
  refine w_istn C (fun v => [(2, .int (v)), (0, .ref (K.1 + p0)), (1, .int a1)]) dX0_behindLog_1 rfl hl (by decide) (fun _ => rfl) hp (fun v1 ls hl hp => ?_)
  refine lv_iconst (v := 0) C.1 C.2.1 dX0_behindLog_2 (by decide) ?_
  refine w_istn C (fun v => [(3, .int (v)), (2, .int v1), (0, .ref (K.1 + p0)), (1, .int a1)]) dX0_behindLog_3 rfl hl (by decide) (fun _ => rfl) hp (fun v2 ls hl hp => ?_)
  exact wl_X0_behindLog_L4 C hr hlk _ _ _ _ _ _ _ _ X (lv_sub hl [2, 1, 0] rfl) hp

abbrev rmX3_numberAt : Room := { frames := 0, cells := 0, slots := 0, locals := 0 }
def P_X3_numberAt (p0 : Nat) (a1 : Int32) (h0 : Hp) : Option (Int32 × Hp) :=
    if a1 < 0 then (
    some (0, h0))
    else (
    gi h0 p0 3 6 fun v1 =>
    if v1 ≤ a1 then (
    some (0, h0))
    else (
    gr h0 p0 3 5 fun q1 =>
    ln h0 q1 fun v2 =>
    if v2 ≤ a1 then (
    some (0, h0))
    else (
    gr h0 p0 3 5 fun q2 =>
    al h0 q2 a1 fun v3 =>
    some (v3, h0))))

set_option maxHeartbeats 4000000 in
set_option maxRecDepth 100000 in
theorem ct_X3_numberAt (l : Launch) (K : Kt) (p0 : Nat) (a1 : Int32) (h0 : Hp) {r : Int32} {h' : Hp} (hp : P_X3_numberAt p0 a1 h0 = some (r, h')) : CT l K yX3_numberAt cX3_numberAt 2 (some FieldType.int) rmX3_numberAt [.ref (K.1 + p0), .int a1] h0 (Qi K r h') := by
  refine ct_of (own := RX3) (by decide +kernel) rfl (Nat.le_of_ble_eq_true rfl) ?_
  intro p e s m args below meth c C X hr hlk hm ls hl
  have hl : lv_has ls 2 [(0, .ref (K.1 + p0)), (1, .int a1)] := hl
  unfold P_X3_numberAt at hp
  refine lv_iload_n C.1 C.2.1 dX3_numberAt_0 rfl (lv_at hl 1 rfl) ?_
  refine lv_if_lt (tgt := 30) C.1 C.2.1 dX3_numberAt_1 (by decide) (fun c1 => ?_) (fun c1 => ?_)
  · have hp := if_p _ c1 hp
    refine lv_iconst (v := 0) C.1 C.2.1 dX3_numberAt_30 (by decide) ?_
    exact w_reti C X hr hlk (by decide) dX3_numberAt_31 hp
  · have hp := if_n _ c1 hp
    refine lv_iload_n C.1 C.2.1 dX3_numberAt_4 rfl (lv_at hl 1 rfl) ?_
    refine lv_aload_n C.1 C.2.1 dX3_numberAt_5 rfl (lv_at hl 0 rfl) ?_
    refine w_gi C X fX3_28 rfl dX3_numberAt_6 hp (fun v1 hp => ?_)
    refine lv_icmp_ge (tgt := 30) C.1 C.2.1 dX3_numberAt_9 (by decide) (fun c2 => ?_) (fun c2 => ?_)
    · have hp := if_p _ c2 hp
      refine lv_iconst (v := 0) C.1 C.2.1 dX3_numberAt_30 (by decide) ?_
      exact w_reti C X hr hlk (by decide) dX3_numberAt_31 hp
    · have hp := if_n _ c2 hp
      refine lv_iload_n C.1 C.2.1 dX3_numberAt_12 rfl (lv_at hl 1 rfl) ?_
      refine lv_aload_n C.1 C.2.1 dX3_numberAt_13 rfl (lv_at hl 0 rfl) ?_
      refine w_gr C X fX3_15 rfl dX3_numberAt_14 hp (fun q1 hp => ?_)
      refine w_ln C X dX3_numberAt_17 hp (fun v2 hp => ?_)
      refine lv_icmp_ge (tgt := 30) C.1 C.2.1 dX3_numberAt_18 (by decide) (fun c3 => ?_) (fun c3 => ?_)
      · have hp := if_p _ c3 hp
        refine lv_iconst (v := 0) C.1 C.2.1 dX3_numberAt_30 (by decide) ?_
        exact w_reti C X hr hlk (by decide) dX3_numberAt_31 hp
      · have hp := if_n _ c3 hp
        refine lv_aload_n C.1 C.2.1 dX3_numberAt_21 rfl (lv_at hl 0 rfl) ?_
        refine w_gr C X fX3_15 rfl dX3_numberAt_22 hp (fun q2 hp => ?_)
        refine lv_iload_n C.1 C.2.1 dX3_numberAt_25 rfl (lv_at hl 1 rfl) ?_
        refine w_al C X dX3_numberAt_26 hp (fun v3 hp => ?_)
        refine lv_goto (tgt := 31) C.1 C.2.1 dX3_numberAt_27 (by decide) ?_
        exact w_reti C X hr hlk (by decide) dX3_numberAt_31 hp

abbrev rmX0_empty : Room := { frames := 0, cells := 0, slots := 0, locals := 0 }
def P_X0_empty (p0 : Nat) (h0 : Hp) : Option (Hp) :=
    pi h0 p0 0 7 0 fun h1 =>
    pi h1 p0 0 4 0 fun h2 =>
    pi h2 p0 0 5 0 fun h3 =>
    pi h3 p0 0 6 0 fun h4 =>
    some h4

set_option maxHeartbeats 4000000 in
set_option maxRecDepth 100000 in
theorem ct_X0_empty (l : Launch) (K : Kt) (p0 : Nat) (h0 : Hp) {h' : Hp} (hp : P_X0_empty p0 h0 = some h') : CT l K yX0_empty cX0_empty 1 none rmX0_empty [.ref (K.1 + p0)] h0 (Qv K h') := by
  refine ct_of (own := RX0) (by decide +kernel) rfl (Nat.le_of_ble_eq_true rfl) ?_
  intro p e s m args below meth c C X hr hlk hm ls hl
  have hl : lv_has ls 1 [(0, .ref (K.1 + p0))] := hl
  unfold P_X0_empty at hp
  refine lv_aload_n C.1 C.2.1 dX0_empty_0 rfl (lv_at hl 0 rfl) ?_
  refine lv_iconst (v := 0) C.1 C.2.1 dX0_empty_1 (by decide) ?_
  refine w_pi C X fX0_40 rfl rfl rfl rfl dX0_empty_2 hp (fun H locs h1 X hp => ?_)
  refine lv_aload_n C.1 C.2.1 dX0_empty_5 rfl (lv_at hl 0 rfl) ?_
  refine lv_iconst (v := 0) C.1 C.2.1 dX0_empty_6 (by decide) ?_
  refine w_pi C X fX0_31 rfl rfl rfl rfl dX0_empty_7 hp (fun H locs h2 X hp => ?_)
  refine lv_aload_n C.1 C.2.1 dX0_empty_10 rfl (lv_at hl 0 rfl) ?_
  refine lv_iconst (v := 0) C.1 C.2.1 dX0_empty_11 (by decide) ?_
  refine w_pi C X fX0_34 rfl rfl rfl rfl dX0_empty_12 hp (fun H locs h3 X hp => ?_)
  refine lv_aload_n C.1 C.2.1 dX0_empty_15 rfl (lv_at hl 0 rfl) ?_
  refine lv_iconst (v := 0) C.1 C.2.1 dX0_empty_16 (by decide) ?_
  refine w_pi C X fX0_37 rfl rfl rfl rfl dX0_empty_17 hp (fun H locs h4 X hp => ?_)
  exact w_retv C X hr hlk (by decide) dX0_empty_20 hp

abbrev rmX0_obeysDoors : Room := { frames := 1, cells := 0, slots := 0, locals := 20 }
def P_X0_obeysDoors (p0 : Nat) (a1 : Int32) (h0 : Hp) : Option (Int32 × Hp) :=
    if a1 < 1 then (
    some (0, h0))
    else (
    if a1 ≤ 12 then (
    pi h0 p0 0 0 a1 fun h1 =>
    rc h1 p0 0 <| cv (P_X0_empty p0 h1) fun h2 =>
    some (1, h2))
    else (
    some (0, h0)))

set_option maxHeartbeats 4000000 in
set_option maxRecDepth 100000 in
theorem ct_X0_obeysDoors (l : Launch) (K : Kt) (p0 : Nat) (a1 : Int32) (h0 : Hp) {r : Int32} {h' : Hp} (hp : P_X0_obeysDoors p0 a1 h0 = some (r, h')) : CT l K yX0_obeysDoors cX0_obeysDoors 2 (some FieldType.boolean) rmX0_obeysDoors [.ref (K.1 + p0), .int a1] h0 (Qi K r h') := by
  refine ct_of (own := RX0) (by decide +kernel) rfl (Nat.le_of_ble_eq_true rfl) ?_
  intro p e s m args below meth c C X hr hlk hm ls hl
  have hl : lv_has ls 2 [(0, .ref (K.1 + p0)), (1, .int a1)] := hl
  unfold P_X0_obeysDoors at hp
  refine lv_iload_n C.1 C.2.1 dX0_obeysDoors_0 rfl (lv_at hl 1 rfl) ?_
  refine lv_iconst (v := 1) C.1 C.2.1 dX0_obeysDoors_1 (by decide) ?_
  refine lv_icmp_lt (tgt := 11) C.1 C.2.1 dX0_obeysDoors_2 (by decide) (fun c1 => ?_) (fun c1 => ?_)
  · have hp := if_p _ c1 hp
    refine lv_iconst (v := 0) C.1 C.2.1 dX0_obeysDoors_11 (by decide) ?_
    exact w_retz C X hr hlk (by decide) (by decide) dX0_obeysDoors_12 hp
  · have hp := if_n _ c1 hp
    refine lv_iload_n C.1 C.2.1 dX0_obeysDoors_5 rfl (lv_at hl 1 rfl) ?_
    refine lv_bipush (v := 12) C.1 C.2.1 dX0_obeysDoors_6 (by decide) ?_
    refine lv_icmp_le (tgt := 13) C.1 C.2.1 dX0_obeysDoors_8 (by decide) (fun c2 => ?_) (fun c2 => ?_)
    · have hp := if_p _ c2 hp
      refine lv_aload_n C.1 C.2.1 dX0_obeysDoors_13 rfl (lv_at hl 0 rfl) ?_
      refine lv_iload_n C.1 C.2.1 dX0_obeysDoors_14 rfl (lv_at hl 1 rfl) ?_
      refine w_pi C X fX0_9 rfl rfl rfl rfl dX0_obeysDoors_15 hp (fun H locs h1 X hp => ?_)
      refine lv_aload_n C.1 C.2.1 dX0_obeysDoors_18 rfl (lv_at hl 0 rfl) ?_
      have hrc := (rc_some hp).1
      have hp := (rc_some hp).2
      refine w_cv (cells' := 0) (slots' := 0) X (fun _ e => run_V (As := []) (c0 := 0) C X mX0_empty miX0_empty lX0_107 (by decide) rfl hrc (ct_X0_empty l K p0 h1 e) (by decide) (by decide) rfl (by decide) rfl hl.1 dX0_obeysDoors_19) (by decide) hp (fun h2 H locs X hp => ?_)
      refine lv_iconst (v := 1) C.1 C.2.1 dX0_obeysDoors_22 (by decide) ?_
      exact w_retz C X hr hlk (by decide) (by decide) dX0_obeysDoors_23 hp
    · have hp := if_n _ c2 hp
      refine lv_iconst (v := 0) C.1 C.2.1 dX0_obeysDoors_11 (by decide) ?_
      exact w_retz C X hr hlk (by decide) (by decide) dX0_obeysDoors_12 hp

abbrev rmX0_obeysColours : Room := { frames := 1, cells := 0, slots := 0, locals := 20 }
def P_X0_obeysColours (p0 : Nat) (a1 : Int32) (h0 : Hp) : Option (Int32 × Hp) :=
    if a1 < 2 then (
    some (0, h0))
    else (
    if a1 ≤ 3 then (
    pi h0 p0 0 1 a1 fun h1 =>
    rc h1 p0 0 <| cv (P_X0_empty p0 h1) fun h2 =>
    some (1, h2))
    else (
    some (0, h0)))

set_option maxHeartbeats 4000000 in
set_option maxRecDepth 100000 in
theorem ct_X0_obeysColours (l : Launch) (K : Kt) (p0 : Nat) (a1 : Int32) (h0 : Hp) {r : Int32} {h' : Hp} (hp : P_X0_obeysColours p0 a1 h0 = some (r, h')) : CT l K yX0_obeysColours cX0_obeysColours 2 (some FieldType.boolean) rmX0_obeysColours [.ref (K.1 + p0), .int a1] h0 (Qi K r h') := by
  refine ct_of (own := RX0) (by decide +kernel) rfl (Nat.le_of_ble_eq_true rfl) ?_
  intro p e s m args below meth c C X hr hlk hm ls hl
  have hl : lv_has ls 2 [(0, .ref (K.1 + p0)), (1, .int a1)] := hl
  unfold P_X0_obeysColours at hp
  refine lv_iload_n C.1 C.2.1 dX0_obeysColours_0 rfl (lv_at hl 1 rfl) ?_
  refine lv_iconst (v := 2) C.1 C.2.1 dX0_obeysColours_1 (by decide) ?_
  refine lv_icmp_lt (tgt := 10) C.1 C.2.1 dX0_obeysColours_2 (by decide) (fun c1 => ?_) (fun c1 => ?_)
  · have hp := if_p _ c1 hp
    refine lv_iconst (v := 0) C.1 C.2.1 dX0_obeysColours_10 (by decide) ?_
    exact w_retz C X hr hlk (by decide) (by decide) dX0_obeysColours_11 hp
  · have hp := if_n _ c1 hp
    refine lv_iload_n C.1 C.2.1 dX0_obeysColours_5 rfl (lv_at hl 1 rfl) ?_
    refine lv_iconst (v := 3) C.1 C.2.1 dX0_obeysColours_6 (by decide) ?_
    refine lv_icmp_le (tgt := 12) C.1 C.2.1 dX0_obeysColours_7 (by decide) (fun c2 => ?_) (fun c2 => ?_)
    · have hp := if_p _ c2 hp
      refine lv_aload_n C.1 C.2.1 dX0_obeysColours_12 rfl (lv_at hl 0 rfl) ?_
      refine lv_iload_n C.1 C.2.1 dX0_obeysColours_13 rfl (lv_at hl 1 rfl) ?_
      refine w_pi C X fX0_15 rfl rfl rfl rfl dX0_obeysColours_14 hp (fun H locs h1 X hp => ?_)
      refine lv_aload_n C.1 C.2.1 dX0_obeysColours_17 rfl (lv_at hl 0 rfl) ?_
      have hrc := (rc_some hp).1
      have hp := (rc_some hp).2
      refine w_cv (cells' := 0) (slots' := 0) X (fun _ e => run_V (As := []) (c0 := 0) C X mX0_empty miX0_empty lX0_107 (by decide) rfl hrc (ct_X0_empty l K p0 h1 e) (by decide) (by decide) rfl (by decide) rfl hl.1 dX0_obeysColours_18) (by decide) hp (fun h2 H locs X hp => ?_)
      refine lv_iconst (v := 1) C.1 C.2.1 dX0_obeysColours_21 (by decide) ?_
      exact w_retz C X hr hlk (by decide) (by decide) dX0_obeysColours_22 hp
    · have hp := if_n _ c2 hp
      refine lv_iconst (v := 0) C.1 C.2.1 dX0_obeysColours_10 (by decide) ?_
      exact w_retz C X hr hlk (by decide) (by decide) dX0_obeysColours_11 hp

abbrev rmX0_isGoerNumber : Room := { frames := 0, cells := 0, slots := 0, locals := 0 }
def P_X0_isGoerNumber (a0 : Int32) (h0 : Hp) : Option (Int32 × Hp) :=
    if a0 < 1 then (
    some (0, h0))
    else (
    if 12 < a0 then (
    some (0, h0))
    else (
    some (1, h0)))

set_option maxHeartbeats 4000000 in
set_option maxRecDepth 100000 in
theorem ct_X0_isGoerNumber (l : Launch) (K : Kt) (a0 : Int32) (h0 : Hp) {r : Int32} {h' : Hp} (hp : P_X0_isGoerNumber a0 h0 = some (r, h')) : CT l K yX0_isGoerNumber cX0_isGoerNumber 1 (some FieldType.boolean) rmX0_isGoerNumber [.int a0] h0 (Qi K r h') := by
  refine ct_of (own := RX0) (by decide +kernel) rfl (Nat.le_of_ble_eq_true rfl) ?_
  intro p e s m args below meth c C X hr hlk hm ls hl
  have hl : lv_has ls 1 [(0, .int a0)] := hl
  unfold P_X0_isGoerNumber at hp
  refine lv_iload_n C.1 C.2.1 dX0_isGoerNumber_0 rfl (lv_at hl 0 rfl) ?_
  refine lv_iconst (v := 1) C.1 C.2.1 dX0_isGoerNumber_1 (by decide) ?_
  refine lv_icmp_lt (tgt := 15) C.1 C.2.1 dX0_isGoerNumber_2 (by decide) (fun c1 => ?_) (fun c1 => ?_)
  · have hp := if_p _ c1 hp
    refine lv_iconst (v := 0) C.1 C.2.1 dX0_isGoerNumber_15 (by decide) ?_
    exact w_retz C X hr hlk (by decide) (by decide) dX0_isGoerNumber_16 hp
  · have hp := if_n _ c1 hp
    refine lv_iload_n C.1 C.2.1 dX0_isGoerNumber_5 rfl (lv_at hl 0 rfl) ?_
    refine lv_bipush (v := 12) C.1 C.2.1 dX0_isGoerNumber_6 (by decide) ?_
    refine lv_icmp_gt (tgt := 15) C.1 C.2.1 dX0_isGoerNumber_8 (by decide) (fun c2 => ?_) (fun c2 => ?_)
    · have hp := if_p _ c2 hp
      refine lv_iconst (v := 0) C.1 C.2.1 dX0_isGoerNumber_15 (by decide) ?_
      exact w_retz C X hr hlk (by decide) (by decide) dX0_isGoerNumber_16 hp
    · have hp := if_n _ c2 hp
      refine lv_iconst (v := 1) C.1 C.2.1 dX0_isGoerNumber_11 (by decide) ?_
      refine lv_goto (tgt := 16) C.1 C.2.1 dX0_isGoerNumber_12 (by decide) ?_
      exact w_retz C X hr hlk (by decide) (by decide) dX0_isGoerNumber_16 hp

abbrev rmX2_init : Room := { frames := 1, cells := 0, slots := 0, locals := 20 }
def P_X2_init (p0 : Nat) (a1 : Int32) (a2 : Int32) (a3 : Int32) (a4 : Int32) (h0 : Hp) : Option (Hp) :=
    pi h0 p0 2 0 a1 fun h1 =>
    pi h1 p0 2 1 a2 fun h2 =>
    pi h2 p0 2 2 a3 fun h3 =>
    pi h3 p0 2 3 a4 fun h4 =>
    some h4

set_option maxHeartbeats 4000000 in
set_option maxRecDepth 100000 in
theorem ct_X2_init (l : Launch) (K : Kt) (p0 : Nat) (a1 : Int32) (a2 : Int32) (a3 : Int32) (a4 : Int32) (h0 : Hp) {h' : Hp} (hp : P_X2_init p0 a1 a2 a3 a4 h0 = some h') : CT l K yX2_init cX2_init 5 none rmX2_init [.ref (K.1 + p0), .int a1, .int a2, .int a3, .int a4] h0 (Qv K h') := by
  refine ct_of (own := RX2) (by decide +kernel) rfl (Nat.le_of_ble_eq_true rfl) ?_
  intro p e s m args below meth c C X hr hlk hm ls hl
  have hl : lv_has ls 5 [(0, .ref (K.1 + p0)), (1, .int a1), (2, .int a2), (3, .int a3), (4, .int a4)] := hl
  unfold P_X2_init at hp
  refine lv_aload_n C.1 C.2.1 dX2_init_0 rfl (lv_at hl 0 rfl) ?_
  refine w_oi0 C lX2_1 hl.1 (by decide) (by decide) dX2_init_1 ?_
  refine lv_aload_n C.1 C.2.1 dX2_init_4 rfl (lv_at hl 0 rfl) ?_
  refine lv_iload_n C.1 C.2.1 dX2_init_5 rfl (lv_at hl 1 rfl) ?_
  refine w_pif C X fX2_7 rfl rfl hm rfl flX2_7 rfl rfl dX2_init_6 hp (fun H locs h1 X hp => ?_)
  refine lv_aload_n C.1 C.2.1 dX2_init_9 rfl (lv_at hl 0 rfl) ?_
  refine lv_iload_n C.1 C.2.1 dX2_init_10 rfl (lv_at hl 2 rfl) ?_
  refine w_pif C X fX2_13 rfl rfl hm rfl flX2_13 rfl rfl dX2_init_11 hp (fun H locs h2 X hp => ?_)
  refine lv_aload_n C.1 C.2.1 dX2_init_14 rfl (lv_at hl 0 rfl) ?_
  refine lv_iload_n C.1 C.2.1 dX2_init_15 rfl (lv_at hl 3 rfl) ?_
  refine w_pif C X fX2_16 rfl rfl hm rfl flX2_16 rfl rfl dX2_init_16 hp (fun H locs h3 X hp => ?_)
  refine lv_aload_n C.1 C.2.1 dX2_init_19 rfl (lv_at hl 0 rfl) ?_
  refine lv_iload C.1 C.2.1 dX2_init_20 (lv_at hl 4 rfl) ?_
  refine w_pif C X fX2_19 rfl rfl hm rfl flX2_19 rfl rfl dX2_init_22 hp (fun H locs h4 X hp => ?_)
  exact w_retv C X hr hlk (by decide) dX2_init_25 hp

abbrev rmX0_obeysPerson : Room := { frames := 2, cells := 1, slots := 4, locals := 44 }
def P_X0_obeysPerson (p0 : Nat) (p1 : Nat) (h0 : Hp) : Option (Int32 × Hp) :=
    rc h0 p1 3 <| ci (P_X3_numberAt p1 0 h0) fun v1 h1 =>
    lt (v1 : Int32) fun v2 =>
    rc h1 p1 3 <| ci (P_X3_numberAt p1 1 h1) fun v3 h2 =>
    lt (v3 : Int32) fun v4 =>
    ci (P_X0_isGoerNumber v2 h2) fun v5 h3 =>
    if v5 = 0 then (
    some (0, h3))
    else (
    ci (P_X0_isGoerNumber v4 h3) fun v6 h4 =>
    if v6 = 0 then (
    some (0, h4))
    else (
    gi h4 p0 0 2 fun v7 =>
    if v7 < 0 then (
    some (0, h4))
    else (
    gi h4 p0 0 2 fun v8 =>
    gr h4 p0 0 3 fun q1 =>
    ln h4 q1 fun v9 =>
    if v8 < v9 then (
    gr h4 p0 0 3 fun q2 =>
    gi h4 p0 0 2 fun v10 =>
    nw h4 2 fun q3 h5 =>
    gi h5 p1 3 4 fun v11 =>
    rc h5 p1 3 <| ci (P_X3_numberAt p1 2 h5) fun v12 h6 =>
    cv (P_X2_init q3 v11 v2 v4 v12 h6) fun h7 =>
    rs h7 q2 v10 (some q3) fun h8 =>
    gi h8 p0 0 2 fun v13 =>
    pi h8 p0 0 2 (v13 + 1) fun h9 =>
    some (1, h9))
    else (
    some (0, h4)))))

set_option maxHeartbeats 4000000 in
set_option maxRecDepth 100000 in
theorem ct_X0_obeysPerson (l : Launch) (K : Kt) (p0 : Nat) (p1 : Nat) (h0 : Hp) {r : Int32} {h' : Hp} (hp : P_X0_obeysPerson p0 p1 h0 = some (r, h')) : CT l K yX0_obeysPerson cX0_obeysPerson 4 (some FieldType.boolean) rmX0_obeysPerson [.ref (K.1 + p0), .ref (K.1 + p1)] h0 (Qi K r h') := by
  refine ct_of (own := RX0) (by decide +kernel) rfl (Nat.le_of_ble_eq_true rfl) ?_
  intro p e s m args below meth c C X hr hlk hm ls hl
  have hl : lv_has ls 4 [(0, .ref (K.1 + p0)), (1, .ref (K.1 + p1))] := hl
  unfold P_X0_obeysPerson at hp
  refine lv_aload_n C.1 C.2.1 dX0_obeysPerson_0 rfl (lv_at hl 1 rfl) ?_
  refine lv_iconst (v := 0) C.1 C.2.1 dX0_obeysPerson_1 (by decide) ?_
  have hrc := (rc_some hp).1
  have hp := (rc_some hp).2
  refine w_ci (cells' := 0) (slots' := 0) X (fun _ _ e => run_VN (As := [.int 0]) (c0 := 3) C X mX3_numberAt miX3_numberAt lX0_85 (by decide) rfl hrc (ct_X3_numberAt l K p1 0 h0 e) (by decide) (by decide) rfl (by decide) rfl hl.1 dX0_obeysPerson_2) (by decide) hp (fun v1 h1 H locs X hp => ?_)
  refine w_istn C (fun v => [(2, .int (v)), (0, .ref (K.1 + p0)), (1, .ref (K.1 + p1))]) dX0_obeysPerson_5 rfl hl (by decide) (fun _ => rfl) hp (fun v2 ls hl hp => ?_)
  refine lv_aload_n C.1 C.2.1 dX0_obeysPerson_6 rfl (lv_at hl 2 rfl) ?_
  refine lv_iconst (v := 1) C.1 C.2.1 dX0_obeysPerson_7 (by decide) ?_
  have hrc := (rc_some hp).1
  have hp := (rc_some hp).2
  refine w_ci (cells' := 0) (slots' := 0) X (fun _ _ e => run_VN (As := [.int 1]) (c0 := 3) C X mX3_numberAt miX3_numberAt lX0_85 (by decide) rfl hrc (ct_X3_numberAt l K p1 1 h1 e) (by decide) (by decide) rfl (by decide) rfl hl.1 dX0_obeysPerson_8) (by decide) hp (fun v3 h2 H locs X hp => ?_)
  refine w_istn C (fun v => [(3, .int (v)), (2, .int v2), (0, .ref (K.1 + p0)), (1, .ref (K.1 + p1))]) dX0_obeysPerson_11 rfl hl (by decide) (fun _ => rfl) hp (fun v4 ls hl hp => ?_)
  refine lv_iload_n C.1 C.2.1 dX0_obeysPerson_12 rfl (lv_at hl 1 rfl) ?_
  refine w_ci (cells' := 0) (slots' := 0) X (fun _ _ e => run_S (As := [.int v2]) C X mX0_isGoerNumber msX0_isGoerNumber lX0_110 (ct_X0_isGoerNumber l K v2 h2 e) (by decide) (by decide) rfl (by decide) rfl hl.1 dX0_obeysPerson_13) (by decide) hp (fun v5 h3 H locs X hp => ?_)
  refine lv_if_eq (tgt := 26) C.1 C.2.1 dX0_obeysPerson_16 (by decide) (fun c1 => ?_) (fun c1 => ?_)
  · have hp := if_p _ c1 hp
    refine lv_iconst (v := 0) C.1 C.2.1 dX0_obeysPerson_26 (by decide) ?_
    exact w_retz C X hr hlk (by decide) (by decide) dX0_obeysPerson_27 hp
  · have hp := if_n _ c1 hp
    refine lv_iload_n C.1 C.2.1 dX0_obeysPerson_19 rfl (lv_at hl 0 rfl) ?_
    refine w_ci (cells' := 0) (slots' := 0) X (fun _ _ e => run_S (As := [.int v4]) C X mX0_isGoerNumber msX0_isGoerNumber lX0_110 (ct_X0_isGoerNumber l K v4 h3 e) (by decide) (by decide) rfl (by decide) rfl hl.1 dX0_obeysPerson_20) (by decide) hp (fun v6 h4 H locs X hp => ?_)
    refine lv_if_ne (tgt := 28) C.1 C.2.1 dX0_obeysPerson_23 (by decide) (fun c2 => ?_) (fun c2 => ?_)
    · have hp := if_n _ c2 hp
      refine lv_aload_n C.1 C.2.1 dX0_obeysPerson_28 rfl (lv_at hl 2 rfl) ?_
      refine w_gi C X fX0_28 rfl dX0_obeysPerson_29 hp (fun v7 hp => ?_)
      refine lv_if_lt (tgt := 47) C.1 C.2.1 dX0_obeysPerson_32 (by decide) (fun c3 => ?_) (fun c3 => ?_)
      · have hp := if_p _ c3 hp
        refine lv_iconst (v := 0) C.1 C.2.1 dX0_obeysPerson_47 (by decide) ?_
        exact w_retz C X hr hlk (by decide) (by decide) dX0_obeysPerson_48 hp
      · have hp := if_n _ c3 hp
        refine lv_aload_n C.1 C.2.1 dX0_obeysPerson_35 rfl (lv_at hl 2 rfl) ?_
        refine w_gi C X fX0_28 rfl dX0_obeysPerson_36 hp (fun v8 hp => ?_)
        refine lv_aload_n C.1 C.2.1 dX0_obeysPerson_39 rfl (lv_at hl 2 rfl) ?_
        refine w_gr C X fX0_20 rfl dX0_obeysPerson_40 hp (fun q1 hp => ?_)
        refine w_ln C X dX0_obeysPerson_43 hp (fun v9 hp => ?_)
        refine lv_icmp_lt (tgt := 49) C.1 C.2.1 dX0_obeysPerson_44 (by decide) (fun c4 => ?_) (fun c4 => ?_)
        · have hp := if_p _ c4 hp
          refine lv_aload_n C.1 C.2.1 dX0_obeysPerson_49 rfl (lv_at hl 2 rfl) ?_
          refine w_gr C X fX0_20 rfl dX0_obeysPerson_50 hp (fun q2 hp => ?_)
          refine lv_aload_n C.1 C.2.1 dX0_obeysPerson_53 rfl (lv_at hl 2 rfl) ?_
          refine w_gi C X fX0_28 rfl dX0_obeysPerson_54 hp (fun v10 hp => ?_)
          refine w_nw (cells' := 1) (slots' := 4) C X nX0_18 (by decide) (by decide) dX0_obeysPerson_57 hp (fun q3 h5 H locs X hp => ?_)
          refine lv_dup C.1 C.2.1 dX0_obeysPerson_60 rfl ?_
          refine lv_aload_n C.1 C.2.1 dX0_obeysPerson_61 rfl (lv_at hl 3 rfl) ?_
          refine w_gi C X fX0_113 rfl dX0_obeysPerson_62 hp (fun v11 hp => ?_)
          refine lv_iload_n C.1 C.2.1 dX0_obeysPerson_65 rfl (lv_at hl 1 rfl) ?_
          refine lv_iload_n C.1 C.2.1 dX0_obeysPerson_66 rfl (lv_at hl 0 rfl) ?_
          refine lv_aload_n C.1 C.2.1 dX0_obeysPerson_67 rfl (lv_at hl 3 rfl) ?_
          refine lv_iconst (v := 2) C.1 C.2.1 dX0_obeysPerson_68 (by decide) ?_
          have hrc := (rc_some hp).1
          have hp := (rc_some hp).2
          refine w_ci (cells' := 1) (slots' := 4) X (fun _ _ e => run_VN (As := [.int 2]) (c0 := 3) C X mX3_numberAt miX3_numberAt lX0_85 (by decide) rfl hrc (ct_X3_numberAt l K p1 2 h5 e) (by decide) (by decide) rfl (Nat.le_of_ble_eq_true rfl) rfl hl.1 dX0_obeysPerson_69) (by decide) hp (fun v12 h6 H locs X hp => ?_)
          refine w_cv (cells' := 1) (slots' := 4) X (fun _ e => run_IN (As := [.int v11, .int v2, .int v4, .int v12]) C X mX2_init rfl mnX2_init lX0_116 (ct_X2_init l K q3 v11 v2 v4 v12 h6 e) (by decide) (by decide) rfl (Nat.le_of_ble_eq_true rfl) rfl hl.1 dX0_obeysPerson_72) (by decide) hp (fun h7 H locs X hp => ?_)
          refine w_rs (v := some q3) C X dX0_obeysPerson_75 hp (fun H locs h8 X hp => ?_)
          refine lv_aload_n C.1 C.2.1 dX0_obeysPerson_76 rfl (lv_at hl 2 rfl) ?_
          refine lv_dup C.1 C.2.1 dX0_obeysPerson_77 rfl ?_
          refine w_gi C X fX0_28 rfl dX0_obeysPerson_78 hp (fun v13 hp => ?_)
          refine lv_iconst (v := 1) C.1 C.2.1 dX0_obeysPerson_81 (by decide) ?_
          refine lv_iadd C.1 C.2.1 dX0_obeysPerson_82 ?_
          refine w_pi C X fX0_28 rfl rfl rfl rfl dX0_obeysPerson_83 hp (fun H locs h9 X hp => ?_)
          refine lv_iconst (v := 1) C.1 C.2.1 dX0_obeysPerson_86 (by decide) ?_
          exact w_retz C X hr hlk (by decide) (by decide) dX0_obeysPerson_87 hp
        · have hp := if_n _ c4 hp
          refine lv_iconst (v := 0) C.1 C.2.1 dX0_obeysPerson_47 (by decide) ?_
          exact w_retz C X hr hlk (by decide) (by decide) dX0_obeysPerson_48 hp
    · have hp := if_p _ c2 hp
      refine lv_iconst (v := 0) C.1 C.2.1 dX0_obeysPerson_26 (by decide) ?_
      exact w_retz C X hr hlk (by decide) (by decide) dX0_obeysPerson_27 hp

abbrev rmX0_obeysStuck : Room := { frames := 1, cells := 0, slots := 0, locals := 21 }
def P_X0_obeysStuck (p0 : Nat) (a1 : Int32) (h0 : Hp) : Option (Int32 × Hp) :=
    rc h0 p0 0 <| ci (P_X0_hasDoor p0 a1 h0) fun v1 h1 =>
    if v1 = 0 then (
    some (0, h1))
    else (
    gi h1 p0 0 4 fun v2 =>
    ci (P_X5_bitOf a1 h1) fun v3 h2 =>
    pi h2 p0 0 4 (v2 ^^^ v3) fun h3 =>
    some (1, h3))

set_option maxHeartbeats 4000000 in
set_option maxRecDepth 100000 in
theorem ct_X0_obeysStuck (l : Launch) (K : Kt) (p0 : Nat) (a1 : Int32) (h0 : Hp) {r : Int32} {h' : Hp} (hp : P_X0_obeysStuck p0 a1 h0 = some (r, h')) : CT l K yX0_obeysStuck cX0_obeysStuck 2 (some FieldType.boolean) rmX0_obeysStuck [.ref (K.1 + p0), .int a1] h0 (Qi K r h') := by
  refine ct_of (own := RX0) (by decide +kernel) rfl (Nat.le_of_ble_eq_true rfl) ?_
  intro p e s m args below meth c C X hr hlk hm ls hl
  have hl : lv_has ls 2 [(0, .ref (K.1 + p0)), (1, .int a1)] := hl
  unfold P_X0_obeysStuck at hp
  refine lv_aload_n C.1 C.2.1 dX0_obeysStuck_0 rfl (lv_at hl 0 rfl) ?_
  refine lv_iload_n C.1 C.2.1 dX0_obeysStuck_1 rfl (lv_at hl 1 rfl) ?_
  have hrc := (rc_some hp).1
  have hp := (rc_some hp).2
  refine w_ci (cells' := 0) (slots' := 0) X (fun _ _ e => run_V (As := [.int a1]) (c0 := 0) C X mX0_hasDoor miX0_hasDoor lX0_119 (by decide) rfl hrc (ct_X0_hasDoor l K p0 a1 h0 e) (by decide) (by decide) rfl (by decide) rfl hl.1 dX0_obeysStuck_2) (by decide) hp (fun v1 h1 H locs X hp => ?_)
  refine lv_if_ne (tgt := 10) C.1 C.2.1 dX0_obeysStuck_5 (by decide) (fun c1 => ?_) (fun c1 => ?_)
  · have hp := if_n _ c1 hp
    refine lv_aload_n C.1 C.2.1 dX0_obeysStuck_10 rfl (lv_at hl 0 rfl) ?_
    refine lv_dup C.1 C.2.1 dX0_obeysStuck_11 rfl ?_
    refine w_gi C X fX0_31 rfl dX0_obeysStuck_12 hp (fun v2 hp => ?_)
    refine lv_iload_n C.1 C.2.1 dX0_obeysStuck_15 rfl (lv_at hl 1 rfl) ?_
    refine w_ci (cells' := 0) (slots' := 0) X (fun _ _ e => run_SN (As := [.int a1]) C X mX5_bitOf msX5_bitOf lX0_49 (ct_X5_bitOf l K a1 h1 e) (by decide) (by decide) rfl (Nat.le_of_ble_eq_true rfl) rfl hl.1 dX0_obeysStuck_16) (by decide) hp (fun v3 h2 H locs X hp => ?_)
    refine lv_ixor C.1 C.2.1 dX0_obeysStuck_19 ?_
    refine w_pi C X fX0_31 rfl rfl rfl rfl dX0_obeysStuck_20 hp (fun H locs h3 X hp => ?_)
    refine lv_iconst (v := 1) C.1 C.2.1 dX0_obeysStuck_23 (by decide) ?_
    exact w_retz C X hr hlk (by decide) (by decide) dX0_obeysStuck_24 hp
  · have hp := if_p _ c1 hp
    refine lv_iconst (v := 0) C.1 C.2.1 dX0_obeysStuck_8 (by decide) ?_
    exact w_retz C X hr hlk (by decide) (by decide) dX0_obeysStuck_9 hp

abbrev rmX3_digitAt : Room := { frames := 0, cells := 0, slots := 0, locals := 0 }
def P_X3_digitAt (p0 : Nat) (a1 : Int32) (h0 : Hp) : Option (Int32 × Hp) :=
    if a1 < 0 then (
    some (0, h0))
    else (
    gi h0 p0 3 8 fun v1 =>
    if v1 ≤ a1 then (
    some (0, h0))
    else (
    gr h0 p0 3 7 fun q1 =>
    ln h0 q1 fun v2 =>
    if v2 ≤ a1 then (
    some (0, h0))
    else (
    gr h0 p0 3 7 fun q2 =>
    al h0 q2 a1 fun v3 =>
    some (v3, h0))))

set_option maxHeartbeats 4000000 in
set_option maxRecDepth 100000 in
theorem ct_X3_digitAt (l : Launch) (K : Kt) (p0 : Nat) (a1 : Int32) (h0 : Hp) {r : Int32} {h' : Hp} (hp : P_X3_digitAt p0 a1 h0 = some (r, h')) : CT l K yX3_digitAt cX3_digitAt 2 (some FieldType.int) rmX3_digitAt [.ref (K.1 + p0), .int a1] h0 (Qi K r h') := by
  refine ct_of (own := RX3) (by decide +kernel) rfl (Nat.le_of_ble_eq_true rfl) ?_
  intro p e s m args below meth c C X hr hlk hm ls hl
  have hl : lv_has ls 2 [(0, .ref (K.1 + p0)), (1, .int a1)] := hl
  unfold P_X3_digitAt at hp
  refine lv_iload_n C.1 C.2.1 dX3_digitAt_0 rfl (lv_at hl 1 rfl) ?_
  refine lv_if_lt (tgt := 30) C.1 C.2.1 dX3_digitAt_1 (by decide) (fun c1 => ?_) (fun c1 => ?_)
  · have hp := if_p _ c1 hp
    refine lv_iconst (v := 0) C.1 C.2.1 dX3_digitAt_30 (by decide) ?_
    exact w_reti C X hr hlk (by decide) dX3_digitAt_31 hp
  · have hp := if_n _ c1 hp
    refine lv_iload_n C.1 C.2.1 dX3_digitAt_4 rfl (lv_at hl 1 rfl) ?_
    refine lv_aload_n C.1 C.2.1 dX3_digitAt_5 rfl (lv_at hl 0 rfl) ?_
    refine w_gi C X fX3_31 rfl dX3_digitAt_6 hp (fun v1 hp => ?_)
    refine lv_icmp_ge (tgt := 30) C.1 C.2.1 dX3_digitAt_9 (by decide) (fun c2 => ?_) (fun c2 => ?_)
    · have hp := if_p _ c2 hp
      refine lv_iconst (v := 0) C.1 C.2.1 dX3_digitAt_30 (by decide) ?_
      exact w_reti C X hr hlk (by decide) dX3_digitAt_31 hp
    · have hp := if_n _ c2 hp
      refine lv_iload_n C.1 C.2.1 dX3_digitAt_12 rfl (lv_at hl 1 rfl) ?_
      refine lv_aload_n C.1 C.2.1 dX3_digitAt_13 rfl (lv_at hl 0 rfl) ?_
      refine w_gr C X fX3_18 rfl dX3_digitAt_14 hp (fun q1 hp => ?_)
      refine w_ln C X dX3_digitAt_17 hp (fun v2 hp => ?_)
      refine lv_icmp_ge (tgt := 30) C.1 C.2.1 dX3_digitAt_18 (by decide) (fun c3 => ?_) (fun c3 => ?_)
      · have hp := if_p _ c3 hp
        refine lv_iconst (v := 0) C.1 C.2.1 dX3_digitAt_30 (by decide) ?_
        exact w_reti C X hr hlk (by decide) dX3_digitAt_31 hp
      · have hp := if_n _ c3 hp
        refine lv_aload_n C.1 C.2.1 dX3_digitAt_21 rfl (lv_at hl 0 rfl) ?_
        refine w_gr C X fX3_18 rfl dX3_digitAt_22 hp (fun q2 hp => ?_)
        refine lv_iload_n C.1 C.2.1 dX3_digitAt_25 rfl (lv_at hl 1 rfl) ?_
        refine w_al C X dX3_digitAt_26 hp (fun v3 hp => ?_)
        refine lv_goto (tgt := 31) C.1 C.2.1 dX3_digitAt_27 (by decide) ?_
        exact w_reti C X hr hlk (by decide) dX3_digitAt_31 hp

abbrev rmX0_obeysWish : Room := { frames := 2, cells := 0, slots := 0, locals := 41 }
def P_X0_obeysWish_L20 : Nat → Nat → Nat → Int32 → Int32 → Int32 → Hp → Option (Int32 × Hp)
  | 0, _, _, _, _, _, _ => none
  | n + 1, q1, q2, v6, v7, v8, h1 =>
    gi h1 q1 0 0 fun v9 =>
    if v9 < v8 then (
    pi h1 q1 0 5 v6 fun h2 =>
    pi h2 q1 0 6 v7 fun h3 =>
    some (1, h3))
    else (
    rc h1 q2 3 <| ci (P_X3_digitAt q2 (v8 - 1) h1) fun v10 h4 =>
    lt (v10 : Int32) fun v11 =>
    if v11 = 9 then (
    lt ((v8 + 1) : Int32) fun v12 =>
    P_X0_obeysWish_L20 n q1 q2 v6 v7 v12 h4)
    else (
    gi h4 q1 0 1 fun v13 =>
    if v11 < v13 then (
    ci (P_X5_bitAt v8 1 h4) fun v14 h5 =>
    ci (P_X5_bitAt v8 2 h5) fun v15 h6 =>
    lt ((v6 ||| (v14 ||| v15)) : Int32) fun v16 =>
    ci (P_X5_bitAt v8 v11 h6) fun v17 h7 =>
    lt ((v7 ||| v17) : Int32) fun v18 =>
    lt ((v8 + 1) : Int32) fun v19 =>
    P_X0_obeysWish_L20 n q1 q2 v16 v18 v19 h7)
    else (
    some (0, h4))))

def P_X0_obeysWish (p0 : Nat) (p1 : Nat) (h0 : Hp) : Option (Int32 × Hp) :=
    gi h0 p1 3 8 fun v1 =>
    gi h0 p0 0 0 fun v2 =>
    if v1 = v2 then (
    lt (0 : Int32) fun v3 =>
    lt (0 : Int32) fun v4 =>
    lt (1 : Int32) fun v5 =>
    P_X0_obeysWish_L20 FU p0 p1 v3 v4 v5 h0)
    else (
    some (0, h0))

set_option maxHeartbeats 4000000 in
set_option maxRecDepth 100000 in
theorem wl_X0_obeysWish_L20 (C : CX K p m c cX0_obeysWish 6 s args RX0) (hr : meth.sig.returnType = (some FieldType.boolean)) (hlk : meth.locks = false) {r : Int32} {h' : Hp} : ∀ (n : Nat) (q1 : Nat) (q2 : Nat) (v6 : Int32) (v7 : Int32) (v8 : Int32) (h1 : Hp) (H : Heap) (locs : List Loc) (ls : Array Slot), HX K s.heap H locs h1 → lv_has ls 6 [(0, .ref (K.1 + q1)), (1, .ref (K.1 + q2)), (2, .int v6), (3, .int v7), (4, .int v8)] → P_X0_obeysWish_L20 n q1 q2 v6 v7 v8 h1 = some (r, h') → W p l e rmX0_obeysWish s m args below meth c H locs 0 0 (MQ below (Qi K r h') args s rmX0_obeysWish.cells rmX0_obeysWish.slots (KA K)) (F0 m 20 ls []) := by
  intro n
  induction n with
  | zero =>
    intro  q1 q2 v6 v7 v8 h1 H locs ls X hl hp
    cases hp
  | succ n ih =>
    intro  q1 q2 v6 v7 v8 h1 H locs ls X hl hp
    unfold P_X0_obeysWish_L20 at hp
    refine lv_iload C.1 C.2.1 dX0_obeysWish_20 (lv_at hl 4 rfl) ?_
    refine lv_aload_n C.1 C.2.1 dX0_obeysWish_22 rfl (lv_at hl 0 rfl) ?_
    refine w_gi C X fX0_9 rfl dX0_obeysWish_23 hp (fun v9 hp => ?_)
    refine lv_icmp_gt (tgt := 89) C.1 C.2.1 dX0_obeysWish_26 (by decide) (fun c2 => ?_) (fun c2 => ?_)
    · have hp := if_p _ c2 hp
      refine lv_aload_n C.1 C.2.1 dX0_obeysWish_89 rfl (lv_at hl 0 rfl) ?_
      refine lv_iload_n C.1 C.2.1 dX0_obeysWish_90 rfl (lv_at hl 2 rfl) ?_
      refine w_pi C X fX0_34 rfl rfl rfl rfl dX0_obeysWish_91 hp (fun H locs h2 X hp => ?_)
      refine lv_aload_n C.1 C.2.1 dX0_obeysWish_94 rfl (lv_at hl 0 rfl) ?_
      refine lv_iload_n C.1 C.2.1 dX0_obeysWish_95 rfl (lv_at hl 3 rfl) ?_
      refine w_pi C X fX0_37 rfl rfl rfl rfl dX0_obeysWish_96 hp (fun H locs h3 X hp => ?_)
      refine lv_iconst (v := 1) C.1 C.2.1 dX0_obeysWish_99 (by decide) ?_
      exact w_retz C X hr hlk (by decide) (by decide) dX0_obeysWish_100 hp
    · have hp := if_n _ c2 hp
      refine lv_aload_n C.1 C.2.1 dX0_obeysWish_29 rfl (lv_at hl 1 rfl) ?_
      refine lv_iload C.1 C.2.1 dX0_obeysWish_30 (lv_at hl 4 rfl) ?_
      refine lv_iconst (v := 1) C.1 C.2.1 dX0_obeysWish_32 (by decide) ?_
      refine lv_isub C.1 C.2.1 dX0_obeysWish_33 ?_
      have hrc := (rc_some hp).1
      have hp := (rc_some hp).2
      refine w_ci (cells' := 0) (slots' := 0) X (fun _ _ e => run_VN (As := [.int (v8 - 1)]) (c0 := 3) C X mX3_digitAt miX3_digitAt lX0_125 (by decide) rfl hrc (ct_X3_digitAt l K q2 (v8 - 1) h1 e) (by decide) (by decide) rfl (by decide) rfl hl.1 dX0_obeysWish_34) (by decide) hp (fun v10 h4 H locs X hp => ?_)
      refine w_ist C (fun v => [(5, .int (v)), (0, .ref (K.1 + q1)), (1, .ref (K.1 + q2)), (2, .int v6), (3, .int v7), (4, .int v8)]) dX0_obeysWish_37 hl (by decide) (fun _ => rfl) hp (fun v11 ls hl hp => ?_)
      refine lv_iload C.1 C.2.1 dX0_obeysWish_39 (lv_at hl 0 rfl) ?_
      refine lv_bipush (v := 9) C.1 C.2.1 dX0_obeysWish_41 (by decide) ?_
      refine lv_icmp_eq (tgt := 83) C.1 C.2.1 dX0_obeysWish_43 (by decide) (fun c3 => ?_) (fun c3 => ?_)
      · have hp := if_p _ c3 hp
        refine w_inc (k := 5) C (fun v => [(4, .int (v)), (5, .int v11), (0, .ref (K.1 + q1)), (1, .ref (K.1 + q2)), (2, .int v6), (3, .int v7)]) dX0_obeysWish_83 hl rfl (y := (v8 + 1)) rfl (by decide) (fun _ => rfl) hp (fun v12 ls hl hp => ?_)
        refine lv_goto (tgt := 20) C.1 C.2.1 dX0_obeysWish_86 (by decide) ?_
        exact ih _ _ _ _ _ _ _ _ _ X (lv_sub hl [2, 3, 4, 5, 0] rfl) hp
      · have hp := if_n _ c3 hp
        refine lv_iload C.1 C.2.1 dX0_obeysWish_46 (lv_at hl 0 rfl) ?_
        refine lv_aload_n C.1 C.2.1 dX0_obeysWish_48 rfl (lv_at hl 1 rfl) ?_
        refine w_gi C X fX0_15 rfl dX0_obeysWish_49 hp (fun v13 hp => ?_)
        refine lv_icmp_lt (tgt := 57) C.1 C.2.1 dX0_obeysWish_52 (by decide) (fun c4 => ?_) (fun c4 => ?_)
        · have hp := if_p _ c4 hp
          refine lv_iload_n C.1 C.2.1 dX0_obeysWish_57 rfl (lv_at hl 3 rfl) ?_
          refine lv_iload C.1 C.2.1 dX0_obeysWish_58 (lv_at hl 5 rfl) ?_
          refine lv_iconst (v := 1) C.1 C.2.1 dX0_obeysWish_60 (by decide) ?_
          refine w_ci (cells' := 0) (slots' := 0) X (fun _ _ e => run_SN (As := [.int v8, .int 1]) C X mX5_bitAt msX5_bitAt lX0_128 (ct_X5_bitAt l K v8 1 h4 e) (by decide) (by decide) rfl (Nat.le_of_ble_eq_true rfl) rfl hl.1 dX0_obeysWish_61) (by decide) hp (fun v14 h5 H locs X hp => ?_)
          refine lv_iload C.1 C.2.1 dX0_obeysWish_64 (lv_at hl 5 rfl) ?_
          refine lv_iconst (v := 2) C.1 C.2.1 dX0_obeysWish_66 (by decide) ?_
          refine w_ci (cells' := 0) (slots' := 0) X (fun _ _ e => run_SN (As := [.int v8, .int 2]) C X mX5_bitAt msX5_bitAt lX0_128 (ct_X5_bitAt l K v8 2 h5 e) (by decide) (by decide) rfl (Nat.le_of_ble_eq_true rfl) rfl hl.1 dX0_obeysWish_67) (by decide) hp (fun v15 h6 H locs X hp => ?_)
          refine lv_ior C.1 C.2.1 dX0_obeysWish_70 ?_
          refine lv_ior C.1 C.2.1 dX0_obeysWish_71 ?_
          refine w_istn C (fun v => [(2, .int (v)), (5, .int v11), (0, .ref (K.1 + q1)), (1, .ref (K.1 + q2)), (3, .int v7), (4, .int v8)]) dX0_obeysWish_72 rfl hl (by decide) (fun _ => rfl) hp (fun v16 ls hl hp => ?_)
          refine lv_iload_n C.1 C.2.1 dX0_obeysWish_73 rfl (lv_at hl 4 rfl) ?_
          refine lv_iload C.1 C.2.1 dX0_obeysWish_74 (lv_at hl 5 rfl) ?_
          refine lv_iload C.1 C.2.1 dX0_obeysWish_76 (lv_at hl 1 rfl) ?_
          refine w_ci (cells' := 0) (slots' := 0) X (fun _ _ e => run_SN (As := [.int v8, .int v11]) C X mX5_bitAt msX5_bitAt lX0_128 (ct_X5_bitAt l K v8 v11 h6 e) (by decide) (by decide) rfl (Nat.le_of_ble_eq_true rfl) rfl hl.1 dX0_obeysWish_78) (by decide) hp (fun v17 h7 H locs X hp => ?_)
          refine lv_ior C.1 C.2.1 dX0_obeysWish_81 ?_
          refine w_istn C (fun v => [(3, .int (v)), (2, .int v16), (5, .int v11), (0, .ref (K.1 + q1)), (1, .ref (K.1 + q2)), (4, .int v8)]) dX0_obeysWish_82 rfl hl (by decide) (fun _ => rfl) hp (fun v18 ls hl hp => ?_)
          refine w_inc (k := 5) C (fun v => [(4, .int (v)), (3, .int v18), (2, .int v16), (5, .int v11), (0, .ref (K.1 + q1)), (1, .ref (K.1 + q2))]) dX0_obeysWish_83 hl rfl (y := (v8 + 1)) rfl (by decide) (fun _ => rfl) hp (fun v19 ls hl hp => ?_)
          refine lv_goto (tgt := 20) C.1 C.2.1 dX0_obeysWish_86 (by decide) ?_
          exact ih _ _ _ _ _ _ _ _ _ X (lv_sub hl [4, 5, 2, 1, 0] rfl) hp
        · have hp := if_n _ c4 hp
          refine lv_iconst (v := 0) C.1 C.2.1 dX0_obeysWish_55 (by decide) ?_
          exact w_retz C X hr hlk (by decide) (by decide) dX0_obeysWish_56 hp

set_option maxHeartbeats 4000000 in
set_option maxRecDepth 100000 in
theorem ct_X0_obeysWish (l : Launch) (K : Kt) (p0 : Nat) (p1 : Nat) (h0 : Hp) {r : Int32} {h' : Hp} (hp : P_X0_obeysWish p0 p1 h0 = some (r, h')) : CT l K yX0_obeysWish cX0_obeysWish 6 (some FieldType.boolean) rmX0_obeysWish [.ref (K.1 + p0), .ref (K.1 + p1)] h0 (Qi K r h') := by
  refine ct_of (own := RX0) (by decide +kernel) rfl (Nat.le_of_ble_eq_true rfl) ?_
  intro p e s m args below meth c C X hr hlk hm ls hl
  have hl : lv_has ls 6 [(0, .ref (K.1 + p0)), (1, .ref (K.1 + p1))] := hl
  unfold P_X0_obeysWish at hp
  refine lv_aload_n C.1 C.2.1 dX0_obeysWish_0 rfl (lv_at hl 1 rfl) ?_
  refine w_gi C X fX0_122 rfl dX0_obeysWish_1 hp (fun v1 hp => ?_)
  refine lv_aload_n C.1 C.2.1 dX0_obeysWish_4 rfl (lv_at hl 0 rfl) ?_
  refine w_gi C X fX0_9 rfl dX0_obeysWish_5 hp (fun v2 hp => ?_)
  refine lv_icmp_eq (tgt := 13) C.1 C.2.1 dX0_obeysWish_8 (by decide) (fun c1 => ?_) (fun c1 => ?_)
  · have hp := if_p _ c1 hp
    refine lv_iconst (v := 0) C.1 C.2.1 dX0_obeysWish_13 (by decide) ?_
    refine w_istn C (fun v => [(2, .int (v)), (0, .ref (K.1 + p0)), (1, .ref (K.1 + p1))]) dX0_obeysWish_14 rfl hl (by decide) (fun _ => rfl) hp (fun v3 ls hl hp => ?_)
    refine lv_iconst (v := 0) C.1 C.2.1 dX0_obeysWish_15 (by decide) ?_
    refine w_istn C (fun v => [(3, .int (v)), (2, .int v3), (0, .ref (K.1 + p0)), (1, .ref (K.1 + p1))]) dX0_obeysWish_16 rfl hl (by decide) (fun _ => rfl) hp (fun v4 ls hl hp => ?_)
    refine lv_iconst (v := 1) C.1 C.2.1 dX0_obeysWish_17 (by decide) ?_
    refine w_ist C (fun v => [(4, .int (v)), (3, .int v4), (2, .int v3), (0, .ref (K.1 + p0)), (1, .ref (K.1 + p1))]) dX0_obeysWish_18 hl (by decide) (fun _ => rfl) hp (fun v5 ls hl hp => ?_)
    exact wl_X0_obeysWish_L20 C hr hlk _ _ _ _ _ _ _ _ _ _ X (lv_sub hl [3, 4, 2, 1, 0] rfl) hp
  · have hp := if_n _ c1 hp
    refine lv_iconst (v := 0) C.1 C.2.1 dX0_obeysWish_11 (by decide) ?_
    exact w_retz C X hr hlk (by decide) (by decide) dX0_obeysWish_12 hp

abbrev rmX0_obeysStand : Room := { frames := 2, cells := 0, slots := 0, locals := 41 }
def P_X0_obeysStand_L17 : Nat → Nat → Nat → Int32 → Int32 → Hp → Option (Int32 × Hp)
  | 0, _, _, _, _, _ => none
  | n + 1, q1, q2, v5, v6, h1 =>
    gi h1 q1 0 0 fun v7 =>
    if v7 < v6 then (
    pi h1 q1 0 7 v5 fun h2 =>
    some (1, h2))
    else (
    rc h1 q2 3 <| ci (P_X3_digitAt q2 (v6 - 1) h1) fun v8 h3 =>
    lt (v8 : Int32) fun v9 =>
    gi h3 q1 0 1 fun v10 =>
    if v9 < v10 then (
    ci (P_X5_bitAt v6 v9 h3) fun v11 h4 =>
    lt ((v5 ||| v11) : Int32) fun v12 =>
    lt ((v6 + 1) : Int32) fun v13 =>
    P_X0_obeysStand_L17 n q1 q2 v12 v13 h4)
    else (
    some (0, h3)))

def P_X0_obeysStand (p0 : Nat) (p1 : Nat) (h0 : Hp) : Option (Int32 × Hp) :=
    gi h0 p1 3 8 fun v1 =>
    gi h0 p0 0 0 fun v2 =>
    if v1 = v2 then (
    lt (0 : Int32) fun v3 =>
    lt (1 : Int32) fun v4 =>
    P_X0_obeysStand_L17 FU p0 p1 v3 v4 h0)
    else (
    some (0, h0))

set_option maxHeartbeats 4000000 in
set_option maxRecDepth 100000 in
theorem wl_X0_obeysStand_L17 (C : CX K p m c cX0_obeysStand 5 s args RX0) (hr : meth.sig.returnType = (some FieldType.boolean)) (hlk : meth.locks = false) {r : Int32} {h' : Hp} : ∀ (n : Nat) (q1 : Nat) (q2 : Nat) (v5 : Int32) (v6 : Int32) (h1 : Hp) (H : Heap) (locs : List Loc) (ls : Array Slot), HX K s.heap H locs h1 → lv_has ls 5 [(0, .ref (K.1 + q1)), (1, .ref (K.1 + q2)), (2, .int v5), (3, .int v6)] → P_X0_obeysStand_L17 n q1 q2 v5 v6 h1 = some (r, h') → W p l e rmX0_obeysStand s m args below meth c H locs 0 0 (MQ below (Qi K r h') args s rmX0_obeysStand.cells rmX0_obeysStand.slots (KA K)) (F0 m 17 ls []) := by
  intro n
  induction n with
  | zero =>
    intro  q1 q2 v5 v6 h1 H locs ls X hl hp
    cases hp
  | succ n ih =>
    intro  q1 q2 v5 v6 h1 H locs ls X hl hp
    unfold P_X0_obeysStand_L17 at hp
    refine lv_iload_n C.1 C.2.1 dX0_obeysStand_17 rfl (lv_at hl 3 rfl) ?_
    refine lv_aload_n C.1 C.2.1 dX0_obeysStand_18 rfl (lv_at hl 0 rfl) ?_
    refine w_gi C X fX0_9 rfl dX0_obeysStand_19 hp (fun v7 hp => ?_)
    refine lv_icmp_gt (tgt := 60) C.1 C.2.1 dX0_obeysStand_22 (by decide) (fun c2 => ?_) (fun c2 => ?_)
    · have hp := if_p _ c2 hp
      refine lv_aload_n C.1 C.2.1 dX0_obeysStand_60 rfl (lv_at hl 0 rfl) ?_
      refine lv_iload_n C.1 C.2.1 dX0_obeysStand_61 rfl (lv_at hl 2 rfl) ?_
      refine w_pi C X fX0_40 rfl rfl rfl rfl dX0_obeysStand_62 hp (fun H locs h2 X hp => ?_)
      refine lv_iconst (v := 1) C.1 C.2.1 dX0_obeysStand_65 (by decide) ?_
      exact w_retz C X hr hlk (by decide) (by decide) dX0_obeysStand_66 hp
    · have hp := if_n _ c2 hp
      refine lv_aload_n C.1 C.2.1 dX0_obeysStand_25 rfl (lv_at hl 1 rfl) ?_
      refine lv_iload_n C.1 C.2.1 dX0_obeysStand_26 rfl (lv_at hl 3 rfl) ?_
      refine lv_iconst (v := 1) C.1 C.2.1 dX0_obeysStand_27 (by decide) ?_
      refine lv_isub C.1 C.2.1 dX0_obeysStand_28 ?_
      have hrc := (rc_some hp).1
      have hp := (rc_some hp).2
      refine w_ci (cells' := 0) (slots' := 0) X (fun _ _ e => run_VN (As := [.int (v6 - 1)]) (c0 := 3) C X mX3_digitAt miX3_digitAt lX0_125 (by decide) rfl hrc (ct_X3_digitAt l K q2 (v6 - 1) h1 e) (by decide) (by decide) rfl (by decide) rfl hl.1 dX0_obeysStand_29) (by decide) hp (fun v8 h3 H locs X hp => ?_)
      refine w_ist C (fun v => [(4, .int (v)), (0, .ref (K.1 + q1)), (1, .ref (K.1 + q2)), (2, .int v5), (3, .int v6)]) dX0_obeysStand_32 hl (by decide) (fun _ => rfl) hp (fun v9 ls hl hp => ?_)
      refine lv_iload C.1 C.2.1 dX0_obeysStand_34 (lv_at hl 0 rfl) ?_
      refine lv_aload_n C.1 C.2.1 dX0_obeysStand_36 rfl (lv_at hl 1 rfl) ?_
      refine w_gi C X fX0_15 rfl dX0_obeysStand_37 hp (fun v10 hp => ?_)
      refine lv_icmp_lt (tgt := 45) C.1 C.2.1 dX0_obeysStand_40 (by decide) (fun c3 => ?_) (fun c3 => ?_)
      · have hp := if_p _ c3 hp
        refine lv_iload_n C.1 C.2.1 dX0_obeysStand_45 rfl (lv_at hl 3 rfl) ?_
        refine lv_iload_n C.1 C.2.1 dX0_obeysStand_46 rfl (lv_at hl 4 rfl) ?_
        refine lv_iload C.1 C.2.1 dX0_obeysStand_47 (lv_at hl 0 rfl) ?_
        refine w_ci (cells' := 0) (slots' := 0) X (fun _ _ e => run_SN (As := [.int v6, .int v9]) C X mX5_bitAt msX5_bitAt lX0_128 (ct_X5_bitAt l K v6 v9 h3 e) (by decide) (by decide) rfl (Nat.le_of_ble_eq_true rfl) rfl hl.1 dX0_obeysStand_49) (by decide) hp (fun v11 h4 H locs X hp => ?_)
        refine lv_ior C.1 C.2.1 dX0_obeysStand_52 ?_
        refine w_istn C (fun v => [(2, .int (v)), (4, .int v9), (0, .ref (K.1 + q1)), (1, .ref (K.1 + q2)), (3, .int v6)]) dX0_obeysStand_53 rfl hl (by decide) (fun _ => rfl) hp (fun v12 ls hl hp => ?_)
        refine w_inc (k := 4) C (fun v => [(3, .int (v)), (2, .int v12), (4, .int v9), (0, .ref (K.1 + q1)), (1, .ref (K.1 + q2))]) dX0_obeysStand_54 hl rfl (y := (v6 + 1)) rfl (by decide) (fun _ => rfl) hp (fun v13 ls hl hp => ?_)
        refine lv_goto (tgt := 17) C.1 C.2.1 dX0_obeysStand_57 (by decide) ?_
        exact ih _ _ _ _ _ _ _ _ X (lv_sub hl [3, 4, 1, 0] rfl) hp
      · have hp := if_n _ c3 hp
        refine lv_iconst (v := 0) C.1 C.2.1 dX0_obeysStand_43 (by decide) ?_
        exact w_retz C X hr hlk (by decide) (by decide) dX0_obeysStand_44 hp

set_option maxHeartbeats 4000000 in
set_option maxRecDepth 100000 in
theorem ct_X0_obeysStand (l : Launch) (K : Kt) (p0 : Nat) (p1 : Nat) (h0 : Hp) {r : Int32} {h' : Hp} (hp : P_X0_obeysStand p0 p1 h0 = some (r, h')) : CT l K yX0_obeysStand cX0_obeysStand 5 (some FieldType.boolean) rmX0_obeysStand [.ref (K.1 + p0), .ref (K.1 + p1)] h0 (Qi K r h') := by
  refine ct_of (own := RX0) (by decide +kernel) rfl (Nat.le_of_ble_eq_true rfl) ?_
  intro p e s m args below meth c C X hr hlk hm ls hl
  have hl : lv_has ls 5 [(0, .ref (K.1 + p0)), (1, .ref (K.1 + p1))] := hl
  unfold P_X0_obeysStand at hp
  refine lv_aload_n C.1 C.2.1 dX0_obeysStand_0 rfl (lv_at hl 1 rfl) ?_
  refine w_gi C X fX0_122 rfl dX0_obeysStand_1 hp (fun v1 hp => ?_)
  refine lv_aload_n C.1 C.2.1 dX0_obeysStand_4 rfl (lv_at hl 0 rfl) ?_
  refine w_gi C X fX0_9 rfl dX0_obeysStand_5 hp (fun v2 hp => ?_)
  refine lv_icmp_eq (tgt := 13) C.1 C.2.1 dX0_obeysStand_8 (by decide) (fun c1 => ?_) (fun c1 => ?_)
  · have hp := if_p _ c1 hp
    refine lv_iconst (v := 0) C.1 C.2.1 dX0_obeysStand_13 (by decide) ?_
    refine w_istn C (fun v => [(2, .int (v)), (0, .ref (K.1 + p0)), (1, .ref (K.1 + p1))]) dX0_obeysStand_14 rfl hl (by decide) (fun _ => rfl) hp (fun v3 ls hl hp => ?_)
    refine lv_iconst (v := 1) C.1 C.2.1 dX0_obeysStand_15 (by decide) ?_
    refine w_istn C (fun v => [(3, .int (v)), (2, .int v3), (0, .ref (K.1 + p0)), (1, .ref (K.1 + p1))]) dX0_obeysStand_16 rfl hl (by decide) (fun _ => rfl) hp (fun v4 ls hl hp => ?_)
    exact wl_X0_obeysStand_L17 C hr hlk _ _ _ _ _ _ _ _ _ X (lv_sub hl [2, 3, 1, 0] rfl) hp
  · have hp := if_n _ c1 hp
    refine lv_iconst (v := 0) C.1 C.2.1 dX0_obeysStand_11 (by decide) ?_
    exact w_retz C X hr hlk (by decide) (by decide) dX0_obeysStand_12 hp

end
