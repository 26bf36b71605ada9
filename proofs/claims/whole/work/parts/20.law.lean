noncomputable section
/-- an int of the script -/
def sl {α : Type} (L : Nat) (xs : Nat → Int32) (i : Int32) (f : Int32 → Option α) : Option α := if ¬ i < 0 ∧ i.toNatClampNeg < L then f (xs i.toNatClampNeg) else none
theorem w_sl {p : Program} {l : Launch} {e : Env} {R : Room} {s : State} {m : MethodId} {args : Array Value} {below : List Frame} {meth : Method} {c : Code} {H : Heap} {locs : List Loc} {cells slots : Nat} {Q : State → Prop} {cc : ByteArray} {pc : Nat} {ls : Array Slot} {rest : List Value} {K : Kt} {h : Hp} {nL : Nat} {own : String} {ρ : Type} {z : ρ} {b L : Nat} {xs : Nat → Int32} (C : CX K p m c cc nL s args own) (hXs : va_X b L xs s s.heap) (hbl : b < s.heap.size) (hbA : ¬ KA K b) (X : HX K s.heap H locs h) {i : Int32} {f : Int32 → Option ρ} (hdg : decode cc pc = .ok (.iaload, 1)) (hp : sl L xs i f = some z)
    (kk : ∀ v, f v = some z → W p l e R s m args below meth c H locs cells slots Q (F0 m (pc + 1) ls (.int v :: rest))) : W p l e R s m args below meth c H locs cells slots Q (F0 m pc ls (.int i :: .ref b :: rest)) := by
  unfold sl at hp
  split at hp
  next hc => exact va_sld C.1 C.2.1 hXs hbl hbA X.2.2 (vin_of hc.1 hc.2) hdg (kk _ hp)
  next => cases hp
theorem w_lawret {p : Program} {l : Launch} {e : Env} {s : State} {m : MethodId} {below : List Frame} {meth : Method} {c : Code} {H : Heap} {locs : List Loc} {cells slots : Nat} {pc : Nat} {ls : Array Slot} {K : Kt} {h : Hp} {nL b : Nat} {own : String} (C : CX K p m c code nL s #[Value.ref b] own) (X : HX K s.heap H locs h) (hKb : K.1 = s.heap.size) (hr : meth.sig.returnType = ret) (hlk : meth.locks = false) (h1 : cells ≤ 600000) (h2 : slots ≤ 7302250) (hdg : decode code pc = .ok (.ireturn, 1)) : W p l e room_1 s m #[Value.ref b] below meth c H locs cells slots (lw_Z below #[Value.ref b] s) (F0 m pc ls [.int 1]) := by
  refine va_forget (fun q hq => by have := X.2.2.2.2 q hq; rw [← hKb]; exact this) ?_
  refine W.widen h1 h2 ?_
  exact lw_ret C.1 C.2.1 hr hlk hdg
def P_L_law_L18 (L : Nat) (xs : Nat → Int32) : Nat → Nat → Nat → Int32 → Hp → Option (Int32 × Hp)
  | 0, _, _, _, _ => none
  | n + 1, q1, q2, v1, h1 =>
    if ((Int32.ofNat L) - 4) < v1 then (
    some (1, h1))
    else (
    sl L xs v1 fun v2 =>
    if (v2 &&& 31) = 0 then (
    sl L xs (v1 + 1) fun v3 =>
    rc h1 q1 5 <| ci (P_X5_letter q1 v3 h1) fun v4 h2 =>
    sl L xs (v1 + 1) fun v5 =>
    rc h2 q2 6 <| ci (P_X6_letter q2 v5 h2) fun v6 h3 =>
    if v4 = v6 then (
    lt ((v1 + 4) : Int32) fun v7 =>
    P_L_law_L18 L xs n q1 q2 v7 h3)
    else (
    some (0, h3)))
    else if (v2 &&& 31) = 1 then (
    rc h1 q1 5 <| ci (P_X5_house q1 h1) fun v8 h4 =>
    rc h4 q2 6 <| ci (P_X6_house q2 h4) fun v9 h5 =>
    if v8 = v9 then (
    lt ((v1 + 4) : Int32) fun v10 =>
    P_L_law_L18 L xs n q1 q2 v10 h5)
    else (
    some (0, h5)))
    else if (v2 &&& 31) = 2 then (
    sl L xs (v1 + 1) fun v11 =>
    sl L xs (v1 + 2) fun v12 =>
    rc h1 q1 5 <| ci (P_X5_door q1 v11 v12 h1) fun v13 h6 =>
    sl L xs (v1 + 1) fun v14 =>
    sl L xs (v1 + 2) fun v15 =>
    rc h6 q2 6 <| ci (P_X6_door q2 v14 v15 h6) fun v16 h7 =>
    if v13 = v16 then (
    lt ((v1 + 4) : Int32) fun v17 =>
    P_L_law_L18 L xs n q1 q2 v17 h7)
    else (
    some (0, h7)))
    else if (v2 &&& 31) = 3 then (
    sl L xs (v1 + 1) fun v18 =>
    sl L xs (v1 + 2) fun v19 =>
    rc h1 q1 5 <| ci (P_X5_person q1 v18 v19 h1) fun v20 h8 =>
    sl L xs (v1 + 1) fun v21 =>
    sl L xs (v1 + 2) fun v22 =>
    rc h8 q2 6 <| ci (P_X6_person q2 v21 v22 h8) fun v23 h9 =>
    if v20 = v23 then (
    lt ((v1 + 4) : Int32) fun v24 =>
    P_L_law_L18 L xs n q1 q2 v24 h9)
    else (
    some (0, h9)))
    else if (v2 &&& 31) = 4 then (
    sl L xs (v1 + 1) fun v25 =>
    rc h1 q1 5 <| ci (P_X5_go q1 v25 h1) fun v26 h10 =>
    sl L xs (v1 + 1) fun v27 =>
    rc h10 q2 6 <| ci (P_X6_go q2 v27 h10) fun v28 h11 =>
    if v26 = v28 then (
    lt ((v1 + 4) : Int32) fun v29 =>
    P_L_law_L18 L xs n q1 q2 v29 h11)
    else (
    some (0, h11)))
    else if (v2 &&& 31) = 5 then (
    sl L xs (v1 + 1) fun v30 =>
    rc h1 q1 5 <| ci (P_X5_turn q1 v30 h1) fun v31 h12 =>
    sl L xs (v1 + 1) fun v32 =>
    rc h12 q2 6 <| ci (P_X6_turn q2 v32 h12) fun v33 h13 =>
    if v31 = v33 then (
    lt ((v1 + 4) : Int32) fun v34 =>
    P_L_law_L18 L xs n q1 q2 v34 h13)
    else (
    some (0, h13)))
    else if (v2 &&& 31) = 6 then (
    rc h1 q1 5 <| ci (P_X5_state q1 h1) fun v35 h14 =>
    rc h14 q2 6 <| ci (P_X6_state q2 h14) fun v36 h15 =>
    if v35 = v36 then (
    lt ((v1 + 4) : Int32) fun v37 =>
    P_L_law_L18 L xs n q1 q2 v37 h15)
    else (
    some (0, h15)))
    else if (v2 &&& 31) = 7 then (
    rc h1 q1 5 <| ci (P_X5_wished q1 h1) fun v38 h16 =>
    rc h16 q2 6 <| ci (P_X6_wished q2 h16) fun v39 h17 =>
    if v38 = v39 then (
    lt ((v1 + 4) : Int32) fun v40 =>
    P_L_law_L18 L xs n q1 q2 v40 h17)
    else (
    some (0, h17)))
    else if (v2 &&& 31) = 8 then (
    sl L xs (v1 + 1) fun v41 =>
    sl L xs (v1 + 2) fun v42 =>
    sl L xs (v1 + 3) fun v43 =>
    rc h1 q1 5 <| ci (P_X5_way q1 v41 v42 v43 h1) fun v44 h18 =>
    sl L xs (v1 + 1) fun v45 =>
    sl L xs (v1 + 2) fun v46 =>
    sl L xs (v1 + 3) fun v47 =>
    rc h18 q2 6 <| ci (P_X6_way q2 v45 v46 v47 h18) fun v48 h19 =>
    if v44 = v48 then (
    lt ((v1 + 4) : Int32) fun v49 =>
    P_L_law_L18 L xs n q1 q2 v49 h19)
    else (
    some (0, h19)))
    else if (v2 &&& 31) = 9 then (
    rc h1 q1 5 <| ci (P_X5_can q1 h1) fun v50 h20 =>
    rc h20 q2 6 <| ci (P_X6_can q2 h20) fun v51 h21 =>
    if v50 = v51 then (
    lt ((v1 + 4) : Int32) fun v52 =>
    P_L_law_L18 L xs n q1 q2 v52 h21)
    else (
    some (0, h21)))
    else if (v2 &&& 31) = 10 then (
    rc h1 q1 5 <| ci (P_X5_fewest q1 h1) fun v53 h22 =>
    rc h22 q2 6 <| ci (P_X6_fewest q2 h22) fun v54 h23 =>
    if v53 = v54 then (
    lt ((v1 + 4) : Int32) fun v55 =>
    P_L_law_L18 L xs n q1 q2 v55 h23)
    else (
    some (0, h23)))
    else if (v2 &&& 31) = 11 then (
    rc h1 q1 5 <| ci (P_X5_cheapest q1 h1) fun v56 h24 =>
    rc h24 q2 6 <| ci (P_X6_cheapest q2 h24) fun v57 h25 =>
    if v56 = v57 then (
    lt ((v1 + 4) : Int32) fun v58 =>
    P_L_law_L18 L xs n q1 q2 v58 h25)
    else (
    some (0, h25)))
    else if (v2 &&& 31) = 12 then (
    sl L xs (v1 + 1) fun v59 =>
    rc h1 q1 5 <| ci (P_X5_how q1 v59 h1) fun v60 h26 =>
    sl L xs (v1 + 1) fun v61 =>
    rc h26 q2 6 <| ci (P_X6_how q2 v61 h26) fun v62 h27 =>
    if v60 = v62 then (
    lt ((v1 + 4) : Int32) fun v63 =>
    P_L_law_L18 L xs n q1 q2 v63 h27)
    else (
    some (0, h27)))
    else if (v2 &&& 31) = 13 then (
    rc h1 q1 5 <| ci (P_X5_nothing q1 h1) fun v64 h28 =>
    rc h28 q2 6 <| ci (P_X6_nothing q2 h28) fun v65 h29 =>
    if v64 = v65 then (
    lt ((v1 + 4) : Int32) fun v66 =>
    P_L_law_L18 L xs n q1 q2 v66 h29)
    else (
    some (0, h29)))
    else if (v2 &&& 31) = 14 then (
    rc h1 q1 5 <| ci (P_X5_states q1 h1) fun v67 h30 =>
    rc h30 q2 6 <| ci (P_X6_states q2 h30) fun v68 h31 =>
    if v67 = v68 then (
    lt ((v1 + 4) : Int32) fun v69 =>
    P_L_law_L18 L xs n q1 q2 v69 h31)
    else (
    some (0, h31)))
    else if (v2 &&& 31) = 15 then (
    sl L xs (v1 + 1) fun v70 =>
    rc h1 q1 5 <| ci (P_X5_keys q1 v70 h1) fun v71 h32 =>
    sl L xs (v1 + 1) fun v72 =>
    rc h32 q2 6 <| ci (P_X6_keys q2 v72 h32) fun v73 h33 =>
    if v71 = v73 then (
    lt ((v1 + 4) : Int32) fun v74 =>
    P_L_law_L18 L xs n q1 q2 v74 h33)
    else (
    some (0, h33)))
    else if (v2 &&& 31) = 16 then (
    rc h1 q1 5 <| ci (P_X5_been q1 h1) fun v75 h34 =>
    rc h34 q2 6 <| ci (P_X6_been q2 h34) fun v76 h35 =>
    if v75 = v76 then (
    lt ((v1 + 4) : Int32) fun v77 =>
    P_L_law_L18 L xs n q1 q2 v77 h35)
    else (
    some (0, h35)))
    else if (v2 &&& 31) = 17 then (
    rc h1 q1 5 <| ci (P_X5_sure q1 h1) fun v78 h36 =>
    rc h36 q2 6 <| ci (P_X6_sure q2 h36) fun v79 h37 =>
    if v78 = v79 then (
    lt ((v1 + 4) : Int32) fun v80 =>
    P_L_law_L18 L xs n q1 q2 v80 h37)
    else (
    some (0, h37)))
    else if (v2 &&& 31) = 18 then (
    sl L xs (v1 + 1) fun v81 =>
    rc h1 q1 5 <| ci (P_X5_forEver q1 v81 h1) fun v82 h38 =>
    sl L xs (v1 + 1) fun v83 =>
    rc h38 q2 6 <| ci (P_X6_forEver q2 v83 h38) fun v84 h39 =>
    if v82 = v84 then (
    lt ((v1 + 4) : Int32) fun v85 =>
    P_L_law_L18 L xs n q1 q2 v85 h39)
    else (
    some (0, h39)))
    else if (v2 &&& 31) = 19 then (
    sl L xs (v1 + 1) fun v86 =>
    rc h1 q1 5 <| ci (P_X5_nth q1 v86 h1) fun v87 h40 =>
    sl L xs (v1 + 1) fun v88 =>
    rc h40 q2 6 <| ci (P_X6_nth q2 v88 h40) fun v89 h41 =>
    if v87 = v89 then (
    lt ((v1 + 4) : Int32) fun v90 =>
    P_L_law_L18 L xs n q1 q2 v90 h41)
    else (
    some (0, h41)))
    else if (v2 &&& 31) = 20 then (
    sl L xs (v1 + 1) fun v91 =>
    rc h1 q1 5 <| ci (P_X5_open q1 v91 h1) fun v92 h42 =>
    sl L xs (v1 + 1) fun v93 =>
    rc h42 q2 6 <| ci (P_X6_open q2 v93 h42) fun v94 h43 =>
    if v92 = v94 then (
    lt ((v1 + 4) : Int32) fun v95 =>
    P_L_law_L18 L xs n q1 q2 v95 h43)
    else (
    some (0, h43)))
    else if (v2 &&& 31) = 21 then (
    sl L xs (v1 + 1) fun v96 =>
    rc h1 q1 5 <| ci (P_X5_log q1 v96 h1) fun v97 h44 =>
    sl L xs (v1 + 1) fun v98 =>
    rc h44 q2 6 <| ci (P_X6_log q2 v98 h44) fun v99 h45 =>
    if v97 = v99 then (
    lt ((v1 + 4) : Int32) fun v100 =>
    P_L_law_L18 L xs n q1 q2 v100 h45)
    else (
    some (0, h45)))
    else if (v2 &&& 31) = 22 then (
    sl L xs (v1 + 1) fun v101 =>
    rc h1 q1 5 <| ci (P_X5_order q1 v101 h1) fun v102 h46 =>
    sl L xs (v1 + 1) fun v103 =>
    rc h46 q2 6 <| ci (P_X6_order q2 v103 h46) fun v104 h47 =>
    if v102 = v104 then (
    lt ((v1 + 4) : Int32) fun v105 =>
    P_L_law_L18 L xs n q1 q2 v105 h47)
    else (
    some (0, h47)))
    else if (v2 &&& 31) = 23 then (
    rc h1 q1 5 <| ci (P_X5_fills q1 h1) fun v106 h48 =>
    rc h48 q2 6 <| ci (P_X6_fills q2 h48) fun v107 h49 =>
    if v106 = v107 then (
    lt ((v1 + 4) : Int32) fun v108 =>
    P_L_law_L18 L xs n q1 q2 v108 h49)
    else (
    some (0, h49)))
    else if (v2 &&& 31) = 24 then (
    sl L xs (v1 + 1) fun v109 =>
    rc h1 q1 5 <| ci (P_X5_run q1 v109 h1) fun v110 h50 =>
    sl L xs (v1 + 1) fun v111 =>
    rc h50 q2 6 <| ci (P_X6_run q2 v111 h50) fun v112 h51 =>
    if v110 = v112 then (
    lt ((v1 + 4) : Int32) fun v113 =>
    P_L_law_L18 L xs n q1 q2 v113 h51)
    else (
    some (0, h51)))
    else if (v2 &&& 31) = 25 then (
    rc h1 q1 5 <| ci (P_X5_judge q1 h1) fun v114 h52 =>
    rc h52 q2 6 <| ci (P_X6_judge q2 h52) fun v115 h53 =>
    if v114 = v115 then (
    lt ((v1 + 4) : Int32) fun v116 =>
    P_L_law_L18 L xs n q1 q2 v116 h53)
    else (
    some (0, h53)))
    else if (v2 &&& 31) = 26 then (
    rc h1 q1 5 <| ci (P_X5_clear q1 h1) fun v117 h54 =>
    rc h54 q2 6 <| ci (P_X6_clear q2 h54) fun v118 h55 =>
    if v117 = v118 then (
    lt ((v1 + 4) : Int32) fun v119 =>
    P_L_law_L18 L xs n q1 q2 v119 h55)
    else (
    some (0, h55)))
    else if (v2 &&& 31) = 27 then (
    rc h1 q1 5 <| ci (P_X5_match q1 h1) fun v120 h56 =>
    rc h56 q2 6 <| ci (P_X6_match q2 h56) fun v121 h57 =>
    if v120 = v121 then (
    lt ((v1 + 4) : Int32) fun v122 =>
    P_L_law_L18 L xs n q1 q2 v122 h57)
    else (
    some (0, h57)))
    else if (v2 &&& 31) = 28 then (
    sl L xs (v1 + 1) fun v123 =>
    sl L xs (v1 + 2) fun v124 =>
    rc h1 q1 5 <| ci (P_X5_seeds q1 v123 v124 h1) fun v125 h58 =>
    sl L xs (v1 + 1) fun v126 =>
    sl L xs (v1 + 2) fun v127 =>
    rc h58 q2 6 <| ci (P_X6_seeds q2 v126 v127 h58) fun v128 h59 =>
    if v125 = v128 then (
    lt ((v1 + 4) : Int32) fun v129 =>
    P_L_law_L18 L xs n q1 q2 v129 h59)
    else (
    some (0, h59)))
    else if (v2 &&& 31) = 29 then (
    rc h1 q1 5 <| ci (P_X5_image q1 h1) fun v130 h60 =>
    rc h60 q2 6 <| ci (P_X6_image q2 h60) fun v131 h61 =>
    if v130 = v131 then (
    lt ((v1 + 4) : Int32) fun v132 =>
    P_L_law_L18 L xs n q1 q2 v132 h61)
    else (
    some (0, h61)))
    else if (v2 &&& 31) = 30 then (
    rc h1 q1 5 <| ci (P_X5_on q1 h1) fun v133 h62 =>
    rc h62 q2 6 <| ci (P_X6_on q2 h62) fun v134 h63 =>
    if v133 = v134 then (
    lt ((v1 + 4) : Int32) fun v135 =>
    P_L_law_L18 L xs n q1 q2 v135 h63)
    else (
    some (0, h63)))
    else if (v2 &&& 31) = 31 then (
    sl L xs (v1 + 1) fun v136 =>
    rc h1 q1 5 <| ci (P_X5_count q1 v136 h1) fun v137 h64 =>
    sl L xs (v1 + 1) fun v138 =>
    rc h64 q2 6 <| ci (P_X6_count q2 v138 h64) fun v139 h65 =>
    if v137 = v139 then (
    lt ((v1 + 4) : Int32) fun v140 =>
    P_L_law_L18 L xs n q1 q2 v140 h65)
    else (
    some (0, h65)))
    else (
    lt ((v1 + 4) : Int32) fun v141 =>
    P_L_law_L18 L xs n q1 q2 v141 h1))

section
variable {p : Program} {l : Launch} {e : Env} {s : State} {m : MethodId} {below : List Frame} {meth : Method} {c : Code} {K : Kt} {b L : Nat} {xs : Nat → Int32}
set_option maxHeartbeats 40000000 in
set_option maxRecDepth 100000 in
theorem wl_L_law (C : CX K p m c code 4 s #[Value.ref b] RL) (hr : meth.sig.returnType = ret) (hlk : meth.locks = false) (hKb : K.1 = s.heap.size) (hXs : va_X b L xs s s.heap) (hbl : b < s.heap.size) (hbA : ¬ KA K b) {h' : Hp} : ∀ (n : Nat) (cn sn : Nat) (q1 q2 : Nat) (v1 : Int32) (h1 : Hp) (H : Heap) (locs : List Loc) (ls : Array Slot), HX K s.heap H locs h1 → lv_has ls 4 [(0, .ref b), (1, .ref (K.1 + q1)), (2, .ref (K.1 + q2)), (3, .int v1)] → cn + 65 * n ≤ 600000 → sn + 260 * n ≤ 7302250 → P_L_law_L18 L xs n q1 q2 v1 h1 = some (1, h') → W p l e room_1 s m #[Value.ref b] below meth c H locs cn sn (lw_Z below #[Value.ref b] s) (F0 m 18 ls []) := by
  intro n
  induction n with
  | zero =>
    intro cn sn q1 q2 v1 h1 H locs ls X hl hcn hsn hp
    cases hp
  | succ n ih =>
    intro cn sn q1 q2 v1 h1 H locs ls X hl hcn hsn hp
    unfold P_L_law_L18 at hp
    refine lv_iload_n C.1 C.2.1 dL_law_18 rfl (lv_at hl 3 rfl) ?_
    refine lv_aload_n C.1 C.2.1 dL_law_19 rfl (lv_at hl 0 rfl) ?_
    refine va_slen C.1 C.2.1 hXs hbl hbA X.2.2 dL_law_20 ?_
    refine lv_iconst (v := 4) C.1 C.2.1 dL_law_21 (by decide) ?_
    refine lv_isub C.1 C.2.1 dL_law_22 ?_
    refine lv_icmp_gt (tgt := 808) C.1 C.2.1 dL_law_23 (by decide) (fun c1 => ?_) (fun c1 => ?_)
    · have hp := if_p _ c1 hp
      refine lv_iconst (v := 1) C.1 C.2.1 dL_law_808 (by decide) ?_
      exact w_lawret C X hKb hr hlk (show cn ≤ 600000 by omega) (show sn ≤ 7302250 by omega) dL_law_809
    · have hp := if_n _ c1 hp
      refine lv_aload_n C.1 C.2.1 dL_law_26 rfl (lv_at hl 0 rfl) ?_
      refine lv_iload_n C.1 C.2.1 dL_law_27 rfl (lv_at hl 3 rfl) ?_
      refine w_sl C hXs hbl hbA X dL_law_28 hp (fun v2 hp => ?_)
      refine lv_bipush (v := 31) C.1 C.2.1 dL_law_29 (by decide) ?_
      refine lv_iand C.1 C.2.1 dL_law_31 ?_
      by_cases c2 : (v2 &&& 31) = 0
      · have hp := if_p _ c2 hp
        refine w_tsC (tgt := 176) C dL_law_32 c2 (by decide) (by decide) rfl (by decide) ?_
        refine lv_aload_n C.1 C.2.1 dL_law_176 rfl (lv_at hl 1 rfl) ?_
        refine lv_aload_n C.1 C.2.1 dL_law_177 rfl (lv_at hl 0 rfl) ?_
        refine lv_iload_n C.1 C.2.1 dL_law_178 rfl (lv_at hl 3 rfl) ?_
        refine lv_iconst (v := 1) C.1 C.2.1 dL_law_179 (by decide) ?_
        refine lv_iadd C.1 C.2.1 dL_law_180 ?_
        refine w_sl C hXs hbl hbA X dL_law_181 hp (fun v3 hp => ?_)
        have hrc := (rc_some hp).1
        have hp := (rc_some hp).2
        refine w_ci (cells' := cn) (slots' := sn) X (fun _ _ e => run_V (As := [.int v3]) (c0 := 5) C X mX5_letter miX5_letter lL_13 (by decide) rfl hrc (ct_X5_letter l K q1 v3 h1 e) (by decide) ⟨show cn + 0 ≤ 600000 by omega, show sn + 0 ≤ 7302250 by omega⟩ rfl (by decide) rfl hl.1 dL_law_182) ⟨rfl, rfl⟩ hp (fun v4 h2 H locs X hp => ?_)
        refine lv_aload_n C.1 C.2.1 dL_law_185 rfl (lv_at hl 2 rfl) ?_
        refine lv_aload_n C.1 C.2.1 dL_law_186 rfl (lv_at hl 0 rfl) ?_
        refine lv_iload_n C.1 C.2.1 dL_law_187 rfl (lv_at hl 3 rfl) ?_
        refine lv_iconst (v := 1) C.1 C.2.1 dL_law_188 (by decide) ?_
        refine lv_iadd C.1 C.2.1 dL_law_189 ?_
        refine w_sl C hXs hbl hbA X dL_law_190 hp (fun v5 hp => ?_)
        have hrc := (rc_some hp).1
        have hp := (rc_some hp).2
        refine w_ci (cells' := cn) (slots' := sn) X (fun _ _ e => run_V (As := [.int v5]) (c0 := 6) C X mX6_letter miX6_letter lL_17 (by decide) rfl hrc (ct_X6_letter l K q2 v5 h2 e) (by decide) ⟨show cn + 0 ≤ 600000 by omega, show sn + 0 ≤ 7302250 by omega⟩ rfl (Nat.le_of_ble_eq_true rfl) rfl hl.1 dL_law_191) ⟨rfl, rfl⟩ hp (fun v6 h3 H locs X hp => ?_)
        refine lv_icmp_eq (tgt := 802) C.1 C.2.1 dL_law_194 (by decide) (fun c3 => ?_) (fun c3 => ?_)
        · have hp := if_p _ c3 hp
          refine w_inc (k := 3) C (fun v => [(3, .int (v)), (0, .ref b), (1, .ref (K.1 + q1)), (2, .ref (K.1 + q2))]) dL_law_802 hl rfl (y := (v1 + 4)) rfl (by decide) (fun _ => rfl) hp (fun v7 ls hl hp => ?_)
          refine lv_goto (tgt := 18) C.1 C.2.1 dL_law_805 (by decide) ?_
          exact ih _ _ _ _ _ _ _ _ _ X (lv_sub hl [1, 2, 3, 0] rfl) (by omega) (by omega) hp
        · have hp := if_n _ c3 hp
          refine lv_iconst (v := 0) C.1 C.2.1 dL_law_197 (by decide) ?_
          exact absurd hp (by simp)
      · have hp := if_n _ c2 hp
        by_cases c4 : (v2 &&& 31) = 1
        · have hp := if_p _ c4 hp
          refine w_tsC (tgt := 199) C dL_law_32 c4 (by decide) (by decide) rfl (by decide) ?_
          refine lv_aload_n C.1 C.2.1 dL_law_199 rfl (lv_at hl 1 rfl) ?_
          have hrc := (rc_some hp).1
          have hp := (rc_some hp).2
          refine w_ci (cells' := (cn + 65)) (slots' := (sn + 260)) X (fun _ _ e => run_V (As := []) (c0 := 5) C X mX5_house miX5_house lL_18 (by decide) rfl hrc (ct_X5_house l K q1 h1 e) (by decide) ⟨show cn + 65 ≤ 600000 by omega, show sn + 260 ≤ 7302250 by omega⟩ rfl (by decide) rfl hl.1 dL_law_200) ⟨rfl, rfl⟩ hp (fun v8 h4 H locs X hp => ?_)
          refine lv_aload_n C.1 C.2.1 dL_law_203 rfl (lv_at hl 2 rfl) ?_
          have hrc := (rc_some hp).1
          have hp := (rc_some hp).2
          refine w_ci (cells' := (cn + 65)) (slots' := (sn + 260)) X (fun _ _ e => run_V (As := []) (c0 := 6) C X mX6_house miX6_house lL_22 (by decide) rfl hrc (ct_X6_house l K q2 h4 e) (by decide) ⟨show (cn + 65) + 0 ≤ 600000 by omega, show (sn + 260) + 0 ≤ 7302250 by omega⟩ rfl (Nat.le_of_ble_eq_true rfl) rfl hl.1 dL_law_204) ⟨rfl, rfl⟩ hp (fun v9 h5 H locs X hp => ?_)
          refine lv_icmp_eq (tgt := 802) C.1 C.2.1 dL_law_207 (by decide) (fun c5 => ?_) (fun c5 => ?_)
          · have hp := if_p _ c5 hp
            refine w_inc (k := 3) C (fun v => [(3, .int (v)), (0, .ref b), (1, .ref (K.1 + q1)), (2, .ref (K.1 + q2))]) dL_law_802 hl rfl (y := (v1 + 4)) rfl (by decide) (fun _ => rfl) hp (fun v10 ls hl hp => ?_)
            refine lv_goto (tgt := 18) C.1 C.2.1 dL_law_805 (by decide) ?_
            exact ih _ _ _ _ _ _ _ _ _ X (lv_sub hl [1, 2, 3, 0] rfl) (by omega) (by omega) hp
          · have hp := if_n _ c5 hp
            refine lv_iconst (v := 0) C.1 C.2.1 dL_law_210 (by decide) ?_
            exact absurd hp (by simp)
        · have hp := if_n _ c4 hp
          by_cases c6 : (v2 &&& 31) = 2
          · have hp := if_p _ c6 hp
            refine w_tsC (tgt := 212) C dL_law_32 c6 (by decide) (by decide) rfl (by decide) ?_
            refine lv_aload_n C.1 C.2.1 dL_law_212 rfl (lv_at hl 1 rfl) ?_
            refine lv_aload_n C.1 C.2.1 dL_law_213 rfl (lv_at hl 0 rfl) ?_
            refine lv_iload_n C.1 C.2.1 dL_law_214 rfl (lv_at hl 3 rfl) ?_
            refine lv_iconst (v := 1) C.1 C.2.1 dL_law_215 (by decide) ?_
            refine lv_iadd C.1 C.2.1 dL_law_216 ?_
            refine w_sl C hXs hbl hbA X dL_law_217 hp (fun v11 hp => ?_)
            refine lv_aload_n C.1 C.2.1 dL_law_218 rfl (lv_at hl 0 rfl) ?_
            refine lv_iload_n C.1 C.2.1 dL_law_219 rfl (lv_at hl 3 rfl) ?_
            refine lv_iconst (v := 2) C.1 C.2.1 dL_law_220 (by decide) ?_
            refine lv_iadd C.1 C.2.1 dL_law_221 ?_
            refine w_sl C hXs hbl hbA X dL_law_222 hp (fun v12 hp => ?_)
            have hrc := (rc_some hp).1
            have hp := (rc_some hp).2
            refine w_ci (cells' := cn) (slots' := sn) X (fun _ _ e => run_V (As := [.int v11, .int v12]) (c0 := 5) C X mX5_door miX5_door lL_23 (by decide) rfl hrc (ct_X5_door l K q1 v11 v12 h1 e) (by decide) ⟨show cn + 0 ≤ 600000 by omega, show sn + 0 ≤ 7302250 by omega⟩ rfl (by decide) rfl hl.1 dL_law_223) ⟨rfl, rfl⟩ hp (fun v13 h6 H locs X hp => ?_)
            refine lv_aload_n C.1 C.2.1 dL_law_226 rfl (lv_at hl 2 rfl) ?_
            refine lv_aload_n C.1 C.2.1 dL_law_227 rfl (lv_at hl 0 rfl) ?_
            refine lv_iload_n C.1 C.2.1 dL_law_228 rfl (lv_at hl 3 rfl) ?_
            refine lv_iconst (v := 1) C.1 C.2.1 dL_law_229 (by decide) ?_
            refine lv_iadd C.1 C.2.1 dL_law_230 ?_
            refine w_sl C hXs hbl hbA X dL_law_231 hp (fun v14 hp => ?_)
            refine lv_aload_n C.1 C.2.1 dL_law_232 rfl (lv_at hl 0 rfl) ?_
            refine lv_iload_n C.1 C.2.1 dL_law_233 rfl (lv_at hl 3 rfl) ?_
            refine lv_iconst (v := 2) C.1 C.2.1 dL_law_234 (by decide) ?_
            refine lv_iadd C.1 C.2.1 dL_law_235 ?_
            refine w_sl C hXs hbl hbA X dL_law_236 hp (fun v15 hp => ?_)
            have hrc := (rc_some hp).1
            have hp := (rc_some hp).2
            refine w_ci (cells' := cn) (slots' := sn) X (fun _ _ e => run_V (As := [.int v14, .int v15]) (c0 := 6) C X mX6_door miX6_door lL_27 (by decide) rfl hrc (ct_X6_door l K q2 v14 v15 h6 e) (by decide) ⟨show cn + 0 ≤ 600000 by omega, show sn + 0 ≤ 7302250 by omega⟩ rfl (Nat.le_of_ble_eq_true rfl) rfl hl.1 dL_law_237) ⟨rfl, rfl⟩ hp (fun v16 h7 H locs X hp => ?_)
            refine lv_icmp_eq (tgt := 802) C.1 C.2.1 dL_law_240 (by decide) (fun c7 => ?_) (fun c7 => ?_)
            · have hp := if_p _ c7 hp
              refine w_inc (k := 3) C (fun v => [(3, .int (v)), (0, .ref b), (1, .ref (K.1 + q1)), (2, .ref (K.1 + q2))]) dL_law_802 hl rfl (y := (v1 + 4)) rfl (by decide) (fun _ => rfl) hp (fun v17 ls hl hp => ?_)
              refine lv_goto (tgt := 18) C.1 C.2.1 dL_law_805 (by decide) ?_
              exact ih _ _ _ _ _ _ _ _ _ X (lv_sub hl [1, 2, 3, 0] rfl) (by omega) (by omega) hp
            · have hp := if_n _ c7 hp
              refine lv_iconst (v := 0) C.1 C.2.1 dL_law_243 (by decide) ?_
              exact absurd hp (by simp)
          · have hp := if_n _ c6 hp
            by_cases c8 : (v2 &&& 31) = 3
            · have hp := if_p _ c8 hp
              refine w_tsC (tgt := 245) C dL_law_32 c8 (by decide) (by decide) rfl (by decide) ?_
              refine lv_aload_n C.1 C.2.1 dL_law_245 rfl (lv_at hl 1 rfl) ?_
              refine lv_aload_n C.1 C.2.1 dL_law_246 rfl (lv_at hl 0 rfl) ?_
              refine lv_iload_n C.1 C.2.1 dL_law_247 rfl (lv_at hl 3 rfl) ?_
              refine lv_iconst (v := 1) C.1 C.2.1 dL_law_248 (by decide) ?_
              refine lv_iadd C.1 C.2.1 dL_law_249 ?_
              refine w_sl C hXs hbl hbA X dL_law_250 hp (fun v18 hp => ?_)
              refine lv_aload_n C.1 C.2.1 dL_law_251 rfl (lv_at hl 0 rfl) ?_
              refine lv_iload_n C.1 C.2.1 dL_law_252 rfl (lv_at hl 3 rfl) ?_
              refine lv_iconst (v := 2) C.1 C.2.1 dL_law_253 (by decide) ?_
              refine lv_iadd C.1 C.2.1 dL_law_254 ?_
              refine w_sl C hXs hbl hbA X dL_law_255 hp (fun v19 hp => ?_)
              have hrc := (rc_some hp).1
              have hp := (rc_some hp).2
              refine w_ci (cells' := cn) (slots' := sn) X (fun _ _ e => run_V (As := [.int v18, .int v19]) (c0 := 5) C X mX5_person miX5_person lL_28 (by decide) rfl hrc (ct_X5_person l K q1 v18 v19 h1 e) (by decide) ⟨show cn + 0 ≤ 600000 by omega, show sn + 0 ≤ 7302250 by omega⟩ rfl (by decide) rfl hl.1 dL_law_256) ⟨rfl, rfl⟩ hp (fun v20 h8 H locs X hp => ?_)
              refine lv_aload_n C.1 C.2.1 dL_law_259 rfl (lv_at hl 2 rfl) ?_
              refine lv_aload_n C.1 C.2.1 dL_law_260 rfl (lv_at hl 0 rfl) ?_
              refine lv_iload_n C.1 C.2.1 dL_law_261 rfl (lv_at hl 3 rfl) ?_
              refine lv_iconst (v := 1) C.1 C.2.1 dL_law_262 (by decide) ?_
              refine lv_iadd C.1 C.2.1 dL_law_263 ?_
              refine w_sl C hXs hbl hbA X dL_law_264 hp (fun v21 hp => ?_)
              refine lv_aload_n C.1 C.2.1 dL_law_265 rfl (lv_at hl 0 rfl) ?_
              refine lv_iload_n C.1 C.2.1 dL_law_266 rfl (lv_at hl 3 rfl) ?_
              refine lv_iconst (v := 2) C.1 C.2.1 dL_law_267 (by decide) ?_
              refine lv_iadd C.1 C.2.1 dL_law_268 ?_
              refine w_sl C hXs hbl hbA X dL_law_269 hp (fun v22 hp => ?_)
              have hrc := (rc_some hp).1
              have hp := (rc_some hp).2
              refine w_ci (cells' := cn) (slots' := sn) X (fun _ _ e => run_V (As := [.int v21, .int v22]) (c0 := 6) C X mX6_person miX6_person lL_31 (by decide) rfl hrc (ct_X6_person l K q2 v21 v22 h8 e) (by decide) ⟨show cn + 0 ≤ 600000 by omega, show sn + 0 ≤ 7302250 by omega⟩ rfl (Nat.le_of_ble_eq_true rfl) rfl hl.1 dL_law_270) ⟨rfl, rfl⟩ hp (fun v23 h9 H locs X hp => ?_)
              refine lv_icmp_eq (tgt := 802) C.1 C.2.1 dL_law_273 (by decide) (fun c9 => ?_) (fun c9 => ?_)
              · have hp := if_p _ c9 hp
                refine w_inc (k := 3) C (fun v => [(3, .int (v)), (0, .ref b), (1, .ref (K.1 + q1)), (2, .ref (K.1 + q2))]) dL_law_802 hl rfl (y := (v1 + 4)) rfl (by decide) (fun _ => rfl) hp (fun v24 ls hl hp => ?_)
                refine lv_goto (tgt := 18) C.1 C.2.1 dL_law_805 (by decide) ?_
                exact ih _ _ _ _ _ _ _ _ _ X (lv_sub hl [1, 2, 3, 0] rfl) (by omega) (by omega) hp
              · have hp := if_n _ c9 hp
                refine lv_iconst (v := 0) C.1 C.2.1 dL_law_276 (by decide) ?_
                exact absurd hp (by simp)
            · have hp := if_n _ c8 hp
              by_cases c10 : (v2 &&& 31) = 4
              · have hp := if_p _ c10 hp
                refine w_tsC (tgt := 278) C dL_law_32 c10 (by decide) (by decide) rfl (by decide) ?_
                refine lv_aload_n C.1 C.2.1 dL_law_278 rfl (lv_at hl 1 rfl) ?_
                refine lv_aload_n C.1 C.2.1 dL_law_279 rfl (lv_at hl 0 rfl) ?_
                refine lv_iload_n C.1 C.2.1 dL_law_280 rfl (lv_at hl 3 rfl) ?_
                refine lv_iconst (v := 1) C.1 C.2.1 dL_law_281 (by decide) ?_
                refine lv_iadd C.1 C.2.1 dL_law_282 ?_
                refine w_sl C hXs hbl hbA X dL_law_283 hp (fun v25 hp => ?_)
                have hrc := (rc_some hp).1
                have hp := (rc_some hp).2
                refine w_ci (cells' := cn) (slots' := sn) X (fun _ _ e => run_V (As := [.int v25]) (c0 := 5) C X mX5_go miX5_go lL_32 (by decide) rfl hrc (ct_X5_go l K q1 v25 h1 e) (by decide) ⟨show cn + 0 ≤ 600000 by omega, show sn + 0 ≤ 7302250 by omega⟩ rfl (by decide) rfl hl.1 dL_law_284) ⟨rfl, rfl⟩ hp (fun v26 h10 H locs X hp => ?_)
                refine lv_aload_n C.1 C.2.1 dL_law_287 rfl (lv_at hl 2 rfl) ?_
                refine lv_aload_n C.1 C.2.1 dL_law_288 rfl (lv_at hl 0 rfl) ?_
                refine lv_iload_n C.1 C.2.1 dL_law_289 rfl (lv_at hl 3 rfl) ?_
                refine lv_iconst (v := 1) C.1 C.2.1 dL_law_290 (by decide) ?_
                refine lv_iadd C.1 C.2.1 dL_law_291 ?_
                refine w_sl C hXs hbl hbA X dL_law_292 hp (fun v27 hp => ?_)
                have hrc := (rc_some hp).1
                have hp := (rc_some hp).2
                refine w_ci (cells' := cn) (slots' := sn) X (fun _ _ e => run_V (As := [.int v27]) (c0 := 6) C X mX6_go miX6_go lL_35 (by decide) rfl hrc (ct_X6_go l K q2 v27 h10 e) (by decide) ⟨show cn + 0 ≤ 600000 by omega, show sn + 0 ≤ 7302250 by omega⟩ rfl (Nat.le_of_ble_eq_true rfl) rfl hl.1 dL_law_293) ⟨rfl, rfl⟩ hp (fun v28 h11 H locs X hp => ?_)
                refine lv_icmp_eq (tgt := 802) C.1 C.2.1 dL_law_296 (by decide) (fun c11 => ?_) (fun c11 => ?_)
                · have hp := if_p _ c11 hp
                  refine w_inc (k := 3) C (fun v => [(3, .int (v)), (0, .ref b), (1, .ref (K.1 + q1)), (2, .ref (K.1 + q2))]) dL_law_802 hl rfl (y := (v1 + 4)) rfl (by decide) (fun _ => rfl) hp (fun v29 ls hl hp => ?_)
                  refine lv_goto (tgt := 18) C.1 C.2.1 dL_law_805 (by decide) ?_
                  exact ih _ _ _ _ _ _ _ _ _ X (lv_sub hl [1, 2, 3, 0] rfl) (by omega) (by omega) hp
                · have hp := if_n _ c11 hp
                  refine lv_iconst (v := 0) C.1 C.2.1 dL_law_299 (by decide) ?_
                  exact absurd hp (by simp)
              · have hp := if_n _ c10 hp
                by_cases c12 : (v2 &&& 31) = 5
                · have hp := if_p _ c12 hp
                  refine w_tsC (tgt := 301) C dL_law_32 c12 (by decide) (by decide) rfl (by decide) ?_
                  refine lv_aload_n C.1 C.2.1 dL_law_301 rfl (lv_at hl 1 rfl) ?_
                  refine lv_aload_n C.1 C.2.1 dL_law_302 rfl (lv_at hl 0 rfl) ?_
                  refine lv_iload_n C.1 C.2.1 dL_law_303 rfl (lv_at hl 3 rfl) ?_
                  refine lv_iconst (v := 1) C.1 C.2.1 dL_law_304 (by decide) ?_
                  refine lv_iadd C.1 C.2.1 dL_law_305 ?_
                  refine w_sl C hXs hbl hbA X dL_law_306 hp (fun v30 hp => ?_)
                  have hrc := (rc_some hp).1
                  have hp := (rc_some hp).2
                  refine w_ci (cells' := cn) (slots' := sn) X (fun _ _ e => run_V (As := [.int v30]) (c0 := 5) C X mX5_turn miX5_turn lL_36 (by decide) rfl hrc (ct_X5_turn l K q1 v30 h1 e) (by decide) ⟨show cn + 0 ≤ 600000 by omega, show sn + 0 ≤ 7302250 by omega⟩ rfl (by decide) rfl hl.1 dL_law_307) ⟨rfl, rfl⟩ hp (fun v31 h12 H locs X hp => ?_)
                  refine lv_aload_n C.1 C.2.1 dL_law_310 rfl (lv_at hl 2 rfl) ?_
                  refine lv_aload_n C.1 C.2.1 dL_law_311 rfl (lv_at hl 0 rfl) ?_
                  refine lv_iload_n C.1 C.2.1 dL_law_312 rfl (lv_at hl 3 rfl) ?_
                  refine lv_iconst (v := 1) C.1 C.2.1 dL_law_313 (by decide) ?_
                  refine lv_iadd C.1 C.2.1 dL_law_314 ?_
                  refine w_sl C hXs hbl hbA X dL_law_315 hp (fun v32 hp => ?_)
                  have hrc := (rc_some hp).1
                  have hp := (rc_some hp).2
                  refine w_ci (cells' := cn) (slots' := sn) X (fun _ _ e => run_V (As := [.int v32]) (c0 := 6) C X mX6_turn miX6_turn lL_39 (by decide) rfl hrc (ct_X6_turn l K q2 v32 h12 e) (by decide) ⟨show cn + 0 ≤ 600000 by omega, show sn + 0 ≤ 7302250 by omega⟩ rfl (Nat.le_of_ble_eq_true rfl) rfl hl.1 dL_law_316) ⟨rfl, rfl⟩ hp (fun v33 h13 H locs X hp => ?_)
                  refine lv_icmp_eq (tgt := 802) C.1 C.2.1 dL_law_319 (by decide) (fun c13 => ?_) (fun c13 => ?_)
                  · have hp := if_p _ c13 hp
                    refine w_inc (k := 3) C (fun v => [(3, .int (v)), (0, .ref b), (1, .ref (K.1 + q1)), (2, .ref (K.1 + q2))]) dL_law_802 hl rfl (y := (v1 + 4)) rfl (by decide) (fun _ => rfl) hp (fun v34 ls hl hp => ?_)
                    refine lv_goto (tgt := 18) C.1 C.2.1 dL_law_805 (by decide) ?_
                    exact ih _ _ _ _ _ _ _ _ _ X (lv_sub hl [1, 2, 3, 0] rfl) (by omega) (by omega) hp
                  · have hp := if_n _ c13 hp
                    refine lv_iconst (v := 0) C.1 C.2.1 dL_law_322 (by decide) ?_
                    exact absurd hp (by simp)
                · have hp := if_n _ c12 hp
                  by_cases c14 : (v2 &&& 31) = 6
                  · have hp := if_p _ c14 hp
                    refine w_tsC (tgt := 324) C dL_law_32 c14 (by decide) (by decide) rfl (by decide) ?_
                    refine lv_aload_n C.1 C.2.1 dL_law_324 rfl (lv_at hl 1 rfl) ?_
                    have hrc := (rc_some hp).1
                    have hp := (rc_some hp).2
                    refine w_ci (cells' := cn) (slots' := sn) X (fun _ _ e => run_V (As := []) (c0 := 5) C X mX5_state miX5_state lL_40 (by decide) rfl hrc (ct_X5_state l K q1 h1 e) (by decide) ⟨show cn + 0 ≤ 600000 by omega, show sn + 0 ≤ 7302250 by omega⟩ rfl (by decide) rfl hl.1 dL_law_325) ⟨rfl, rfl⟩ hp (fun v35 h14 H locs X hp => ?_)
                    refine lv_aload_n C.1 C.2.1 dL_law_328 rfl (lv_at hl 2 rfl) ?_
                    have hrc := (rc_some hp).1
                    have hp := (rc_some hp).2
                    refine w_ci (cells' := cn) (slots' := sn) X (fun _ _ e => run_V (As := []) (c0 := 6) C X mX6_state miX6_state lL_43 (by decide) rfl hrc (ct_X6_state l K q2 h14 e) (by decide) ⟨show cn + 0 ≤ 600000 by omega, show sn + 0 ≤ 7302250 by omega⟩ rfl (Nat.le_of_ble_eq_true rfl) rfl hl.1 dL_law_329) ⟨rfl, rfl⟩ hp (fun v36 h15 H locs X hp => ?_)
                    refine lv_icmp_eq (tgt := 802) C.1 C.2.1 dL_law_332 (by decide) (fun c15 => ?_) (fun c15 => ?_)
                    · have hp := if_p _ c15 hp
                      refine w_inc (k := 3) C (fun v => [(3, .int (v)), (0, .ref b), (1, .ref (K.1 + q1)), (2, .ref (K.1 + q2))]) dL_law_802 hl rfl (y := (v1 + 4)) rfl (by decide) (fun _ => rfl) hp (fun v37 ls hl hp => ?_)
                      refine lv_goto (tgt := 18) C.1 C.2.1 dL_law_805 (by decide) ?_
                      exact ih _ _ _ _ _ _ _ _ _ X (lv_sub hl [1, 2, 3, 0] rfl) (by omega) (by omega) hp
                    · have hp := if_n _ c15 hp
                      refine lv_iconst (v := 0) C.1 C.2.1 dL_law_335 (by decide) ?_
                      exact absurd hp (by simp)
                  · have hp := if_n _ c14 hp
                    by_cases c16 : (v2 &&& 31) = 7
                    · have hp := if_p _ c16 hp
                      refine w_tsC (tgt := 337) C dL_law_32 c16 (by decide) (by decide) rfl (by decide) ?_
                      refine lv_aload_n C.1 C.2.1 dL_law_337 rfl (lv_at hl 1 rfl) ?_
                      have hrc := (rc_some hp).1
                      have hp := (rc_some hp).2
                      refine w_ci (cells' := cn) (slots' := sn) X (fun _ _ e => run_V (As := []) (c0 := 5) C X mX5_wished miX5_wished lL_44 (by decide) rfl hrc (ct_X5_wished l K q1 h1 e) (by decide) ⟨show cn + 0 ≤ 600000 by omega, show sn + 0 ≤ 7302250 by omega⟩ rfl (by decide) rfl hl.1 dL_law_338) ⟨rfl, rfl⟩ hp (fun v38 h16 H locs X hp => ?_)
                      refine lv_aload_n C.1 C.2.1 dL_law_341 rfl (lv_at hl 2 rfl) ?_
                      have hrc := (rc_some hp).1
                      have hp := (rc_some hp).2
                      refine w_ci (cells' := cn) (slots' := sn) X (fun _ _ e => run_V (As := []) (c0 := 6) C X mX6_wished miX6_wished lL_47 (by decide) rfl hrc (ct_X6_wished l K q2 h16 e) (by decide) ⟨show cn + 0 ≤ 600000 by omega, show sn + 0 ≤ 7302250 by omega⟩ rfl (Nat.le_of_ble_eq_true rfl) rfl hl.1 dL_law_342) ⟨rfl, rfl⟩ hp (fun v39 h17 H locs X hp => ?_)
                      refine lv_icmp_eq (tgt := 802) C.1 C.2.1 dL_law_345 (by decide) (fun c17 => ?_) (fun c17 => ?_)
                      · have hp := if_p _ c17 hp
                        refine w_inc (k := 3) C (fun v => [(3, .int (v)), (0, .ref b), (1, .ref (K.1 + q1)), (2, .ref (K.1 + q2))]) dL_law_802 hl rfl (y := (v1 + 4)) rfl (by decide) (fun _ => rfl) hp (fun v40 ls hl hp => ?_)
                        refine lv_goto (tgt := 18) C.1 C.2.1 dL_law_805 (by decide) ?_
                        exact ih _ _ _ _ _ _ _ _ _ X (lv_sub hl [1, 2, 3, 0] rfl) (by omega) (by omega) hp
                      · have hp := if_n _ c17 hp
                        refine lv_iconst (v := 0) C.1 C.2.1 dL_law_348 (by decide) ?_
                        exact absurd hp (by simp)
                    · have hp := if_n _ c16 hp
                      by_cases c18 : (v2 &&& 31) = 8
                      · have hp := if_p _ c18 hp
                        refine w_tsC (tgt := 350) C dL_law_32 c18 (by decide) (by decide) rfl (by decide) ?_
                        refine lv_aload_n C.1 C.2.1 dL_law_350 rfl (lv_at hl 1 rfl) ?_
                        refine lv_aload_n C.1 C.2.1 dL_law_351 rfl (lv_at hl 0 rfl) ?_
                        refine lv_iload_n C.1 C.2.1 dL_law_352 rfl (lv_at hl 3 rfl) ?_
                        refine lv_iconst (v := 1) C.1 C.2.1 dL_law_353 (by decide) ?_
                        refine lv_iadd C.1 C.2.1 dL_law_354 ?_
                        refine w_sl C hXs hbl hbA X dL_law_355 hp (fun v41 hp => ?_)
                        refine lv_aload_n C.1 C.2.1 dL_law_356 rfl (lv_at hl 0 rfl) ?_
                        refine lv_iload_n C.1 C.2.1 dL_law_357 rfl (lv_at hl 3 rfl) ?_
                        refine lv_iconst (v := 2) C.1 C.2.1 dL_law_358 (by decide) ?_
                        refine lv_iadd C.1 C.2.1 dL_law_359 ?_
                        refine w_sl C hXs hbl hbA X dL_law_360 hp (fun v42 hp => ?_)
                        refine lv_aload_n C.1 C.2.1 dL_law_361 rfl (lv_at hl 0 rfl) ?_
                        refine lv_iload_n C.1 C.2.1 dL_law_362 rfl (lv_at hl 3 rfl) ?_
                        refine lv_iconst (v := 3) C.1 C.2.1 dL_law_363 (by decide) ?_
                        refine lv_iadd C.1 C.2.1 dL_law_364 ?_
                        refine w_sl C hXs hbl hbA X dL_law_365 hp (fun v43 hp => ?_)
                        have hrc := (rc_some hp).1
                        have hp := (rc_some hp).2
                        refine w_ci (cells' := cn) (slots' := sn) X (fun _ _ e => run_V (As := [.int v41, .int v42, .int v43]) (c0 := 5) C X mX5_way miX5_way lL_48 (by decide) rfl hrc (ct_X5_way l K q1 v41 v42 v43 h1 e) (by decide) ⟨show cn + 0 ≤ 600000 by omega, show sn + 0 ≤ 7302250 by omega⟩ rfl (by decide) rfl hl.1 dL_law_366) ⟨rfl, rfl⟩ hp (fun v44 h18 H locs X hp => ?_)
                        refine lv_aload_n C.1 C.2.1 dL_law_369 rfl (lv_at hl 2 rfl) ?_
                        refine lv_aload_n C.1 C.2.1 dL_law_370 rfl (lv_at hl 0 rfl) ?_
                        refine lv_iload_n C.1 C.2.1 dL_law_371 rfl (lv_at hl 3 rfl) ?_
                        refine lv_iconst (v := 1) C.1 C.2.1 dL_law_372 (by decide) ?_
                        refine lv_iadd C.1 C.2.1 dL_law_373 ?_
                        refine w_sl C hXs hbl hbA X dL_law_374 hp (fun v45 hp => ?_)
                        refine lv_aload_n C.1 C.2.1 dL_law_375 rfl (lv_at hl 0 rfl) ?_
                        refine lv_iload_n C.1 C.2.1 dL_law_376 rfl (lv_at hl 3 rfl) ?_
                        refine lv_iconst (v := 2) C.1 C.2.1 dL_law_377 (by decide) ?_
                        refine lv_iadd C.1 C.2.1 dL_law_378 ?_
                        refine w_sl C hXs hbl hbA X dL_law_379 hp (fun v46 hp => ?_)
                        refine lv_aload_n C.1 C.2.1 dL_law_380 rfl (lv_at hl 0 rfl) ?_
                        refine lv_iload_n C.1 C.2.1 dL_law_381 rfl (lv_at hl 3 rfl) ?_
                        refine lv_iconst (v := 3) C.1 C.2.1 dL_law_382 (by decide) ?_
                        refine lv_iadd C.1 C.2.1 dL_law_383 ?_
                        refine w_sl C hXs hbl hbA X dL_law_384 hp (fun v47 hp => ?_)
                        have hrc := (rc_some hp).1
                        have hp := (rc_some hp).2
                        refine w_ci (cells' := cn) (slots' := sn) X (fun _ _ e => run_V (As := [.int v45, .int v46, .int v47]) (c0 := 6) C X mX6_way miX6_way lL_52 (by decide) rfl hrc (ct_X6_way l K q2 v45 v46 v47 h18 e) (by decide) ⟨show cn + 0 ≤ 600000 by omega, show sn + 0 ≤ 7302250 by omega⟩ rfl (Nat.le_of_ble_eq_true rfl) rfl hl.1 dL_law_385) ⟨rfl, rfl⟩ hp (fun v48 h19 H locs X hp => ?_)
                        refine lv_icmp_eq (tgt := 802) C.1 C.2.1 dL_law_388 (by decide) (fun c19 => ?_) (fun c19 => ?_)
                        · have hp := if_p _ c19 hp
                          refine w_inc (k := 3) C (fun v => [(3, .int (v)), (0, .ref b), (1, .ref (K.1 + q1)), (2, .ref (K.1 + q2))]) dL_law_802 hl rfl (y := (v1 + 4)) rfl (by decide) (fun _ => rfl) hp (fun v49 ls hl hp => ?_)
                          refine lv_goto (tgt := 18) C.1 C.2.1 dL_law_805 (by decide) ?_
                          exact ih _ _ _ _ _ _ _ _ _ X (lv_sub hl [1, 2, 3, 0] rfl) (by omega) (by omega) hp
                        · have hp := if_n _ c19 hp
                          refine lv_iconst (v := 0) C.1 C.2.1 dL_law_391 (by decide) ?_
                          exact absurd hp (by simp)
                      · have hp := if_n _ c18 hp
                        by_cases c20 : (v2 &&& 31) = 9
                        · have hp := if_p _ c20 hp
                          refine w_tsC (tgt := 393) C dL_law_32 c20 (by decide) (by decide) rfl (by decide) ?_
                          refine lv_aload_n C.1 C.2.1 dL_law_393 rfl (lv_at hl 1 rfl) ?_
                          have hrc := (rc_some hp).1
                          have hp := (rc_some hp).2
                          refine w_ci (cells' := cn) (slots' := sn) X (fun _ _ e => run_V (As := []) (c0 := 5) C X mX5_can miX5_can lL_53 (by decide) rfl hrc (ct_X5_can l K q1 h1 e) (by decide) ⟨show cn + 0 ≤ 600000 by omega, show sn + 0 ≤ 7302250 by omega⟩ rfl (by decide) rfl hl.1 dL_law_394) ⟨rfl, rfl⟩ hp (fun v50 h20 H locs X hp => ?_)
                          refine lv_aload_n C.1 C.2.1 dL_law_397 rfl (lv_at hl 2 rfl) ?_
                          have hrc := (rc_some hp).1
                          have hp := (rc_some hp).2
                          refine w_ci (cells' := cn) (slots' := sn) X (fun _ _ e => run_V (As := []) (c0 := 6) C X mX6_can miX6_can lL_56 (by decide) rfl hrc (ct_X6_can l K q2 h20 e) (by decide) ⟨show cn + 0 ≤ 600000 by omega, show sn + 0 ≤ 7302250 by omega⟩ rfl (Nat.le_of_ble_eq_true rfl) rfl hl.1 dL_law_398) ⟨rfl, rfl⟩ hp (fun v51 h21 H locs X hp => ?_)
                          refine lv_icmp_eq (tgt := 802) C.1 C.2.1 dL_law_401 (by decide) (fun c21 => ?_) (fun c21 => ?_)
                          · have hp := if_p _ c21 hp
                            refine w_inc (k := 3) C (fun v => [(3, .int (v)), (0, .ref b), (1, .ref (K.1 + q1)), (2, .ref (K.1 + q2))]) dL_law_802 hl rfl (y := (v1 + 4)) rfl (by decide) (fun _ => rfl) hp (fun v52 ls hl hp => ?_)
                            refine lv_goto (tgt := 18) C.1 C.2.1 dL_law_805 (by decide) ?_
                            exact ih _ _ _ _ _ _ _ _ _ X (lv_sub hl [1, 2, 3, 0] rfl) (by omega) (by omega) hp
                          · have hp := if_n _ c21 hp
                            refine lv_iconst (v := 0) C.1 C.2.1 dL_law_404 (by decide) ?_
                            exact absurd hp (by simp)
                        · have hp := if_n _ c20 hp
                          by_cases c22 : (v2 &&& 31) = 10
                          · have hp := if_p _ c22 hp
                            refine w_tsC (tgt := 406) C dL_law_32 c22 (by decide) (by decide) rfl (by decide) ?_
                            refine lv_aload_n C.1 C.2.1 dL_law_406 rfl (lv_at hl 1 rfl) ?_
                            have hrc := (rc_some hp).1
                            have hp := (rc_some hp).2
                            refine w_ci (cells' := cn) (slots' := sn) X (fun _ _ e => run_V (As := []) (c0 := 5) C X mX5_fewest miX5_fewest lL_57 (by decide) rfl hrc (ct_X5_fewest l K q1 h1 e) (by decide) ⟨show cn + 0 ≤ 600000 by omega, show sn + 0 ≤ 7302250 by omega⟩ rfl (by decide) rfl hl.1 dL_law_407) ⟨rfl, rfl⟩ hp (fun v53 h22 H locs X hp => ?_)
                            refine lv_aload_n C.1 C.2.1 dL_law_410 rfl (lv_at hl 2 rfl) ?_
                            have hrc := (rc_some hp).1
                            have hp := (rc_some hp).2
                            refine w_ci (cells' := cn) (slots' := sn) X (fun _ _ e => run_V (As := []) (c0 := 6) C X mX6_fewest miX6_fewest lL_60 (by decide) rfl hrc (ct_X6_fewest l K q2 h22 e) (by decide) ⟨show cn + 0 ≤ 600000 by omega, show sn + 0 ≤ 7302250 by omega⟩ rfl (Nat.le_of_ble_eq_true rfl) rfl hl.1 dL_law_411) ⟨rfl, rfl⟩ hp (fun v54 h23 H locs X hp => ?_)
                            refine lv_icmp_eq (tgt := 802) C.1 C.2.1 dL_law_414 (by decide) (fun c23 => ?_) (fun c23 => ?_)
                            · have hp := if_p _ c23 hp
                              refine w_inc (k := 3) C (fun v => [(3, .int (v)), (0, .ref b), (1, .ref (K.1 + q1)), (2, .ref (K.1 + q2))]) dL_law_802 hl rfl (y := (v1 + 4)) rfl (by decide) (fun _ => rfl) hp (fun v55 ls hl hp => ?_)
                              refine lv_goto (tgt := 18) C.1 C.2.1 dL_law_805 (by decide) ?_
                              exact ih _ _ _ _ _ _ _ _ _ X (lv_sub hl [1, 2, 3, 0] rfl) (by omega) (by omega) hp
                            · have hp := if_n _ c23 hp
                              refine lv_iconst (v := 0) C.1 C.2.1 dL_law_417 (by decide) ?_
                              exact absurd hp (by simp)
                          · have hp := if_n _ c22 hp
                            by_cases c24 : (v2 &&& 31) = 11
                            · have hp := if_p _ c24 hp
                              refine w_tsC (tgt := 419) C dL_law_32 c24 (by decide) (by decide) rfl (by decide) ?_
                              refine lv_aload_n C.1 C.2.1 dL_law_419 rfl (lv_at hl 1 rfl) ?_
                              have hrc := (rc_some hp).1
                              have hp := (rc_some hp).2
                              refine w_ci (cells' := cn) (slots' := sn) X (fun _ _ e => run_V (As := []) (c0 := 5) C X mX5_cheapest miX5_cheapest lL_61 (by decide) rfl hrc (ct_X5_cheapest l K q1 h1 e) (by decide) ⟨show cn + 0 ≤ 600000 by omega, show sn + 0 ≤ 7302250 by omega⟩ rfl (by decide) rfl hl.1 dL_law_420) ⟨rfl, rfl⟩ hp (fun v56 h24 H locs X hp => ?_)
                              refine lv_aload_n C.1 C.2.1 dL_law_423 rfl (lv_at hl 2 rfl) ?_
                              have hrc := (rc_some hp).1
                              have hp := (rc_some hp).2
                              refine w_ci (cells' := cn) (slots' := sn) X (fun _ _ e => run_V (As := []) (c0 := 6) C X mX6_cheapest miX6_cheapest lL_64 (by decide) rfl hrc (ct_X6_cheapest l K q2 h24 e) (by decide) ⟨show cn + 0 ≤ 600000 by omega, show sn + 0 ≤ 7302250 by omega⟩ rfl (Nat.le_of_ble_eq_true rfl) rfl hl.1 dL_law_424) ⟨rfl, rfl⟩ hp (fun v57 h25 H locs X hp => ?_)
                              refine lv_icmp_eq (tgt := 802) C.1 C.2.1 dL_law_427 (by decide) (fun c25 => ?_) (fun c25 => ?_)
                              · have hp := if_p _ c25 hp
                                refine w_inc (k := 3) C (fun v => [(3, .int (v)), (0, .ref b), (1, .ref (K.1 + q1)), (2, .ref (K.1 + q2))]) dL_law_802 hl rfl (y := (v1 + 4)) rfl (by decide) (fun _ => rfl) hp (fun v58 ls hl hp => ?_)
                                refine lv_goto (tgt := 18) C.1 C.2.1 dL_law_805 (by decide) ?_
                                exact ih _ _ _ _ _ _ _ _ _ X (lv_sub hl [1, 2, 3, 0] rfl) (by omega) (by omega) hp
                              · have hp := if_n _ c25 hp
                                refine lv_iconst (v := 0) C.1 C.2.1 dL_law_430 (by decide) ?_
                                exact absurd hp (by simp)
                            · have hp := if_n _ c24 hp
                              by_cases c26 : (v2 &&& 31) = 12
                              · have hp := if_p _ c26 hp
                                refine w_tsC (tgt := 432) C dL_law_32 c26 (by decide) (by decide) rfl (by decide) ?_
                                refine lv_aload_n C.1 C.2.1 dL_law_432 rfl (lv_at hl 1 rfl) ?_
                                refine lv_aload_n C.1 C.2.1 dL_law_433 rfl (lv_at hl 0 rfl) ?_
                                refine lv_iload_n C.1 C.2.1 dL_law_434 rfl (lv_at hl 3 rfl) ?_
                                refine lv_iconst (v := 1) C.1 C.2.1 dL_law_435 (by decide) ?_
                                refine lv_iadd C.1 C.2.1 dL_law_436 ?_
                                refine w_sl C hXs hbl hbA X dL_law_437 hp (fun v59 hp => ?_)
                                have hrc := (rc_some hp).1
                                have hp := (rc_some hp).2
                                refine w_ci (cells' := cn) (slots' := sn) X (fun _ _ e => run_V (As := [.int v59]) (c0 := 5) C X mX5_how miX5_how lL_65 (by decide) rfl hrc (ct_X5_how l K q1 v59 h1 e) (by decide) ⟨show cn + 0 ≤ 600000 by omega, show sn + 0 ≤ 7302250 by omega⟩ rfl (by decide) rfl hl.1 dL_law_438) ⟨rfl, rfl⟩ hp (fun v60 h26 H locs X hp => ?_)
                                refine lv_aload_n C.1 C.2.1 dL_law_441 rfl (lv_at hl 2 rfl) ?_
                                refine lv_aload_n C.1 C.2.1 dL_law_442 rfl (lv_at hl 0 rfl) ?_
                                refine lv_iload_n C.1 C.2.1 dL_law_443 rfl (lv_at hl 3 rfl) ?_
                                refine lv_iconst (v := 1) C.1 C.2.1 dL_law_444 (by decide) ?_
                                refine lv_iadd C.1 C.2.1 dL_law_445 ?_
                                refine w_sl C hXs hbl hbA X dL_law_446 hp (fun v61 hp => ?_)
                                have hrc := (rc_some hp).1
                                have hp := (rc_some hp).2
                                refine w_ci (cells' := cn) (slots' := sn) X (fun _ _ e => run_V (As := [.int v61]) (c0 := 6) C X mX6_how miX6_how lL_68 (by decide) rfl hrc (ct_X6_how l K q2 v61 h26 e) (by decide) ⟨show cn + 0 ≤ 600000 by omega, show sn + 0 ≤ 7302250 by omega⟩ rfl (Nat.le_of_ble_eq_true rfl) rfl hl.1 dL_law_447) ⟨rfl, rfl⟩ hp (fun v62 h27 H locs X hp => ?_)
                                refine lv_icmp_eq (tgt := 802) C.1 C.2.1 dL_law_450 (by decide) (fun c27 => ?_) (fun c27 => ?_)
                                · have hp := if_p _ c27 hp
                                  refine w_inc (k := 3) C (fun v => [(3, .int (v)), (0, .ref b), (1, .ref (K.1 + q1)), (2, .ref (K.1 + q2))]) dL_law_802 hl rfl (y := (v1 + 4)) rfl (by decide) (fun _ => rfl) hp (fun v63 ls hl hp => ?_)
                                  refine lv_goto (tgt := 18) C.1 C.2.1 dL_law_805 (by decide) ?_
                                  exact ih _ _ _ _ _ _ _ _ _ X (lv_sub hl [1, 2, 3, 0] rfl) (by omega) (by omega) hp
                                · have hp := if_n _ c27 hp
                                  refine lv_iconst (v := 0) C.1 C.2.1 dL_law_453 (by decide) ?_
                                  exact absurd hp (by simp)
                              · have hp := if_n _ c26 hp
                                by_cases c28 : (v2 &&& 31) = 13
                                · have hp := if_p _ c28 hp
                                  refine w_tsC (tgt := 455) C dL_law_32 c28 (by decide) (by decide) rfl (by decide) ?_
                                  refine lv_aload_n C.1 C.2.1 dL_law_455 rfl (lv_at hl 1 rfl) ?_
                                  have hrc := (rc_some hp).1
                                  have hp := (rc_some hp).2
                                  refine w_ci (cells' := cn) (slots' := sn) X (fun _ _ e => run_V (As := []) (c0 := 5) C X mX5_nothing miX5_nothing lL_69 (by decide) rfl hrc (ct_X5_nothing l K q1 h1 e) (by decide) ⟨show cn + 0 ≤ 600000 by omega, show sn + 0 ≤ 7302250 by omega⟩ rfl (by decide) rfl hl.1 dL_law_456) ⟨rfl, rfl⟩ hp (fun v64 h28 H locs X hp => ?_)
                                  refine lv_aload_n C.1 C.2.1 dL_law_459 rfl (lv_at hl 2 rfl) ?_
                                  have hrc := (rc_some hp).1
                                  have hp := (rc_some hp).2
                                  refine w_ci (cells' := cn) (slots' := sn) X (fun _ _ e => run_V (As := []) (c0 := 6) C X mX6_nothing miX6_nothing lL_72 (by decide) rfl hrc (ct_X6_nothing l K q2 h28 e) (by decide) ⟨show cn + 0 ≤ 600000 by omega, show sn + 0 ≤ 7302250 by omega⟩ rfl (Nat.le_of_ble_eq_true rfl) rfl hl.1 dL_law_460) ⟨rfl, rfl⟩ hp (fun v65 h29 H locs X hp => ?_)
                                  refine lv_icmp_eq (tgt := 802) C.1 C.2.1 dL_law_463 (by decide) (fun c29 => ?_) (fun c29 => ?_)
                                  · have hp := if_p _ c29 hp
                                    refine w_inc (k := 3) C (fun v => [(3, .int (v)), (0, .ref b), (1, .ref (K.1 + q1)), (2, .ref (K.1 + q2))]) dL_law_802 hl rfl (y := (v1 + 4)) rfl (by decide) (fun _ => rfl) hp (fun v66 ls hl hp => ?_)
                                    refine lv_goto (tgt := 18) C.1 C.2.1 dL_law_805 (by decide) ?_
                                    exact ih _ _ _ _ _ _ _ _ _ X (lv_sub hl [1, 2, 3, 0] rfl) (by omega) (by omega) hp
                                  · have hp := if_n _ c29 hp
                                    refine lv_iconst (v := 0) C.1 C.2.1 dL_law_466 (by decide) ?_
                                    exact absurd hp (by simp)
                                · have hp := if_n _ c28 hp
                                  by_cases c30 : (v2 &&& 31) = 14
                                  · have hp := if_p _ c30 hp
                                    refine w_tsC (tgt := 468) C dL_law_32 c30 (by decide) (by decide) rfl (by decide) ?_
                                    refine lv_aload_n C.1 C.2.1 dL_law_468 rfl (lv_at hl 1 rfl) ?_
                                    have hrc := (rc_some hp).1
                                    have hp := (rc_some hp).2
                                    refine w_ci (cells' := cn) (slots' := sn) X (fun _ _ e => run_V (As := []) (c0 := 5) C X mX5_states miX5_states lL_73 (by decide) rfl hrc (ct_X5_states l K q1 h1 e) (by decide) ⟨show cn + 0 ≤ 600000 by omega, show sn + 0 ≤ 7302250 by omega⟩ rfl (by decide) rfl hl.1 dL_law_469) ⟨rfl, rfl⟩ hp (fun v67 h30 H locs X hp => ?_)
                                    refine lv_aload_n C.1 C.2.1 dL_law_472 rfl (lv_at hl 2 rfl) ?_
                                    have hrc := (rc_some hp).1
                                    have hp := (rc_some hp).2
                                    refine w_ci (cells' := cn) (slots' := sn) X (fun _ _ e => run_V (As := []) (c0 := 6) C X mX6_states miX6_states lL_76 (by decide) rfl hrc (ct_X6_states l K q2 h30 e) (by decide) ⟨show cn + 0 ≤ 600000 by omega, show sn + 0 ≤ 7302250 by omega⟩ rfl (Nat.le_of_ble_eq_true rfl) rfl hl.1 dL_law_473) ⟨rfl, rfl⟩ hp (fun v68 h31 H locs X hp => ?_)
                                    refine lv_icmp_eq (tgt := 802) C.1 C.2.1 dL_law_476 (by decide) (fun c31 => ?_) (fun c31 => ?_)
                                    · have hp := if_p _ c31 hp
                                      refine w_inc (k := 3) C (fun v => [(3, .int (v)), (0, .ref b), (1, .ref (K.1 + q1)), (2, .ref (K.1 + q2))]) dL_law_802 hl rfl (y := (v1 + 4)) rfl (by decide) (fun _ => rfl) hp (fun v69 ls hl hp => ?_)
                                      refine lv_goto (tgt := 18) C.1 C.2.1 dL_law_805 (by decide) ?_
                                      exact ih _ _ _ _ _ _ _ _ _ X (lv_sub hl [1, 2, 3, 0] rfl) (by omega) (by omega) hp
                                    · have hp := if_n _ c31 hp
                                      refine lv_iconst (v := 0) C.1 C.2.1 dL_law_479 (by decide) ?_
                                      exact absurd hp (by simp)
                                  · have hp := if_n _ c30 hp
                                    by_cases c32 : (v2 &&& 31) = 15
                                    · have hp := if_p _ c32 hp
                                      refine w_tsC (tgt := 481) C dL_law_32 c32 (by decide) (by decide) rfl (by decide) ?_
                                      refine lv_aload_n C.1 C.2.1 dL_law_481 rfl (lv_at hl 1 rfl) ?_
                                      refine lv_aload_n C.1 C.2.1 dL_law_482 rfl (lv_at hl 0 rfl) ?_
                                      refine lv_iload_n C.1 C.2.1 dL_law_483 rfl (lv_at hl 3 rfl) ?_
                                      refine lv_iconst (v := 1) C.1 C.2.1 dL_law_484 (by decide) ?_
                                      refine lv_iadd C.1 C.2.1 dL_law_485 ?_
                                      refine w_sl C hXs hbl hbA X dL_law_486 hp (fun v70 hp => ?_)
                                      have hrc := (rc_some hp).1
                                      have hp := (rc_some hp).2
                                      refine w_ci (cells' := cn) (slots' := sn) X (fun _ _ e => run_V (As := [.int v70]) (c0 := 5) C X mX5_keys miX5_keys lL_77 (by decide) rfl hrc (ct_X5_keys l K q1 v70 h1 e) (by decide) ⟨show cn + 0 ≤ 600000 by omega, show sn + 0 ≤ 7302250 by omega⟩ rfl (by decide) rfl hl.1 dL_law_487) ⟨rfl, rfl⟩ hp (fun v71 h32 H locs X hp => ?_)
                                      refine lv_aload_n C.1 C.2.1 dL_law_490 rfl (lv_at hl 2 rfl) ?_
                                      refine lv_aload_n C.1 C.2.1 dL_law_491 rfl (lv_at hl 0 rfl) ?_
                                      refine lv_iload_n C.1 C.2.1 dL_law_492 rfl (lv_at hl 3 rfl) ?_
                                      refine lv_iconst (v := 1) C.1 C.2.1 dL_law_493 (by decide) ?_
                                      refine lv_iadd C.1 C.2.1 dL_law_494 ?_
                                      refine w_sl C hXs hbl hbA X dL_law_495 hp (fun v72 hp => ?_)
                                      have hrc := (rc_some hp).1
                                      have hp := (rc_some hp).2
                                      refine w_ci (cells' := cn) (slots' := sn) X (fun _ _ e => run_V (As := [.int v72]) (c0 := 6) C X mX6_keys miX6_keys lL_80 (by decide) rfl hrc (ct_X6_keys l K q2 v72 h32 e) (by decide) ⟨show cn + 0 ≤ 600000 by omega, show sn + 0 ≤ 7302250 by omega⟩ rfl (Nat.le_of_ble_eq_true rfl) rfl hl.1 dL_law_496) ⟨rfl, rfl⟩ hp (fun v73 h33 H locs X hp => ?_)
                                      refine lv_icmp_eq (tgt := 802) C.1 C.2.1 dL_law_499 (by decide) (fun c33 => ?_) (fun c33 => ?_)
                                      · have hp := if_p _ c33 hp
                                        refine w_inc (k := 3) C (fun v => [(3, .int (v)), (0, .ref b), (1, .ref (K.1 + q1)), (2, .ref (K.1 + q2))]) dL_law_802 hl rfl (y := (v1 + 4)) rfl (by decide) (fun _ => rfl) hp (fun v74 ls hl hp => ?_)
                                        refine lv_goto (tgt := 18) C.1 C.2.1 dL_law_805 (by decide) ?_
                                        exact ih _ _ _ _ _ _ _ _ _ X (lv_sub hl [1, 2, 3, 0] rfl) (by omega) (by omega) hp
                                      · have hp := if_n _ c33 hp
                                        refine lv_iconst (v := 0) C.1 C.2.1 dL_law_502 (by decide) ?_
                                        exact absurd hp (by simp)
                                    · have hp := if_n _ c32 hp
                                      by_cases c34 : (v2 &&& 31) = 16
                                      · have hp := if_p _ c34 hp
                                        refine w_tsC (tgt := 504) C dL_law_32 c34 (by decide) (by decide) rfl (by decide) ?_
                                        refine lv_aload_n C.1 C.2.1 dL_law_504 rfl (lv_at hl 1 rfl) ?_
                                        have hrc := (rc_some hp).1
                                        have hp := (rc_some hp).2
                                        refine w_ci (cells' := cn) (slots' := sn) X (fun _ _ e => run_V (As := []) (c0 := 5) C X mX5_been miX5_been lL_81 (by decide) rfl hrc (ct_X5_been l K q1 h1 e) (by decide) ⟨show cn + 0 ≤ 600000 by omega, show sn + 0 ≤ 7302250 by omega⟩ rfl (by decide) rfl hl.1 dL_law_505) ⟨rfl, rfl⟩ hp (fun v75 h34 H locs X hp => ?_)
                                        refine lv_aload_n C.1 C.2.1 dL_law_508 rfl (lv_at hl 2 rfl) ?_
                                        have hrc := (rc_some hp).1
                                        have hp := (rc_some hp).2
                                        refine w_ci (cells' := cn) (slots' := sn) X (fun _ _ e => run_V (As := []) (c0 := 6) C X mX6_been miX6_been lL_84 (by decide) rfl hrc (ct_X6_been l K q2 h34 e) (by decide) ⟨show cn + 0 ≤ 600000 by omega, show sn + 0 ≤ 7302250 by omega⟩ rfl (Nat.le_of_ble_eq_true rfl) rfl hl.1 dL_law_509) ⟨rfl, rfl⟩ hp (fun v76 h35 H locs X hp => ?_)
                                        refine lv_icmp_eq (tgt := 802) C.1 C.2.1 dL_law_512 (by decide) (fun c35 => ?_) (fun c35 => ?_)
                                        · have hp := if_p _ c35 hp
                                          refine w_inc (k := 3) C (fun v => [(3, .int (v)), (0, .ref b), (1, .ref (K.1 + q1)), (2, .ref (K.1 + q2))]) dL_law_802 hl rfl (y := (v1 + 4)) rfl (by decide) (fun _ => rfl) hp (fun v77 ls hl hp => ?_)
                                          refine lv_goto (tgt := 18) C.1 C.2.1 dL_law_805 (by decide) ?_
                                          exact ih _ _ _ _ _ _ _ _ _ X (lv_sub hl [1, 2, 3, 0] rfl) (by omega) (by omega) hp
                                        · have hp := if_n _ c35 hp
                                          refine lv_iconst (v := 0) C.1 C.2.1 dL_law_515 (by decide) ?_
                                          exact absurd hp (by simp)
                                      · have hp := if_n _ c34 hp
                                        by_cases c36 : (v2 &&& 31) = 17
                                        · have hp := if_p _ c36 hp
                                          refine w_tsC (tgt := 517) C dL_law_32 c36 (by decide) (by decide) rfl (by decide) ?_
                                          refine lv_aload_n C.1 C.2.1 dL_law_517 rfl (lv_at hl 1 rfl) ?_
                                          have hrc := (rc_some hp).1
                                          have hp := (rc_some hp).2
                                          refine w_ci (cells' := cn) (slots' := sn) X (fun _ _ e => run_V (As := []) (c0 := 5) C X mX5_sure miX5_sure lL_85 (by decide) rfl hrc (ct_X5_sure l K q1 h1 e) (by decide) ⟨show cn + 0 ≤ 600000 by omega, show sn + 0 ≤ 7302250 by omega⟩ rfl (by decide) rfl hl.1 dL_law_518) ⟨rfl, rfl⟩ hp (fun v78 h36 H locs X hp => ?_)
                                          refine lv_aload_n C.1 C.2.1 dL_law_521 rfl (lv_at hl 2 rfl) ?_
                                          have hrc := (rc_some hp).1
                                          have hp := (rc_some hp).2
                                          refine w_ci (cells' := cn) (slots' := sn) X (fun _ _ e => run_V (As := []) (c0 := 6) C X mX6_sure miX6_sure lL_88 (by decide) rfl hrc (ct_X6_sure l K q2 h36 e) (by decide) ⟨show cn + 0 ≤ 600000 by omega, show sn + 0 ≤ 7302250 by omega⟩ rfl (Nat.le_of_ble_eq_true rfl) rfl hl.1 dL_law_522) ⟨rfl, rfl⟩ hp (fun v79 h37 H locs X hp => ?_)
                                          refine lv_icmp_eq (tgt := 802) C.1 C.2.1 dL_law_525 (by decide) (fun c37 => ?_) (fun c37 => ?_)
                                          · have hp := if_p _ c37 hp
                                            refine w_inc (k := 3) C (fun v => [(3, .int (v)), (0, .ref b), (1, .ref (K.1 + q1)), (2, .ref (K.1 + q2))]) dL_law_802 hl rfl (y := (v1 + 4)) rfl (by decide) (fun _ => rfl) hp (fun v80 ls hl hp => ?_)
                                            refine lv_goto (tgt := 18) C.1 C.2.1 dL_law_805 (by decide) ?_
                                            exact ih _ _ _ _ _ _ _ _ _ X (lv_sub hl [1, 2, 3, 0] rfl) (by omega) (by omega) hp
                                          · have hp := if_n _ c37 hp
                                            refine lv_iconst (v := 0) C.1 C.2.1 dL_law_528 (by decide) ?_
                                            exact absurd hp (by simp)
                                        · have hp := if_n _ c36 hp
                                          by_cases c38 : (v2 &&& 31) = 18
                                          · have hp := if_p _ c38 hp
                                            refine w_tsC (tgt := 530) C dL_law_32 c38 (by decide) (by decide) rfl (by decide) ?_
                                            refine lv_aload_n C.1 C.2.1 dL_law_530 rfl (lv_at hl 1 rfl) ?_
                                            refine lv_aload_n C.1 C.2.1 dL_law_531 rfl (lv_at hl 0 rfl) ?_
                                            refine lv_iload_n C.1 C.2.1 dL_law_532 rfl (lv_at hl 3 rfl) ?_
                                            refine lv_iconst (v := 1) C.1 C.2.1 dL_law_533 (by decide) ?_
                                            refine lv_iadd C.1 C.2.1 dL_law_534 ?_
                                            refine w_sl C hXs hbl hbA X dL_law_535 hp (fun v81 hp => ?_)
                                            have hrc := (rc_some hp).1
                                            have hp := (rc_some hp).2
                                            refine w_ci (cells' := cn) (slots' := sn) X (fun _ _ e => run_V (As := [.int v81]) (c0 := 5) C X mX5_forEver miX5_forEver lL_89 (by decide) rfl hrc (ct_X5_forEver l K q1 v81 h1 e) (by decide) ⟨show cn + 0 ≤ 600000 by omega, show sn + 0 ≤ 7302250 by omega⟩ rfl (by decide) rfl hl.1 dL_law_536) ⟨rfl, rfl⟩ hp (fun v82 h38 H locs X hp => ?_)
                                            refine lv_aload_n C.1 C.2.1 dL_law_539 rfl (lv_at hl 2 rfl) ?_
                                            refine lv_aload_n C.1 C.2.1 dL_law_540 rfl (lv_at hl 0 rfl) ?_
                                            refine lv_iload_n C.1 C.2.1 dL_law_541 rfl (lv_at hl 3 rfl) ?_
                                            refine lv_iconst (v := 1) C.1 C.2.1 dL_law_542 (by decide) ?_
                                            refine lv_iadd C.1 C.2.1 dL_law_543 ?_
                                            refine w_sl C hXs hbl hbA X dL_law_544 hp (fun v83 hp => ?_)
                                            have hrc := (rc_some hp).1
                                            have hp := (rc_some hp).2
                                            refine w_ci (cells' := cn) (slots' := sn) X (fun _ _ e => run_V (As := [.int v83]) (c0 := 6) C X mX6_forEver miX6_forEver lL_92 (by decide) rfl hrc (ct_X6_forEver l K q2 v83 h38 e) (by decide) ⟨show cn + 0 ≤ 600000 by omega, show sn + 0 ≤ 7302250 by omega⟩ rfl (Nat.le_of_ble_eq_true rfl) rfl hl.1 dL_law_545) ⟨rfl, rfl⟩ hp (fun v84 h39 H locs X hp => ?_)
                                            refine lv_icmp_eq (tgt := 802) C.1 C.2.1 dL_law_548 (by decide) (fun c39 => ?_) (fun c39 => ?_)
                                            · have hp := if_p _ c39 hp
                                              refine w_inc (k := 3) C (fun v => [(3, .int (v)), (0, .ref b), (1, .ref (K.1 + q1)), (2, .ref (K.1 + q2))]) dL_law_802 hl rfl (y := (v1 + 4)) rfl (by decide) (fun _ => rfl) hp (fun v85 ls hl hp => ?_)
                                              refine lv_goto (tgt := 18) C.1 C.2.1 dL_law_805 (by decide) ?_
                                              exact ih _ _ _ _ _ _ _ _ _ X (lv_sub hl [1, 2, 3, 0] rfl) (by omega) (by omega) hp
                                            · have hp := if_n _ c39 hp
                                              refine lv_iconst (v := 0) C.1 C.2.1 dL_law_551 (by decide) ?_
                                              exact absurd hp (by simp)
                                          · have hp := if_n _ c38 hp
                                            by_cases c40 : (v2 &&& 31) = 19
                                            · have hp := if_p _ c40 hp
                                              refine w_tsC (tgt := 553) C dL_law_32 c40 (by decide) (by decide) rfl (by decide) ?_
                                              refine lv_aload_n C.1 C.2.1 dL_law_553 rfl (lv_at hl 1 rfl) ?_
                                              refine lv_aload_n C.1 C.2.1 dL_law_554 rfl (lv_at hl 0 rfl) ?_
                                              refine lv_iload_n C.1 C.2.1 dL_law_555 rfl (lv_at hl 3 rfl) ?_
                                              refine lv_iconst (v := 1) C.1 C.2.1 dL_law_556 (by decide) ?_
                                              refine lv_iadd C.1 C.2.1 dL_law_557 ?_
                                              refine w_sl C hXs hbl hbA X dL_law_558 hp (fun v86 hp => ?_)
                                              have hrc := (rc_some hp).1
                                              have hp := (rc_some hp).2
                                              refine w_ci (cells' := cn) (slots' := sn) X (fun _ _ e => run_V (As := [.int v86]) (c0 := 5) C X mX5_nth miX5_nth lL_93 (by decide) rfl hrc (ct_X5_nth l K q1 v86 h1 e) (by decide) ⟨show cn + 0 ≤ 600000 by omega, show sn + 0 ≤ 7302250 by omega⟩ rfl (by decide) rfl hl.1 dL_law_559) ⟨rfl, rfl⟩ hp (fun v87 h40 H locs X hp => ?_)
                                              refine lv_aload_n C.1 C.2.1 dL_law_562 rfl (lv_at hl 2 rfl) ?_
                                              refine lv_aload_n C.1 C.2.1 dL_law_563 rfl (lv_at hl 0 rfl) ?_
                                              refine lv_iload_n C.1 C.2.1 dL_law_564 rfl (lv_at hl 3 rfl) ?_
                                              refine lv_iconst (v := 1) C.1 C.2.1 dL_law_565 (by decide) ?_
                                              refine lv_iadd C.1 C.2.1 dL_law_566 ?_
                                              refine w_sl C hXs hbl hbA X dL_law_567 hp (fun v88 hp => ?_)
                                              have hrc := (rc_some hp).1
                                              have hp := (rc_some hp).2
                                              refine w_ci (cells' := cn) (slots' := sn) X (fun _ _ e => run_V (As := [.int v88]) (c0 := 6) C X mX6_nth miX6_nth lL_96 (by decide) rfl hrc (ct_X6_nth l K q2 v88 h40 e) (by decide) ⟨show cn + 0 ≤ 600000 by omega, show sn + 0 ≤ 7302250 by omega⟩ rfl (Nat.le_of_ble_eq_true rfl) rfl hl.1 dL_law_568) ⟨rfl, rfl⟩ hp (fun v89 h41 H locs X hp => ?_)
                                              refine lv_icmp_eq (tgt := 802) C.1 C.2.1 dL_law_571 (by decide) (fun c41 => ?_) (fun c41 => ?_)
                                              · have hp := if_p _ c41 hp
                                                refine w_inc (k := 3) C (fun v => [(3, .int (v)), (0, .ref b), (1, .ref (K.1 + q1)), (2, .ref (K.1 + q2))]) dL_law_802 hl rfl (y := (v1 + 4)) rfl (by decide) (fun _ => rfl) hp (fun v90 ls hl hp => ?_)
                                                refine lv_goto (tgt := 18) C.1 C.2.1 dL_law_805 (by decide) ?_
                                                exact ih _ _ _ _ _ _ _ _ _ X (lv_sub hl [1, 2, 3, 0] rfl) (by omega) (by omega) hp
                                              · have hp := if_n _ c41 hp
                                                refine lv_iconst (v := 0) C.1 C.2.1 dL_law_574 (by decide) ?_
                                                exact absurd hp (by simp)
                                            · have hp := if_n _ c40 hp
                                              by_cases c42 : (v2 &&& 31) = 20
                                              · have hp := if_p _ c42 hp
                                                refine w_tsC (tgt := 576) C dL_law_32 c42 (by decide) (by decide) rfl (by decide) ?_
                                                refine lv_aload_n C.1 C.2.1 dL_law_576 rfl (lv_at hl 1 rfl) ?_
                                                refine lv_aload_n C.1 C.2.1 dL_law_577 rfl (lv_at hl 0 rfl) ?_
                                                refine lv_iload_n C.1 C.2.1 dL_law_578 rfl (lv_at hl 3 rfl) ?_
                                                refine lv_iconst (v := 1) C.1 C.2.1 dL_law_579 (by decide) ?_
                                                refine lv_iadd C.1 C.2.1 dL_law_580 ?_
                                                refine w_sl C hXs hbl hbA X dL_law_581 hp (fun v91 hp => ?_)
                                                have hrc := (rc_some hp).1
                                                have hp := (rc_some hp).2
                                                refine w_ci (cells' := cn) (slots' := sn) X (fun _ _ e => run_V (As := [.int v91]) (c0 := 5) C X mX5_open miX5_open lL_97 (by decide) rfl hrc (ct_X5_open l K q1 v91 h1 e) (by decide) ⟨show cn + 0 ≤ 600000 by omega, show sn + 0 ≤ 7302250 by omega⟩ rfl (by decide) rfl hl.1 dL_law_582) ⟨rfl, rfl⟩ hp (fun v92 h42 H locs X hp => ?_)
                                                refine lv_aload_n C.1 C.2.1 dL_law_585 rfl (lv_at hl 2 rfl) ?_
                                                refine lv_aload_n C.1 C.2.1 dL_law_586 rfl (lv_at hl 0 rfl) ?_
                                                refine lv_iload_n C.1 C.2.1 dL_law_587 rfl (lv_at hl 3 rfl) ?_
                                                refine lv_iconst (v := 1) C.1 C.2.1 dL_law_588 (by decide) ?_
                                                refine lv_iadd C.1 C.2.1 dL_law_589 ?_
                                                refine w_sl C hXs hbl hbA X dL_law_590 hp (fun v93 hp => ?_)
                                                have hrc := (rc_some hp).1
                                                have hp := (rc_some hp).2
                                                refine w_ci (cells' := cn) (slots' := sn) X (fun _ _ e => run_V (As := [.int v93]) (c0 := 6) C X mX6_open miX6_open lL_100 (by decide) rfl hrc (ct_X6_open l K q2 v93 h42 e) (by decide) ⟨show cn + 0 ≤ 600000 by omega, show sn + 0 ≤ 7302250 by omega⟩ rfl (Nat.le_of_ble_eq_true rfl) rfl hl.1 dL_law_591) ⟨rfl, rfl⟩ hp (fun v94 h43 H locs X hp => ?_)
                                                refine lv_icmp_eq (tgt := 802) C.1 C.2.1 dL_law_594 (by decide) (fun c43 => ?_) (fun c43 => ?_)
                                                · have hp := if_p _ c43 hp
                                                  refine w_inc (k := 3) C (fun v => [(3, .int (v)), (0, .ref b), (1, .ref (K.1 + q1)), (2, .ref (K.1 + q2))]) dL_law_802 hl rfl (y := (v1 + 4)) rfl (by decide) (fun _ => rfl) hp (fun v95 ls hl hp => ?_)
                                                  refine lv_goto (tgt := 18) C.1 C.2.1 dL_law_805 (by decide) ?_
                                                  exact ih _ _ _ _ _ _ _ _ _ X (lv_sub hl [1, 2, 3, 0] rfl) (by omega) (by omega) hp
                                                · have hp := if_n _ c43 hp
                                                  refine lv_iconst (v := 0) C.1 C.2.1 dL_law_597 (by decide) ?_
                                                  exact absurd hp (by simp)
                                              · have hp := if_n _ c42 hp
                                                by_cases c44 : (v2 &&& 31) = 21
                                                · have hp := if_p _ c44 hp
                                                  refine w_tsC (tgt := 599) C dL_law_32 c44 (by decide) (by decide) rfl (by decide) ?_
                                                  refine lv_aload_n C.1 C.2.1 dL_law_599 rfl (lv_at hl 1 rfl) ?_
                                                  refine lv_aload_n C.1 C.2.1 dL_law_600 rfl (lv_at hl 0 rfl) ?_
                                                  refine lv_iload_n C.1 C.2.1 dL_law_601 rfl (lv_at hl 3 rfl) ?_
                                                  refine lv_iconst (v := 1) C.1 C.2.1 dL_law_602 (by decide) ?_
                                                  refine lv_iadd C.1 C.2.1 dL_law_603 ?_
                                                  refine w_sl C hXs hbl hbA X dL_law_604 hp (fun v96 hp => ?_)
                                                  have hrc := (rc_some hp).1
                                                  have hp := (rc_some hp).2
                                                  refine w_ci (cells' := cn) (slots' := sn) X (fun _ _ e => run_V (As := [.int v96]) (c0 := 5) C X mX5_log miX5_log lL_101 (by decide) rfl hrc (ct_X5_log l K q1 v96 h1 e) (by decide) ⟨show cn + 0 ≤ 600000 by omega, show sn + 0 ≤ 7302250 by omega⟩ rfl (by decide) rfl hl.1 dL_law_605) ⟨rfl, rfl⟩ hp (fun v97 h44 H locs X hp => ?_)
                                                  refine lv_aload_n C.1 C.2.1 dL_law_608 rfl (lv_at hl 2 rfl) ?_
                                                  refine lv_aload_n C.1 C.2.1 dL_law_609 rfl (lv_at hl 0 rfl) ?_
                                                  refine lv_iload_n C.1 C.2.1 dL_law_610 rfl (lv_at hl 3 rfl) ?_
                                                  refine lv_iconst (v := 1) C.1 C.2.1 dL_law_611 (by decide) ?_
                                                  refine lv_iadd C.1 C.2.1 dL_law_612 ?_
                                                  refine w_sl C hXs hbl hbA X dL_law_613 hp (fun v98 hp => ?_)
                                                  have hrc := (rc_some hp).1
                                                  have hp := (rc_some hp).2
                                                  refine w_ci (cells' := cn) (slots' := sn) X (fun _ _ e => run_V (As := [.int v98]) (c0 := 6) C X mX6_log miX6_log lL_104 (by decide) rfl hrc (ct_X6_log l K q2 v98 h44 e) (by decide) ⟨show cn + 0 ≤ 600000 by omega, show sn + 0 ≤ 7302250 by omega⟩ rfl (Nat.le_of_ble_eq_true rfl) rfl hl.1 dL_law_614) ⟨rfl, rfl⟩ hp (fun v99 h45 H locs X hp => ?_)
                                                  refine lv_icmp_eq (tgt := 802) C.1 C.2.1 dL_law_617 (by decide) (fun c45 => ?_) (fun c45 => ?_)
                                                  · have hp := if_p _ c45 hp
                                                    refine w_inc (k := 3) C (fun v => [(3, .int (v)), (0, .ref b), (1, .ref (K.1 + q1)), (2, .ref (K.1 + q2))]) dL_law_802 hl rfl (y := (v1 + 4)) rfl (by decide) (fun _ => rfl) hp (fun v100 ls hl hp => ?_)
                                                    refine lv_goto (tgt := 18) C.1 C.2.1 dL_law_805 (by decide) ?_
                                                    exact ih _ _ _ _ _ _ _ _ _ X (lv_sub hl [1, 2, 3, 0] rfl) (by omega) (by omega) hp
                                                  · have hp := if_n _ c45 hp
                                                    refine lv_iconst (v := 0) C.1 C.2.1 dL_law_620 (by decide) ?_
                                                    exact absurd hp (by simp)
                                                · have hp := if_n _ c44 hp
                                                  by_cases c46 : (v2 &&& 31) = 22
                                                  · have hp := if_p _ c46 hp
                                                    refine w_tsC (tgt := 622) C dL_law_32 c46 (by decide) (by decide) rfl (by decide) ?_
                                                    refine lv_aload_n C.1 C.2.1 dL_law_622 rfl (lv_at hl 1 rfl) ?_
                                                    refine lv_aload_n C.1 C.2.1 dL_law_623 rfl (lv_at hl 0 rfl) ?_
                                                    refine lv_iload_n C.1 C.2.1 dL_law_624 rfl (lv_at hl 3 rfl) ?_
                                                    refine lv_iconst (v := 1) C.1 C.2.1 dL_law_625 (by decide) ?_
                                                    refine lv_iadd C.1 C.2.1 dL_law_626 ?_
                                                    refine w_sl C hXs hbl hbA X dL_law_627 hp (fun v101 hp => ?_)
                                                    have hrc := (rc_some hp).1
                                                    have hp := (rc_some hp).2
                                                    refine w_ci (cells' := cn) (slots' := sn) X (fun _ _ e => run_V (As := [.int v101]) (c0 := 5) C X mX5_order miX5_order lL_105 (by decide) rfl hrc (ct_X5_order l K q1 v101 h1 e) (by decide) ⟨show cn + 0 ≤ 600000 by omega, show sn + 0 ≤ 7302250 by omega⟩ rfl (by decide) rfl hl.1 dL_law_628) ⟨rfl, rfl⟩ hp (fun v102 h46 H locs X hp => ?_)
                                                    refine lv_aload_n C.1 C.2.1 dL_law_631 rfl (lv_at hl 2 rfl) ?_
                                                    refine lv_aload_n C.1 C.2.1 dL_law_632 rfl (lv_at hl 0 rfl) ?_
                                                    refine lv_iload_n C.1 C.2.1 dL_law_633 rfl (lv_at hl 3 rfl) ?_
                                                    refine lv_iconst (v := 1) C.1 C.2.1 dL_law_634 (by decide) ?_
                                                    refine lv_iadd C.1 C.2.1 dL_law_635 ?_
                                                    refine w_sl C hXs hbl hbA X dL_law_636 hp (fun v103 hp => ?_)
                                                    have hrc := (rc_some hp).1
                                                    have hp := (rc_some hp).2
                                                    refine w_ci (cells' := cn) (slots' := sn) X (fun _ _ e => run_V (As := [.int v103]) (c0 := 6) C X mX6_order miX6_order lL_108 (by decide) rfl hrc (ct_X6_order l K q2 v103 h46 e) (by decide) ⟨show cn + 0 ≤ 600000 by omega, show sn + 0 ≤ 7302250 by omega⟩ rfl (Nat.le_of_ble_eq_true rfl) rfl hl.1 dL_law_637) ⟨rfl, rfl⟩ hp (fun v104 h47 H locs X hp => ?_)
                                                    refine lv_icmp_eq (tgt := 802) C.1 C.2.1 dL_law_640 (by decide) (fun c47 => ?_) (fun c47 => ?_)
                                                    · have hp := if_p _ c47 hp
                                                      refine w_inc (k := 3) C (fun v => [(3, .int (v)), (0, .ref b), (1, .ref (K.1 + q1)), (2, .ref (K.1 + q2))]) dL_law_802 hl rfl (y := (v1 + 4)) rfl (by decide) (fun _ => rfl) hp (fun v105 ls hl hp => ?_)
                                                      refine lv_goto (tgt := 18) C.1 C.2.1 dL_law_805 (by decide) ?_
                                                      exact ih _ _ _ _ _ _ _ _ _ X (lv_sub hl [1, 2, 3, 0] rfl) (by omega) (by omega) hp
                                                    · have hp := if_n _ c47 hp
                                                      refine lv_iconst (v := 0) C.1 C.2.1 dL_law_643 (by decide) ?_
                                                      exact absurd hp (by simp)
                                                  · have hp := if_n _ c46 hp
                                                    by_cases c48 : (v2 &&& 31) = 23
                                                    · have hp := if_p _ c48 hp
                                                      refine w_tsC (tgt := 645) C dL_law_32 c48 (by decide) (by decide) rfl (by decide) ?_
                                                      refine lv_aload_n C.1 C.2.1 dL_law_645 rfl (lv_at hl 1 rfl) ?_
                                                      have hrc := (rc_some hp).1
                                                      have hp := (rc_some hp).2
                                                      refine w_ci (cells' := cn) (slots' := sn) X (fun _ _ e => run_V (As := []) (c0 := 5) C X mX5_fills miX5_fills lL_109 (by decide) rfl hrc (ct_X5_fills l K q1 h1 e) (by decide) ⟨show cn + 0 ≤ 600000 by omega, show sn + 0 ≤ 7302250 by omega⟩ rfl (by decide) rfl hl.1 dL_law_646) ⟨rfl, rfl⟩ hp (fun v106 h48 H locs X hp => ?_)
                                                      refine lv_aload_n C.1 C.2.1 dL_law_649 rfl (lv_at hl 2 rfl) ?_
                                                      have hrc := (rc_some hp).1
                                                      have hp := (rc_some hp).2
                                                      refine w_ci (cells' := cn) (slots' := sn) X (fun _ _ e => run_V (As := []) (c0 := 6) C X mX6_fills miX6_fills lL_112 (by decide) rfl hrc (ct_X6_fills l K q2 h48 e) (by decide) ⟨show cn + 0 ≤ 600000 by omega, show sn + 0 ≤ 7302250 by omega⟩ rfl (Nat.le_of_ble_eq_true rfl) rfl hl.1 dL_law_650) ⟨rfl, rfl⟩ hp (fun v107 h49 H locs X hp => ?_)
                                                      refine lv_icmp_eq (tgt := 802) C.1 C.2.1 dL_law_653 (by decide) (fun c49 => ?_) (fun c49 => ?_)
                                                      · have hp := if_p _ c49 hp
                                                        refine w_inc (k := 3) C (fun v => [(3, .int (v)), (0, .ref b), (1, .ref (K.1 + q1)), (2, .ref (K.1 + q2))]) dL_law_802 hl rfl (y := (v1 + 4)) rfl (by decide) (fun _ => rfl) hp (fun v108 ls hl hp => ?_)
                                                        refine lv_goto (tgt := 18) C.1 C.2.1 dL_law_805 (by decide) ?_
                                                        exact ih _ _ _ _ _ _ _ _ _ X (lv_sub hl [1, 2, 3, 0] rfl) (by omega) (by omega) hp
                                                      · have hp := if_n _ c49 hp
                                                        refine lv_iconst (v := 0) C.1 C.2.1 dL_law_656 (by decide) ?_
                                                        exact absurd hp (by simp)
                                                    · have hp := if_n _ c48 hp
                                                      by_cases c50 : (v2 &&& 31) = 24
                                                      · have hp := if_p _ c50 hp
                                                        refine w_tsC (tgt := 658) C dL_law_32 c50 (by decide) (by decide) rfl (by decide) ?_
                                                        refine lv_aload_n C.1 C.2.1 dL_law_658 rfl (lv_at hl 1 rfl) ?_
                                                        refine lv_aload_n C.1 C.2.1 dL_law_659 rfl (lv_at hl 0 rfl) ?_
                                                        refine lv_iload_n C.1 C.2.1 dL_law_660 rfl (lv_at hl 3 rfl) ?_
                                                        refine lv_iconst (v := 1) C.1 C.2.1 dL_law_661 (by decide) ?_
                                                        refine lv_iadd C.1 C.2.1 dL_law_662 ?_
                                                        refine w_sl C hXs hbl hbA X dL_law_663 hp (fun v109 hp => ?_)
                                                        have hrc := (rc_some hp).1
                                                        have hp := (rc_some hp).2
                                                        refine w_ci (cells' := cn) (slots' := sn) X (fun _ _ e => run_V (As := [.int v109]) (c0 := 5) C X mX5_run miX5_run lL_113 (by decide) rfl hrc (ct_X5_run l K q1 v109 h1 e) (by decide) ⟨show cn + 0 ≤ 600000 by omega, show sn + 0 ≤ 7302250 by omega⟩ rfl (by decide) rfl hl.1 dL_law_664) ⟨rfl, rfl⟩ hp (fun v110 h50 H locs X hp => ?_)
                                                        refine lv_aload_n C.1 C.2.1 dL_law_667 rfl (lv_at hl 2 rfl) ?_
                                                        refine lv_aload_n C.1 C.2.1 dL_law_668 rfl (lv_at hl 0 rfl) ?_
                                                        refine lv_iload_n C.1 C.2.1 dL_law_669 rfl (lv_at hl 3 rfl) ?_
                                                        refine lv_iconst (v := 1) C.1 C.2.1 dL_law_670 (by decide) ?_
                                                        refine lv_iadd C.1 C.2.1 dL_law_671 ?_
                                                        refine w_sl C hXs hbl hbA X dL_law_672 hp (fun v111 hp => ?_)
                                                        have hrc := (rc_some hp).1
                                                        have hp := (rc_some hp).2
                                                        refine w_ci (cells' := cn) (slots' := sn) X (fun _ _ e => run_V (As := [.int v111]) (c0 := 6) C X mX6_run miX6_run lL_116 (by decide) rfl hrc (ct_X6_run l K q2 v111 h50 e) (by decide) ⟨show cn + 0 ≤ 600000 by omega, show sn + 0 ≤ 7302250 by omega⟩ rfl (Nat.le_of_ble_eq_true rfl) rfl hl.1 dL_law_673) ⟨rfl, rfl⟩ hp (fun v112 h51 H locs X hp => ?_)
                                                        refine lv_icmp_eq (tgt := 802) C.1 C.2.1 dL_law_676 (by decide) (fun c51 => ?_) (fun c51 => ?_)
                                                        · have hp := if_p _ c51 hp
                                                          refine w_inc (k := 3) C (fun v => [(3, .int (v)), (0, .ref b), (1, .ref (K.1 + q1)), (2, .ref (K.1 + q2))]) dL_law_802 hl rfl (y := (v1 + 4)) rfl (by decide) (fun _ => rfl) hp (fun v113 ls hl hp => ?_)
                                                          refine lv_goto (tgt := 18) C.1 C.2.1 dL_law_805 (by decide) ?_
                                                          exact ih _ _ _ _ _ _ _ _ _ X (lv_sub hl [1, 2, 3, 0] rfl) (by omega) (by omega) hp
                                                        · have hp := if_n _ c51 hp
                                                          refine lv_iconst (v := 0) C.1 C.2.1 dL_law_679 (by decide) ?_
                                                          exact absurd hp (by simp)
                                                      · have hp := if_n _ c50 hp
                                                        by_cases c52 : (v2 &&& 31) = 25
                                                        · have hp := if_p _ c52 hp
                                                          refine w_tsC (tgt := 681) C dL_law_32 c52 (by decide) (by decide) rfl (by decide) ?_
                                                          refine lv_aload_n C.1 C.2.1 dL_law_681 rfl (lv_at hl 1 rfl) ?_
                                                          have hrc := (rc_some hp).1
                                                          have hp := (rc_some hp).2
                                                          refine w_ci (cells' := cn) (slots' := sn) X (fun _ _ e => run_V (As := []) (c0 := 5) C X mX5_judge miX5_judge lL_117 (by decide) rfl hrc (ct_X5_judge l K q1 h1 e) (by decide) ⟨show cn + 0 ≤ 600000 by omega, show sn + 0 ≤ 7302250 by omega⟩ rfl (by decide) rfl hl.1 dL_law_682) ⟨rfl, rfl⟩ hp (fun v114 h52 H locs X hp => ?_)
                                                          refine lv_aload_n C.1 C.2.1 dL_law_685 rfl (lv_at hl 2 rfl) ?_
                                                          have hrc := (rc_some hp).1
                                                          have hp := (rc_some hp).2
                                                          refine w_ci (cells' := cn) (slots' := sn) X (fun _ _ e => run_V (As := []) (c0 := 6) C X mX6_judge miX6_judge lL_120 (by decide) rfl hrc (ct_X6_judge l K q2 h52 e) (by decide) ⟨show cn + 0 ≤ 600000 by omega, show sn + 0 ≤ 7302250 by omega⟩ rfl (Nat.le_of_ble_eq_true rfl) rfl hl.1 dL_law_686) ⟨rfl, rfl⟩ hp (fun v115 h53 H locs X hp => ?_)
                                                          refine lv_icmp_eq (tgt := 802) C.1 C.2.1 dL_law_689 (by decide) (fun c53 => ?_) (fun c53 => ?_)
                                                          · have hp := if_p _ c53 hp
                                                            refine w_inc (k := 3) C (fun v => [(3, .int (v)), (0, .ref b), (1, .ref (K.1 + q1)), (2, .ref (K.1 + q2))]) dL_law_802 hl rfl (y := (v1 + 4)) rfl (by decide) (fun _ => rfl) hp (fun v116 ls hl hp => ?_)
                                                            refine lv_goto (tgt := 18) C.1 C.2.1 dL_law_805 (by decide) ?_
                                                            exact ih _ _ _ _ _ _ _ _ _ X (lv_sub hl [1, 2, 3, 0] rfl) (by omega) (by omega) hp
                                                          · have hp := if_n _ c53 hp
                                                            refine lv_iconst (v := 0) C.1 C.2.1 dL_law_692 (by decide) ?_
                                                            exact absurd hp (by simp)
                                                        · have hp := if_n _ c52 hp
                                                          by_cases c54 : (v2 &&& 31) = 26
                                                          · have hp := if_p _ c54 hp
                                                            refine w_tsC (tgt := 694) C dL_law_32 c54 (by decide) (by decide) rfl (by decide) ?_
                                                            refine lv_aload_n C.1 C.2.1 dL_law_694 rfl (lv_at hl 1 rfl) ?_
                                                            have hrc := (rc_some hp).1
                                                            have hp := (rc_some hp).2
                                                            refine w_ci (cells' := cn) (slots' := sn) X (fun _ _ e => run_V (As := []) (c0 := 5) C X mX5_clear miX5_clear lL_121 (by decide) rfl hrc (ct_X5_clear l K q1 h1 e) (by decide) ⟨show cn + 0 ≤ 600000 by omega, show sn + 0 ≤ 7302250 by omega⟩ rfl (by decide) rfl hl.1 dL_law_695) ⟨rfl, rfl⟩ hp (fun v117 h54 H locs X hp => ?_)
                                                            refine lv_aload_n C.1 C.2.1 dL_law_698 rfl (lv_at hl 2 rfl) ?_
                                                            have hrc := (rc_some hp).1
                                                            have hp := (rc_some hp).2
                                                            refine w_ci (cells' := cn) (slots' := sn) X (fun _ _ e => run_V (As := []) (c0 := 6) C X mX6_clear miX6_clear lL_124 (by decide) rfl hrc (ct_X6_clear l K q2 h54 e) (by decide) ⟨show cn + 0 ≤ 600000 by omega, show sn + 0 ≤ 7302250 by omega⟩ rfl (Nat.le_of_ble_eq_true rfl) rfl hl.1 dL_law_699) ⟨rfl, rfl⟩ hp (fun v118 h55 H locs X hp => ?_)
                                                            refine lv_icmp_eq (tgt := 802) C.1 C.2.1 dL_law_702 (by decide) (fun c55 => ?_) (fun c55 => ?_)
                                                            · have hp := if_p _ c55 hp
                                                              refine w_inc (k := 3) C (fun v => [(3, .int (v)), (0, .ref b), (1, .ref (K.1 + q1)), (2, .ref (K.1 + q2))]) dL_law_802 hl rfl (y := (v1 + 4)) rfl (by decide) (fun _ => rfl) hp (fun v119 ls hl hp => ?_)
                                                              refine lv_goto (tgt := 18) C.1 C.2.1 dL_law_805 (by decide) ?_
                                                              exact ih _ _ _ _ _ _ _ _ _ X (lv_sub hl [1, 2, 3, 0] rfl) (by omega) (by omega) hp
                                                            · have hp := if_n _ c55 hp
                                                              refine lv_iconst (v := 0) C.1 C.2.1 dL_law_705 (by decide) ?_
                                                              exact absurd hp (by simp)
                                                          · have hp := if_n _ c54 hp
                                                            by_cases c56 : (v2 &&& 31) = 27
                                                            · have hp := if_p _ c56 hp
                                                              refine w_tsC (tgt := 707) C dL_law_32 c56 (by decide) (by decide) rfl (by decide) ?_
                                                              refine lv_aload_n C.1 C.2.1 dL_law_707 rfl (lv_at hl 1 rfl) ?_
                                                              have hrc := (rc_some hp).1
                                                              have hp := (rc_some hp).2
                                                              refine w_ci (cells' := cn) (slots' := sn) X (fun _ _ e => run_V (As := []) (c0 := 5) C X mX5_match miX5_match lL_125 (by decide) rfl hrc (ct_X5_match l K q1 h1 e) (by decide) ⟨show cn + 0 ≤ 600000 by omega, show sn + 0 ≤ 7302250 by omega⟩ rfl (by decide) rfl hl.1 dL_law_708) ⟨rfl, rfl⟩ hp (fun v120 h56 H locs X hp => ?_)
                                                              refine lv_aload_n C.1 C.2.1 dL_law_711 rfl (lv_at hl 2 rfl) ?_
                                                              have hrc := (rc_some hp).1
                                                              have hp := (rc_some hp).2
                                                              refine w_ci (cells' := cn) (slots' := sn) X (fun _ _ e => run_V (As := []) (c0 := 6) C X mX6_match miX6_match lL_128 (by decide) rfl hrc (ct_X6_match l K q2 h56 e) (by decide) ⟨show cn + 0 ≤ 600000 by omega, show sn + 0 ≤ 7302250 by omega⟩ rfl (Nat.le_of_ble_eq_true rfl) rfl hl.1 dL_law_712) ⟨rfl, rfl⟩ hp (fun v121 h57 H locs X hp => ?_)
                                                              refine lv_icmp_eq (tgt := 802) C.1 C.2.1 dL_law_715 (by decide) (fun c57 => ?_) (fun c57 => ?_)
                                                              · have hp := if_p _ c57 hp
                                                                refine w_inc (k := 3) C (fun v => [(3, .int (v)), (0, .ref b), (1, .ref (K.1 + q1)), (2, .ref (K.1 + q2))]) dL_law_802 hl rfl (y := (v1 + 4)) rfl (by decide) (fun _ => rfl) hp (fun v122 ls hl hp => ?_)
                                                                refine lv_goto (tgt := 18) C.1 C.2.1 dL_law_805 (by decide) ?_
                                                                exact ih _ _ _ _ _ _ _ _ _ X (lv_sub hl [1, 2, 3, 0] rfl) (by omega) (by omega) hp
                                                              · have hp := if_n _ c57 hp
                                                                refine lv_iconst (v := 0) C.1 C.2.1 dL_law_718 (by decide) ?_
                                                                exact absurd hp (by simp)
                                                            · have hp := if_n _ c56 hp
                                                              by_cases c58 : (v2 &&& 31) = 28
                                                              · have hp := if_p _ c58 hp
                                                                refine w_tsC (tgt := 720) C dL_law_32 c58 (by decide) (by decide) rfl (by decide) ?_
                                                                refine lv_aload_n C.1 C.2.1 dL_law_720 rfl (lv_at hl 1 rfl) ?_
                                                                refine lv_aload_n C.1 C.2.1 dL_law_721 rfl (lv_at hl 0 rfl) ?_
                                                                refine lv_iload_n C.1 C.2.1 dL_law_722 rfl (lv_at hl 3 rfl) ?_
                                                                refine lv_iconst (v := 1) C.1 C.2.1 dL_law_723 (by decide) ?_
                                                                refine lv_iadd C.1 C.2.1 dL_law_724 ?_
                                                                refine w_sl C hXs hbl hbA X dL_law_725 hp (fun v123 hp => ?_)
                                                                refine lv_aload_n C.1 C.2.1 dL_law_726 rfl (lv_at hl 0 rfl) ?_
                                                                refine lv_iload_n C.1 C.2.1 dL_law_727 rfl (lv_at hl 3 rfl) ?_
                                                                refine lv_iconst (v := 2) C.1 C.2.1 dL_law_728 (by decide) ?_
                                                                refine lv_iadd C.1 C.2.1 dL_law_729 ?_
                                                                refine w_sl C hXs hbl hbA X dL_law_730 hp (fun v124 hp => ?_)
                                                                have hrc := (rc_some hp).1
                                                                have hp := (rc_some hp).2
                                                                refine w_ci (cells' := cn) (slots' := sn) X (fun _ _ e => run_V (As := [.int v123, .int v124]) (c0 := 5) C X mX5_seeds miX5_seeds lL_129 (by decide) rfl hrc (ct_X5_seeds l K q1 v123 v124 h1 e) (by decide) ⟨show cn + 0 ≤ 600000 by omega, show sn + 0 ≤ 7302250 by omega⟩ rfl (by decide) rfl hl.1 dL_law_731) ⟨rfl, rfl⟩ hp (fun v125 h58 H locs X hp => ?_)
                                                                refine lv_aload_n C.1 C.2.1 dL_law_734 rfl (lv_at hl 2 rfl) ?_
                                                                refine lv_aload_n C.1 C.2.1 dL_law_735 rfl (lv_at hl 0 rfl) ?_
                                                                refine lv_iload_n C.1 C.2.1 dL_law_736 rfl (lv_at hl 3 rfl) ?_
                                                                refine lv_iconst (v := 1) C.1 C.2.1 dL_law_737 (by decide) ?_
                                                                refine lv_iadd C.1 C.2.1 dL_law_738 ?_
                                                                refine w_sl C hXs hbl hbA X dL_law_739 hp (fun v126 hp => ?_)
                                                                refine lv_aload_n C.1 C.2.1 dL_law_740 rfl (lv_at hl 0 rfl) ?_
                                                                refine lv_iload_n C.1 C.2.1 dL_law_741 rfl (lv_at hl 3 rfl) ?_
                                                                refine lv_iconst (v := 2) C.1 C.2.1 dL_law_742 (by decide) ?_
                                                                refine lv_iadd C.1 C.2.1 dL_law_743 ?_
                                                                refine w_sl C hXs hbl hbA X dL_law_744 hp (fun v127 hp => ?_)
                                                                have hrc := (rc_some hp).1
                                                                have hp := (rc_some hp).2
                                                                refine w_ci (cells' := cn) (slots' := sn) X (fun _ _ e => run_V (As := [.int v126, .int v127]) (c0 := 6) C X mX6_seeds miX6_seeds lL_132 (by decide) rfl hrc (ct_X6_seeds l K q2 v126 v127 h58 e) (by decide) ⟨show cn + 0 ≤ 600000 by omega, show sn + 0 ≤ 7302250 by omega⟩ rfl (Nat.le_of_ble_eq_true rfl) rfl hl.1 dL_law_745) ⟨rfl, rfl⟩ hp (fun v128 h59 H locs X hp => ?_)
                                                                refine lv_icmp_eq (tgt := 802) C.1 C.2.1 dL_law_748 (by decide) (fun c59 => ?_) (fun c59 => ?_)
                                                                · have hp := if_p _ c59 hp
                                                                  refine w_inc (k := 3) C (fun v => [(3, .int (v)), (0, .ref b), (1, .ref (K.1 + q1)), (2, .ref (K.1 + q2))]) dL_law_802 hl rfl (y := (v1 + 4)) rfl (by decide) (fun _ => rfl) hp (fun v129 ls hl hp => ?_)
                                                                  refine lv_goto (tgt := 18) C.1 C.2.1 dL_law_805 (by decide) ?_
                                                                  exact ih _ _ _ _ _ _ _ _ _ X (lv_sub hl [1, 2, 3, 0] rfl) (by omega) (by omega) hp
                                                                · have hp := if_n _ c59 hp
                                                                  refine lv_iconst (v := 0) C.1 C.2.1 dL_law_751 (by decide) ?_
                                                                  exact absurd hp (by simp)
                                                              · have hp := if_n _ c58 hp
                                                                by_cases c60 : (v2 &&& 31) = 29
                                                                · have hp := if_p _ c60 hp
                                                                  refine w_tsC (tgt := 753) C dL_law_32 c60 (by decide) (by decide) rfl (by decide) ?_
                                                                  refine lv_aload_n C.1 C.2.1 dL_law_753 rfl (lv_at hl 1 rfl) ?_
                                                                  have hrc := (rc_some hp).1
                                                                  have hp := (rc_some hp).2
                                                                  refine w_ci (cells' := cn) (slots' := sn) X (fun _ _ e => run_V (As := []) (c0 := 5) C X mX5_image miX5_image lL_133 (by decide) rfl hrc (ct_X5_image l K q1 h1 e) (by decide) ⟨show cn + 0 ≤ 600000 by omega, show sn + 0 ≤ 7302250 by omega⟩ rfl (by decide) rfl hl.1 dL_law_754) ⟨rfl, rfl⟩ hp (fun v130 h60 H locs X hp => ?_)
                                                                  refine lv_aload_n C.1 C.2.1 dL_law_757 rfl (lv_at hl 2 rfl) ?_
                                                                  have hrc := (rc_some hp).1
                                                                  have hp := (rc_some hp).2
                                                                  refine w_ci (cells' := cn) (slots' := sn) X (fun _ _ e => run_V (As := []) (c0 := 6) C X mX6_image miX6_image lL_136 (by decide) rfl hrc (ct_X6_image l K q2 h60 e) (by decide) ⟨show cn + 0 ≤ 600000 by omega, show sn + 0 ≤ 7302250 by omega⟩ rfl (Nat.le_of_ble_eq_true rfl) rfl hl.1 dL_law_758) ⟨rfl, rfl⟩ hp (fun v131 h61 H locs X hp => ?_)
                                                                  refine lv_icmp_eq (tgt := 802) C.1 C.2.1 dL_law_761 (by decide) (fun c61 => ?_) (fun c61 => ?_)
                                                                  · have hp := if_p _ c61 hp
                                                                    refine w_inc (k := 3) C (fun v => [(3, .int (v)), (0, .ref b), (1, .ref (K.1 + q1)), (2, .ref (K.1 + q2))]) dL_law_802 hl rfl (y := (v1 + 4)) rfl (by decide) (fun _ => rfl) hp (fun v132 ls hl hp => ?_)
                                                                    refine lv_goto (tgt := 18) C.1 C.2.1 dL_law_805 (by decide) ?_
                                                                    exact ih _ _ _ _ _ _ _ _ _ X (lv_sub hl [1, 2, 3, 0] rfl) (by omega) (by omega) hp
                                                                  · have hp := if_n _ c61 hp
                                                                    refine lv_iconst (v := 0) C.1 C.2.1 dL_law_764 (by decide) ?_
                                                                    exact absurd hp (by simp)
                                                                · have hp := if_n _ c60 hp
                                                                  by_cases c62 : (v2 &&& 31) = 30
                                                                  · have hp := if_p _ c62 hp
                                                                    refine w_tsC (tgt := 766) C dL_law_32 c62 (by decide) (by decide) rfl (by decide) ?_
                                                                    refine lv_aload_n C.1 C.2.1 dL_law_766 rfl (lv_at hl 1 rfl) ?_
                                                                    have hrc := (rc_some hp).1
                                                                    have hp := (rc_some hp).2
                                                                    refine w_ci (cells' := cn) (slots' := sn) X (fun _ _ e => run_V (As := []) (c0 := 5) C X mX5_on miX5_on lL_137 (by decide) rfl hrc (ct_X5_on l K q1 h1 e) (by decide) ⟨show cn + 0 ≤ 600000 by omega, show sn + 0 ≤ 7302250 by omega⟩ rfl (by decide) rfl hl.1 dL_law_767) ⟨rfl, rfl⟩ hp (fun v133 h62 H locs X hp => ?_)
                                                                    refine lv_aload_n C.1 C.2.1 dL_law_770 rfl (lv_at hl 2 rfl) ?_
                                                                    have hrc := (rc_some hp).1
                                                                    have hp := (rc_some hp).2
                                                                    refine w_ci (cells' := cn) (slots' := sn) X (fun _ _ e => run_V (As := []) (c0 := 6) C X mX6_on miX6_on lL_140 (by decide) rfl hrc (ct_X6_on l K q2 h62 e) (by decide) ⟨show cn + 0 ≤ 600000 by omega, show sn + 0 ≤ 7302250 by omega⟩ rfl (Nat.le_of_ble_eq_true rfl) rfl hl.1 dL_law_771) ⟨rfl, rfl⟩ hp (fun v134 h63 H locs X hp => ?_)
                                                                    refine lv_icmp_eq (tgt := 802) C.1 C.2.1 dL_law_774 (by decide) (fun c63 => ?_) (fun c63 => ?_)
                                                                    · have hp := if_p _ c63 hp
                                                                      refine w_inc (k := 3) C (fun v => [(3, .int (v)), (0, .ref b), (1, .ref (K.1 + q1)), (2, .ref (K.1 + q2))]) dL_law_802 hl rfl (y := (v1 + 4)) rfl (by decide) (fun _ => rfl) hp (fun v135 ls hl hp => ?_)
                                                                      refine lv_goto (tgt := 18) C.1 C.2.1 dL_law_805 (by decide) ?_
                                                                      exact ih _ _ _ _ _ _ _ _ _ X (lv_sub hl [1, 2, 3, 0] rfl) (by omega) (by omega) hp
                                                                    · have hp := if_n _ c63 hp
                                                                      refine lv_iconst (v := 0) C.1 C.2.1 dL_law_777 (by decide) ?_
                                                                      exact absurd hp (by simp)
                                                                  · have hp := if_n _ c62 hp
                                                                    by_cases c64 : (v2 &&& 31) = 31
                                                                    · have hp := if_p _ c64 hp
                                                                      refine w_tsC (tgt := 779) C dL_law_32 c64 (by decide) (by decide) rfl (by decide) ?_
                                                                      refine lv_aload_n C.1 C.2.1 dL_law_779 rfl (lv_at hl 1 rfl) ?_
                                                                      refine lv_aload_n C.1 C.2.1 dL_law_780 rfl (lv_at hl 0 rfl) ?_
                                                                      refine lv_iload_n C.1 C.2.1 dL_law_781 rfl (lv_at hl 3 rfl) ?_
                                                                      refine lv_iconst (v := 1) C.1 C.2.1 dL_law_782 (by decide) ?_
                                                                      refine lv_iadd C.1 C.2.1 dL_law_783 ?_
                                                                      refine w_sl C hXs hbl hbA X dL_law_784 hp (fun v136 hp => ?_)
                                                                      have hrc := (rc_some hp).1
                                                                      have hp := (rc_some hp).2
                                                                      refine w_ci (cells' := cn) (slots' := sn) X (fun _ _ e => run_V (As := [.int v136]) (c0 := 5) C X mX5_count miX5_count lL_141 (by decide) rfl hrc (ct_X5_count l K q1 v136 h1 e) (by decide) ⟨show cn + 0 ≤ 600000 by omega, show sn + 0 ≤ 7302250 by omega⟩ rfl (by decide) rfl hl.1 dL_law_785) ⟨rfl, rfl⟩ hp (fun v137 h64 H locs X hp => ?_)
                                                                      refine lv_aload_n C.1 C.2.1 dL_law_788 rfl (lv_at hl 2 rfl) ?_
                                                                      refine lv_aload_n C.1 C.2.1 dL_law_789 rfl (lv_at hl 0 rfl) ?_
                                                                      refine lv_iload_n C.1 C.2.1 dL_law_790 rfl (lv_at hl 3 rfl) ?_
                                                                      refine lv_iconst (v := 1) C.1 C.2.1 dL_law_791 (by decide) ?_
                                                                      refine lv_iadd C.1 C.2.1 dL_law_792 ?_
                                                                      refine w_sl C hXs hbl hbA X dL_law_793 hp (fun v138 hp => ?_)
                                                                      have hrc := (rc_some hp).1
                                                                      have hp := (rc_some hp).2
                                                                      refine w_ci (cells' := cn) (slots' := sn) X (fun _ _ e => run_V (As := [.int v138]) (c0 := 6) C X mX6_count miX6_count lL_144 (by decide) rfl hrc (ct_X6_count l K q2 v138 h64 e) (by decide) ⟨show cn + 0 ≤ 600000 by omega, show sn + 0 ≤ 7302250 by omega⟩ rfl (Nat.le_of_ble_eq_true rfl) rfl hl.1 dL_law_794) ⟨rfl, rfl⟩ hp (fun v139 h65 H locs X hp => ?_)
                                                                      refine lv_icmp_eq (tgt := 802) C.1 C.2.1 dL_law_797 (by decide) (fun c65 => ?_) (fun c65 => ?_)
                                                                      · have hp := if_p _ c65 hp
                                                                        refine w_inc (k := 3) C (fun v => [(3, .int (v)), (0, .ref b), (1, .ref (K.1 + q1)), (2, .ref (K.1 + q2))]) dL_law_802 hl rfl (y := (v1 + 4)) rfl (by decide) (fun _ => rfl) hp (fun v140 ls hl hp => ?_)
                                                                        refine lv_goto (tgt := 18) C.1 C.2.1 dL_law_805 (by decide) ?_
                                                                        exact ih _ _ _ _ _ _ _ _ _ X (lv_sub hl [1, 2, 3, 0] rfl) (by omega) (by omega) hp
                                                                      · have hp := if_n _ c65 hp
                                                                        refine lv_iconst (v := 0) C.1 C.2.1 dL_law_800 (by decide) ?_
                                                                        exact absurd hp (by simp)
                                                                    · have hp := if_n _ c64 hp
                                                                      refine w_tsD (tgt := 802) C [0, 1, 2, 3, 4, 5, 6, 7, 8, 9, 10, 11, 12, 13, 14, 15, 16, 17, 18, 19, 20, 21, 22, 23, 24, 25, 26, 27, 28, 29, 30, 31] dL_law_32 (by intro k hk; simp only [List.mem_cons, List.not_mem_nil, or_false] at hk; rcases hk with hk | hk | hk | hk | hk | hk | hk | hk | hk | hk | hk | hk | hk | hk | hk | hk | hk | hk | hk | hk | hk | hk | hk | hk | hk | hk | hk | hk | hk | hk | hk | hk <;> subst hk <;> assumption) (by decide) (by decide) (by decide) ?_
                                                                      refine w_inc (k := 3) C (fun v => [(3, .int (v)), (0, .ref b), (1, .ref (K.1 + q1)), (2, .ref (K.1 + q2))]) dL_law_802 hl rfl (y := (v1 + 4)) rfl (by decide) (fun _ => rfl) hp (fun v141 ls hl hp => ?_)
                                                                      refine lv_goto (tgt := 18) C.1 C.2.1 dL_law_805 (by decide) ?_
                                                                      exact ih _ _ _ _ _ _ _ _ _ X (lv_sub hl [1, 2, 3, 0] rfl) (by omega) (by omega) hp

def P_L_law (L : Nat) (xs : Nat → Int32) (h0 : Hp) : Option (Int32 × Hp) :=
    nw h0 5 fun q1 h1 =>
    cv (P_X5_init q1 h1) fun h2 =>
    nw h2 6 fun q2 h3 =>
    cv (P_X6_init q2 h3) fun h4 =>
    lt (0 : Int32) fun v1 =>
    P_L_law_L18 L xs 513 q1 q2 v1 h4

set_option maxHeartbeats 4000000 in
set_option maxRecDepth 100000 in
theorem w_L_law (C : CX K p m c code 4 s #[Value.ref b] RL) (hr : meth.sig.returnType = ret) (hlk : meth.locks = false) (hKb : K.1 = s.heap.size) (hXs : va_X b L xs s s.heap) (hbl : b < s.heap.size) (hbA : ¬ KA K b) {h0 h' : Hp} (X : HX K s.heap s.heap [] h0) {ls : Array Slot} (hl : lv_has ls 4 [(0, .ref b)]) (hp : P_L_law L xs h0 = some (1, h')) : W p l e room_1 s m #[Value.ref b] below meth c s.heap [] 0 0 (lw_Z below #[Value.ref b] s) (F0 m 0 ls []) := by
  unfold P_L_law at hp
  refine w_nw (cells' := 1) (slots' := 9) C X nL_7 (by decide) (by decide) dL_law_0 hp (fun q1 h1 H locs X hp => ?_)
  refine lv_dup C.1 C.2.1 dL_law_3 rfl ?_
  refine w_cv (cells' := 24) (slots' := 8979) X (fun _ e => run_I (As := []) C X mX5_init rfl mnX5_init lL_9 (ct_X5_init l K q1 h1 e) (by decide) (by decide) rfl (Nat.le_of_ble_eq_true rfl) rfl hl.1 dL_law_4) (by decide) hp (fun h2 H locs X hp => ?_)
  refine lv_astore_n (lv' := [(1, .ref (K.1 + q1)), (0, .ref b)]) C.1 C.2.1 dL_law_7 rfl hl (by decide) rfl (fun ls hl => ?_)
  refine w_nw (cells' := 25) (slots' := 8995) C X nL_10 (by decide) (by decide) dL_law_8 hp (fun q2 h3 H locs X hp => ?_)
  refine lv_dup C.1 C.2.1 dL_law_11 rfl ?_
  refine w_cv (cells' := 35) (slots' := 11540) X (fun _ e => run_I (As := []) C X mX6_init rfl mnX6_init lL_12 (ct_X6_init l K q2 h3 e) (by decide) (by decide) rfl (Nat.le_of_ble_eq_true rfl) rfl hl.1 dL_law_12) (by decide) hp (fun h4 H locs X hp => ?_)
  refine lv_astore_n (lv' := [(2, .ref (K.1 + q2)), (1, .ref (K.1 + q1)), (0, .ref b)]) C.1 C.2.1 dL_law_15 rfl hl (by decide) rfl (fun ls hl => ?_)
  refine lv_iconst (v := 0) C.1 C.2.1 dL_law_16 (by decide) ?_
  refine w_istn C (fun v => [(3, .int (v)), (2, .ref (K.1 + q2)), (1, .ref (K.1 + q1)), (0, .ref b)]) dL_law_17 rfl hl (by decide) (fun _ => rfl) hp (fun v1 ls hl hp => ?_)
  exact wl_L_law C hr hlk hKb hXs hbl hbA 513 _ _ _ _ _ _ _ _ _ X (lv_sub hl [3, 2, 1, 0] rfl) (by decide) (by decide) hp
end

end
