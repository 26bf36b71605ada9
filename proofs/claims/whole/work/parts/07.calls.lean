theorem wi_warm {K : Kt} {h : Hp} {s U : State} {H : Heap} (hW : s.WarmedH U.vm) (q : WI K h s H) : WI K h U H :=
  ⟨q.1, q.2.1, va_K.moved hW.alike q.2.2.1, nw_moved hW q.2.2.2.1, va_AO.moved hW.alike q.2.2.2.2.1, va_Z.moved hW.alike q.2.2.2.2.2.1, va_T.moved hW.alike q.2.2.2.2.2.2⟩
theorem wi_of {K : Kt} {p : Program} {m : MethodId} {c : Code} {cc : ByteArray} {nL : Nat} {s : State} {args : Array Value} {own : String} {H : Heap} {locs : List Loc} {h : Hp} (C : CX K p m c cc nL s args own) (X : HX K s.heap H locs h) : WI K h s H :=
  ⟨X.1, X.2.1, C.2.2.2.2.2.1, C.2.2.2.2.2.2.1, C.2.2.2.2.2.2.2.1, C.2.2.2.2.2.2.2.2.1.1.kept X.2.2.2.1, C.2.2.2.2.2.2.2.2.1.2.kept X.2.2.2.1⟩
theorem pre_blind {K : Kt} {av : List Value} {h : Hp} : FrameBlind (Pre K av h) := by
  intro a U g mk q
  obtain ⟨q0, q1, q2, q3, q4, q5, q6, q7⟩ := q
  exact ⟨q0, q1, q2, va_K.moved (u := U) (U := U.calling g mk a) (Vm.Alike.refl U.vm) q3, nw_same (u := U) (U := U.calling g mk a) rfl q4, va_AO.moved (u := U) (U := U.calling g mk a) (Vm.Alike.refl U.vm) q5, va_Z.moved (u := U) (U := U.calling g mk a) (Vm.Alike.refl U.vm) q6, va_T.moved (u := U) (U := U.calling g mk a) (Vm.Alike.refl U.vm) q7⟩
theorem dv_at : ∀ c0, c0 < 7 → ∀ j, j < FN c0 → defaultValue (FY c0 j) = if isRef c0 j then Value.null else .int 0 := by decide +kernel
theorem rc_some {ρ : Type} {h : Hp} {p c : Nat} {r : Option ρ} {z : ρ} (hp : rc h p c r = some z) : (p < h.1 ∧ (SH p).1 = c) ∧ r = some z := by
  unfold rc at hp
  split at hp
  next hc => exact ⟨hc, hp⟩
  next => cases hp
theorem nz_some {ρ : Type} {y : Int32} {r : Option ρ} {z : ρ} (hp : nz y r = some z) : ¬ y = 0 ∧ r = some z := by
  unfold nz at hp
  split at hp
  next => cases hp
  next hc => exact ⟨hc, hp⟩
theorem bz_some {ρ : Type} {y : Int32} {r : Option ρ} {z : ρ} (hp : bz y r = some z) : narrow .boolean (.int y) = .int y ∧ r = some z := by
  unfold bz at hp
  split at hp
  next hc => exact ⟨hc, hp⟩
  next => cases hp
section ROWS2
variable {p : Program} {l : Launch} {e : Env} {R : Room} {s : State} {m : MethodId} {args : Array Value} {below : List Frame} {meth : Method} {c : Code} {H : Heap} {locs : List Loc} {cells slots : Nat} {Q : State → Prop}
variable {cc : ByteArray} {pc : Nat} {ls : Array Slot} {rest st : List Value} {K : Kt} {h : Hp} {nL : Nat} {own : String} {ρ : Type} {z : ρ}
variable {y : MethodName} {b' : ByteArray} {maxL n idx pp c0 : Nat} {ret : Option FieldType} {rm : Room} {As : List Value} {Qf : Array Value → State → Outcome → State → Prop}
theorem recv_at (C : CX K p m c cc nL s args own) (X : HX K s.heap H locs h) (h7 : c0 < 7) (hc : FC c0 = y.cls) (hr : pp < h.1 ∧ (SH pp).1 = c0) : ∃ cellB : Cell, H[K.1 + pp]? = some cellB ∧ cellB.vm.isStatics = false ∧ s.vm.findClass y.cls = some cellB.cls := by
  rw [← hc]
  exact va_recv C.2.2.2.2.2.1 X.1 (cls_at c0 h7) (q0 := pp) (by rw [wsH_at K hr.1, cell_obj hr.2 h7])
theorem run_V (C : CX K p m c cc nL s args own) (X : HX K s.heap H locs h) (hM : MTH y b' maxL ret n) (hI : MTI y) (hL : LNK own idx y) (h7 : c0 < 7) (hc : FC c0 = y.cls) (hr : pp < h.1 ∧ (SH pp).1 = c0) (hct : CT l K y b' maxL ret rm (.ref (K.1 + pp) :: As) h Qf) (hR : rm.frames + 1 ≤ R.frames ∧ 8 + (maxL + 11) + rm.locals ≤ R.locals) (hf : cells + rm.cells ≤ R.cells ∧ slots + rm.slots ≤ R.slots) (hst : st = As.reverse ++ .ref (K.1 + pp) :: rest) (hsum : (rest.map fun v => v.category).sum ≤ 8) (hn : As.length = n) (hsz : ls.size = nL) (hdg : decode cc pc = .ok (.invokevirtual idx, 3)) :
    va_Run p l e R s m args below meth c H locs cells slots rm.cells rm.slots (F0 m pc ls st) rest (Qf (Value.ref (K.1 + pp) :: As).toArray) (KA K) := by
  have hW := wi_of C X
  have hB := recv_at C X h7 hc hr
  obtain ⟨hx, hb, hml, hown, hts, -⟩ := C
  refine va_runV (As := As) (rest := rest) ⟨hx, hb, hml, hown, hts⟩ hct ⟨callB_of n hts (gl_words hM.1) rfl rfl rfl (hts _ hM.2.1) (hts _ hL) hM.2.2 hR, hts _ hI.1, hts _ hI.2⟩ ⟨pre_blind, hB, fun U hU hWU => ⟨rfl, show WI K h U U.heap by rw [hU]; exact wi_warm hWU hW⟩⟩ rfl hn hsz hst (lv_room hsum) hdg hf
theorem run_VN {host : String} (C : CX K p m c cc nL s args own) (X : HX K s.heap H locs h) (hM : MTH y b' maxL ret n) (hI : MTI y) (hL : LNN own idx y host) (h7 : c0 < 7) (hc : FC c0 = y.cls) (hr : pp < h.1 ∧ (SH pp).1 = c0) (hct : CT l K y b' maxL ret rm (.ref (K.1 + pp) :: As) h Qf) (hR : rm.frames + 1 ≤ R.frames ∧ 8 + (maxL + 11) + rm.locals ≤ R.locals) (hf : cells + rm.cells ≤ R.cells ∧ slots + rm.slots ≤ R.slots) (hst : st = As.reverse ++ .ref (K.1 + pp) :: rest) (hsum : (rest.map fun v => v.category).sum ≤ 8) (hn : As.length = n) (hsz : ls.size = nL) (hdg : decode cc pc = .ok (.invokevirtual idx, 3)) :
    va_Run p l e R s m args below meth c H locs cells slots rm.cells rm.slots (F0 m pc ls st) rest (Qf (Value.ref (K.1 + pp) :: As).toArray) (KA K) := by
  have hW := wi_of C X
  have hB := recv_at C X h7 hc hr
  obtain ⟨hx, hb, hml, hown, hts, -, hN, -⟩ := C
  refine va_runVN (As := As) (rest := rest) ⟨hx, hb, hml, hown, hts⟩ hct ⟨va_cnB n hts (gl_words hM.1) rfl rfl rfl (hN _ hL) (hts _ hM.2.1) hM.2.2 hR, hts _ hI.1, hts _ hI.2⟩ ⟨pre_blind, hB, fun U hU hWU => ⟨rfl, show WI K h U U.heap by rw [hU]; exact wi_warm hWU hW⟩⟩ rfl hn hsz hst (lv_room hsum) hdg hf
theorem run_S (C : CX K p m c cc nL s args own) (X : HX K s.heap H locs h) (hM : MTH y b' maxL ret n) (hI : MTS y) (hL : LNK own idx y) (hct : CT l K y b' maxL ret rm As h Qf) (hR : rm.frames + 1 ≤ R.frames ∧ 8 + (maxL + 11) + rm.locals ≤ R.locals) (hf : cells + rm.cells ≤ R.cells ∧ slots + rm.slots ≤ R.slots) (hst : st = As.reverse ++ rest) (hsum : (rest.map fun v => v.category).sum ≤ 8) (hn : As.length = n) (hsz : ls.size = nL) (hdg : decode cc pc = .ok (.invokestatic idx, 3)) :
    va_Run p l e R s m args below meth c H locs cells slots rm.cells rm.slots (F0 m pc ls st) rest (Qf As.toArray) (KA K) := by
  have hW := wi_of C X
  obtain ⟨hx, hb, hml, hown, hts, -⟩ := C
  refine va_runS (As := As) (rest := rest) ⟨hx, hb, hml, hown, hts⟩ hct ⟨callB_of n hts (gl_words hM.1) rfl rfl rfl (hts _ hM.2.1) (hts _ hL) hM.2.2 hR, hts _ hI⟩ ⟨pre_blind, fun U hU hWU => ⟨rfl, show WI K h U U.heap by rw [hU]; exact wi_warm hWU hW⟩⟩ rfl hn hsz hst (lv_room hsum) hdg hf
theorem run_SN {host : String} (C : CX K p m c cc nL s args own) (X : HX K s.heap H locs h) (hM : MTH y b' maxL ret n) (hI : MTS y) (hL : LNN own idx y host) (hct : CT l K y b' maxL ret rm As h Qf) (hR : rm.frames + 1 ≤ R.frames ∧ 8 + (maxL + 11) + rm.locals ≤ R.locals) (hf : cells + rm.cells ≤ R.cells ∧ slots + rm.slots ≤ R.slots) (hst : st = As.reverse ++ rest) (hsum : (rest.map fun v => v.category).sum ≤ 8) (hn : As.length = n) (hsz : ls.size = nL) (hdg : decode cc pc = .ok (.invokestatic idx, 3)) :
    va_Run p l e R s m args below meth c H locs cells slots rm.cells rm.slots (F0 m pc ls st) rest (Qf As.toArray) (KA K) := by
  have hW := wi_of C X
  obtain ⟨hx, hb, hml, hown, hts, -, hN, -⟩ := C
  refine va_runSN (As := As) (rest := rest) ⟨hx, hb, hml, hown, hts⟩ hct ⟨va_cnB n hts (gl_words hM.1) rfl rfl rfl (hN _ hL) (hts _ hM.2.1) hM.2.2 hR, hts _ hI, trivial⟩ ⟨pre_blind, fun U hU hWU => ⟨rfl, show WI K h U U.heap by rw [hU]; exact wi_warm hWU hW⟩⟩ rfl hn hsz hst (lv_room hsum) hdg hf
theorem run_I (C : CX K p m c cc nL s args own) (X : HX K s.heap H locs h) (hM : MTH y b' maxL none n) (hy : y.name = "<init>") (hI : Cond.instanceMethod y ∈ TBg) (hL : LNK own idx y) (hct : CT l K y b' maxL none rm (.ref (K.1 + pp) :: As) h Qf) (hR : rm.frames + 1 ≤ R.frames ∧ 8 + (maxL + 11) + rm.locals ≤ R.locals) (hf : cells + rm.cells ≤ R.cells ∧ slots + rm.slots ≤ R.slots) (hst : st = As.reverse ++ .ref (K.1 + pp) :: rest) (hsum : (rest.map fun v => v.category).sum ≤ 8) (hn : As.length = n) (hsz : ls.size = nL) (hdg : decode cc pc = .ok (.invokespecial idx, 3)) :
    va_Run p l e R s m args below meth c H locs cells slots rm.cells rm.slots (F0 m pc ls st) rest (Qf (Value.ref (K.1 + pp) :: As).toArray) (KA K) := by
  have hW := wi_of C X
  obtain ⟨hx, hb, hml, hown, hts, -⟩ := C
  refine va_runI (As := As) (rest := rest) ⟨hx, hb, hml, hown, hts⟩ hct ⟨callB_of n hts (gl_words hM.1) rfl rfl rfl (hts _ hM.2.1) (hts _ hL) hM.2.2 hR, hy, hts _ hI⟩ ⟨pre_blind, fun U hU hWU => ⟨rfl, show WI K h U U.heap by rw [hU]; exact wi_warm hWU hW⟩⟩ rfl hn hsz hst (lv_room hsum) hdg hf
theorem run_IN {host : String} (C : CX K p m c cc nL s args own) (X : HX K s.heap H locs h) (hM : MTH y b' maxL none n) (hy : y.name = "<init>") (hI : Cond.instanceMethod y ∈ TBg) (hL : LNN own idx y host) (hct : CT l K y b' maxL none rm (.ref (K.1 + pp) :: As) h Qf) (hR : rm.frames + 1 ≤ R.frames ∧ 8 + (maxL + 11) + rm.locals ≤ R.locals) (hf : cells + rm.cells ≤ R.cells ∧ slots + rm.slots ≤ R.slots) (hst : st = As.reverse ++ .ref (K.1 + pp) :: rest) (hsum : (rest.map fun v => v.category).sum ≤ 8) (hn : As.length = n) (hsz : ls.size = nL) (hdg : decode cc pc = .ok (.invokespecial idx, 3)) :
    va_Run p l e R s m args below meth c H locs cells slots rm.cells rm.slots (F0 m pc ls st) rest (Qf (Value.ref (K.1 + pp) :: As).toArray) (KA K) := by
  have hW := wi_of C X
  obtain ⟨hx, hb, hml, hown, hts, -, hN, -⟩ := C
  refine va_runIN (As := As) (rest := rest) ⟨hx, hb, hml, hown, hts⟩ hct ⟨va_cnB n hts (gl_words hM.1) rfl rfl rfl (hN _ hL) (hts _ hM.2.1) hM.2.2 hR, hy, hts _ hI⟩ ⟨pre_blind, fun U hU hWU => ⟨rfl, show WI K h U U.heap by rw [hU]; exact wi_warm hWU hW⟩⟩ rfl hn hsz hst (lv_room hsum) hdg hf
variable {st0 : List Value} {mc ms cells' slots' : Nat} {a : Array Value}
theorem w_ci (X : HX K s.heap H locs h) {P : Option (Int32 × Hp)} {f : Int32 → Hp → Option ρ} (hrun : ∀ r h', P = some (r, h') → va_Run p l e R s m args below meth c H locs cells slots mc ms (F0 m pc ls st0) rest (Qi K r h' a) (KA K)) (hcs : cells + mc = cells' ∧ slots + ms = slots') (hp : ci P f = some z)
    (kk : ∀ (r : Int32) (h' : Hp) (H1 : Heap) (locs1 : List Loc), HX K s.heap H1 locs1 h' → f r h' = some z → W p l e R s m args below meth c H1 locs1 cells' slots' Q (F0 m (pc + 3) ls (.int r :: rest))) : W p l e R s m args below meth c H locs cells slots Q (F0 m pc ls st0) := by
  obtain ⟨rfl, rfl⟩ := hcs
  cases P with
  | none => cases hp
  | some z1 =>
    refine va_calli (hrun z1.1 z1.2 rfl) X.2.2 (fun _ _ q => q) (fun _ q => q) (fun r u t H1 locs1 ht hvm hr hB _ _ hS => ?_)
    subst hr; subst ht
    exact kk _ _ _ _ ⟨hB.1, hB.2, hS⟩ hp
theorem w_cv (X : HX K s.heap H locs h) {P : Option Hp} {f : Hp → Option ρ} (hrun : ∀ h', P = some h' → va_Run p l e R s m args below meth c H locs cells slots mc ms (F0 m pc ls st0) rest (Qv K h' a) (KA K)) (hcs : cells + mc = cells' ∧ slots + ms = slots') (hp : cv P f = some z)
    (kk : ∀ (h' : Hp) (H1 : Heap) (locs1 : List Loc), HX K s.heap H1 locs1 h' → f h' = some z → W p l e R s m args below meth c H1 locs1 cells' slots' Q (F0 m (pc + 3) ls rest)) : W p l e R s m args below meth c H locs cells slots Q (F0 m pc ls st0) := by
  obtain ⟨rfl, rfl⟩ := hcs
  cases P with
  | none => cases hp
  | some z1 =>
    refine va_callv (hrun z1 rfl) X.2.2 (fun _ _ q => q) (fun _ q => q) (fun u t H1 locs1 ht hvm hr hB _ _ hS => ?_)
    subst ht
    exact kk _ _ _ ⟨hB.1, hB.2, hS⟩ hp
theorem w_cq (X : HX K s.heap H locs h) {P : Option (Option Nat × Hp)} {f : Option Nat → Hp → Option ρ} (hrun : ∀ r h', P = some (r, h') → va_Run p l e R s m args below meth c H locs cells slots mc ms (F0 m pc ls st0) rest (Qq K r h' a) (KA K)) (hcs : cells + mc = cells' ∧ slots + ms = slots') (hp : ci P f = some z)
    (kk : ∀ (r : Option Nat) (h' : Hp) (H1 : Heap) (locs1 : List Loc), HX K s.heap H1 locs1 h' → f r h' = some z → W p l e R s m args below meth c H1 locs1 cells' slots' Q (F0 m (pc + 3) ls (va_rf (r.map (fun q => K.1 + q)) :: rest))) : W p l e R s m args below meth c H locs cells slots Q (F0 m pc ls st0) := by
  obtain ⟨rfl, rfl⟩ := hcs
  cases P with
  | none => cases hp
  | some z1 =>
    refine va_callq (hrun z1.1 z1.2 rfl) X.2.2 (fun _ _ q => q) (fun _ q => q) (fun r u t H1 locs1 ht hvm hr hB _ _ hS => ?_)
    subst hr; subst ht
    exact kk _ _ _ _ ⟨hB.1, hB.2, hS⟩ hp
-- ===== ends =====
theorem w_reti (C : CX K p m c cc nL s args own) (X : HX K s.heap H locs h) {v r : Int32} {h' : Hp} (hr : meth.sig.returnType = some .int) (hlocks : meth.locks = false) (hcs : cells ≤ mc ∧ slots ≤ ms) (hdg : decode cc pc = .ok (.ireturn, 1)) (hp : some (v, h) = some (r, h')) : W p l e R s m args below meth c H locs cells slots (MQ below (Qi K r h') args s mc ms (KA K)) (F0 m pc ls [.int v]) := by
  cases hp
  obtain ⟨hx, hb, -⟩ := C
  refine W.widen hcs.1 hcs.2 ?_
  exact W.iret hx hb hr (fun t ht hW => ⟨⟨v, (), rfl, rfl, by rw [ht]; exact X.1, by rw [ht]; exact X.2.1⟩, X.2.2.F ht⟩) X.2.2.2.2 hdg hlocks
theorem w_retz (C : CX K p m c cc nL s args own) (X : HX K s.heap H locs h) {v r : Int32} {h' : Hp} (hr : meth.sig.returnType = some .boolean) (hlocks : meth.locks = false) (hcs : cells ≤ mc ∧ slots ≤ ms) (hn : narrow .boolean (.int v) = .int v) (hdg : decode cc pc = .ok (.ireturn, 1)) (hp : some (v, h) = some (r, h')) : W p l e R s m args below meth c H locs cells slots (MQ below (Qi K r h') args s mc ms (KA K)) (F0 m pc ls [.int v]) := by
  cases hp
  obtain ⟨hx, hb, -⟩ := C
  refine W.widen hcs.1 hcs.2 ?_
  exact W.zret hx hb hr hn (fun t ht hW => ⟨⟨v, (), rfl, rfl, by rw [ht]; exact X.1, by rw [ht]; exact X.2.1⟩, X.2.2.F ht⟩) X.2.2.2.2 hdg hlocks
theorem w_retv (C : CX K p m c cc nL s args own) (X : HX K s.heap H locs h) {h' : Hp} (hr : meth.sig.returnType = none) (hlocks : meth.locks = false) (hcs : cells ≤ mc ∧ slots ≤ ms) (hdg : decode cc pc = .ok (.return_, 1)) (hp : some h = some h') : W p l e R s m args below meth c H locs cells slots (MQ below (Qv K h') args s mc ms (KA K)) (F0 m pc ls []) := by
  cases hp
  obtain ⟨hx, hb, -⟩ := C
  refine W.widen hcs.1 hcs.2 ?_
  exact W.vret hx hb hr (fun t ht hW => ⟨⟨(), rfl, trivial, by rw [ht]; exact X.1, by rw [ht]; exact X.2.1⟩, X.2.2.F ht⟩) X.2.2.2.2 hdg hlocks
theorem w_retq (C : CX K p m c cc nL s args own) (X : HX K s.heap H locs h) {v r : Option Nat} {h' : Hp} {N : String} (hr : meth.sig.returnType = some (.object N)) (hlocks : meth.locks = false) (hcs : cells ≤ mc ∧ slots ≤ ms) (hdg : decode cc pc = .ok (.areturn, 1)) (hp : some (v, h) = some (r, h')) : W p l e R s m args below meth c H locs cells slots (MQ below (Qq K r h') args s mc ms (KA K)) (F0 m pc ls [va_rf (v.map (fun q => K.1 + q))]) := by
  cases hp
  obtain ⟨hx, hb, -⟩ := C
  refine W.widen hcs.1 hcs.2 ?_
  exact W.aret hx hb hr (Or.inl ⟨_, rfl⟩) (by cases v with
    | none => exact Or.inl rfl
    | some q => exact Or.inr ⟨_, rfl⟩) (fun t ht hW => ⟨⟨_, (), rfl, rfl, by rw [ht]; exact X.1, by rw [ht]; exact X.2.1⟩, X.2.2.F ht⟩) X.2.2.2.2 hdg hlocks
-- ===== makings =====
theorem w_nw (C : CX K p m c cc nL s args own) (X : HX K s.heap H locs h) {f : Nat → Hp → Option ρ} (hN : NWC own idx c0) (hcells : cells + 1 ≤ R.cells ∧ slots + FN c0 ≤ R.slots) (hcs : cells + 1 = cells' ∧ slots + FN c0 = slots') (hdg : decode cc pc = .ok (.new idx, 3)) (hp : nw h c0 f = some z)
    (kk : ∀ (q : Nat) (h' : Hp) (H1 : Heap) (locs1 : List Loc), HX K s.heap H1 locs1 h' → f q h' = some z → W p l e R s m args below meth c H1 locs1 cells' slots' Q (F0 m (pc + 3) ls (.ref (K.1 + q) :: rest))) : W p l e R s m args below meth c H locs cells slots Q (F0 m pc ls rest) := by
  obtain ⟨rfl, rfl⟩ := hcs
  unfold nw at hp
  split at hp
  next hs =>
    obtain ⟨h7, n1, n2, n3⟩ := hN
    obtain ⟨hx, hb, -, hown, hts, hK, -⟩ := C
    have hKn := hK.1 c0 _ (cls_at c0 h7)
    refine W.newcK hx hb hown (hts _ n1) (hts _ n2) (hts _ n3) rfl hdg hcells.1 hcells.2 hKn.2.1 rfl fun H1 kC hkC e1 e2 e3 => ?_
    rw [X.2.1]
    rw [X.2.1] at e1
    refine kk _ _ H1 locs (hx_push (h' := (h.1 + 1, (fun q j => if q = h.1 then 0 else h.2.1 q j), (fun q j => if q = h.1 then none else h.2.2 q j))) X rfl (cell_obj hs h7) (fun q hq => cell_ints (by funext j; simp [Nat.ne_of_lt hq]) (by funext j; simp [Nat.ne_of_lt hq])) ?_ (by rw [X.2.1] at e2 ⊢; exact e2) e3) hp
    refine ⟨_, cls_at c0 h7, (u_born (FY c0) hts (fw_at c0 h7) hKn hkC e1 (fp_at c0 h7)).to fun j hj => ?_⟩
    rw [vpV_map hj, dv_at c0 h7 j hj]
    cases hr : isRef c0 j <;> simp [fv, hr, va_rf]
  next => cases hp
theorem w_na (C : CX K p m c cc nL s args own) (X : HX K s.heap H locs h) {k : Int32} {f : Nat → Hp → Option ρ} {N : Nat} (hN : k.toNatClampNeg = N) (hbig : N * 4 ≤ 536870912) (hcells : cells + 1 ≤ R.cells ∧ slots + N ≤ R.slots) (hcs : cells + 1 = cells' ∧ slots + N = slots') (hdg : decode cc pc = .ok (.newarray .int, 2)) (hp : na h k f = some z)
    (kk : ∀ (q : Nat) (h' : Hp) (H1 : Heap) (locs1 : List Loc), HX K s.heap H1 locs1 h' → f q h' = some z → W p l e R s m args below meth c H1 locs1 cells' slots' Q (F0 m (pc + 2) ls (.ref (K.1 + q) :: rest))) : W p l e R s m args below meth c H locs cells slots Q (F0 m pc ls (.int k :: rest)) := by
  obtain ⟨rfl, rfl⟩ := hcs
  subst hN
  unfold na at hp
  split at hp
  next hs =>
    obtain ⟨hs1, hs2, hs3⟩ := hs
    obtain ⟨hx, hb, -, hown, hts, hK, -⟩ := C
    refine va_newaK (atype := .int) hx hb (hts _ w_ai) rfl hdg rfl hs2 rfl hbig hcells.1 hcells.2 rfl fun H1 cA e1 e2 e3 hAr hNm => ?_
    have hcA : cA = K.2.2.1 := Option.some.inj (hNm.symm.trans (hK.2 0 _ rfl).2)
    subst hcA
    rw [X.2.1]
    rw [X.2.1] at e1
    refine kk _ _ H1 locs (hx_push (h' := (h.1 + 1, (fun q j => if q = h.1 then 0 else h.2.1 q j), (fun q j => if q = h.1 then none else h.2.2 q j))) X rfl (cell_int hs1) (fun q hq => cell_ints (by funext j; simp [Nat.ne_of_lt hq]) (by funext j; simp [Nat.ne_of_lt hq])) ?_ (by rw [X.2.1] at e2 ⊢; exact e2) e3) hp
    show H1[K.1 + h.1]? = some (vp_cell _ _)
    rw [e1, vp_cell_i, hs3]
    simp [defaultValue, newarray.typeOf]
  next => cases hp
theorem w_nq (C : CX K p m c cc nL s args own) (X : HX K s.heap H locs h) {k : Int32} {f : Nat → Hp → Option ρ} {N : Nat} (hlk : Cond.classLink own idx "TurnsMultiples$Goer" ∈ TBg) (hN : k.toNatClampNeg = N) (hbig : N * 4 ≤ 536870912) (hcells : cells + 1 ≤ R.cells ∧ slots + N ≤ R.slots) (hcs : cells + 1 = cells' ∧ slots + N = slots') (hdg : decode cc pc = .ok (.anewarray idx, 3)) (hp : nq h k f = some z)
    (kk : ∀ (q : Nat) (h' : Hp) (H1 : Heap) (locs1 : List Loc), HX K s.heap H1 locs1 h' → f q h' = some z → W p l e R s m args below meth c H1 locs1 cells' slots' Q (F0 m (pc + 3) ls (.ref (K.1 + q) :: rest))) : W p l e R s m args below meth c H locs cells slots Q (F0 m pc ls (.int k :: rest)) := by
  obtain ⟨rfl, rfl⟩ := hcs
  subst hN
  unfold nq at hp
  split at hp
  next hs =>
    obtain ⟨hs1, hs2, hs3⟩ := hs
    obtain ⟨hx, hb, -, hown, hts, hK, -, hAO, -⟩ := C
    refine W.anew hx hb hown (hts _ hlk) (va_AO.use hAO) rfl hdg rfl hs2 hbig hcells.1 hcells.2 fun cA kA comp f1 f2 f3 f4 => ?_
    obtain ⟨kA', comp', r1, r2, r3, r4⟩ := (hK.2 1 _ rfl).2
    have hcA : cA = K.2.2.2.1 := Option.some.inj (f1.symm.trans r4)
    subst hcA
    rw [X.2.1]
    generalize hH1 : H.push ({ cls := K.2.2.2.1, slots := Array.replicate k.toNatClampNeg .null, vm := .none } : Cell) = H1
    have e2 : H1.size = H.size + 1 := by rw [← hH1, Array.size_push]
    have e1 : H1[K.1 + h.1]? = some (arrV K.2.2.2.1 k.toNatClampNeg (fun _ => .null)) := by rw [← hH1, ← X.2.1, Array.getElem?_push_size, ← arrV_new]
    have e3 : ∀ q : Nat, q < H.size → H1[q]? = H[q]? := fun q hq => by rw [← hH1, Array.getElem?_push, if_neg (Nat.ne_of_lt hq)]
    refine kk _ _ H1 locs (hx_push (h' := (h.1 + 1, (fun q j => if q = h.1 then 0 else h.2.1 q j), (fun q j => if q = h.1 then none else h.2.2 q j))) X rfl (cell_ref hs1) (fun q hq => cell_ints (by funext j; simp [Nat.ne_of_lt hq]) (by funext j; simp [Nat.ne_of_lt hq])) ?_ e2 e3) hp
    show H1[K.1 + h.1]? = some (vp_cell _ _)
    rw [e1, vp_cell_q, hs3]
    simp [va_rf]
  next => cases hp
-- ===== the table of kinds =====
theorem w_ks (C : CX K p m c cc nL s args own) (X : HX K s.heap H locs h) (hL : Cond.fieldLink own idx "TurnsMultiples$Letters" "KINDS" "[C" ∈ TBg) (hdg : decode cc pc = .ok (.getstatic idx, 3))
    (kk : W p l e R s m args below meth c H locs cells slots Q (F0 m (pc + 3) ls (.ref K.2.2.2.2 :: rest))) : W p l e R s m args below meth c H locs cells slots Q (F0 m pc ls rest) := by
  obtain ⟨hx, hb, -, hown, hts, hK, -, -, hE, -⟩ := C
  exact va_gets hx hb hE.1 X.2.2 hown (hts _ hL) (fun _ q => q) hdg kk
theorem w_kl (C : CX K p m c cc nL s args own) (X : HX K s.heap H locs h) (hdg : decode cc pc = .ok (.arraylength, 1))
    (kk : W p l e R s m args below meth c H locs cells slots Q (F0 m (pc + 1) ls (.int 6 :: rest))) : W p l e R s m args below meth c H locs cells slots Q (F0 m pc ls (.ref K.2.2.2.2 :: rest)) := by
  obtain ⟨hx, hb, -, hown, hts, hK, -, -, hE, -⟩ := C
  exact va_tlen hx hb hE.2 X.2.2 rfl hdg kk
theorem w_kc (C : CX K p m c cc nL s args own) (X : HX K s.heap H locs h) {i : Int32} {f : Int32 → Option ρ} (hdg : decode cc pc = .ok (.caload, 1)) (hp : kc i f = some z)
    (kk : ∀ v, f v = some z → W p l e R s m args below meth c H locs cells slots Q (F0 m (pc + 1) ls (.int v :: rest))) : W p l e R s m args below meth c H locs cells slots Q (F0 m pc ls (.int i :: .ref K.2.2.2.2 :: rest)) := by
  obtain ⟨hx, hb, -, hown, hts, hK, -, -, hE, -⟩ := C
  unfold kc at hp
  split at hp
  next hc => exact va_tc hx hb hE.2 X.2.2 (vin_of hc.1 hc.2) rfl hdg (kk _ hp)
  next => cases hp
/-- Object.<init> -/
theorem w_oi0 (C : CX K p m c cc nL s args own) (hL : LNK own idx objectInit) (hsz : ls.size = nL) (hsum : (rest.map fun v => v.category).sum ≤ 8) (hR : 1 ≤ R.frames ∧ 20 ≤ R.locals) {q : Nat} (hdg : decode cc pc = .ok (.invokespecial idx, 3))
    (kk : W p l e R s m args below meth c H locs cells slots Q (F0 m (pc + 3) ls rest)) : W p l e R s m args below meth c H locs cells slots Q (F0 m pc ls (.ref q :: rest)) := by
  obtain ⟨hx, hb, hml, hown, hts, -⟩ := C
  have h8 : 2 * (F0 m pc ls (.ref q :: rest)).monitorRoom + (rest.map fun v => v.category).sum ≤ 8 := lv_room hsum
  exact W.objInit hx hb hown (hts _ hL) (hts _ w_oi) (hts _ w_oc) rfl (by rw [hml]; exact hsz) rfl hdg hR.1 (by omega) kk
end ROWS2
/-- a contract out of a walk of the body -/
theorem ct_of {l : Launch} {K : Kt} {y : MethodName} {b : ByteArray} {maxL : Nat} {ret : Option FieldType} {rm : Room} {av : List Value} {h : Hp} {Q : Array Value → State → Outcome → State → Prop} {own : String} (hy : plainName y.cls = true) (ho : y.cls = own) (hlen : (lg_sl av).length ≤ maxL)
    (body : ∀ (p : Program) (e : Env) (s : State) (m : MethodId) (args : Array Value) (below : List Frame) (meth : Method) (c : Code), CX K p m c b maxL s args own → HX K s.heap s.heap [] h → meth.sig.returnType = ret → meth.locks = false → meth.name = y.name → ∀ ls, lv_has ls maxL (lv_args 0 av) → W p l e rm s m args below meth c s.heap [] 0 0 (MQ below Q args s rm.cells rm.slots (KA K)) (F0 m 0 ls [])) : CT l K y b maxL ret rm av h Q := by
  refine Met.ofW (cc := b) (maxL := maxL) (ret := ret) hy rfl ?_
  intro p e s m args below meth c s₁ B hml hv
  obtain ⟨rfl, hP, hsz, hK, hN, hAO, hE⟩ := hv
  have hts := atoms_spec (ws := Cond.code y b maxL ret :: TBg) B.pre
  have hown : s.vm.findClass own = some m.cls := by rw [← ho]; exact findClass_of_methodNamed B.named
  have hl := lv_entry av (n := maxL) hlen
  rw [lg_entry_eq]
  exact body p e s m _ below meth c ⟨B.exec, B.bytes, hml, hown, fun w hw => hts w (List.mem_cons_of_mem _ hw), hK, hN, hAO, hE, by rw [hsz]; exact Nat.le_add_right _ _⟩ ⟨hP, hsz, va_S.rf⟩ B.returns B.notSynchronized (name_of_methodNamed B.named B.method).1 _ hl
