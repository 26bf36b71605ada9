theorem inst_at : ∀ ci, ci < 7 → ∃ n, Cond.instantiable (FC ci) n ∈ TBg := by
  intro ci h
  match ci, h with
  | 0, _ => exact ⟨_, nX5_16.2.2.1⟩
  | 1, _ => exact ⟨_, nX5_36.2.2.1⟩
  | 2, _ => exact ⟨_, nX0_18.2.2.1⟩
  | 3, _ => exact ⟨_, nX5_7.2.2.1⟩
  | 4, _ => exact ⟨_, nX5_29.2.2.1⟩
  | 5, _ => exact ⟨_, nL_7.2.2.1⟩
  | 6, _ => exact ⟨_, nL_10.2.2.1⟩
def hp0 : Hp := (0, fun _ _ => 0, fun _ _ => none)
set_option maxHeartbeats 4000000 in
set_option maxRecDepth 100000 in
/-- the walk from the law's entry, given what the pure law answers -/
theorem whole_start_of {p : Program} {e : Env} {s : State} {m : MethodId} {below : List Frame} {meth : Method} {c : Code} (l : Launch) {b L : Nat} {xs : Nat → Int32} (hone : ∃ h', P_L_law L xs hp0 = some (1, h')) (C0 : lw_At p s m meth c b L xs) : W p l e room_1 s m #[Value.ref b] below meth c s.heap [] 0 0 (lw_Z below #[Value.ref b] s) (entryFrame m ([Value.ref b] : List Value).toArray 4) := by
  obtain ⟨h', hp⟩ := hone
  obtain ⟨hx, hb, hr, hml, hown, hts, hX, hbl, hlocks, hgv⟩ := id C0
  have htg : ∀ w ∈ TBg, w.before #[Value.ref b] s = true := fun w hw => hts w (tb_good hw).1
  have hk0 : ∀ ci, ∃ (cC : ClassId) (iS : Nat → Nat), ci < 7 → u_Kn s (FC ci) (FT ci) (FN ci) cC iS := by
    intro ci
    by_cases hci : ci < 7
    · obtain ⟨n, hn⟩ := inst_at ci hci
      obtain ⟨cC, iS, h1⟩ := u_known (C := FC ci) (T := FT ci) (N := FN ci) htg (fw_at ci hci) (htg _ hn)
      exact ⟨cC, iS, fun _ => h1⟩
    · exact ⟨0, fun _ => 0, fun h => absurd h hci⟩
  obtain ⟨cI, kI, compI, i1, i2, i3⟩ : ∃ c k comp, s.vm.findClass ("[" ++ (FieldType.int).toString) = some c ∧ s.vm.classes[c]? = some k ∧ k.kind = .array comp .int := Cond.arrayClass_spec (htg _ w_ai)
  obtain ⟨compG, cG, kG, g1, -, g3, g4, g5⟩ := Cond.arrayOver_spec (hts _ w_ao)
  have hs := flat_of_before _ hgv
  have hA : ∀ a : Nat, a < s.heap.size → ¬ (fun q : Nat => s.heap.size ≤ q) a := fun a h => Nat.not_le.mpr h
  obtain ⟨t, ht, hT⟩ := va_Tof (tm := .static "TurnsMultiples$Letters" "KINDS" "[C") (ty := .char) (N := 6) (f := fun j => .int (KINDSf j)) (A := fun q : Nat => s.heap.size ≤ q) (by decide) (hs _ (by decide +kernel)) (va_eqt (hs _ (by decide +kernel))) (by
    intro j hj
    match j, hj with
    | 0, _ => exact va_eqt (hs _ (by decide +kernel))
    | 1, _ => exact va_eqt (hs _ (by decide +kernel))
    | 2, _ => exact va_eqt (hs _ (by decide +kernel))
    | 3, _ => exact va_eqt (hs _ (by decide +kernel))
    | 4, _ => exact va_eqt (hs _ (by decide +kernel))
    | 5, _ => exact va_eqt (hs _ (by decide +kernel))) hA
  have hZ := va_Zref (A := fun q : Nat => s.heap.size ≤ q) (hts _ w_ls) (hts _ w_li) ht hA
  have hN : ∀ w ∈ NWL, va_Nw w s := by
    intro w hw
    have h1 := hts w (List.mem_filter.mp hw).1
    have h2 := (List.mem_filter.mp hw).2
    cases w <;> first | exact va_Nw.of rfl h1 | cases h2
  let K : Kt := (s.heap.size, (fun ci => Classical.choose (hk0 ci), fun ci => Classical.choose (Classical.choose_spec (hk0 ci))), cI, cG, t)
  have hK : va_K K.2.1 cls (tysK K) s := by
    refine ⟨fun ci q hq => ?_, fun k q hq => ?_⟩
    · have hci : ci < 7 := (List.getElem?_eq_some_iff.mp hq).1
      rw [cls_at ci hci] at hq
      cases hq
      exact Classical.choose_spec (Classical.choose_spec (hk0 ci)) hci
    · match k, hq with
      | 0, hq => cases hq; exact ⟨fun N z => ⟨(fun k h => by cases h), kI, i2, compI, i3⟩, i1⟩
      | 1, hq => cases hq; exact ⟨fun N z => ⟨(fun k h => by cases h), kG, g3, compG, g4⟩, kG, compG, g3, g4, g1, g5⟩
      | k + 2, hq => simp [tysK] at hq
  have C : CX K p m c code 4 s #[Value.ref b] RL := ⟨hx, hb, hml, hown, htg, hK, hN, va_AO.of (hts _ w_ao), ⟨hZ, hT⟩, Nat.le_refl _⟩
  have X : HX K s.heap s.heap [] hp0 := ⟨fun k q h => by simp [wsH, hp0] at h, rfl, va_S.rf⟩
  have hl := lv_entry ([.ref b]) (n := 4) (Nat.le_of_ble_eq_true rfl)
  rw [lg_entry_eq]
  exact w_L_law C hr hlocks rfl hX hbl (Nat.not_le.mpr hbl) X hl hp
