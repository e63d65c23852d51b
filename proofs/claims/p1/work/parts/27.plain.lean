set_option maxHeartbeats 4000000 in
set_option maxRecDepth 100000 in
theorem c_X4_levels (l : Launch) (dC : Nat → ClassId) (dI : Nat → Nat → Nat) (cI cJ : ClassId) (x g mr tb lo g3 gr wi tf th tc : Nat) (sz : Nat) : Met l yX4_levels wsX4_levels ({ frames := 0, cells := 0, slots := 0, locals := 0 }) (va_Pc [.ref x] (pPre dC dI cI cJ sz [(x, .inr (4, [.ref g, .ref mr, .ref tb, .ref lo, .ref g3, .ref gr, .ref wi])), (tb, .inr (2, [.ref tf, .ref th, .ref tc, .int 0]))])) (va_Qi (fun (r : Int32) (_ : Unit) => r = 0) (pPost dC dI (va_A [(x, .inr (4, [.ref g, .ref mr, .ref tb, .ref lo, .ref g3, .ref gr, .ref wi])), (tb, .inr (2, [.ref tf, .ref th, .ref tc, .int 0]))] sz) []) (va_A [(x, .inr (4, [.ref g, .ref mr, .ref tb, .ref lo, .ref g3, .ref gr, .ref wi])), (tb, .inr (2, [.ref tf, .ref th, .ref tc, .int 0]))] sz)) 0 0 (va_A [(x, .inr (4, [.ref g, .ref mr, .ref tb, .ref lo, .ref g3, .ref gr, .ref wi])), (tb, .inr (2, [.ref tf, .ref th, .ref tc, .int 0]))] sz) := by
  refine Met.ofW (cc := cX4_levels) (maxL := 1) (ret := (some .int)) (by decide) rfl ?_
  intro p e s m args below meth c s₁ B hml hv
  obtain ⟨rfl, hsz, hP, hK, hD0⟩ := hv
  have hx := B.exec
  have hb := B.bytes
  have hr := B.returns
  have hts := atoms_spec (ws := wsX4_levels) B.pre
  have hown : s.vm.findClass RX4 = some m.cls := findClass_of_methodNamed B.named
  have hlocks := B.notSynchronized
  subst hsz
  have hD := hD0.self (sz := s.heap.size)
  generalize hAe : va_A [(x, .inr (4, [.ref g, .ref mr, .ref tb, .ref lo, .ref g3, .ref gr, .ref wi])), (tb, .inr (2, [.ref tf, .ref th, .ref tc, .int 0]))] s.heap.size = A at hD ⊢
  have hA : ∀ q : Nat, s.heap.size ≤ q → A q := fun q h => by rw [← hAe]; exact Or.inr h
  have hS : va_S A s.heap s.heap [] := va_S.rf
  have hP : va_P (dC, dI) vwCl [(x, .inr (4, [.ref g, .ref mr, .ref tb, .ref lo, .ref g3, .ref gr, .ref wi])), (tb, .inr (2, [.ref tf, .ref th, .ref tc, .int 0]))] s.heap := hP
  have hl := lv_entry ([.ref x]) (n := 1) (Nat.le_of_ble_eq_true rfl)
  rw [lg_entry_eq]
  generalize (lg_sl ([.ref x]) ++ List.replicate (1 - (lg_sl ([.ref x])).length) Slot.unset).toArray = ls at hl ⊢
  have hl : lv_has ls 1 [(0, .ref x)] := hl
  have i_2 : ∀ w ∈ wsX20, w ∈ wsX4_levels := by decide +kernel
  have i_4 : ∀ w ∈ wsX40, w ∈ wsX4_levels := by decide +kernel
  have k_0 := hts (.fieldLink RX4 26 "CommunityLevels" "table" "LCommunityLevels$LevelTable;") (by decide +kernel)
  have k_1 := hts (.fieldLink RX4 85 "CommunityLevels$LevelTable" "size" "I") (by decide +kernel)
  refine lv_aload_n hx hb dX4_levels_0 rfl (lv_at hl 0 rfl) ?_
  refine va_get (D := (dC, dI)) (ci := 4) (v := .ref tb) (C := RX4) (T := TX4) (N := 7) hx hb hts i_4 hown hK hP 0 rfl rfl 2 (by decide) k_0 (fun _ h9 => h9) rfl dX4_levels_1 ?_
  refine va_get (D := (dC, dI)) (ci := 2) (v := .int 0) (C := RX2) (T := TX2) (N := 4) hx hb hts i_2 hown hK hP 1 rfl rfl 3 (by decide) k_1 (fun _ h9 => h9) rfl dX4_levels_4 ?_
  have hP9 := hP.sub (ws' := []) [] rfl
  have hD9 := hD.sub (ws' := []) [] (by decide) rfl
  exact W.iret (v := 0) hx hb hr (fun t ht hW => ⟨⟨_, (), rfl, rfl, by rw [ht]; exact hP9, hD9⟩, hS.F ht⟩) hS.2.2 dX4_levels_7
set_option maxHeartbeats 4000000 in
set_option maxRecDepth 100000 in
theorem c_X4_moves (l : Launch) (dC : Nat → ClassId) (dI : Nat → Nat → Nat) (cI cJ : ClassId) (x g mr tb lo g3 gr wi lf lg : Nat) (sz : Nat) : Met l yX4_moves wsX4_moves ({ frames := 0, cells := 0, slots := 0, locals := 0 }) (va_Pc [.ref x] (pPre dC dI cI cJ sz [(x, .inr (4, [.ref g, .ref mr, .ref tb, .ref lo, .ref g3, .ref gr, .ref wi])), (lo, .inr (3, [.ref lf, .ref lg, .int 0]))])) (va_Qi (fun (r : Int32) (_ : Unit) => r = 0) (pPost dC dI (va_A [(x, .inr (4, [.ref g, .ref mr, .ref tb, .ref lo, .ref g3, .ref gr, .ref wi])), (lo, .inr (3, [.ref lf, .ref lg, .int 0]))] sz) []) (va_A [(x, .inr (4, [.ref g, .ref mr, .ref tb, .ref lo, .ref g3, .ref gr, .ref wi])), (lo, .inr (3, [.ref lf, .ref lg, .int 0]))] sz)) 0 0 (va_A [(x, .inr (4, [.ref g, .ref mr, .ref tb, .ref lo, .ref g3, .ref gr, .ref wi])), (lo, .inr (3, [.ref lf, .ref lg, .int 0]))] sz) := by
  refine Met.ofW (cc := cX4_moves) (maxL := 1) (ret := (some .int)) (by decide) rfl ?_
  intro p e s m args below meth c s₁ B hml hv
  obtain ⟨rfl, hsz, hP, hK, hD0⟩ := hv
  have hx := B.exec
  have hb := B.bytes
  have hr := B.returns
  have hts := atoms_spec (ws := wsX4_moves) B.pre
  have hown : s.vm.findClass RX4 = some m.cls := findClass_of_methodNamed B.named
  have hlocks := B.notSynchronized
  subst hsz
  have hD := hD0.self (sz := s.heap.size)
  generalize hAe : va_A [(x, .inr (4, [.ref g, .ref mr, .ref tb, .ref lo, .ref g3, .ref gr, .ref wi])), (lo, .inr (3, [.ref lf, .ref lg, .int 0]))] s.heap.size = A at hD ⊢
  have hA : ∀ q : Nat, s.heap.size ≤ q → A q := fun q h => by rw [← hAe]; exact Or.inr h
  have hS : va_S A s.heap s.heap [] := va_S.rf
  have hP : va_P (dC, dI) vwCl [(x, .inr (4, [.ref g, .ref mr, .ref tb, .ref lo, .ref g3, .ref gr, .ref wi])), (lo, .inr (3, [.ref lf, .ref lg, .int 0]))] s.heap := hP
  have hl := lv_entry ([.ref x]) (n := 1) (Nat.le_of_ble_eq_true rfl)
  rw [lg_entry_eq]
  generalize (lg_sl ([.ref x]) ++ List.replicate (1 - (lg_sl ([.ref x])).length) Slot.unset).toArray = ls at hl ⊢
  have hl : lv_has ls 1 [(0, .ref x)] := hl
  have i_3 : ∀ w ∈ wsX30, w ∈ wsX4_moves := by decide +kernel
  have i_4 : ∀ w ∈ wsX40, w ∈ wsX4_moves := by decide +kernel
  have k_0 := hts (.fieldLink RX4 33 "CommunityLevels" "log" "LCommunityLevels$MoveLog;") (by decide +kernel)
  have k_1 := hts (.fieldLink RX4 107 "CommunityLevels$MoveLog" "size" "I") (by decide +kernel)
  refine lv_aload_n hx hb dX4_moves_0 rfl (lv_at hl 0 rfl) ?_
  refine va_get (D := (dC, dI)) (ci := 4) (v := .ref lo) (C := RX4) (T := TX4) (N := 7) hx hb hts i_4 hown hK hP 0 rfl rfl 3 (by decide) k_0 (fun _ h9 => h9) rfl dX4_moves_1 ?_
  refine va_get (D := (dC, dI)) (ci := 3) (v := .int 0) (C := RX3) (T := TX3) (N := 3) hx hb hts i_3 hown hK hP 1 rfl rfl 2 (by decide) k_1 (fun _ h9 => h9) rfl dX4_moves_4 ?_
  have hP9 := hP.sub (ws' := []) [] rfl
  have hD9 := hD.sub (ws' := []) [] (by decide) rfl
  exact W.iret (v := 0) hx hb hr (fun t ht hW => ⟨⟨_, (), rfl, rfl, by rw [ht]; exact hP9, hD9⟩, hS.F ht⟩) hS.2.2 dX4_moves_7
set_option maxHeartbeats 4000000 in
set_option maxRecDepth 100000 in
theorem c_X4_forgetRun (l : Launch) (dC : Nat → ClassId) (dI : Nat → Nat → Nat) (cI cJ : ClassId) (x g mr tb lo g3 gr wi tf th tc lf lg : Nat) (sz : Nat) : Met l yX4_forgetRun wsX4_forgetRun ({ frames := 0, cells := 0, slots := 0, locals := 0 }) (va_Pc [.ref x] (pPre dC dI cI cJ sz [(x, .inr (4, [.ref g, .ref mr, .ref tb, .ref lo, .ref g3, .ref gr, .ref wi])), (tb, .inr (2, [.ref tf, .ref th, .ref tc, .int 0])), (lo, .inr (3, [.ref lf, .ref lg, .int 0]))])) (va_Qv (fun _ : Unit => True) (pPost dC dI (va_A [(x, .inr (4, [.ref g, .ref mr, .ref tb, .ref lo, .ref g3, .ref gr, .ref wi])), (tb, .inr (2, [.ref tf, .ref th, .ref tc, .int 0])), (lo, .inr (3, [.ref lf, .ref lg, .int 0]))] sz) []) (va_A [(x, .inr (4, [.ref g, .ref mr, .ref tb, .ref lo, .ref g3, .ref gr, .ref wi])), (tb, .inr (2, [.ref tf, .ref th, .ref tc, .int 0])), (lo, .inr (3, [.ref lf, .ref lg, .int 0]))] sz)) 0 0 (va_A [(x, .inr (4, [.ref g, .ref mr, .ref tb, .ref lo, .ref g3, .ref gr, .ref wi])), (tb, .inr (2, [.ref tf, .ref th, .ref tc, .int 0])), (lo, .inr (3, [.ref lf, .ref lg, .int 0]))] sz) := by
  refine Met.ofW (cc := cX4_forgetRun) (maxL := 1) (ret := none) (by decide) rfl ?_
  intro p e s m args below meth c s₁ B hml hv
  obtain ⟨rfl, hsz, hP, hK, hD0⟩ := hv
  have hx := B.exec
  have hb := B.bytes
  have hr := B.returns
  have hts := atoms_spec (ws := wsX4_forgetRun) B.pre
  have hown : s.vm.findClass RX4 = some m.cls := findClass_of_methodNamed B.named
  have hlocks := B.notSynchronized
  subst hsz
  have hD := hD0.self (sz := s.heap.size)
  generalize hAe : va_A [(x, .inr (4, [.ref g, .ref mr, .ref tb, .ref lo, .ref g3, .ref gr, .ref wi])), (tb, .inr (2, [.ref tf, .ref th, .ref tc, .int 0])), (lo, .inr (3, [.ref lf, .ref lg, .int 0]))] s.heap.size = A at hD ⊢
  have hA : ∀ q : Nat, s.heap.size ≤ q → A q := fun q h => by rw [← hAe]; exact Or.inr h
  have hS : va_S A s.heap s.heap [] := va_S.rf
  have hP : va_P (dC, dI) vwCl [(x, .inr (4, [.ref g, .ref mr, .ref tb, .ref lo, .ref g3, .ref gr, .ref wi])), (tb, .inr (2, [.ref tf, .ref th, .ref tc, .int 0])), (lo, .inr (3, [.ref lf, .ref lg, .int 0]))] s.heap := hP
  have hl := lv_entry ([.ref x]) (n := 1) (Nat.le_of_ble_eq_true rfl)
  rw [lg_entry_eq]
  generalize (lg_sl ([.ref x]) ++ List.replicate (1 - (lg_sl ([.ref x])).length) Slot.unset).toArray = ls at hl ⊢
  have hl : lv_has ls 1 [(0, .ref x)] := hl
  have i_2 : ∀ w ∈ wsX20, w ∈ wsX4_forgetRun := by decide +kernel
  have i_3 : ∀ w ∈ wsX30, w ∈ wsX4_forgetRun := by decide +kernel
  have i_4 : ∀ w ∈ wsX40, w ∈ wsX4_forgetRun := by decide +kernel
  have k_0 := hts (.fieldLink RX4 26 "CommunityLevels" "table" "LCommunityLevels$LevelTable;") (by decide +kernel)
  have k_1 := hts (.fieldLink RX4 85 "CommunityLevels$LevelTable" "size" "I") (by decide +kernel)
  have k_2 := hts (.fieldLink RX4 33 "CommunityLevels" "log" "LCommunityLevels$MoveLog;") (by decide +kernel)
  have k_3 := hts (.fieldLink RX4 107 "CommunityLevels$MoveLog" "size" "I") (by decide +kernel)
  refine lv_aload_n hx hb dX4_forgetRun_0 rfl (lv_at hl 0 rfl) ?_
  refine va_get (D := (dC, dI)) (ci := 4) (v := .ref tb) (C := RX4) (T := TX4) (N := 7) hx hb hts i_4 hown hK hP 0 rfl rfl 2 (by decide) k_0 (fun _ h9 => h9) rfl dX4_forgetRun_1 ?_
  refine lv_iconst (v := 0) hx hb dX4_forgetRun_4 (by decide) ?_
  refine va_put (D := (dC, dI)) (ci := 2) (v := .int 0) (ty := .int) (C := RX2) (T := TX2) (N := 4) hx hb hts i_2 tyX2 tyX2_ok nmX2 hown hK hP hD hS 1 rfl rfl 3 (by decide) k_1 (fun _ h9 => h9) rfl (by decide +kernel) rfl rfl (Nat.le_of_ble_eq_true rfl) dX4_forgetRun_5 (fun H locs hP hD hS => ?_)
  have hP : va_P (dC, dI) vwCl [(x, .inr (4, [.ref g, .ref mr, .ref tb, .ref lo, .ref g3, .ref gr, .ref wi])), (tb, .inr (2, [.ref tf, .ref th, .ref tc, .int 0])), (lo, .inr (3, [.ref lf, .ref lg, .int 0]))] H := hP
  have hD : va_D A [(x, .inr (4, [.ref g, .ref mr, .ref tb, .ref lo, .ref g3, .ref gr, .ref wi])), (tb, .inr (2, [.ref tf, .ref th, .ref tc, .int 0])), (lo, .inr (3, [.ref lf, .ref lg, .int 0]))] := hD
  refine lv_aload_n hx hb dX4_forgetRun_8 rfl (lv_at hl 0 rfl) ?_
  refine va_get (D := (dC, dI)) (ci := 4) (v := .ref lo) (C := RX4) (T := TX4) (N := 7) hx hb hts i_4 hown hK hP 0 rfl rfl 3 (by decide) k_2 (fun _ h9 => h9) rfl dX4_forgetRun_9 ?_
  refine lv_iconst (v := 0) hx hb dX4_forgetRun_12 (by decide) ?_
  refine va_put (D := (dC, dI)) (ci := 3) (v := .int 0) (ty := .int) (C := RX3) (T := TX3) (N := 3) hx hb hts i_3 tyX3 tyX3_ok nmX3 hown hK hP hD hS 2 rfl rfl 2 (by decide) k_3 (fun _ h9 => h9) rfl (by decide +kernel) rfl rfl (Nat.le_of_ble_eq_true rfl) dX4_forgetRun_13 (fun H locs hP hD hS => ?_)
  have hP : va_P (dC, dI) vwCl [(x, .inr (4, [.ref g, .ref mr, .ref tb, .ref lo, .ref g3, .ref gr, .ref wi])), (tb, .inr (2, [.ref tf, .ref th, .ref tc, .int 0])), (lo, .inr (3, [.ref lf, .ref lg, .int 0]))] H := hP
  have hD : va_D A [(x, .inr (4, [.ref g, .ref mr, .ref tb, .ref lo, .ref g3, .ref gr, .ref wi])), (tb, .inr (2, [.ref tf, .ref th, .ref tc, .int 0])), (lo, .inr (3, [.ref lf, .ref lg, .int 0]))] := hD
  have hP9 := hP.sub (ws' := []) [] rfl
  have hD9 := hD.sub (ws' := []) [] (by decide) rfl
  exact W.vret hx hb hr (fun t ht hW => ⟨⟨(), rfl, trivial, by rw [ht]; exact hP9, hD9⟩, hS.F ht⟩) hS.2.2 dX4_forgetRun_16
set_option maxHeartbeats 4000000 in
set_option maxRecDepth 100000 in
theorem c_X4_own (l : Launch) (dC : Nat → ClassId) (dI : Nat → Nat → Nat) (cI cJ : ClassId) (x g mr tb lo g3 gr wi mh mc md ml mn w d : Nat) (sz : Nat) : Met l yX4_own wsX4_own ({ frames := 2, cells := 0, slots := 0, locals := 48 }) (va_Pc [.ref x] (pPre dC dI cI cJ sz [(x, .inr (4, [.ref g, .ref mr, .ref tb, .ref lo, .ref g3, .ref gr, .ref wi])), (mr, .inr (1, [.ref mh, .ref mc, .ref md, .ref ml, .ref mn])), (mh, .inl (cI, 40, .inl Zi)), (mc, .inl (cI, 40, .inl Zi)), (md, .inl (cI, 40, .inl Zi)), (g, .inr (0, [.ref w, .ref d, .int 1, .int 0])), (w, .inl (cI, 1600, .inl Zi)), (d, .inl (cI, 40, .inl Zi))])) (va_Ql (fun (r : Int64) (_ : Unit) => r = 0) (pPost dC dI (va_A [(x, .inr (4, [.ref g, .ref mr, .ref tb, .ref lo, .ref g3, .ref gr, .ref wi])), (mr, .inr (1, [.ref mh, .ref mc, .ref md, .ref ml, .ref mn])), (mh, .inl (cI, 40, .inl Zi)), (mc, .inl (cI, 40, .inl Zi)), (md, .inl (cI, 40, .inl Zi)), (g, .inr (0, [.ref w, .ref d, .int 1, .int 0])), (w, .inl (cI, 1600, .inl Zi)), (d, .inl (cI, 40, .inl Zi))] sz) []) (va_A [(x, .inr (4, [.ref g, .ref mr, .ref tb, .ref lo, .ref g3, .ref gr, .ref wi])), (mr, .inr (1, [.ref mh, .ref mc, .ref md, .ref ml, .ref mn])), (mh, .inl (cI, 40, .inl Zi)), (mc, .inl (cI, 40, .inl Zi)), (md, .inl (cI, 40, .inl Zi)), (g, .inr (0, [.ref w, .ref d, .int 1, .int 0])), (w, .inl (cI, 1600, .inl Zi)), (d, .inl (cI, 40, .inl Zi))] sz)) 0 0 (va_A [(x, .inr (4, [.ref g, .ref mr, .ref tb, .ref lo, .ref g3, .ref gr, .ref wi])), (mr, .inr (1, [.ref mh, .ref mc, .ref md, .ref ml, .ref mn])), (mh, .inl (cI, 40, .inl Zi)), (mc, .inl (cI, 40, .inl Zi)), (md, .inl (cI, 40, .inl Zi)), (g, .inr (0, [.ref w, .ref d, .int 1, .int 0])), (w, .inl (cI, 1600, .inl Zi)), (d, .inl (cI, 40, .inl Zi))] sz) := by
  refine Met.ofW (cc := cX4_own) (maxL := 1) (ret := (some .long)) (by decide) rfl ?_
  intro p e s m args below meth c s₁ B hml hv
  obtain ⟨rfl, hsz, hP, hK, hD0⟩ := hv
  have hx := B.exec
  have hb := B.bytes
  have hr := B.returns
  have hts := atoms_spec (ws := wsX4_own) B.pre
  have hown : s.vm.findClass RX4 = some m.cls := findClass_of_methodNamed B.named
  have hlocks := B.notSynchronized
  subst hsz
  have hD := hD0.self (sz := s.heap.size)
  generalize hAe : va_A [(x, .inr (4, [.ref g, .ref mr, .ref tb, .ref lo, .ref g3, .ref gr, .ref wi])), (mr, .inr (1, [.ref mh, .ref mc, .ref md, .ref ml, .ref mn])), (mh, .inl (cI, 40, .inl Zi)), (mc, .inl (cI, 40, .inl Zi)), (md, .inl (cI, 40, .inl Zi)), (g, .inr (0, [.ref w, .ref d, .int 1, .int 0])), (w, .inl (cI, 1600, .inl Zi)), (d, .inl (cI, 40, .inl Zi))] s.heap.size = A at hD ⊢
  have hA : ∀ q : Nat, s.heap.size ≤ q → A q := fun q h => by rw [← hAe]; exact Or.inr h
  have hS : va_S A s.heap s.heap [] := va_S.rf
  have hP : va_P (dC, dI) vwCl [(x, .inr (4, [.ref g, .ref mr, .ref tb, .ref lo, .ref g3, .ref gr, .ref wi])), (mr, .inr (1, [.ref mh, .ref mc, .ref md, .ref ml, .ref mn])), (mh, .inl (cI, 40, .inl Zi)), (mc, .inl (cI, 40, .inl Zi)), (md, .inl (cI, 40, .inl Zi)), (g, .inr (0, [.ref w, .ref d, .int 1, .int 0])), (w, .inl (cI, 1600, .inl Zi)), (d, .inl (cI, 40, .inl Zi))] s.heap := hP
  have hl := lv_entry ([.ref x]) (n := 1) (Nat.le_of_ble_eq_true rfl)
  rw [lg_entry_eq]
  generalize (lg_sl ([.ref x]) ++ List.replicate (1 - (lg_sl ([.ref x])).length) Slot.unset).toArray = ls at hl ⊢
  have hl : lv_has ls 1 [(0, .ref x)] := hl
  have i_4 : ∀ w ∈ wsX40, w ∈ wsX4_own := by decide +kernel
  have k_0 := hts (.fieldLink RX4 19 "CommunityLevels" "mine" "LCommunityLevels$Groups;") (by decide +kernel)
  have k_1 := hts (.fieldLink RX4 10 "CommunityLevels" "told" "LCommunityLevels$Graph;") (by decide +kernel)
  refine lv_aload_n hx hb dX4_own_0 rfl (lv_at hl 0 rfl) ?_
  refine va_get (D := (dC, dI)) (ci := 4) (v := .ref mr) (C := RX4) (T := TX4) (N := 7) hx hb hts i_4 hown hK hP 0 rfl rfl 1 (by decide) k_0 (fun _ h9 => h9) rfl dX4_own_1 ?_
  refine lv_aload_n hx hb dX4_own_4 rfl (lv_at hl 0 rfl) ?_
  refine va_get (D := (dC, dI)) (ci := 4) (v := .ref g) (C := RX4) (T := TX4) (N := 7) hx hb hts i_4 hown hK hP 0 rfl rfl 0 (by decide) k_1 (fun _ h9 => h9) rfl dX4_own_5 ?_
  have hPc := hP.sub (ws' := [(mr, .inr (1, [.ref mh, .ref mc, .ref md, .ref ml, .ref mn])), (mh, .inl (cI, 40, .inl Zi)), (mc, .inl (cI, 40, .inl Zi)), (md, .inl (cI, 40, .inl Zi)), (g, .inr (0, [.ref w, .ref d, .int 1, .int 0])), (d, .inl (cI, 40, .inl Zi))]) [1, 2, 3, 4, 5, 7] rfl
  have hDc := hD.sub (ws' := [(mr, .inr (1, [.ref mh, .ref mc, .ref md, .ref ml, .ref mn])), (mh, .inl (cI, 40, .inl Zi)), (mc, .inl (cI, 40, .inl Zi)), (md, .inl (cI, 40, .inl Zi)), (g, .inr (0, [.ref w, .ref d, .int 1, .int 0])), (d, .inl (cI, 40, .inl Zi))]) [1, 2, 3, 4, 5, 7] (by decide) rfl
  have hFc := va_free (wc := [(mr, .inr (1, [.ref mh, .ref mc, .ref md, .ref ml, .ref mn])), (mh, .inl (cI, 40, .inl Zi)), (mc, .inl (cI, 40, .inl Zi)), (md, .inl (cI, 40, .inl Zi)), (g, .inr (0, [.ref w, .ref d, .int 1, .int 0])), (d, .inl (cI, 40, .inl Zi))]) hD hS hA [1, 2, 3, 4, 5, 7] rfl
  refine va_callv (va_runV (As := [.ref g]) (rest := []) ⟨hx, hb, hml, hown, hts⟩ (c_X1_tally l dC dI cI cJ mr mh mc md ml mn g w d s.heap.size Zi Zi Zi (by first | rfl | exact hz | decide)) (cwV 1 hts gX4_own_X1_tally rfl rfl rfl (by decide +kernel) ⟨Nat.le_of_ble_eq_true rfl, Nat.le_of_ble_eq_true rfl⟩) ⟨fun a U g mk q => by obtain ⟨q0, q1, qP, qK, qD⟩ := q; exact ⟨q0, q1, qP, va_K.moved (u := U) (U := U.calling g mk a) (Vm.Alike.refl U.vm) qK, qD⟩, va_recv hK hPc (ci := 1) (q0 := 0) rfl rfl, fun U hU hW => ⟨rfl, by rw [hU], by rw [hU]; exact hPc, va_K.moved hW.alike hK, hDc.weaken (fun _ _ _ _ => trivial)⟩⟩ rfl rfl hl.1 rfl (lv_room (Nat.le_of_ble_eq_true rfl)) dX4_own_8 ⟨Nat.le_of_ble_eq_true rfl, Nat.le_of_ble_eq_true rfl⟩) hS (fun q _ h => hFc q h) hFc (fun u_2 t H1 locs ht hvm hw hB hz1 hk1 hS => ?_)
  obtain ⟨hP1, hD1⟩ := hB
  rw [ht] at hP1
  obtain ⟨hP, hD⟩ := va_join (wr := [(x, .inr (4, [.ref g, .ref mr, .ref tb, .ref lo, .ref g3, .ref gr, .ref wi])), (w, .inl (cI, 1600, .inl Zi))]) (w1 := [(mr, .inr (1, [.ref mh, .ref mc, .ref md, .ref ml, .ref mn])), (mh, .inl (cI, 40, .inl Zi)), (mc, .inl (cI, 40, .inl (upd Zi 0 1))), (md, .inl (cI, 40, .inl (upd Zi 0 0))), (g, .inr (0, [.ref w, .ref d, .int 1, .int 0])), (d, .inl (cI, 40, .inl Zi))]) hP hD [1, 2, 3, 4, 5, 7] [0, 6] rfl rfl (by decide) (by decide) hk1 hFc hP1 hD1
  generalize H1 = H at hP hS ⊢
  have hP : va_P (dC, dI) vwCl [(x, .inr (4, [.ref g, .ref mr, .ref tb, .ref lo, .ref g3, .ref gr, .ref wi])), (w, .inl (cI, 1600, .inl Zi)), (mr, .inr (1, [.ref mh, .ref mc, .ref md, .ref ml, .ref mn])), (mh, .inl (cI, 40, .inl Zi)), (mc, .inl (cI, 40, .inl (upd Zi 0 1))), (md, .inl (cI, 40, .inl (upd Zi 0 0))), (g, .inr (0, [.ref w, .ref d, .int 1, .int 0])), (d, .inl (cI, 40, .inl Zi))] H := hP
  have hD : va_D A [(x, .inr (4, [.ref g, .ref mr, .ref tb, .ref lo, .ref g3, .ref gr, .ref wi])), (w, .inl (cI, 1600, .inl Zi)), (mr, .inr (1, [.ref mh, .ref mc, .ref md, .ref ml, .ref mn])), (mh, .inl (cI, 40, .inl Zi)), (mc, .inl (cI, 40, .inl (upd Zi 0 1))), (md, .inl (cI, 40, .inl (upd Zi 0 0))), (g, .inr (0, [.ref w, .ref d, .int 1, .int 0])), (d, .inl (cI, 40, .inl Zi))] := hD
  refine lv_aload_n hx hb dX4_own_11 rfl (lv_at hl 0 rfl) ?_
  refine va_get (D := (dC, dI)) (ci := 4) (v := .ref mr) (C := RX4) (T := TX4) (N := 7) hx hb hts i_4 hown hK hP 0 rfl rfl 1 (by decide) k_0 (fun _ h9 => h9) rfl dX4_own_12 ?_
  refine lv_aload_n hx hb dX4_own_15 rfl (lv_at hl 0 rfl) ?_
  refine va_get (D := (dC, dI)) (ci := 4) (v := .ref g) (C := RX4) (T := TX4) (N := 7) hx hb hts i_4 hown hK hP 0 rfl rfl 0 (by decide) k_1 (fun _ h9 => h9) rfl dX4_own_16 ?_
  have hPc := hP.sub (ws' := [(mr, .inr (1, [.ref mh, .ref mc, .ref md, .ref ml, .ref mn])), (mh, .inl (cI, 40, .inl Zi)), (md, .inl (cI, 40, .inl (upd Zi 0 0))), (g, .inr (0, [.ref w, .ref d, .int 1, .int 0])), (w, .inl (cI, 1600, .inl Zi))]) [2, 3, 5, 6, 1] rfl
  have hDc := hD.sub (ws' := [(mr, .inr (1, [.ref mh, .ref mc, .ref md, .ref ml, .ref mn])), (mh, .inl (cI, 40, .inl Zi)), (md, .inl (cI, 40, .inl (upd Zi 0 0))), (g, .inr (0, [.ref w, .ref d, .int 1, .int 0])), (w, .inl (cI, 1600, .inl Zi))]) [2, 3, 5, 6, 1] (by decide) rfl
  have hFc := va_free (wc := [(mr, .inr (1, [.ref mh, .ref mc, .ref md, .ref ml, .ref mn])), (mh, .inl (cI, 40, .inl Zi)), (md, .inl (cI, 40, .inl (upd Zi 0 0))), (g, .inr (0, [.ref w, .ref d, .int 1, .int 0])), (w, .inl (cI, 1600, .inl Zi))]) hD hS hA [2, 3, 5, 6, 1] rfl
  refine va_calll (va_runV (As := [.ref g]) (rest := []) ⟨hx, hb, hml, hown, hts⟩ (c_X1_score l dC dI cI cJ mr mh mc md ml mn g w d H.size Zi (by first | rfl | exact hz | decide)) (cwV 1 hts gX4_own_X1_score rfl rfl rfl (by decide +kernel) ⟨Nat.le_of_ble_eq_true rfl, Nat.le_of_ble_eq_true rfl⟩) ⟨fun a U g mk q => by obtain ⟨q0, q1, qP, qK, qD⟩ := q; exact ⟨q0, q1, qP, va_K.moved (u := U) (U := U.calling g mk a) (Vm.Alike.refl U.vm) qK, qD⟩, va_recv hK hPc (ci := 1) (q0 := 0) rfl rfl, fun U hU hW => ⟨rfl, by rw [hU], by rw [hU]; exact hPc, va_K.moved hW.alike hK, hDc.weaken (fun _ _ _ _ => trivial)⟩⟩ rfl rfl hl.1 rfl (lv_room (Nat.le_of_ble_eq_true rfl)) dX4_own_19 ⟨Nat.le_of_ble_eq_true rfl, Nat.le_of_ble_eq_true rfl⟩) hS (fun q _ h => hFc q h) hFc (fun r_3 u_4 t H1 locs ht hvm hw hB hz1 hk1 hS => ?_)
  obtain ⟨hP1, hD1⟩ := hB
  rw [ht] at hP1
  obtain ⟨hP, hD⟩ := va_join (wr := [(x, .inr (4, [.ref g, .ref mr, .ref tb, .ref lo, .ref g3, .ref gr, .ref wi])), (mc, .inl (cI, 40, .inl (upd Zi 0 1))), (d, .inl (cI, 40, .inl Zi))]) (w1 := [(mr, .inr (1, [.ref mh, .ref mc, .ref md, .ref ml, .ref mn])), (mh, .inl (cI, 40, .inl Zi)), (md, .inl (cI, 40, .inl (upd Zi 0 0))), (g, .inr (0, [.ref w, .ref d, .int 1, .int 0])), (w, .inl (cI, 1600, .inl Zi))]) hP hD [2, 3, 5, 6, 1] [0, 4, 7] rfl rfl (by decide) (by decide) hk1 hFc hP1 hD1
  generalize H1 = H at hP hS ⊢
  have hP : va_P (dC, dI) vwCl [(x, .inr (4, [.ref g, .ref mr, .ref tb, .ref lo, .ref g3, .ref gr, .ref wi])), (mc, .inl (cI, 40, .inl (upd Zi 0 1))), (d, .inl (cI, 40, .inl Zi)), (mr, .inr (1, [.ref mh, .ref mc, .ref md, .ref ml, .ref mn])), (mh, .inl (cI, 40, .inl Zi)), (md, .inl (cI, 40, .inl (upd Zi 0 0))), (g, .inr (0, [.ref w, .ref d, .int 1, .int 0])), (w, .inl (cI, 1600, .inl Zi))] H := hP
  have hD : va_D A [(x, .inr (4, [.ref g, .ref mr, .ref tb, .ref lo, .ref g3, .ref gr, .ref wi])), (mc, .inl (cI, 40, .inl (upd Zi 0 1))), (d, .inl (cI, 40, .inl Zi)), (mr, .inr (1, [.ref mh, .ref mc, .ref md, .ref ml, .ref mn])), (mh, .inl (cI, 40, .inl Zi)), (md, .inl (cI, 40, .inl (upd Zi 0 0))), (g, .inr (0, [.ref w, .ref d, .int 1, .int 0])), (w, .inl (cI, 1600, .inl Zi))] := hD
  obtain rfl : r_3 = 0 := hw
  have hP9 := hP.sub (ws' := []) [] rfl
  have hD9 := hD.sub (ws' := []) [] (by decide) rfl
  exact W.lret (v := 0) hx hb hr (fun t ht hW => ⟨⟨_, (), rfl, rfl, by rw [ht]; exact hP9, hD9⟩, hS.F ht⟩) hS.2.2 dX4_own_22
