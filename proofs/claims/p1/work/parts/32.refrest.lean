set_option maxHeartbeats 4000000 in
set_option maxRecDepth 100000 in
theorem c_X5_levels (l : Launch) (dC : Nat → ClassId) (dI : Nat → Nat → Nat) (cI cJ : ClassId) (h aweight aown abetween acommunity afresh atold areached aplaced amoved agained adegrees : Nat) (sz : Nat) : Met l yX5_levels wsX5_levels ({ frames := 0, cells := 0, slots := 0, locals := 0 }) (va_Pc [.ref h] (pPre dC dI cI cJ sz [(h, .inr (5, [.int 1, .ref aweight, .ref aown, .int 0, .ref abetween, .ref acommunity, .ref afresh, .int 0, .ref atold, .ref areached, .ref aplaced, .int 0, .ref amoved, .ref agained, .int 0, .ref adegrees, .long 0]))])) (va_Qi (fun (r : Int32) (_ : Unit) => r = 0) (pPost dC dI (va_A [(h, .inr (5, [.int 1, .ref aweight, .ref aown, .int 0, .ref abetween, .ref acommunity, .ref afresh, .int 0, .ref atold, .ref areached, .ref aplaced, .int 0, .ref amoved, .ref agained, .int 0, .ref adegrees, .long 0]))] sz) []) (va_A [(h, .inr (5, [.int 1, .ref aweight, .ref aown, .int 0, .ref abetween, .ref acommunity, .ref afresh, .int 0, .ref atold, .ref areached, .ref aplaced, .int 0, .ref amoved, .ref agained, .int 0, .ref adegrees, .long 0]))] sz)) 0 0 (va_A [(h, .inr (5, [.int 1, .ref aweight, .ref aown, .int 0, .ref abetween, .ref acommunity, .ref afresh, .int 0, .ref atold, .ref areached, .ref aplaced, .int 0, .ref amoved, .ref agained, .int 0, .ref adegrees, .long 0]))] sz) := by
  refine Met.ofW (cc := cX5_levels) (maxL := 1) (ret := (some .int)) (by decide) rfl ?_
  intro p e s m args below meth c s₁ B hml hv
  obtain ⟨rfl, hsz, hP, hK, hD0⟩ := hv
  have hx := B.exec
  have hb := B.bytes
  have hr := B.returns
  have hts := atoms_spec (ws := wsX5_levels) B.pre
  have hown : s.vm.findClass RX5 = some m.cls := findClass_of_methodNamed B.named
  have hlocks := B.notSynchronized
  subst hsz
  have hD := hD0.self (sz := s.heap.size)
  generalize hAe : va_A [(h, .inr (5, [.int 1, .ref aweight, .ref aown, .int 0, .ref abetween, .ref acommunity, .ref afresh, .int 0, .ref atold, .ref areached, .ref aplaced, .int 0, .ref amoved, .ref agained, .int 0, .ref adegrees, .long 0]))] s.heap.size = A at hD ⊢
  have hA : ∀ q : Nat, s.heap.size ≤ q → A q := fun q h => by rw [← hAe]; exact Or.inr h
  have hS : va_S A s.heap s.heap [] := va_S.rf
  have hP : va_P (dC, dI) vwCl [(h, .inr (5, [.int 1, .ref aweight, .ref aown, .int 0, .ref abetween, .ref acommunity, .ref afresh, .int 0, .ref atold, .ref areached, .ref aplaced, .int 0, .ref amoved, .ref agained, .int 0, .ref adegrees, .long 0]))] s.heap := hP
  have hl := lv_entry ([.ref h]) (n := 1) (Nat.le_of_ble_eq_true rfl)
  rw [lg_entry_eq]
  generalize (lg_sl ([.ref h]) ++ List.replicate (1 - (lg_sl ([.ref h])).length) Slot.unset).toArray = ls at hl ⊢
  have hl : lv_has ls 1 [(0, .ref h)] := hl
  have i_5 : ∀ w ∈ wsX50, w ∈ wsX5_levels := by decide +kernel
  have k_0 := hts (.fieldLink RX5 48 "CommunityLevelsModel" "thrown" "I") (by decide +kernel)
  have k_1 := hts (.fieldLink RX5 51 "CommunityLevelsModel" "levels" "I") (by decide +kernel)
  refine lv_aload_n hx hb dX5_levels_0 rfl (lv_at hl 0 rfl) ?_
  refine lv_iconst (v := 0) hx hb dX5_levels_1 (by decide) ?_
  refine va_put (D := (dC, dI)) (ci := 5) (v := .int 0) (ty := .int) (C := RX5) (T := TX5) (N := 17) hx hb hts i_5 tyX5 tyX5_ok nmX5 hown hK hP hD hS 0 rfl rfl 14 (by decide) k_0 (fun _ h9 => h9) rfl (by decide +kernel) rfl rfl (Nat.le_of_ble_eq_true rfl) dX5_levels_2 (fun H locs hP hD hS => ?_)
  have hP : va_P (dC, dI) vwCl [(h, .inr (5, [.int 1, .ref aweight, .ref aown, .int 0, .ref abetween, .ref acommunity, .ref afresh, .int 0, .ref atold, .ref areached, .ref aplaced, .int 0, .ref amoved, .ref agained, .int 0, .ref adegrees, .long 0]))] H := hP
  have hD : va_D A [(h, .inr (5, [.int 1, .ref aweight, .ref aown, .int 0, .ref abetween, .ref acommunity, .ref afresh, .int 0, .ref atold, .ref areached, .ref aplaced, .int 0, .ref amoved, .ref agained, .int 0, .ref adegrees, .long 0]))] := hD
  refine lv_aload_n hx hb dX5_levels_5 rfl (lv_at hl 0 rfl) ?_
  refine va_get (D := (dC, dI)) (ci := 5) (v := .int 0) (C := RX5) (T := TX5) (N := 17) hx hb hts i_5 hown hK hP 0 rfl rfl 7 (by decide) k_1 (fun _ h9 => h9) rfl dX5_levels_6 ?_
  have hP9 := hP.sub (ws' := []) [] rfl
  have hD9 := hD.sub (ws' := []) [] (by decide) rfl
  exact W.iret (v := 0) hx hb hr (fun t ht hW => ⟨⟨_, (), rfl, rfl, by rw [ht]; exact hP9, hD9⟩, hS.F ht⟩) hS.2.2 dX5_levels_9
set_option maxHeartbeats 4000000 in
set_option maxRecDepth 100000 in
theorem c_X5_moves (l : Launch) (dC : Nat → ClassId) (dI : Nat → Nat → Nat) (cI cJ : ClassId) (h aweight aown abetween acommunity afresh atold areached aplaced amoved agained adegrees : Nat) (sz : Nat) : Met l yX5_moves wsX5_moves ({ frames := 0, cells := 0, slots := 0, locals := 0 }) (va_Pc [.ref h] (pPre dC dI cI cJ sz [(h, .inr (5, [.int 1, .ref aweight, .ref aown, .int 0, .ref abetween, .ref acommunity, .ref afresh, .int 0, .ref atold, .ref areached, .ref aplaced, .int 0, .ref amoved, .ref agained, .int 0, .ref adegrees, .long 0]))])) (va_Qi (fun (r : Int32) (_ : Unit) => r = 0) (pPost dC dI (va_A [(h, .inr (5, [.int 1, .ref aweight, .ref aown, .int 0, .ref abetween, .ref acommunity, .ref afresh, .int 0, .ref atold, .ref areached, .ref aplaced, .int 0, .ref amoved, .ref agained, .int 0, .ref adegrees, .long 0]))] sz) []) (va_A [(h, .inr (5, [.int 1, .ref aweight, .ref aown, .int 0, .ref abetween, .ref acommunity, .ref afresh, .int 0, .ref atold, .ref areached, .ref aplaced, .int 0, .ref amoved, .ref agained, .int 0, .ref adegrees, .long 0]))] sz)) 0 0 (va_A [(h, .inr (5, [.int 1, .ref aweight, .ref aown, .int 0, .ref abetween, .ref acommunity, .ref afresh, .int 0, .ref atold, .ref areached, .ref aplaced, .int 0, .ref amoved, .ref agained, .int 0, .ref adegrees, .long 0]))] sz) := by
  refine Met.ofW (cc := cX5_moves) (maxL := 1) (ret := (some .int)) (by decide) rfl ?_
  intro p e s m args below meth c s₁ B hml hv
  obtain ⟨rfl, hsz, hP, hK, hD0⟩ := hv
  have hx := B.exec
  have hb := B.bytes
  have hr := B.returns
  have hts := atoms_spec (ws := wsX5_moves) B.pre
  have hown : s.vm.findClass RX5 = some m.cls := findClass_of_methodNamed B.named
  have hlocks := B.notSynchronized
  subst hsz
  have hD := hD0.self (sz := s.heap.size)
  generalize hAe : va_A [(h, .inr (5, [.int 1, .ref aweight, .ref aown, .int 0, .ref abetween, .ref acommunity, .ref afresh, .int 0, .ref atold, .ref areached, .ref aplaced, .int 0, .ref amoved, .ref agained, .int 0, .ref adegrees, .long 0]))] s.heap.size = A at hD ⊢
  have hA : ∀ q : Nat, s.heap.size ≤ q → A q := fun q h => by rw [← hAe]; exact Or.inr h
  have hS : va_S A s.heap s.heap [] := va_S.rf
  have hP : va_P (dC, dI) vwCl [(h, .inr (5, [.int 1, .ref aweight, .ref aown, .int 0, .ref abetween, .ref acommunity, .ref afresh, .int 0, .ref atold, .ref areached, .ref aplaced, .int 0, .ref amoved, .ref agained, .int 0, .ref adegrees, .long 0]))] s.heap := hP
  have hl := lv_entry ([.ref h]) (n := 1) (Nat.le_of_ble_eq_true rfl)
  rw [lg_entry_eq]
  generalize (lg_sl ([.ref h]) ++ List.replicate (1 - (lg_sl ([.ref h])).length) Slot.unset).toArray = ls at hl ⊢
  have hl : lv_has ls 1 [(0, .ref h)] := hl
  have i_5 : ∀ w ∈ wsX50, w ∈ wsX5_moves := by decide +kernel
  have k_0 := hts (.fieldLink RX5 48 "CommunityLevelsModel" "thrown" "I") (by decide +kernel)
  have k_1 := hts (.fieldLink RX5 54 "CommunityLevelsModel" "moves" "I") (by decide +kernel)
  refine lv_aload_n hx hb dX5_moves_0 rfl (lv_at hl 0 rfl) ?_
  refine lv_iconst (v := 0) hx hb dX5_moves_1 (by decide) ?_
  refine va_put (D := (dC, dI)) (ci := 5) (v := .int 0) (ty := .int) (C := RX5) (T := TX5) (N := 17) hx hb hts i_5 tyX5 tyX5_ok nmX5 hown hK hP hD hS 0 rfl rfl 14 (by decide) k_0 (fun _ h9 => h9) rfl (by decide +kernel) rfl rfl (Nat.le_of_ble_eq_true rfl) dX5_moves_2 (fun H locs hP hD hS => ?_)
  have hP : va_P (dC, dI) vwCl [(h, .inr (5, [.int 1, .ref aweight, .ref aown, .int 0, .ref abetween, .ref acommunity, .ref afresh, .int 0, .ref atold, .ref areached, .ref aplaced, .int 0, .ref amoved, .ref agained, .int 0, .ref adegrees, .long 0]))] H := hP
  have hD : va_D A [(h, .inr (5, [.int 1, .ref aweight, .ref aown, .int 0, .ref abetween, .ref acommunity, .ref afresh, .int 0, .ref atold, .ref areached, .ref aplaced, .int 0, .ref amoved, .ref agained, .int 0, .ref adegrees, .long 0]))] := hD
  refine lv_aload_n hx hb dX5_moves_5 rfl (lv_at hl 0 rfl) ?_
  refine va_get (D := (dC, dI)) (ci := 5) (v := .int 0) (C := RX5) (T := TX5) (N := 17) hx hb hts i_5 hown hK hP 0 rfl rfl 11 (by decide) k_1 (fun _ h9 => h9) rfl dX5_moves_6 ?_
  have hP9 := hP.sub (ws' := []) [] rfl
  have hD9 := hD.sub (ws' := []) [] (by decide) rfl
  exact W.iret (v := 0) hx hb hr (fun t ht hW => ⟨⟨_, (), rfl, rfl, by rw [ht]; exact hP9, hD9⟩, hS.F ht⟩) hS.2.2 dX5_moves_9
set_option maxHeartbeats 4000000 in
set_option maxRecDepth 100000 in
theorem c_X5_level (l : Launch) (dC : Nat → ClassId) (dI : Nat → Nat → Nat) (cI cJ : ClassId) (h aweight aown abetween acommunity afresh atold areached aplaced amoved agained adegrees : Nat) (sz : Nat) (n : Int32) (n1 : Int32) : Met l yX5_level wsX5_level ({ frames := 1, cells := 0, slots := 0, locals := 21 }) (va_Pc [.ref h, .int n, .int n1] (pPre dC dI cI cJ sz [(h, .inr (5, [.int 1, .ref aweight, .ref aown, .int 0, .ref abetween, .ref acommunity, .ref afresh, .int 0, .ref atold, .ref areached, .ref aplaced, .int 0, .ref amoved, .ref agained, .int 0, .ref adegrees, .long 0]))])) (va_Qi (fun (r : Int32) (_ : Unit) => r = 0) (pPost dC dI (va_A [(h, .inr (5, [.int 1, .ref aweight, .ref aown, .int 0, .ref abetween, .ref acommunity, .ref afresh, .int 0, .ref atold, .ref areached, .ref aplaced, .int 0, .ref amoved, .ref agained, .int 0, .ref adegrees, .long 0]))] sz) [(h, .inr (5, [.int 1, .ref aweight, .ref aown, .int 0, .ref abetween, .ref acommunity, .ref afresh, .int 0, .ref atold, .ref areached, .ref aplaced, .int 0, .ref amoved, .ref agained, .int 1, .ref adegrees, .long 0]))]) (va_A [(h, .inr (5, [.int 1, .ref aweight, .ref aown, .int 0, .ref abetween, .ref acommunity, .ref afresh, .int 0, .ref atold, .ref areached, .ref aplaced, .int 0, .ref amoved, .ref agained, .int 0, .ref adegrees, .long 0]))] sz)) 0 0 (va_A [(h, .inr (5, [.int 1, .ref aweight, .ref aown, .int 0, .ref abetween, .ref acommunity, .ref afresh, .int 0, .ref atold, .ref areached, .ref aplaced, .int 0, .ref amoved, .ref agained, .int 0, .ref adegrees, .long 0]))] sz) := by
  refine Met.ofW (cc := cX5_level) (maxL := 3) (ret := (some .int)) (by decide) rfl ?_
  intro p e s m args below meth c s₁ B hml hv
  obtain ⟨rfl, hsz, hP, hK, hD0⟩ := hv
  have hx := B.exec
  have hb := B.bytes
  have hr := B.returns
  have hts := atoms_spec (ws := wsX5_level) B.pre
  have hown : s.vm.findClass RX5 = some m.cls := findClass_of_methodNamed B.named
  have hlocks := B.notSynchronized
  subst hsz
  have hD := hD0.self (sz := s.heap.size)
  generalize hAe : va_A [(h, .inr (5, [.int 1, .ref aweight, .ref aown, .int 0, .ref abetween, .ref acommunity, .ref afresh, .int 0, .ref atold, .ref areached, .ref aplaced, .int 0, .ref amoved, .ref agained, .int 0, .ref adegrees, .long 0]))] s.heap.size = A at hD ⊢
  have hA : ∀ q : Nat, s.heap.size ≤ q → A q := fun q h => by rw [← hAe]; exact Or.inr h
  have hS : va_S A s.heap s.heap [] := va_S.rf
  have hP : va_P (dC, dI) vwCl [(h, .inr (5, [.int 1, .ref aweight, .ref aown, .int 0, .ref abetween, .ref acommunity, .ref afresh, .int 0, .ref atold, .ref areached, .ref aplaced, .int 0, .ref amoved, .ref agained, .int 0, .ref adegrees, .long 0]))] s.heap := hP
  have hl := lv_entry ([.ref h, .int n, .int n1]) (n := 3) (Nat.le_of_ble_eq_true rfl)
  rw [lg_entry_eq]
  generalize (lg_sl ([.ref h, .int n, .int n1]) ++ List.replicate (3 - (lg_sl ([.ref h, .int n, .int n1])).length) Slot.unset).toArray = ls at hl ⊢
  have hl : lv_has ls 3 [(0, .ref h), (1, .int n), (2, .int n1)] := hl
  have i_5 : ∀ w ∈ wsX50, w ∈ wsX5_level := by decide +kernel
  have k_0 := hts (.fieldLink RX5 48 "CommunityLevelsModel" "thrown" "I") (by decide +kernel)
  refine lv_aload_n hx hb dX5_level_0 rfl (lv_at hl 0 rfl) ?_
  refine lv_aload_n hx hb dX5_level_1 rfl (lv_at hl 0 rfl) ?_
  refine lv_iload_n hx hb dX5_level_2 rfl (lv_at hl 1 rfl) ?_
  have hPc := hP.sub (ws' := [(h, .inr (5, [.int 1, .ref aweight, .ref aown, .int 0, .ref abetween, .ref acommunity, .ref afresh, .int 0, .ref atold, .ref areached, .ref aplaced, .int 0, .ref amoved, .ref agained, .int 0, .ref adegrees, .long 0]))]) [0] rfl
  have hDc := hD.sub (ws' := [(h, .inr (5, [.int 1, .ref aweight, .ref aown, .int 0, .ref abetween, .ref acommunity, .ref afresh, .int 0, .ref atold, .ref areached, .ref aplaced, .int 0, .ref amoved, .ref agained, .int 0, .ref adegrees, .long 0]))]) [0] (by decide) rfl
  have hFc := va_free (wc := [(h, .inr (5, [.int 1, .ref aweight, .ref aown, .int 0, .ref abetween, .ref acommunity, .ref afresh, .int 0, .ref atold, .ref areached, .ref aplaced, .int 0, .ref amoved, .ref agained, .int 0, .ref adegrees, .long 0]))]) hD hS hA [0] rfl
  refine va_calli (va_runV (As := [.int n]) (rest := [.ref h]) ⟨hx, hb, hml, hown, hts⟩ (c_X5_noLevel l dC dI cI cJ h aweight aown abetween acommunity afresh atold areached aplaced amoved agained adegrees s.heap.size n) (cwV 1 hts gX5_level_X5_noLevel rfl rfl rfl (by decide +kernel) ⟨Nat.le_of_ble_eq_true rfl, Nat.le_of_ble_eq_true rfl⟩) ⟨fun a U g mk q => by obtain ⟨q0, q1, qP, qK, qD⟩ := q; exact ⟨q0, q1, qP, va_K.moved (u := U) (U := U.calling g mk a) (Vm.Alike.refl U.vm) qK, qD⟩, va_recv hK hPc (ci := 5) (q0 := 0) rfl rfl, fun U hU hW => ⟨rfl, by rw [hU], by rw [hU]; exact hPc, va_K.moved hW.alike hK, hDc.weaken (fun _ _ _ _ => trivial)⟩⟩ rfl rfl hl.1 rfl (lv_room (Nat.le_of_ble_eq_true rfl)) dX5_level_3 ⟨Nat.le_of_ble_eq_true rfl, Nat.le_of_ble_eq_true rfl⟩) hS (fun q _ h => hFc q h) hFc (fun r_1 u_2 t H1 locs ht hvm hw hB hz1 hk1 hS => ?_)
  obtain ⟨hP1, hD1⟩ := hB
  rw [ht] at hP1
  obtain ⟨hP, hD⟩ := va_join (wr := []) (w1 := [(h, .inr (5, [.int 1, .ref aweight, .ref aown, .int 0, .ref abetween, .ref acommunity, .ref afresh, .int 0, .ref atold, .ref areached, .ref aplaced, .int 0, .ref amoved, .ref agained, .int 0, .ref adegrees, .long 0]))]) hP hD [0] [] rfl rfl (by decide) (by decide) hk1 hFc hP1 hD1
  generalize H1 = H at hP hS ⊢
  have hP : va_P (dC, dI) vwCl [(h, .inr (5, [.int 1, .ref aweight, .ref aown, .int 0, .ref abetween, .ref acommunity, .ref afresh, .int 0, .ref atold, .ref areached, .ref aplaced, .int 0, .ref amoved, .ref agained, .int 0, .ref adegrees, .long 0]))] H := hP
  have hD : va_D A [(h, .inr (5, [.int 1, .ref aweight, .ref aown, .int 0, .ref abetween, .ref acommunity, .ref afresh, .int 0, .ref atold, .ref areached, .ref aplaced, .int 0, .ref amoved, .ref agained, .int 0, .ref adegrees, .long 0]))] := hD
  obtain rfl : r_1 = 1 := hw
  refine lv_if_ne (tgt := 18) hx hb dX5_level_6 (by decide) (fun c_3 => ?_) (fun c_3 => ?_)
  rotate_left
  · exact absurd c_3 (by decide)
  refine lv_iconst (v := 1) hx hb dX5_level_18 (by decide) ?_
  refine lv_goto (tgt := 23) hx hb dX5_level_19 (by decide) ?_
  refine va_put (D := (dC, dI)) (ci := 5) (v := .int 1) (ty := .int) (C := RX5) (T := TX5) (N := 17) hx hb hts i_5 tyX5 tyX5_ok nmX5 hown hK hP hD hS 0 rfl rfl 14 (by decide) k_0 (fun _ h9 => h9) rfl (by decide +kernel) rfl rfl (Nat.le_of_ble_eq_true rfl) dX5_level_23 (fun H locs hP hD hS => ?_)
  have hP : va_P (dC, dI) vwCl [(h, .inr (5, [.int 1, .ref aweight, .ref aown, .int 0, .ref abetween, .ref acommunity, .ref afresh, .int 0, .ref atold, .ref areached, .ref aplaced, .int 0, .ref amoved, .ref agained, .int 1, .ref adegrees, .long 0]))] H := hP
  have hD : va_D A [(h, .inr (5, [.int 1, .ref aweight, .ref aown, .int 0, .ref abetween, .ref acommunity, .ref afresh, .int 0, .ref atold, .ref areached, .ref aplaced, .int 0, .ref amoved, .ref agained, .int 1, .ref adegrees, .long 0]))] := hD
  refine lv_aload_n hx hb dX5_level_26 rfl (lv_at hl 0 rfl) ?_
  refine va_get (D := (dC, dI)) (ci := 5) (v := .int 1) (C := RX5) (T := TX5) (N := 17) hx hb hts i_5 hown hK hP 0 rfl rfl 14 (by decide) k_0 (fun _ h9 => h9) rfl dX5_level_27 ?_
  refine lv_if_le (tgt := 37) hx hb dX5_level_30 (by decide) (fun c_4 => ?_) (fun c_4 => ?_)
  · exact absurd c_4 (by decide)
  refine lv_iconst (v := 0) hx hb dX5_level_33 (by decide) ?_
  refine lv_goto (tgt := 47) hx hb dX5_level_34 (by decide) ?_
  have hP9 := hP.sub (ws' := [(h, .inr (5, [.int 1, .ref aweight, .ref aown, .int 0, .ref abetween, .ref acommunity, .ref afresh, .int 0, .ref atold, .ref areached, .ref aplaced, .int 0, .ref amoved, .ref agained, .int 1, .ref adegrees, .long 0]))]) [0] rfl
  have hD9 := hD.sub (ws' := [(h, .inr (5, [.int 1, .ref aweight, .ref aown, .int 0, .ref abetween, .ref acommunity, .ref afresh, .int 0, .ref atold, .ref areached, .ref aplaced, .int 0, .ref amoved, .ref agained, .int 1, .ref adegrees, .long 0]))]) [0] (by decide) rfl
  exact W.iret (v := 0) hx hb hr (fun t ht hW => ⟨⟨_, (), rfl, rfl, by rw [ht]; exact hP9, hD9⟩, hS.F ht⟩) hS.2.2 dX5_level_47
set_option maxHeartbeats 4000000 in
set_option maxRecDepth 100000 in
theorem c_X5_community (l : Launch) (dC : Nat → ClassId) (dI : Nat → Nat → Nat) (cI cJ : ClassId) (h aweight aown abetween acommunity afresh atold areached aplaced amoved agained adegrees : Nat) (sz : Nat) (n : Int32) (n1 : Int32) : Met l yX5_community wsX5_community ({ frames := 1, cells := 0, slots := 0, locals := 21 }) (va_Pc [.ref h, .int n, .int n1] (pPre dC dI cI cJ sz [(h, .inr (5, [.int 1, .ref aweight, .ref aown, .int 0, .ref abetween, .ref acommunity, .ref afresh, .int 0, .ref atold, .ref areached, .ref aplaced, .int 0, .ref amoved, .ref agained, .int 0, .ref adegrees, .long 0]))])) (va_Qi (fun (r : Int32) (_ : Unit) => r = 0) (pPost dC dI (va_A [(h, .inr (5, [.int 1, .ref aweight, .ref aown, .int 0, .ref abetween, .ref acommunity, .ref afresh, .int 0, .ref atold, .ref areached, .ref aplaced, .int 0, .ref amoved, .ref agained, .int 0, .ref adegrees, .long 0]))] sz) [(h, .inr (5, [.int 1, .ref aweight, .ref aown, .int 0, .ref abetween, .ref acommunity, .ref afresh, .int 0, .ref atold, .ref areached, .ref aplaced, .int 0, .ref amoved, .ref agained, .int 1, .ref adegrees, .long 0]))]) (va_A [(h, .inr (5, [.int 1, .ref aweight, .ref aown, .int 0, .ref abetween, .ref acommunity, .ref afresh, .int 0, .ref atold, .ref areached, .ref aplaced, .int 0, .ref amoved, .ref agained, .int 0, .ref adegrees, .long 0]))] sz)) 0 0 (va_A [(h, .inr (5, [.int 1, .ref aweight, .ref aown, .int 0, .ref abetween, .ref acommunity, .ref afresh, .int 0, .ref atold, .ref areached, .ref aplaced, .int 0, .ref amoved, .ref agained, .int 0, .ref adegrees, .long 0]))] sz) := by
  refine Met.ofW (cc := cX5_community) (maxL := 3) (ret := (some .int)) (by decide) rfl ?_
  intro p e s m args below meth c s₁ B hml hv
  obtain ⟨rfl, hsz, hP, hK, hD0⟩ := hv
  have hx := B.exec
  have hb := B.bytes
  have hr := B.returns
  have hts := atoms_spec (ws := wsX5_community) B.pre
  have hown : s.vm.findClass RX5 = some m.cls := findClass_of_methodNamed B.named
  have hlocks := B.notSynchronized
  subst hsz
  have hD := hD0.self (sz := s.heap.size)
  generalize hAe : va_A [(h, .inr (5, [.int 1, .ref aweight, .ref aown, .int 0, .ref abetween, .ref acommunity, .ref afresh, .int 0, .ref atold, .ref areached, .ref aplaced, .int 0, .ref amoved, .ref agained, .int 0, .ref adegrees, .long 0]))] s.heap.size = A at hD ⊢
  have hA : ∀ q : Nat, s.heap.size ≤ q → A q := fun q h => by rw [← hAe]; exact Or.inr h
  have hS : va_S A s.heap s.heap [] := va_S.rf
  have hP : va_P (dC, dI) vwCl [(h, .inr (5, [.int 1, .ref aweight, .ref aown, .int 0, .ref abetween, .ref acommunity, .ref afresh, .int 0, .ref atold, .ref areached, .ref aplaced, .int 0, .ref amoved, .ref agained, .int 0, .ref adegrees, .long 0]))] s.heap := hP
  have hl := lv_entry ([.ref h, .int n, .int n1]) (n := 3) (Nat.le_of_ble_eq_true rfl)
  rw [lg_entry_eq]
  generalize (lg_sl ([.ref h, .int n, .int n1]) ++ List.replicate (3 - (lg_sl ([.ref h, .int n, .int n1])).length) Slot.unset).toArray = ls at hl ⊢
  have hl : lv_has ls 3 [(0, .ref h), (1, .int n), (2, .int n1)] := hl
  have i_5 : ∀ w ∈ wsX50, w ∈ wsX5_community := by decide +kernel
  have k_0 := hts (.fieldLink RX5 48 "CommunityLevelsModel" "thrown" "I") (by decide +kernel)
  refine lv_aload_n hx hb dX5_community_0 rfl (lv_at hl 0 rfl) ?_
  refine lv_aload_n hx hb dX5_community_1 rfl (lv_at hl 0 rfl) ?_
  refine lv_iload_n hx hb dX5_community_2 rfl (lv_at hl 1 rfl) ?_
  have hPc := hP.sub (ws' := [(h, .inr (5, [.int 1, .ref aweight, .ref aown, .int 0, .ref abetween, .ref acommunity, .ref afresh, .int 0, .ref atold, .ref areached, .ref aplaced, .int 0, .ref amoved, .ref agained, .int 0, .ref adegrees, .long 0]))]) [0] rfl
  have hDc := hD.sub (ws' := [(h, .inr (5, [.int 1, .ref aweight, .ref aown, .int 0, .ref abetween, .ref acommunity, .ref afresh, .int 0, .ref atold, .ref areached, .ref aplaced, .int 0, .ref amoved, .ref agained, .int 0, .ref adegrees, .long 0]))]) [0] (by decide) rfl
  have hFc := va_free (wc := [(h, .inr (5, [.int 1, .ref aweight, .ref aown, .int 0, .ref abetween, .ref acommunity, .ref afresh, .int 0, .ref atold, .ref areached, .ref aplaced, .int 0, .ref amoved, .ref agained, .int 0, .ref adegrees, .long 0]))]) hD hS hA [0] rfl
  refine va_calli (va_runV (As := [.int n]) (rest := [.ref h]) ⟨hx, hb, hml, hown, hts⟩ (c_X5_noLevel l dC dI cI cJ h aweight aown abetween acommunity afresh atold areached aplaced amoved agained adegrees s.heap.size n) (cwV 1 hts gX5_community_X5_noLevel rfl rfl rfl (by decide +kernel) ⟨Nat.le_of_ble_eq_true rfl, Nat.le_of_ble_eq_true rfl⟩) ⟨fun a U g mk q => by obtain ⟨q0, q1, qP, qK, qD⟩ := q; exact ⟨q0, q1, qP, va_K.moved (u := U) (U := U.calling g mk a) (Vm.Alike.refl U.vm) qK, qD⟩, va_recv hK hPc (ci := 5) (q0 := 0) rfl rfl, fun U hU hW => ⟨rfl, by rw [hU], by rw [hU]; exact hPc, va_K.moved hW.alike hK, hDc.weaken (fun _ _ _ _ => trivial)⟩⟩ rfl rfl hl.1 rfl (lv_room (Nat.le_of_ble_eq_true rfl)) dX5_community_3 ⟨Nat.le_of_ble_eq_true rfl, Nat.le_of_ble_eq_true rfl⟩) hS (fun q _ h => hFc q h) hFc (fun r_1 u_2 t H1 locs ht hvm hw hB hz1 hk1 hS => ?_)
  obtain ⟨hP1, hD1⟩ := hB
  rw [ht] at hP1
  obtain ⟨hP, hD⟩ := va_join (wr := []) (w1 := [(h, .inr (5, [.int 1, .ref aweight, .ref aown, .int 0, .ref abetween, .ref acommunity, .ref afresh, .int 0, .ref atold, .ref areached, .ref aplaced, .int 0, .ref amoved, .ref agained, .int 0, .ref adegrees, .long 0]))]) hP hD [0] [] rfl rfl (by decide) (by decide) hk1 hFc hP1 hD1
  generalize H1 = H at hP hS ⊢
  have hP : va_P (dC, dI) vwCl [(h, .inr (5, [.int 1, .ref aweight, .ref aown, .int 0, .ref abetween, .ref acommunity, .ref afresh, .int 0, .ref atold, .ref areached, .ref aplaced, .int 0, .ref amoved, .ref agained, .int 0, .ref adegrees, .long 0]))] H := hP
  have hD : va_D A [(h, .inr (5, [.int 1, .ref aweight, .ref aown, .int 0, .ref abetween, .ref acommunity, .ref afresh, .int 0, .ref atold, .ref areached, .ref aplaced, .int 0, .ref amoved, .ref agained, .int 0, .ref adegrees, .long 0]))] := hD
  obtain rfl : r_1 = 1 := hw
  refine lv_if_ne (tgt := 17) hx hb dX5_community_6 (by decide) (fun c_3 => ?_) (fun c_3 => ?_)
  rotate_left
  · exact absurd c_3 (by decide)
  refine lv_iconst (v := 1) hx hb dX5_community_17 (by decide) ?_
  refine lv_goto (tgt := 22) hx hb dX5_community_18 (by decide) ?_
  refine va_put (D := (dC, dI)) (ci := 5) (v := .int 1) (ty := .int) (C := RX5) (T := TX5) (N := 17) hx hb hts i_5 tyX5 tyX5_ok nmX5 hown hK hP hD hS 0 rfl rfl 14 (by decide) k_0 (fun _ h9 => h9) rfl (by decide +kernel) rfl rfl (Nat.le_of_ble_eq_true rfl) dX5_community_22 (fun H locs hP hD hS => ?_)
  have hP : va_P (dC, dI) vwCl [(h, .inr (5, [.int 1, .ref aweight, .ref aown, .int 0, .ref abetween, .ref acommunity, .ref afresh, .int 0, .ref atold, .ref areached, .ref aplaced, .int 0, .ref amoved, .ref agained, .int 1, .ref adegrees, .long 0]))] H := hP
  have hD : va_D A [(h, .inr (5, [.int 1, .ref aweight, .ref aown, .int 0, .ref abetween, .ref acommunity, .ref afresh, .int 0, .ref atold, .ref areached, .ref aplaced, .int 0, .ref amoved, .ref agained, .int 1, .ref adegrees, .long 0]))] := hD
  refine lv_aload_n hx hb dX5_community_25 rfl (lv_at hl 0 rfl) ?_
  refine va_get (D := (dC, dI)) (ci := 5) (v := .int 1) (C := RX5) (T := TX5) (N := 17) hx hb hts i_5 hown hK hP 0 rfl rfl 14 (by decide) k_0 (fun _ h9 => h9) rfl dX5_community_26 ?_
  refine lv_if_le (tgt := 36) hx hb dX5_community_29 (by decide) (fun c_4 => ?_) (fun c_4 => ?_)
  · exact absurd c_4 (by decide)
  refine lv_iconst (v := 0) hx hb dX5_community_32 (by decide) ?_
  refine lv_goto (tgt := 47) hx hb dX5_community_33 (by decide) ?_
  have hP9 := hP.sub (ws' := [(h, .inr (5, [.int 1, .ref aweight, .ref aown, .int 0, .ref abetween, .ref acommunity, .ref afresh, .int 0, .ref atold, .ref areached, .ref aplaced, .int 0, .ref amoved, .ref agained, .int 1, .ref adegrees, .long 0]))]) [0] rfl
  have hD9 := hD.sub (ws' := [(h, .inr (5, [.int 1, .ref aweight, .ref aown, .int 0, .ref abetween, .ref acommunity, .ref afresh, .int 0, .ref atold, .ref areached, .ref aplaced, .int 0, .ref amoved, .ref agained, .int 1, .ref adegrees, .long 0]))]) [0] (by decide) rfl
  exact W.iret (v := 0) hx hb hr (fun t ht hW => ⟨⟨_, (), rfl, rfl, by rw [ht]; exact hP9, hD9⟩, hS.F ht⟩) hS.2.2 dX5_community_47
set_option maxHeartbeats 4000000 in
set_option maxRecDepth 100000 in
theorem c_X5_modularity (l : Launch) (dC : Nat → ClassId) (dI : Nat → Nat → Nat) (cI cJ : ClassId) (h aweight aown abetween acommunity afresh atold areached aplaced amoved agained adegrees : Nat) (sz : Nat) (n : Int32) : Met l yX5_modularity wsX5_modularity ({ frames := 1, cells := 0, slots := 0, locals := 21 }) (va_Pc [.ref h, .int n] (pPre dC dI cI cJ sz [(h, .inr (5, [.int 1, .ref aweight, .ref aown, .int 0, .ref abetween, .ref acommunity, .ref afresh, .int 0, .ref atold, .ref areached, .ref aplaced, .int 0, .ref amoved, .ref agained, .int 0, .ref adegrees, .long 0]))])) (va_Ql (fun (r : Int64) (_ : Unit) => r = 0) (pPost dC dI (va_A [(h, .inr (5, [.int 1, .ref aweight, .ref aown, .int 0, .ref abetween, .ref acommunity, .ref afresh, .int 0, .ref atold, .ref areached, .ref aplaced, .int 0, .ref amoved, .ref agained, .int 0, .ref adegrees, .long 0]))] sz) [(h, .inr (5, [.int 1, .ref aweight, .ref aown, .int 0, .ref abetween, .ref acommunity, .ref afresh, .int 0, .ref atold, .ref areached, .ref aplaced, .int 0, .ref amoved, .ref agained, .int 1, .ref adegrees, .long 0]))]) (va_A [(h, .inr (5, [.int 1, .ref aweight, .ref aown, .int 0, .ref abetween, .ref acommunity, .ref afresh, .int 0, .ref atold, .ref areached, .ref aplaced, .int 0, .ref amoved, .ref agained, .int 0, .ref adegrees, .long 0]))] sz)) 0 0 (va_A [(h, .inr (5, [.int 1, .ref aweight, .ref aown, .int 0, .ref abetween, .ref acommunity, .ref afresh, .int 0, .ref atold, .ref areached, .ref aplaced, .int 0, .ref amoved, .ref agained, .int 0, .ref adegrees, .long 0]))] sz) := by
  refine Met.ofW (cc := cX5_modularity) (maxL := 2) (ret := (some .long)) (by decide) rfl ?_
  intro p e s m args below meth c s₁ B hml hv
  obtain ⟨rfl, hsz, hP, hK, hD0⟩ := hv
  have hx := B.exec
  have hb := B.bytes
  have hr := B.returns
  have hts := atoms_spec (ws := wsX5_modularity) B.pre
  have hown : s.vm.findClass RX5 = some m.cls := findClass_of_methodNamed B.named
  have hlocks := B.notSynchronized
  subst hsz
  have hD := hD0.self (sz := s.heap.size)
  generalize hAe : va_A [(h, .inr (5, [.int 1, .ref aweight, .ref aown, .int 0, .ref abetween, .ref acommunity, .ref afresh, .int 0, .ref atold, .ref areached, .ref aplaced, .int 0, .ref amoved, .ref agained, .int 0, .ref adegrees, .long 0]))] s.heap.size = A at hD ⊢
  have hA : ∀ q : Nat, s.heap.size ≤ q → A q := fun q h => by rw [← hAe]; exact Or.inr h
  have hS : va_S A s.heap s.heap [] := va_S.rf
  have hP : va_P (dC, dI) vwCl [(h, .inr (5, [.int 1, .ref aweight, .ref aown, .int 0, .ref abetween, .ref acommunity, .ref afresh, .int 0, .ref atold, .ref areached, .ref aplaced, .int 0, .ref amoved, .ref agained, .int 0, .ref adegrees, .long 0]))] s.heap := hP
  have hl := lv_entry ([.ref h, .int n]) (n := 2) (Nat.le_of_ble_eq_true rfl)
  rw [lg_entry_eq]
  generalize (lg_sl ([.ref h, .int n]) ++ List.replicate (2 - (lg_sl ([.ref h, .int n])).length) Slot.unset).toArray = ls at hl ⊢
  have hl : lv_has ls 2 [(0, .ref h), (1, .int n)] := hl
  have i_5 : ∀ w ∈ wsX50, w ∈ wsX5_modularity := by decide +kernel
  have k_0 := hts (.fieldLink RX5 48 "CommunityLevelsModel" "thrown" "I") (by decide +kernel)
  refine lv_aload_n hx hb dX5_modularity_0 rfl (lv_at hl 0 rfl) ?_
  refine lv_aload_n hx hb dX5_modularity_1 rfl (lv_at hl 0 rfl) ?_
  refine lv_iload_n hx hb dX5_modularity_2 rfl (lv_at hl 1 rfl) ?_
  have hPc := hP.sub (ws' := [(h, .inr (5, [.int 1, .ref aweight, .ref aown, .int 0, .ref abetween, .ref acommunity, .ref afresh, .int 0, .ref atold, .ref areached, .ref aplaced, .int 0, .ref amoved, .ref agained, .int 0, .ref adegrees, .long 0]))]) [0] rfl
  have hDc := hD.sub (ws' := [(h, .inr (5, [.int 1, .ref aweight, .ref aown, .int 0, .ref abetween, .ref acommunity, .ref afresh, .int 0, .ref atold, .ref areached, .ref aplaced, .int 0, .ref amoved, .ref agained, .int 0, .ref adegrees, .long 0]))]) [0] (by decide) rfl
  have hFc := va_free (wc := [(h, .inr (5, [.int 1, .ref aweight, .ref aown, .int 0, .ref abetween, .ref acommunity, .ref afresh, .int 0, .ref atold, .ref areached, .ref aplaced, .int 0, .ref amoved, .ref agained, .int 0, .ref adegrees, .long 0]))]) hD hS hA [0] rfl
  refine va_calli (va_runV (As := [.int n]) (rest := [.ref h]) ⟨hx, hb, hml, hown, hts⟩ (c_X5_noLevel l dC dI cI cJ h aweight aown abetween acommunity afresh atold areached aplaced amoved agained adegrees s.heap.size n) (cwV 1 hts gX5_modularity_X5_noLevel rfl rfl rfl (by decide +kernel) ⟨Nat.le_of_ble_eq_true rfl, Nat.le_of_ble_eq_true rfl⟩) ⟨fun a U g mk q => by obtain ⟨q0, q1, qP, qK, qD⟩ := q; exact ⟨q0, q1, qP, va_K.moved (u := U) (U := U.calling g mk a) (Vm.Alike.refl U.vm) qK, qD⟩, va_recv hK hPc (ci := 5) (q0 := 0) rfl rfl, fun U hU hW => ⟨rfl, by rw [hU], by rw [hU]; exact hPc, va_K.moved hW.alike hK, hDc.weaken (fun _ _ _ _ => trivial)⟩⟩ rfl rfl hl.1 rfl (lv_room (Nat.le_of_ble_eq_true rfl)) dX5_modularity_3 ⟨Nat.le_of_ble_eq_true rfl, Nat.le_of_ble_eq_true rfl⟩) hS (fun q _ h => hFc q h) hFc (fun r_1 u_2 t H1 locs ht hvm hw hB hz1 hk1 hS => ?_)
  obtain ⟨hP1, hD1⟩ := hB
  rw [ht] at hP1
  obtain ⟨hP, hD⟩ := va_join (wr := []) (w1 := [(h, .inr (5, [.int 1, .ref aweight, .ref aown, .int 0, .ref abetween, .ref acommunity, .ref afresh, .int 0, .ref atold, .ref areached, .ref aplaced, .int 0, .ref amoved, .ref agained, .int 0, .ref adegrees, .long 0]))]) hP hD [0] [] rfl rfl (by decide) (by decide) hk1 hFc hP1 hD1
  generalize H1 = H at hP hS ⊢
  have hP : va_P (dC, dI) vwCl [(h, .inr (5, [.int 1, .ref aweight, .ref aown, .int 0, .ref abetween, .ref acommunity, .ref afresh, .int 0, .ref atold, .ref areached, .ref aplaced, .int 0, .ref amoved, .ref agained, .int 0, .ref adegrees, .long 0]))] H := hP
  have hD : va_D A [(h, .inr (5, [.int 1, .ref aweight, .ref aown, .int 0, .ref abetween, .ref acommunity, .ref afresh, .int 0, .ref atold, .ref areached, .ref aplaced, .int 0, .ref amoved, .ref agained, .int 0, .ref adegrees, .long 0]))] := hD
  obtain rfl : r_1 = 1 := hw
  refine lv_if_eq (tgt := 13) hx hb dX5_modularity_6 (by decide) (fun c_3 => ?_) (fun c_3 => ?_)
  · exact absurd c_3 (by decide)
  refine lv_iconst (v := 1) hx hb dX5_modularity_9 (by decide) ?_
  refine lv_goto (tgt := 14) hx hb dX5_modularity_10 (by decide) ?_
  refine va_put (D := (dC, dI)) (ci := 5) (v := .int 1) (ty := .int) (C := RX5) (T := TX5) (N := 17) hx hb hts i_5 tyX5 tyX5_ok nmX5 hown hK hP hD hS 0 rfl rfl 14 (by decide) k_0 (fun _ h9 => h9) rfl (by decide +kernel) rfl rfl (Nat.le_of_ble_eq_true rfl) dX5_modularity_14 (fun H locs hP hD hS => ?_)
  have hP : va_P (dC, dI) vwCl [(h, .inr (5, [.int 1, .ref aweight, .ref aown, .int 0, .ref abetween, .ref acommunity, .ref afresh, .int 0, .ref atold, .ref areached, .ref aplaced, .int 0, .ref amoved, .ref agained, .int 1, .ref adegrees, .long 0]))] H := hP
  have hD : va_D A [(h, .inr (5, [.int 1, .ref aweight, .ref aown, .int 0, .ref abetween, .ref acommunity, .ref afresh, .int 0, .ref atold, .ref areached, .ref aplaced, .int 0, .ref amoved, .ref agained, .int 1, .ref adegrees, .long 0]))] := hD
  refine lv_aload_n hx hb dX5_modularity_17 rfl (lv_at hl 0 rfl) ?_
  refine va_get (D := (dC, dI)) (ci := 5) (v := .int 1) (C := RX5) (T := TX5) (N := 17) hx hb hts i_5 hown hK hP 0 rfl rfl 14 (by decide) k_0 (fun _ h9 => h9) rfl dX5_modularity_18 ?_
  refine lv_if_le (tgt := 28) hx hb dX5_modularity_21 (by decide) (fun c_4 => ?_) (fun c_4 => ?_)
  · exact absurd c_4 (by decide)
  refine lv_lconst (v := 0) hx hb dX5_modularity_24 (by decide) ?_
  refine lv_goto (tgt := 34) hx hb dX5_modularity_25 (by decide) ?_
  have hP9 := hP.sub (ws' := [(h, .inr (5, [.int 1, .ref aweight, .ref aown, .int 0, .ref abetween, .ref acommunity, .ref afresh, .int 0, .ref atold, .ref areached, .ref aplaced, .int 0, .ref amoved, .ref agained, .int 1, .ref adegrees, .long 0]))]) [0] rfl
  have hD9 := hD.sub (ws' := [(h, .inr (5, [.int 1, .ref aweight, .ref aown, .int 0, .ref abetween, .ref acommunity, .ref afresh, .int 0, .ref atold, .ref areached, .ref aplaced, .int 0, .ref amoved, .ref agained, .int 1, .ref adegrees, .long 0]))]) [0] (by decide) rfl
  exact W.lret (v := 0) hx hb hr (fun t ht hW => ⟨⟨_, (), rfl, rfl, by rw [ht]; exact hP9, hD9⟩, hS.F ht⟩) hS.2.2 dX5_modularity_34
set_option maxHeartbeats 4000000 in
set_option maxRecDepth 100000 in
theorem c_X5_move (l : Launch) (dC : Nat → ClassId) (dI : Nat → Nat → Nat) (cI cJ : ClassId) (h aweight aown abetween acommunity afresh atold areached aplaced amoved agained adegrees : Nat) (sz : Nat) (n : Int32) (n1 : Int32) : Met l yX5_move wsX5_move ({ frames := 1, cells := 0, slots := 0, locals := 21 }) (va_Pc [.ref h, .int n, .int n1] (pPre dC dI cI cJ sz [(h, .inr (5, [.int 1, .ref aweight, .ref aown, .int 0, .ref abetween, .ref acommunity, .ref afresh, .int 0, .ref atold, .ref areached, .ref aplaced, .int 0, .ref amoved, .ref agained, .int 0, .ref adegrees, .long 0]))])) (va_Qi (fun (r : Int32) (_ : Unit) => r = 0) (pPost dC dI (va_A [(h, .inr (5, [.int 1, .ref aweight, .ref aown, .int 0, .ref abetween, .ref acommunity, .ref afresh, .int 0, .ref atold, .ref areached, .ref aplaced, .int 0, .ref amoved, .ref agained, .int 0, .ref adegrees, .long 0]))] sz) [(h, .inr (5, [.int 1, .ref aweight, .ref aown, .int 0, .ref abetween, .ref acommunity, .ref afresh, .int 0, .ref atold, .ref areached, .ref aplaced, .int 0, .ref amoved, .ref agained, .int 1, .ref adegrees, .long 0]))]) (va_A [(h, .inr (5, [.int 1, .ref aweight, .ref aown, .int 0, .ref abetween, .ref acommunity, .ref afresh, .int 0, .ref atold, .ref areached, .ref aplaced, .int 0, .ref amoved, .ref agained, .int 0, .ref adegrees, .long 0]))] sz)) 0 0 (va_A [(h, .inr (5, [.int 1, .ref aweight, .ref aown, .int 0, .ref abetween, .ref acommunity, .ref afresh, .int 0, .ref atold, .ref areached, .ref aplaced, .int 0, .ref amoved, .ref agained, .int 0, .ref adegrees, .long 0]))] sz) := by
  refine Met.ofW (cc := cX5_move) (maxL := 3) (ret := (some .int)) (by decide) rfl ?_
  intro p e s m args below meth c s₁ B hml hv
  obtain ⟨rfl, hsz, hP, hK, hD0⟩ := hv
  have hx := B.exec
  have hb := B.bytes
  have hr := B.returns
  have hts := atoms_spec (ws := wsX5_move) B.pre
  have hown : s.vm.findClass RX5 = some m.cls := findClass_of_methodNamed B.named
  have hlocks := B.notSynchronized
  subst hsz
  have hD := hD0.self (sz := s.heap.size)
  generalize hAe : va_A [(h, .inr (5, [.int 1, .ref aweight, .ref aown, .int 0, .ref abetween, .ref acommunity, .ref afresh, .int 0, .ref atold, .ref areached, .ref aplaced, .int 0, .ref amoved, .ref agained, .int 0, .ref adegrees, .long 0]))] s.heap.size = A at hD ⊢
  have hA : ∀ q : Nat, s.heap.size ≤ q → A q := fun q h => by rw [← hAe]; exact Or.inr h
  have hS : va_S A s.heap s.heap [] := va_S.rf
  have hP : va_P (dC, dI) vwCl [(h, .inr (5, [.int 1, .ref aweight, .ref aown, .int 0, .ref abetween, .ref acommunity, .ref afresh, .int 0, .ref atold, .ref areached, .ref aplaced, .int 0, .ref amoved, .ref agained, .int 0, .ref adegrees, .long 0]))] s.heap := hP
  have hl := lv_entry ([.ref h, .int n, .int n1]) (n := 3) (Nat.le_of_ble_eq_true rfl)
  rw [lg_entry_eq]
  generalize (lg_sl ([.ref h, .int n, .int n1]) ++ List.replicate (3 - (lg_sl ([.ref h, .int n, .int n1])).length) Slot.unset).toArray = ls at hl ⊢
  have hl : lv_has ls 3 [(0, .ref h), (1, .int n), (2, .int n1)] := hl
  have i_5 : ∀ w ∈ wsX50, w ∈ wsX5_move := by decide +kernel
  have k_0 := hts (.fieldLink RX5 48 "CommunityLevelsModel" "thrown" "I") (by decide +kernel)
  refine lv_aload_n hx hb dX5_move_0 rfl (lv_at hl 0 rfl) ?_
  refine lv_aload_n hx hb dX5_move_1 rfl (lv_at hl 0 rfl) ?_
  refine lv_iload_n hx hb dX5_move_2 rfl (lv_at hl 1 rfl) ?_
  have hPc := hP.sub (ws' := [(h, .inr (5, [.int 1, .ref aweight, .ref aown, .int 0, .ref abetween, .ref acommunity, .ref afresh, .int 0, .ref atold, .ref areached, .ref aplaced, .int 0, .ref amoved, .ref agained, .int 0, .ref adegrees, .long 0]))]) [0] rfl
  have hDc := hD.sub (ws' := [(h, .inr (5, [.int 1, .ref aweight, .ref aown, .int 0, .ref abetween, .ref acommunity, .ref afresh, .int 0, .ref atold, .ref areached, .ref aplaced, .int 0, .ref amoved, .ref agained, .int 0, .ref adegrees, .long 0]))]) [0] (by decide) rfl
  have hFc := va_free (wc := [(h, .inr (5, [.int 1, .ref aweight, .ref aown, .int 0, .ref abetween, .ref acommunity, .ref afresh, .int 0, .ref atold, .ref areached, .ref aplaced, .int 0, .ref amoved, .ref agained, .int 0, .ref adegrees, .long 0]))]) hD hS hA [0] rfl
  refine va_calli (va_runV (As := [.int n]) (rest := [.ref h]) ⟨hx, hb, hml, hown, hts⟩ (c_X5_noMove l dC dI cI cJ h aweight aown abetween acommunity afresh atold areached aplaced amoved agained adegrees s.heap.size n) (cwV 1 hts gX5_move_X5_noMove rfl rfl rfl (by decide +kernel) ⟨Nat.le_of_ble_eq_true rfl, Nat.le_of_ble_eq_true rfl⟩) ⟨fun a U g mk q => by obtain ⟨q0, q1, qP, qK, qD⟩ := q; exact ⟨q0, q1, qP, va_K.moved (u := U) (U := U.calling g mk a) (Vm.Alike.refl U.vm) qK, qD⟩, va_recv hK hPc (ci := 5) (q0 := 0) rfl rfl, fun U hU hW => ⟨rfl, by rw [hU], by rw [hU]; exact hPc, va_K.moved hW.alike hK, hDc.weaken (fun _ _ _ _ => trivial)⟩⟩ rfl rfl hl.1 rfl (lv_room (Nat.le_of_ble_eq_true rfl)) dX5_move_3 ⟨Nat.le_of_ble_eq_true rfl, Nat.le_of_ble_eq_true rfl⟩) hS (fun q _ h => hFc q h) hFc (fun r_1 u_2 t H1 locs ht hvm hw hB hz1 hk1 hS => ?_)
  obtain ⟨hP1, hD1⟩ := hB
  rw [ht] at hP1
  obtain ⟨hP, hD⟩ := va_join (wr := []) (w1 := [(h, .inr (5, [.int 1, .ref aweight, .ref aown, .int 0, .ref abetween, .ref acommunity, .ref afresh, .int 0, .ref atold, .ref areached, .ref aplaced, .int 0, .ref amoved, .ref agained, .int 0, .ref adegrees, .long 0]))]) hP hD [0] [] rfl rfl (by decide) (by decide) hk1 hFc hP1 hD1
  generalize H1 = H at hP hS ⊢
  have hP : va_P (dC, dI) vwCl [(h, .inr (5, [.int 1, .ref aweight, .ref aown, .int 0, .ref abetween, .ref acommunity, .ref afresh, .int 0, .ref atold, .ref areached, .ref aplaced, .int 0, .ref amoved, .ref agained, .int 0, .ref adegrees, .long 0]))] H := hP
  have hD : va_D A [(h, .inr (5, [.int 1, .ref aweight, .ref aown, .int 0, .ref abetween, .ref acommunity, .ref afresh, .int 0, .ref atold, .ref areached, .ref aplaced, .int 0, .ref amoved, .ref agained, .int 0, .ref adegrees, .long 0]))] := hD
  obtain rfl : r_1 = 1 := hw
  refine lv_if_ne (tgt := 18) hx hb dX5_move_6 (by decide) (fun c_3 => ?_) (fun c_3 => ?_)
  rotate_left
  · exact absurd c_3 (by decide)
  refine lv_iconst (v := 1) hx hb dX5_move_18 (by decide) ?_
  refine lv_goto (tgt := 23) hx hb dX5_move_19 (by decide) ?_
  refine va_put (D := (dC, dI)) (ci := 5) (v := .int 1) (ty := .int) (C := RX5) (T := TX5) (N := 17) hx hb hts i_5 tyX5 tyX5_ok nmX5 hown hK hP hD hS 0 rfl rfl 14 (by decide) k_0 (fun _ h9 => h9) rfl (by decide +kernel) rfl rfl (Nat.le_of_ble_eq_true rfl) dX5_move_23 (fun H locs hP hD hS => ?_)
  have hP : va_P (dC, dI) vwCl [(h, .inr (5, [.int 1, .ref aweight, .ref aown, .int 0, .ref abetween, .ref acommunity, .ref afresh, .int 0, .ref atold, .ref areached, .ref aplaced, .int 0, .ref amoved, .ref agained, .int 1, .ref adegrees, .long 0]))] H := hP
  have hD : va_D A [(h, .inr (5, [.int 1, .ref aweight, .ref aown, .int 0, .ref abetween, .ref acommunity, .ref afresh, .int 0, .ref atold, .ref areached, .ref aplaced, .int 0, .ref amoved, .ref agained, .int 1, .ref adegrees, .long 0]))] := hD
  refine lv_aload_n hx hb dX5_move_26 rfl (lv_at hl 0 rfl) ?_
  refine va_get (D := (dC, dI)) (ci := 5) (v := .int 1) (C := RX5) (T := TX5) (N := 17) hx hb hts i_5 hown hK hP 0 rfl rfl 14 (by decide) k_0 (fun _ h9 => h9) rfl dX5_move_27 ?_
  refine lv_if_le (tgt := 37) hx hb dX5_move_30 (by decide) (fun c_4 => ?_) (fun c_4 => ?_)
  · exact absurd c_4 (by decide)
  refine lv_iconst (v := 0) hx hb dX5_move_33 (by decide) ?_
  refine lv_goto (tgt := 47) hx hb dX5_move_34 (by decide) ?_
  have hP9 := hP.sub (ws' := [(h, .inr (5, [.int 1, .ref aweight, .ref aown, .int 0, .ref abetween, .ref acommunity, .ref afresh, .int 0, .ref atold, .ref areached, .ref aplaced, .int 0, .ref amoved, .ref agained, .int 1, .ref adegrees, .long 0]))]) [0] rfl
  have hD9 := hD.sub (ws' := [(h, .inr (5, [.int 1, .ref aweight, .ref aown, .int 0, .ref abetween, .ref acommunity, .ref afresh, .int 0, .ref atold, .ref areached, .ref aplaced, .int 0, .ref amoved, .ref agained, .int 1, .ref adegrees, .long 0]))]) [0] (by decide) rfl
  exact W.iret (v := 0) hx hb hr (fun t ht hW => ⟨⟨_, (), rfl, rfl, by rw [ht]; exact hP9, hD9⟩, hS.F ht⟩) hS.2.2 dX5_move_47
set_option maxHeartbeats 4000000 in
set_option maxRecDepth 100000 in
theorem c_X5_gained (l : Launch) (dC : Nat → ClassId) (dI : Nat → Nat → Nat) (cI cJ : ClassId) (h aweight aown abetween acommunity afresh atold areached aplaced amoved agained adegrees : Nat) (sz : Nat) (n : Int32) : Met l yX5_gained wsX5_gained ({ frames := 1, cells := 0, slots := 0, locals := 21 }) (va_Pc [.ref h, .int n] (pPre dC dI cI cJ sz [(h, .inr (5, [.int 1, .ref aweight, .ref aown, .int 0, .ref abetween, .ref acommunity, .ref afresh, .int 0, .ref atold, .ref areached, .ref aplaced, .int 0, .ref amoved, .ref agained, .int 0, .ref adegrees, .long 0]))])) (va_Ql (fun (r : Int64) (_ : Unit) => r = 0) (pPost dC dI (va_A [(h, .inr (5, [.int 1, .ref aweight, .ref aown, .int 0, .ref abetween, .ref acommunity, .ref afresh, .int 0, .ref atold, .ref areached, .ref aplaced, .int 0, .ref amoved, .ref agained, .int 0, .ref adegrees, .long 0]))] sz) [(h, .inr (5, [.int 1, .ref aweight, .ref aown, .int 0, .ref abetween, .ref acommunity, .ref afresh, .int 0, .ref atold, .ref areached, .ref aplaced, .int 0, .ref amoved, .ref agained, .int 1, .ref adegrees, .long 0]))]) (va_A [(h, .inr (5, [.int 1, .ref aweight, .ref aown, .int 0, .ref abetween, .ref acommunity, .ref afresh, .int 0, .ref atold, .ref areached, .ref aplaced, .int 0, .ref amoved, .ref agained, .int 0, .ref adegrees, .long 0]))] sz)) 0 0 (va_A [(h, .inr (5, [.int 1, .ref aweight, .ref aown, .int 0, .ref abetween, .ref acommunity, .ref afresh, .int 0, .ref atold, .ref areached, .ref aplaced, .int 0, .ref amoved, .ref agained, .int 0, .ref adegrees, .long 0]))] sz) := by
  refine Met.ofW (cc := cX5_gained) (maxL := 2) (ret := (some .long)) (by decide) rfl ?_
  intro p e s m args below meth c s₁ B hml hv
  obtain ⟨rfl, hsz, hP, hK, hD0⟩ := hv
  have hx := B.exec
  have hb := B.bytes
  have hr := B.returns
  have hts := atoms_spec (ws := wsX5_gained) B.pre
  have hown : s.vm.findClass RX5 = some m.cls := findClass_of_methodNamed B.named
  have hlocks := B.notSynchronized
  subst hsz
  have hD := hD0.self (sz := s.heap.size)
  generalize hAe : va_A [(h, .inr (5, [.int 1, .ref aweight, .ref aown, .int 0, .ref abetween, .ref acommunity, .ref afresh, .int 0, .ref atold, .ref areached, .ref aplaced, .int 0, .ref amoved, .ref agained, .int 0, .ref adegrees, .long 0]))] s.heap.size = A at hD ⊢
  have hA : ∀ q : Nat, s.heap.size ≤ q → A q := fun q h => by rw [← hAe]; exact Or.inr h
  have hS : va_S A s.heap s.heap [] := va_S.rf
  have hP : va_P (dC, dI) vwCl [(h, .inr (5, [.int 1, .ref aweight, .ref aown, .int 0, .ref abetween, .ref acommunity, .ref afresh, .int 0, .ref atold, .ref areached, .ref aplaced, .int 0, .ref amoved, .ref agained, .int 0, .ref adegrees, .long 0]))] s.heap := hP
  have hl := lv_entry ([.ref h, .int n]) (n := 2) (Nat.le_of_ble_eq_true rfl)
  rw [lg_entry_eq]
  generalize (lg_sl ([.ref h, .int n]) ++ List.replicate (2 - (lg_sl ([.ref h, .int n])).length) Slot.unset).toArray = ls at hl ⊢
  have hl : lv_has ls 2 [(0, .ref h), (1, .int n)] := hl
  have i_5 : ∀ w ∈ wsX50, w ∈ wsX5_gained := by decide +kernel
  have k_0 := hts (.fieldLink RX5 48 "CommunityLevelsModel" "thrown" "I") (by decide +kernel)
  refine lv_aload_n hx hb dX5_gained_0 rfl (lv_at hl 0 rfl) ?_
  refine lv_aload_n hx hb dX5_gained_1 rfl (lv_at hl 0 rfl) ?_
  refine lv_iload_n hx hb dX5_gained_2 rfl (lv_at hl 1 rfl) ?_
  have hPc := hP.sub (ws' := [(h, .inr (5, [.int 1, .ref aweight, .ref aown, .int 0, .ref abetween, .ref acommunity, .ref afresh, .int 0, .ref atold, .ref areached, .ref aplaced, .int 0, .ref amoved, .ref agained, .int 0, .ref adegrees, .long 0]))]) [0] rfl
  have hDc := hD.sub (ws' := [(h, .inr (5, [.int 1, .ref aweight, .ref aown, .int 0, .ref abetween, .ref acommunity, .ref afresh, .int 0, .ref atold, .ref areached, .ref aplaced, .int 0, .ref amoved, .ref agained, .int 0, .ref adegrees, .long 0]))]) [0] (by decide) rfl
  have hFc := va_free (wc := [(h, .inr (5, [.int 1, .ref aweight, .ref aown, .int 0, .ref abetween, .ref acommunity, .ref afresh, .int 0, .ref atold, .ref areached, .ref aplaced, .int 0, .ref amoved, .ref agained, .int 0, .ref adegrees, .long 0]))]) hD hS hA [0] rfl
  refine va_calli (va_runV (As := [.int n]) (rest := [.ref h]) ⟨hx, hb, hml, hown, hts⟩ (c_X5_noMove l dC dI cI cJ h aweight aown abetween acommunity afresh atold areached aplaced amoved agained adegrees s.heap.size n) (cwV 1 hts gX5_gained_X5_noMove rfl rfl rfl (by decide +kernel) ⟨Nat.le_of_ble_eq_true rfl, Nat.le_of_ble_eq_true rfl⟩) ⟨fun a U g mk q => by obtain ⟨q0, q1, qP, qK, qD⟩ := q; exact ⟨q0, q1, qP, va_K.moved (u := U) (U := U.calling g mk a) (Vm.Alike.refl U.vm) qK, qD⟩, va_recv hK hPc (ci := 5) (q0 := 0) rfl rfl, fun U hU hW => ⟨rfl, by rw [hU], by rw [hU]; exact hPc, va_K.moved hW.alike hK, hDc.weaken (fun _ _ _ _ => trivial)⟩⟩ rfl rfl hl.1 rfl (lv_room (Nat.le_of_ble_eq_true rfl)) dX5_gained_3 ⟨Nat.le_of_ble_eq_true rfl, Nat.le_of_ble_eq_true rfl⟩) hS (fun q _ h => hFc q h) hFc (fun r_1 u_2 t H1 locs ht hvm hw hB hz1 hk1 hS => ?_)
  obtain ⟨hP1, hD1⟩ := hB
  rw [ht] at hP1
  obtain ⟨hP, hD⟩ := va_join (wr := []) (w1 := [(h, .inr (5, [.int 1, .ref aweight, .ref aown, .int 0, .ref abetween, .ref acommunity, .ref afresh, .int 0, .ref atold, .ref areached, .ref aplaced, .int 0, .ref amoved, .ref agained, .int 0, .ref adegrees, .long 0]))]) hP hD [0] [] rfl rfl (by decide) (by decide) hk1 hFc hP1 hD1
  generalize H1 = H at hP hS ⊢
  have hP : va_P (dC, dI) vwCl [(h, .inr (5, [.int 1, .ref aweight, .ref aown, .int 0, .ref abetween, .ref acommunity, .ref afresh, .int 0, .ref atold, .ref areached, .ref aplaced, .int 0, .ref amoved, .ref agained, .int 0, .ref adegrees, .long 0]))] H := hP
  have hD : va_D A [(h, .inr (5, [.int 1, .ref aweight, .ref aown, .int 0, .ref abetween, .ref acommunity, .ref afresh, .int 0, .ref atold, .ref areached, .ref aplaced, .int 0, .ref amoved, .ref agained, .int 0, .ref adegrees, .long 0]))] := hD
  obtain rfl : r_1 = 1 := hw
  refine lv_if_eq (tgt := 13) hx hb dX5_gained_6 (by decide) (fun c_3 => ?_) (fun c_3 => ?_)
  · exact absurd c_3 (by decide)
  refine lv_iconst (v := 1) hx hb dX5_gained_9 (by decide) ?_
  refine lv_goto (tgt := 14) hx hb dX5_gained_10 (by decide) ?_
  refine va_put (D := (dC, dI)) (ci := 5) (v := .int 1) (ty := .int) (C := RX5) (T := TX5) (N := 17) hx hb hts i_5 tyX5 tyX5_ok nmX5 hown hK hP hD hS 0 rfl rfl 14 (by decide) k_0 (fun _ h9 => h9) rfl (by decide +kernel) rfl rfl (Nat.le_of_ble_eq_true rfl) dX5_gained_14 (fun H locs hP hD hS => ?_)
  have hP : va_P (dC, dI) vwCl [(h, .inr (5, [.int 1, .ref aweight, .ref aown, .int 0, .ref abetween, .ref acommunity, .ref afresh, .int 0, .ref atold, .ref areached, .ref aplaced, .int 0, .ref amoved, .ref agained, .int 1, .ref adegrees, .long 0]))] H := hP
  have hD : va_D A [(h, .inr (5, [.int 1, .ref aweight, .ref aown, .int 0, .ref abetween, .ref acommunity, .ref afresh, .int 0, .ref atold, .ref areached, .ref aplaced, .int 0, .ref amoved, .ref agained, .int 1, .ref adegrees, .long 0]))] := hD
  refine lv_aload_n hx hb dX5_gained_17 rfl (lv_at hl 0 rfl) ?_
  refine va_get (D := (dC, dI)) (ci := 5) (v := .int 1) (C := RX5) (T := TX5) (N := 17) hx hb hts i_5 hown hK hP 0 rfl rfl 14 (by decide) k_0 (fun _ h9 => h9) rfl dX5_gained_18 ?_
  refine lv_if_le (tgt := 28) hx hb dX5_gained_21 (by decide) (fun c_4 => ?_) (fun c_4 => ?_)
  · exact absurd c_4 (by decide)
  refine lv_lconst (v := 0) hx hb dX5_gained_24 (by decide) ?_
  refine lv_goto (tgt := 34) hx hb dX5_gained_25 (by decide) ?_
  have hP9 := hP.sub (ws' := [(h, .inr (5, [.int 1, .ref aweight, .ref aown, .int 0, .ref abetween, .ref acommunity, .ref afresh, .int 0, .ref atold, .ref areached, .ref aplaced, .int 0, .ref amoved, .ref agained, .int 1, .ref adegrees, .long 0]))]) [0] rfl
  have hD9 := hD.sub (ws' := [(h, .inr (5, [.int 1, .ref aweight, .ref aown, .int 0, .ref abetween, .ref acommunity, .ref afresh, .int 0, .ref atold, .ref areached, .ref aplaced, .int 0, .ref amoved, .ref agained, .int 1, .ref adegrees, .long 0]))]) [0] (by decide) rfl
  exact W.lret (v := 0) hx hb hr (fun t ht hW => ⟨⟨_, (), rfl, rfl, by rw [ht]; exact hP9, hD9⟩, hS.F ht⟩) hS.2.2 dX5_gained_34
set_option maxHeartbeats 4000000 in
set_option maxRecDepth 100000 in
theorem c_X5_take (l : Launch) (dC : Nat → ClassId) (dI : Nat → Nat → Nat) (cI cJ : ClassId) (h aweight aown abetween acommunity afresh atold areached aplaced amoved agained adegrees : Nat) (sz : Nat) (n : Int32) : Met l yX5_take wsX5_take ({ frames := 1, cells := 0, slots := 0, locals := 21 }) (va_Pc [.ref h, .int n] (pPre dC dI cI cJ sz [(h, .inr (5, [.int 1, .ref aweight, .ref aown, .int 0, .ref abetween, .ref acommunity, .ref afresh, .int 0, .ref atold, .ref areached, .ref aplaced, .int 0, .ref amoved, .ref agained, .int 0, .ref adegrees, .long 0]))])) (va_Qv (fun _ : Unit => True) (pPost dC dI (va_A [(h, .inr (5, [.int 1, .ref aweight, .ref aown, .int 0, .ref abetween, .ref acommunity, .ref afresh, .int 0, .ref atold, .ref areached, .ref aplaced, .int 0, .ref amoved, .ref agained, .int 0, .ref adegrees, .long 0]))] sz) [(h, .inr (5, [.int 1, .ref aweight, .ref aown, .int 0, .ref abetween, .ref acommunity, .ref afresh, .int 0, .ref atold, .ref areached, .ref aplaced, .int 0, .ref amoved, .ref agained, .int 1, .ref adegrees, .long 0]))]) (va_A [(h, .inr (5, [.int 1, .ref aweight, .ref aown, .int 0, .ref abetween, .ref acommunity, .ref afresh, .int 0, .ref atold, .ref areached, .ref aplaced, .int 0, .ref amoved, .ref agained, .int 0, .ref adegrees, .long 0]))] sz)) 0 0 (va_A [(h, .inr (5, [.int 1, .ref aweight, .ref aown, .int 0, .ref abetween, .ref acommunity, .ref afresh, .int 0, .ref atold, .ref areached, .ref aplaced, .int 0, .ref amoved, .ref agained, .int 0, .ref adegrees, .long 0]))] sz) := by
  refine Met.ofW (cc := cX5_take) (maxL := 3) (ret := none) (by decide) rfl ?_
  intro p e s m args below meth c s₁ B hml hv
  obtain ⟨rfl, hsz, hP, hK, hD0⟩ := hv
  have hx := B.exec
  have hb := B.bytes
  have hr := B.returns
  have hts := atoms_spec (ws := wsX5_take) B.pre
  have hown : s.vm.findClass RX5 = some m.cls := findClass_of_methodNamed B.named
  have hlocks := B.notSynchronized
  subst hsz
  have hD := hD0.self (sz := s.heap.size)
  generalize hAe : va_A [(h, .inr (5, [.int 1, .ref aweight, .ref aown, .int 0, .ref abetween, .ref acommunity, .ref afresh, .int 0, .ref atold, .ref areached, .ref aplaced, .int 0, .ref amoved, .ref agained, .int 0, .ref adegrees, .long 0]))] s.heap.size = A at hD ⊢
  have hA : ∀ q : Nat, s.heap.size ≤ q → A q := fun q h => by rw [← hAe]; exact Or.inr h
  have hS : va_S A s.heap s.heap [] := va_S.rf
  have hP : va_P (dC, dI) vwCl [(h, .inr (5, [.int 1, .ref aweight, .ref aown, .int 0, .ref abetween, .ref acommunity, .ref afresh, .int 0, .ref atold, .ref areached, .ref aplaced, .int 0, .ref amoved, .ref agained, .int 0, .ref adegrees, .long 0]))] s.heap := hP
  have hl := lv_entry ([.ref h, .int n]) (n := 3) (Nat.le_of_ble_eq_true rfl)
  rw [lg_entry_eq]
  generalize (lg_sl ([.ref h, .int n]) ++ List.replicate (3 - (lg_sl ([.ref h, .int n])).length) Slot.unset).toArray = ls at hl ⊢
  have hl : lv_has ls 3 [(0, .ref h), (1, .int n)] := hl
  have i_5 : ∀ w ∈ wsX50, w ∈ wsX5_take := by decide +kernel
  have k_0 := hts (.fieldLink RX5 48 "CommunityLevelsModel" "thrown" "I") (by decide +kernel)
  have k_1 := hts (.fieldLink RX5 7 "CommunityLevelsModel" "n" "I") (by decide +kernel)
  refine lv_aload_n hx hb dX5_take_0 rfl (lv_at hl 0 rfl) ?_
  refine lv_aload_n hx hb dX5_take_1 rfl (lv_at hl 0 rfl) ?_
  refine lv_iload_n hx hb dX5_take_2 rfl (lv_at hl 1 rfl) ?_
  have hPc := hP.sub (ws' := [(h, .inr (5, [.int 1, .ref aweight, .ref aown, .int 0, .ref abetween, .ref acommunity, .ref afresh, .int 0, .ref atold, .ref areached, .ref aplaced, .int 0, .ref amoved, .ref agained, .int 0, .ref adegrees, .long 0]))]) [0] rfl
  have hDc := hD.sub (ws' := [(h, .inr (5, [.int 1, .ref aweight, .ref aown, .int 0, .ref abetween, .ref acommunity, .ref afresh, .int 0, .ref atold, .ref areached, .ref aplaced, .int 0, .ref amoved, .ref agained, .int 0, .ref adegrees, .long 0]))]) [0] (by decide) rfl
  have hFc := va_free (wc := [(h, .inr (5, [.int 1, .ref aweight, .ref aown, .int 0, .ref abetween, .ref acommunity, .ref afresh, .int 0, .ref atold, .ref areached, .ref aplaced, .int 0, .ref amoved, .ref agained, .int 0, .ref adegrees, .long 0]))]) hD hS hA [0] rfl
  refine va_calli (va_runV (As := [.int n]) (rest := [.ref h]) ⟨hx, hb, hml, hown, hts⟩ (c_X5_noLevel l dC dI cI cJ h aweight aown abetween acommunity afresh atold areached aplaced amoved agained adegrees s.heap.size n) (cwV 1 hts gX5_take_X5_noLevel rfl rfl rfl (by decide +kernel) ⟨Nat.le_of_ble_eq_true rfl, Nat.le_of_ble_eq_true rfl⟩) ⟨fun a U g mk q => by obtain ⟨q0, q1, qP, qK, qD⟩ := q; exact ⟨q0, q1, qP, va_K.moved (u := U) (U := U.calling g mk a) (Vm.Alike.refl U.vm) qK, qD⟩, va_recv hK hPc (ci := 5) (q0 := 0) rfl rfl, fun U hU hW => ⟨rfl, by rw [hU], by rw [hU]; exact hPc, va_K.moved hW.alike hK, hDc.weaken (fun _ _ _ _ => trivial)⟩⟩ rfl rfl hl.1 rfl (lv_room (Nat.le_of_ble_eq_true rfl)) dX5_take_3 ⟨Nat.le_of_ble_eq_true rfl, Nat.le_of_ble_eq_true rfl⟩) hS (fun q _ h => hFc q h) hFc (fun r_1 u_2 t H1 locs ht hvm hw hB hz1 hk1 hS => ?_)
  obtain ⟨hP1, hD1⟩ := hB
  rw [ht] at hP1
  obtain ⟨hP, hD⟩ := va_join (wr := []) (w1 := [(h, .inr (5, [.int 1, .ref aweight, .ref aown, .int 0, .ref abetween, .ref acommunity, .ref afresh, .int 0, .ref atold, .ref areached, .ref aplaced, .int 0, .ref amoved, .ref agained, .int 0, .ref adegrees, .long 0]))]) hP hD [0] [] rfl rfl (by decide) (by decide) hk1 hFc hP1 hD1
  generalize H1 = H at hP hS ⊢
  have hP : va_P (dC, dI) vwCl [(h, .inr (5, [.int 1, .ref aweight, .ref aown, .int 0, .ref abetween, .ref acommunity, .ref afresh, .int 0, .ref atold, .ref areached, .ref aplaced, .int 0, .ref amoved, .ref agained, .int 0, .ref adegrees, .long 0]))] H := hP
  have hD : va_D A [(h, .inr (5, [.int 1, .ref aweight, .ref aown, .int 0, .ref abetween, .ref acommunity, .ref afresh, .int 0, .ref atold, .ref areached, .ref aplaced, .int 0, .ref amoved, .ref agained, .int 0, .ref adegrees, .long 0]))] := hD
  obtain rfl : r_1 = 1 := hw
  refine lv_if_eq (tgt := 13) hx hb dX5_take_6 (by decide) (fun c_3 => ?_) (fun c_3 => ?_)
  · exact absurd c_3 (by decide)
  refine lv_iconst (v := 1) hx hb dX5_take_9 (by decide) ?_
  refine lv_goto (tgt := 14) hx hb dX5_take_10 (by decide) ?_
  refine va_put (D := (dC, dI)) (ci := 5) (v := .int 1) (ty := .int) (C := RX5) (T := TX5) (N := 17) hx hb hts i_5 tyX5 tyX5_ok nmX5 hown hK hP hD hS 0 rfl rfl 14 (by decide) k_0 (fun _ h9 => h9) rfl (by decide +kernel) rfl rfl (Nat.le_of_ble_eq_true rfl) dX5_take_14 (fun H locs hP hD hS => ?_)
  have hP : va_P (dC, dI) vwCl [(h, .inr (5, [.int 1, .ref aweight, .ref aown, .int 0, .ref abetween, .ref acommunity, .ref afresh, .int 0, .ref atold, .ref areached, .ref aplaced, .int 0, .ref amoved, .ref agained, .int 1, .ref adegrees, .long 0]))] H := hP
  have hD : va_D A [(h, .inr (5, [.int 1, .ref aweight, .ref aown, .int 0, .ref abetween, .ref acommunity, .ref afresh, .int 0, .ref atold, .ref areached, .ref aplaced, .int 0, .ref amoved, .ref agained, .int 1, .ref adegrees, .long 0]))] := hD
  refine lv_iconst (v := 0) hx hb dX5_take_17 (by decide) ?_
  refine lv_istore_n (lv' := [(2, .int 0), (0, .ref h), (1, .int n)]) hx hb dX5_take_18 rfl hl (by decide) rfl (fun ls hl => ?_)
  refine lv_iload_n hx hb dX5_take_19 rfl (lv_at hl 0 rfl) ?_
  refine lv_aload_n hx hb dX5_take_20 rfl (lv_at hl 1 rfl) ?_
  refine va_get (D := (dC, dI)) (ci := 5) (v := .int 1) (C := RX5) (T := TX5) (N := 17) hx hb hts i_5 hown hK hP 0 rfl rfl 0 (by decide) k_1 (fun _ h9 => h9) rfl dX5_take_21 ?_
  refine lv_icmp_ge (tgt := 57) hx hb dX5_take_24 (by decide) (fun c_4 => ?_) (fun c_4 => ?_)
  · exact absurd c_4 (by decide)
  refine lv_aload_n hx hb dX5_take_27 rfl (lv_at hl 1 rfl) ?_
  refine va_get (D := (dC, dI)) (ci := 5) (v := .int 1) (C := RX5) (T := TX5) (N := 17) hx hb hts i_5 hown hK hP 0 rfl rfl 14 (by decide) k_0 (fun _ h9 => h9) rfl dX5_take_28 ?_
  refine lv_if_ne (tgt := 57) hx hb dX5_take_31 (by decide) (fun c_5 => ?_) (fun c_5 => ?_)
  rotate_left
  · exact absurd c_5 (by decide)
  have hP9 := hP.sub (ws' := [(h, .inr (5, [.int 1, .ref aweight, .ref aown, .int 0, .ref abetween, .ref acommunity, .ref afresh, .int 0, .ref atold, .ref areached, .ref aplaced, .int 0, .ref amoved, .ref agained, .int 1, .ref adegrees, .long 0]))]) [0] rfl
  have hD9 := hD.sub (ws' := [(h, .inr (5, [.int 1, .ref aweight, .ref aown, .int 0, .ref abetween, .ref acommunity, .ref afresh, .int 0, .ref atold, .ref areached, .ref aplaced, .int 0, .ref amoved, .ref agained, .int 1, .ref adegrees, .long 0]))]) [0] (by decide) rfl
  exact W.vret hx hb hr (fun t ht hW => ⟨⟨(), rfl, trivial, by rw [ht]; exact hP9, hD9⟩, hS.F ht⟩) hS.2.2 dX5_take_57
set_option maxHeartbeats 4000000 in
set_option maxRecDepth 100000 in
theorem c_X5_place (l : Launch) (dC : Nat → ClassId) (dI : Nat → Nat → Nat) (cI cJ : ClassId) (h aweight aown abetween acommunity afresh atold areached aplaced amoved agained adegrees : Nat) (sz : Nat) : Met l yX5_place wsX5_place ({ frames := 1, cells := 0, slots := 0, locals := 21 }) (va_Pc [.ref h, .int 0, .int 0] (pPre dC dI cI cJ sz [(h, .inr (5, [.int 1, .ref aweight, .ref aown, .int 0, .ref abetween, .ref acommunity, .ref afresh, .int 0, .ref atold, .ref areached, .ref aplaced, .int 0, .ref amoved, .ref agained, .int 0, .ref adegrees, .long 0])), (aown, .inl (cI, 40, .inl (upd Zi 0 0)))])) (va_Qi (fun (r : Int32) (_ : Unit) => r = 0) (pPost dC dI (va_A [(h, .inr (5, [.int 1, .ref aweight, .ref aown, .int 0, .ref abetween, .ref acommunity, .ref afresh, .int 0, .ref atold, .ref areached, .ref aplaced, .int 0, .ref amoved, .ref agained, .int 0, .ref adegrees, .long 0])), (aown, .inl (cI, 40, .inl (upd Zi 0 0)))] sz) [(h, .inr (5, [.int 1, .ref aweight, .ref aown, .int 0, .ref abetween, .ref acommunity, .ref afresh, .int 0, .ref atold, .ref areached, .ref aplaced, .int 0, .ref amoved, .ref agained, .int 0, .ref adegrees, .long 0]))]) (va_A [(h, .inr (5, [.int 1, .ref aweight, .ref aown, .int 0, .ref abetween, .ref acommunity, .ref afresh, .int 0, .ref atold, .ref areached, .ref aplaced, .int 0, .ref amoved, .ref agained, .int 0, .ref adegrees, .long 0])), (aown, .inl (cI, 40, .inl (upd Zi 0 0)))] sz)) 0 0 (va_A [(h, .inr (5, [.int 1, .ref aweight, .ref aown, .int 0, .ref abetween, .ref acommunity, .ref afresh, .int 0, .ref atold, .ref areached, .ref aplaced, .int 0, .ref amoved, .ref agained, .int 0, .ref adegrees, .long 0])), (aown, .inl (cI, 40, .inl (upd Zi 0 0)))] sz) := by
  refine Met.ofW (cc := cX5_place) (maxL := 4) (ret := (some .int)) (by decide) rfl ?_
  intro p e s m args below meth c s₁ B hml hv
  obtain ⟨rfl, hsz, hP, hK, hD0⟩ := hv
  have hx := B.exec
  have hb := B.bytes
  have hr := B.returns
  have hts := atoms_spec (ws := wsX5_place) B.pre
  have hown : s.vm.findClass RX5 = some m.cls := findClass_of_methodNamed B.named
  have hlocks := B.notSynchronized
  subst hsz
  have hD := hD0.self (sz := s.heap.size)
  generalize hAe : va_A [(h, .inr (5, [.int 1, .ref aweight, .ref aown, .int 0, .ref abetween, .ref acommunity, .ref afresh, .int 0, .ref atold, .ref areached, .ref aplaced, .int 0, .ref amoved, .ref agained, .int 0, .ref adegrees, .long 0])), (aown, .inl (cI, 40, .inl (upd Zi 0 0)))] s.heap.size = A at hD ⊢
  have hA : ∀ q : Nat, s.heap.size ≤ q → A q := fun q h => by rw [← hAe]; exact Or.inr h
  have hS : va_S A s.heap s.heap [] := va_S.rf
  have hP : va_P (dC, dI) vwCl [(h, .inr (5, [.int 1, .ref aweight, .ref aown, .int 0, .ref abetween, .ref acommunity, .ref afresh, .int 0, .ref atold, .ref areached, .ref aplaced, .int 0, .ref amoved, .ref agained, .int 0, .ref adegrees, .long 0])), (aown, .inl (cI, 40, .inl (upd Zi 0 0)))] s.heap := hP
  have hl := lv_entry ([.ref h, .int 0, .int 0]) (n := 4) (Nat.le_of_ble_eq_true rfl)
  rw [lg_entry_eq]
  generalize (lg_sl ([.ref h, .int 0, .int 0]) ++ List.replicate (4 - (lg_sl ([.ref h, .int 0, .int 0])).length) Slot.unset).toArray = ls at hl ⊢
  have hl : lv_has ls 4 [(0, .ref h), (1, .int 0), (2, .int 0)] := hl
  have i_5 : ∀ w ∈ wsX50, w ∈ wsX5_place := by decide +kernel
  have k_0 := hts (.fieldLink RX5 48 "CommunityLevelsModel" "thrown" "I") (by decide +kernel)
  have k_1 := hts (.fieldLink RX5 17 "CommunityLevelsModel" "own" "[I") (by decide +kernel)
  refine lv_aload_n hx hb dX5_place_0 rfl (lv_at hl 0 rfl) ?_
  refine lv_aload_n hx hb dX5_place_1 rfl (lv_at hl 0 rfl) ?_
  refine lv_iload_n hx hb dX5_place_2 rfl (lv_at hl 1 rfl) ?_
  have hPc := hP.sub (ws' := [(h, .inr (5, [.int 1, .ref aweight, .ref aown, .int 0, .ref abetween, .ref acommunity, .ref afresh, .int 0, .ref atold, .ref areached, .ref aplaced, .int 0, .ref amoved, .ref agained, .int 0, .ref adegrees, .long 0]))]) [0] rfl
  have hDc := hD.sub (ws' := [(h, .inr (5, [.int 1, .ref aweight, .ref aown, .int 0, .ref abetween, .ref acommunity, .ref afresh, .int 0, .ref atold, .ref areached, .ref aplaced, .int 0, .ref amoved, .ref agained, .int 0, .ref adegrees, .long 0]))]) [0] (by decide) rfl
  have hFc := va_free (wc := [(h, .inr (5, [.int 1, .ref aweight, .ref aown, .int 0, .ref abetween, .ref acommunity, .ref afresh, .int 0, .ref atold, .ref areached, .ref aplaced, .int 0, .ref amoved, .ref agained, .int 0, .ref adegrees, .long 0]))]) hD hS hA [0] rfl
  refine va_calli (va_runV (As := [.int 0]) (rest := [.ref h]) ⟨hx, hb, hml, hown, hts⟩ (c_X5_noNode l dC dI cI cJ h aweight aown abetween acommunity afresh atold areached aplaced amoved agained adegrees s.heap.size 0) (cwV 1 hts gX5_place_X5_noNode rfl rfl rfl (by decide +kernel) ⟨Nat.le_of_ble_eq_true rfl, Nat.le_of_ble_eq_true rfl⟩) ⟨fun a U g mk q => by obtain ⟨q0, q1, qP, qK, qD⟩ := q; exact ⟨q0, q1, qP, va_K.moved (u := U) (U := U.calling g mk a) (Vm.Alike.refl U.vm) qK, qD⟩, va_recv hK hPc (ci := 5) (q0 := 0) rfl rfl, fun U hU hW => ⟨rfl, by rw [hU], by rw [hU]; exact hPc, va_K.moved hW.alike hK, hDc.weaken (fun _ _ _ _ => trivial)⟩⟩ rfl rfl hl.1 rfl (lv_room (Nat.le_of_ble_eq_true rfl)) dX5_place_3 ⟨Nat.le_of_ble_eq_true rfl, Nat.le_of_ble_eq_true rfl⟩) hS (fun q _ h => hFc q h) hFc (fun r_1 u_2 t H1 locs ht hvm hw hB hz1 hk1 hS => ?_)
  obtain ⟨hP1, hD1⟩ := hB
  rw [ht] at hP1
  obtain ⟨hP, hD⟩ := va_join (wr := [(aown, .inl (cI, 40, .inl (upd Zi 0 0)))]) (w1 := [(h, .inr (5, [.int 1, .ref aweight, .ref aown, .int 0, .ref abetween, .ref acommunity, .ref afresh, .int 0, .ref atold, .ref areached, .ref aplaced, .int 0, .ref amoved, .ref agained, .int 0, .ref adegrees, .long 0]))]) hP hD [0] [1] rfl rfl (by decide) (by decide) hk1 hFc hP1 hD1
  generalize H1 = H at hP hS ⊢
  have hP : va_P (dC, dI) vwCl [(aown, .inl (cI, 40, .inl (upd Zi 0 0))), (h, .inr (5, [.int 1, .ref aweight, .ref aown, .int 0, .ref abetween, .ref acommunity, .ref afresh, .int 0, .ref atold, .ref areached, .ref aplaced, .int 0, .ref amoved, .ref agained, .int 0, .ref adegrees, .long 0]))] H := hP
  have hD : va_D A [(aown, .inl (cI, 40, .inl (upd Zi 0 0))), (h, .inr (5, [.int 1, .ref aweight, .ref aown, .int 0, .ref abetween, .ref acommunity, .ref afresh, .int 0, .ref atold, .ref areached, .ref aplaced, .int 0, .ref amoved, .ref agained, .int 0, .ref adegrees, .long 0]))] := hD
  obtain rfl : r_1 = 0 := hw
  refine lv_if_ne (tgt := 17) hx hb dX5_place_6 (by decide) (fun c_3 => ?_) (fun c_3 => ?_)
  · exact absurd c_3 (by decide)
  refine lv_aload_n hx hb dX5_place_9 rfl (lv_at hl 0 rfl) ?_
  refine lv_iload_n hx hb dX5_place_10 rfl (lv_at hl 2 rfl) ?_
  have hPc := hP.sub (ws' := [(h, .inr (5, [.int 1, .ref aweight, .ref aown, .int 0, .ref abetween, .ref acommunity, .ref afresh, .int 0, .ref atold, .ref areached, .ref aplaced, .int 0, .ref amoved, .ref agained, .int 0, .ref adegrees, .long 0]))]) [1] rfl
  have hDc := hD.sub (ws' := [(h, .inr (5, [.int 1, .ref aweight, .ref aown, .int 0, .ref abetween, .ref acommunity, .ref afresh, .int 0, .ref atold, .ref areached, .ref aplaced, .int 0, .ref amoved, .ref agained, .int 0, .ref adegrees, .long 0]))]) [1] (by decide) rfl
  have hFc := va_free (wc := [(h, .inr (5, [.int 1, .ref aweight, .ref aown, .int 0, .ref abetween, .ref acommunity, .ref afresh, .int 0, .ref atold, .ref areached, .ref aplaced, .int 0, .ref amoved, .ref agained, .int 0, .ref adegrees, .long 0]))]) hD hS hA [1] rfl
  refine va_calli (va_runV (As := [.int 0]) (rest := [.ref h]) ⟨hx, hb, hml, hown, hts⟩ (c_X5_noNode l dC dI cI cJ h aweight aown abetween acommunity afresh atold areached aplaced amoved agained adegrees H.size 0) (cwV 1 hts gX5_place_X5_noNode rfl rfl rfl (by decide +kernel) ⟨Nat.le_of_ble_eq_true rfl, Nat.le_of_ble_eq_true rfl⟩) ⟨fun a U g mk q => by obtain ⟨q0, q1, qP, qK, qD⟩ := q; exact ⟨q0, q1, qP, va_K.moved (u := U) (U := U.calling g mk a) (Vm.Alike.refl U.vm) qK, qD⟩, va_recv hK hPc (ci := 5) (q0 := 0) rfl rfl, fun U hU hW => ⟨rfl, by rw [hU], by rw [hU]; exact hPc, va_K.moved hW.alike hK, hDc.weaken (fun _ _ _ _ => trivial)⟩⟩ rfl rfl hl.1 rfl (lv_room (Nat.le_of_ble_eq_true rfl)) dX5_place_11 ⟨Nat.le_of_ble_eq_true rfl, Nat.le_of_ble_eq_true rfl⟩) hS (fun q _ h => hFc q h) hFc (fun r_4 u_5 t H1 locs ht hvm hw hB hz1 hk1 hS => ?_)
  obtain ⟨hP1, hD1⟩ := hB
  rw [ht] at hP1
  obtain ⟨hP, hD⟩ := va_join (wr := [(aown, .inl (cI, 40, .inl (upd Zi 0 0)))]) (w1 := [(h, .inr (5, [.int 1, .ref aweight, .ref aown, .int 0, .ref abetween, .ref acommunity, .ref afresh, .int 0, .ref atold, .ref areached, .ref aplaced, .int 0, .ref amoved, .ref agained, .int 0, .ref adegrees, .long 0]))]) hP hD [1] [0] rfl rfl (by decide) (by decide) hk1 hFc hP1 hD1
  generalize H1 = H at hP hS ⊢
  have hP : va_P (dC, dI) vwCl [(aown, .inl (cI, 40, .inl (upd Zi 0 0))), (h, .inr (5, [.int 1, .ref aweight, .ref aown, .int 0, .ref abetween, .ref acommunity, .ref afresh, .int 0, .ref atold, .ref areached, .ref aplaced, .int 0, .ref amoved, .ref agained, .int 0, .ref adegrees, .long 0]))] H := hP
  have hD : va_D A [(aown, .inl (cI, 40, .inl (upd Zi 0 0))), (h, .inr (5, [.int 1, .ref aweight, .ref aown, .int 0, .ref abetween, .ref acommunity, .ref afresh, .int 0, .ref atold, .ref areached, .ref aplaced, .int 0, .ref amoved, .ref agained, .int 0, .ref adegrees, .long 0]))] := hD
  obtain rfl : r_4 = 0 := hw
  refine lv_if_eq (tgt := 21) hx hb dX5_place_14 (by decide) (fun c_6 => ?_) (fun c_6 => ?_)
  rotate_left
  · exact absurd (by decide) c_6
  refine lv_iconst (v := 0) hx hb dX5_place_21 (by decide) ?_
  refine va_put (D := (dC, dI)) (ci := 5) (v := .int 0) (ty := .int) (C := RX5) (T := TX5) (N := 17) hx hb hts i_5 tyX5 tyX5_ok nmX5 hown hK hP hD hS 1 rfl rfl 14 (by decide) k_0 (fun _ h9 => h9) rfl (by decide +kernel) rfl rfl (Nat.le_of_ble_eq_true rfl) dX5_place_22 (fun H locs hP hD hS => ?_)
  have hP : va_P (dC, dI) vwCl [(aown, .inl (cI, 40, .inl (upd Zi 0 0))), (h, .inr (5, [.int 1, .ref aweight, .ref aown, .int 0, .ref abetween, .ref acommunity, .ref afresh, .int 0, .ref atold, .ref areached, .ref aplaced, .int 0, .ref amoved, .ref agained, .int 0, .ref adegrees, .long 0]))] H := hP
  have hD : va_D A [(aown, .inl (cI, 40, .inl (upd Zi 0 0))), (h, .inr (5, [.int 1, .ref aweight, .ref aown, .int 0, .ref abetween, .ref acommunity, .ref afresh, .int 0, .ref atold, .ref areached, .ref aplaced, .int 0, .ref amoved, .ref agained, .int 0, .ref adegrees, .long 0]))] := hD
  refine lv_aload_n hx hb dX5_place_25 rfl (lv_at hl 0 rfl) ?_
  refine va_get (D := (dC, dI)) (ci := 5) (v := .int 0) (C := RX5) (T := TX5) (N := 17) hx hb hts i_5 hown hK hP 1 rfl rfl 14 (by decide) k_0 (fun _ h9 => h9) rfl dX5_place_26 ?_
  refine lv_if_le (tgt := 34) hx hb dX5_place_29 (by decide) (fun c_7 => ?_) (fun c_7 => ?_)
  rotate_left
  · exact absurd (by decide) c_7
  refine lv_aload_n hx hb dX5_place_34 rfl (lv_at hl 0 rfl) ?_
  refine va_get (D := (dC, dI)) (ci := 5) (v := .ref aown) (C := RX5) (T := TX5) (N := 17) hx hb hts i_5 hown hK hP 1 rfl rfl 2 (by decide) k_1 (fun _ h9 => h9) rfl dX5_place_35 ?_
  refine lv_iload_n hx hb dX5_place_38 rfl (lv_at hl 1 rfl) ?_
  refine va_iald hx hb hK hP 0 0 rfl rfl (vp_c (by decide)) dX5_place_39 ?_
  refine lc_i (v := 0) (by first | rfl | decide) ?_
  refine lv_istore_n (lv' := [(3, .int 0), (0, .ref h), (1, .int 0), (2, .int 0)]) hx hb dX5_place_40 rfl hl (by decide) rfl (fun ls hl => ?_)
  refine lv_aload_n hx hb dX5_place_41 rfl (lv_at hl 1 rfl) ?_
  refine va_get (D := (dC, dI)) (ci := 5) (v := .ref aown) (C := RX5) (T := TX5) (N := 17) hx hb hts i_5 hown hK hP 1 rfl rfl 2 (by decide) k_1 (fun _ h9 => h9) rfl dX5_place_42 ?_
  refine lv_iload_n hx hb dX5_place_45 rfl (lv_at hl 2 rfl) ?_
  refine lv_iload_n hx hb dX5_place_46 rfl (lv_at hl 3 rfl) ?_
  refine va_iast hx hb hK hP hD hS 0 0 rfl rfl (vp_c (by decide)) dX5_place_47 (fun H locs hP hD hS => ?_)
  have hP : va_P (dC, dI) vwCl [(aown, .inl (cI, 40, .inl (upd (upd Zi 0 0) 0 0))), (h, .inr (5, [.int 1, .ref aweight, .ref aown, .int 0, .ref abetween, .ref acommunity, .ref afresh, .int 0, .ref atold, .ref areached, .ref aplaced, .int 0, .ref amoved, .ref agained, .int 0, .ref adegrees, .long 0]))] H := hP
  have hD : va_D A [(aown, .inl (cI, 40, .inl (upd (upd Zi 0 0) 0 0))), (h, .inr (5, [.int 1, .ref aweight, .ref aown, .int 0, .ref abetween, .ref acommunity, .ref afresh, .int 0, .ref atold, .ref areached, .ref aplaced, .int 0, .ref amoved, .ref agained, .int 0, .ref adegrees, .long 0]))] := hD
  refine lv_iload_n hx hb dX5_place_48 rfl (lv_at hl 0 rfl) ?_
  have hP9 := hP.sub (ws' := [(h, .inr (5, [.int 1, .ref aweight, .ref aown, .int 0, .ref abetween, .ref acommunity, .ref afresh, .int 0, .ref atold, .ref areached, .ref aplaced, .int 0, .ref amoved, .ref agained, .int 0, .ref adegrees, .long 0]))]) [1] rfl
  have hD9 := hD.sub (ws' := [(h, .inr (5, [.int 1, .ref aweight, .ref aown, .int 0, .ref abetween, .ref acommunity, .ref afresh, .int 0, .ref atold, .ref areached, .ref aplaced, .int 0, .ref amoved, .ref agained, .int 0, .ref adegrees, .long 0]))]) [1] (by decide) rfl
  exact W.iret (v := 0) hx hb hr (fun t ht hW => ⟨⟨_, (), rfl, rfl, by rw [ht]; exact hP9, hD9⟩, hS.F ht⟩) hS.2.2 dX5_place_49
set_option maxHeartbeats 4000000 in
set_option maxRecDepth 100000 in
theorem c_X5_ownNow (l : Launch) (dC : Nat → ClassId) (dI : Nat → Nat → Nat) (cI cJ : ClassId) (h aweight aown abetween acommunity afresh atold areached aplaced amoved agained adegrees : Nat) (sz : Nat) : Met l yX5_ownNow wsX5_ownNow ({ frames := 2, cells := 0, slots := 0, locals := 45 }) (va_Pc [.ref h] (pPre dC dI cI cJ sz [(h, .inr (5, [.int 1, .ref aweight, .ref aown, .int 0, .ref abetween, .ref acommunity, .ref afresh, .int 0, .ref atold, .ref areached, .ref aplaced, .int 0, .ref amoved, .ref agained, .int 0, .ref adegrees, .long 0])), (aweight, .inl (cI, 1600, .inl Zi)), (aown, .inl (cI, 40, .inl (upd Zi 0 0))), (abetween, .inl (cJ, 1600, .inr (.inl Zl))), (acommunity, .inl (cI, 40, .inl Zi)), (adegrees, .inl (cJ, 40, .inr (.inl Zl)))])) (va_Qv (fun _ : Unit => True) (pPost dC dI (va_A [(h, .inr (5, [.int 1, .ref aweight, .ref aown, .int 0, .ref abetween, .ref acommunity, .ref afresh, .int 0, .ref atold, .ref areached, .ref aplaced, .int 0, .ref amoved, .ref agained, .int 0, .ref adegrees, .long 0])), (aweight, .inl (cI, 1600, .inl Zi)), (aown, .inl (cI, 40, .inl (upd Zi 0 0))), (abetween, .inl (cJ, 1600, .inr (.inl Zl))), (acommunity, .inl (cI, 40, .inl Zi)), (adegrees, .inl (cJ, 40, .inr (.inl Zl)))] sz) [(h, .inr (5, [.int 1, .ref aweight, .ref aown, .int 1, .ref abetween, .ref acommunity, .ref afresh, .int 0, .ref atold, .ref areached, .ref aplaced, .int 0, .ref amoved, .ref agained, .int 0, .ref adegrees, .long 0])), (abetween, .inl (cJ, 1600, .inr (.inl (vp_updL Zl 0 0)))), (acommunity, .inl (cI, 40, .inl (upd Zi 0 0))), (adegrees, .inl (cJ, 40, .inr (.inl (vp_updL Zl 0 0))))]) (va_A [(h, .inr (5, [.int 1, .ref aweight, .ref aown, .int 0, .ref abetween, .ref acommunity, .ref afresh, .int 0, .ref atold, .ref areached, .ref aplaced, .int 0, .ref amoved, .ref agained, .int 0, .ref adegrees, .long 0])), (aweight, .inl (cI, 1600, .inl Zi)), (aown, .inl (cI, 40, .inl (upd Zi 0 0))), (abetween, .inl (cJ, 1600, .inr (.inl Zl))), (acommunity, .inl (cI, 40, .inl Zi)), (adegrees, .inl (cJ, 40, .inr (.inl Zl)))] sz)) 0 0 (va_A [(h, .inr (5, [.int 1, .ref aweight, .ref aown, .int 0, .ref abetween, .ref acommunity, .ref afresh, .int 0, .ref atold, .ref areached, .ref aplaced, .int 0, .ref amoved, .ref agained, .int 0, .ref adegrees, .long 0])), (aweight, .inl (cI, 1600, .inl Zi)), (aown, .inl (cI, 40, .inl (upd Zi 0 0))), (abetween, .inl (cJ, 1600, .inr (.inl Zl))), (acommunity, .inl (cI, 40, .inl Zi)), (adegrees, .inl (cJ, 40, .inr (.inl Zl)))] sz) := by
  refine Met.ofW (cc := cX5_ownNow) (maxL := 2) (ret := none) (by decide) rfl ?_
  intro p e s m args below meth c s₁ B hml hv
  obtain ⟨rfl, hsz, hP, hK, hD0⟩ := hv
  have hx := B.exec
  have hb := B.bytes
  have hr := B.returns
  have hts := atoms_spec (ws := wsX5_ownNow) B.pre
  have hown : s.vm.findClass RX5 = some m.cls := findClass_of_methodNamed B.named
  have hlocks := B.notSynchronized
  subst hsz
  have hD := hD0.self (sz := s.heap.size)
  generalize hAe : va_A [(h, .inr (5, [.int 1, .ref aweight, .ref aown, .int 0, .ref abetween, .ref acommunity, .ref afresh, .int 0, .ref atold, .ref areached, .ref aplaced, .int 0, .ref amoved, .ref agained, .int 0, .ref adegrees, .long 0])), (aweight, .inl (cI, 1600, .inl Zi)), (aown, .inl (cI, 40, .inl (upd Zi 0 0))), (abetween, .inl (cJ, 1600, .inr (.inl Zl))), (acommunity, .inl (cI, 40, .inl Zi)), (adegrees, .inl (cJ, 40, .inr (.inl Zl)))] s.heap.size = A at hD ⊢
  have hA : ∀ q : Nat, s.heap.size ≤ q → A q := fun q h => by rw [← hAe]; exact Or.inr h
  have hS : va_S A s.heap s.heap [] := va_S.rf
  have hP : va_P (dC, dI) vwCl [(h, .inr (5, [.int 1, .ref aweight, .ref aown, .int 0, .ref abetween, .ref acommunity, .ref afresh, .int 0, .ref atold, .ref areached, .ref aplaced, .int 0, .ref amoved, .ref agained, .int 0, .ref adegrees, .long 0])), (aweight, .inl (cI, 1600, .inl Zi)), (aown, .inl (cI, 40, .inl (upd Zi 0 0))), (abetween, .inl (cJ, 1600, .inr (.inl Zl))), (acommunity, .inl (cI, 40, .inl Zi)), (adegrees, .inl (cJ, 40, .inr (.inl Zl)))] s.heap := hP
  have hl := lv_entry ([.ref h]) (n := 2) (Nat.le_of_ble_eq_true rfl)
  rw [lg_entry_eq]
  generalize (lg_sl ([.ref h]) ++ List.replicate (2 - (lg_sl ([.ref h])).length) Slot.unset).toArray = ls at hl ⊢
  have hl : lv_has ls 2 [(0, .ref h)] := hl
  have i_5 : ∀ w ∈ wsX50, w ∈ wsX5_ownNow := by decide +kernel
  have k_0 := hts (.fieldLink RX5 7 "CommunityLevelsModel" "n" "I") (by decide +kernel)
  have k_1 := hts (.fieldLink RX5 24 "CommunityLevelsModel" "community" "[I") (by decide +kernel)
  have k_2 := hts (.fieldLink RX5 17 "CommunityLevelsModel" "own" "[I") (by decide +kernel)
  refine lv_aload_n hx hb dX5_ownNow_0 rfl (lv_at hl 0 rfl) ?_
  have hPc := hP.sub (ws' := [(h, .inr (5, [.int 1, .ref aweight, .ref aown, .int 0, .ref abetween, .ref acommunity, .ref afresh, .int 0, .ref atold, .ref areached, .ref aplaced, .int 0, .ref amoved, .ref agained, .int 0, .ref adegrees, .long 0])), (aweight, .inl (cI, 1600, .inl Zi)), (abetween, .inl (cJ, 1600, .inr (.inl Zl)))]) [0, 1, 3] rfl
  have hDc := hD.sub (ws' := [(h, .inr (5, [.int 1, .ref aweight, .ref aown, .int 0, .ref abetween, .ref acommunity, .ref afresh, .int 0, .ref atold, .ref areached, .ref aplaced, .int 0, .ref amoved, .ref agained, .int 0, .ref adegrees, .long 0])), (aweight, .inl (cI, 1600, .inl Zi)), (abetween, .inl (cJ, 1600, .inr (.inl Zl)))]) [0, 1, 3] (by decide) rfl
  have hFc := va_free (wc := [(h, .inr (5, [.int 1, .ref aweight, .ref aown, .int 0, .ref abetween, .ref acommunity, .ref afresh, .int 0, .ref atold, .ref areached, .ref aplaced, .int 0, .ref amoved, .ref agained, .int 0, .ref adegrees, .long 0])), (aweight, .inl (cI, 1600, .inl Zi)), (abetween, .inl (cJ, 1600, .inr (.inl Zl)))]) hD hS hA [0, 1, 3] rfl
  refine va_callv (va_runV (As := []) (rest := []) ⟨hx, hb, hml, hown, hts⟩ (c_X5_first l dC dI cI cJ h aweight aown abetween acommunity afresh atold areached aplaced amoved agained adegrees s.heap.size) (cwV 0 hts gX5_ownNow_X5_first rfl rfl rfl (by decide +kernel) ⟨Nat.le_of_ble_eq_true rfl, Nat.le_of_ble_eq_true rfl⟩) ⟨fun a U g mk q => by obtain ⟨q0, q1, qP, qK, qD⟩ := q; exact ⟨q0, q1, qP, va_K.moved (u := U) (U := U.calling g mk a) (Vm.Alike.refl U.vm) qK, qD⟩, va_recv hK hPc (ci := 5) (q0 := 0) rfl rfl, fun U hU hW => ⟨rfl, by rw [hU], by rw [hU]; exact hPc, va_K.moved hW.alike hK, hDc.weaken (fun _ _ _ _ => trivial)⟩⟩ rfl rfl hl.1 rfl (lv_room (Nat.le_of_ble_eq_true rfl)) dX5_ownNow_1 ⟨Nat.le_of_ble_eq_true rfl, Nat.le_of_ble_eq_true rfl⟩) hS (fun q _ h => hFc q h) hFc (fun u_2 t H1 locs ht hvm hw hB hz1 hk1 hS => ?_)
  obtain ⟨hP1, hD1⟩ := hB
  rw [ht] at hP1
  obtain ⟨hP, hD⟩ := va_join (wr := [(aown, .inl (cI, 40, .inl (upd Zi 0 0))), (acommunity, .inl (cI, 40, .inl Zi)), (adegrees, .inl (cJ, 40, .inr (.inl Zl)))]) (w1 := [(h, .inr (5, [.int 1, .ref aweight, .ref aown, .int 1, .ref abetween, .ref acommunity, .ref afresh, .int 0, .ref atold, .ref areached, .ref aplaced, .int 0, .ref amoved, .ref agained, .int 0, .ref adegrees, .long 0])), (aweight, .inl (cI, 1600, .inl Zi)), (abetween, .inl (cJ, 1600, .inr (.inl (vp_updL Zl 0 0))))]) hP hD [0, 1, 3] [2, 4, 5] rfl rfl (by decide) (by decide) hk1 hFc hP1 hD1
  generalize H1 = H at hP hS ⊢
  have hP : va_P (dC, dI) vwCl [(aown, .inl (cI, 40, .inl (upd Zi 0 0))), (acommunity, .inl (cI, 40, .inl Zi)), (adegrees, .inl (cJ, 40, .inr (.inl Zl))), (h, .inr (5, [.int 1, .ref aweight, .ref aown, .int 1, .ref abetween, .ref acommunity, .ref afresh, .int 0, .ref atold, .ref areached, .ref aplaced, .int 0, .ref amoved, .ref agained, .int 0, .ref adegrees, .long 0])), (aweight, .inl (cI, 1600, .inl Zi)), (abetween, .inl (cJ, 1600, .inr (.inl (vp_updL Zl 0 0))))] H := hP
  have hD : va_D A [(aown, .inl (cI, 40, .inl (upd Zi 0 0))), (acommunity, .inl (cI, 40, .inl Zi)), (adegrees, .inl (cJ, 40, .inr (.inl Zl))), (h, .inr (5, [.int 1, .ref aweight, .ref aown, .int 1, .ref abetween, .ref acommunity, .ref afresh, .int 0, .ref atold, .ref areached, .ref aplaced, .int 0, .ref amoved, .ref agained, .int 0, .ref adegrees, .long 0])), (aweight, .inl (cI, 1600, .inl Zi)), (abetween, .inl (cJ, 1600, .inr (.inl (vp_updL Zl 0 0))))] := hD
  refine lv_aload_n hx hb dX5_ownNow_4 rfl (lv_at hl 0 rfl) ?_
  have hPc := hP.sub (ws' := [(h, .inr (5, [.int 1, .ref aweight, .ref aown, .int 1, .ref abetween, .ref acommunity, .ref afresh, .int 0, .ref atold, .ref areached, .ref aplaced, .int 0, .ref amoved, .ref agained, .int 0, .ref adegrees, .long 0])), (abetween, .inl (cJ, 1600, .inr (.inl (vp_updL Zl 0 0)))), (adegrees, .inl (cJ, 40, .inr (.inl Zl)))]) [3, 5, 2] rfl
  have hDc := hD.sub (ws' := [(h, .inr (5, [.int 1, .ref aweight, .ref aown, .int 1, .ref abetween, .ref acommunity, .ref afresh, .int 0, .ref atold, .ref areached, .ref aplaced, .int 0, .ref amoved, .ref agained, .int 0, .ref adegrees, .long 0])), (abetween, .inl (cJ, 1600, .inr (.inl (vp_updL Zl 0 0)))), (adegrees, .inl (cJ, 40, .inr (.inl Zl)))]) [3, 5, 2] (by decide) rfl
  have hFc := va_free (wc := [(h, .inr (5, [.int 1, .ref aweight, .ref aown, .int 1, .ref abetween, .ref acommunity, .ref afresh, .int 0, .ref atold, .ref areached, .ref aplaced, .int 0, .ref amoved, .ref agained, .int 0, .ref adegrees, .long 0])), (abetween, .inl (cJ, 1600, .inr (.inl (vp_updL Zl 0 0)))), (adegrees, .inl (cJ, 40, .inr (.inl Zl)))]) hD hS hA [3, 5, 2] rfl
  refine va_callv (va_runV (As := []) (rest := []) ⟨hx, hb, hml, hown, hts⟩ (c_X5_prepare l dC dI cI cJ h aweight aown abetween acommunity afresh atold areached aplaced amoved agained adegrees H.size) (cwV 0 hts gX5_ownNow_X5_prepare rfl rfl rfl (by decide +kernel) ⟨Nat.le_of_ble_eq_true rfl, Nat.le_of_ble_eq_true rfl⟩) ⟨fun a U g mk q => by obtain ⟨q0, q1, qP, qK, qD⟩ := q; exact ⟨q0, q1, qP, va_K.moved (u := U) (U := U.calling g mk a) (Vm.Alike.refl U.vm) qK, qD⟩, va_recv hK hPc (ci := 5) (q0 := 0) rfl rfl, fun U hU hW => ⟨rfl, by rw [hU], by rw [hU]; exact hPc, va_K.moved hW.alike hK, hDc.weaken (fun _ _ _ _ => trivial)⟩⟩ rfl rfl hl.1 rfl (lv_room (Nat.le_of_ble_eq_true rfl)) dX5_ownNow_5 ⟨Nat.le_of_ble_eq_true rfl, Nat.le_of_ble_eq_true rfl⟩) hS (fun q _ h => hFc q h) hFc (fun u_4 t H1 locs ht hvm hw hB hz1 hk1 hS => ?_)
  obtain ⟨hP1, hD1⟩ := hB
  rw [ht] at hP1
  obtain ⟨hP, hD⟩ := va_join (wr := [(aown, .inl (cI, 40, .inl (upd Zi 0 0))), (acommunity, .inl (cI, 40, .inl Zi)), (aweight, .inl (cI, 1600, .inl Zi))]) (w1 := [(h, .inr (5, [.int 1, .ref aweight, .ref aown, .int 1, .ref abetween, .ref acommunity, .ref afresh, .int 0, .ref atold, .ref areached, .ref aplaced, .int 0, .ref amoved, .ref agained, .int 0, .ref adegrees, .long 0])), (abetween, .inl (cJ, 1600, .inr (.inl (vp_updL Zl 0 0)))), (adegrees, .inl (cJ, 40, .inr (.inl (vp_updL Zl 0 0))))]) hP hD [3, 5, 2] [0, 1, 4] rfl rfl (by decide) (by decide) hk1 hFc hP1 hD1
  generalize H1 = H at hP hS ⊢
  have hP : va_P (dC, dI) vwCl [(aown, .inl (cI, 40, .inl (upd Zi 0 0))), (acommunity, .inl (cI, 40, .inl Zi)), (aweight, .inl (cI, 1600, .inl Zi)), (h, .inr (5, [.int 1, .ref aweight, .ref aown, .int 1, .ref abetween, .ref acommunity, .ref afresh, .int 0, .ref atold, .ref areached, .ref aplaced, .int 0, .ref amoved, .ref agained, .int 0, .ref adegrees, .long 0])), (abetween, .inl (cJ, 1600, .inr (.inl (vp_updL Zl 0 0)))), (adegrees, .inl (cJ, 40, .inr (.inl (vp_updL Zl 0 0))))] H := hP
  have hD : va_D A [(aown, .inl (cI, 40, .inl (upd Zi 0 0))), (acommunity, .inl (cI, 40, .inl Zi)), (aweight, .inl (cI, 1600, .inl Zi)), (h, .inr (5, [.int 1, .ref aweight, .ref aown, .int 1, .ref abetween, .ref acommunity, .ref afresh, .int 0, .ref atold, .ref areached, .ref aplaced, .int 0, .ref amoved, .ref agained, .int 0, .ref adegrees, .long 0])), (abetween, .inl (cJ, 1600, .inr (.inl (vp_updL Zl 0 0)))), (adegrees, .inl (cJ, 40, .inr (.inl (vp_updL Zl 0 0))))] := hD
  refine lv_iconst (v := 0) hx hb dX5_ownNow_8 (by decide) ?_
  refine lv_istore_n (lv' := [(1, .int 0), (0, .ref h)]) hx hb dX5_ownNow_9 rfl hl (by decide) rfl (fun ls hl => ?_)
  refine lv_iload_n hx hb dX5_ownNow_10 rfl (lv_at hl 0 rfl) ?_
  refine lv_aload_n hx hb dX5_ownNow_11 rfl (lv_at hl 1 rfl) ?_
  refine va_get (D := (dC, dI)) (ci := 5) (v := .int 1) (C := RX5) (T := TX5) (N := 17) hx hb hts i_5 hown hK hP 3 rfl rfl 0 (by decide) k_0 (fun _ h9 => h9) rfl dX5_ownNow_12 ?_
  refine lv_icmp_ge (tgt := 36) hx hb dX5_ownNow_15 (by decide) (fun c_5 => ?_) (fun c_5 => ?_)
  · exact absurd c_5 (by decide)
  refine lv_aload_n hx hb dX5_ownNow_18 rfl (lv_at hl 1 rfl) ?_
  refine va_get (D := (dC, dI)) (ci := 5) (v := .ref acommunity) (C := RX5) (T := TX5) (N := 17) hx hb hts i_5 hown hK hP 3 rfl rfl 5 (by decide) k_1 (fun _ h9 => h9) rfl dX5_ownNow_19 ?_
  refine lv_iload_n hx hb dX5_ownNow_22 rfl (lv_at hl 0 rfl) ?_
  refine lv_aload_n hx hb dX5_ownNow_23 rfl (lv_at hl 1 rfl) ?_
  refine va_get (D := (dC, dI)) (ci := 5) (v := .ref aown) (C := RX5) (T := TX5) (N := 17) hx hb hts i_5 hown hK hP 3 rfl rfl 2 (by decide) k_2 (fun _ h9 => h9) rfl dX5_ownNow_24 ?_
  refine lv_iload_n hx hb dX5_ownNow_27 rfl (lv_at hl 0 rfl) ?_
  refine va_iald hx hb hK hP 0 0 rfl rfl (vp_c (by decide)) dX5_ownNow_28 ?_
  refine lc_i (v := 0) (by first | rfl | decide) ?_
  refine va_iast hx hb hK hP hD hS 1 0 rfl rfl (vp_c (by decide)) dX5_ownNow_29 (fun H locs hP hD hS => ?_)
  have hP : va_P (dC, dI) vwCl [(aown, .inl (cI, 40, .inl (upd Zi 0 0))), (acommunity, .inl (cI, 40, .inl (upd Zi 0 0))), (aweight, .inl (cI, 1600, .inl Zi)), (h, .inr (5, [.int 1, .ref aweight, .ref aown, .int 1, .ref abetween, .ref acommunity, .ref afresh, .int 0, .ref atold, .ref areached, .ref aplaced, .int 0, .ref amoved, .ref agained, .int 0, .ref adegrees, .long 0])), (abetween, .inl (cJ, 1600, .inr (.inl (vp_updL Zl 0 0)))), (adegrees, .inl (cJ, 40, .inr (.inl (vp_updL Zl 0 0))))] H := hP
  have hD : va_D A [(aown, .inl (cI, 40, .inl (upd Zi 0 0))), (acommunity, .inl (cI, 40, .inl (upd Zi 0 0))), (aweight, .inl (cI, 1600, .inl Zi)), (h, .inr (5, [.int 1, .ref aweight, .ref aown, .int 1, .ref abetween, .ref acommunity, .ref afresh, .int 0, .ref atold, .ref areached, .ref aplaced, .int 0, .ref amoved, .ref agained, .int 0, .ref adegrees, .long 0])), (abetween, .inl (cJ, 1600, .inr (.inl (vp_updL Zl 0 0)))), (adegrees, .inl (cJ, 40, .inr (.inl (vp_updL Zl 0 0))))] := hD
  refine lv_iinc (v := 1) (lv' := [(1, .int 1), (0, .ref h)]) hx hb dX5_ownNow_30 hl (k := 0) rfl (by decide) (by decide) rfl (fun ls hl => ?_)
  refine lv_goto (tgt := 10) hx hb dX5_ownNow_33 (by decide) ?_
  refine lv_iload_n hx hb dX5_ownNow_10 rfl (lv_at hl 0 rfl) ?_
  refine lv_aload_n hx hb dX5_ownNow_11 rfl (lv_at hl 1 rfl) ?_
  refine va_get (D := (dC, dI)) (ci := 5) (v := .int 1) (C := RX5) (T := TX5) (N := 17) hx hb hts i_5 hown hK hP 3 rfl rfl 0 (by decide) k_0 (fun _ h9 => h9) rfl dX5_ownNow_12 ?_
  refine lv_icmp_ge (tgt := 36) hx hb dX5_ownNow_15 (by decide) (fun c_6 => ?_) (fun c_6 => ?_)
  rotate_left
  · exact absurd (by decide) c_6
  have hP9 := hP.sub (ws' := [(h, .inr (5, [.int 1, .ref aweight, .ref aown, .int 1, .ref abetween, .ref acommunity, .ref afresh, .int 0, .ref atold, .ref areached, .ref aplaced, .int 0, .ref amoved, .ref agained, .int 0, .ref adegrees, .long 0])), (abetween, .inl (cJ, 1600, .inr (.inl (vp_updL Zl 0 0)))), (acommunity, .inl (cI, 40, .inl (upd Zi 0 0))), (adegrees, .inl (cJ, 40, .inr (.inl (vp_updL Zl 0 0))))]) [3, 4, 1, 5] rfl
  have hD9 := hD.sub (ws' := [(h, .inr (5, [.int 1, .ref aweight, .ref aown, .int 1, .ref abetween, .ref acommunity, .ref afresh, .int 0, .ref atold, .ref areached, .ref aplaced, .int 0, .ref amoved, .ref agained, .int 0, .ref adegrees, .long 0])), (abetween, .inl (cJ, 1600, .inr (.inl (vp_updL Zl 0 0)))), (acommunity, .inl (cI, 40, .inl (upd Zi 0 0))), (adegrees, .inl (cJ, 40, .inr (.inl (vp_updL Zl 0 0))))]) [3, 4, 1, 5] (by decide) rfl
  exact W.vret hx hb hr (fun t ht hW => ⟨⟨(), rfl, trivial, by rw [ht]; exact hP9, hD9⟩, hS.F ht⟩) hS.2.2 dX5_ownNow_36
set_option maxHeartbeats 4000000 in
set_option maxRecDepth 100000 in
theorem c_X5_own (l : Launch) (dC : Nat → ClassId) (dI : Nat → Nat → Nat) (cI cJ : ClassId) (h aweight aown abetween acommunity afresh atold areached aplaced amoved agained adegrees : Nat) (sz : Nat) : Met l yX5_own wsX5_own ({ frames := 3, cells := 0, slots := 0, locals := 66 }) (va_Pc [.ref h] (pPre dC dI cI cJ sz [(h, .inr (5, [.int 1, .ref aweight, .ref aown, .int 0, .ref abetween, .ref acommunity, .ref afresh, .int 0, .ref atold, .ref areached, .ref aplaced, .int 0, .ref amoved, .ref agained, .int 0, .ref adegrees, .long 0])), (aweight, .inl (cI, 1600, .inl Zi)), (aown, .inl (cI, 40, .inl (upd Zi 0 0))), (abetween, .inl (cJ, 1600, .inr (.inl Zl))), (acommunity, .inl (cI, 40, .inl Zi)), (adegrees, .inl (cJ, 40, .inr (.inl Zl)))])) (va_Ql (fun (r : Int64) (_ : Unit) => r = 0) (pPost dC dI (va_A [(h, .inr (5, [.int 1, .ref aweight, .ref aown, .int 0, .ref abetween, .ref acommunity, .ref afresh, .int 0, .ref atold, .ref areached, .ref aplaced, .int 0, .ref amoved, .ref agained, .int 0, .ref adegrees, .long 0])), (aweight, .inl (cI, 1600, .inl Zi)), (aown, .inl (cI, 40, .inl (upd Zi 0 0))), (abetween, .inl (cJ, 1600, .inr (.inl Zl))), (acommunity, .inl (cI, 40, .inl Zi)), (adegrees, .inl (cJ, 40, .inr (.inl Zl)))] sz) []) (va_A [(h, .inr (5, [.int 1, .ref aweight, .ref aown, .int 0, .ref abetween, .ref acommunity, .ref afresh, .int 0, .ref atold, .ref areached, .ref aplaced, .int 0, .ref amoved, .ref agained, .int 0, .ref adegrees, .long 0])), (aweight, .inl (cI, 1600, .inl Zi)), (aown, .inl (cI, 40, .inl (upd Zi 0 0))), (abetween, .inl (cJ, 1600, .inr (.inl Zl))), (acommunity, .inl (cI, 40, .inl Zi)), (adegrees, .inl (cJ, 40, .inr (.inl Zl)))] sz)) 0 0 (va_A [(h, .inr (5, [.int 1, .ref aweight, .ref aown, .int 0, .ref abetween, .ref acommunity, .ref afresh, .int 0, .ref atold, .ref areached, .ref aplaced, .int 0, .ref amoved, .ref agained, .int 0, .ref adegrees, .long 0])), (aweight, .inl (cI, 1600, .inl Zi)), (aown, .inl (cI, 40, .inl (upd Zi 0 0))), (abetween, .inl (cJ, 1600, .inr (.inl Zl))), (acommunity, .inl (cI, 40, .inl Zi)), (adegrees, .inl (cJ, 40, .inr (.inl Zl)))] sz) := by
  refine Met.ofW (cc := cX5_own) (maxL := 1) (ret := (some .long)) (by decide) rfl ?_
  intro p e s m args below meth c s₁ B hml hv
  obtain ⟨rfl, hsz, hP, hK, hD0⟩ := hv
  have hx := B.exec
  have hb := B.bytes
  have hr := B.returns
  have hts := atoms_spec (ws := wsX5_own) B.pre
  have hown : s.vm.findClass RX5 = some m.cls := findClass_of_methodNamed B.named
  have hlocks := B.notSynchronized
  subst hsz
  have hD := hD0.self (sz := s.heap.size)
  generalize hAe : va_A [(h, .inr (5, [.int 1, .ref aweight, .ref aown, .int 0, .ref abetween, .ref acommunity, .ref afresh, .int 0, .ref atold, .ref areached, .ref aplaced, .int 0, .ref amoved, .ref agained, .int 0, .ref adegrees, .long 0])), (aweight, .inl (cI, 1600, .inl Zi)), (aown, .inl (cI, 40, .inl (upd Zi 0 0))), (abetween, .inl (cJ, 1600, .inr (.inl Zl))), (acommunity, .inl (cI, 40, .inl Zi)), (adegrees, .inl (cJ, 40, .inr (.inl Zl)))] s.heap.size = A at hD ⊢
  have hA : ∀ q : Nat, s.heap.size ≤ q → A q := fun q h => by rw [← hAe]; exact Or.inr h
  have hS : va_S A s.heap s.heap [] := va_S.rf
  have hP : va_P (dC, dI) vwCl [(h, .inr (5, [.int 1, .ref aweight, .ref aown, .int 0, .ref abetween, .ref acommunity, .ref afresh, .int 0, .ref atold, .ref areached, .ref aplaced, .int 0, .ref amoved, .ref agained, .int 0, .ref adegrees, .long 0])), (aweight, .inl (cI, 1600, .inl Zi)), (aown, .inl (cI, 40, .inl (upd Zi 0 0))), (abetween, .inl (cJ, 1600, .inr (.inl Zl))), (acommunity, .inl (cI, 40, .inl Zi)), (adegrees, .inl (cJ, 40, .inr (.inl Zl)))] s.heap := hP
  have hl := lv_entry ([.ref h]) (n := 1) (Nat.le_of_ble_eq_true rfl)
  rw [lg_entry_eq]
  generalize (lg_sl ([.ref h]) ++ List.replicate (1 - (lg_sl ([.ref h])).length) Slot.unset).toArray = ls at hl ⊢
  have hl : lv_has ls 1 [(0, .ref h)] := hl
  have i_5 : ∀ w ∈ wsX50, w ∈ wsX5_own := by decide +kernel
  have k_0 := hts (.fieldLink RX5 48 "CommunityLevelsModel" "thrown" "I") (by decide +kernel)
  refine lv_aload_n hx hb dX5_own_0 rfl (lv_at hl 0 rfl) ?_
  refine lv_iconst (v := 0) hx hb dX5_own_1 (by decide) ?_
  refine va_put (D := (dC, dI)) (ci := 5) (v := .int 0) (ty := .int) (C := RX5) (T := TX5) (N := 17) hx hb hts i_5 tyX5 tyX5_ok nmX5 hown hK hP hD hS 0 rfl rfl 14 (by decide) k_0 (fun _ h9 => h9) rfl (by decide +kernel) rfl rfl (Nat.le_of_ble_eq_true rfl) dX5_own_2 (fun H locs hP hD hS => ?_)
  have hP : va_P (dC, dI) vwCl [(h, .inr (5, [.int 1, .ref aweight, .ref aown, .int 0, .ref abetween, .ref acommunity, .ref afresh, .int 0, .ref atold, .ref areached, .ref aplaced, .int 0, .ref amoved, .ref agained, .int 0, .ref adegrees, .long 0])), (aweight, .inl (cI, 1600, .inl Zi)), (aown, .inl (cI, 40, .inl (upd Zi 0 0))), (abetween, .inl (cJ, 1600, .inr (.inl Zl))), (acommunity, .inl (cI, 40, .inl Zi)), (adegrees, .inl (cJ, 40, .inr (.inl Zl)))] H := hP
  have hD : va_D A [(h, .inr (5, [.int 1, .ref aweight, .ref aown, .int 0, .ref abetween, .ref acommunity, .ref afresh, .int 0, .ref atold, .ref areached, .ref aplaced, .int 0, .ref amoved, .ref agained, .int 0, .ref adegrees, .long 0])), (aweight, .inl (cI, 1600, .inl Zi)), (aown, .inl (cI, 40, .inl (upd Zi 0 0))), (abetween, .inl (cJ, 1600, .inr (.inl Zl))), (acommunity, .inl (cI, 40, .inl Zi)), (adegrees, .inl (cJ, 40, .inr (.inl Zl)))] := hD
  refine lv_aload_n hx hb dX5_own_5 rfl (lv_at hl 0 rfl) ?_
  have hPc := hP.sub (ws' := [(h, .inr (5, [.int 1, .ref aweight, .ref aown, .int 0, .ref abetween, .ref acommunity, .ref afresh, .int 0, .ref atold, .ref areached, .ref aplaced, .int 0, .ref amoved, .ref agained, .int 0, .ref adegrees, .long 0])), (aweight, .inl (cI, 1600, .inl Zi)), (aown, .inl (cI, 40, .inl (upd Zi 0 0))), (abetween, .inl (cJ, 1600, .inr (.inl Zl))), (acommunity, .inl (cI, 40, .inl Zi)), (adegrees, .inl (cJ, 40, .inr (.inl Zl)))]) [0, 1, 2, 3, 4, 5] rfl
  have hDc := hD.sub (ws' := [(h, .inr (5, [.int 1, .ref aweight, .ref aown, .int 0, .ref abetween, .ref acommunity, .ref afresh, .int 0, .ref atold, .ref areached, .ref aplaced, .int 0, .ref amoved, .ref agained, .int 0, .ref adegrees, .long 0])), (aweight, .inl (cI, 1600, .inl Zi)), (aown, .inl (cI, 40, .inl (upd Zi 0 0))), (abetween, .inl (cJ, 1600, .inr (.inl Zl))), (acommunity, .inl (cI, 40, .inl Zi)), (adegrees, .inl (cJ, 40, .inr (.inl Zl)))]) [0, 1, 2, 3, 4, 5] (by decide) rfl
  have hFc := va_free (wc := [(h, .inr (5, [.int 1, .ref aweight, .ref aown, .int 0, .ref abetween, .ref acommunity, .ref afresh, .int 0, .ref atold, .ref areached, .ref aplaced, .int 0, .ref amoved, .ref agained, .int 0, .ref adegrees, .long 0])), (aweight, .inl (cI, 1600, .inl Zi)), (aown, .inl (cI, 40, .inl (upd Zi 0 0))), (abetween, .inl (cJ, 1600, .inr (.inl Zl))), (acommunity, .inl (cI, 40, .inl Zi)), (adegrees, .inl (cJ, 40, .inr (.inl Zl)))]) hD hS hA [0, 1, 2, 3, 4, 5] rfl
  refine va_callv (va_runV (As := []) (rest := []) ⟨hx, hb, hml, hown, hts⟩ (c_X5_ownNow l dC dI cI cJ h aweight aown abetween acommunity afresh atold areached aplaced amoved agained adegrees H.size) (cwV 0 hts gX5_own_X5_ownNow rfl rfl rfl (by decide +kernel) ⟨Nat.le_of_ble_eq_true rfl, Nat.le_of_ble_eq_true rfl⟩) ⟨fun a U g mk q => by obtain ⟨q0, q1, qP, qK, qD⟩ := q; exact ⟨q0, q1, qP, va_K.moved (u := U) (U := U.calling g mk a) (Vm.Alike.refl U.vm) qK, qD⟩, va_recv hK hPc (ci := 5) (q0 := 0) rfl rfl, fun U hU hW => ⟨rfl, by rw [hU], by rw [hU]; exact hPc, va_K.moved hW.alike hK, hDc.weaken (fun _ _ _ _ => trivial)⟩⟩ rfl rfl hl.1 rfl (lv_room (Nat.le_of_ble_eq_true rfl)) dX5_own_6 ⟨Nat.le_of_ble_eq_true rfl, Nat.le_of_ble_eq_true rfl⟩) hS (fun q _ h => hFc q h) hFc (fun u_2 t H1 locs ht hvm hw hB hz1 hk1 hS => ?_)
  obtain ⟨hP1, hD1⟩ := hB
  rw [ht] at hP1
  obtain ⟨hP, hD⟩ := va_join (wr := []) (w1 := [(h, .inr (5, [.int 1, .ref aweight, .ref aown, .int 1, .ref abetween, .ref acommunity, .ref afresh, .int 0, .ref atold, .ref areached, .ref aplaced, .int 0, .ref amoved, .ref agained, .int 0, .ref adegrees, .long 0])), (abetween, .inl (cJ, 1600, .inr (.inl (vp_updL Zl 0 0)))), (acommunity, .inl (cI, 40, .inl (upd Zi 0 0))), (adegrees, .inl (cJ, 40, .inr (.inl (vp_updL Zl 0 0))))]) hP hD [0, 1, 2, 3, 4, 5] [] rfl rfl (by decide) (by decide) hk1 hFc hP1 hD1
  generalize H1 = H at hP hS ⊢
  have hP : va_P (dC, dI) vwCl [(h, .inr (5, [.int 1, .ref aweight, .ref aown, .int 1, .ref abetween, .ref acommunity, .ref afresh, .int 0, .ref atold, .ref areached, .ref aplaced, .int 0, .ref amoved, .ref agained, .int 0, .ref adegrees, .long 0])), (abetween, .inl (cJ, 1600, .inr (.inl (vp_updL Zl 0 0)))), (acommunity, .inl (cI, 40, .inl (upd Zi 0 0))), (adegrees, .inl (cJ, 40, .inr (.inl (vp_updL Zl 0 0))))] H := hP
  have hD : va_D A [(h, .inr (5, [.int 1, .ref aweight, .ref aown, .int 1, .ref abetween, .ref acommunity, .ref afresh, .int 0, .ref atold, .ref areached, .ref aplaced, .int 0, .ref amoved, .ref agained, .int 0, .ref adegrees, .long 0])), (abetween, .inl (cJ, 1600, .inr (.inl (vp_updL Zl 0 0)))), (acommunity, .inl (cI, 40, .inl (upd Zi 0 0))), (adegrees, .inl (cJ, 40, .inr (.inl (vp_updL Zl 0 0))))] := hD
  refine lv_aload_n hx hb dX5_own_9 rfl (lv_at hl 0 rfl) ?_
  have hPc := hP.sub (ws' := [(h, .inr (5, [.int 1, .ref aweight, .ref aown, .int 1, .ref abetween, .ref acommunity, .ref afresh, .int 0, .ref atold, .ref areached, .ref aplaced, .int 0, .ref amoved, .ref agained, .int 0, .ref adegrees, .long 0])), (abetween, .inl (cJ, 1600, .inr (.inl (vp_updL Zl 0 0)))), (acommunity, .inl (cI, 40, .inl (upd Zi 0 0))), (adegrees, .inl (cJ, 40, .inr (.inl (vp_updL Zl 0 0))))]) [0, 1, 2, 3] rfl
  have hDc := hD.sub (ws' := [(h, .inr (5, [.int 1, .ref aweight, .ref aown, .int 1, .ref abetween, .ref acommunity, .ref afresh, .int 0, .ref atold, .ref areached, .ref aplaced, .int 0, .ref amoved, .ref agained, .int 0, .ref adegrees, .long 0])), (abetween, .inl (cJ, 1600, .inr (.inl (vp_updL Zl 0 0)))), (acommunity, .inl (cI, 40, .inl (upd Zi 0 0))), (adegrees, .inl (cJ, 40, .inr (.inl (vp_updL Zl 0 0))))]) [0, 1, 2, 3] (by decide) rfl
  have hFc := va_free (wc := [(h, .inr (5, [.int 1, .ref aweight, .ref aown, .int 1, .ref abetween, .ref acommunity, .ref afresh, .int 0, .ref atold, .ref areached, .ref aplaced, .int 0, .ref amoved, .ref agained, .int 0, .ref adegrees, .long 0])), (abetween, .inl (cJ, 1600, .inr (.inl (vp_updL Zl 0 0)))), (acommunity, .inl (cI, 40, .inl (upd Zi 0 0))), (adegrees, .inl (cJ, 40, .inr (.inl (vp_updL Zl 0 0))))]) hD hS hA [0, 1, 2, 3] rfl
  refine va_calll (va_runV (As := []) (rest := []) ⟨hx, hb, hml, hown, hts⟩ (c_X5_modularityNow l dC dI cI cJ h aweight aown abetween acommunity afresh atold areached aplaced amoved agained adegrees H.size (upd Zi 0 0) (by first | rfl | exact hz | decide)) (cwV 0 hts gX5_own_X5_modularityNow rfl rfl rfl (by decide +kernel) ⟨Nat.le_of_ble_eq_true rfl, Nat.le_of_ble_eq_true rfl⟩) ⟨fun a U g mk q => by obtain ⟨q0, q1, qP, qK, qD⟩ := q; exact ⟨q0, q1, qP, va_K.moved (u := U) (U := U.calling g mk a) (Vm.Alike.refl U.vm) qK, qD⟩, va_recv hK hPc (ci := 5) (q0 := 0) rfl rfl, fun U hU hW => ⟨rfl, by rw [hU], by rw [hU]; exact hPc, va_K.moved hW.alike hK, hDc.weaken (fun _ _ _ _ => trivial)⟩⟩ rfl rfl hl.1 rfl (lv_room (Nat.le_of_ble_eq_true rfl)) dX5_own_10 ⟨Nat.le_of_ble_eq_true rfl, Nat.le_of_ble_eq_true rfl⟩) hS (fun q _ h => hFc q h) hFc (fun r_3 u_4 t H1 locs ht hvm hw hB hz1 hk1 hS => ?_)
  obtain ⟨hP1, hD1⟩ := hB
  rw [ht] at hP1
  obtain ⟨hP, hD⟩ := va_join (wr := []) (w1 := [(h, .inr (5, [.int 1, .ref aweight, .ref aown, .int 1, .ref abetween, .ref acommunity, .ref afresh, .int 0, .ref atold, .ref areached, .ref aplaced, .int 0, .ref amoved, .ref agained, .int 0, .ref adegrees, .long 0])), (abetween, .inl (cJ, 1600, .inr (.inl (vp_updL Zl 0 0)))), (acommunity, .inl (cI, 40, .inl (upd Zi 0 0))), (adegrees, .inl (cJ, 40, .inr (.inl (vp_updL Zl 0 0))))]) hP hD [0, 1, 2, 3] [] rfl rfl (by decide) (by decide) hk1 hFc hP1 hD1
  generalize H1 = H at hP hS ⊢
  have hP : va_P (dC, dI) vwCl [(h, .inr (5, [.int 1, .ref aweight, .ref aown, .int 1, .ref abetween, .ref acommunity, .ref afresh, .int 0, .ref atold, .ref areached, .ref aplaced, .int 0, .ref amoved, .ref agained, .int 0, .ref adegrees, .long 0])), (abetween, .inl (cJ, 1600, .inr (.inl (vp_updL Zl 0 0)))), (acommunity, .inl (cI, 40, .inl (upd Zi 0 0))), (adegrees, .inl (cJ, 40, .inr (.inl (vp_updL Zl 0 0))))] H := hP
  have hD : va_D A [(h, .inr (5, [.int 1, .ref aweight, .ref aown, .int 1, .ref abetween, .ref acommunity, .ref afresh, .int 0, .ref atold, .ref areached, .ref aplaced, .int 0, .ref amoved, .ref agained, .int 0, .ref adegrees, .long 0])), (abetween, .inl (cJ, 1600, .inr (.inl (vp_updL Zl 0 0)))), (acommunity, .inl (cI, 40, .inl (upd Zi 0 0))), (adegrees, .inl (cJ, 40, .inr (.inl (vp_updL Zl 0 0))))] := hD
  obtain rfl : r_3 = 0 := hw
  have hP9 := hP.sub (ws' := []) [] rfl
  have hD9 := hD.sub (ws' := []) [] (by decide) rfl
  exact W.lret (v := 0) hx hb hr (fun t ht hW => ⟨⟨_, (), rfl, rfl, by rw [ht]; exact hP9, hD9⟩, hS.F ht⟩) hS.2.2 dX5_own_13
set_option maxHeartbeats 4000000 in
set_option maxRecDepth 100000 in
theorem c_X5_gain (l : Launch) (dC : Nat → ClassId) (dI : Nat → Nat → Nat) (cI cJ : ClassId) (h aweight aown abetween acommunity afresh atold areached aplaced amoved agained adegrees : Nat) (sz : Nat) : Met l yX5_gain wsX5_gain ({ frames := 3, cells := 0, slots := 0, locals := 66 }) (va_Pc [.ref h, .int 0, .int 0] (pPre dC dI cI cJ sz [(h, .inr (5, [.int 1, .ref aweight, .ref aown, .int 0, .ref abetween, .ref acommunity, .ref afresh, .int 0, .ref atold, .ref areached, .ref aplaced, .int 0, .ref amoved, .ref agained, .int 0, .ref adegrees, .long 0])), (aweight, .inl (cI, 1600, .inl Zi)), (aown, .inl (cI, 40, .inl (upd Zi 0 0))), (abetween, .inl (cJ, 1600, .inr (.inl Zl))), (acommunity, .inl (cI, 40, .inl Zi)), (adegrees, .inl (cJ, 40, .inr (.inl Zl)))])) (va_Ql (fun (r : Int64) (_ : Unit) => r = 0) (pPost dC dI (va_A [(h, .inr (5, [.int 1, .ref aweight, .ref aown, .int 0, .ref abetween, .ref acommunity, .ref afresh, .int 0, .ref atold, .ref areached, .ref aplaced, .int 0, .ref amoved, .ref agained, .int 0, .ref adegrees, .long 0])), (aweight, .inl (cI, 1600, .inl Zi)), (aown, .inl (cI, 40, .inl (upd Zi 0 0))), (abetween, .inl (cJ, 1600, .inr (.inl Zl))), (acommunity, .inl (cI, 40, .inl Zi)), (adegrees, .inl (cJ, 40, .inr (.inl Zl)))] sz) [(h, .inr (5, [.int 1, .ref aweight, .ref aown, .int 1, .ref abetween, .ref acommunity, .ref afresh, .int 0, .ref atold, .ref areached, .ref aplaced, .int 0, .ref amoved, .ref agained, .int 0, .ref adegrees, .long 0]))]) (va_A [(h, .inr (5, [.int 1, .ref aweight, .ref aown, .int 0, .ref abetween, .ref acommunity, .ref afresh, .int 0, .ref atold, .ref areached, .ref aplaced, .int 0, .ref amoved, .ref agained, .int 0, .ref adegrees, .long 0])), (aweight, .inl (cI, 1600, .inl Zi)), (aown, .inl (cI, 40, .inl (upd Zi 0 0))), (abetween, .inl (cJ, 1600, .inr (.inl Zl))), (acommunity, .inl (cI, 40, .inl Zi)), (adegrees, .inl (cJ, 40, .inr (.inl Zl)))] sz)) 0 0 (va_A [(h, .inr (5, [.int 1, .ref aweight, .ref aown, .int 0, .ref abetween, .ref acommunity, .ref afresh, .int 0, .ref atold, .ref areached, .ref aplaced, .int 0, .ref amoved, .ref agained, .int 0, .ref adegrees, .long 0])), (aweight, .inl (cI, 1600, .inl Zi)), (aown, .inl (cI, 40, .inl (upd Zi 0 0))), (abetween, .inl (cJ, 1600, .inr (.inl Zl))), (acommunity, .inl (cI, 40, .inl Zi)), (adegrees, .inl (cJ, 40, .inr (.inl Zl)))] sz) := by
  refine Met.ofW (cc := cX5_gain) (maxL := 3) (ret := (some .long)) (by decide) rfl ?_
  intro p e s m args below meth c s₁ B hml hv
  obtain ⟨rfl, hsz, hP, hK, hD0⟩ := hv
  have hx := B.exec
  have hb := B.bytes
  have hr := B.returns
  have hts := atoms_spec (ws := wsX5_gain) B.pre
  have hown : s.vm.findClass RX5 = some m.cls := findClass_of_methodNamed B.named
  have hlocks := B.notSynchronized
  subst hsz
  have hD := hD0.self (sz := s.heap.size)
  generalize hAe : va_A [(h, .inr (5, [.int 1, .ref aweight, .ref aown, .int 0, .ref abetween, .ref acommunity, .ref afresh, .int 0, .ref atold, .ref areached, .ref aplaced, .int 0, .ref amoved, .ref agained, .int 0, .ref adegrees, .long 0])), (aweight, .inl (cI, 1600, .inl Zi)), (aown, .inl (cI, 40, .inl (upd Zi 0 0))), (abetween, .inl (cJ, 1600, .inr (.inl Zl))), (acommunity, .inl (cI, 40, .inl Zi)), (adegrees, .inl (cJ, 40, .inr (.inl Zl)))] s.heap.size = A at hD ⊢
  have hA : ∀ q : Nat, s.heap.size ≤ q → A q := fun q h => by rw [← hAe]; exact Or.inr h
  have hS : va_S A s.heap s.heap [] := va_S.rf
  have hP : va_P (dC, dI) vwCl [(h, .inr (5, [.int 1, .ref aweight, .ref aown, .int 0, .ref abetween, .ref acommunity, .ref afresh, .int 0, .ref atold, .ref areached, .ref aplaced, .int 0, .ref amoved, .ref agained, .int 0, .ref adegrees, .long 0])), (aweight, .inl (cI, 1600, .inl Zi)), (aown, .inl (cI, 40, .inl (upd Zi 0 0))), (abetween, .inl (cJ, 1600, .inr (.inl Zl))), (acommunity, .inl (cI, 40, .inl Zi)), (adegrees, .inl (cJ, 40, .inr (.inl Zl)))] s.heap := hP
  have hl := lv_entry ([.ref h, .int 0, .int 0]) (n := 3) (Nat.le_of_ble_eq_true rfl)
  rw [lg_entry_eq]
  generalize (lg_sl ([.ref h, .int 0, .int 0]) ++ List.replicate (3 - (lg_sl ([.ref h, .int 0, .int 0])).length) Slot.unset).toArray = ls at hl ⊢
  have hl : lv_has ls 3 [(0, .ref h), (1, .int 0), (2, .int 0)] := hl
  have i_5 : ∀ w ∈ wsX50, w ∈ wsX5_gain := by decide +kernel
  have k_0 := hts (.fieldLink RX5 48 "CommunityLevelsModel" "thrown" "I") (by decide +kernel)
  refine lv_aload_n hx hb dX5_gain_0 rfl (lv_at hl 0 rfl) ?_
  refine lv_aload_n hx hb dX5_gain_1 rfl (lv_at hl 0 rfl) ?_
  refine lv_iload_n hx hb dX5_gain_2 rfl (lv_at hl 1 rfl) ?_
  have hPc := hP.sub (ws' := [(h, .inr (5, [.int 1, .ref aweight, .ref aown, .int 0, .ref abetween, .ref acommunity, .ref afresh, .int 0, .ref atold, .ref areached, .ref aplaced, .int 0, .ref amoved, .ref agained, .int 0, .ref adegrees, .long 0]))]) [0] rfl
  have hDc := hD.sub (ws' := [(h, .inr (5, [.int 1, .ref aweight, .ref aown, .int 0, .ref abetween, .ref acommunity, .ref afresh, .int 0, .ref atold, .ref areached, .ref aplaced, .int 0, .ref amoved, .ref agained, .int 0, .ref adegrees, .long 0]))]) [0] (by decide) rfl
  have hFc := va_free (wc := [(h, .inr (5, [.int 1, .ref aweight, .ref aown, .int 0, .ref abetween, .ref acommunity, .ref afresh, .int 0, .ref atold, .ref areached, .ref aplaced, .int 0, .ref amoved, .ref agained, .int 0, .ref adegrees, .long 0]))]) hD hS hA [0] rfl
  refine va_calli (va_runV (As := [.int 0]) (rest := [.ref h]) ⟨hx, hb, hml, hown, hts⟩ (c_X5_noNode l dC dI cI cJ h aweight aown abetween acommunity afresh atold areached aplaced amoved agained adegrees s.heap.size 0) (cwV 1 hts gX5_gain_X5_noNode rfl rfl rfl (by decide +kernel) ⟨Nat.le_of_ble_eq_true rfl, Nat.le_of_ble_eq_true rfl⟩) ⟨fun a U g mk q => by obtain ⟨q0, q1, qP, qK, qD⟩ := q; exact ⟨q0, q1, qP, va_K.moved (u := U) (U := U.calling g mk a) (Vm.Alike.refl U.vm) qK, qD⟩, va_recv hK hPc (ci := 5) (q0 := 0) rfl rfl, fun U hU hW => ⟨rfl, by rw [hU], by rw [hU]; exact hPc, va_K.moved hW.alike hK, hDc.weaken (fun _ _ _ _ => trivial)⟩⟩ rfl rfl hl.1 rfl (lv_room (Nat.le_of_ble_eq_true rfl)) dX5_gain_3 ⟨Nat.le_of_ble_eq_true rfl, Nat.le_of_ble_eq_true rfl⟩) hS (fun q _ h => hFc q h) hFc (fun r_1 u_2 t H1 locs ht hvm hw hB hz1 hk1 hS => ?_)
  obtain ⟨hP1, hD1⟩ := hB
  rw [ht] at hP1
  obtain ⟨hP, hD⟩ := va_join (wr := [(aweight, .inl (cI, 1600, .inl Zi)), (aown, .inl (cI, 40, .inl (upd Zi 0 0))), (abetween, .inl (cJ, 1600, .inr (.inl Zl))), (acommunity, .inl (cI, 40, .inl Zi)), (adegrees, .inl (cJ, 40, .inr (.inl Zl)))]) (w1 := [(h, .inr (5, [.int 1, .ref aweight, .ref aown, .int 0, .ref abetween, .ref acommunity, .ref afresh, .int 0, .ref atold, .ref areached, .ref aplaced, .int 0, .ref amoved, .ref agained, .int 0, .ref adegrees, .long 0]))]) hP hD [0] [1, 2, 3, 4, 5] rfl rfl (by decide) (by decide) hk1 hFc hP1 hD1
  generalize H1 = H at hP hS ⊢
  have hP : va_P (dC, dI) vwCl [(aweight, .inl (cI, 1600, .inl Zi)), (aown, .inl (cI, 40, .inl (upd Zi 0 0))), (abetween, .inl (cJ, 1600, .inr (.inl Zl))), (acommunity, .inl (cI, 40, .inl Zi)), (adegrees, .inl (cJ, 40, .inr (.inl Zl))), (h, .inr (5, [.int 1, .ref aweight, .ref aown, .int 0, .ref abetween, .ref acommunity, .ref afresh, .int 0, .ref atold, .ref areached, .ref aplaced, .int 0, .ref amoved, .ref agained, .int 0, .ref adegrees, .long 0]))] H := hP
  have hD : va_D A [(aweight, .inl (cI, 1600, .inl Zi)), (aown, .inl (cI, 40, .inl (upd Zi 0 0))), (abetween, .inl (cJ, 1600, .inr (.inl Zl))), (acommunity, .inl (cI, 40, .inl Zi)), (adegrees, .inl (cJ, 40, .inr (.inl Zl))), (h, .inr (5, [.int 1, .ref aweight, .ref aown, .int 0, .ref abetween, .ref acommunity, .ref afresh, .int 0, .ref atold, .ref areached, .ref aplaced, .int 0, .ref amoved, .ref agained, .int 0, .ref adegrees, .long 0]))] := hD
  obtain rfl : r_1 = 0 := hw
  refine lv_if_ne (tgt := 17) hx hb dX5_gain_6 (by decide) (fun c_3 => ?_) (fun c_3 => ?_)
  · exact absurd c_3 (by decide)
  refine lv_aload_n hx hb dX5_gain_9 rfl (lv_at hl 0 rfl) ?_
  refine lv_iload_n hx hb dX5_gain_10 rfl (lv_at hl 2 rfl) ?_
  have hPc := hP.sub (ws' := [(h, .inr (5, [.int 1, .ref aweight, .ref aown, .int 0, .ref abetween, .ref acommunity, .ref afresh, .int 0, .ref atold, .ref areached, .ref aplaced, .int 0, .ref amoved, .ref agained, .int 0, .ref adegrees, .long 0]))]) [5] rfl
  have hDc := hD.sub (ws' := [(h, .inr (5, [.int 1, .ref aweight, .ref aown, .int 0, .ref abetween, .ref acommunity, .ref afresh, .int 0, .ref atold, .ref areached, .ref aplaced, .int 0, .ref amoved, .ref agained, .int 0, .ref adegrees, .long 0]))]) [5] (by decide) rfl
  have hFc := va_free (wc := [(h, .inr (5, [.int 1, .ref aweight, .ref aown, .int 0, .ref abetween, .ref acommunity, .ref afresh, .int 0, .ref atold, .ref areached, .ref aplaced, .int 0, .ref amoved, .ref agained, .int 0, .ref adegrees, .long 0]))]) hD hS hA [5] rfl
  refine va_calli (va_runV (As := [.int 0]) (rest := [.ref h]) ⟨hx, hb, hml, hown, hts⟩ (c_X5_noNode l dC dI cI cJ h aweight aown abetween acommunity afresh atold areached aplaced amoved agained adegrees H.size 0) (cwV 1 hts gX5_gain_X5_noNode rfl rfl rfl (by decide +kernel) ⟨Nat.le_of_ble_eq_true rfl, Nat.le_of_ble_eq_true rfl⟩) ⟨fun a U g mk q => by obtain ⟨q0, q1, qP, qK, qD⟩ := q; exact ⟨q0, q1, qP, va_K.moved (u := U) (U := U.calling g mk a) (Vm.Alike.refl U.vm) qK, qD⟩, va_recv hK hPc (ci := 5) (q0 := 0) rfl rfl, fun U hU hW => ⟨rfl, by rw [hU], by rw [hU]; exact hPc, va_K.moved hW.alike hK, hDc.weaken (fun _ _ _ _ => trivial)⟩⟩ rfl rfl hl.1 rfl (lv_room (Nat.le_of_ble_eq_true rfl)) dX5_gain_11 ⟨Nat.le_of_ble_eq_true rfl, Nat.le_of_ble_eq_true rfl⟩) hS (fun q _ h => hFc q h) hFc (fun r_4 u_5 t H1 locs ht hvm hw hB hz1 hk1 hS => ?_)
  obtain ⟨hP1, hD1⟩ := hB
  rw [ht] at hP1
  obtain ⟨hP, hD⟩ := va_join (wr := [(aweight, .inl (cI, 1600, .inl Zi)), (aown, .inl (cI, 40, .inl (upd Zi 0 0))), (abetween, .inl (cJ, 1600, .inr (.inl Zl))), (acommunity, .inl (cI, 40, .inl Zi)), (adegrees, .inl (cJ, 40, .inr (.inl Zl)))]) (w1 := [(h, .inr (5, [.int 1, .ref aweight, .ref aown, .int 0, .ref abetween, .ref acommunity, .ref afresh, .int 0, .ref atold, .ref areached, .ref aplaced, .int 0, .ref amoved, .ref agained, .int 0, .ref adegrees, .long 0]))]) hP hD [5] [0, 1, 2, 3, 4] rfl rfl (by decide) (by decide) hk1 hFc hP1 hD1
  generalize H1 = H at hP hS ⊢
  have hP : va_P (dC, dI) vwCl [(aweight, .inl (cI, 1600, .inl Zi)), (aown, .inl (cI, 40, .inl (upd Zi 0 0))), (abetween, .inl (cJ, 1600, .inr (.inl Zl))), (acommunity, .inl (cI, 40, .inl Zi)), (adegrees, .inl (cJ, 40, .inr (.inl Zl))), (h, .inr (5, [.int 1, .ref aweight, .ref aown, .int 0, .ref abetween, .ref acommunity, .ref afresh, .int 0, .ref atold, .ref areached, .ref aplaced, .int 0, .ref amoved, .ref agained, .int 0, .ref adegrees, .long 0]))] H := hP
  have hD : va_D A [(aweight, .inl (cI, 1600, .inl Zi)), (aown, .inl (cI, 40, .inl (upd Zi 0 0))), (abetween, .inl (cJ, 1600, .inr (.inl Zl))), (acommunity, .inl (cI, 40, .inl Zi)), (adegrees, .inl (cJ, 40, .inr (.inl Zl))), (h, .inr (5, [.int 1, .ref aweight, .ref aown, .int 0, .ref abetween, .ref acommunity, .ref afresh, .int 0, .ref atold, .ref areached, .ref aplaced, .int 0, .ref amoved, .ref agained, .int 0, .ref adegrees, .long 0]))] := hD
  obtain rfl : r_4 = 0 := hw
  refine lv_if_eq (tgt := 21) hx hb dX5_gain_14 (by decide) (fun c_6 => ?_) (fun c_6 => ?_)
  rotate_left
  · exact absurd (by decide) c_6
  refine lv_iconst (v := 0) hx hb dX5_gain_21 (by decide) ?_
  refine va_put (D := (dC, dI)) (ci := 5) (v := .int 0) (ty := .int) (C := RX5) (T := TX5) (N := 17) hx hb hts i_5 tyX5 tyX5_ok nmX5 hown hK hP hD hS 5 rfl rfl 14 (by decide) k_0 (fun _ h9 => h9) rfl (by decide +kernel) rfl rfl (Nat.le_of_ble_eq_true rfl) dX5_gain_22 (fun H locs hP hD hS => ?_)
  have hP : va_P (dC, dI) vwCl [(aweight, .inl (cI, 1600, .inl Zi)), (aown, .inl (cI, 40, .inl (upd Zi 0 0))), (abetween, .inl (cJ, 1600, .inr (.inl Zl))), (acommunity, .inl (cI, 40, .inl Zi)), (adegrees, .inl (cJ, 40, .inr (.inl Zl))), (h, .inr (5, [.int 1, .ref aweight, .ref aown, .int 0, .ref abetween, .ref acommunity, .ref afresh, .int 0, .ref atold, .ref areached, .ref aplaced, .int 0, .ref amoved, .ref agained, .int 0, .ref adegrees, .long 0]))] H := hP
  have hD : va_D A [(aweight, .inl (cI, 1600, .inl Zi)), (aown, .inl (cI, 40, .inl (upd Zi 0 0))), (abetween, .inl (cJ, 1600, .inr (.inl Zl))), (acommunity, .inl (cI, 40, .inl Zi)), (adegrees, .inl (cJ, 40, .inr (.inl Zl))), (h, .inr (5, [.int 1, .ref aweight, .ref aown, .int 0, .ref abetween, .ref acommunity, .ref afresh, .int 0, .ref atold, .ref areached, .ref aplaced, .int 0, .ref amoved, .ref agained, .int 0, .ref adegrees, .long 0]))] := hD
  refine lv_aload_n hx hb dX5_gain_25 rfl (lv_at hl 0 rfl) ?_
  refine va_get (D := (dC, dI)) (ci := 5) (v := .int 0) (C := RX5) (T := TX5) (N := 17) hx hb hts i_5 hown hK hP 5 rfl rfl 14 (by decide) k_0 (fun _ h9 => h9) rfl dX5_gain_26 ?_
  refine lv_if_le (tgt := 34) hx hb dX5_gain_29 (by decide) (fun c_7 => ?_) (fun c_7 => ?_)
  rotate_left
  · exact absurd (by decide) c_7
  refine lv_aload_n hx hb dX5_gain_34 rfl (lv_at hl 0 rfl) ?_
  have hPc := hP.sub (ws' := [(h, .inr (5, [.int 1, .ref aweight, .ref aown, .int 0, .ref abetween, .ref acommunity, .ref afresh, .int 0, .ref atold, .ref areached, .ref aplaced, .int 0, .ref amoved, .ref agained, .int 0, .ref adegrees, .long 0])), (aweight, .inl (cI, 1600, .inl Zi)), (aown, .inl (cI, 40, .inl (upd Zi 0 0))), (abetween, .inl (cJ, 1600, .inr (.inl Zl))), (acommunity, .inl (cI, 40, .inl Zi)), (adegrees, .inl (cJ, 40, .inr (.inl Zl)))]) [5, 0, 1, 2, 3, 4] rfl
  have hDc := hD.sub (ws' := [(h, .inr (5, [.int 1, .ref aweight, .ref aown, .int 0, .ref abetween, .ref acommunity, .ref afresh, .int 0, .ref atold, .ref areached, .ref aplaced, .int 0, .ref amoved, .ref agained, .int 0, .ref adegrees, .long 0])), (aweight, .inl (cI, 1600, .inl Zi)), (aown, .inl (cI, 40, .inl (upd Zi 0 0))), (abetween, .inl (cJ, 1600, .inr (.inl Zl))), (acommunity, .inl (cI, 40, .inl Zi)), (adegrees, .inl (cJ, 40, .inr (.inl Zl)))]) [5, 0, 1, 2, 3, 4] (by decide) rfl
  have hFc := va_free (wc := [(h, .inr (5, [.int 1, .ref aweight, .ref aown, .int 0, .ref abetween, .ref acommunity, .ref afresh, .int 0, .ref atold, .ref areached, .ref aplaced, .int 0, .ref amoved, .ref agained, .int 0, .ref adegrees, .long 0])), (aweight, .inl (cI, 1600, .inl Zi)), (aown, .inl (cI, 40, .inl (upd Zi 0 0))), (abetween, .inl (cJ, 1600, .inr (.inl Zl))), (acommunity, .inl (cI, 40, .inl Zi)), (adegrees, .inl (cJ, 40, .inr (.inl Zl)))]) hD hS hA [5, 0, 1, 2, 3, 4] rfl
  refine va_callv (va_runV (As := []) (rest := []) ⟨hx, hb, hml, hown, hts⟩ (c_X5_ownNow l dC dI cI cJ h aweight aown abetween acommunity afresh atold areached aplaced amoved agained adegrees H.size) (cwV 0 hts gX5_gain_X5_ownNow rfl rfl rfl (by decide +kernel) ⟨Nat.le_of_ble_eq_true rfl, Nat.le_of_ble_eq_true rfl⟩) ⟨fun a U g mk q => by obtain ⟨q0, q1, qP, qK, qD⟩ := q; exact ⟨q0, q1, qP, va_K.moved (u := U) (U := U.calling g mk a) (Vm.Alike.refl U.vm) qK, qD⟩, va_recv hK hPc (ci := 5) (q0 := 0) rfl rfl, fun U hU hW => ⟨rfl, by rw [hU], by rw [hU]; exact hPc, va_K.moved hW.alike hK, hDc.weaken (fun _ _ _ _ => trivial)⟩⟩ rfl rfl hl.1 rfl (lv_room (Nat.le_of_ble_eq_true rfl)) dX5_gain_35 ⟨Nat.le_of_ble_eq_true rfl, Nat.le_of_ble_eq_true rfl⟩) hS (fun q _ h => hFc q h) hFc (fun u_9 t H1 locs ht hvm hw hB hz1 hk1 hS => ?_)
  obtain ⟨hP1, hD1⟩ := hB
  rw [ht] at hP1
  obtain ⟨hP, hD⟩ := va_join (wr := []) (w1 := [(h, .inr (5, [.int 1, .ref aweight, .ref aown, .int 1, .ref abetween, .ref acommunity, .ref afresh, .int 0, .ref atold, .ref areached, .ref aplaced, .int 0, .ref amoved, .ref agained, .int 0, .ref adegrees, .long 0])), (abetween, .inl (cJ, 1600, .inr (.inl (vp_updL Zl 0 0)))), (acommunity, .inl (cI, 40, .inl (upd Zi 0 0))), (adegrees, .inl (cJ, 40, .inr (.inl (vp_updL Zl 0 0))))]) hP hD [5, 0, 1, 2, 3, 4] [] rfl rfl (by decide) (by decide) hk1 hFc hP1 hD1
  generalize H1 = H at hP hS ⊢
  have hP : va_P (dC, dI) vwCl [(h, .inr (5, [.int 1, .ref aweight, .ref aown, .int 1, .ref abetween, .ref acommunity, .ref afresh, .int 0, .ref atold, .ref areached, .ref aplaced, .int 0, .ref amoved, .ref agained, .int 0, .ref adegrees, .long 0])), (abetween, .inl (cJ, 1600, .inr (.inl (vp_updL Zl 0 0)))), (acommunity, .inl (cI, 40, .inl (upd Zi 0 0))), (adegrees, .inl (cJ, 40, .inr (.inl (vp_updL Zl 0 0))))] H := hP
  have hD : va_D A [(h, .inr (5, [.int 1, .ref aweight, .ref aown, .int 1, .ref abetween, .ref acommunity, .ref afresh, .int 0, .ref atold, .ref areached, .ref aplaced, .int 0, .ref amoved, .ref agained, .int 0, .ref adegrees, .long 0])), (abetween, .inl (cJ, 1600, .inr (.inl (vp_updL Zl 0 0)))), (acommunity, .inl (cI, 40, .inl (upd Zi 0 0))), (adegrees, .inl (cJ, 40, .inr (.inl (vp_updL Zl 0 0))))] := hD
  refine lv_aload_n hx hb dX5_gain_38 rfl (lv_at hl 0 rfl) ?_
  refine lv_iload_n hx hb dX5_gain_39 rfl (lv_at hl 1 rfl) ?_
  refine lv_iload_n hx hb dX5_gain_40 rfl (lv_at hl 2 rfl) ?_
  have hPc := hP.sub (ws' := [(h, .inr (5, [.int 1, .ref aweight, .ref aown, .int 1, .ref abetween, .ref acommunity, .ref afresh, .int 0, .ref atold, .ref areached, .ref aplaced, .int 0, .ref amoved, .ref agained, .int 0, .ref adegrees, .long 0])), (acommunity, .inl (cI, 40, .inl (upd Zi 0 0)))]) [0, 2] rfl
  have hDc := hD.sub (ws' := [(h, .inr (5, [.int 1, .ref aweight, .ref aown, .int 1, .ref abetween, .ref acommunity, .ref afresh, .int 0, .ref atold, .ref areached, .ref aplaced, .int 0, .ref amoved, .ref agained, .int 0, .ref adegrees, .long 0])), (acommunity, .inl (cI, 40, .inl (upd Zi 0 0)))]) [0, 2] (by decide) rfl
  have hFc := va_free (wc := [(h, .inr (5, [.int 1, .ref aweight, .ref aown, .int 1, .ref abetween, .ref acommunity, .ref afresh, .int 0, .ref atold, .ref areached, .ref aplaced, .int 0, .ref amoved, .ref agained, .int 0, .ref adegrees, .long 0])), (acommunity, .inl (cI, 40, .inl (upd Zi 0 0)))]) hD hS hA [0, 2] rfl
  refine va_calll (va_runV (As := [.int 0, .int 0]) (rest := []) ⟨hx, hb, hml, hown, hts⟩ (c_X5_gainOf l dC dI cI cJ h aweight aown abetween acommunity afresh atold areached aplaced amoved agained adegrees H.size (upd Zi 0 0) (by first | rfl | exact hz | decide)) (cwV 2 hts gX5_gain_X5_gainOf rfl rfl rfl (by decide +kernel) ⟨Nat.le_of_ble_eq_true rfl, Nat.le_of_ble_eq_true rfl⟩) ⟨fun a U g mk q => by obtain ⟨q0, q1, qP, qK, qD⟩ := q; exact ⟨q0, q1, qP, va_K.moved (u := U) (U := U.calling g mk a) (Vm.Alike.refl U.vm) qK, qD⟩, va_recv hK hPc (ci := 5) (q0 := 0) rfl rfl, fun U hU hW => ⟨rfl, by rw [hU], by rw [hU]; exact hPc, va_K.moved hW.alike hK, hDc.weaken (fun _ _ _ _ => trivial)⟩⟩ rfl rfl hl.1 rfl (lv_room (Nat.le_of_ble_eq_true rfl)) dX5_gain_41 ⟨Nat.le_of_ble_eq_true rfl, Nat.le_of_ble_eq_true rfl⟩) hS (fun q _ h => hFc q h) hFc (fun r_10 u_11 t H1 locs ht hvm hw hB hz1 hk1 hS => ?_)
  obtain ⟨hP1, hD1⟩ := hB
  rw [ht] at hP1
  obtain ⟨hP, hD⟩ := va_join (wr := [(abetween, .inl (cJ, 1600, .inr (.inl (vp_updL Zl 0 0)))), (adegrees, .inl (cJ, 40, .inr (.inl (vp_updL Zl 0 0))))]) (w1 := [(h, .inr (5, [.int 1, .ref aweight, .ref aown, .int 1, .ref abetween, .ref acommunity, .ref afresh, .int 0, .ref atold, .ref areached, .ref aplaced, .int 0, .ref amoved, .ref agained, .int 0, .ref adegrees, .long 0])), (acommunity, .inl (cI, 40, .inl (upd Zi 0 0)))]) hP hD [0, 2] [1, 3] rfl rfl (by decide) (by decide) hk1 hFc hP1 hD1
  generalize H1 = H at hP hS ⊢
  have hP : va_P (dC, dI) vwCl [(abetween, .inl (cJ, 1600, .inr (.inl (vp_updL Zl 0 0)))), (adegrees, .inl (cJ, 40, .inr (.inl (vp_updL Zl 0 0)))), (h, .inr (5, [.int 1, .ref aweight, .ref aown, .int 1, .ref abetween, .ref acommunity, .ref afresh, .int 0, .ref atold, .ref areached, .ref aplaced, .int 0, .ref amoved, .ref agained, .int 0, .ref adegrees, .long 0])), (acommunity, .inl (cI, 40, .inl (upd Zi 0 0)))] H := hP
  have hD : va_D A [(abetween, .inl (cJ, 1600, .inr (.inl (vp_updL Zl 0 0)))), (adegrees, .inl (cJ, 40, .inr (.inl (vp_updL Zl 0 0)))), (h, .inr (5, [.int 1, .ref aweight, .ref aown, .int 1, .ref abetween, .ref acommunity, .ref afresh, .int 0, .ref atold, .ref areached, .ref aplaced, .int 0, .ref amoved, .ref agained, .int 0, .ref adegrees, .long 0])), (acommunity, .inl (cI, 40, .inl (upd Zi 0 0)))] := hD
  obtain rfl : r_10 = 0 := hw
  have hP9 := hP.sub (ws' := [(h, .inr (5, [.int 1, .ref aweight, .ref aown, .int 1, .ref abetween, .ref acommunity, .ref afresh, .int 0, .ref atold, .ref areached, .ref aplaced, .int 0, .ref amoved, .ref agained, .int 0, .ref adegrees, .long 0]))]) [2] rfl
  have hD9 := hD.sub (ws' := [(h, .inr (5, [.int 1, .ref aweight, .ref aown, .int 1, .ref abetween, .ref acommunity, .ref afresh, .int 0, .ref atold, .ref areached, .ref aplaced, .int 0, .ref amoved, .ref agained, .int 0, .ref adegrees, .long 0]))]) [2] (by decide) rfl
  exact W.lret (v := 0) hx hb hr (fun t ht hW => ⟨⟨_, (), rfl, rfl, by rw [ht]; exact hP9, hD9⟩, hS.F ht⟩) hS.2.2 dX5_gain_44
set_option maxHeartbeats 4000000 in
set_option maxRecDepth 100000 in
theorem c_X5_place_b1 (l : Launch) (dC : Nat → ClassId) (dI : Nat → Nat → Nat) (cI cJ : ClassId) (h aweight aown abetween acommunity afresh atold areached aplaced amoved agained adegrees : Nat) (sz : Nat) (n : Int32) (n1 : Int32) (hn : n < 0 ∨ 1 ≤ n) : Met l yX5_place wsX5_place ({ frames := 1, cells := 0, slots := 0, locals := 21 }) (va_Pc [.ref h, .int n, .int n1] (pPre dC dI cI cJ sz [(h, .inr (5, [.int 1, .ref aweight, .ref aown, .int 0, .ref abetween, .ref acommunity, .ref afresh, .int 0, .ref atold, .ref areached, .ref aplaced, .int 0, .ref amoved, .ref agained, .int 0, .ref adegrees, .long 0]))])) (va_Qi (fun (r : Int32) (_ : Unit) => r = 0) (pPost dC dI (va_A [(h, .inr (5, [.int 1, .ref aweight, .ref aown, .int 0, .ref abetween, .ref acommunity, .ref afresh, .int 0, .ref atold, .ref areached, .ref aplaced, .int 0, .ref amoved, .ref agained, .int 0, .ref adegrees, .long 0]))] sz) [(h, .inr (5, [.int 1, .ref aweight, .ref aown, .int 0, .ref abetween, .ref acommunity, .ref afresh, .int 0, .ref atold, .ref areached, .ref aplaced, .int 0, .ref amoved, .ref agained, .int 1, .ref adegrees, .long 0]))]) (va_A [(h, .inr (5, [.int 1, .ref aweight, .ref aown, .int 0, .ref abetween, .ref acommunity, .ref afresh, .int 0, .ref atold, .ref areached, .ref aplaced, .int 0, .ref amoved, .ref agained, .int 0, .ref adegrees, .long 0]))] sz)) 0 0 (va_A [(h, .inr (5, [.int 1, .ref aweight, .ref aown, .int 0, .ref abetween, .ref acommunity, .ref afresh, .int 0, .ref atold, .ref areached, .ref aplaced, .int 0, .ref amoved, .ref agained, .int 0, .ref adegrees, .long 0]))] sz) := by
  refine Met.ofW (cc := cX5_place) (maxL := 4) (ret := (some .int)) (by decide) rfl ?_
  intro p e s m args below meth c s₁ B hml hv
  obtain ⟨rfl, hsz, hP, hK, hD0⟩ := hv
  have hx := B.exec
  have hb := B.bytes
  have hr := B.returns
  have hts := atoms_spec (ws := wsX5_place) B.pre
  have hown : s.vm.findClass RX5 = some m.cls := findClass_of_methodNamed B.named
  have hlocks := B.notSynchronized
  subst hsz
  have hD := hD0.self (sz := s.heap.size)
  generalize hAe : va_A [(h, .inr (5, [.int 1, .ref aweight, .ref aown, .int 0, .ref abetween, .ref acommunity, .ref afresh, .int 0, .ref atold, .ref areached, .ref aplaced, .int 0, .ref amoved, .ref agained, .int 0, .ref adegrees, .long 0]))] s.heap.size = A at hD ⊢
  have hA : ∀ q : Nat, s.heap.size ≤ q → A q := fun q h => by rw [← hAe]; exact Or.inr h
  have hS : va_S A s.heap s.heap [] := va_S.rf
  have hP : va_P (dC, dI) vwCl [(h, .inr (5, [.int 1, .ref aweight, .ref aown, .int 0, .ref abetween, .ref acommunity, .ref afresh, .int 0, .ref atold, .ref areached, .ref aplaced, .int 0, .ref amoved, .ref agained, .int 0, .ref adegrees, .long 0]))] s.heap := hP
  have hl := lv_entry ([.ref h, .int n, .int n1]) (n := 4) (Nat.le_of_ble_eq_true rfl)
  rw [lg_entry_eq]
  generalize (lg_sl ([.ref h, .int n, .int n1]) ++ List.replicate (4 - (lg_sl ([.ref h, .int n, .int n1])).length) Slot.unset).toArray = ls at hl ⊢
  have hl : lv_has ls 4 [(0, .ref h), (1, .int n), (2, .int n1)] := hl
  have i_5 : ∀ w ∈ wsX50, w ∈ wsX5_place := by decide +kernel
  have k_0 := hts (.fieldLink RX5 48 "CommunityLevelsModel" "thrown" "I") (by decide +kernel)
  refine lv_aload_n hx hb dX5_place_0 rfl (lv_at hl 0 rfl) ?_
  refine lv_aload_n hx hb dX5_place_1 rfl (lv_at hl 0 rfl) ?_
  refine lv_iload_n hx hb dX5_place_2 rfl (lv_at hl 1 rfl) ?_
  have hPc := hP.sub (ws' := [(h, .inr (5, [.int 1, .ref aweight, .ref aown, .int 0, .ref abetween, .ref acommunity, .ref afresh, .int 0, .ref atold, .ref areached, .ref aplaced, .int 0, .ref amoved, .ref agained, .int 0, .ref adegrees, .long 0]))]) [0] rfl
  have hDc := hD.sub (ws' := [(h, .inr (5, [.int 1, .ref aweight, .ref aown, .int 0, .ref abetween, .ref acommunity, .ref afresh, .int 0, .ref atold, .ref areached, .ref aplaced, .int 0, .ref amoved, .ref agained, .int 0, .ref adegrees, .long 0]))]) [0] (by decide) rfl
  have hFc := va_free (wc := [(h, .inr (5, [.int 1, .ref aweight, .ref aown, .int 0, .ref abetween, .ref acommunity, .ref afresh, .int 0, .ref atold, .ref areached, .ref aplaced, .int 0, .ref amoved, .ref agained, .int 0, .ref adegrees, .long 0]))]) hD hS hA [0] rfl
  refine va_calli (va_runV (As := [.int n]) (rest := [.ref h]) ⟨hx, hb, hml, hown, hts⟩ (c_X5_noNode_bad l dC dI cI cJ h aweight aown abetween acommunity afresh atold areached aplaced amoved agained adegrees s.heap.size n 0 hn) (cwV 1 hts gX5_place_X5_noNode rfl rfl rfl (by decide +kernel) ⟨Nat.le_of_ble_eq_true rfl, Nat.le_of_ble_eq_true rfl⟩) ⟨fun a U g mk q => by obtain ⟨q0, q1, qP, qK, qD⟩ := q; exact ⟨q0, q1, qP, va_K.moved (u := U) (U := U.calling g mk a) (Vm.Alike.refl U.vm) qK, qD⟩, va_recv hK hPc (ci := 5) (q0 := 0) rfl rfl, fun U hU hW => ⟨rfl, by rw [hU], by rw [hU]; exact hPc, va_K.moved hW.alike hK, hDc.weaken (fun _ _ _ _ => trivial)⟩⟩ rfl rfl hl.1 rfl (lv_room (Nat.le_of_ble_eq_true rfl)) dX5_place_3 ⟨Nat.le_of_ble_eq_true rfl, Nat.le_of_ble_eq_true rfl⟩) hS (fun q _ h => hFc q h) hFc (fun r_1 u_2 t H1 locs ht hvm hw hB hz1 hk1 hS => ?_)
  obtain ⟨hP1, hD1⟩ := hB
  rw [ht] at hP1
  obtain ⟨hP, hD⟩ := va_join (wr := []) (w1 := [(h, .inr (5, [.int 1, .ref aweight, .ref aown, .int 0, .ref abetween, .ref acommunity, .ref afresh, .int 0, .ref atold, .ref areached, .ref aplaced, .int 0, .ref amoved, .ref agained, .int 0, .ref adegrees, .long 0]))]) hP hD [0] [] rfl rfl (by decide) (by decide) hk1 hFc hP1 hD1
  generalize H1 = H at hP hS ⊢
  have hP : va_P (dC, dI) vwCl [(h, .inr (5, [.int 1, .ref aweight, .ref aown, .int 0, .ref abetween, .ref acommunity, .ref afresh, .int 0, .ref atold, .ref areached, .ref aplaced, .int 0, .ref amoved, .ref agained, .int 0, .ref adegrees, .long 0]))] H := hP
  have hD : va_D A [(h, .inr (5, [.int 1, .ref aweight, .ref aown, .int 0, .ref abetween, .ref acommunity, .ref afresh, .int 0, .ref atold, .ref areached, .ref aplaced, .int 0, .ref amoved, .ref agained, .int 0, .ref adegrees, .long 0]))] := hD
  obtain rfl : r_1 = 1 := hw
  refine lv_if_ne (tgt := 17) hx hb dX5_place_6 (by decide) (fun c_3 => ?_) (fun c_3 => ?_)
  rotate_left
  · exact absurd c_3 (by decide)
  refine lv_iconst (v := 1) hx hb dX5_place_17 (by decide) ?_
  refine lv_goto (tgt := 22) hx hb dX5_place_18 (by decide) ?_
  refine va_put (D := (dC, dI)) (ci := 5) (v := .int 1) (ty := .int) (C := RX5) (T := TX5) (N := 17) hx hb hts i_5 tyX5 tyX5_ok nmX5 hown hK hP hD hS 0 rfl rfl 14 (by decide) k_0 (fun _ h9 => h9) rfl (by decide +kernel) rfl rfl (Nat.le_of_ble_eq_true rfl) dX5_place_22 (fun H locs hP hD hS => ?_)
  have hP : va_P (dC, dI) vwCl [(h, .inr (5, [.int 1, .ref aweight, .ref aown, .int 0, .ref abetween, .ref acommunity, .ref afresh, .int 0, .ref atold, .ref areached, .ref aplaced, .int 0, .ref amoved, .ref agained, .int 1, .ref adegrees, .long 0]))] H := hP
  have hD : va_D A [(h, .inr (5, [.int 1, .ref aweight, .ref aown, .int 0, .ref abetween, .ref acommunity, .ref afresh, .int 0, .ref atold, .ref areached, .ref aplaced, .int 0, .ref amoved, .ref agained, .int 1, .ref adegrees, .long 0]))] := hD
  refine lv_aload_n hx hb dX5_place_25 rfl (lv_at hl 0 rfl) ?_
  refine va_get (D := (dC, dI)) (ci := 5) (v := .int 1) (C := RX5) (T := TX5) (N := 17) hx hb hts i_5 hown hK hP 0 rfl rfl 14 (by decide) k_0 (fun _ h9 => h9) rfl dX5_place_26 ?_
  refine lv_if_le (tgt := 34) hx hb dX5_place_29 (by decide) (fun c_4 => ?_) (fun c_4 => ?_)
  · exact absurd c_4 (by decide)
  refine lv_iconst (v := 0) hx hb dX5_place_32 (by decide) ?_
  have hP9 := hP.sub (ws' := [(h, .inr (5, [.int 1, .ref aweight, .ref aown, .int 0, .ref abetween, .ref acommunity, .ref afresh, .int 0, .ref atold, .ref areached, .ref aplaced, .int 0, .ref amoved, .ref agained, .int 1, .ref adegrees, .long 0]))]) [0] rfl
  have hD9 := hD.sub (ws' := [(h, .inr (5, [.int 1, .ref aweight, .ref aown, .int 0, .ref abetween, .ref acommunity, .ref afresh, .int 0, .ref atold, .ref areached, .ref aplaced, .int 0, .ref amoved, .ref agained, .int 1, .ref adegrees, .long 0]))]) [0] (by decide) rfl
  exact W.iret (v := 0) hx hb hr (fun t ht hW => ⟨⟨_, (), rfl, rfl, by rw [ht]; exact hP9, hD9⟩, hS.F ht⟩) hS.2.2 dX5_place_33
set_option maxHeartbeats 4000000 in
set_option maxRecDepth 100000 in
theorem c_X5_place_b2 (l : Launch) (dC : Nat → ClassId) (dI : Nat → Nat → Nat) (cI cJ : ClassId) (h aweight aown abetween acommunity afresh atold areached aplaced amoved agained adegrees : Nat) (sz : Nat) (n : Int32) (hn : n < 0 ∨ 1 ≤ n) : Met l yX5_place wsX5_place ({ frames := 1, cells := 0, slots := 0, locals := 21 }) (va_Pc [.ref h, .int 0, .int n] (pPre dC dI cI cJ sz [(h, .inr (5, [.int 1, .ref aweight, .ref aown, .int 0, .ref abetween, .ref acommunity, .ref afresh, .int 0, .ref atold, .ref areached, .ref aplaced, .int 0, .ref amoved, .ref agained, .int 0, .ref adegrees, .long 0]))])) (va_Qi (fun (r : Int32) (_ : Unit) => r = 0) (pPost dC dI (va_A [(h, .inr (5, [.int 1, .ref aweight, .ref aown, .int 0, .ref abetween, .ref acommunity, .ref afresh, .int 0, .ref atold, .ref areached, .ref aplaced, .int 0, .ref amoved, .ref agained, .int 0, .ref adegrees, .long 0]))] sz) [(h, .inr (5, [.int 1, .ref aweight, .ref aown, .int 0, .ref abetween, .ref acommunity, .ref afresh, .int 0, .ref atold, .ref areached, .ref aplaced, .int 0, .ref amoved, .ref agained, .int 1, .ref adegrees, .long 0]))]) (va_A [(h, .inr (5, [.int 1, .ref aweight, .ref aown, .int 0, .ref abetween, .ref acommunity, .ref afresh, .int 0, .ref atold, .ref areached, .ref aplaced, .int 0, .ref amoved, .ref agained, .int 0, .ref adegrees, .long 0]))] sz)) 0 0 (va_A [(h, .inr (5, [.int 1, .ref aweight, .ref aown, .int 0, .ref abetween, .ref acommunity, .ref afresh, .int 0, .ref atold, .ref areached, .ref aplaced, .int 0, .ref amoved, .ref agained, .int 0, .ref adegrees, .long 0]))] sz) := by
  refine Met.ofW (cc := cX5_place) (maxL := 4) (ret := (some .int)) (by decide) rfl ?_
  intro p e s m args below meth c s₁ B hml hv
  obtain ⟨rfl, hsz, hP, hK, hD0⟩ := hv
  have hx := B.exec
  have hb := B.bytes
  have hr := B.returns
  have hts := atoms_spec (ws := wsX5_place) B.pre
  have hown : s.vm.findClass RX5 = some m.cls := findClass_of_methodNamed B.named
  have hlocks := B.notSynchronized
  subst hsz
  have hD := hD0.self (sz := s.heap.size)
  generalize hAe : va_A [(h, .inr (5, [.int 1, .ref aweight, .ref aown, .int 0, .ref abetween, .ref acommunity, .ref afresh, .int 0, .ref atold, .ref areached, .ref aplaced, .int 0, .ref amoved, .ref agained, .int 0, .ref adegrees, .long 0]))] s.heap.size = A at hD ⊢
  have hA : ∀ q : Nat, s.heap.size ≤ q → A q := fun q h => by rw [← hAe]; exact Or.inr h
  have hS : va_S A s.heap s.heap [] := va_S.rf
  have hP : va_P (dC, dI) vwCl [(h, .inr (5, [.int 1, .ref aweight, .ref aown, .int 0, .ref abetween, .ref acommunity, .ref afresh, .int 0, .ref atold, .ref areached, .ref aplaced, .int 0, .ref amoved, .ref agained, .int 0, .ref adegrees, .long 0]))] s.heap := hP
  have hl := lv_entry ([.ref h, .int 0, .int n]) (n := 4) (Nat.le_of_ble_eq_true rfl)
  rw [lg_entry_eq]
  generalize (lg_sl ([.ref h, .int 0, .int n]) ++ List.replicate (4 - (lg_sl ([.ref h, .int 0, .int n])).length) Slot.unset).toArray = ls at hl ⊢
  have hl : lv_has ls 4 [(0, .ref h), (1, .int 0), (2, .int n)] := hl
  have i_5 : ∀ w ∈ wsX50, w ∈ wsX5_place := by decide +kernel
  have k_0 := hts (.fieldLink RX5 48 "CommunityLevelsModel" "thrown" "I") (by decide +kernel)
  refine lv_aload_n hx hb dX5_place_0 rfl (lv_at hl 0 rfl) ?_
  refine lv_aload_n hx hb dX5_place_1 rfl (lv_at hl 0 rfl) ?_
  refine lv_iload_n hx hb dX5_place_2 rfl (lv_at hl 1 rfl) ?_
  have hPc := hP.sub (ws' := [(h, .inr (5, [.int 1, .ref aweight, .ref aown, .int 0, .ref abetween, .ref acommunity, .ref afresh, .int 0, .ref atold, .ref areached, .ref aplaced, .int 0, .ref amoved, .ref agained, .int 0, .ref adegrees, .long 0]))]) [0] rfl
  have hDc := hD.sub (ws' := [(h, .inr (5, [.int 1, .ref aweight, .ref aown, .int 0, .ref abetween, .ref acommunity, .ref afresh, .int 0, .ref atold, .ref areached, .ref aplaced, .int 0, .ref amoved, .ref agained, .int 0, .ref adegrees, .long 0]))]) [0] (by decide) rfl
  have hFc := va_free (wc := [(h, .inr (5, [.int 1, .ref aweight, .ref aown, .int 0, .ref abetween, .ref acommunity, .ref afresh, .int 0, .ref atold, .ref areached, .ref aplaced, .int 0, .ref amoved, .ref agained, .int 0, .ref adegrees, .long 0]))]) hD hS hA [0] rfl
  refine va_calli (va_runV (As := [.int 0]) (rest := [.ref h]) ⟨hx, hb, hml, hown, hts⟩ (c_X5_noNode l dC dI cI cJ h aweight aown abetween acommunity afresh atold areached aplaced amoved agained adegrees s.heap.size 0) (cwV 1 hts gX5_place_X5_noNode rfl rfl rfl (by decide +kernel) ⟨Nat.le_of_ble_eq_true rfl, Nat.le_of_ble_eq_true rfl⟩) ⟨fun a U g mk q => by obtain ⟨q0, q1, qP, qK, qD⟩ := q; exact ⟨q0, q1, qP, va_K.moved (u := U) (U := U.calling g mk a) (Vm.Alike.refl U.vm) qK, qD⟩, va_recv hK hPc (ci := 5) (q0 := 0) rfl rfl, fun U hU hW => ⟨rfl, by rw [hU], by rw [hU]; exact hPc, va_K.moved hW.alike hK, hDc.weaken (fun _ _ _ _ => trivial)⟩⟩ rfl rfl hl.1 rfl (lv_room (Nat.le_of_ble_eq_true rfl)) dX5_place_3 ⟨Nat.le_of_ble_eq_true rfl, Nat.le_of_ble_eq_true rfl⟩) hS (fun q _ h => hFc q h) hFc (fun r_1 u_2 t H1 locs ht hvm hw hB hz1 hk1 hS => ?_)
  obtain ⟨hP1, hD1⟩ := hB
  rw [ht] at hP1
  obtain ⟨hP, hD⟩ := va_join (wr := []) (w1 := [(h, .inr (5, [.int 1, .ref aweight, .ref aown, .int 0, .ref abetween, .ref acommunity, .ref afresh, .int 0, .ref atold, .ref areached, .ref aplaced, .int 0, .ref amoved, .ref agained, .int 0, .ref adegrees, .long 0]))]) hP hD [0] [] rfl rfl (by decide) (by decide) hk1 hFc hP1 hD1
  generalize H1 = H at hP hS ⊢
  have hP : va_P (dC, dI) vwCl [(h, .inr (5, [.int 1, .ref aweight, .ref aown, .int 0, .ref abetween, .ref acommunity, .ref afresh, .int 0, .ref atold, .ref areached, .ref aplaced, .int 0, .ref amoved, .ref agained, .int 0, .ref adegrees, .long 0]))] H := hP
  have hD : va_D A [(h, .inr (5, [.int 1, .ref aweight, .ref aown, .int 0, .ref abetween, .ref acommunity, .ref afresh, .int 0, .ref atold, .ref areached, .ref aplaced, .int 0, .ref amoved, .ref agained, .int 0, .ref adegrees, .long 0]))] := hD
  obtain rfl : r_1 = 0 := hw
  refine lv_if_ne (tgt := 17) hx hb dX5_place_6 (by decide) (fun c_3 => ?_) (fun c_3 => ?_)
  · exact absurd c_3 (by decide)
  refine lv_aload_n hx hb dX5_place_9 rfl (lv_at hl 0 rfl) ?_
  refine lv_iload_n hx hb dX5_place_10 rfl (lv_at hl 2 rfl) ?_
  have hPc := hP.sub (ws' := [(h, .inr (5, [.int 1, .ref aweight, .ref aown, .int 0, .ref abetween, .ref acommunity, .ref afresh, .int 0, .ref atold, .ref areached, .ref aplaced, .int 0, .ref amoved, .ref agained, .int 0, .ref adegrees, .long 0]))]) [0] rfl
  have hDc := hD.sub (ws' := [(h, .inr (5, [.int 1, .ref aweight, .ref aown, .int 0, .ref abetween, .ref acommunity, .ref afresh, .int 0, .ref atold, .ref areached, .ref aplaced, .int 0, .ref amoved, .ref agained, .int 0, .ref adegrees, .long 0]))]) [0] (by decide) rfl
  have hFc := va_free (wc := [(h, .inr (5, [.int 1, .ref aweight, .ref aown, .int 0, .ref abetween, .ref acommunity, .ref afresh, .int 0, .ref atold, .ref areached, .ref aplaced, .int 0, .ref amoved, .ref agained, .int 0, .ref adegrees, .long 0]))]) hD hS hA [0] rfl
  refine va_calli (va_runV (As := [.int n]) (rest := [.ref h]) ⟨hx, hb, hml, hown, hts⟩ (c_X5_noNode_bad l dC dI cI cJ h aweight aown abetween acommunity afresh atold areached aplaced amoved agained adegrees H.size n 0 hn) (cwV 1 hts gX5_place_X5_noNode rfl rfl rfl (by decide +kernel) ⟨Nat.le_of_ble_eq_true rfl, Nat.le_of_ble_eq_true rfl⟩) ⟨fun a U g mk q => by obtain ⟨q0, q1, qP, qK, qD⟩ := q; exact ⟨q0, q1, qP, va_K.moved (u := U) (U := U.calling g mk a) (Vm.Alike.refl U.vm) qK, qD⟩, va_recv hK hPc (ci := 5) (q0 := 0) rfl rfl, fun U hU hW => ⟨rfl, by rw [hU], by rw [hU]; exact hPc, va_K.moved hW.alike hK, hDc.weaken (fun _ _ _ _ => trivial)⟩⟩ rfl rfl hl.1 rfl (lv_room (Nat.le_of_ble_eq_true rfl)) dX5_place_11 ⟨Nat.le_of_ble_eq_true rfl, Nat.le_of_ble_eq_true rfl⟩) hS (fun q _ h => hFc q h) hFc (fun r_4 u_5 t H1 locs ht hvm hw hB hz1 hk1 hS => ?_)
  obtain ⟨hP1, hD1⟩ := hB
  rw [ht] at hP1
  obtain ⟨hP, hD⟩ := va_join (wr := []) (w1 := [(h, .inr (5, [.int 1, .ref aweight, .ref aown, .int 0, .ref abetween, .ref acommunity, .ref afresh, .int 0, .ref atold, .ref areached, .ref aplaced, .int 0, .ref amoved, .ref agained, .int 0, .ref adegrees, .long 0]))]) hP hD [0] [] rfl rfl (by decide) (by decide) hk1 hFc hP1 hD1
  generalize H1 = H at hP hS ⊢
  have hP : va_P (dC, dI) vwCl [(h, .inr (5, [.int 1, .ref aweight, .ref aown, .int 0, .ref abetween, .ref acommunity, .ref afresh, .int 0, .ref atold, .ref areached, .ref aplaced, .int 0, .ref amoved, .ref agained, .int 0, .ref adegrees, .long 0]))] H := hP
  have hD : va_D A [(h, .inr (5, [.int 1, .ref aweight, .ref aown, .int 0, .ref abetween, .ref acommunity, .ref afresh, .int 0, .ref atold, .ref areached, .ref aplaced, .int 0, .ref amoved, .ref agained, .int 0, .ref adegrees, .long 0]))] := hD
  obtain rfl : r_4 = 1 := hw
  refine lv_if_eq (tgt := 21) hx hb dX5_place_14 (by decide) (fun c_6 => ?_) (fun c_6 => ?_)
  · exact absurd c_6 (by decide)
  refine lv_iconst (v := 1) hx hb dX5_place_17 (by decide) ?_
  refine lv_goto (tgt := 22) hx hb dX5_place_18 (by decide) ?_
  refine va_put (D := (dC, dI)) (ci := 5) (v := .int 1) (ty := .int) (C := RX5) (T := TX5) (N := 17) hx hb hts i_5 tyX5 tyX5_ok nmX5 hown hK hP hD hS 0 rfl rfl 14 (by decide) k_0 (fun _ h9 => h9) rfl (by decide +kernel) rfl rfl (Nat.le_of_ble_eq_true rfl) dX5_place_22 (fun H locs hP hD hS => ?_)
  have hP : va_P (dC, dI) vwCl [(h, .inr (5, [.int 1, .ref aweight, .ref aown, .int 0, .ref abetween, .ref acommunity, .ref afresh, .int 0, .ref atold, .ref areached, .ref aplaced, .int 0, .ref amoved, .ref agained, .int 1, .ref adegrees, .long 0]))] H := hP
  have hD : va_D A [(h, .inr (5, [.int 1, .ref aweight, .ref aown, .int 0, .ref abetween, .ref acommunity, .ref afresh, .int 0, .ref atold, .ref areached, .ref aplaced, .int 0, .ref amoved, .ref agained, .int 1, .ref adegrees, .long 0]))] := hD
  refine lv_aload_n hx hb dX5_place_25 rfl (lv_at hl 0 rfl) ?_
  refine va_get (D := (dC, dI)) (ci := 5) (v := .int 1) (C := RX5) (T := TX5) (N := 17) hx hb hts i_5 hown hK hP 0 rfl rfl 14 (by decide) k_0 (fun _ h9 => h9) rfl dX5_place_26 ?_
  refine lv_if_le (tgt := 34) hx hb dX5_place_29 (by decide) (fun c_7 => ?_) (fun c_7 => ?_)
  · exact absurd c_7 (by decide)
  refine lv_iconst (v := 0) hx hb dX5_place_32 (by decide) ?_
  have hP9 := hP.sub (ws' := [(h, .inr (5, [.int 1, .ref aweight, .ref aown, .int 0, .ref abetween, .ref acommunity, .ref afresh, .int 0, .ref atold, .ref areached, .ref aplaced, .int 0, .ref amoved, .ref agained, .int 1, .ref adegrees, .long 0]))]) [0] rfl
  have hD9 := hD.sub (ws' := [(h, .inr (5, [.int 1, .ref aweight, .ref aown, .int 0, .ref abetween, .ref acommunity, .ref afresh, .int 0, .ref atold, .ref areached, .ref aplaced, .int 0, .ref amoved, .ref agained, .int 1, .ref adegrees, .long 0]))]) [0] (by decide) rfl
  exact W.iret (v := 0) hx hb hr (fun t ht hW => ⟨⟨_, (), rfl, rfl, by rw [ht]; exact hP9, hD9⟩, hS.F ht⟩) hS.2.2 dX5_place_33
set_option maxHeartbeats 4000000 in
set_option maxRecDepth 100000 in
theorem c_X5_gain_b1 (l : Launch) (dC : Nat → ClassId) (dI : Nat → Nat → Nat) (cI cJ : ClassId) (h aweight aown abetween acommunity afresh atold areached aplaced amoved agained adegrees : Nat) (sz : Nat) (n : Int32) (n1 : Int32) (hn : n < 0 ∨ 1 ≤ n) : Met l yX5_gain wsX5_gain ({ frames := 1, cells := 0, slots := 0, locals := 21 }) (va_Pc [.ref h, .int n, .int n1] (pPre dC dI cI cJ sz [(h, .inr (5, [.int 1, .ref aweight, .ref aown, .int 0, .ref abetween, .ref acommunity, .ref afresh, .int 0, .ref atold, .ref areached, .ref aplaced, .int 0, .ref amoved, .ref agained, .int 0, .ref adegrees, .long 0]))])) (va_Ql (fun (r : Int64) (_ : Unit) => r = 0) (pPost dC dI (va_A [(h, .inr (5, [.int 1, .ref aweight, .ref aown, .int 0, .ref abetween, .ref acommunity, .ref afresh, .int 0, .ref atold, .ref areached, .ref aplaced, .int 0, .ref amoved, .ref agained, .int 0, .ref adegrees, .long 0]))] sz) [(h, .inr (5, [.int 1, .ref aweight, .ref aown, .int 0, .ref abetween, .ref acommunity, .ref afresh, .int 0, .ref atold, .ref areached, .ref aplaced, .int 0, .ref amoved, .ref agained, .int 1, .ref adegrees, .long 0]))]) (va_A [(h, .inr (5, [.int 1, .ref aweight, .ref aown, .int 0, .ref abetween, .ref acommunity, .ref afresh, .int 0, .ref atold, .ref areached, .ref aplaced, .int 0, .ref amoved, .ref agained, .int 0, .ref adegrees, .long 0]))] sz)) 0 0 (va_A [(h, .inr (5, [.int 1, .ref aweight, .ref aown, .int 0, .ref abetween, .ref acommunity, .ref afresh, .int 0, .ref atold, .ref areached, .ref aplaced, .int 0, .ref amoved, .ref agained, .int 0, .ref adegrees, .long 0]))] sz) := by
  refine Met.ofW (cc := cX5_gain) (maxL := 3) (ret := (some .long)) (by decide) rfl ?_
  intro p e s m args below meth c s₁ B hml hv
  obtain ⟨rfl, hsz, hP, hK, hD0⟩ := hv
  have hx := B.exec
  have hb := B.bytes
  have hr := B.returns
  have hts := atoms_spec (ws := wsX5_gain) B.pre
  have hown : s.vm.findClass RX5 = some m.cls := findClass_of_methodNamed B.named
  have hlocks := B.notSynchronized
  subst hsz
  have hD := hD0.self (sz := s.heap.size)
  generalize hAe : va_A [(h, .inr (5, [.int 1, .ref aweight, .ref aown, .int 0, .ref abetween, .ref acommunity, .ref afresh, .int 0, .ref atold, .ref areached, .ref aplaced, .int 0, .ref amoved, .ref agained, .int 0, .ref adegrees, .long 0]))] s.heap.size = A at hD ⊢
  have hA : ∀ q : Nat, s.heap.size ≤ q → A q := fun q h => by rw [← hAe]; exact Or.inr h
  have hS : va_S A s.heap s.heap [] := va_S.rf
  have hP : va_P (dC, dI) vwCl [(h, .inr (5, [.int 1, .ref aweight, .ref aown, .int 0, .ref abetween, .ref acommunity, .ref afresh, .int 0, .ref atold, .ref areached, .ref aplaced, .int 0, .ref amoved, .ref agained, .int 0, .ref adegrees, .long 0]))] s.heap := hP
  have hl := lv_entry ([.ref h, .int n, .int n1]) (n := 3) (Nat.le_of_ble_eq_true rfl)
  rw [lg_entry_eq]
  generalize (lg_sl ([.ref h, .int n, .int n1]) ++ List.replicate (3 - (lg_sl ([.ref h, .int n, .int n1])).length) Slot.unset).toArray = ls at hl ⊢
  have hl : lv_has ls 3 [(0, .ref h), (1, .int n), (2, .int n1)] := hl
  have i_5 : ∀ w ∈ wsX50, w ∈ wsX5_gain := by decide +kernel
  have k_0 := hts (.fieldLink RX5 48 "CommunityLevelsModel" "thrown" "I") (by decide +kernel)
  refine lv_aload_n hx hb dX5_gain_0 rfl (lv_at hl 0 rfl) ?_
  refine lv_aload_n hx hb dX5_gain_1 rfl (lv_at hl 0 rfl) ?_
  refine lv_iload_n hx hb dX5_gain_2 rfl (lv_at hl 1 rfl) ?_
  have hPc := hP.sub (ws' := [(h, .inr (5, [.int 1, .ref aweight, .ref aown, .int 0, .ref abetween, .ref acommunity, .ref afresh, .int 0, .ref atold, .ref areached, .ref aplaced, .int 0, .ref amoved, .ref agained, .int 0, .ref adegrees, .long 0]))]) [0] rfl
  have hDc := hD.sub (ws' := [(h, .inr (5, [.int 1, .ref aweight, .ref aown, .int 0, .ref abetween, .ref acommunity, .ref afresh, .int 0, .ref atold, .ref areached, .ref aplaced, .int 0, .ref amoved, .ref agained, .int 0, .ref adegrees, .long 0]))]) [0] (by decide) rfl
  have hFc := va_free (wc := [(h, .inr (5, [.int 1, .ref aweight, .ref aown, .int 0, .ref abetween, .ref acommunity, .ref afresh, .int 0, .ref atold, .ref areached, .ref aplaced, .int 0, .ref amoved, .ref agained, .int 0, .ref adegrees, .long 0]))]) hD hS hA [0] rfl
  refine va_calli (va_runV (As := [.int n]) (rest := [.ref h]) ⟨hx, hb, hml, hown, hts⟩ (c_X5_noNode_bad l dC dI cI cJ h aweight aown abetween acommunity afresh atold areached aplaced amoved agained adegrees s.heap.size n 0 hn) (cwV 1 hts gX5_gain_X5_noNode rfl rfl rfl (by decide +kernel) ⟨Nat.le_of_ble_eq_true rfl, Nat.le_of_ble_eq_true rfl⟩) ⟨fun a U g mk q => by obtain ⟨q0, q1, qP, qK, qD⟩ := q; exact ⟨q0, q1, qP, va_K.moved (u := U) (U := U.calling g mk a) (Vm.Alike.refl U.vm) qK, qD⟩, va_recv hK hPc (ci := 5) (q0 := 0) rfl rfl, fun U hU hW => ⟨rfl, by rw [hU], by rw [hU]; exact hPc, va_K.moved hW.alike hK, hDc.weaken (fun _ _ _ _ => trivial)⟩⟩ rfl rfl hl.1 rfl (lv_room (Nat.le_of_ble_eq_true rfl)) dX5_gain_3 ⟨Nat.le_of_ble_eq_true rfl, Nat.le_of_ble_eq_true rfl⟩) hS (fun q _ h => hFc q h) hFc (fun r_1 u_2 t H1 locs ht hvm hw hB hz1 hk1 hS => ?_)
  obtain ⟨hP1, hD1⟩ := hB
  rw [ht] at hP1
  obtain ⟨hP, hD⟩ := va_join (wr := []) (w1 := [(h, .inr (5, [.int 1, .ref aweight, .ref aown, .int 0, .ref abetween, .ref acommunity, .ref afresh, .int 0, .ref atold, .ref areached, .ref aplaced, .int 0, .ref amoved, .ref agained, .int 0, .ref adegrees, .long 0]))]) hP hD [0] [] rfl rfl (by decide) (by decide) hk1 hFc hP1 hD1
  generalize H1 = H at hP hS ⊢
  have hP : va_P (dC, dI) vwCl [(h, .inr (5, [.int 1, .ref aweight, .ref aown, .int 0, .ref abetween, .ref acommunity, .ref afresh, .int 0, .ref atold, .ref areached, .ref aplaced, .int 0, .ref amoved, .ref agained, .int 0, .ref adegrees, .long 0]))] H := hP
  have hD : va_D A [(h, .inr (5, [.int 1, .ref aweight, .ref aown, .int 0, .ref abetween, .ref acommunity, .ref afresh, .int 0, .ref atold, .ref areached, .ref aplaced, .int 0, .ref amoved, .ref agained, .int 0, .ref adegrees, .long 0]))] := hD
  obtain rfl : r_1 = 1 := hw
  refine lv_if_ne (tgt := 17) hx hb dX5_gain_6 (by decide) (fun c_3 => ?_) (fun c_3 => ?_)
  rotate_left
  · exact absurd c_3 (by decide)
  refine lv_iconst (v := 1) hx hb dX5_gain_17 (by decide) ?_
  refine lv_goto (tgt := 22) hx hb dX5_gain_18 (by decide) ?_
  refine va_put (D := (dC, dI)) (ci := 5) (v := .int 1) (ty := .int) (C := RX5) (T := TX5) (N := 17) hx hb hts i_5 tyX5 tyX5_ok nmX5 hown hK hP hD hS 0 rfl rfl 14 (by decide) k_0 (fun _ h9 => h9) rfl (by decide +kernel) rfl rfl (Nat.le_of_ble_eq_true rfl) dX5_gain_22 (fun H locs hP hD hS => ?_)
  have hP : va_P (dC, dI) vwCl [(h, .inr (5, [.int 1, .ref aweight, .ref aown, .int 0, .ref abetween, .ref acommunity, .ref afresh, .int 0, .ref atold, .ref areached, .ref aplaced, .int 0, .ref amoved, .ref agained, .int 1, .ref adegrees, .long 0]))] H := hP
  have hD : va_D A [(h, .inr (5, [.int 1, .ref aweight, .ref aown, .int 0, .ref abetween, .ref acommunity, .ref afresh, .int 0, .ref atold, .ref areached, .ref aplaced, .int 0, .ref amoved, .ref agained, .int 1, .ref adegrees, .long 0]))] := hD
  refine lv_aload_n hx hb dX5_gain_25 rfl (lv_at hl 0 rfl) ?_
  refine va_get (D := (dC, dI)) (ci := 5) (v := .int 1) (C := RX5) (T := TX5) (N := 17) hx hb hts i_5 hown hK hP 0 rfl rfl 14 (by decide) k_0 (fun _ h9 => h9) rfl dX5_gain_26 ?_
  refine lv_if_le (tgt := 34) hx hb dX5_gain_29 (by decide) (fun c_4 => ?_) (fun c_4 => ?_)
  · exact absurd c_4 (by decide)
  refine lv_lconst (v := 0) hx hb dX5_gain_32 (by decide) ?_
  have hP9 := hP.sub (ws' := [(h, .inr (5, [.int 1, .ref aweight, .ref aown, .int 0, .ref abetween, .ref acommunity, .ref afresh, .int 0, .ref atold, .ref areached, .ref aplaced, .int 0, .ref amoved, .ref agained, .int 1, .ref adegrees, .long 0]))]) [0] rfl
  have hD9 := hD.sub (ws' := [(h, .inr (5, [.int 1, .ref aweight, .ref aown, .int 0, .ref abetween, .ref acommunity, .ref afresh, .int 0, .ref atold, .ref areached, .ref aplaced, .int 0, .ref amoved, .ref agained, .int 1, .ref adegrees, .long 0]))]) [0] (by decide) rfl
  exact W.lret (v := 0) hx hb hr (fun t ht hW => ⟨⟨_, (), rfl, rfl, by rw [ht]; exact hP9, hD9⟩, hS.F ht⟩) hS.2.2 dX5_gain_33
set_option maxHeartbeats 4000000 in
set_option maxRecDepth 100000 in
theorem c_X5_gain_b2 (l : Launch) (dC : Nat → ClassId) (dI : Nat → Nat → Nat) (cI cJ : ClassId) (h aweight aown abetween acommunity afresh atold areached aplaced amoved agained adegrees : Nat) (sz : Nat) (n : Int32) (hn : n < 0 ∨ 1 ≤ n) : Met l yX5_gain wsX5_gain ({ frames := 1, cells := 0, slots := 0, locals := 21 }) (va_Pc [.ref h, .int 0, .int n] (pPre dC dI cI cJ sz [(h, .inr (5, [.int 1, .ref aweight, .ref aown, .int 0, .ref abetween, .ref acommunity, .ref afresh, .int 0, .ref atold, .ref areached, .ref aplaced, .int 0, .ref amoved, .ref agained, .int 0, .ref adegrees, .long 0]))])) (va_Ql (fun (r : Int64) (_ : Unit) => r = 0) (pPost dC dI (va_A [(h, .inr (5, [.int 1, .ref aweight, .ref aown, .int 0, .ref abetween, .ref acommunity, .ref afresh, .int 0, .ref atold, .ref areached, .ref aplaced, .int 0, .ref amoved, .ref agained, .int 0, .ref adegrees, .long 0]))] sz) [(h, .inr (5, [.int 1, .ref aweight, .ref aown, .int 0, .ref abetween, .ref acommunity, .ref afresh, .int 0, .ref atold, .ref areached, .ref aplaced, .int 0, .ref amoved, .ref agained, .int 1, .ref adegrees, .long 0]))]) (va_A [(h, .inr (5, [.int 1, .ref aweight, .ref aown, .int 0, .ref abetween, .ref acommunity, .ref afresh, .int 0, .ref atold, .ref areached, .ref aplaced, .int 0, .ref amoved, .ref agained, .int 0, .ref adegrees, .long 0]))] sz)) 0 0 (va_A [(h, .inr (5, [.int 1, .ref aweight, .ref aown, .int 0, .ref abetween, .ref acommunity, .ref afresh, .int 0, .ref atold, .ref areached, .ref aplaced, .int 0, .ref amoved, .ref agained, .int 0, .ref adegrees, .long 0]))] sz) := by
  refine Met.ofW (cc := cX5_gain) (maxL := 3) (ret := (some .long)) (by decide) rfl ?_
  intro p e s m args below meth c s₁ B hml hv
  obtain ⟨rfl, hsz, hP, hK, hD0⟩ := hv
  have hx := B.exec
  have hb := B.bytes
  have hr := B.returns
  have hts := atoms_spec (ws := wsX5_gain) B.pre
  have hown : s.vm.findClass RX5 = some m.cls := findClass_of_methodNamed B.named
  have hlocks := B.notSynchronized
  subst hsz
  have hD := hD0.self (sz := s.heap.size)
  generalize hAe : va_A [(h, .inr (5, [.int 1, .ref aweight, .ref aown, .int 0, .ref abetween, .ref acommunity, .ref afresh, .int 0, .ref atold, .ref areached, .ref aplaced, .int 0, .ref amoved, .ref agained, .int 0, .ref adegrees, .long 0]))] s.heap.size = A at hD ⊢
  have hA : ∀ q : Nat, s.heap.size ≤ q → A q := fun q h => by rw [← hAe]; exact Or.inr h
  have hS : va_S A s.heap s.heap [] := va_S.rf
  have hP : va_P (dC, dI) vwCl [(h, .inr (5, [.int 1, .ref aweight, .ref aown, .int 0, .ref abetween, .ref acommunity, .ref afresh, .int 0, .ref atold, .ref areached, .ref aplaced, .int 0, .ref amoved, .ref agained, .int 0, .ref adegrees, .long 0]))] s.heap := hP
  have hl := lv_entry ([.ref h, .int 0, .int n]) (n := 3) (Nat.le_of_ble_eq_true rfl)
  rw [lg_entry_eq]
  generalize (lg_sl ([.ref h, .int 0, .int n]) ++ List.replicate (3 - (lg_sl ([.ref h, .int 0, .int n])).length) Slot.unset).toArray = ls at hl ⊢
  have hl : lv_has ls 3 [(0, .ref h), (1, .int 0), (2, .int n)] := hl
  have i_5 : ∀ w ∈ wsX50, w ∈ wsX5_gain := by decide +kernel
  have k_0 := hts (.fieldLink RX5 48 "CommunityLevelsModel" "thrown" "I") (by decide +kernel)
  refine lv_aload_n hx hb dX5_gain_0 rfl (lv_at hl 0 rfl) ?_
  refine lv_aload_n hx hb dX5_gain_1 rfl (lv_at hl 0 rfl) ?_
  refine lv_iload_n hx hb dX5_gain_2 rfl (lv_at hl 1 rfl) ?_
  have hPc := hP.sub (ws' := [(h, .inr (5, [.int 1, .ref aweight, .ref aown, .int 0, .ref abetween, .ref acommunity, .ref afresh, .int 0, .ref atold, .ref areached, .ref aplaced, .int 0, .ref amoved, .ref agained, .int 0, .ref adegrees, .long 0]))]) [0] rfl
  have hDc := hD.sub (ws' := [(h, .inr (5, [.int 1, .ref aweight, .ref aown, .int 0, .ref abetween, .ref acommunity, .ref afresh, .int 0, .ref atold, .ref areached, .ref aplaced, .int 0, .ref amoved, .ref agained, .int 0, .ref adegrees, .long 0]))]) [0] (by decide) rfl
  have hFc := va_free (wc := [(h, .inr (5, [.int 1, .ref aweight, .ref aown, .int 0, .ref abetween, .ref acommunity, .ref afresh, .int 0, .ref atold, .ref areached, .ref aplaced, .int 0, .ref amoved, .ref agained, .int 0, .ref adegrees, .long 0]))]) hD hS hA [0] rfl
  refine va_calli (va_runV (As := [.int 0]) (rest := [.ref h]) ⟨hx, hb, hml, hown, hts⟩ (c_X5_noNode l dC dI cI cJ h aweight aown abetween acommunity afresh atold areached aplaced amoved agained adegrees s.heap.size 0) (cwV 1 hts gX5_gain_X5_noNode rfl rfl rfl (by decide +kernel) ⟨Nat.le_of_ble_eq_true rfl, Nat.le_of_ble_eq_true rfl⟩) ⟨fun a U g mk q => by obtain ⟨q0, q1, qP, qK, qD⟩ := q; exact ⟨q0, q1, qP, va_K.moved (u := U) (U := U.calling g mk a) (Vm.Alike.refl U.vm) qK, qD⟩, va_recv hK hPc (ci := 5) (q0 := 0) rfl rfl, fun U hU hW => ⟨rfl, by rw [hU], by rw [hU]; exact hPc, va_K.moved hW.alike hK, hDc.weaken (fun _ _ _ _ => trivial)⟩⟩ rfl rfl hl.1 rfl (lv_room (Nat.le_of_ble_eq_true rfl)) dX5_gain_3 ⟨Nat.le_of_ble_eq_true rfl, Nat.le_of_ble_eq_true rfl⟩) hS (fun q _ h => hFc q h) hFc (fun r_1 u_2 t H1 locs ht hvm hw hB hz1 hk1 hS => ?_)
  obtain ⟨hP1, hD1⟩ := hB
  rw [ht] at hP1
  obtain ⟨hP, hD⟩ := va_join (wr := []) (w1 := [(h, .inr (5, [.int 1, .ref aweight, .ref aown, .int 0, .ref abetween, .ref acommunity, .ref afresh, .int 0, .ref atold, .ref areached, .ref aplaced, .int 0, .ref amoved, .ref agained, .int 0, .ref adegrees, .long 0]))]) hP hD [0] [] rfl rfl (by decide) (by decide) hk1 hFc hP1 hD1
  generalize H1 = H at hP hS ⊢
  have hP : va_P (dC, dI) vwCl [(h, .inr (5, [.int 1, .ref aweight, .ref aown, .int 0, .ref abetween, .ref acommunity, .ref afresh, .int 0, .ref atold, .ref areached, .ref aplaced, .int 0, .ref amoved, .ref agained, .int 0, .ref adegrees, .long 0]))] H := hP
  have hD : va_D A [(h, .inr (5, [.int 1, .ref aweight, .ref aown, .int 0, .ref abetween, .ref acommunity, .ref afresh, .int 0, .ref atold, .ref areached, .ref aplaced, .int 0, .ref amoved, .ref agained, .int 0, .ref adegrees, .long 0]))] := hD
  obtain rfl : r_1 = 0 := hw
  refine lv_if_ne (tgt := 17) hx hb dX5_gain_6 (by decide) (fun c_3 => ?_) (fun c_3 => ?_)
  · exact absurd c_3 (by decide)
  refine lv_aload_n hx hb dX5_gain_9 rfl (lv_at hl 0 rfl) ?_
  refine lv_iload_n hx hb dX5_gain_10 rfl (lv_at hl 2 rfl) ?_
  have hPc := hP.sub (ws' := [(h, .inr (5, [.int 1, .ref aweight, .ref aown, .int 0, .ref abetween, .ref acommunity, .ref afresh, .int 0, .ref atold, .ref areached, .ref aplaced, .int 0, .ref amoved, .ref agained, .int 0, .ref adegrees, .long 0]))]) [0] rfl
  have hDc := hD.sub (ws' := [(h, .inr (5, [.int 1, .ref aweight, .ref aown, .int 0, .ref abetween, .ref acommunity, .ref afresh, .int 0, .ref atold, .ref areached, .ref aplaced, .int 0, .ref amoved, .ref agained, .int 0, .ref adegrees, .long 0]))]) [0] (by decide) rfl
  have hFc := va_free (wc := [(h, .inr (5, [.int 1, .ref aweight, .ref aown, .int 0, .ref abetween, .ref acommunity, .ref afresh, .int 0, .ref atold, .ref areached, .ref aplaced, .int 0, .ref amoved, .ref agained, .int 0, .ref adegrees, .long 0]))]) hD hS hA [0] rfl
  refine va_calli (va_runV (As := [.int n]) (rest := [.ref h]) ⟨hx, hb, hml, hown, hts⟩ (c_X5_noNode_bad l dC dI cI cJ h aweight aown abetween acommunity afresh atold areached aplaced amoved agained adegrees H.size n 0 hn) (cwV 1 hts gX5_gain_X5_noNode rfl rfl rfl (by decide +kernel) ⟨Nat.le_of_ble_eq_true rfl, Nat.le_of_ble_eq_true rfl⟩) ⟨fun a U g mk q => by obtain ⟨q0, q1, qP, qK, qD⟩ := q; exact ⟨q0, q1, qP, va_K.moved (u := U) (U := U.calling g mk a) (Vm.Alike.refl U.vm) qK, qD⟩, va_recv hK hPc (ci := 5) (q0 := 0) rfl rfl, fun U hU hW => ⟨rfl, by rw [hU], by rw [hU]; exact hPc, va_K.moved hW.alike hK, hDc.weaken (fun _ _ _ _ => trivial)⟩⟩ rfl rfl hl.1 rfl (lv_room (Nat.le_of_ble_eq_true rfl)) dX5_gain_11 ⟨Nat.le_of_ble_eq_true rfl, Nat.le_of_ble_eq_true rfl⟩) hS (fun q _ h => hFc q h) hFc (fun r_4 u_5 t H1 locs ht hvm hw hB hz1 hk1 hS => ?_)
  obtain ⟨hP1, hD1⟩ := hB
  rw [ht] at hP1
  obtain ⟨hP, hD⟩ := va_join (wr := []) (w1 := [(h, .inr (5, [.int 1, .ref aweight, .ref aown, .int 0, .ref abetween, .ref acommunity, .ref afresh, .int 0, .ref atold, .ref areached, .ref aplaced, .int 0, .ref amoved, .ref agained, .int 0, .ref adegrees, .long 0]))]) hP hD [0] [] rfl rfl (by decide) (by decide) hk1 hFc hP1 hD1
  generalize H1 = H at hP hS ⊢
  have hP : va_P (dC, dI) vwCl [(h, .inr (5, [.int 1, .ref aweight, .ref aown, .int 0, .ref abetween, .ref acommunity, .ref afresh, .int 0, .ref atold, .ref areached, .ref aplaced, .int 0, .ref amoved, .ref agained, .int 0, .ref adegrees, .long 0]))] H := hP
  have hD : va_D A [(h, .inr (5, [.int 1, .ref aweight, .ref aown, .int 0, .ref abetween, .ref acommunity, .ref afresh, .int 0, .ref atold, .ref areached, .ref aplaced, .int 0, .ref amoved, .ref agained, .int 0, .ref adegrees, .long 0]))] := hD
  obtain rfl : r_4 = 1 := hw
  refine lv_if_eq (tgt := 21) hx hb dX5_gain_14 (by decide) (fun c_6 => ?_) (fun c_6 => ?_)
  · exact absurd c_6 (by decide)
  refine lv_iconst (v := 1) hx hb dX5_gain_17 (by decide) ?_
  refine lv_goto (tgt := 22) hx hb dX5_gain_18 (by decide) ?_
  refine va_put (D := (dC, dI)) (ci := 5) (v := .int 1) (ty := .int) (C := RX5) (T := TX5) (N := 17) hx hb hts i_5 tyX5 tyX5_ok nmX5 hown hK hP hD hS 0 rfl rfl 14 (by decide) k_0 (fun _ h9 => h9) rfl (by decide +kernel) rfl rfl (Nat.le_of_ble_eq_true rfl) dX5_gain_22 (fun H locs hP hD hS => ?_)
  have hP : va_P (dC, dI) vwCl [(h, .inr (5, [.int 1, .ref aweight, .ref aown, .int 0, .ref abetween, .ref acommunity, .ref afresh, .int 0, .ref atold, .ref areached, .ref aplaced, .int 0, .ref amoved, .ref agained, .int 1, .ref adegrees, .long 0]))] H := hP
  have hD : va_D A [(h, .inr (5, [.int 1, .ref aweight, .ref aown, .int 0, .ref abetween, .ref acommunity, .ref afresh, .int 0, .ref atold, .ref areached, .ref aplaced, .int 0, .ref amoved, .ref agained, .int 1, .ref adegrees, .long 0]))] := hD
  refine lv_aload_n hx hb dX5_gain_25 rfl (lv_at hl 0 rfl) ?_
  refine va_get (D := (dC, dI)) (ci := 5) (v := .int 1) (C := RX5) (T := TX5) (N := 17) hx hb hts i_5 hown hK hP 0 rfl rfl 14 (by decide) k_0 (fun _ h9 => h9) rfl dX5_gain_26 ?_
  refine lv_if_le (tgt := 34) hx hb dX5_gain_29 (by decide) (fun c_7 => ?_) (fun c_7 => ?_)
  · exact absurd c_7 (by decide)
  refine lv_lconst (v := 0) hx hb dX5_gain_32 (by decide) ?_
  have hP9 := hP.sub (ws' := [(h, .inr (5, [.int 1, .ref aweight, .ref aown, .int 0, .ref abetween, .ref acommunity, .ref afresh, .int 0, .ref atold, .ref areached, .ref aplaced, .int 0, .ref amoved, .ref agained, .int 1, .ref adegrees, .long 0]))]) [0] rfl
  have hD9 := hD.sub (ws' := [(h, .inr (5, [.int 1, .ref aweight, .ref aown, .int 0, .ref abetween, .ref acommunity, .ref afresh, .int 0, .ref atold, .ref areached, .ref aplaced, .int 0, .ref amoved, .ref agained, .int 1, .ref adegrees, .long 0]))]) [0] (by decide) rfl
  exact W.lret (v := 0) hx hb hr (fun t ht hW => ⟨⟨_, (), rfl, rfl, by rw [ht]; exact hP9, hD9⟩, hS.F ht⟩) hS.2.2 dX5_gain_33
set_option maxHeartbeats 4000000 in
set_option maxRecDepth 100000 in
theorem c_X5_about_0 (l : Launch) (dC : Nat → ClassId) (dI : Nat → Nat → Nat) (cI cJ : ClassId) (h aweight aown abetween acommunity afresh atold areached aplaced amoved agained adegrees : Nat) (sz : Nat) (n : Int32) : Met l yX5_about wsX5_about ({ frames := 1, cells := 0, slots := 0, locals := 22 }) (va_Pc [.ref h, .int 0, .int n] (pPre dC dI cI cJ sz [(h, .inr (5, [.int 1, .ref aweight, .ref aown, .int 0, .ref abetween, .ref acommunity, .ref afresh, .int 0, .ref atold, .ref areached, .ref aplaced, .int 0, .ref amoved, .ref agained, .int 0, .ref adegrees, .long 0])), (aweight, .inl (cI, 1600, .inl Zi)), (aown, .inl (cI, 40, .inl (upd Zi 0 0))), (abetween, .inl (cJ, 1600, .inr (.inl Zl)))])) (va_Qi (fun (r : Int32) (_ : Unit) => r = 1) (pPost dC dI (va_A [(h, .inr (5, [.int 1, .ref aweight, .ref aown, .int 0, .ref abetween, .ref acommunity, .ref afresh, .int 0, .ref atold, .ref areached, .ref aplaced, .int 0, .ref amoved, .ref agained, .int 0, .ref adegrees, .long 0])), (aweight, .inl (cI, 1600, .inl Zi)), (aown, .inl (cI, 40, .inl (upd Zi 0 0))), (abetween, .inl (cJ, 1600, .inr (.inl Zl)))] sz) [(h, .inr (5, [.int 1, .ref aweight, .ref aown, .int 1, .ref abetween, .ref acommunity, .ref afresh, .int 0, .ref atold, .ref areached, .ref aplaced, .int 0, .ref amoved, .ref agained, .int 0, .ref adegrees, .long 0]))]) (va_A [(h, .inr (5, [.int 1, .ref aweight, .ref aown, .int 0, .ref abetween, .ref acommunity, .ref afresh, .int 0, .ref atold, .ref areached, .ref aplaced, .int 0, .ref amoved, .ref agained, .int 0, .ref adegrees, .long 0])), (aweight, .inl (cI, 1600, .inl Zi)), (aown, .inl (cI, 40, .inl (upd Zi 0 0))), (abetween, .inl (cJ, 1600, .inr (.inl Zl)))] sz)) 0 0 (va_A [(h, .inr (5, [.int 1, .ref aweight, .ref aown, .int 0, .ref abetween, .ref acommunity, .ref afresh, .int 0, .ref atold, .ref areached, .ref aplaced, .int 0, .ref amoved, .ref agained, .int 0, .ref adegrees, .long 0])), (aweight, .inl (cI, 1600, .inl Zi)), (aown, .inl (cI, 40, .inl (upd Zi 0 0))), (abetween, .inl (cJ, 1600, .inr (.inl Zl)))] sz) := by
  refine Met.ofW (cc := cX5_about) (maxL := 3) (ret := (some .int)) (by decide) rfl ?_
  intro p e s m args below meth c s₁ B hml hv
  obtain ⟨rfl, hsz, hP, hK, hD0⟩ := hv
  have hx := B.exec
  have hb := B.bytes
  have hr := B.returns
  have hts := atoms_spec (ws := wsX5_about) B.pre
  have hown : s.vm.findClass RX5 = some m.cls := findClass_of_methodNamed B.named
  have hlocks := B.notSynchronized
  subst hsz
  have hD := hD0.self (sz := s.heap.size)
  generalize hAe : va_A [(h, .inr (5, [.int 1, .ref aweight, .ref aown, .int 0, .ref abetween, .ref acommunity, .ref afresh, .int 0, .ref atold, .ref areached, .ref aplaced, .int 0, .ref amoved, .ref agained, .int 0, .ref adegrees, .long 0])), (aweight, .inl (cI, 1600, .inl Zi)), (aown, .inl (cI, 40, .inl (upd Zi 0 0))), (abetween, .inl (cJ, 1600, .inr (.inl Zl)))] s.heap.size = A at hD ⊢
  have hA : ∀ q : Nat, s.heap.size ≤ q → A q := fun q h => by rw [← hAe]; exact Or.inr h
  have hS : va_S A s.heap s.heap [] := va_S.rf
  have hP : va_P (dC, dI) vwCl [(h, .inr (5, [.int 1, .ref aweight, .ref aown, .int 0, .ref abetween, .ref acommunity, .ref afresh, .int 0, .ref atold, .ref areached, .ref aplaced, .int 0, .ref amoved, .ref agained, .int 0, .ref adegrees, .long 0])), (aweight, .inl (cI, 1600, .inl Zi)), (aown, .inl (cI, 40, .inl (upd Zi 0 0))), (abetween, .inl (cJ, 1600, .inr (.inl Zl)))] s.heap := hP
  have hl := lv_entry ([.ref h, .int 0, .int n]) (n := 3) (Nat.le_of_ble_eq_true rfl)
  rw [lg_entry_eq]
  generalize (lg_sl ([.ref h, .int 0, .int n]) ++ List.replicate (3 - (lg_sl ([.ref h, .int 0, .int n])).length) Slot.unset).toArray = ls at hl ⊢
  have hl : lv_has ls 3 [(0, .ref h), (1, .int 0), (2, .int n)] := hl
  have i_5 : ∀ w ∈ wsX50, w ∈ wsX5_about := by decide +kernel
  have k_0 := hts (.fieldLink RX5 48 "CommunityLevelsModel" "thrown" "I") (by decide +kernel)
  have k_1 := hts (.fieldLink RX5 7 "CommunityLevelsModel" "n" "I") (by decide +kernel)
  refine lv_aload_n hx hb dX5_about_0 rfl (lv_at hl 0 rfl) ?_
  refine lv_iload_n hx hb dX5_about_1 rfl (lv_at hl 1 rfl) ?_
  refine lv_if_lt (tgt := 23) hx hb dX5_about_2 (by decide) (fun c_1 => ?_) (fun c_1 => ?_)
  · exact absurd c_1 (by decide)
  refine lv_iload_n hx hb dX5_about_5 rfl (lv_at hl 1 rfl) ?_
  refine lv_iconst (v := 4) hx hb dX5_about_6 (by decide) ?_
  refine lv_icmp_gt (tgt := 23) hx hb dX5_about_7 (by decide) (fun c_2 => ?_) (fun c_2 => ?_)
  · exact absurd c_2 (by decide)
  refine lv_iload_n hx hb dX5_about_10 rfl (lv_at hl 1 rfl) ?_
  refine lv_iconst (v := 1) hx hb dX5_about_11 (by decide) ?_
  refine lv_icmp_le (tgt := 27) hx hb dX5_about_12 (by decide) (fun c_3 => ?_) (fun c_3 => ?_)
  rotate_left
  · exact absurd (by decide) c_3
  refine lv_iconst (v := 0) hx hb dX5_about_27 (by decide) ?_
  refine va_put (D := (dC, dI)) (ci := 5) (v := .int 0) (ty := .int) (C := RX5) (T := TX5) (N := 17) hx hb hts i_5 tyX5 tyX5_ok nmX5 hown hK hP hD hS 0 rfl rfl 14 (by decide) k_0 (fun _ h9 => h9) rfl (by decide +kernel) rfl rfl (Nat.le_of_ble_eq_true rfl) dX5_about_28 (fun H locs hP hD hS => ?_)
  have hP : va_P (dC, dI) vwCl [(h, .inr (5, [.int 1, .ref aweight, .ref aown, .int 0, .ref abetween, .ref acommunity, .ref afresh, .int 0, .ref atold, .ref areached, .ref aplaced, .int 0, .ref amoved, .ref agained, .int 0, .ref adegrees, .long 0])), (aweight, .inl (cI, 1600, .inl Zi)), (aown, .inl (cI, 40, .inl (upd Zi 0 0))), (abetween, .inl (cJ, 1600, .inr (.inl Zl)))] H := hP
  have hD : va_D A [(h, .inr (5, [.int 1, .ref aweight, .ref aown, .int 0, .ref abetween, .ref acommunity, .ref afresh, .int 0, .ref atold, .ref areached, .ref aplaced, .int 0, .ref amoved, .ref agained, .int 0, .ref adegrees, .long 0])), (aweight, .inl (cI, 1600, .inl Zi)), (aown, .inl (cI, 40, .inl (upd Zi 0 0))), (abetween, .inl (cJ, 1600, .inr (.inl Zl)))] := hD
  refine lv_aload_n hx hb dX5_about_31 rfl (lv_at hl 0 rfl) ?_
  refine va_get (D := (dC, dI)) (ci := 5) (v := .int 0) (C := RX5) (T := TX5) (N := 17) hx hb hts i_5 hown hK hP 0 rfl rfl 14 (by decide) k_0 (fun _ h9 => h9) rfl dX5_about_32 ?_
  refine lv_if_le (tgt := 40) hx hb dX5_about_35 (by decide) (fun c_4 => ?_) (fun c_4 => ?_)
  rotate_left
  · exact absurd (by decide) c_4
  refine lv_aload_n hx hb dX5_about_40 rfl (lv_at hl 0 rfl) ?_
  have hPc := hP.sub (ws' := [(h, .inr (5, [.int 1, .ref aweight, .ref aown, .int 0, .ref abetween, .ref acommunity, .ref afresh, .int 0, .ref atold, .ref areached, .ref aplaced, .int 0, .ref amoved, .ref agained, .int 0, .ref adegrees, .long 0])), (aweight, .inl (cI, 1600, .inl Zi)), (abetween, .inl (cJ, 1600, .inr (.inl Zl)))]) [0, 1, 3] rfl
  have hDc := hD.sub (ws' := [(h, .inr (5, [.int 1, .ref aweight, .ref aown, .int 0, .ref abetween, .ref acommunity, .ref afresh, .int 0, .ref atold, .ref areached, .ref aplaced, .int 0, .ref amoved, .ref agained, .int 0, .ref adegrees, .long 0])), (aweight, .inl (cI, 1600, .inl Zi)), (abetween, .inl (cJ, 1600, .inr (.inl Zl)))]) [0, 1, 3] (by decide) rfl
  have hFc := va_free (wc := [(h, .inr (5, [.int 1, .ref aweight, .ref aown, .int 0, .ref abetween, .ref acommunity, .ref afresh, .int 0, .ref atold, .ref areached, .ref aplaced, .int 0, .ref amoved, .ref agained, .int 0, .ref adegrees, .long 0])), (aweight, .inl (cI, 1600, .inl Zi)), (abetween, .inl (cJ, 1600, .inr (.inl Zl)))]) hD hS hA [0, 1, 3] rfl
  refine va_callv (va_runV (As := []) (rest := []) ⟨hx, hb, hml, hown, hts⟩ (c_X5_first l dC dI cI cJ h aweight aown abetween acommunity afresh atold areached aplaced amoved agained adegrees H.size) (cwV 0 hts gX5_about_X5_first rfl rfl rfl (by decide +kernel) ⟨Nat.le_of_ble_eq_true rfl, Nat.le_of_ble_eq_true rfl⟩) ⟨fun a U g mk q => by obtain ⟨q0, q1, qP, qK, qD⟩ := q; exact ⟨q0, q1, qP, va_K.moved (u := U) (U := U.calling g mk a) (Vm.Alike.refl U.vm) qK, qD⟩, va_recv hK hPc (ci := 5) (q0 := 0) rfl rfl, fun U hU hW => ⟨rfl, by rw [hU], by rw [hU]; exact hPc, va_K.moved hW.alike hK, hDc.weaken (fun _ _ _ _ => trivial)⟩⟩ rfl rfl hl.1 rfl (lv_room (Nat.le_of_ble_eq_true rfl)) dX5_about_41 ⟨Nat.le_of_ble_eq_true rfl, Nat.le_of_ble_eq_true rfl⟩) hS (fun q _ h => hFc q h) hFc (fun u_6 t H1 locs ht hvm hw hB hz1 hk1 hS => ?_)
  obtain ⟨hP1, hD1⟩ := hB
  rw [ht] at hP1
  obtain ⟨hP, hD⟩ := va_join (wr := [(aown, .inl (cI, 40, .inl (upd Zi 0 0)))]) (w1 := [(h, .inr (5, [.int 1, .ref aweight, .ref aown, .int 1, .ref abetween, .ref acommunity, .ref afresh, .int 0, .ref atold, .ref areached, .ref aplaced, .int 0, .ref amoved, .ref agained, .int 0, .ref adegrees, .long 0])), (aweight, .inl (cI, 1600, .inl Zi)), (abetween, .inl (cJ, 1600, .inr (.inl (vp_updL Zl 0 0))))]) hP hD [0, 1, 3] [2] rfl rfl (by decide) (by decide) hk1 hFc hP1 hD1
  generalize H1 = H at hP hS ⊢
  have hP : va_P (dC, dI) vwCl [(aown, .inl (cI, 40, .inl (upd Zi 0 0))), (h, .inr (5, [.int 1, .ref aweight, .ref aown, .int 1, .ref abetween, .ref acommunity, .ref afresh, .int 0, .ref atold, .ref areached, .ref aplaced, .int 0, .ref amoved, .ref agained, .int 0, .ref adegrees, .long 0])), (aweight, .inl (cI, 1600, .inl Zi)), (abetween, .inl (cJ, 1600, .inr (.inl (vp_updL Zl 0 0))))] H := hP
  have hD : va_D A [(aown, .inl (cI, 40, .inl (upd Zi 0 0))), (h, .inr (5, [.int 1, .ref aweight, .ref aown, .int 1, .ref abetween, .ref acommunity, .ref afresh, .int 0, .ref atold, .ref areached, .ref aplaced, .int 0, .ref amoved, .ref agained, .int 0, .ref adegrees, .long 0])), (aweight, .inl (cI, 1600, .inl Zi)), (abetween, .inl (cJ, 1600, .inr (.inl (vp_updL Zl 0 0))))] := hD
  refine lv_iload_n hx hb dX5_about_44 rfl (lv_at hl 1 rfl) ?_
  refine lv_if_ne (tgt := 55) hx hb dX5_about_45 (by decide) (fun c_7 => ?_) (fun c_7 => ?_)
  · exact absurd c_7 (by decide)
  refine lv_aload_n hx hb dX5_about_48 rfl (lv_at hl 0 rfl) ?_
  refine va_get (D := (dC, dI)) (ci := 5) (v := .int 1) (C := RX5) (T := TX5) (N := 17) hx hb hts i_5 hown hK hP 1 rfl rfl 0 (by decide) k_1 (fun _ h9 => h9) rfl dX5_about_49 ?_
  refine lv_goto (tgt := 107) hx hb dX5_about_52 (by decide) ?_
  have hP9 := hP.sub (ws' := [(h, .inr (5, [.int 1, .ref aweight, .ref aown, .int 1, .ref abetween, .ref acommunity, .ref afresh, .int 0, .ref atold, .ref areached, .ref aplaced, .int 0, .ref amoved, .ref agained, .int 0, .ref adegrees, .long 0]))]) [1] rfl
  have hD9 := hD.sub (ws' := [(h, .inr (5, [.int 1, .ref aweight, .ref aown, .int 1, .ref abetween, .ref acommunity, .ref afresh, .int 0, .ref atold, .ref areached, .ref aplaced, .int 0, .ref amoved, .ref agained, .int 0, .ref adegrees, .long 0]))]) [1] (by decide) rfl
  exact W.iret (v := 1) hx hb hr (fun t ht hW => ⟨⟨_, (), rfl, rfl, by rw [ht]; exact hP9, hD9⟩, hS.F ht⟩) hS.2.2 dX5_about_107
set_option maxHeartbeats 4000000 in
set_option maxRecDepth 100000 in
theorem c_X5_about_1 (l : Launch) (dC : Nat → ClassId) (dI : Nat → Nat → Nat) (cI cJ : ClassId) (h aweight aown abetween acommunity afresh atold areached aplaced amoved agained adegrees : Nat) (sz : Nat) (n : Int32) : Met l yX5_about wsX5_about ({ frames := 1, cells := 0, slots := 0, locals := 24 }) (va_Pc [.ref h, .int 1, .int n] (pPre dC dI cI cJ sz [(h, .inr (5, [.int 1, .ref aweight, .ref aown, .int 0, .ref abetween, .ref acommunity, .ref afresh, .int 0, .ref atold, .ref areached, .ref aplaced, .int 0, .ref amoved, .ref agained, .int 0, .ref adegrees, .long 0])), (aweight, .inl (cI, 1600, .inl Zi)), (aown, .inl (cI, 40, .inl (upd Zi 0 0))), (abetween, .inl (cJ, 1600, .inr (.inl Zl)))])) (va_Qi (fun (r : Int32) (_ : Unit) => r = 0) (pPost dC dI (va_A [(h, .inr (5, [.int 1, .ref aweight, .ref aown, .int 0, .ref abetween, .ref acommunity, .ref afresh, .int 0, .ref atold, .ref areached, .ref aplaced, .int 0, .ref amoved, .ref agained, .int 0, .ref adegrees, .long 0])), (aweight, .inl (cI, 1600, .inl Zi)), (aown, .inl (cI, 40, .inl (upd Zi 0 0))), (abetween, .inl (cJ, 1600, .inr (.inl Zl)))] sz) [(h, .inr (5, [.int 1, .ref aweight, .ref aown, .int 1, .ref abetween, .ref acommunity, .ref afresh, .int 0, .ref atold, .ref areached, .ref aplaced, .int 0, .ref amoved, .ref agained, .int 0, .ref adegrees, .long 0]))]) (va_A [(h, .inr (5, [.int 1, .ref aweight, .ref aown, .int 0, .ref abetween, .ref acommunity, .ref afresh, .int 0, .ref atold, .ref areached, .ref aplaced, .int 0, .ref amoved, .ref agained, .int 0, .ref adegrees, .long 0])), (aweight, .inl (cI, 1600, .inl Zi)), (aown, .inl (cI, 40, .inl (upd Zi 0 0))), (abetween, .inl (cJ, 1600, .inr (.inl Zl)))] sz)) 0 0 (va_A [(h, .inr (5, [.int 1, .ref aweight, .ref aown, .int 0, .ref abetween, .ref acommunity, .ref afresh, .int 0, .ref atold, .ref areached, .ref aplaced, .int 0, .ref amoved, .ref agained, .int 0, .ref adegrees, .long 0])), (aweight, .inl (cI, 1600, .inl Zi)), (aown, .inl (cI, 40, .inl (upd Zi 0 0))), (abetween, .inl (cJ, 1600, .inr (.inl Zl)))] sz) := by
  refine Met.ofW (cc := cX5_about) (maxL := 3) (ret := (some .int)) (by decide) rfl ?_
  intro p e s m args below meth c s₁ B hml hv
  obtain ⟨rfl, hsz, hP, hK, hD0⟩ := hv
  have hx := B.exec
  have hb := B.bytes
  have hr := B.returns
  have hts := atoms_spec (ws := wsX5_about) B.pre
  have hown : s.vm.findClass RX5 = some m.cls := findClass_of_methodNamed B.named
  have hlocks := B.notSynchronized
  subst hsz
  have hD := hD0.self (sz := s.heap.size)
  generalize hAe : va_A [(h, .inr (5, [.int 1, .ref aweight, .ref aown, .int 0, .ref abetween, .ref acommunity, .ref afresh, .int 0, .ref atold, .ref areached, .ref aplaced, .int 0, .ref amoved, .ref agained, .int 0, .ref adegrees, .long 0])), (aweight, .inl (cI, 1600, .inl Zi)), (aown, .inl (cI, 40, .inl (upd Zi 0 0))), (abetween, .inl (cJ, 1600, .inr (.inl Zl)))] s.heap.size = A at hD ⊢
  have hA : ∀ q : Nat, s.heap.size ≤ q → A q := fun q h => by rw [← hAe]; exact Or.inr h
  have hS : va_S A s.heap s.heap [] := va_S.rf
  have hP : va_P (dC, dI) vwCl [(h, .inr (5, [.int 1, .ref aweight, .ref aown, .int 0, .ref abetween, .ref acommunity, .ref afresh, .int 0, .ref atold, .ref areached, .ref aplaced, .int 0, .ref amoved, .ref agained, .int 0, .ref adegrees, .long 0])), (aweight, .inl (cI, 1600, .inl Zi)), (aown, .inl (cI, 40, .inl (upd Zi 0 0))), (abetween, .inl (cJ, 1600, .inr (.inl Zl)))] s.heap := hP
  have hl := lv_entry ([.ref h, .int 1, .int n]) (n := 3) (Nat.le_of_ble_eq_true rfl)
  rw [lg_entry_eq]
  generalize (lg_sl ([.ref h, .int 1, .int n]) ++ List.replicate (3 - (lg_sl ([.ref h, .int 1, .int n])).length) Slot.unset).toArray = ls at hl ⊢
  have hl : lv_has ls 3 [(0, .ref h), (1, .int 1), (2, .int n)] := hl
  have i_5 : ∀ w ∈ wsX50, w ∈ wsX5_about := by decide +kernel
  have k_0 := hts (.fieldLink RX5 48 "CommunityLevelsModel" "thrown" "I") (by decide +kernel)
  refine lv_aload_n hx hb dX5_about_0 rfl (lv_at hl 0 rfl) ?_
  refine lv_iload_n hx hb dX5_about_1 rfl (lv_at hl 1 rfl) ?_
  refine lv_if_lt (tgt := 23) hx hb dX5_about_2 (by decide) (fun c_1 => ?_) (fun c_1 => ?_)
  · exact absurd c_1 (by decide)
  refine lv_iload_n hx hb dX5_about_5 rfl (lv_at hl 1 rfl) ?_
  refine lv_iconst (v := 4) hx hb dX5_about_6 (by decide) ?_
  refine lv_icmp_gt (tgt := 23) hx hb dX5_about_7 (by decide) (fun c_2 => ?_) (fun c_2 => ?_)
  · exact absurd c_2 (by decide)
  refine lv_iload_n hx hb dX5_about_10 rfl (lv_at hl 1 rfl) ?_
  refine lv_iconst (v := 1) hx hb dX5_about_11 (by decide) ?_
  refine lv_icmp_le (tgt := 27) hx hb dX5_about_12 (by decide) (fun c_3 => ?_) (fun c_3 => ?_)
  rotate_left
  · exact absurd (by decide) c_3
  refine lv_iconst (v := 0) hx hb dX5_about_27 (by decide) ?_
  refine va_put (D := (dC, dI)) (ci := 5) (v := .int 0) (ty := .int) (C := RX5) (T := TX5) (N := 17) hx hb hts i_5 tyX5 tyX5_ok nmX5 hown hK hP hD hS 0 rfl rfl 14 (by decide) k_0 (fun _ h9 => h9) rfl (by decide +kernel) rfl rfl (Nat.le_of_ble_eq_true rfl) dX5_about_28 (fun H locs hP hD hS => ?_)
  have hP : va_P (dC, dI) vwCl [(h, .inr (5, [.int 1, .ref aweight, .ref aown, .int 0, .ref abetween, .ref acommunity, .ref afresh, .int 0, .ref atold, .ref areached, .ref aplaced, .int 0, .ref amoved, .ref agained, .int 0, .ref adegrees, .long 0])), (aweight, .inl (cI, 1600, .inl Zi)), (aown, .inl (cI, 40, .inl (upd Zi 0 0))), (abetween, .inl (cJ, 1600, .inr (.inl Zl)))] H := hP
  have hD : va_D A [(h, .inr (5, [.int 1, .ref aweight, .ref aown, .int 0, .ref abetween, .ref acommunity, .ref afresh, .int 0, .ref atold, .ref areached, .ref aplaced, .int 0, .ref amoved, .ref agained, .int 0, .ref adegrees, .long 0])), (aweight, .inl (cI, 1600, .inl Zi)), (aown, .inl (cI, 40, .inl (upd Zi 0 0))), (abetween, .inl (cJ, 1600, .inr (.inl Zl)))] := hD
  refine lv_aload_n hx hb dX5_about_31 rfl (lv_at hl 0 rfl) ?_
  refine va_get (D := (dC, dI)) (ci := 5) (v := .int 0) (C := RX5) (T := TX5) (N := 17) hx hb hts i_5 hown hK hP 0 rfl rfl 14 (by decide) k_0 (fun _ h9 => h9) rfl dX5_about_32 ?_
  refine lv_if_le (tgt := 40) hx hb dX5_about_35 (by decide) (fun c_4 => ?_) (fun c_4 => ?_)
  rotate_left
  · exact absurd (by decide) c_4
  refine lv_aload_n hx hb dX5_about_40 rfl (lv_at hl 0 rfl) ?_
  have hPc := hP.sub (ws' := [(h, .inr (5, [.int 1, .ref aweight, .ref aown, .int 0, .ref abetween, .ref acommunity, .ref afresh, .int 0, .ref atold, .ref areached, .ref aplaced, .int 0, .ref amoved, .ref agained, .int 0, .ref adegrees, .long 0])), (aweight, .inl (cI, 1600, .inl Zi)), (abetween, .inl (cJ, 1600, .inr (.inl Zl)))]) [0, 1, 3] rfl
  have hDc := hD.sub (ws' := [(h, .inr (5, [.int 1, .ref aweight, .ref aown, .int 0, .ref abetween, .ref acommunity, .ref afresh, .int 0, .ref atold, .ref areached, .ref aplaced, .int 0, .ref amoved, .ref agained, .int 0, .ref adegrees, .long 0])), (aweight, .inl (cI, 1600, .inl Zi)), (abetween, .inl (cJ, 1600, .inr (.inl Zl)))]) [0, 1, 3] (by decide) rfl
  have hFc := va_free (wc := [(h, .inr (5, [.int 1, .ref aweight, .ref aown, .int 0, .ref abetween, .ref acommunity, .ref afresh, .int 0, .ref atold, .ref areached, .ref aplaced, .int 0, .ref amoved, .ref agained, .int 0, .ref adegrees, .long 0])), (aweight, .inl (cI, 1600, .inl Zi)), (abetween, .inl (cJ, 1600, .inr (.inl Zl)))]) hD hS hA [0, 1, 3] rfl
  refine va_callv (va_runV (As := []) (rest := []) ⟨hx, hb, hml, hown, hts⟩ (c_X5_first l dC dI cI cJ h aweight aown abetween acommunity afresh atold areached aplaced amoved agained adegrees H.size) (cwV 0 hts gX5_about_X5_first rfl rfl rfl (by decide +kernel) ⟨Nat.le_of_ble_eq_true rfl, Nat.le_of_ble_eq_true rfl⟩) ⟨fun a U g mk q => by obtain ⟨q0, q1, qP, qK, qD⟩ := q; exact ⟨q0, q1, qP, va_K.moved (u := U) (U := U.calling g mk a) (Vm.Alike.refl U.vm) qK, qD⟩, va_recv hK hPc (ci := 5) (q0 := 0) rfl rfl, fun U hU hW => ⟨rfl, by rw [hU], by rw [hU]; exact hPc, va_K.moved hW.alike hK, hDc.weaken (fun _ _ _ _ => trivial)⟩⟩ rfl rfl hl.1 rfl (lv_room (Nat.le_of_ble_eq_true rfl)) dX5_about_41 ⟨Nat.le_of_ble_eq_true rfl, Nat.le_of_ble_eq_true rfl⟩) hS (fun q _ h => hFc q h) hFc (fun u_6 t H1 locs ht hvm hw hB hz1 hk1 hS => ?_)
  obtain ⟨hP1, hD1⟩ := hB
  rw [ht] at hP1
  obtain ⟨hP, hD⟩ := va_join (wr := [(aown, .inl (cI, 40, .inl (upd Zi 0 0)))]) (w1 := [(h, .inr (5, [.int 1, .ref aweight, .ref aown, .int 1, .ref abetween, .ref acommunity, .ref afresh, .int 0, .ref atold, .ref areached, .ref aplaced, .int 0, .ref amoved, .ref agained, .int 0, .ref adegrees, .long 0])), (aweight, .inl (cI, 1600, .inl Zi)), (abetween, .inl (cJ, 1600, .inr (.inl (vp_updL Zl 0 0))))]) hP hD [0, 1, 3] [2] rfl rfl (by decide) (by decide) hk1 hFc hP1 hD1
  generalize H1 = H at hP hS ⊢
  have hP : va_P (dC, dI) vwCl [(aown, .inl (cI, 40, .inl (upd Zi 0 0))), (h, .inr (5, [.int 1, .ref aweight, .ref aown, .int 1, .ref abetween, .ref acommunity, .ref afresh, .int 0, .ref atold, .ref areached, .ref aplaced, .int 0, .ref amoved, .ref agained, .int 0, .ref adegrees, .long 0])), (aweight, .inl (cI, 1600, .inl Zi)), (abetween, .inl (cJ, 1600, .inr (.inl (vp_updL Zl 0 0))))] H := hP
  have hD : va_D A [(aown, .inl (cI, 40, .inl (upd Zi 0 0))), (h, .inr (5, [.int 1, .ref aweight, .ref aown, .int 1, .ref abetween, .ref acommunity, .ref afresh, .int 0, .ref atold, .ref areached, .ref aplaced, .int 0, .ref amoved, .ref agained, .int 0, .ref adegrees, .long 0])), (aweight, .inl (cI, 1600, .inl Zi)), (abetween, .inl (cJ, 1600, .inr (.inl (vp_updL Zl 0 0))))] := hD
  refine lv_iload_n hx hb dX5_about_44 rfl (lv_at hl 1 rfl) ?_
  refine lv_if_ne (tgt := 55) hx hb dX5_about_45 (by decide) (fun c_7 => ?_) (fun c_7 => ?_)
  rotate_left
  · exact absurd c_7 (by decide)
  refine lv_iload_n hx hb dX5_about_55 rfl (lv_at hl 1 rfl) ?_
  refine lv_iconst (v := 1) hx hb dX5_about_56 (by decide) ?_
  refine lv_icmp_ne (tgt := 68) hx hb dX5_about_57 (by decide) (fun c_8 => ?_) (fun c_8 => ?_)
  · exact absurd c_8 (by decide)
  refine lv_aload_n hx hb dX5_about_60 rfl (lv_at hl 0 rfl) ?_
  have hPc := hP.sub (ws' := [(h, .inr (5, [.int 1, .ref aweight, .ref aown, .int 1, .ref abetween, .ref acommunity, .ref afresh, .int 0, .ref atold, .ref areached, .ref aplaced, .int 0, .ref amoved, .ref agained, .int 0, .ref adegrees, .long 0])), (abetween, .inl (cJ, 1600, .inr (.inl (vp_updL Zl 0 0))))]) [1, 3] rfl
  have hDc := hD.sub (ws' := [(h, .inr (5, [.int 1, .ref aweight, .ref aown, .int 1, .ref abetween, .ref acommunity, .ref afresh, .int 0, .ref atold, .ref areached, .ref aplaced, .int 0, .ref amoved, .ref agained, .int 0, .ref adegrees, .long 0])), (abetween, .inl (cJ, 1600, .inr (.inl (vp_updL Zl 0 0))))]) [1, 3] (by decide) rfl
  have hFc := va_free (wc := [(h, .inr (5, [.int 1, .ref aweight, .ref aown, .int 1, .ref abetween, .ref acommunity, .ref afresh, .int 0, .ref atold, .ref areached, .ref aplaced, .int 0, .ref amoved, .ref agained, .int 0, .ref adegrees, .long 0])), (abetween, .inl (cJ, 1600, .inr (.inl (vp_updL Zl 0 0))))]) hD hS hA [1, 3] rfl
  refine va_calll (va_runV (As := []) (rest := []) ⟨hx, hb, hml, hown, hts⟩ (c_X5_sum l dC dI cI cJ h aweight aown abetween acommunity afresh atold areached aplaced amoved agained adegrees H.size) (cwV 0 hts gX5_about_X5_sum rfl rfl rfl (by decide +kernel) ⟨Nat.le_of_ble_eq_true rfl, Nat.le_of_ble_eq_true rfl⟩) ⟨fun a U g mk q => by obtain ⟨q0, q1, qP, qK, qD⟩ := q; exact ⟨q0, q1, qP, va_K.moved (u := U) (U := U.calling g mk a) (Vm.Alike.refl U.vm) qK, qD⟩, va_recv hK hPc (ci := 5) (q0 := 0) rfl rfl, fun U hU hW => ⟨rfl, by rw [hU], by rw [hU]; exact hPc, va_K.moved hW.alike hK, hDc.weaken (fun _ _ _ _ => trivial)⟩⟩ rfl rfl hl.1 rfl (lv_room (Nat.le_of_ble_eq_true rfl)) dX5_about_61 ⟨Nat.le_of_ble_eq_true rfl, Nat.le_of_ble_eq_true rfl⟩) hS (fun q _ h => hFc q h) hFc (fun r_9 u_10 t H1 locs ht hvm hw hB hz1 hk1 hS => ?_)
  obtain ⟨hP1, hD1⟩ := hB
  rw [ht] at hP1
  obtain ⟨hP, hD⟩ := va_join (wr := [(aown, .inl (cI, 40, .inl (upd Zi 0 0))), (aweight, .inl (cI, 1600, .inl Zi))]) (w1 := [(h, .inr (5, [.int 1, .ref aweight, .ref aown, .int 1, .ref abetween, .ref acommunity, .ref afresh, .int 0, .ref atold, .ref areached, .ref aplaced, .int 0, .ref amoved, .ref agained, .int 0, .ref adegrees, .long 0])), (abetween, .inl (cJ, 1600, .inr (.inl (vp_updL Zl 0 0))))]) hP hD [1, 3] [0, 2] rfl rfl (by decide) (by decide) hk1 hFc hP1 hD1
  generalize H1 = H at hP hS ⊢
  have hP : va_P (dC, dI) vwCl [(aown, .inl (cI, 40, .inl (upd Zi 0 0))), (aweight, .inl (cI, 1600, .inl Zi)), (h, .inr (5, [.int 1, .ref aweight, .ref aown, .int 1, .ref abetween, .ref acommunity, .ref afresh, .int 0, .ref atold, .ref areached, .ref aplaced, .int 0, .ref amoved, .ref agained, .int 0, .ref adegrees, .long 0])), (abetween, .inl (cJ, 1600, .inr (.inl (vp_updL Zl 0 0))))] H := hP
  have hD : va_D A [(aown, .inl (cI, 40, .inl (upd Zi 0 0))), (aweight, .inl (cI, 1600, .inl Zi)), (h, .inr (5, [.int 1, .ref aweight, .ref aown, .int 1, .ref abetween, .ref acommunity, .ref afresh, .int 0, .ref atold, .ref areached, .ref aplaced, .int 0, .ref amoved, .ref agained, .int 0, .ref adegrees, .long 0])), (abetween, .inl (cJ, 1600, .inr (.inl (vp_updL Zl 0 0))))] := hD
  obtain rfl : r_9 = 0 := hw
  refine lv_l2i (v := 0) hx hb dX5_about_64 (by decide) ?_
  refine lv_goto (tgt := 107) hx hb dX5_about_65 (by decide) ?_
  have hP9 := hP.sub (ws' := [(h, .inr (5, [.int 1, .ref aweight, .ref aown, .int 1, .ref abetween, .ref acommunity, .ref afresh, .int 0, .ref atold, .ref areached, .ref aplaced, .int 0, .ref amoved, .ref agained, .int 0, .ref adegrees, .long 0]))]) [2] rfl
  have hD9 := hD.sub (ws' := [(h, .inr (5, [.int 1, .ref aweight, .ref aown, .int 1, .ref abetween, .ref acommunity, .ref afresh, .int 0, .ref atold, .ref areached, .ref aplaced, .int 0, .ref amoved, .ref agained, .int 0, .ref adegrees, .long 0]))]) [2] (by decide) rfl
  exact W.iret (v := 0) hx hb hr (fun t ht hW => ⟨⟨_, (), rfl, rfl, by rw [ht]; exact hP9, hD9⟩, hS.F ht⟩) hS.2.2 dX5_about_107
set_option maxHeartbeats 4000000 in
set_option maxRecDepth 100000 in
theorem c_X5_about_2 (l : Launch) (dC : Nat → ClassId) (dI : Nat → Nat → Nat) (cI cJ : ClassId) (h aweight aown abetween acommunity afresh atold areached aplaced amoved agained adegrees : Nat) (sz : Nat) : Met l yX5_about wsX5_about ({ frames := 1, cells := 0, slots := 0, locals := 24 }) (va_Pc [.ref h, .int 2, .int 0] (pPre dC dI cI cJ sz [(h, .inr (5, [.int 1, .ref aweight, .ref aown, .int 0, .ref abetween, .ref acommunity, .ref afresh, .int 0, .ref atold, .ref areached, .ref aplaced, .int 0, .ref amoved, .ref agained, .int 0, .ref adegrees, .long 0])), (aweight, .inl (cI, 1600, .inl Zi)), (aown, .inl (cI, 40, .inl (upd Zi 0 0))), (abetween, .inl (cJ, 1600, .inr (.inl Zl)))])) (va_Qi (fun (r : Int32) (_ : Unit) => r = 0) (pPost dC dI (va_A [(h, .inr (5, [.int 1, .ref aweight, .ref aown, .int 0, .ref abetween, .ref acommunity, .ref afresh, .int 0, .ref atold, .ref areached, .ref aplaced, .int 0, .ref amoved, .ref agained, .int 0, .ref adegrees, .long 0])), (aweight, .inl (cI, 1600, .inl Zi)), (aown, .inl (cI, 40, .inl (upd Zi 0 0))), (abetween, .inl (cJ, 1600, .inr (.inl Zl)))] sz) [(h, .inr (5, [.int 1, .ref aweight, .ref aown, .int 1, .ref abetween, .ref acommunity, .ref afresh, .int 0, .ref atold, .ref areached, .ref aplaced, .int 0, .ref amoved, .ref agained, .int 0, .ref adegrees, .long 0]))]) (va_A [(h, .inr (5, [.int 1, .ref aweight, .ref aown, .int 0, .ref abetween, .ref acommunity, .ref afresh, .int 0, .ref atold, .ref areached, .ref aplaced, .int 0, .ref amoved, .ref agained, .int 0, .ref adegrees, .long 0])), (aweight, .inl (cI, 1600, .inl Zi)), (aown, .inl (cI, 40, .inl (upd Zi 0 0))), (abetween, .inl (cJ, 1600, .inr (.inl Zl)))] sz)) 0 0 (va_A [(h, .inr (5, [.int 1, .ref aweight, .ref aown, .int 0, .ref abetween, .ref acommunity, .ref afresh, .int 0, .ref atold, .ref areached, .ref aplaced, .int 0, .ref amoved, .ref agained, .int 0, .ref adegrees, .long 0])), (aweight, .inl (cI, 1600, .inl Zi)), (aown, .inl (cI, 40, .inl (upd Zi 0 0))), (abetween, .inl (cJ, 1600, .inr (.inl Zl)))] sz) := by
  refine Met.ofW (cc := cX5_about) (maxL := 3) (ret := (some .int)) (by decide) rfl ?_
  intro p e s m args below meth c s₁ B hml hv
  obtain ⟨rfl, hsz, hP, hK, hD0⟩ := hv
  have hx := B.exec
  have hb := B.bytes
  have hr := B.returns
  have hts := atoms_spec (ws := wsX5_about) B.pre
  have hown : s.vm.findClass RX5 = some m.cls := findClass_of_methodNamed B.named
  have hlocks := B.notSynchronized
  subst hsz
  have hD := hD0.self (sz := s.heap.size)
  generalize hAe : va_A [(h, .inr (5, [.int 1, .ref aweight, .ref aown, .int 0, .ref abetween, .ref acommunity, .ref afresh, .int 0, .ref atold, .ref areached, .ref aplaced, .int 0, .ref amoved, .ref agained, .int 0, .ref adegrees, .long 0])), (aweight, .inl (cI, 1600, .inl Zi)), (aown, .inl (cI, 40, .inl (upd Zi 0 0))), (abetween, .inl (cJ, 1600, .inr (.inl Zl)))] s.heap.size = A at hD ⊢
  have hA : ∀ q : Nat, s.heap.size ≤ q → A q := fun q h => by rw [← hAe]; exact Or.inr h
  have hS : va_S A s.heap s.heap [] := va_S.rf
  have hP : va_P (dC, dI) vwCl [(h, .inr (5, [.int 1, .ref aweight, .ref aown, .int 0, .ref abetween, .ref acommunity, .ref afresh, .int 0, .ref atold, .ref areached, .ref aplaced, .int 0, .ref amoved, .ref agained, .int 0, .ref adegrees, .long 0])), (aweight, .inl (cI, 1600, .inl Zi)), (aown, .inl (cI, 40, .inl (upd Zi 0 0))), (abetween, .inl (cJ, 1600, .inr (.inl Zl)))] s.heap := hP
  have hl := lv_entry ([.ref h, .int 2, .int 0]) (n := 3) (Nat.le_of_ble_eq_true rfl)
  rw [lg_entry_eq]
  generalize (lg_sl ([.ref h, .int 2, .int 0]) ++ List.replicate (3 - (lg_sl ([.ref h, .int 2, .int 0])).length) Slot.unset).toArray = ls at hl ⊢
  have hl : lv_has ls 3 [(0, .ref h), (1, .int 2), (2, .int 0)] := hl
  have i_5 : ∀ w ∈ wsX50, w ∈ wsX5_about := by decide +kernel
  have k_0 := hts (.fieldLink RX5 48 "CommunityLevelsModel" "thrown" "I") (by decide +kernel)
  refine lv_aload_n hx hb dX5_about_0 rfl (lv_at hl 0 rfl) ?_
  refine lv_iload_n hx hb dX5_about_1 rfl (lv_at hl 1 rfl) ?_
  refine lv_if_lt (tgt := 23) hx hb dX5_about_2 (by decide) (fun c_1 => ?_) (fun c_1 => ?_)
  · exact absurd c_1 (by decide)
  refine lv_iload_n hx hb dX5_about_5 rfl (lv_at hl 1 rfl) ?_
  refine lv_iconst (v := 4) hx hb dX5_about_6 (by decide) ?_
  refine lv_icmp_gt (tgt := 23) hx hb dX5_about_7 (by decide) (fun c_2 => ?_) (fun c_2 => ?_)
  · exact absurd c_2 (by decide)
  refine lv_iload_n hx hb dX5_about_10 rfl (lv_at hl 1 rfl) ?_
  refine lv_iconst (v := 1) hx hb dX5_about_11 (by decide) ?_
  refine lv_icmp_le (tgt := 27) hx hb dX5_about_12 (by decide) (fun c_3 => ?_) (fun c_3 => ?_)
  · exact absurd c_3 (by decide)
  refine lv_aload_n hx hb dX5_about_15 rfl (lv_at hl 0 rfl) ?_
  refine lv_iload_n hx hb dX5_about_16 rfl (lv_at hl 2 rfl) ?_
  have hPc := hP.sub (ws' := [(h, .inr (5, [.int 1, .ref aweight, .ref aown, .int 0, .ref abetween, .ref acommunity, .ref afresh, .int 0, .ref atold, .ref areached, .ref aplaced, .int 0, .ref amoved, .ref agained, .int 0, .ref adegrees, .long 0]))]) [0] rfl
  have hDc := hD.sub (ws' := [(h, .inr (5, [.int 1, .ref aweight, .ref aown, .int 0, .ref abetween, .ref acommunity, .ref afresh, .int 0, .ref atold, .ref areached, .ref aplaced, .int 0, .ref amoved, .ref agained, .int 0, .ref adegrees, .long 0]))]) [0] (by decide) rfl
  have hFc := va_free (wc := [(h, .inr (5, [.int 1, .ref aweight, .ref aown, .int 0, .ref abetween, .ref acommunity, .ref afresh, .int 0, .ref atold, .ref areached, .ref aplaced, .int 0, .ref amoved, .ref agained, .int 0, .ref adegrees, .long 0]))]) hD hS hA [0] rfl
  refine va_calli (va_runV (As := [.int 0]) (rest := [.ref h]) ⟨hx, hb, hml, hown, hts⟩ (c_X5_noNode l dC dI cI cJ h aweight aown abetween acommunity afresh atold areached aplaced amoved agained adegrees s.heap.size 0) (cwV 1 hts gX5_about_X5_noNode rfl rfl rfl (by decide +kernel) ⟨Nat.le_of_ble_eq_true rfl, Nat.le_of_ble_eq_true rfl⟩) ⟨fun a U g mk q => by obtain ⟨q0, q1, qP, qK, qD⟩ := q; exact ⟨q0, q1, qP, va_K.moved (u := U) (U := U.calling g mk a) (Vm.Alike.refl U.vm) qK, qD⟩, va_recv hK hPc (ci := 5) (q0 := 0) rfl rfl, fun U hU hW => ⟨rfl, by rw [hU], by rw [hU]; exact hPc, va_K.moved hW.alike hK, hDc.weaken (fun _ _ _ _ => trivial)⟩⟩ rfl rfl hl.1 rfl (lv_room (Nat.le_of_ble_eq_true rfl)) dX5_about_17 ⟨Nat.le_of_ble_eq_true rfl, Nat.le_of_ble_eq_true rfl⟩) hS (fun q _ h => hFc q h) hFc (fun r_4 u_5 t H1 locs ht hvm hw hB hz1 hk1 hS => ?_)
  obtain ⟨hP1, hD1⟩ := hB
  rw [ht] at hP1
  obtain ⟨hP, hD⟩ := va_join (wr := [(aweight, .inl (cI, 1600, .inl Zi)), (aown, .inl (cI, 40, .inl (upd Zi 0 0))), (abetween, .inl (cJ, 1600, .inr (.inl Zl)))]) (w1 := [(h, .inr (5, [.int 1, .ref aweight, .ref aown, .int 0, .ref abetween, .ref acommunity, .ref afresh, .int 0, .ref atold, .ref areached, .ref aplaced, .int 0, .ref amoved, .ref agained, .int 0, .ref adegrees, .long 0]))]) hP hD [0] [1, 2, 3] rfl rfl (by decide) (by decide) hk1 hFc hP1 hD1
  generalize H1 = H at hP hS ⊢
  have hP : va_P (dC, dI) vwCl [(aweight, .inl (cI, 1600, .inl Zi)), (aown, .inl (cI, 40, .inl (upd Zi 0 0))), (abetween, .inl (cJ, 1600, .inr (.inl Zl))), (h, .inr (5, [.int 1, .ref aweight, .ref aown, .int 0, .ref abetween, .ref acommunity, .ref afresh, .int 0, .ref atold, .ref areached, .ref aplaced, .int 0, .ref amoved, .ref agained, .int 0, .ref adegrees, .long 0]))] H := hP
  have hD : va_D A [(aweight, .inl (cI, 1600, .inl Zi)), (aown, .inl (cI, 40, .inl (upd Zi 0 0))), (abetween, .inl (cJ, 1600, .inr (.inl Zl))), (h, .inr (5, [.int 1, .ref aweight, .ref aown, .int 0, .ref abetween, .ref acommunity, .ref afresh, .int 0, .ref atold, .ref areached, .ref aplaced, .int 0, .ref amoved, .ref agained, .int 0, .ref adegrees, .long 0]))] := hD
  obtain rfl : r_4 = 0 := hw
  refine lv_if_eq (tgt := 27) hx hb dX5_about_20 (by decide) (fun c_6 => ?_) (fun c_6 => ?_)
  rotate_left
  · exact absurd (by decide) c_6
  refine lv_iconst (v := 0) hx hb dX5_about_27 (by decide) ?_
  refine va_put (D := (dC, dI)) (ci := 5) (v := .int 0) (ty := .int) (C := RX5) (T := TX5) (N := 17) hx hb hts i_5 tyX5 tyX5_ok nmX5 hown hK hP hD hS 3 rfl rfl 14 (by decide) k_0 (fun _ h9 => h9) rfl (by decide +kernel) rfl rfl (Nat.le_of_ble_eq_true rfl) dX5_about_28 (fun H locs hP hD hS => ?_)
  have hP : va_P (dC, dI) vwCl [(aweight, .inl (cI, 1600, .inl Zi)), (aown, .inl (cI, 40, .inl (upd Zi 0 0))), (abetween, .inl (cJ, 1600, .inr (.inl Zl))), (h, .inr (5, [.int 1, .ref aweight, .ref aown, .int 0, .ref abetween, .ref acommunity, .ref afresh, .int 0, .ref atold, .ref areached, .ref aplaced, .int 0, .ref amoved, .ref agained, .int 0, .ref adegrees, .long 0]))] H := hP
  have hD : va_D A [(aweight, .inl (cI, 1600, .inl Zi)), (aown, .inl (cI, 40, .inl (upd Zi 0 0))), (abetween, .inl (cJ, 1600, .inr (.inl Zl))), (h, .inr (5, [.int 1, .ref aweight, .ref aown, .int 0, .ref abetween, .ref acommunity, .ref afresh, .int 0, .ref atold, .ref areached, .ref aplaced, .int 0, .ref amoved, .ref agained, .int 0, .ref adegrees, .long 0]))] := hD
  refine lv_aload_n hx hb dX5_about_31 rfl (lv_at hl 0 rfl) ?_
  refine va_get (D := (dC, dI)) (ci := 5) (v := .int 0) (C := RX5) (T := TX5) (N := 17) hx hb hts i_5 hown hK hP 3 rfl rfl 14 (by decide) k_0 (fun _ h9 => h9) rfl dX5_about_32 ?_
  refine lv_if_le (tgt := 40) hx hb dX5_about_35 (by decide) (fun c_7 => ?_) (fun c_7 => ?_)
  rotate_left
  · exact absurd (by decide) c_7
  refine lv_aload_n hx hb dX5_about_40 rfl (lv_at hl 0 rfl) ?_
  have hPc := hP.sub (ws' := [(h, .inr (5, [.int 1, .ref aweight, .ref aown, .int 0, .ref abetween, .ref acommunity, .ref afresh, .int 0, .ref atold, .ref areached, .ref aplaced, .int 0, .ref amoved, .ref agained, .int 0, .ref adegrees, .long 0])), (aweight, .inl (cI, 1600, .inl Zi)), (abetween, .inl (cJ, 1600, .inr (.inl Zl)))]) [3, 0, 2] rfl
  have hDc := hD.sub (ws' := [(h, .inr (5, [.int 1, .ref aweight, .ref aown, .int 0, .ref abetween, .ref acommunity, .ref afresh, .int 0, .ref atold, .ref areached, .ref aplaced, .int 0, .ref amoved, .ref agained, .int 0, .ref adegrees, .long 0])), (aweight, .inl (cI, 1600, .inl Zi)), (abetween, .inl (cJ, 1600, .inr (.inl Zl)))]) [3, 0, 2] (by decide) rfl
  have hFc := va_free (wc := [(h, .inr (5, [.int 1, .ref aweight, .ref aown, .int 0, .ref abetween, .ref acommunity, .ref afresh, .int 0, .ref atold, .ref areached, .ref aplaced, .int 0, .ref amoved, .ref agained, .int 0, .ref adegrees, .long 0])), (aweight, .inl (cI, 1600, .inl Zi)), (abetween, .inl (cJ, 1600, .inr (.inl Zl)))]) hD hS hA [3, 0, 2] rfl
  refine va_callv (va_runV (As := []) (rest := []) ⟨hx, hb, hml, hown, hts⟩ (c_X5_first l dC dI cI cJ h aweight aown abetween acommunity afresh atold areached aplaced amoved agained adegrees H.size) (cwV 0 hts gX5_about_X5_first rfl rfl rfl (by decide +kernel) ⟨Nat.le_of_ble_eq_true rfl, Nat.le_of_ble_eq_true rfl⟩) ⟨fun a U g mk q => by obtain ⟨q0, q1, qP, qK, qD⟩ := q; exact ⟨q0, q1, qP, va_K.moved (u := U) (U := U.calling g mk a) (Vm.Alike.refl U.vm) qK, qD⟩, va_recv hK hPc (ci := 5) (q0 := 0) rfl rfl, fun U hU hW => ⟨rfl, by rw [hU], by rw [hU]; exact hPc, va_K.moved hW.alike hK, hDc.weaken (fun _ _ _ _ => trivial)⟩⟩ rfl rfl hl.1 rfl (lv_room (Nat.le_of_ble_eq_true rfl)) dX5_about_41 ⟨Nat.le_of_ble_eq_true rfl, Nat.le_of_ble_eq_true rfl⟩) hS (fun q _ h => hFc q h) hFc (fun u_9 t H1 locs ht hvm hw hB hz1 hk1 hS => ?_)
  obtain ⟨hP1, hD1⟩ := hB
  rw [ht] at hP1
  obtain ⟨hP, hD⟩ := va_join (wr := [(aown, .inl (cI, 40, .inl (upd Zi 0 0)))]) (w1 := [(h, .inr (5, [.int 1, .ref aweight, .ref aown, .int 1, .ref abetween, .ref acommunity, .ref afresh, .int 0, .ref atold, .ref areached, .ref aplaced, .int 0, .ref amoved, .ref agained, .int 0, .ref adegrees, .long 0])), (aweight, .inl (cI, 1600, .inl Zi)), (abetween, .inl (cJ, 1600, .inr (.inl (vp_updL Zl 0 0))))]) hP hD [3, 0, 2] [1] rfl rfl (by decide) (by decide) hk1 hFc hP1 hD1
  generalize H1 = H at hP hS ⊢
  have hP : va_P (dC, dI) vwCl [(aown, .inl (cI, 40, .inl (upd Zi 0 0))), (h, .inr (5, [.int 1, .ref aweight, .ref aown, .int 1, .ref abetween, .ref acommunity, .ref afresh, .int 0, .ref atold, .ref areached, .ref aplaced, .int 0, .ref amoved, .ref agained, .int 0, .ref adegrees, .long 0])), (aweight, .inl (cI, 1600, .inl Zi)), (abetween, .inl (cJ, 1600, .inr (.inl (vp_updL Zl 0 0))))] H := hP
  have hD : va_D A [(aown, .inl (cI, 40, .inl (upd Zi 0 0))), (h, .inr (5, [.int 1, .ref aweight, .ref aown, .int 1, .ref abetween, .ref acommunity, .ref afresh, .int 0, .ref atold, .ref areached, .ref aplaced, .int 0, .ref amoved, .ref agained, .int 0, .ref adegrees, .long 0])), (aweight, .inl (cI, 1600, .inl Zi)), (abetween, .inl (cJ, 1600, .inr (.inl (vp_updL Zl 0 0))))] := hD
  refine lv_iload_n hx hb dX5_about_44 rfl (lv_at hl 1 rfl) ?_
  refine lv_if_ne (tgt := 55) hx hb dX5_about_45 (by decide) (fun c_10 => ?_) (fun c_10 => ?_)
  rotate_left
  · exact absurd c_10 (by decide)
  refine lv_iload_n hx hb dX5_about_55 rfl (lv_at hl 1 rfl) ?_
  refine lv_iconst (v := 1) hx hb dX5_about_56 (by decide) ?_
  refine lv_icmp_ne (tgt := 68) hx hb dX5_about_57 (by decide) (fun c_11 => ?_) (fun c_11 => ?_)
  rotate_left
  · exact absurd c_11 (by decide)
  refine lv_iload_n hx hb dX5_about_68 rfl (lv_at hl 1 rfl) ?_
  refine lv_iconst (v := 2) hx hb dX5_about_69 (by decide) ?_
  refine lv_icmp_ne (tgt := 82) hx hb dX5_about_70 (by decide) (fun c_12 => ?_) (fun c_12 => ?_)
  · exact absurd c_12 (by decide)
  refine lv_aload_n hx hb dX5_about_73 rfl (lv_at hl 0 rfl) ?_
  refine lv_iload_n hx hb dX5_about_74 rfl (lv_at hl 2 rfl) ?_
  have hPc := hP.sub (ws' := [(h, .inr (5, [.int 1, .ref aweight, .ref aown, .int 1, .ref abetween, .ref acommunity, .ref afresh, .int 0, .ref atold, .ref areached, .ref aplaced, .int 0, .ref amoved, .ref agained, .int 0, .ref adegrees, .long 0])), (abetween, .inl (cJ, 1600, .inr (.inl (vp_updL Zl 0 0))))]) [1, 3] rfl
  have hDc := hD.sub (ws' := [(h, .inr (5, [.int 1, .ref aweight, .ref aown, .int 1, .ref abetween, .ref acommunity, .ref afresh, .int 0, .ref atold, .ref areached, .ref aplaced, .int 0, .ref amoved, .ref agained, .int 0, .ref adegrees, .long 0])), (abetween, .inl (cJ, 1600, .inr (.inl (vp_updL Zl 0 0))))]) [1, 3] (by decide) rfl
  have hFc := va_free (wc := [(h, .inr (5, [.int 1, .ref aweight, .ref aown, .int 1, .ref abetween, .ref acommunity, .ref afresh, .int 0, .ref atold, .ref areached, .ref aplaced, .int 0, .ref amoved, .ref agained, .int 0, .ref adegrees, .long 0])), (abetween, .inl (cJ, 1600, .inr (.inl (vp_updL Zl 0 0))))]) hD hS hA [1, 3] rfl
  refine va_calll (va_runV (As := [.int 0]) (rest := []) ⟨hx, hb, hml, hown, hts⟩ (c_X5_degree l dC dI cI cJ h aweight aown abetween acommunity afresh atold areached aplaced amoved agained adegrees H.size) (cwV 1 hts gX5_about_X5_degree rfl rfl rfl (by decide +kernel) ⟨Nat.le_of_ble_eq_true rfl, Nat.le_of_ble_eq_true rfl⟩) ⟨fun a U g mk q => by obtain ⟨q0, q1, qP, qK, qD⟩ := q; exact ⟨q0, q1, qP, va_K.moved (u := U) (U := U.calling g mk a) (Vm.Alike.refl U.vm) qK, qD⟩, va_recv hK hPc (ci := 5) (q0 := 0) rfl rfl, fun U hU hW => ⟨rfl, by rw [hU], by rw [hU]; exact hPc, va_K.moved hW.alike hK, hDc.weaken (fun _ _ _ _ => trivial)⟩⟩ rfl rfl hl.1 rfl (lv_room (Nat.le_of_ble_eq_true rfl)) dX5_about_75 ⟨Nat.le_of_ble_eq_true rfl, Nat.le_of_ble_eq_true rfl⟩) hS (fun q _ h => hFc q h) hFc (fun r_13 u_14 t H1 locs ht hvm hw hB hz1 hk1 hS => ?_)
  obtain ⟨hP1, hD1⟩ := hB
  rw [ht] at hP1
  obtain ⟨hP, hD⟩ := va_join (wr := [(aown, .inl (cI, 40, .inl (upd Zi 0 0))), (aweight, .inl (cI, 1600, .inl Zi))]) (w1 := [(h, .inr (5, [.int 1, .ref aweight, .ref aown, .int 1, .ref abetween, .ref acommunity, .ref afresh, .int 0, .ref atold, .ref areached, .ref aplaced, .int 0, .ref amoved, .ref agained, .int 0, .ref adegrees, .long 0])), (abetween, .inl (cJ, 1600, .inr (.inl (vp_updL Zl 0 0))))]) hP hD [1, 3] [0, 2] rfl rfl (by decide) (by decide) hk1 hFc hP1 hD1
  generalize H1 = H at hP hS ⊢
  have hP : va_P (dC, dI) vwCl [(aown, .inl (cI, 40, .inl (upd Zi 0 0))), (aweight, .inl (cI, 1600, .inl Zi)), (h, .inr (5, [.int 1, .ref aweight, .ref aown, .int 1, .ref abetween, .ref acommunity, .ref afresh, .int 0, .ref atold, .ref areached, .ref aplaced, .int 0, .ref amoved, .ref agained, .int 0, .ref adegrees, .long 0])), (abetween, .inl (cJ, 1600, .inr (.inl (vp_updL Zl 0 0))))] H := hP
  have hD : va_D A [(aown, .inl (cI, 40, .inl (upd Zi 0 0))), (aweight, .inl (cI, 1600, .inl Zi)), (h, .inr (5, [.int 1, .ref aweight, .ref aown, .int 1, .ref abetween, .ref acommunity, .ref afresh, .int 0, .ref atold, .ref areached, .ref aplaced, .int 0, .ref amoved, .ref agained, .int 0, .ref adegrees, .long 0])), (abetween, .inl (cJ, 1600, .inr (.inl (vp_updL Zl 0 0))))] := hD
  obtain rfl : r_13 = 0 := hw
  refine lv_l2i (v := 0) hx hb dX5_about_78 (by decide) ?_
  refine lv_goto (tgt := 107) hx hb dX5_about_79 (by decide) ?_
  have hP9 := hP.sub (ws' := [(h, .inr (5, [.int 1, .ref aweight, .ref aown, .int 1, .ref abetween, .ref acommunity, .ref afresh, .int 0, .ref atold, .ref areached, .ref aplaced, .int 0, .ref amoved, .ref agained, .int 0, .ref adegrees, .long 0]))]) [2] rfl
  have hD9 := hD.sub (ws' := [(h, .inr (5, [.int 1, .ref aweight, .ref aown, .int 1, .ref abetween, .ref acommunity, .ref afresh, .int 0, .ref atold, .ref areached, .ref aplaced, .int 0, .ref amoved, .ref agained, .int 0, .ref adegrees, .long 0]))]) [2] (by decide) rfl
  exact W.iret (v := 0) hx hb hr (fun t ht hW => ⟨⟨_, (), rfl, rfl, by rw [ht]; exact hP9, hD9⟩, hS.F ht⟩) hS.2.2 dX5_about_107
set_option maxHeartbeats 4000000 in
set_option maxRecDepth 100000 in
theorem c_X5_about_3 (l : Launch) (dC : Nat → ClassId) (dI : Nat → Nat → Nat) (cI cJ : ClassId) (h aweight aown abetween acommunity afresh atold areached aplaced amoved agained adegrees : Nat) (sz : Nat) : Met l yX5_about wsX5_about ({ frames := 1, cells := 0, slots := 0, locals := 22 }) (va_Pc [.ref h, .int 3, .int 0] (pPre dC dI cI cJ sz [(h, .inr (5, [.int 1, .ref aweight, .ref aown, .int 0, .ref abetween, .ref acommunity, .ref afresh, .int 0, .ref atold, .ref areached, .ref aplaced, .int 0, .ref amoved, .ref agained, .int 0, .ref adegrees, .long 0])), (aweight, .inl (cI, 1600, .inl Zi)), (aown, .inl (cI, 40, .inl (upd Zi 0 0))), (abetween, .inl (cJ, 1600, .inr (.inl Zl)))])) (va_Qi (fun (r : Int32) (_ : Unit) => r = 0) (pPost dC dI (va_A [(h, .inr (5, [.int 1, .ref aweight, .ref aown, .int 0, .ref abetween, .ref acommunity, .ref afresh, .int 0, .ref atold, .ref areached, .ref aplaced, .int 0, .ref amoved, .ref agained, .int 0, .ref adegrees, .long 0])), (aweight, .inl (cI, 1600, .inl Zi)), (aown, .inl (cI, 40, .inl (upd Zi 0 0))), (abetween, .inl (cJ, 1600, .inr (.inl Zl)))] sz) [(h, .inr (5, [.int 1, .ref aweight, .ref aown, .int 1, .ref abetween, .ref acommunity, .ref afresh, .int 0, .ref atold, .ref areached, .ref aplaced, .int 0, .ref amoved, .ref agained, .int 0, .ref adegrees, .long 0]))]) (va_A [(h, .inr (5, [.int 1, .ref aweight, .ref aown, .int 0, .ref abetween, .ref acommunity, .ref afresh, .int 0, .ref atold, .ref areached, .ref aplaced, .int 0, .ref amoved, .ref agained, .int 0, .ref adegrees, .long 0])), (aweight, .inl (cI, 1600, .inl Zi)), (aown, .inl (cI, 40, .inl (upd Zi 0 0))), (abetween, .inl (cJ, 1600, .inr (.inl Zl)))] sz)) 0 0 (va_A [(h, .inr (5, [.int 1, .ref aweight, .ref aown, .int 0, .ref abetween, .ref acommunity, .ref afresh, .int 0, .ref atold, .ref areached, .ref aplaced, .int 0, .ref amoved, .ref agained, .int 0, .ref adegrees, .long 0])), (aweight, .inl (cI, 1600, .inl Zi)), (aown, .inl (cI, 40, .inl (upd Zi 0 0))), (abetween, .inl (cJ, 1600, .inr (.inl Zl)))] sz) := by
  refine Met.ofW (cc := cX5_about) (maxL := 3) (ret := (some .int)) (by decide) rfl ?_
  intro p e s m args below meth c s₁ B hml hv
  obtain ⟨rfl, hsz, hP, hK, hD0⟩ := hv
  have hx := B.exec
  have hb := B.bytes
  have hr := B.returns
  have hts := atoms_spec (ws := wsX5_about) B.pre
  have hown : s.vm.findClass RX5 = some m.cls := findClass_of_methodNamed B.named
  have hlocks := B.notSynchronized
  subst hsz
  have hD := hD0.self (sz := s.heap.size)
  generalize hAe : va_A [(h, .inr (5, [.int 1, .ref aweight, .ref aown, .int 0, .ref abetween, .ref acommunity, .ref afresh, .int 0, .ref atold, .ref areached, .ref aplaced, .int 0, .ref amoved, .ref agained, .int 0, .ref adegrees, .long 0])), (aweight, .inl (cI, 1600, .inl Zi)), (aown, .inl (cI, 40, .inl (upd Zi 0 0))), (abetween, .inl (cJ, 1600, .inr (.inl Zl)))] s.heap.size = A at hD ⊢
  have hA : ∀ q : Nat, s.heap.size ≤ q → A q := fun q h => by rw [← hAe]; exact Or.inr h
  have hS : va_S A s.heap s.heap [] := va_S.rf
  have hP : va_P (dC, dI) vwCl [(h, .inr (5, [.int 1, .ref aweight, .ref aown, .int 0, .ref abetween, .ref acommunity, .ref afresh, .int 0, .ref atold, .ref areached, .ref aplaced, .int 0, .ref amoved, .ref agained, .int 0, .ref adegrees, .long 0])), (aweight, .inl (cI, 1600, .inl Zi)), (aown, .inl (cI, 40, .inl (upd Zi 0 0))), (abetween, .inl (cJ, 1600, .inr (.inl Zl)))] s.heap := hP
  have hl := lv_entry ([.ref h, .int 3, .int 0]) (n := 3) (Nat.le_of_ble_eq_true rfl)
  rw [lg_entry_eq]
  generalize (lg_sl ([.ref h, .int 3, .int 0]) ++ List.replicate (3 - (lg_sl ([.ref h, .int 3, .int 0])).length) Slot.unset).toArray = ls at hl ⊢
  have hl : lv_has ls 3 [(0, .ref h), (1, .int 3), (2, .int 0)] := hl
  have i_5 : ∀ w ∈ wsX50, w ∈ wsX5_about := by decide +kernel
  have k_0 := hts (.fieldLink RX5 48 "CommunityLevelsModel" "thrown" "I") (by decide +kernel)
  have k_1 := hts (.fieldLink RX5 13 "CommunityLevelsModel" "weight" "[I") (by decide +kernel)
  refine lv_aload_n hx hb dX5_about_0 rfl (lv_at hl 0 rfl) ?_
  refine lv_iload_n hx hb dX5_about_1 rfl (lv_at hl 1 rfl) ?_
  refine lv_if_lt (tgt := 23) hx hb dX5_about_2 (by decide) (fun c_1 => ?_) (fun c_1 => ?_)
  · exact absurd c_1 (by decide)
  refine lv_iload_n hx hb dX5_about_5 rfl (lv_at hl 1 rfl) ?_
  refine lv_iconst (v := 4) hx hb dX5_about_6 (by decide) ?_
  refine lv_icmp_gt (tgt := 23) hx hb dX5_about_7 (by decide) (fun c_2 => ?_) (fun c_2 => ?_)
  · exact absurd c_2 (by decide)
  refine lv_iload_n hx hb dX5_about_10 rfl (lv_at hl 1 rfl) ?_
  refine lv_iconst (v := 1) hx hb dX5_about_11 (by decide) ?_
  refine lv_icmp_le (tgt := 27) hx hb dX5_about_12 (by decide) (fun c_3 => ?_) (fun c_3 => ?_)
  · exact absurd c_3 (by decide)
  refine lv_aload_n hx hb dX5_about_15 rfl (lv_at hl 0 rfl) ?_
  refine lv_iload_n hx hb dX5_about_16 rfl (lv_at hl 2 rfl) ?_
  have hPc := hP.sub (ws' := [(h, .inr (5, [.int 1, .ref aweight, .ref aown, .int 0, .ref abetween, .ref acommunity, .ref afresh, .int 0, .ref atold, .ref areached, .ref aplaced, .int 0, .ref amoved, .ref agained, .int 0, .ref adegrees, .long 0]))]) [0] rfl
  have hDc := hD.sub (ws' := [(h, .inr (5, [.int 1, .ref aweight, .ref aown, .int 0, .ref abetween, .ref acommunity, .ref afresh, .int 0, .ref atold, .ref areached, .ref aplaced, .int 0, .ref amoved, .ref agained, .int 0, .ref adegrees, .long 0]))]) [0] (by decide) rfl
  have hFc := va_free (wc := [(h, .inr (5, [.int 1, .ref aweight, .ref aown, .int 0, .ref abetween, .ref acommunity, .ref afresh, .int 0, .ref atold, .ref areached, .ref aplaced, .int 0, .ref amoved, .ref agained, .int 0, .ref adegrees, .long 0]))]) hD hS hA [0] rfl
  refine va_calli (va_runV (As := [.int 0]) (rest := [.ref h]) ⟨hx, hb, hml, hown, hts⟩ (c_X5_noNode l dC dI cI cJ h aweight aown abetween acommunity afresh atold areached aplaced amoved agained adegrees s.heap.size 0) (cwV 1 hts gX5_about_X5_noNode rfl rfl rfl (by decide +kernel) ⟨Nat.le_of_ble_eq_true rfl, Nat.le_of_ble_eq_true rfl⟩) ⟨fun a U g mk q => by obtain ⟨q0, q1, qP, qK, qD⟩ := q; exact ⟨q0, q1, qP, va_K.moved (u := U) (U := U.calling g mk a) (Vm.Alike.refl U.vm) qK, qD⟩, va_recv hK hPc (ci := 5) (q0 := 0) rfl rfl, fun U hU hW => ⟨rfl, by rw [hU], by rw [hU]; exact hPc, va_K.moved hW.alike hK, hDc.weaken (fun _ _ _ _ => trivial)⟩⟩ rfl rfl hl.1 rfl (lv_room (Nat.le_of_ble_eq_true rfl)) dX5_about_17 ⟨Nat.le_of_ble_eq_true rfl, Nat.le_of_ble_eq_true rfl⟩) hS (fun q _ h => hFc q h) hFc (fun r_4 u_5 t H1 locs ht hvm hw hB hz1 hk1 hS => ?_)
  obtain ⟨hP1, hD1⟩ := hB
  rw [ht] at hP1
  obtain ⟨hP, hD⟩ := va_join (wr := [(aweight, .inl (cI, 1600, .inl Zi)), (aown, .inl (cI, 40, .inl (upd Zi 0 0))), (abetween, .inl (cJ, 1600, .inr (.inl Zl)))]) (w1 := [(h, .inr (5, [.int 1, .ref aweight, .ref aown, .int 0, .ref abetween, .ref acommunity, .ref afresh, .int 0, .ref atold, .ref areached, .ref aplaced, .int 0, .ref amoved, .ref agained, .int 0, .ref adegrees, .long 0]))]) hP hD [0] [1, 2, 3] rfl rfl (by decide) (by decide) hk1 hFc hP1 hD1
  generalize H1 = H at hP hS ⊢
  have hP : va_P (dC, dI) vwCl [(aweight, .inl (cI, 1600, .inl Zi)), (aown, .inl (cI, 40, .inl (upd Zi 0 0))), (abetween, .inl (cJ, 1600, .inr (.inl Zl))), (h, .inr (5, [.int 1, .ref aweight, .ref aown, .int 0, .ref abetween, .ref acommunity, .ref afresh, .int 0, .ref atold, .ref areached, .ref aplaced, .int 0, .ref amoved, .ref agained, .int 0, .ref adegrees, .long 0]))] H := hP
  have hD : va_D A [(aweight, .inl (cI, 1600, .inl Zi)), (aown, .inl (cI, 40, .inl (upd Zi 0 0))), (abetween, .inl (cJ, 1600, .inr (.inl Zl))), (h, .inr (5, [.int 1, .ref aweight, .ref aown, .int 0, .ref abetween, .ref acommunity, .ref afresh, .int 0, .ref atold, .ref areached, .ref aplaced, .int 0, .ref amoved, .ref agained, .int 0, .ref adegrees, .long 0]))] := hD
  obtain rfl : r_4 = 0 := hw
  refine lv_if_eq (tgt := 27) hx hb dX5_about_20 (by decide) (fun c_6 => ?_) (fun c_6 => ?_)
  rotate_left
  · exact absurd (by decide) c_6
  refine lv_iconst (v := 0) hx hb dX5_about_27 (by decide) ?_
  refine va_put (D := (dC, dI)) (ci := 5) (v := .int 0) (ty := .int) (C := RX5) (T := TX5) (N := 17) hx hb hts i_5 tyX5 tyX5_ok nmX5 hown hK hP hD hS 3 rfl rfl 14 (by decide) k_0 (fun _ h9 => h9) rfl (by decide +kernel) rfl rfl (Nat.le_of_ble_eq_true rfl) dX5_about_28 (fun H locs hP hD hS => ?_)
  have hP : va_P (dC, dI) vwCl [(aweight, .inl (cI, 1600, .inl Zi)), (aown, .inl (cI, 40, .inl (upd Zi 0 0))), (abetween, .inl (cJ, 1600, .inr (.inl Zl))), (h, .inr (5, [.int 1, .ref aweight, .ref aown, .int 0, .ref abetween, .ref acommunity, .ref afresh, .int 0, .ref atold, .ref areached, .ref aplaced, .int 0, .ref amoved, .ref agained, .int 0, .ref adegrees, .long 0]))] H := hP
  have hD : va_D A [(aweight, .inl (cI, 1600, .inl Zi)), (aown, .inl (cI, 40, .inl (upd Zi 0 0))), (abetween, .inl (cJ, 1600, .inr (.inl Zl))), (h, .inr (5, [.int 1, .ref aweight, .ref aown, .int 0, .ref abetween, .ref acommunity, .ref afresh, .int 0, .ref atold, .ref areached, .ref aplaced, .int 0, .ref amoved, .ref agained, .int 0, .ref adegrees, .long 0]))] := hD
  refine lv_aload_n hx hb dX5_about_31 rfl (lv_at hl 0 rfl) ?_
  refine va_get (D := (dC, dI)) (ci := 5) (v := .int 0) (C := RX5) (T := TX5) (N := 17) hx hb hts i_5 hown hK hP 3 rfl rfl 14 (by decide) k_0 (fun _ h9 => h9) rfl dX5_about_32 ?_
  refine lv_if_le (tgt := 40) hx hb dX5_about_35 (by decide) (fun c_7 => ?_) (fun c_7 => ?_)
  rotate_left
  · exact absurd (by decide) c_7
  refine lv_aload_n hx hb dX5_about_40 rfl (lv_at hl 0 rfl) ?_
  have hPc := hP.sub (ws' := [(h, .inr (5, [.int 1, .ref aweight, .ref aown, .int 0, .ref abetween, .ref acommunity, .ref afresh, .int 0, .ref atold, .ref areached, .ref aplaced, .int 0, .ref amoved, .ref agained, .int 0, .ref adegrees, .long 0])), (aweight, .inl (cI, 1600, .inl Zi)), (abetween, .inl (cJ, 1600, .inr (.inl Zl)))]) [3, 0, 2] rfl
  have hDc := hD.sub (ws' := [(h, .inr (5, [.int 1, .ref aweight, .ref aown, .int 0, .ref abetween, .ref acommunity, .ref afresh, .int 0, .ref atold, .ref areached, .ref aplaced, .int 0, .ref amoved, .ref agained, .int 0, .ref adegrees, .long 0])), (aweight, .inl (cI, 1600, .inl Zi)), (abetween, .inl (cJ, 1600, .inr (.inl Zl)))]) [3, 0, 2] (by decide) rfl
  have hFc := va_free (wc := [(h, .inr (5, [.int 1, .ref aweight, .ref aown, .int 0, .ref abetween, .ref acommunity, .ref afresh, .int 0, .ref atold, .ref areached, .ref aplaced, .int 0, .ref amoved, .ref agained, .int 0, .ref adegrees, .long 0])), (aweight, .inl (cI, 1600, .inl Zi)), (abetween, .inl (cJ, 1600, .inr (.inl Zl)))]) hD hS hA [3, 0, 2] rfl
  refine va_callv (va_runV (As := []) (rest := []) ⟨hx, hb, hml, hown, hts⟩ (c_X5_first l dC dI cI cJ h aweight aown abetween acommunity afresh atold areached aplaced amoved agained adegrees H.size) (cwV 0 hts gX5_about_X5_first rfl rfl rfl (by decide +kernel) ⟨Nat.le_of_ble_eq_true rfl, Nat.le_of_ble_eq_true rfl⟩) ⟨fun a U g mk q => by obtain ⟨q0, q1, qP, qK, qD⟩ := q; exact ⟨q0, q1, qP, va_K.moved (u := U) (U := U.calling g mk a) (Vm.Alike.refl U.vm) qK, qD⟩, va_recv hK hPc (ci := 5) (q0 := 0) rfl rfl, fun U hU hW => ⟨rfl, by rw [hU], by rw [hU]; exact hPc, va_K.moved hW.alike hK, hDc.weaken (fun _ _ _ _ => trivial)⟩⟩ rfl rfl hl.1 rfl (lv_room (Nat.le_of_ble_eq_true rfl)) dX5_about_41 ⟨Nat.le_of_ble_eq_true rfl, Nat.le_of_ble_eq_true rfl⟩) hS (fun q _ h => hFc q h) hFc (fun u_9 t H1 locs ht hvm hw hB hz1 hk1 hS => ?_)
  obtain ⟨hP1, hD1⟩ := hB
  rw [ht] at hP1
  obtain ⟨hP, hD⟩ := va_join (wr := [(aown, .inl (cI, 40, .inl (upd Zi 0 0)))]) (w1 := [(h, .inr (5, [.int 1, .ref aweight, .ref aown, .int 1, .ref abetween, .ref acommunity, .ref afresh, .int 0, .ref atold, .ref areached, .ref aplaced, .int 0, .ref amoved, .ref agained, .int 0, .ref adegrees, .long 0])), (aweight, .inl (cI, 1600, .inl Zi)), (abetween, .inl (cJ, 1600, .inr (.inl (vp_updL Zl 0 0))))]) hP hD [3, 0, 2] [1] rfl rfl (by decide) (by decide) hk1 hFc hP1 hD1
  generalize H1 = H at hP hS ⊢
  have hP : va_P (dC, dI) vwCl [(aown, .inl (cI, 40, .inl (upd Zi 0 0))), (h, .inr (5, [.int 1, .ref aweight, .ref aown, .int 1, .ref abetween, .ref acommunity, .ref afresh, .int 0, .ref atold, .ref areached, .ref aplaced, .int 0, .ref amoved, .ref agained, .int 0, .ref adegrees, .long 0])), (aweight, .inl (cI, 1600, .inl Zi)), (abetween, .inl (cJ, 1600, .inr (.inl (vp_updL Zl 0 0))))] H := hP
  have hD : va_D A [(aown, .inl (cI, 40, .inl (upd Zi 0 0))), (h, .inr (5, [.int 1, .ref aweight, .ref aown, .int 1, .ref abetween, .ref acommunity, .ref afresh, .int 0, .ref atold, .ref areached, .ref aplaced, .int 0, .ref amoved, .ref agained, .int 0, .ref adegrees, .long 0])), (aweight, .inl (cI, 1600, .inl Zi)), (abetween, .inl (cJ, 1600, .inr (.inl (vp_updL Zl 0 0))))] := hD
  refine lv_iload_n hx hb dX5_about_44 rfl (lv_at hl 1 rfl) ?_
  refine lv_if_ne (tgt := 55) hx hb dX5_about_45 (by decide) (fun c_10 => ?_) (fun c_10 => ?_)
  rotate_left
  · exact absurd c_10 (by decide)
  refine lv_iload_n hx hb dX5_about_55 rfl (lv_at hl 1 rfl) ?_
  refine lv_iconst (v := 1) hx hb dX5_about_56 (by decide) ?_
  refine lv_icmp_ne (tgt := 68) hx hb dX5_about_57 (by decide) (fun c_11 => ?_) (fun c_11 => ?_)
  rotate_left
  · exact absurd c_11 (by decide)
  refine lv_iload_n hx hb dX5_about_68 rfl (lv_at hl 1 rfl) ?_
  refine lv_iconst (v := 2) hx hb dX5_about_69 (by decide) ?_
  refine lv_icmp_ne (tgt := 82) hx hb dX5_about_70 (by decide) (fun c_12 => ?_) (fun c_12 => ?_)
  rotate_left
  · exact absurd c_12 (by decide)
  refine lv_iload_n hx hb dX5_about_82 rfl (lv_at hl 1 rfl) ?_
  refine lv_iconst (v := 3) hx hb dX5_about_83 (by decide) ?_
  refine lv_icmp_ne (tgt := 101) hx hb dX5_about_84 (by decide) (fun c_13 => ?_) (fun c_13 => ?_)
  · exact absurd c_13 (by decide)
  refine lv_aload_n hx hb dX5_about_87 rfl (lv_at hl 0 rfl) ?_
  refine va_get (D := (dC, dI)) (ci := 5) (v := .ref aweight) (C := RX5) (T := TX5) (N := 17) hx hb hts i_5 hown hK hP 1 rfl rfl 1 (by decide) k_1 (fun _ h9 => h9) rfl dX5_about_88 ?_
  refine lv_bipush (v := 40) hx hb dX5_about_91 (by decide) ?_
  refine lv_iload_n hx hb dX5_about_93 rfl (lv_at hl 2 rfl) ?_
  refine lv_imul hx hb dX5_about_94 ?_
  refine lc_i (v := 0) (by first | rfl | decide) ?_
  refine lv_iload_n hx hb dX5_about_95 rfl (lv_at hl 2 rfl) ?_
  refine lv_iadd hx hb dX5_about_96 ?_
  refine lc_i (v := 0) (by first | rfl | decide) ?_
  refine va_iald hx hb hK hP 2 0 rfl rfl (vp_c (by decide)) dX5_about_97 ?_
  refine lc_i (v := 0) (by first | rfl | decide) ?_
  refine lv_goto (tgt := 107) hx hb dX5_about_98 (by decide) ?_
  have hP9 := hP.sub (ws' := [(h, .inr (5, [.int 1, .ref aweight, .ref aown, .int 1, .ref abetween, .ref acommunity, .ref afresh, .int 0, .ref atold, .ref areached, .ref aplaced, .int 0, .ref amoved, .ref agained, .int 0, .ref adegrees, .long 0]))]) [1] rfl
  have hD9 := hD.sub (ws' := [(h, .inr (5, [.int 1, .ref aweight, .ref aown, .int 1, .ref abetween, .ref acommunity, .ref afresh, .int 0, .ref atold, .ref areached, .ref aplaced, .int 0, .ref amoved, .ref agained, .int 0, .ref adegrees, .long 0]))]) [1] (by decide) rfl
  exact W.iret (v := 0) hx hb hr (fun t ht hW => ⟨⟨_, (), rfl, rfl, by rw [ht]; exact hP9, hD9⟩, hS.F ht⟩) hS.2.2 dX5_about_107
set_option maxHeartbeats 4000000 in
set_option maxRecDepth 100000 in
theorem c_X5_about_4 (l : Launch) (dC : Nat → ClassId) (dI : Nat → Nat → Nat) (cI cJ : ClassId) (h aweight aown abetween acommunity afresh atold areached aplaced amoved agained adegrees : Nat) (sz : Nat) : Met l yX5_about wsX5_about ({ frames := 1, cells := 0, slots := 0, locals := 22 }) (va_Pc [.ref h, .int 4, .int 0] (pPre dC dI cI cJ sz [(h, .inr (5, [.int 1, .ref aweight, .ref aown, .int 0, .ref abetween, .ref acommunity, .ref afresh, .int 0, .ref atold, .ref areached, .ref aplaced, .int 0, .ref amoved, .ref agained, .int 0, .ref adegrees, .long 0])), (aweight, .inl (cI, 1600, .inl Zi)), (aown, .inl (cI, 40, .inl (upd Zi 0 0))), (abetween, .inl (cJ, 1600, .inr (.inl Zl)))])) (va_Qi (fun (r : Int32) (_ : Unit) => r = 0) (pPost dC dI (va_A [(h, .inr (5, [.int 1, .ref aweight, .ref aown, .int 0, .ref abetween, .ref acommunity, .ref afresh, .int 0, .ref atold, .ref areached, .ref aplaced, .int 0, .ref amoved, .ref agained, .int 0, .ref adegrees, .long 0])), (aweight, .inl (cI, 1600, .inl Zi)), (aown, .inl (cI, 40, .inl (upd Zi 0 0))), (abetween, .inl (cJ, 1600, .inr (.inl Zl)))] sz) [(h, .inr (5, [.int 1, .ref aweight, .ref aown, .int 1, .ref abetween, .ref acommunity, .ref afresh, .int 0, .ref atold, .ref areached, .ref aplaced, .int 0, .ref amoved, .ref agained, .int 0, .ref adegrees, .long 0]))]) (va_A [(h, .inr (5, [.int 1, .ref aweight, .ref aown, .int 0, .ref abetween, .ref acommunity, .ref afresh, .int 0, .ref atold, .ref areached, .ref aplaced, .int 0, .ref amoved, .ref agained, .int 0, .ref adegrees, .long 0])), (aweight, .inl (cI, 1600, .inl Zi)), (aown, .inl (cI, 40, .inl (upd Zi 0 0))), (abetween, .inl (cJ, 1600, .inr (.inl Zl)))] sz)) 0 0 (va_A [(h, .inr (5, [.int 1, .ref aweight, .ref aown, .int 0, .ref abetween, .ref acommunity, .ref afresh, .int 0, .ref atold, .ref areached, .ref aplaced, .int 0, .ref amoved, .ref agained, .int 0, .ref adegrees, .long 0])), (aweight, .inl (cI, 1600, .inl Zi)), (aown, .inl (cI, 40, .inl (upd Zi 0 0))), (abetween, .inl (cJ, 1600, .inr (.inl Zl)))] sz) := by
  refine Met.ofW (cc := cX5_about) (maxL := 3) (ret := (some .int)) (by decide) rfl ?_
  intro p e s m args below meth c s₁ B hml hv
  obtain ⟨rfl, hsz, hP, hK, hD0⟩ := hv
  have hx := B.exec
  have hb := B.bytes
  have hr := B.returns
  have hts := atoms_spec (ws := wsX5_about) B.pre
  have hown : s.vm.findClass RX5 = some m.cls := findClass_of_methodNamed B.named
  have hlocks := B.notSynchronized
  subst hsz
  have hD := hD0.self (sz := s.heap.size)
  generalize hAe : va_A [(h, .inr (5, [.int 1, .ref aweight, .ref aown, .int 0, .ref abetween, .ref acommunity, .ref afresh, .int 0, .ref atold, .ref areached, .ref aplaced, .int 0, .ref amoved, .ref agained, .int 0, .ref adegrees, .long 0])), (aweight, .inl (cI, 1600, .inl Zi)), (aown, .inl (cI, 40, .inl (upd Zi 0 0))), (abetween, .inl (cJ, 1600, .inr (.inl Zl)))] s.heap.size = A at hD ⊢
  have hA : ∀ q : Nat, s.heap.size ≤ q → A q := fun q h => by rw [← hAe]; exact Or.inr h
  have hS : va_S A s.heap s.heap [] := va_S.rf
  have hP : va_P (dC, dI) vwCl [(h, .inr (5, [.int 1, .ref aweight, .ref aown, .int 0, .ref abetween, .ref acommunity, .ref afresh, .int 0, .ref atold, .ref areached, .ref aplaced, .int 0, .ref amoved, .ref agained, .int 0, .ref adegrees, .long 0])), (aweight, .inl (cI, 1600, .inl Zi)), (aown, .inl (cI, 40, .inl (upd Zi 0 0))), (abetween, .inl (cJ, 1600, .inr (.inl Zl)))] s.heap := hP
  have hl := lv_entry ([.ref h, .int 4, .int 0]) (n := 3) (Nat.le_of_ble_eq_true rfl)
  rw [lg_entry_eq]
  generalize (lg_sl ([.ref h, .int 4, .int 0]) ++ List.replicate (3 - (lg_sl ([.ref h, .int 4, .int 0])).length) Slot.unset).toArray = ls at hl ⊢
  have hl : lv_has ls 3 [(0, .ref h), (1, .int 4), (2, .int 0)] := hl
  have i_5 : ∀ w ∈ wsX50, w ∈ wsX5_about := by decide +kernel
  have k_0 := hts (.fieldLink RX5 48 "CommunityLevelsModel" "thrown" "I") (by decide +kernel)
  have k_1 := hts (.fieldLink RX5 17 "CommunityLevelsModel" "own" "[I") (by decide +kernel)
  refine lv_aload_n hx hb dX5_about_0 rfl (lv_at hl 0 rfl) ?_
  refine lv_iload_n hx hb dX5_about_1 rfl (lv_at hl 1 rfl) ?_
  refine lv_if_lt (tgt := 23) hx hb dX5_about_2 (by decide) (fun c_1 => ?_) (fun c_1 => ?_)
  · exact absurd c_1 (by decide)
  refine lv_iload_n hx hb dX5_about_5 rfl (lv_at hl 1 rfl) ?_
  refine lv_iconst (v := 4) hx hb dX5_about_6 (by decide) ?_
  refine lv_icmp_gt (tgt := 23) hx hb dX5_about_7 (by decide) (fun c_2 => ?_) (fun c_2 => ?_)
  · exact absurd c_2 (by decide)
  refine lv_iload_n hx hb dX5_about_10 rfl (lv_at hl 1 rfl) ?_
  refine lv_iconst (v := 1) hx hb dX5_about_11 (by decide) ?_
  refine lv_icmp_le (tgt := 27) hx hb dX5_about_12 (by decide) (fun c_3 => ?_) (fun c_3 => ?_)
  · exact absurd c_3 (by decide)
  refine lv_aload_n hx hb dX5_about_15 rfl (lv_at hl 0 rfl) ?_
  refine lv_iload_n hx hb dX5_about_16 rfl (lv_at hl 2 rfl) ?_
  have hPc := hP.sub (ws' := [(h, .inr (5, [.int 1, .ref aweight, .ref aown, .int 0, .ref abetween, .ref acommunity, .ref afresh, .int 0, .ref atold, .ref areached, .ref aplaced, .int 0, .ref amoved, .ref agained, .int 0, .ref adegrees, .long 0]))]) [0] rfl
  have hDc := hD.sub (ws' := [(h, .inr (5, [.int 1, .ref aweight, .ref aown, .int 0, .ref abetween, .ref acommunity, .ref afresh, .int 0, .ref atold, .ref areached, .ref aplaced, .int 0, .ref amoved, .ref agained, .int 0, .ref adegrees, .long 0]))]) [0] (by decide) rfl
  have hFc := va_free (wc := [(h, .inr (5, [.int 1, .ref aweight, .ref aown, .int 0, .ref abetween, .ref acommunity, .ref afresh, .int 0, .ref atold, .ref areached, .ref aplaced, .int 0, .ref amoved, .ref agained, .int 0, .ref adegrees, .long 0]))]) hD hS hA [0] rfl
  refine va_calli (va_runV (As := [.int 0]) (rest := [.ref h]) ⟨hx, hb, hml, hown, hts⟩ (c_X5_noNode l dC dI cI cJ h aweight aown abetween acommunity afresh atold areached aplaced amoved agained adegrees s.heap.size 0) (cwV 1 hts gX5_about_X5_noNode rfl rfl rfl (by decide +kernel) ⟨Nat.le_of_ble_eq_true rfl, Nat.le_of_ble_eq_true rfl⟩) ⟨fun a U g mk q => by obtain ⟨q0, q1, qP, qK, qD⟩ := q; exact ⟨q0, q1, qP, va_K.moved (u := U) (U := U.calling g mk a) (Vm.Alike.refl U.vm) qK, qD⟩, va_recv hK hPc (ci := 5) (q0 := 0) rfl rfl, fun U hU hW => ⟨rfl, by rw [hU], by rw [hU]; exact hPc, va_K.moved hW.alike hK, hDc.weaken (fun _ _ _ _ => trivial)⟩⟩ rfl rfl hl.1 rfl (lv_room (Nat.le_of_ble_eq_true rfl)) dX5_about_17 ⟨Nat.le_of_ble_eq_true rfl, Nat.le_of_ble_eq_true rfl⟩) hS (fun q _ h => hFc q h) hFc (fun r_4 u_5 t H1 locs ht hvm hw hB hz1 hk1 hS => ?_)
  obtain ⟨hP1, hD1⟩ := hB
  rw [ht] at hP1
  obtain ⟨hP, hD⟩ := va_join (wr := [(aweight, .inl (cI, 1600, .inl Zi)), (aown, .inl (cI, 40, .inl (upd Zi 0 0))), (abetween, .inl (cJ, 1600, .inr (.inl Zl)))]) (w1 := [(h, .inr (5, [.int 1, .ref aweight, .ref aown, .int 0, .ref abetween, .ref acommunity, .ref afresh, .int 0, .ref atold, .ref areached, .ref aplaced, .int 0, .ref amoved, .ref agained, .int 0, .ref adegrees, .long 0]))]) hP hD [0] [1, 2, 3] rfl rfl (by decide) (by decide) hk1 hFc hP1 hD1
  generalize H1 = H at hP hS ⊢
  have hP : va_P (dC, dI) vwCl [(aweight, .inl (cI, 1600, .inl Zi)), (aown, .inl (cI, 40, .inl (upd Zi 0 0))), (abetween, .inl (cJ, 1600, .inr (.inl Zl))), (h, .inr (5, [.int 1, .ref aweight, .ref aown, .int 0, .ref abetween, .ref acommunity, .ref afresh, .int 0, .ref atold, .ref areached, .ref aplaced, .int 0, .ref amoved, .ref agained, .int 0, .ref adegrees, .long 0]))] H := hP
  have hD : va_D A [(aweight, .inl (cI, 1600, .inl Zi)), (aown, .inl (cI, 40, .inl (upd Zi 0 0))), (abetween, .inl (cJ, 1600, .inr (.inl Zl))), (h, .inr (5, [.int 1, .ref aweight, .ref aown, .int 0, .ref abetween, .ref acommunity, .ref afresh, .int 0, .ref atold, .ref areached, .ref aplaced, .int 0, .ref amoved, .ref agained, .int 0, .ref adegrees, .long 0]))] := hD
  obtain rfl : r_4 = 0 := hw
  refine lv_if_eq (tgt := 27) hx hb dX5_about_20 (by decide) (fun c_6 => ?_) (fun c_6 => ?_)
  rotate_left
  · exact absurd (by decide) c_6
  refine lv_iconst (v := 0) hx hb dX5_about_27 (by decide) ?_
  refine va_put (D := (dC, dI)) (ci := 5) (v := .int 0) (ty := .int) (C := RX5) (T := TX5) (N := 17) hx hb hts i_5 tyX5 tyX5_ok nmX5 hown hK hP hD hS 3 rfl rfl 14 (by decide) k_0 (fun _ h9 => h9) rfl (by decide +kernel) rfl rfl (Nat.le_of_ble_eq_true rfl) dX5_about_28 (fun H locs hP hD hS => ?_)
  have hP : va_P (dC, dI) vwCl [(aweight, .inl (cI, 1600, .inl Zi)), (aown, .inl (cI, 40, .inl (upd Zi 0 0))), (abetween, .inl (cJ, 1600, .inr (.inl Zl))), (h, .inr (5, [.int 1, .ref aweight, .ref aown, .int 0, .ref abetween, .ref acommunity, .ref afresh, .int 0, .ref atold, .ref areached, .ref aplaced, .int 0, .ref amoved, .ref agained, .int 0, .ref adegrees, .long 0]))] H := hP
  have hD : va_D A [(aweight, .inl (cI, 1600, .inl Zi)), (aown, .inl (cI, 40, .inl (upd Zi 0 0))), (abetween, .inl (cJ, 1600, .inr (.inl Zl))), (h, .inr (5, [.int 1, .ref aweight, .ref aown, .int 0, .ref abetween, .ref acommunity, .ref afresh, .int 0, .ref atold, .ref areached, .ref aplaced, .int 0, .ref amoved, .ref agained, .int 0, .ref adegrees, .long 0]))] := hD
  refine lv_aload_n hx hb dX5_about_31 rfl (lv_at hl 0 rfl) ?_
  refine va_get (D := (dC, dI)) (ci := 5) (v := .int 0) (C := RX5) (T := TX5) (N := 17) hx hb hts i_5 hown hK hP 3 rfl rfl 14 (by decide) k_0 (fun _ h9 => h9) rfl dX5_about_32 ?_
  refine lv_if_le (tgt := 40) hx hb dX5_about_35 (by decide) (fun c_7 => ?_) (fun c_7 => ?_)
  rotate_left
  · exact absurd (by decide) c_7
  refine lv_aload_n hx hb dX5_about_40 rfl (lv_at hl 0 rfl) ?_
  have hPc := hP.sub (ws' := [(h, .inr (5, [.int 1, .ref aweight, .ref aown, .int 0, .ref abetween, .ref acommunity, .ref afresh, .int 0, .ref atold, .ref areached, .ref aplaced, .int 0, .ref amoved, .ref agained, .int 0, .ref adegrees, .long 0])), (aweight, .inl (cI, 1600, .inl Zi)), (abetween, .inl (cJ, 1600, .inr (.inl Zl)))]) [3, 0, 2] rfl
  have hDc := hD.sub (ws' := [(h, .inr (5, [.int 1, .ref aweight, .ref aown, .int 0, .ref abetween, .ref acommunity, .ref afresh, .int 0, .ref atold, .ref areached, .ref aplaced, .int 0, .ref amoved, .ref agained, .int 0, .ref adegrees, .long 0])), (aweight, .inl (cI, 1600, .inl Zi)), (abetween, .inl (cJ, 1600, .inr (.inl Zl)))]) [3, 0, 2] (by decide) rfl
  have hFc := va_free (wc := [(h, .inr (5, [.int 1, .ref aweight, .ref aown, .int 0, .ref abetween, .ref acommunity, .ref afresh, .int 0, .ref atold, .ref areached, .ref aplaced, .int 0, .ref amoved, .ref agained, .int 0, .ref adegrees, .long 0])), (aweight, .inl (cI, 1600, .inl Zi)), (abetween, .inl (cJ, 1600, .inr (.inl Zl)))]) hD hS hA [3, 0, 2] rfl
  refine va_callv (va_runV (As := []) (rest := []) ⟨hx, hb, hml, hown, hts⟩ (c_X5_first l dC dI cI cJ h aweight aown abetween acommunity afresh atold areached aplaced amoved agained adegrees H.size) (cwV 0 hts gX5_about_X5_first rfl rfl rfl (by decide +kernel) ⟨Nat.le_of_ble_eq_true rfl, Nat.le_of_ble_eq_true rfl⟩) ⟨fun a U g mk q => by obtain ⟨q0, q1, qP, qK, qD⟩ := q; exact ⟨q0, q1, qP, va_K.moved (u := U) (U := U.calling g mk a) (Vm.Alike.refl U.vm) qK, qD⟩, va_recv hK hPc (ci := 5) (q0 := 0) rfl rfl, fun U hU hW => ⟨rfl, by rw [hU], by rw [hU]; exact hPc, va_K.moved hW.alike hK, hDc.weaken (fun _ _ _ _ => trivial)⟩⟩ rfl rfl hl.1 rfl (lv_room (Nat.le_of_ble_eq_true rfl)) dX5_about_41 ⟨Nat.le_of_ble_eq_true rfl, Nat.le_of_ble_eq_true rfl⟩) hS (fun q _ h => hFc q h) hFc (fun u_9 t H1 locs ht hvm hw hB hz1 hk1 hS => ?_)
  obtain ⟨hP1, hD1⟩ := hB
  rw [ht] at hP1
  obtain ⟨hP, hD⟩ := va_join (wr := [(aown, .inl (cI, 40, .inl (upd Zi 0 0)))]) (w1 := [(h, .inr (5, [.int 1, .ref aweight, .ref aown, .int 1, .ref abetween, .ref acommunity, .ref afresh, .int 0, .ref atold, .ref areached, .ref aplaced, .int 0, .ref amoved, .ref agained, .int 0, .ref adegrees, .long 0])), (aweight, .inl (cI, 1600, .inl Zi)), (abetween, .inl (cJ, 1600, .inr (.inl (vp_updL Zl 0 0))))]) hP hD [3, 0, 2] [1] rfl rfl (by decide) (by decide) hk1 hFc hP1 hD1
  generalize H1 = H at hP hS ⊢
  have hP : va_P (dC, dI) vwCl [(aown, .inl (cI, 40, .inl (upd Zi 0 0))), (h, .inr (5, [.int 1, .ref aweight, .ref aown, .int 1, .ref abetween, .ref acommunity, .ref afresh, .int 0, .ref atold, .ref areached, .ref aplaced, .int 0, .ref amoved, .ref agained, .int 0, .ref adegrees, .long 0])), (aweight, .inl (cI, 1600, .inl Zi)), (abetween, .inl (cJ, 1600, .inr (.inl (vp_updL Zl 0 0))))] H := hP
  have hD : va_D A [(aown, .inl (cI, 40, .inl (upd Zi 0 0))), (h, .inr (5, [.int 1, .ref aweight, .ref aown, .int 1, .ref abetween, .ref acommunity, .ref afresh, .int 0, .ref atold, .ref areached, .ref aplaced, .int 0, .ref amoved, .ref agained, .int 0, .ref adegrees, .long 0])), (aweight, .inl (cI, 1600, .inl Zi)), (abetween, .inl (cJ, 1600, .inr (.inl (vp_updL Zl 0 0))))] := hD
  refine lv_iload_n hx hb dX5_about_44 rfl (lv_at hl 1 rfl) ?_
  refine lv_if_ne (tgt := 55) hx hb dX5_about_45 (by decide) (fun c_10 => ?_) (fun c_10 => ?_)
  rotate_left
  · exact absurd c_10 (by decide)
  refine lv_iload_n hx hb dX5_about_55 rfl (lv_at hl 1 rfl) ?_
  refine lv_iconst (v := 1) hx hb dX5_about_56 (by decide) ?_
  refine lv_icmp_ne (tgt := 68) hx hb dX5_about_57 (by decide) (fun c_11 => ?_) (fun c_11 => ?_)
  rotate_left
  · exact absurd c_11 (by decide)
  refine lv_iload_n hx hb dX5_about_68 rfl (lv_at hl 1 rfl) ?_
  refine lv_iconst (v := 2) hx hb dX5_about_69 (by decide) ?_
  refine lv_icmp_ne (tgt := 82) hx hb dX5_about_70 (by decide) (fun c_12 => ?_) (fun c_12 => ?_)
  rotate_left
  · exact absurd c_12 (by decide)
  refine lv_iload_n hx hb dX5_about_82 rfl (lv_at hl 1 rfl) ?_
  refine lv_iconst (v := 3) hx hb dX5_about_83 (by decide) ?_
  refine lv_icmp_ne (tgt := 101) hx hb dX5_about_84 (by decide) (fun c_13 => ?_) (fun c_13 => ?_)
  rotate_left
  · exact absurd c_13 (by decide)
  refine lv_aload_n hx hb dX5_about_101 rfl (lv_at hl 0 rfl) ?_
  refine va_get (D := (dC, dI)) (ci := 5) (v := .ref aown) (C := RX5) (T := TX5) (N := 17) hx hb hts i_5 hown hK hP 1 rfl rfl 2 (by decide) k_1 (fun _ h9 => h9) rfl dX5_about_102 ?_
  refine lv_iload_n hx hb dX5_about_105 rfl (lv_at hl 2 rfl) ?_
  refine va_iald hx hb hK hP 0 0 rfl rfl (vp_c (by decide)) dX5_about_106 ?_
  refine lc_i (v := 0) (by first | rfl | decide) ?_
  have hP9 := hP.sub (ws' := [(h, .inr (5, [.int 1, .ref aweight, .ref aown, .int 1, .ref abetween, .ref acommunity, .ref afresh, .int 0, .ref atold, .ref areached, .ref aplaced, .int 0, .ref amoved, .ref agained, .int 0, .ref adegrees, .long 0]))]) [1] rfl
  have hD9 := hD.sub (ws' := [(h, .inr (5, [.int 1, .ref aweight, .ref aown, .int 1, .ref abetween, .ref acommunity, .ref afresh, .int 0, .ref atold, .ref areached, .ref aplaced, .int 0, .ref amoved, .ref agained, .int 0, .ref adegrees, .long 0]))]) [1] (by decide) rfl
  exact W.iret (v := 0) hx hb hr (fun t ht hW => ⟨⟨_, (), rfl, rfl, by rw [ht]; exact hP9, hD9⟩, hS.F ht⟩) hS.2.2 dX5_about_107
set_option maxHeartbeats 4000000 in
set_option maxRecDepth 100000 in
theorem c_X5_about_bad (l : Launch) (dC : Nat → ClassId) (dI : Nat → Nat → Nat) (cI cJ : ClassId) (h aweight aown abetween acommunity afresh atold areached aplaced amoved agained adegrees : Nat) (sz : Nat) (n : Int32) (n1 : Int32) (hn : n < 0 ∨ 4 < n) : Met l yX5_about wsX5_about ({ frames := 0, cells := 0, slots := 0, locals := 0 }) (va_Pc [.ref h, .int n, .int n1] (pPre dC dI cI cJ sz [(h, .inr (5, [.int 1, .ref aweight, .ref aown, .int 0, .ref abetween, .ref acommunity, .ref afresh, .int 0, .ref atold, .ref areached, .ref aplaced, .int 0, .ref amoved, .ref agained, .int 0, .ref adegrees, .long 0]))])) (va_Qi (fun (r : Int32) (_ : Unit) => r = 0) (pPost dC dI (va_A [(h, .inr (5, [.int 1, .ref aweight, .ref aown, .int 0, .ref abetween, .ref acommunity, .ref afresh, .int 0, .ref atold, .ref areached, .ref aplaced, .int 0, .ref amoved, .ref agained, .int 0, .ref adegrees, .long 0]))] sz) [(h, .inr (5, [.int 1, .ref aweight, .ref aown, .int 0, .ref abetween, .ref acommunity, .ref afresh, .int 0, .ref atold, .ref areached, .ref aplaced, .int 0, .ref amoved, .ref agained, .int 1, .ref adegrees, .long 0]))]) (va_A [(h, .inr (5, [.int 1, .ref aweight, .ref aown, .int 0, .ref abetween, .ref acommunity, .ref afresh, .int 0, .ref atold, .ref areached, .ref aplaced, .int 0, .ref amoved, .ref agained, .int 0, .ref adegrees, .long 0]))] sz)) 0 0 (va_A [(h, .inr (5, [.int 1, .ref aweight, .ref aown, .int 0, .ref abetween, .ref acommunity, .ref afresh, .int 0, .ref atold, .ref areached, .ref aplaced, .int 0, .ref amoved, .ref agained, .int 0, .ref adegrees, .long 0]))] sz) := by
  refine Met.ofW (cc := cX5_about) (maxL := 3) (ret := (some .int)) (by decide) rfl ?_
  intro p e s m args below meth c s₁ B hml hv
  obtain ⟨rfl, hsz, hP, hK, hD0⟩ := hv
  have hx := B.exec
  have hb := B.bytes
  have hr := B.returns
  have hts := atoms_spec (ws := wsX5_about) B.pre
  have hown : s.vm.findClass RX5 = some m.cls := findClass_of_methodNamed B.named
  have hlocks := B.notSynchronized
  subst hsz
  have hD := hD0.self (sz := s.heap.size)
  generalize hAe : va_A [(h, .inr (5, [.int 1, .ref aweight, .ref aown, .int 0, .ref abetween, .ref acommunity, .ref afresh, .int 0, .ref atold, .ref areached, .ref aplaced, .int 0, .ref amoved, .ref agained, .int 0, .ref adegrees, .long 0]))] s.heap.size = A at hD ⊢
  have hA : ∀ q : Nat, s.heap.size ≤ q → A q := fun q h => by rw [← hAe]; exact Or.inr h
  have hS : va_S A s.heap s.heap [] := va_S.rf
  have hP : va_P (dC, dI) vwCl [(h, .inr (5, [.int 1, .ref aweight, .ref aown, .int 0, .ref abetween, .ref acommunity, .ref afresh, .int 0, .ref atold, .ref areached, .ref aplaced, .int 0, .ref amoved, .ref agained, .int 0, .ref adegrees, .long 0]))] s.heap := hP
  have hl := lv_entry ([.ref h, .int n, .int n1]) (n := 3) (Nat.le_of_ble_eq_true rfl)
  rw [lg_entry_eq]
  generalize (lg_sl ([.ref h, .int n, .int n1]) ++ List.replicate (3 - (lg_sl ([.ref h, .int n, .int n1])).length) Slot.unset).toArray = ls at hl ⊢
  have hl : lv_has ls 3 [(0, .ref h), (1, .int n), (2, .int n1)] := hl
  have i_5 : ∀ w ∈ wsX50, w ∈ wsX5_about := by decide +kernel
  have k_0 := hts (.fieldLink RX5 48 "CommunityLevelsModel" "thrown" "I") (by decide +kernel)
  refine lv_aload_n hx hb dX5_about_0 rfl (lv_at hl 0 rfl) ?_
  refine lv_iload_n hx hb dX5_about_1 rfl (lv_at hl 1 rfl) ?_
  refine lv_if_lt (tgt := 23) hx hb dX5_about_2 (by decide) (fun c_1 => ?_) (fun c_1 => ?_)
  · skip
    refine lv_iconst (v := 1) hx hb dX5_about_23 (by decide) ?_
    refine lv_goto (tgt := 28) hx hb dX5_about_24 (by decide) ?_
    refine va_put (D := (dC, dI)) (ci := 5) (v := .int 1) (ty := .int) (C := RX5) (T := TX5) (N := 17) hx hb hts i_5 tyX5 tyX5_ok nmX5 hown hK hP hD hS 0 rfl rfl 14 (by decide) k_0 (fun _ h9 => h9) rfl (by decide +kernel) rfl rfl (Nat.le_of_ble_eq_true rfl) dX5_about_28 (fun H locs hP hD hS => ?_)
    have hP : va_P (dC, dI) vwCl [(h, .inr (5, [.int 1, .ref aweight, .ref aown, .int 0, .ref abetween, .ref acommunity, .ref afresh, .int 0, .ref atold, .ref areached, .ref aplaced, .int 0, .ref amoved, .ref agained, .int 1, .ref adegrees, .long 0]))] H := hP
    have hD : va_D A [(h, .inr (5, [.int 1, .ref aweight, .ref aown, .int 0, .ref abetween, .ref acommunity, .ref afresh, .int 0, .ref atold, .ref areached, .ref aplaced, .int 0, .ref amoved, .ref agained, .int 1, .ref adegrees, .long 0]))] := hD
    refine lv_aload_n hx hb dX5_about_31 rfl (lv_at hl 0 rfl) ?_
    refine va_get (D := (dC, dI)) (ci := 5) (v := .int 1) (C := RX5) (T := TX5) (N := 17) hx hb hts i_5 hown hK hP 0 rfl rfl 14 (by decide) k_0 (fun _ h9 => h9) rfl dX5_about_32 ?_
    refine lv_if_le (tgt := 40) hx hb dX5_about_35 (by decide) (fun c_2 => ?_) (fun c_2 => ?_)
    · exact absurd c_2 (by decide)
    refine lv_iconst (v := 0) hx hb dX5_about_38 (by decide) ?_
    have hP9 := hP.sub (ws' := [(h, .inr (5, [.int 1, .ref aweight, .ref aown, .int 0, .ref abetween, .ref acommunity, .ref afresh, .int 0, .ref atold, .ref areached, .ref aplaced, .int 0, .ref amoved, .ref agained, .int 1, .ref adegrees, .long 0]))]) [0] rfl
    have hD9 := hD.sub (ws' := [(h, .inr (5, [.int 1, .ref aweight, .ref aown, .int 0, .ref abetween, .ref acommunity, .ref afresh, .int 0, .ref atold, .ref areached, .ref aplaced, .int 0, .ref amoved, .ref agained, .int 1, .ref adegrees, .long 0]))]) [0] (by decide) rfl
    exact W.iret (v := 0) hx hb hr (fun t ht hW => ⟨⟨_, (), rfl, rfl, by rw [ht]; exact hP9, hD9⟩, hS.F ht⟩) hS.2.2 dX5_about_39
  · skip
    refine lv_iload_n hx hb dX5_about_5 rfl (lv_at hl 1 rfl) ?_
    refine lv_iconst (v := 4) hx hb dX5_about_6 (by decide) ?_
    refine lv_icmp_gt (tgt := 23) hx hb dX5_about_7 (by decide) (fun c_3 => ?_) (fun c_3 => ?_)
    rotate_left
    · exact absurd (hn.resolve_left c_1) c_3
    refine lv_iconst (v := 1) hx hb dX5_about_23 (by decide) ?_
    refine lv_goto (tgt := 28) hx hb dX5_about_24 (by decide) ?_
    refine va_put (D := (dC, dI)) (ci := 5) (v := .int 1) (ty := .int) (C := RX5) (T := TX5) (N := 17) hx hb hts i_5 tyX5 tyX5_ok nmX5 hown hK hP hD hS 0 rfl rfl 14 (by decide) k_0 (fun _ h9 => h9) rfl (by decide +kernel) rfl rfl (Nat.le_of_ble_eq_true rfl) dX5_about_28 (fun H locs hP hD hS => ?_)
    have hP : va_P (dC, dI) vwCl [(h, .inr (5, [.int 1, .ref aweight, .ref aown, .int 0, .ref abetween, .ref acommunity, .ref afresh, .int 0, .ref atold, .ref areached, .ref aplaced, .int 0, .ref amoved, .ref agained, .int 1, .ref adegrees, .long 0]))] H := hP
    have hD : va_D A [(h, .inr (5, [.int 1, .ref aweight, .ref aown, .int 0, .ref abetween, .ref acommunity, .ref afresh, .int 0, .ref atold, .ref areached, .ref aplaced, .int 0, .ref amoved, .ref agained, .int 1, .ref adegrees, .long 0]))] := hD
    refine lv_aload_n hx hb dX5_about_31 rfl (lv_at hl 0 rfl) ?_
    refine va_get (D := (dC, dI)) (ci := 5) (v := .int 1) (C := RX5) (T := TX5) (N := 17) hx hb hts i_5 hown hK hP 0 rfl rfl 14 (by decide) k_0 (fun _ h9 => h9) rfl dX5_about_32 ?_
    refine lv_if_le (tgt := 40) hx hb dX5_about_35 (by decide) (fun c_4 => ?_) (fun c_4 => ?_)
    · exact absurd c_4 (by decide)
    refine lv_iconst (v := 0) hx hb dX5_about_38 (by decide) ?_
    have hP9 := hP.sub (ws' := [(h, .inr (5, [.int 1, .ref aweight, .ref aown, .int 0, .ref abetween, .ref acommunity, .ref afresh, .int 0, .ref atold, .ref areached, .ref aplaced, .int 0, .ref amoved, .ref agained, .int 1, .ref adegrees, .long 0]))]) [0] rfl
    have hD9 := hD.sub (ws' := [(h, .inr (5, [.int 1, .ref aweight, .ref aown, .int 0, .ref abetween, .ref acommunity, .ref afresh, .int 0, .ref atold, .ref areached, .ref aplaced, .int 0, .ref amoved, .ref agained, .int 1, .ref adegrees, .long 0]))]) [0] (by decide) rfl
    exact W.iret (v := 0) hx hb hr (fun t ht hW => ⟨⟨_, (), rfl, rfl, by rw [ht]; exact hP9, hD9⟩, hS.F ht⟩) hS.2.2 dX5_about_39
set_option maxHeartbeats 4000000 in
set_option maxRecDepth 100000 in
theorem c_X5_about_b2 (l : Launch) (dC : Nat → ClassId) (dI : Nat → Nat → Nat) (cI cJ : ClassId) (h aweight aown abetween acommunity afresh atold areached aplaced amoved agained adegrees : Nat) (sz : Nat) (n : Int32) (hn : n < 0 ∨ 1 ≤ n) : Met l yX5_about wsX5_about ({ frames := 1, cells := 0, slots := 0, locals := 21 }) (va_Pc [.ref h, .int 2, .int n] (pPre dC dI cI cJ sz [(h, .inr (5, [.int 1, .ref aweight, .ref aown, .int 0, .ref abetween, .ref acommunity, .ref afresh, .int 0, .ref atold, .ref areached, .ref aplaced, .int 0, .ref amoved, .ref agained, .int 0, .ref adegrees, .long 0]))])) (va_Qi (fun (r : Int32) (_ : Unit) => r = 0) (pPost dC dI (va_A [(h, .inr (5, [.int 1, .ref aweight, .ref aown, .int 0, .ref abetween, .ref acommunity, .ref afresh, .int 0, .ref atold, .ref areached, .ref aplaced, .int 0, .ref amoved, .ref agained, .int 0, .ref adegrees, .long 0]))] sz) [(h, .inr (5, [.int 1, .ref aweight, .ref aown, .int 0, .ref abetween, .ref acommunity, .ref afresh, .int 0, .ref atold, .ref areached, .ref aplaced, .int 0, .ref amoved, .ref agained, .int 1, .ref adegrees, .long 0]))]) (va_A [(h, .inr (5, [.int 1, .ref aweight, .ref aown, .int 0, .ref abetween, .ref acommunity, .ref afresh, .int 0, .ref atold, .ref areached, .ref aplaced, .int 0, .ref amoved, .ref agained, .int 0, .ref adegrees, .long 0]))] sz)) 0 0 (va_A [(h, .inr (5, [.int 1, .ref aweight, .ref aown, .int 0, .ref abetween, .ref acommunity, .ref afresh, .int 0, .ref atold, .ref areached, .ref aplaced, .int 0, .ref amoved, .ref agained, .int 0, .ref adegrees, .long 0]))] sz) := by
  refine Met.ofW (cc := cX5_about) (maxL := 3) (ret := (some .int)) (by decide) rfl ?_
  intro p e s m args below meth c s₁ B hml hv
  obtain ⟨rfl, hsz, hP, hK, hD0⟩ := hv
  have hx := B.exec
  have hb := B.bytes
  have hr := B.returns
  have hts := atoms_spec (ws := wsX5_about) B.pre
  have hown : s.vm.findClass RX5 = some m.cls := findClass_of_methodNamed B.named
  have hlocks := B.notSynchronized
  subst hsz
  have hD := hD0.self (sz := s.heap.size)
  generalize hAe : va_A [(h, .inr (5, [.int 1, .ref aweight, .ref aown, .int 0, .ref abetween, .ref acommunity, .ref afresh, .int 0, .ref atold, .ref areached, .ref aplaced, .int 0, .ref amoved, .ref agained, .int 0, .ref adegrees, .long 0]))] s.heap.size = A at hD ⊢
  have hA : ∀ q : Nat, s.heap.size ≤ q → A q := fun q h => by rw [← hAe]; exact Or.inr h
  have hS : va_S A s.heap s.heap [] := va_S.rf
  have hP : va_P (dC, dI) vwCl [(h, .inr (5, [.int 1, .ref aweight, .ref aown, .int 0, .ref abetween, .ref acommunity, .ref afresh, .int 0, .ref atold, .ref areached, .ref aplaced, .int 0, .ref amoved, .ref agained, .int 0, .ref adegrees, .long 0]))] s.heap := hP
  have hl := lv_entry ([.ref h, .int 2, .int n]) (n := 3) (Nat.le_of_ble_eq_true rfl)
  rw [lg_entry_eq]
  generalize (lg_sl ([.ref h, .int 2, .int n]) ++ List.replicate (3 - (lg_sl ([.ref h, .int 2, .int n])).length) Slot.unset).toArray = ls at hl ⊢
  have hl : lv_has ls 3 [(0, .ref h), (1, .int 2), (2, .int n)] := hl
  have i_5 : ∀ w ∈ wsX50, w ∈ wsX5_about := by decide +kernel
  have k_0 := hts (.fieldLink RX5 48 "CommunityLevelsModel" "thrown" "I") (by decide +kernel)
  refine lv_aload_n hx hb dX5_about_0 rfl (lv_at hl 0 rfl) ?_
  refine lv_iload_n hx hb dX5_about_1 rfl (lv_at hl 1 rfl) ?_
  refine lv_if_lt (tgt := 23) hx hb dX5_about_2 (by decide) (fun c_1 => ?_) (fun c_1 => ?_)
  · exact absurd c_1 (by decide)
  refine lv_iload_n hx hb dX5_about_5 rfl (lv_at hl 1 rfl) ?_
  refine lv_iconst (v := 4) hx hb dX5_about_6 (by decide) ?_
  refine lv_icmp_gt (tgt := 23) hx hb dX5_about_7 (by decide) (fun c_2 => ?_) (fun c_2 => ?_)
  · exact absurd c_2 (by decide)
  refine lv_iload_n hx hb dX5_about_10 rfl (lv_at hl 1 rfl) ?_
  refine lv_iconst (v := 1) hx hb dX5_about_11 (by decide) ?_
  refine lv_icmp_le (tgt := 27) hx hb dX5_about_12 (by decide) (fun c_3 => ?_) (fun c_3 => ?_)
  · exact absurd c_3 (by decide)
  refine lv_aload_n hx hb dX5_about_15 rfl (lv_at hl 0 rfl) ?_
  refine lv_iload_n hx hb dX5_about_16 rfl (lv_at hl 2 rfl) ?_
  have hPc := hP.sub (ws' := [(h, .inr (5, [.int 1, .ref aweight, .ref aown, .int 0, .ref abetween, .ref acommunity, .ref afresh, .int 0, .ref atold, .ref areached, .ref aplaced, .int 0, .ref amoved, .ref agained, .int 0, .ref adegrees, .long 0]))]) [0] rfl
  have hDc := hD.sub (ws' := [(h, .inr (5, [.int 1, .ref aweight, .ref aown, .int 0, .ref abetween, .ref acommunity, .ref afresh, .int 0, .ref atold, .ref areached, .ref aplaced, .int 0, .ref amoved, .ref agained, .int 0, .ref adegrees, .long 0]))]) [0] (by decide) rfl
  have hFc := va_free (wc := [(h, .inr (5, [.int 1, .ref aweight, .ref aown, .int 0, .ref abetween, .ref acommunity, .ref afresh, .int 0, .ref atold, .ref areached, .ref aplaced, .int 0, .ref amoved, .ref agained, .int 0, .ref adegrees, .long 0]))]) hD hS hA [0] rfl
  refine va_calli (va_runV (As := [.int n]) (rest := [.ref h]) ⟨hx, hb, hml, hown, hts⟩ (c_X5_noNode_bad l dC dI cI cJ h aweight aown abetween acommunity afresh atold areached aplaced amoved agained adegrees s.heap.size n 0 hn) (cwV 1 hts gX5_about_X5_noNode rfl rfl rfl (by decide +kernel) ⟨Nat.le_of_ble_eq_true rfl, Nat.le_of_ble_eq_true rfl⟩) ⟨fun a U g mk q => by obtain ⟨q0, q1, qP, qK, qD⟩ := q; exact ⟨q0, q1, qP, va_K.moved (u := U) (U := U.calling g mk a) (Vm.Alike.refl U.vm) qK, qD⟩, va_recv hK hPc (ci := 5) (q0 := 0) rfl rfl, fun U hU hW => ⟨rfl, by rw [hU], by rw [hU]; exact hPc, va_K.moved hW.alike hK, hDc.weaken (fun _ _ _ _ => trivial)⟩⟩ rfl rfl hl.1 rfl (lv_room (Nat.le_of_ble_eq_true rfl)) dX5_about_17 ⟨Nat.le_of_ble_eq_true rfl, Nat.le_of_ble_eq_true rfl⟩) hS (fun q _ h => hFc q h) hFc (fun r_4 u_5 t H1 locs ht hvm hw hB hz1 hk1 hS => ?_)
  obtain ⟨hP1, hD1⟩ := hB
  rw [ht] at hP1
  obtain ⟨hP, hD⟩ := va_join (wr := []) (w1 := [(h, .inr (5, [.int 1, .ref aweight, .ref aown, .int 0, .ref abetween, .ref acommunity, .ref afresh, .int 0, .ref atold, .ref areached, .ref aplaced, .int 0, .ref amoved, .ref agained, .int 0, .ref adegrees, .long 0]))]) hP hD [0] [] rfl rfl (by decide) (by decide) hk1 hFc hP1 hD1
  generalize H1 = H at hP hS ⊢
  have hP : va_P (dC, dI) vwCl [(h, .inr (5, [.int 1, .ref aweight, .ref aown, .int 0, .ref abetween, .ref acommunity, .ref afresh, .int 0, .ref atold, .ref areached, .ref aplaced, .int 0, .ref amoved, .ref agained, .int 0, .ref adegrees, .long 0]))] H := hP
  have hD : va_D A [(h, .inr (5, [.int 1, .ref aweight, .ref aown, .int 0, .ref abetween, .ref acommunity, .ref afresh, .int 0, .ref atold, .ref areached, .ref aplaced, .int 0, .ref amoved, .ref agained, .int 0, .ref adegrees, .long 0]))] := hD
  obtain rfl : r_4 = 1 := hw
  refine lv_if_eq (tgt := 27) hx hb dX5_about_20 (by decide) (fun c_6 => ?_) (fun c_6 => ?_)
  · exact absurd c_6 (by decide)
  refine lv_iconst (v := 1) hx hb dX5_about_23 (by decide) ?_
  refine lv_goto (tgt := 28) hx hb dX5_about_24 (by decide) ?_
  refine va_put (D := (dC, dI)) (ci := 5) (v := .int 1) (ty := .int) (C := RX5) (T := TX5) (N := 17) hx hb hts i_5 tyX5 tyX5_ok nmX5 hown hK hP hD hS 0 rfl rfl 14 (by decide) k_0 (fun _ h9 => h9) rfl (by decide +kernel) rfl rfl (Nat.le_of_ble_eq_true rfl) dX5_about_28 (fun H locs hP hD hS => ?_)
  have hP : va_P (dC, dI) vwCl [(h, .inr (5, [.int 1, .ref aweight, .ref aown, .int 0, .ref abetween, .ref acommunity, .ref afresh, .int 0, .ref atold, .ref areached, .ref aplaced, .int 0, .ref amoved, .ref agained, .int 1, .ref adegrees, .long 0]))] H := hP
  have hD : va_D A [(h, .inr (5, [.int 1, .ref aweight, .ref aown, .int 0, .ref abetween, .ref acommunity, .ref afresh, .int 0, .ref atold, .ref areached, .ref aplaced, .int 0, .ref amoved, .ref agained, .int 1, .ref adegrees, .long 0]))] := hD
  refine lv_aload_n hx hb dX5_about_31 rfl (lv_at hl 0 rfl) ?_
  refine va_get (D := (dC, dI)) (ci := 5) (v := .int 1) (C := RX5) (T := TX5) (N := 17) hx hb hts i_5 hown hK hP 0 rfl rfl 14 (by decide) k_0 (fun _ h9 => h9) rfl dX5_about_32 ?_
  refine lv_if_le (tgt := 40) hx hb dX5_about_35 (by decide) (fun c_7 => ?_) (fun c_7 => ?_)
  · exact absurd c_7 (by decide)
  refine lv_iconst (v := 0) hx hb dX5_about_38 (by decide) ?_
  have hP9 := hP.sub (ws' := [(h, .inr (5, [.int 1, .ref aweight, .ref aown, .int 0, .ref abetween, .ref acommunity, .ref afresh, .int 0, .ref atold, .ref areached, .ref aplaced, .int 0, .ref amoved, .ref agained, .int 1, .ref adegrees, .long 0]))]) [0] rfl
  have hD9 := hD.sub (ws' := [(h, .inr (5, [.int 1, .ref aweight, .ref aown, .int 0, .ref abetween, .ref acommunity, .ref afresh, .int 0, .ref atold, .ref areached, .ref aplaced, .int 0, .ref amoved, .ref agained, .int 1, .ref adegrees, .long 0]))]) [0] (by decide) rfl
  exact W.iret (v := 0) hx hb hr (fun t ht hW => ⟨⟨_, (), rfl, rfl, by rw [ht]; exact hP9, hD9⟩, hS.F ht⟩) hS.2.2 dX5_about_39
set_option maxHeartbeats 4000000 in
set_option maxRecDepth 100000 in
theorem c_X5_about_b3 (l : Launch) (dC : Nat → ClassId) (dI : Nat → Nat → Nat) (cI cJ : ClassId) (h aweight aown abetween acommunity afresh atold areached aplaced amoved agained adegrees : Nat) (sz : Nat) (n : Int32) (hn : n < 0 ∨ 1 ≤ n) : Met l yX5_about wsX5_about ({ frames := 1, cells := 0, slots := 0, locals := 21 }) (va_Pc [.ref h, .int 3, .int n] (pPre dC dI cI cJ sz [(h, .inr (5, [.int 1, .ref aweight, .ref aown, .int 0, .ref abetween, .ref acommunity, .ref afresh, .int 0, .ref atold, .ref areached, .ref aplaced, .int 0, .ref amoved, .ref agained, .int 0, .ref adegrees, .long 0]))])) (va_Qi (fun (r : Int32) (_ : Unit) => r = 0) (pPost dC dI (va_A [(h, .inr (5, [.int 1, .ref aweight, .ref aown, .int 0, .ref abetween, .ref acommunity, .ref afresh, .int 0, .ref atold, .ref areached, .ref aplaced, .int 0, .ref amoved, .ref agained, .int 0, .ref adegrees, .long 0]))] sz) [(h, .inr (5, [.int 1, .ref aweight, .ref aown, .int 0, .ref abetween, .ref acommunity, .ref afresh, .int 0, .ref atold, .ref areached, .ref aplaced, .int 0, .ref amoved, .ref agained, .int 1, .ref adegrees, .long 0]))]) (va_A [(h, .inr (5, [.int 1, .ref aweight, .ref aown, .int 0, .ref abetween, .ref acommunity, .ref afresh, .int 0, .ref atold, .ref areached, .ref aplaced, .int 0, .ref amoved, .ref agained, .int 0, .ref adegrees, .long 0]))] sz)) 0 0 (va_A [(h, .inr (5, [.int 1, .ref aweight, .ref aown, .int 0, .ref abetween, .ref acommunity, .ref afresh, .int 0, .ref atold, .ref areached, .ref aplaced, .int 0, .ref amoved, .ref agained, .int 0, .ref adegrees, .long 0]))] sz) := by
  refine Met.ofW (cc := cX5_about) (maxL := 3) (ret := (some .int)) (by decide) rfl ?_
  intro p e s m args below meth c s₁ B hml hv
  obtain ⟨rfl, hsz, hP, hK, hD0⟩ := hv
  have hx := B.exec
  have hb := B.bytes
  have hr := B.returns
  have hts := atoms_spec (ws := wsX5_about) B.pre
  have hown : s.vm.findClass RX5 = some m.cls := findClass_of_methodNamed B.named
  have hlocks := B.notSynchronized
  subst hsz
  have hD := hD0.self (sz := s.heap.size)
  generalize hAe : va_A [(h, .inr (5, [.int 1, .ref aweight, .ref aown, .int 0, .ref abetween, .ref acommunity, .ref afresh, .int 0, .ref atold, .ref areached, .ref aplaced, .int 0, .ref amoved, .ref agained, .int 0, .ref adegrees, .long 0]))] s.heap.size = A at hD ⊢
  have hA : ∀ q : Nat, s.heap.size ≤ q → A q := fun q h => by rw [← hAe]; exact Or.inr h
  have hS : va_S A s.heap s.heap [] := va_S.rf
  have hP : va_P (dC, dI) vwCl [(h, .inr (5, [.int 1, .ref aweight, .ref aown, .int 0, .ref abetween, .ref acommunity, .ref afresh, .int 0, .ref atold, .ref areached, .ref aplaced, .int 0, .ref amoved, .ref agained, .int 0, .ref adegrees, .long 0]))] s.heap := hP
  have hl := lv_entry ([.ref h, .int 3, .int n]) (n := 3) (Nat.le_of_ble_eq_true rfl)
  rw [lg_entry_eq]
  generalize (lg_sl ([.ref h, .int 3, .int n]) ++ List.replicate (3 - (lg_sl ([.ref h, .int 3, .int n])).length) Slot.unset).toArray = ls at hl ⊢
  have hl : lv_has ls 3 [(0, .ref h), (1, .int 3), (2, .int n)] := hl
  have i_5 : ∀ w ∈ wsX50, w ∈ wsX5_about := by decide +kernel
  have k_0 := hts (.fieldLink RX5 48 "CommunityLevelsModel" "thrown" "I") (by decide +kernel)
  refine lv_aload_n hx hb dX5_about_0 rfl (lv_at hl 0 rfl) ?_
  refine lv_iload_n hx hb dX5_about_1 rfl (lv_at hl 1 rfl) ?_
  refine lv_if_lt (tgt := 23) hx hb dX5_about_2 (by decide) (fun c_1 => ?_) (fun c_1 => ?_)
  · exact absurd c_1 (by decide)
  refine lv_iload_n hx hb dX5_about_5 rfl (lv_at hl 1 rfl) ?_
  refine lv_iconst (v := 4) hx hb dX5_about_6 (by decide) ?_
  refine lv_icmp_gt (tgt := 23) hx hb dX5_about_7 (by decide) (fun c_2 => ?_) (fun c_2 => ?_)
  · exact absurd c_2 (by decide)
  refine lv_iload_n hx hb dX5_about_10 rfl (lv_at hl 1 rfl) ?_
  refine lv_iconst (v := 1) hx hb dX5_about_11 (by decide) ?_
  refine lv_icmp_le (tgt := 27) hx hb dX5_about_12 (by decide) (fun c_3 => ?_) (fun c_3 => ?_)
  · exact absurd c_3 (by decide)
  refine lv_aload_n hx hb dX5_about_15 rfl (lv_at hl 0 rfl) ?_
  refine lv_iload_n hx hb dX5_about_16 rfl (lv_at hl 2 rfl) ?_
  have hPc := hP.sub (ws' := [(h, .inr (5, [.int 1, .ref aweight, .ref aown, .int 0, .ref abetween, .ref acommunity, .ref afresh, .int 0, .ref atold, .ref areached, .ref aplaced, .int 0, .ref amoved, .ref agained, .int 0, .ref adegrees, .long 0]))]) [0] rfl
  have hDc := hD.sub (ws' := [(h, .inr (5, [.int 1, .ref aweight, .ref aown, .int 0, .ref abetween, .ref acommunity, .ref afresh, .int 0, .ref atold, .ref areached, .ref aplaced, .int 0, .ref amoved, .ref agained, .int 0, .ref adegrees, .long 0]))]) [0] (by decide) rfl
  have hFc := va_free (wc := [(h, .inr (5, [.int 1, .ref aweight, .ref aown, .int 0, .ref abetween, .ref acommunity, .ref afresh, .int 0, .ref atold, .ref areached, .ref aplaced, .int 0, .ref amoved, .ref agained, .int 0, .ref adegrees, .long 0]))]) hD hS hA [0] rfl
  refine va_calli (va_runV (As := [.int n]) (rest := [.ref h]) ⟨hx, hb, hml, hown, hts⟩ (c_X5_noNode_bad l dC dI cI cJ h aweight aown abetween acommunity afresh atold areached aplaced amoved agained adegrees s.heap.size n 0 hn) (cwV 1 hts gX5_about_X5_noNode rfl rfl rfl (by decide +kernel) ⟨Nat.le_of_ble_eq_true rfl, Nat.le_of_ble_eq_true rfl⟩) ⟨fun a U g mk q => by obtain ⟨q0, q1, qP, qK, qD⟩ := q; exact ⟨q0, q1, qP, va_K.moved (u := U) (U := U.calling g mk a) (Vm.Alike.refl U.vm) qK, qD⟩, va_recv hK hPc (ci := 5) (q0 := 0) rfl rfl, fun U hU hW => ⟨rfl, by rw [hU], by rw [hU]; exact hPc, va_K.moved hW.alike hK, hDc.weaken (fun _ _ _ _ => trivial)⟩⟩ rfl rfl hl.1 rfl (lv_room (Nat.le_of_ble_eq_true rfl)) dX5_about_17 ⟨Nat.le_of_ble_eq_true rfl, Nat.le_of_ble_eq_true rfl⟩) hS (fun q _ h => hFc q h) hFc (fun r_4 u_5 t H1 locs ht hvm hw hB hz1 hk1 hS => ?_)
  obtain ⟨hP1, hD1⟩ := hB
  rw [ht] at hP1
  obtain ⟨hP, hD⟩ := va_join (wr := []) (w1 := [(h, .inr (5, [.int 1, .ref aweight, .ref aown, .int 0, .ref abetween, .ref acommunity, .ref afresh, .int 0, .ref atold, .ref areached, .ref aplaced, .int 0, .ref amoved, .ref agained, .int 0, .ref adegrees, .long 0]))]) hP hD [0] [] rfl rfl (by decide) (by decide) hk1 hFc hP1 hD1
  generalize H1 = H at hP hS ⊢
  have hP : va_P (dC, dI) vwCl [(h, .inr (5, [.int 1, .ref aweight, .ref aown, .int 0, .ref abetween, .ref acommunity, .ref afresh, .int 0, .ref atold, .ref areached, .ref aplaced, .int 0, .ref amoved, .ref agained, .int 0, .ref adegrees, .long 0]))] H := hP
  have hD : va_D A [(h, .inr (5, [.int 1, .ref aweight, .ref aown, .int 0, .ref abetween, .ref acommunity, .ref afresh, .int 0, .ref atold, .ref areached, .ref aplaced, .int 0, .ref amoved, .ref agained, .int 0, .ref adegrees, .long 0]))] := hD
  obtain rfl : r_4 = 1 := hw
  refine lv_if_eq (tgt := 27) hx hb dX5_about_20 (by decide) (fun c_6 => ?_) (fun c_6 => ?_)
  · exact absurd c_6 (by decide)
  refine lv_iconst (v := 1) hx hb dX5_about_23 (by decide) ?_
  refine lv_goto (tgt := 28) hx hb dX5_about_24 (by decide) ?_
  refine va_put (D := (dC, dI)) (ci := 5) (v := .int 1) (ty := .int) (C := RX5) (T := TX5) (N := 17) hx hb hts i_5 tyX5 tyX5_ok nmX5 hown hK hP hD hS 0 rfl rfl 14 (by decide) k_0 (fun _ h9 => h9) rfl (by decide +kernel) rfl rfl (Nat.le_of_ble_eq_true rfl) dX5_about_28 (fun H locs hP hD hS => ?_)
  have hP : va_P (dC, dI) vwCl [(h, .inr (5, [.int 1, .ref aweight, .ref aown, .int 0, .ref abetween, .ref acommunity, .ref afresh, .int 0, .ref atold, .ref areached, .ref aplaced, .int 0, .ref amoved, .ref agained, .int 1, .ref adegrees, .long 0]))] H := hP
  have hD : va_D A [(h, .inr (5, [.int 1, .ref aweight, .ref aown, .int 0, .ref abetween, .ref acommunity, .ref afresh, .int 0, .ref atold, .ref areached, .ref aplaced, .int 0, .ref amoved, .ref agained, .int 1, .ref adegrees, .long 0]))] := hD
  refine lv_aload_n hx hb dX5_about_31 rfl (lv_at hl 0 rfl) ?_
  refine va_get (D := (dC, dI)) (ci := 5) (v := .int 1) (C := RX5) (T := TX5) (N := 17) hx hb hts i_5 hown hK hP 0 rfl rfl 14 (by decide) k_0 (fun _ h9 => h9) rfl dX5_about_32 ?_
  refine lv_if_le (tgt := 40) hx hb dX5_about_35 (by decide) (fun c_7 => ?_) (fun c_7 => ?_)
  · exact absurd c_7 (by decide)
  refine lv_iconst (v := 0) hx hb dX5_about_38 (by decide) ?_
  have hP9 := hP.sub (ws' := [(h, .inr (5, [.int 1, .ref aweight, .ref aown, .int 0, .ref abetween, .ref acommunity, .ref afresh, .int 0, .ref atold, .ref areached, .ref aplaced, .int 0, .ref amoved, .ref agained, .int 1, .ref adegrees, .long 0]))]) [0] rfl
  have hD9 := hD.sub (ws' := [(h, .inr (5, [.int 1, .ref aweight, .ref aown, .int 0, .ref abetween, .ref acommunity, .ref afresh, .int 0, .ref atold, .ref areached, .ref aplaced, .int 0, .ref amoved, .ref agained, .int 1, .ref adegrees, .long 0]))]) [0] (by decide) rfl
  exact W.iret (v := 0) hx hb hr (fun t ht hW => ⟨⟨_, (), rfl, rfl, by rw [ht]; exact hP9, hD9⟩, hS.F ht⟩) hS.2.2 dX5_about_39
set_option maxHeartbeats 4000000 in
set_option maxRecDepth 100000 in
theorem c_X5_about_b4 (l : Launch) (dC : Nat → ClassId) (dI : Nat → Nat → Nat) (cI cJ : ClassId) (h aweight aown abetween acommunity afresh atold areached aplaced amoved agained adegrees : Nat) (sz : Nat) (n : Int32) (hn : n < 0 ∨ 1 ≤ n) : Met l yX5_about wsX5_about ({ frames := 1, cells := 0, slots := 0, locals := 21 }) (va_Pc [.ref h, .int 4, .int n] (pPre dC dI cI cJ sz [(h, .inr (5, [.int 1, .ref aweight, .ref aown, .int 0, .ref abetween, .ref acommunity, .ref afresh, .int 0, .ref atold, .ref areached, .ref aplaced, .int 0, .ref amoved, .ref agained, .int 0, .ref adegrees, .long 0]))])) (va_Qi (fun (r : Int32) (_ : Unit) => r = 0) (pPost dC dI (va_A [(h, .inr (5, [.int 1, .ref aweight, .ref aown, .int 0, .ref abetween, .ref acommunity, .ref afresh, .int 0, .ref atold, .ref areached, .ref aplaced, .int 0, .ref amoved, .ref agained, .int 0, .ref adegrees, .long 0]))] sz) [(h, .inr (5, [.int 1, .ref aweight, .ref aown, .int 0, .ref abetween, .ref acommunity, .ref afresh, .int 0, .ref atold, .ref areached, .ref aplaced, .int 0, .ref amoved, .ref agained, .int 1, .ref adegrees, .long 0]))]) (va_A [(h, .inr (5, [.int 1, .ref aweight, .ref aown, .int 0, .ref abetween, .ref acommunity, .ref afresh, .int 0, .ref atold, .ref areached, .ref aplaced, .int 0, .ref amoved, .ref agained, .int 0, .ref adegrees, .long 0]))] sz)) 0 0 (va_A [(h, .inr (5, [.int 1, .ref aweight, .ref aown, .int 0, .ref abetween, .ref acommunity, .ref afresh, .int 0, .ref atold, .ref areached, .ref aplaced, .int 0, .ref amoved, .ref agained, .int 0, .ref adegrees, .long 0]))] sz) := by
  refine Met.ofW (cc := cX5_about) (maxL := 3) (ret := (some .int)) (by decide) rfl ?_
  intro p e s m args below meth c s₁ B hml hv
  obtain ⟨rfl, hsz, hP, hK, hD0⟩ := hv
  have hx := B.exec
  have hb := B.bytes
  have hr := B.returns
  have hts := atoms_spec (ws := wsX5_about) B.pre
  have hown : s.vm.findClass RX5 = some m.cls := findClass_of_methodNamed B.named
  have hlocks := B.notSynchronized
  subst hsz
  have hD := hD0.self (sz := s.heap.size)
  generalize hAe : va_A [(h, .inr (5, [.int 1, .ref aweight, .ref aown, .int 0, .ref abetween, .ref acommunity, .ref afresh, .int 0, .ref atold, .ref areached, .ref aplaced, .int 0, .ref amoved, .ref agained, .int 0, .ref adegrees, .long 0]))] s.heap.size = A at hD ⊢
  have hA : ∀ q : Nat, s.heap.size ≤ q → A q := fun q h => by rw [← hAe]; exact Or.inr h
  have hS : va_S A s.heap s.heap [] := va_S.rf
  have hP : va_P (dC, dI) vwCl [(h, .inr (5, [.int 1, .ref aweight, .ref aown, .int 0, .ref abetween, .ref acommunity, .ref afresh, .int 0, .ref atold, .ref areached, .ref aplaced, .int 0, .ref amoved, .ref agained, .int 0, .ref adegrees, .long 0]))] s.heap := hP
  have hl := lv_entry ([.ref h, .int 4, .int n]) (n := 3) (Nat.le_of_ble_eq_true rfl)
  rw [lg_entry_eq]
  generalize (lg_sl ([.ref h, .int 4, .int n]) ++ List.replicate (3 - (lg_sl ([.ref h, .int 4, .int n])).length) Slot.unset).toArray = ls at hl ⊢
  have hl : lv_has ls 3 [(0, .ref h), (1, .int 4), (2, .int n)] := hl
  have i_5 : ∀ w ∈ wsX50, w ∈ wsX5_about := by decide +kernel
  have k_0 := hts (.fieldLink RX5 48 "CommunityLevelsModel" "thrown" "I") (by decide +kernel)
  refine lv_aload_n hx hb dX5_about_0 rfl (lv_at hl 0 rfl) ?_
  refine lv_iload_n hx hb dX5_about_1 rfl (lv_at hl 1 rfl) ?_
  refine lv_if_lt (tgt := 23) hx hb dX5_about_2 (by decide) (fun c_1 => ?_) (fun c_1 => ?_)
  · exact absurd c_1 (by decide)
  refine lv_iload_n hx hb dX5_about_5 rfl (lv_at hl 1 rfl) ?_
  refine lv_iconst (v := 4) hx hb dX5_about_6 (by decide) ?_
  refine lv_icmp_gt (tgt := 23) hx hb dX5_about_7 (by decide) (fun c_2 => ?_) (fun c_2 => ?_)
  · exact absurd c_2 (by decide)
  refine lv_iload_n hx hb dX5_about_10 rfl (lv_at hl 1 rfl) ?_
  refine lv_iconst (v := 1) hx hb dX5_about_11 (by decide) ?_
  refine lv_icmp_le (tgt := 27) hx hb dX5_about_12 (by decide) (fun c_3 => ?_) (fun c_3 => ?_)
  · exact absurd c_3 (by decide)
  refine lv_aload_n hx hb dX5_about_15 rfl (lv_at hl 0 rfl) ?_
  refine lv_iload_n hx hb dX5_about_16 rfl (lv_at hl 2 rfl) ?_
  have hPc := hP.sub (ws' := [(h, .inr (5, [.int 1, .ref aweight, .ref aown, .int 0, .ref abetween, .ref acommunity, .ref afresh, .int 0, .ref atold, .ref areached, .ref aplaced, .int 0, .ref amoved, .ref agained, .int 0, .ref adegrees, .long 0]))]) [0] rfl
  have hDc := hD.sub (ws' := [(h, .inr (5, [.int 1, .ref aweight, .ref aown, .int 0, .ref abetween, .ref acommunity, .ref afresh, .int 0, .ref atold, .ref areached, .ref aplaced, .int 0, .ref amoved, .ref agained, .int 0, .ref adegrees, .long 0]))]) [0] (by decide) rfl
  have hFc := va_free (wc := [(h, .inr (5, [.int 1, .ref aweight, .ref aown, .int 0, .ref abetween, .ref acommunity, .ref afresh, .int 0, .ref atold, .ref areached, .ref aplaced, .int 0, .ref amoved, .ref agained, .int 0, .ref adegrees, .long 0]))]) hD hS hA [0] rfl
  refine va_calli (va_runV (As := [.int n]) (rest := [.ref h]) ⟨hx, hb, hml, hown, hts⟩ (c_X5_noNode_bad l dC dI cI cJ h aweight aown abetween acommunity afresh atold areached aplaced amoved agained adegrees s.heap.size n 0 hn) (cwV 1 hts gX5_about_X5_noNode rfl rfl rfl (by decide +kernel) ⟨Nat.le_of_ble_eq_true rfl, Nat.le_of_ble_eq_true rfl⟩) ⟨fun a U g mk q => by obtain ⟨q0, q1, qP, qK, qD⟩ := q; exact ⟨q0, q1, qP, va_K.moved (u := U) (U := U.calling g mk a) (Vm.Alike.refl U.vm) qK, qD⟩, va_recv hK hPc (ci := 5) (q0 := 0) rfl rfl, fun U hU hW => ⟨rfl, by rw [hU], by rw [hU]; exact hPc, va_K.moved hW.alike hK, hDc.weaken (fun _ _ _ _ => trivial)⟩⟩ rfl rfl hl.1 rfl (lv_room (Nat.le_of_ble_eq_true rfl)) dX5_about_17 ⟨Nat.le_of_ble_eq_true rfl, Nat.le_of_ble_eq_true rfl⟩) hS (fun q _ h => hFc q h) hFc (fun r_4 u_5 t H1 locs ht hvm hw hB hz1 hk1 hS => ?_)
  obtain ⟨hP1, hD1⟩ := hB
  rw [ht] at hP1
  obtain ⟨hP, hD⟩ := va_join (wr := []) (w1 := [(h, .inr (5, [.int 1, .ref aweight, .ref aown, .int 0, .ref abetween, .ref acommunity, .ref afresh, .int 0, .ref atold, .ref areached, .ref aplaced, .int 0, .ref amoved, .ref agained, .int 0, .ref adegrees, .long 0]))]) hP hD [0] [] rfl rfl (by decide) (by decide) hk1 hFc hP1 hD1
  generalize H1 = H at hP hS ⊢
  have hP : va_P (dC, dI) vwCl [(h, .inr (5, [.int 1, .ref aweight, .ref aown, .int 0, .ref abetween, .ref acommunity, .ref afresh, .int 0, .ref atold, .ref areached, .ref aplaced, .int 0, .ref amoved, .ref agained, .int 0, .ref adegrees, .long 0]))] H := hP
  have hD : va_D A [(h, .inr (5, [.int 1, .ref aweight, .ref aown, .int 0, .ref abetween, .ref acommunity, .ref afresh, .int 0, .ref atold, .ref areached, .ref aplaced, .int 0, .ref amoved, .ref agained, .int 0, .ref adegrees, .long 0]))] := hD
  obtain rfl : r_4 = 1 := hw
  refine lv_if_eq (tgt := 27) hx hb dX5_about_20 (by decide) (fun c_6 => ?_) (fun c_6 => ?_)
  · exact absurd c_6 (by decide)
  refine lv_iconst (v := 1) hx hb dX5_about_23 (by decide) ?_
  refine lv_goto (tgt := 28) hx hb dX5_about_24 (by decide) ?_
  refine va_put (D := (dC, dI)) (ci := 5) (v := .int 1) (ty := .int) (C := RX5) (T := TX5) (N := 17) hx hb hts i_5 tyX5 tyX5_ok nmX5 hown hK hP hD hS 0 rfl rfl 14 (by decide) k_0 (fun _ h9 => h9) rfl (by decide +kernel) rfl rfl (Nat.le_of_ble_eq_true rfl) dX5_about_28 (fun H locs hP hD hS => ?_)
  have hP : va_P (dC, dI) vwCl [(h, .inr (5, [.int 1, .ref aweight, .ref aown, .int 0, .ref abetween, .ref acommunity, .ref afresh, .int 0, .ref atold, .ref areached, .ref aplaced, .int 0, .ref amoved, .ref agained, .int 1, .ref adegrees, .long 0]))] H := hP
  have hD : va_D A [(h, .inr (5, [.int 1, .ref aweight, .ref aown, .int 0, .ref abetween, .ref acommunity, .ref afresh, .int 0, .ref atold, .ref areached, .ref aplaced, .int 0, .ref amoved, .ref agained, .int 1, .ref adegrees, .long 0]))] := hD
  refine lv_aload_n hx hb dX5_about_31 rfl (lv_at hl 0 rfl) ?_
  refine va_get (D := (dC, dI)) (ci := 5) (v := .int 1) (C := RX5) (T := TX5) (N := 17) hx hb hts i_5 hown hK hP 0 rfl rfl 14 (by decide) k_0 (fun _ h9 => h9) rfl dX5_about_32 ?_
  refine lv_if_le (tgt := 40) hx hb dX5_about_35 (by decide) (fun c_7 => ?_) (fun c_7 => ?_)
  · exact absurd c_7 (by decide)
  refine lv_iconst (v := 0) hx hb dX5_about_38 (by decide) ?_
  have hP9 := hP.sub (ws' := [(h, .inr (5, [.int 1, .ref aweight, .ref aown, .int 0, .ref abetween, .ref acommunity, .ref afresh, .int 0, .ref atold, .ref areached, .ref aplaced, .int 0, .ref amoved, .ref agained, .int 1, .ref adegrees, .long 0]))]) [0] rfl
  have hD9 := hD.sub (ws' := [(h, .inr (5, [.int 1, .ref aweight, .ref aown, .int 0, .ref abetween, .ref acommunity, .ref afresh, .int 0, .ref atold, .ref areached, .ref aplaced, .int 0, .ref amoved, .ref agained, .int 1, .ref adegrees, .long 0]))]) [0] (by decide) rfl
  exact W.iret (v := 0) hx hb hr (fun t ht hW => ⟨⟨_, (), rfl, rfl, by rw [ht]; exact hP9, hD9⟩, hS.F ht⟩) hS.2.2 dX5_about_39
