set_option maxHeartbeats 4000000 in
set_option maxRecDepth 100000 in
theorem c_X5_thrown (l : Launch) (dC : Nat → ClassId) (dI : Nat → Nat → Nat) (cI cJ : ClassId) (h aweight aown abetween acommunity afresh atold areached aplaced amoved agained adegrees : Nat) (sz : Nat) (tv : Int32) (vn : Int32) (vmany : Int32) (vlevels : Int32) (vmoves : Int32) (vwhole : Int64) : Met l yX5_thrown wsX5_thrown ({ frames := 0, cells := 0, slots := 0, locals := 0 }) (va_Pc [.ref h] (pPre dC dI cI cJ sz [(h, .inr (5, [.int vn, .ref aweight, .ref aown, .int vmany, .ref abetween, .ref acommunity, .ref afresh, .int vlevels, .ref atold, .ref areached, .ref aplaced, .int vmoves, .ref amoved, .ref agained, .int tv, .ref adegrees, .long vwhole]))])) (va_Qi (fun (r : Int32) (_ : Unit) => r = tv) (pPost dC dI (va_A [(h, .inr (5, [.int vn, .ref aweight, .ref aown, .int vmany, .ref abetween, .ref acommunity, .ref afresh, .int vlevels, .ref atold, .ref areached, .ref aplaced, .int vmoves, .ref amoved, .ref agained, .int tv, .ref adegrees, .long vwhole]))] sz) [(h, .inr (5, [.int vn, .ref aweight, .ref aown, .int vmany, .ref abetween, .ref acommunity, .ref afresh, .int vlevels, .ref atold, .ref areached, .ref aplaced, .int vmoves, .ref amoved, .ref agained, .int tv, .ref adegrees, .long vwhole]))]) (va_A [(h, .inr (5, [.int vn, .ref aweight, .ref aown, .int vmany, .ref abetween, .ref acommunity, .ref afresh, .int vlevels, .ref atold, .ref areached, .ref aplaced, .int vmoves, .ref amoved, .ref agained, .int tv, .ref adegrees, .long vwhole]))] sz)) 0 0 (va_A [(h, .inr (5, [.int vn, .ref aweight, .ref aown, .int vmany, .ref abetween, .ref acommunity, .ref afresh, .int vlevels, .ref atold, .ref areached, .ref aplaced, .int vmoves, .ref amoved, .ref agained, .int tv, .ref adegrees, .long vwhole]))] sz) := by
  refine Met.ofW (cc := cX5_thrown) (maxL := 1) (ret := (some .int)) (by decide) rfl ?_
  intro p e s m args below meth c s₁ B hml hv
  obtain ⟨rfl, hsz, hP, hK, hD0⟩ := hv
  have hx := B.exec
  have hb := B.bytes
  have hr := B.returns
  have hts := atoms_spec (ws := wsX5_thrown) B.pre
  have hown : s.vm.findClass RX5 = some m.cls := findClass_of_methodNamed B.named
  have hlocks := B.notSynchronized
  subst hsz
  have hD := hD0.self (sz := s.heap.size)
  generalize hAe : va_A [(h, .inr (5, [.int vn, .ref aweight, .ref aown, .int vmany, .ref abetween, .ref acommunity, .ref afresh, .int vlevels, .ref atold, .ref areached, .ref aplaced, .int vmoves, .ref amoved, .ref agained, .int tv, .ref adegrees, .long vwhole]))] s.heap.size = A at hD ⊢
  have hA : ∀ q : Nat, s.heap.size ≤ q → A q := fun q h => by rw [← hAe]; exact Or.inr h
  have hS : va_S A s.heap s.heap [] := va_S.rf
  have hP : va_P (dC, dI) vwCl [(h, .inr (5, [.int vn, .ref aweight, .ref aown, .int vmany, .ref abetween, .ref acommunity, .ref afresh, .int vlevels, .ref atold, .ref areached, .ref aplaced, .int vmoves, .ref amoved, .ref agained, .int tv, .ref adegrees, .long vwhole]))] s.heap := hP
  have hl := lv_entry ([.ref h]) (n := 1) (Nat.le_of_ble_eq_true rfl)
  rw [lg_entry_eq]
  generalize (lg_sl ([.ref h]) ++ List.replicate (1 - (lg_sl ([.ref h])).length) Slot.unset).toArray = ls at hl ⊢
  have hl : lv_has ls 1 [(0, .ref h)] := hl
  have i_5 : ∀ w ∈ wsX50, w ∈ wsX5_thrown := by decide +kernel
  have k_0 := hts (.fieldLink RX5 48 "CommunityLevelsModel" "thrown" "I") (by decide +kernel)
  refine lv_aload_n hx hb dX5_thrown_0 rfl (lv_at hl 0 rfl) ?_
  refine va_get (D := (dC, dI)) (ci := 5) (v := .int tv) (C := RX5) (T := TX5) (N := 17) hx hb hts i_5 hown hK hP 0 rfl rfl 14 (by decide) k_0 (fun _ h9 => h9) rfl dX5_thrown_1 ?_
  have hP9 := hP.sub (ws' := [(h, .inr (5, [.int vn, .ref aweight, .ref aown, .int vmany, .ref abetween, .ref acommunity, .ref afresh, .int vlevels, .ref atold, .ref areached, .ref aplaced, .int vmoves, .ref amoved, .ref agained, .int tv, .ref adegrees, .long vwhole]))]) [0] rfl
  have hD9 := hD.sub (ws' := [(h, .inr (5, [.int vn, .ref aweight, .ref aown, .int vmany, .ref abetween, .ref acommunity, .ref afresh, .int vlevels, .ref atold, .ref areached, .ref aplaced, .int vmoves, .ref amoved, .ref agained, .int tv, .ref adegrees, .long vwhole]))]) [0] (by decide) rfl
  exact W.iret (v := tv) hx hb hr (fun t ht hW => ⟨⟨_, (), rfl, rfl, by rw [ht]; exact hP9, hD9⟩, hS.F ht⟩) hS.2.2 dX5_thrown_4
set_option maxHeartbeats 4000000 in
set_option maxRecDepth 100000 in
theorem c_X5_forget (l : Launch) (dC : Nat → ClassId) (dI : Nat → Nat → Nat) (cI cJ : ClassId) (h aweight aown abetween acommunity afresh atold areached aplaced amoved agained adegrees : Nat) (sz : Nat) (nn : Int32) (mm : Int32) : Met l yX5_forget wsX5_forget ({ frames := 0, cells := 0, slots := 0, locals := 0 }) (va_Pc [.ref h] (pPre dC dI cI cJ sz [(h, .inr (5, [.int nn, .ref aweight, .ref aown, .int mm, .ref abetween, .ref acommunity, .ref afresh, .int 0, .ref atold, .ref areached, .ref aplaced, .int 0, .ref amoved, .ref agained, .int 0, .ref adegrees, .long 0]))])) (va_Qv (fun _ : Unit => True) (pPost dC dI (va_A [(h, .inr (5, [.int nn, .ref aweight, .ref aown, .int mm, .ref abetween, .ref acommunity, .ref afresh, .int 0, .ref atold, .ref areached, .ref aplaced, .int 0, .ref amoved, .ref agained, .int 0, .ref adegrees, .long 0]))] sz) [(h, .inr (5, [.int nn, .ref aweight, .ref aown, .int mm, .ref abetween, .ref acommunity, .ref afresh, .int 0, .ref atold, .ref areached, .ref aplaced, .int 0, .ref amoved, .ref agained, .int 0, .ref adegrees, .long 0]))]) (va_A [(h, .inr (5, [.int nn, .ref aweight, .ref aown, .int mm, .ref abetween, .ref acommunity, .ref afresh, .int 0, .ref atold, .ref areached, .ref aplaced, .int 0, .ref amoved, .ref agained, .int 0, .ref adegrees, .long 0]))] sz)) 0 0 (va_A [(h, .inr (5, [.int nn, .ref aweight, .ref aown, .int mm, .ref abetween, .ref acommunity, .ref afresh, .int 0, .ref atold, .ref areached, .ref aplaced, .int 0, .ref amoved, .ref agained, .int 0, .ref adegrees, .long 0]))] sz) := by
  refine Met.ofW (cc := cX5_forget) (maxL := 1) (ret := none) (by decide) rfl ?_
  intro p e s m args below meth c s₁ B hml hv
  obtain ⟨rfl, hsz, hP, hK, hD0⟩ := hv
  have hx := B.exec
  have hb := B.bytes
  have hr := B.returns
  have hts := atoms_spec (ws := wsX5_forget) B.pre
  have hown : s.vm.findClass RX5 = some m.cls := findClass_of_methodNamed B.named
  have hlocks := B.notSynchronized
  subst hsz
  have hD := hD0.self (sz := s.heap.size)
  generalize hAe : va_A [(h, .inr (5, [.int nn, .ref aweight, .ref aown, .int mm, .ref abetween, .ref acommunity, .ref afresh, .int 0, .ref atold, .ref areached, .ref aplaced, .int 0, .ref amoved, .ref agained, .int 0, .ref adegrees, .long 0]))] s.heap.size = A at hD ⊢
  have hA : ∀ q : Nat, s.heap.size ≤ q → A q := fun q h => by rw [← hAe]; exact Or.inr h
  have hS : va_S A s.heap s.heap [] := va_S.rf
  have hP : va_P (dC, dI) vwCl [(h, .inr (5, [.int nn, .ref aweight, .ref aown, .int mm, .ref abetween, .ref acommunity, .ref afresh, .int 0, .ref atold, .ref areached, .ref aplaced, .int 0, .ref amoved, .ref agained, .int 0, .ref adegrees, .long 0]))] s.heap := hP
  have hl := lv_entry ([.ref h]) (n := 1) (Nat.le_of_ble_eq_true rfl)
  rw [lg_entry_eq]
  generalize (lg_sl ([.ref h]) ++ List.replicate (1 - (lg_sl ([.ref h])).length) Slot.unset).toArray = ls at hl ⊢
  have hl : lv_has ls 1 [(0, .ref h)] := hl
  have i_5 : ∀ w ∈ wsX50, w ∈ wsX5_forget := by decide +kernel
  have k_0 := hts (.fieldLink RX5 51 "CommunityLevelsModel" "levels" "I") (by decide +kernel)
  have k_1 := hts (.fieldLink RX5 54 "CommunityLevelsModel" "moves" "I") (by decide +kernel)
  refine lv_aload_n hx hb dX5_forget_0 rfl (lv_at hl 0 rfl) ?_
  refine lv_iconst (v := 0) hx hb dX5_forget_1 (by decide) ?_
  refine va_put (D := (dC, dI)) (ci := 5) (v := .int 0) (ty := .int) (C := RX5) (T := TX5) (N := 17) hx hb hts i_5 tyX5 tyX5_ok nmX5 hown hK hP hD hS 0 rfl rfl 7 (by decide) k_0 (fun _ h9 => h9) rfl (by decide +kernel) rfl rfl (Nat.le_of_ble_eq_true rfl) dX5_forget_2 (fun H locs hP hD hS => ?_)
  have hP : va_P (dC, dI) vwCl [(h, .inr (5, [.int nn, .ref aweight, .ref aown, .int mm, .ref abetween, .ref acommunity, .ref afresh, .int 0, .ref atold, .ref areached, .ref aplaced, .int 0, .ref amoved, .ref agained, .int 0, .ref adegrees, .long 0]))] H := hP
  have hD : va_D A [(h, .inr (5, [.int nn, .ref aweight, .ref aown, .int mm, .ref abetween, .ref acommunity, .ref afresh, .int 0, .ref atold, .ref areached, .ref aplaced, .int 0, .ref amoved, .ref agained, .int 0, .ref adegrees, .long 0]))] := hD
  refine lv_aload_n hx hb dX5_forget_5 rfl (lv_at hl 0 rfl) ?_
  refine lv_iconst (v := 0) hx hb dX5_forget_6 (by decide) ?_
  refine va_put (D := (dC, dI)) (ci := 5) (v := .int 0) (ty := .int) (C := RX5) (T := TX5) (N := 17) hx hb hts i_5 tyX5 tyX5_ok nmX5 hown hK hP hD hS 0 rfl rfl 11 (by decide) k_1 (fun _ h9 => h9) rfl (by decide +kernel) rfl rfl (Nat.le_of_ble_eq_true rfl) dX5_forget_7 (fun H locs hP hD hS => ?_)
  have hP : va_P (dC, dI) vwCl [(h, .inr (5, [.int nn, .ref aweight, .ref aown, .int mm, .ref abetween, .ref acommunity, .ref afresh, .int 0, .ref atold, .ref areached, .ref aplaced, .int 0, .ref amoved, .ref agained, .int 0, .ref adegrees, .long 0]))] H := hP
  have hD : va_D A [(h, .inr (5, [.int nn, .ref aweight, .ref aown, .int mm, .ref abetween, .ref acommunity, .ref afresh, .int 0, .ref atold, .ref areached, .ref aplaced, .int 0, .ref amoved, .ref agained, .int 0, .ref adegrees, .long 0]))] := hD
  have hP9 := hP.sub (ws' := [(h, .inr (5, [.int nn, .ref aweight, .ref aown, .int mm, .ref abetween, .ref acommunity, .ref afresh, .int 0, .ref atold, .ref areached, .ref aplaced, .int 0, .ref amoved, .ref agained, .int 0, .ref adegrees, .long 0]))]) [0] rfl
  have hD9 := hD.sub (ws' := [(h, .inr (5, [.int nn, .ref aweight, .ref aown, .int mm, .ref abetween, .ref acommunity, .ref afresh, .int 0, .ref atold, .ref areached, .ref aplaced, .int 0, .ref amoved, .ref agained, .int 0, .ref adegrees, .long 0]))]) [0] (by decide) rfl
  exact W.vret hx hb hr (fun t ht hW => ⟨⟨(), rfl, trivial, by rw [ht]; exact hP9, hD9⟩, hS.F ht⟩) hS.2.2 dX5_forget_10
set_option maxHeartbeats 4000000 in
set_option maxRecDepth 100000 in
theorem c_X5_noNode (l : Launch) (dC : Nat → ClassId) (dI : Nat → Nat → Nat) (cI cJ : ClassId) (h aweight aown abetween acommunity afresh atold areached aplaced amoved agained adegrees : Nat) (sz : Nat) (tv : Int32) : Met l yX5_noNode wsX5_noNode ({ frames := 0, cells := 0, slots := 0, locals := 0 }) (va_Pc [.ref h, .int 0] (pPre dC dI cI cJ sz [(h, .inr (5, [.int 1, .ref aweight, .ref aown, .int 0, .ref abetween, .ref acommunity, .ref afresh, .int 0, .ref atold, .ref areached, .ref aplaced, .int 0, .ref amoved, .ref agained, .int tv, .ref adegrees, .long 0]))])) (va_Qi (fun (r : Int32) (_ : Unit) => r = 0) (pPost dC dI (va_A [(h, .inr (5, [.int 1, .ref aweight, .ref aown, .int 0, .ref abetween, .ref acommunity, .ref afresh, .int 0, .ref atold, .ref areached, .ref aplaced, .int 0, .ref amoved, .ref agained, .int tv, .ref adegrees, .long 0]))] sz) [(h, .inr (5, [.int 1, .ref aweight, .ref aown, .int 0, .ref abetween, .ref acommunity, .ref afresh, .int 0, .ref atold, .ref areached, .ref aplaced, .int 0, .ref amoved, .ref agained, .int tv, .ref adegrees, .long 0]))]) (va_A [(h, .inr (5, [.int 1, .ref aweight, .ref aown, .int 0, .ref abetween, .ref acommunity, .ref afresh, .int 0, .ref atold, .ref areached, .ref aplaced, .int 0, .ref amoved, .ref agained, .int tv, .ref adegrees, .long 0]))] sz)) 0 0 (va_A [(h, .inr (5, [.int 1, .ref aweight, .ref aown, .int 0, .ref abetween, .ref acommunity, .ref afresh, .int 0, .ref atold, .ref areached, .ref aplaced, .int 0, .ref amoved, .ref agained, .int tv, .ref adegrees, .long 0]))] sz) := by
  refine Met.ofW (cc := cX5_noNode) (maxL := 2) (ret := (some .boolean)) (by decide) rfl ?_
  intro p e s m args below meth c s₁ B hml hv
  obtain ⟨rfl, hsz, hP, hK, hD0⟩ := hv
  have hx := B.exec
  have hb := B.bytes
  have hr := B.returns
  have hts := atoms_spec (ws := wsX5_noNode) B.pre
  have hown : s.vm.findClass RX5 = some m.cls := findClass_of_methodNamed B.named
  have hlocks := B.notSynchronized
  subst hsz
  have hD := hD0.self (sz := s.heap.size)
  generalize hAe : va_A [(h, .inr (5, [.int 1, .ref aweight, .ref aown, .int 0, .ref abetween, .ref acommunity, .ref afresh, .int 0, .ref atold, .ref areached, .ref aplaced, .int 0, .ref amoved, .ref agained, .int tv, .ref adegrees, .long 0]))] s.heap.size = A at hD ⊢
  have hA : ∀ q : Nat, s.heap.size ≤ q → A q := fun q h => by rw [← hAe]; exact Or.inr h
  have hS : va_S A s.heap s.heap [] := va_S.rf
  have hP : va_P (dC, dI) vwCl [(h, .inr (5, [.int 1, .ref aweight, .ref aown, .int 0, .ref abetween, .ref acommunity, .ref afresh, .int 0, .ref atold, .ref areached, .ref aplaced, .int 0, .ref amoved, .ref agained, .int tv, .ref adegrees, .long 0]))] s.heap := hP
  have hl := lv_entry ([.ref h, .int 0]) (n := 2) (Nat.le_of_ble_eq_true rfl)
  rw [lg_entry_eq]
  generalize (lg_sl ([.ref h, .int 0]) ++ List.replicate (2 - (lg_sl ([.ref h, .int 0])).length) Slot.unset).toArray = ls at hl ⊢
  have hl : lv_has ls 2 [(0, .ref h), (1, .int 0)] := hl
  have i_5 : ∀ w ∈ wsX50, w ∈ wsX5_noNode := by decide +kernel
  have k_0 := hts (.fieldLink RX5 7 "CommunityLevelsModel" "n" "I") (by decide +kernel)
  refine lv_iload_n hx hb dX5_noNode_0 rfl (lv_at hl 1 rfl) ?_
  refine lv_if_lt (tgt := 12) hx hb dX5_noNode_1 (by decide) (fun c_1 => ?_) (fun c_1 => ?_)
  · exact absurd c_1 (by decide)
  refine lv_iload_n hx hb dX5_noNode_4 rfl (lv_at hl 1 rfl) ?_
  refine lv_aload_n hx hb dX5_noNode_5 rfl (lv_at hl 0 rfl) ?_
  refine va_get (D := (dC, dI)) (ci := 5) (v := .int 1) (C := RX5) (T := TX5) (N := 17) hx hb hts i_5 hown hK hP 0 rfl rfl 0 (by decide) k_0 (fun _ h9 => h9) rfl dX5_noNode_6 ?_
  refine lv_icmp_lt (tgt := 16) hx hb dX5_noNode_9 (by decide) (fun c_2 => ?_) (fun c_2 => ?_)
  rotate_left
  · exact absurd (by decide) c_2
  refine lv_iconst (v := 0) hx hb dX5_noNode_16 (by decide) ?_
  have hP9 := hP.sub (ws' := [(h, .inr (5, [.int 1, .ref aweight, .ref aown, .int 0, .ref abetween, .ref acommunity, .ref afresh, .int 0, .ref atold, .ref areached, .ref aplaced, .int 0, .ref amoved, .ref agained, .int tv, .ref adegrees, .long 0]))]) [0] rfl
  have hD9 := hD.sub (ws' := [(h, .inr (5, [.int 1, .ref aweight, .ref aown, .int 0, .ref abetween, .ref acommunity, .ref afresh, .int 0, .ref atold, .ref areached, .ref aplaced, .int 0, .ref amoved, .ref agained, .int tv, .ref adegrees, .long 0]))]) [0] (by decide) rfl
  exact W.zret (v := 0) hx hb hr (by decide) (fun t ht hW => ⟨⟨_, (), rfl, rfl, by rw [ht]; exact hP9, hD9⟩, hS.F ht⟩) hS.2.2 dX5_noNode_17
set_option maxHeartbeats 4000000 in
set_option maxRecDepth 100000 in
theorem c_X5_noNode_bad (l : Launch) (dC : Nat → ClassId) (dI : Nat → Nat → Nat) (cI cJ : ClassId) (h aweight aown abetween acommunity afresh atold areached aplaced amoved agained adegrees : Nat) (sz : Nat) (n : Int32) (tv : Int32) (hn : n < 0 ∨ 1 ≤ n) : Met l yX5_noNode wsX5_noNode ({ frames := 0, cells := 0, slots := 0, locals := 0 }) (va_Pc [.ref h, .int n] (pPre dC dI cI cJ sz [(h, .inr (5, [.int 1, .ref aweight, .ref aown, .int 0, .ref abetween, .ref acommunity, .ref afresh, .int 0, .ref atold, .ref areached, .ref aplaced, .int 0, .ref amoved, .ref agained, .int tv, .ref adegrees, .long 0]))])) (va_Qi (fun (r : Int32) (_ : Unit) => r = 1) (pPost dC dI (va_A [(h, .inr (5, [.int 1, .ref aweight, .ref aown, .int 0, .ref abetween, .ref acommunity, .ref afresh, .int 0, .ref atold, .ref areached, .ref aplaced, .int 0, .ref amoved, .ref agained, .int tv, .ref adegrees, .long 0]))] sz) [(h, .inr (5, [.int 1, .ref aweight, .ref aown, .int 0, .ref abetween, .ref acommunity, .ref afresh, .int 0, .ref atold, .ref areached, .ref aplaced, .int 0, .ref amoved, .ref agained, .int tv, .ref adegrees, .long 0]))]) (va_A [(h, .inr (5, [.int 1, .ref aweight, .ref aown, .int 0, .ref abetween, .ref acommunity, .ref afresh, .int 0, .ref atold, .ref areached, .ref aplaced, .int 0, .ref amoved, .ref agained, .int tv, .ref adegrees, .long 0]))] sz)) 0 0 (va_A [(h, .inr (5, [.int 1, .ref aweight, .ref aown, .int 0, .ref abetween, .ref acommunity, .ref afresh, .int 0, .ref atold, .ref areached, .ref aplaced, .int 0, .ref amoved, .ref agained, .int tv, .ref adegrees, .long 0]))] sz) := by
  refine Met.ofW (cc := cX5_noNode) (maxL := 2) (ret := (some .boolean)) (by decide) rfl ?_
  intro p e s m args below meth c s₁ B hml hv
  obtain ⟨rfl, hsz, hP, hK, hD0⟩ := hv
  have hx := B.exec
  have hb := B.bytes
  have hr := B.returns
  have hts := atoms_spec (ws := wsX5_noNode) B.pre
  have hown : s.vm.findClass RX5 = some m.cls := findClass_of_methodNamed B.named
  have hlocks := B.notSynchronized
  subst hsz
  have hD := hD0.self (sz := s.heap.size)
  generalize hAe : va_A [(h, .inr (5, [.int 1, .ref aweight, .ref aown, .int 0, .ref abetween, .ref acommunity, .ref afresh, .int 0, .ref atold, .ref areached, .ref aplaced, .int 0, .ref amoved, .ref agained, .int tv, .ref adegrees, .long 0]))] s.heap.size = A at hD ⊢
  have hA : ∀ q : Nat, s.heap.size ≤ q → A q := fun q h => by rw [← hAe]; exact Or.inr h
  have hS : va_S A s.heap s.heap [] := va_S.rf
  have hP : va_P (dC, dI) vwCl [(h, .inr (5, [.int 1, .ref aweight, .ref aown, .int 0, .ref abetween, .ref acommunity, .ref afresh, .int 0, .ref atold, .ref areached, .ref aplaced, .int 0, .ref amoved, .ref agained, .int tv, .ref adegrees, .long 0]))] s.heap := hP
  have hl := lv_entry ([.ref h, .int n]) (n := 2) (Nat.le_of_ble_eq_true rfl)
  rw [lg_entry_eq]
  generalize (lg_sl ([.ref h, .int n]) ++ List.replicate (2 - (lg_sl ([.ref h, .int n])).length) Slot.unset).toArray = ls at hl ⊢
  have hl : lv_has ls 2 [(0, .ref h), (1, .int n)] := hl
  have i_5 : ∀ w ∈ wsX50, w ∈ wsX5_noNode := by decide +kernel
  have k_0 := hts (.fieldLink RX5 7 "CommunityLevelsModel" "n" "I") (by decide +kernel)
  refine lv_iload_n hx hb dX5_noNode_0 rfl (lv_at hl 1 rfl) ?_
  refine lv_if_lt (tgt := 12) hx hb dX5_noNode_1 (by decide) (fun c_1 => ?_) (fun c_1 => ?_)
  · skip
    refine lv_iconst (v := 1) hx hb dX5_noNode_12 (by decide) ?_
    refine lv_goto (tgt := 17) hx hb dX5_noNode_13 (by decide) ?_
    have hP9 := hP.sub (ws' := [(h, .inr (5, [.int 1, .ref aweight, .ref aown, .int 0, .ref abetween, .ref acommunity, .ref afresh, .int 0, .ref atold, .ref areached, .ref aplaced, .int 0, .ref amoved, .ref agained, .int tv, .ref adegrees, .long 0]))]) [0] rfl
    have hD9 := hD.sub (ws' := [(h, .inr (5, [.int 1, .ref aweight, .ref aown, .int 0, .ref abetween, .ref acommunity, .ref afresh, .int 0, .ref atold, .ref areached, .ref aplaced, .int 0, .ref amoved, .ref agained, .int tv, .ref adegrees, .long 0]))]) [0] (by decide) rfl
    exact W.zret (v := 1) hx hb hr (by decide) (fun t ht hW => ⟨⟨_, (), rfl, rfl, by rw [ht]; exact hP9, hD9⟩, hS.F ht⟩) hS.2.2 dX5_noNode_17
  · skip
    refine lv_iload_n hx hb dX5_noNode_4 rfl (lv_at hl 1 rfl) ?_
    refine lv_aload_n hx hb dX5_noNode_5 rfl (lv_at hl 0 rfl) ?_
    refine va_get (D := (dC, dI)) (ci := 5) (v := .int 1) (C := RX5) (T := TX5) (N := 17) hx hb hts i_5 hown hK hP 0 rfl rfl 0 (by decide) k_0 (fun _ h9 => h9) rfl dX5_noNode_6 ?_
    refine lv_icmp_lt (tgt := 16) hx hb dX5_noNode_9 (by decide) (fun c_2 => ?_) (fun c_2 => ?_)
    · exact absurd c_2 (Int32.not_lt.mpr (hn.resolve_left c_1))
    refine lv_iconst (v := 1) hx hb dX5_noNode_12 (by decide) ?_
    refine lv_goto (tgt := 17) hx hb dX5_noNode_13 (by decide) ?_
    have hP9 := hP.sub (ws' := [(h, .inr (5, [.int 1, .ref aweight, .ref aown, .int 0, .ref abetween, .ref acommunity, .ref afresh, .int 0, .ref atold, .ref areached, .ref aplaced, .int 0, .ref amoved, .ref agained, .int tv, .ref adegrees, .long 0]))]) [0] rfl
    have hD9 := hD.sub (ws' := [(h, .inr (5, [.int 1, .ref aweight, .ref aown, .int 0, .ref abetween, .ref acommunity, .ref afresh, .int 0, .ref atold, .ref areached, .ref aplaced, .int 0, .ref amoved, .ref agained, .int tv, .ref adegrees, .long 0]))]) [0] (by decide) rfl
    exact W.zret (v := 1) hx hb hr (by decide) (fun t ht hW => ⟨⟨_, (), rfl, rfl, by rw [ht]; exact hP9, hD9⟩, hS.F ht⟩) hS.2.2 dX5_noNode_17
set_option maxHeartbeats 4000000 in
set_option maxRecDepth 100000 in
theorem c_X5_noLevel (l : Launch) (dC : Nat → ClassId) (dI : Nat → Nat → Nat) (cI cJ : ClassId) (h aweight aown abetween acommunity afresh atold areached aplaced amoved agained adegrees : Nat) (sz : Nat) (n : Int32) : Met l yX5_noLevel wsX5_noLevel ({ frames := 0, cells := 0, slots := 0, locals := 0 }) (va_Pc [.ref h, .int n] (pPre dC dI cI cJ sz [(h, .inr (5, [.int 1, .ref aweight, .ref aown, .int 0, .ref abetween, .ref acommunity, .ref afresh, .int 0, .ref atold, .ref areached, .ref aplaced, .int 0, .ref amoved, .ref agained, .int 0, .ref adegrees, .long 0]))])) (va_Qi (fun (r : Int32) (_ : Unit) => r = 1) (pPost dC dI (va_A [(h, .inr (5, [.int 1, .ref aweight, .ref aown, .int 0, .ref abetween, .ref acommunity, .ref afresh, .int 0, .ref atold, .ref areached, .ref aplaced, .int 0, .ref amoved, .ref agained, .int 0, .ref adegrees, .long 0]))] sz) [(h, .inr (5, [.int 1, .ref aweight, .ref aown, .int 0, .ref abetween, .ref acommunity, .ref afresh, .int 0, .ref atold, .ref areached, .ref aplaced, .int 0, .ref amoved, .ref agained, .int 0, .ref adegrees, .long 0]))]) (va_A [(h, .inr (5, [.int 1, .ref aweight, .ref aown, .int 0, .ref abetween, .ref acommunity, .ref afresh, .int 0, .ref atold, .ref areached, .ref aplaced, .int 0, .ref amoved, .ref agained, .int 0, .ref adegrees, .long 0]))] sz)) 0 0 (va_A [(h, .inr (5, [.int 1, .ref aweight, .ref aown, .int 0, .ref abetween, .ref acommunity, .ref afresh, .int 0, .ref atold, .ref areached, .ref aplaced, .int 0, .ref amoved, .ref agained, .int 0, .ref adegrees, .long 0]))] sz) := by
  refine Met.ofW (cc := cX5_noLevel) (maxL := 2) (ret := (some .boolean)) (by decide) rfl ?_
  intro p e s m args below meth c s₁ B hml hv
  obtain ⟨rfl, hsz, hP, hK, hD0⟩ := hv
  have hx := B.exec
  have hb := B.bytes
  have hr := B.returns
  have hts := atoms_spec (ws := wsX5_noLevel) B.pre
  have hown : s.vm.findClass RX5 = some m.cls := findClass_of_methodNamed B.named
  have hlocks := B.notSynchronized
  subst hsz
  have hD := hD0.self (sz := s.heap.size)
  generalize hAe : va_A [(h, .inr (5, [.int 1, .ref aweight, .ref aown, .int 0, .ref abetween, .ref acommunity, .ref afresh, .int 0, .ref atold, .ref areached, .ref aplaced, .int 0, .ref amoved, .ref agained, .int 0, .ref adegrees, .long 0]))] s.heap.size = A at hD ⊢
  have hA : ∀ q : Nat, s.heap.size ≤ q → A q := fun q h => by rw [← hAe]; exact Or.inr h
  have hS : va_S A s.heap s.heap [] := va_S.rf
  have hP : va_P (dC, dI) vwCl [(h, .inr (5, [.int 1, .ref aweight, .ref aown, .int 0, .ref abetween, .ref acommunity, .ref afresh, .int 0, .ref atold, .ref areached, .ref aplaced, .int 0, .ref amoved, .ref agained, .int 0, .ref adegrees, .long 0]))] s.heap := hP
  have hl := lv_entry ([.ref h, .int n]) (n := 2) (Nat.le_of_ble_eq_true rfl)
  rw [lg_entry_eq]
  generalize (lg_sl ([.ref h, .int n]) ++ List.replicate (2 - (lg_sl ([.ref h, .int n])).length) Slot.unset).toArray = ls at hl ⊢
  have hl : lv_has ls 2 [(0, .ref h), (1, .int n)] := hl
  have i_5 : ∀ w ∈ wsX50, w ∈ wsX5_noLevel := by decide +kernel
  have k_0 := hts (.fieldLink RX5 51 "CommunityLevelsModel" "levels" "I") (by decide +kernel)
  refine lv_iload_n hx hb dX5_noLevel_0 rfl (lv_at hl 1 rfl) ?_
  refine lv_if_lt (tgt := 12) hx hb dX5_noLevel_1 (by decide) (fun c_1 => ?_) (fun c_1 => ?_)
  · skip
    refine lv_iconst (v := 1) hx hb dX5_noLevel_12 (by decide) ?_
    refine lv_goto (tgt := 17) hx hb dX5_noLevel_13 (by decide) ?_
    have hP9 := hP.sub (ws' := [(h, .inr (5, [.int 1, .ref aweight, .ref aown, .int 0, .ref abetween, .ref acommunity, .ref afresh, .int 0, .ref atold, .ref areached, .ref aplaced, .int 0, .ref amoved, .ref agained, .int 0, .ref adegrees, .long 0]))]) [0] rfl
    have hD9 := hD.sub (ws' := [(h, .inr (5, [.int 1, .ref aweight, .ref aown, .int 0, .ref abetween, .ref acommunity, .ref afresh, .int 0, .ref atold, .ref areached, .ref aplaced, .int 0, .ref amoved, .ref agained, .int 0, .ref adegrees, .long 0]))]) [0] (by decide) rfl
    exact W.zret (v := 1) hx hb hr (by decide) (fun t ht hW => ⟨⟨_, (), rfl, rfl, by rw [ht]; exact hP9, hD9⟩, hS.F ht⟩) hS.2.2 dX5_noLevel_17
  · skip
    refine lv_iload_n hx hb dX5_noLevel_4 rfl (lv_at hl 1 rfl) ?_
    refine lv_aload_n hx hb dX5_noLevel_5 rfl (lv_at hl 0 rfl) ?_
    refine va_get (D := (dC, dI)) (ci := 5) (v := .int 0) (C := RX5) (T := TX5) (N := 17) hx hb hts i_5 hown hK hP 0 rfl rfl 7 (by decide) k_0 (fun _ h9 => h9) rfl dX5_noLevel_6 ?_
    refine lv_icmp_lt (tgt := 16) hx hb dX5_noLevel_9 (by decide) (fun c_2 => ?_) (fun c_2 => ?_)
    · exact absurd c_2 c_1
    refine lv_iconst (v := 1) hx hb dX5_noLevel_12 (by decide) ?_
    refine lv_goto (tgt := 17) hx hb dX5_noLevel_13 (by decide) ?_
    have hP9 := hP.sub (ws' := [(h, .inr (5, [.int 1, .ref aweight, .ref aown, .int 0, .ref abetween, .ref acommunity, .ref afresh, .int 0, .ref atold, .ref areached, .ref aplaced, .int 0, .ref amoved, .ref agained, .int 0, .ref adegrees, .long 0]))]) [0] rfl
    have hD9 := hD.sub (ws' := [(h, .inr (5, [.int 1, .ref aweight, .ref aown, .int 0, .ref abetween, .ref acommunity, .ref afresh, .int 0, .ref atold, .ref areached, .ref aplaced, .int 0, .ref amoved, .ref agained, .int 0, .ref adegrees, .long 0]))]) [0] (by decide) rfl
    exact W.zret (v := 1) hx hb hr (by decide) (fun t ht hW => ⟨⟨_, (), rfl, rfl, by rw [ht]; exact hP9, hD9⟩, hS.F ht⟩) hS.2.2 dX5_noLevel_17
set_option maxHeartbeats 4000000 in
set_option maxRecDepth 100000 in
theorem c_X5_noMove (l : Launch) (dC : Nat → ClassId) (dI : Nat → Nat → Nat) (cI cJ : ClassId) (h aweight aown abetween acommunity afresh atold areached aplaced amoved agained adegrees : Nat) (sz : Nat) (n : Int32) : Met l yX5_noMove wsX5_noMove ({ frames := 0, cells := 0, slots := 0, locals := 0 }) (va_Pc [.ref h, .int n] (pPre dC dI cI cJ sz [(h, .inr (5, [.int 1, .ref aweight, .ref aown, .int 0, .ref abetween, .ref acommunity, .ref afresh, .int 0, .ref atold, .ref areached, .ref aplaced, .int 0, .ref amoved, .ref agained, .int 0, .ref adegrees, .long 0]))])) (va_Qi (fun (r : Int32) (_ : Unit) => r = 1) (pPost dC dI (va_A [(h, .inr (5, [.int 1, .ref aweight, .ref aown, .int 0, .ref abetween, .ref acommunity, .ref afresh, .int 0, .ref atold, .ref areached, .ref aplaced, .int 0, .ref amoved, .ref agained, .int 0, .ref adegrees, .long 0]))] sz) [(h, .inr (5, [.int 1, .ref aweight, .ref aown, .int 0, .ref abetween, .ref acommunity, .ref afresh, .int 0, .ref atold, .ref areached, .ref aplaced, .int 0, .ref amoved, .ref agained, .int 0, .ref adegrees, .long 0]))]) (va_A [(h, .inr (5, [.int 1, .ref aweight, .ref aown, .int 0, .ref abetween, .ref acommunity, .ref afresh, .int 0, .ref atold, .ref areached, .ref aplaced, .int 0, .ref amoved, .ref agained, .int 0, .ref adegrees, .long 0]))] sz)) 0 0 (va_A [(h, .inr (5, [.int 1, .ref aweight, .ref aown, .int 0, .ref abetween, .ref acommunity, .ref afresh, .int 0, .ref atold, .ref areached, .ref aplaced, .int 0, .ref amoved, .ref agained, .int 0, .ref adegrees, .long 0]))] sz) := by
  refine Met.ofW (cc := cX5_noMove) (maxL := 2) (ret := (some .boolean)) (by decide) rfl ?_
  intro p e s m args below meth c s₁ B hml hv
  obtain ⟨rfl, hsz, hP, hK, hD0⟩ := hv
  have hx := B.exec
  have hb := B.bytes
  have hr := B.returns
  have hts := atoms_spec (ws := wsX5_noMove) B.pre
  have hown : s.vm.findClass RX5 = some m.cls := findClass_of_methodNamed B.named
  have hlocks := B.notSynchronized
  subst hsz
  have hD := hD0.self (sz := s.heap.size)
  generalize hAe : va_A [(h, .inr (5, [.int 1, .ref aweight, .ref aown, .int 0, .ref abetween, .ref acommunity, .ref afresh, .int 0, .ref atold, .ref areached, .ref aplaced, .int 0, .ref amoved, .ref agained, .int 0, .ref adegrees, .long 0]))] s.heap.size = A at hD ⊢
  have hA : ∀ q : Nat, s.heap.size ≤ q → A q := fun q h => by rw [← hAe]; exact Or.inr h
  have hS : va_S A s.heap s.heap [] := va_S.rf
  have hP : va_P (dC, dI) vwCl [(h, .inr (5, [.int 1, .ref aweight, .ref aown, .int 0, .ref abetween, .ref acommunity, .ref afresh, .int 0, .ref atold, .ref areached, .ref aplaced, .int 0, .ref amoved, .ref agained, .int 0, .ref adegrees, .long 0]))] s.heap := hP
  have hl := lv_entry ([.ref h, .int n]) (n := 2) (Nat.le_of_ble_eq_true rfl)
  rw [lg_entry_eq]
  generalize (lg_sl ([.ref h, .int n]) ++ List.replicate (2 - (lg_sl ([.ref h, .int n])).length) Slot.unset).toArray = ls at hl ⊢
  have hl : lv_has ls 2 [(0, .ref h), (1, .int n)] := hl
  have i_5 : ∀ w ∈ wsX50, w ∈ wsX5_noMove := by decide +kernel
  have k_0 := hts (.fieldLink RX5 54 "CommunityLevelsModel" "moves" "I") (by decide +kernel)
  refine lv_iload_n hx hb dX5_noMove_0 rfl (lv_at hl 1 rfl) ?_
  refine lv_if_lt (tgt := 19) hx hb dX5_noMove_1 (by decide) (fun c_1 => ?_) (fun c_1 => ?_)
  · skip
    refine lv_iconst (v := 1) hx hb dX5_noMove_19 (by decide) ?_
    refine lv_goto (tgt := 24) hx hb dX5_noMove_20 (by decide) ?_
    have hP9 := hP.sub (ws' := [(h, .inr (5, [.int 1, .ref aweight, .ref aown, .int 0, .ref abetween, .ref acommunity, .ref afresh, .int 0, .ref atold, .ref areached, .ref aplaced, .int 0, .ref amoved, .ref agained, .int 0, .ref adegrees, .long 0]))]) [0] rfl
    have hD9 := hD.sub (ws' := [(h, .inr (5, [.int 1, .ref aweight, .ref aown, .int 0, .ref abetween, .ref acommunity, .ref afresh, .int 0, .ref atold, .ref areached, .ref aplaced, .int 0, .ref amoved, .ref agained, .int 0, .ref adegrees, .long 0]))]) [0] (by decide) rfl
    exact W.zret (v := 1) hx hb hr (by decide) (fun t ht hW => ⟨⟨_, (), rfl, rfl, by rw [ht]; exact hP9, hD9⟩, hS.F ht⟩) hS.2.2 dX5_noMove_24
  · skip
    refine lv_iload_n hx hb dX5_noMove_4 rfl (lv_at hl 1 rfl) ?_
    refine lv_aload_n hx hb dX5_noMove_5 rfl (lv_at hl 0 rfl) ?_
    refine va_get (D := (dC, dI)) (ci := 5) (v := .int 0) (C := RX5) (T := TX5) (N := 17) hx hb hts i_5 hown hK hP 0 rfl rfl 11 (by decide) k_0 (fun _ h9 => h9) rfl dX5_noMove_6 ?_
    refine lv_icmp_ge (tgt := 19) hx hb dX5_noMove_9 (by decide) (fun c_2 => ?_) (fun c_2 => ?_)
    rotate_left
    · exact absurd (Int32.not_lt.mp c_1) c_2
    refine lv_iconst (v := 1) hx hb dX5_noMove_19 (by decide) ?_
    refine lv_goto (tgt := 24) hx hb dX5_noMove_20 (by decide) ?_
    have hP9 := hP.sub (ws' := [(h, .inr (5, [.int 1, .ref aweight, .ref aown, .int 0, .ref abetween, .ref acommunity, .ref afresh, .int 0, .ref atold, .ref areached, .ref aplaced, .int 0, .ref amoved, .ref agained, .int 0, .ref adegrees, .long 0]))]) [0] rfl
    have hD9 := hD.sub (ws' := [(h, .inr (5, [.int 1, .ref aweight, .ref aown, .int 0, .ref abetween, .ref acommunity, .ref afresh, .int 0, .ref atold, .ref areached, .ref aplaced, .int 0, .ref amoved, .ref agained, .int 0, .ref adegrees, .long 0]))]) [0] (by decide) rfl
    exact W.zret (v := 1) hx hb hr (by decide) (fun t ht hW => ⟨⟨_, (), rfl, rfl, by rw [ht]; exact hP9, hD9⟩, hS.F ht⟩) hS.2.2 dX5_noMove_24
set_option maxHeartbeats 4000000 in
set_option maxRecDepth 100000 in
theorem c_X5_nodes (l : Launch) (dC : Nat → ClassId) (dI : Nat → Nat → Nat) (cI cJ : ClassId) (h aweight aown abetween acommunity afresh atold areached aplaced amoved agained adegrees : Nat) (sz : Nat) (k : Nat) (hk1 : 1 ≤ k) (hk : k ≤ 40) : Met l yX5_nodes wsX5_nodes ({ frames := 1, cells := 0, slots := 0, locals := 20 }) (va_Pc [.ref h, .int (nI k)] (pPre dC dI cI cJ sz [(h, .inr (5, [.int 1, .ref aweight, .ref aown, .int 0, .ref abetween, .ref acommunity, .ref afresh, .int 0, .ref atold, .ref areached, .ref aplaced, .int 0, .ref amoved, .ref agained, .int 0, .ref adegrees, .long 0])), (aweight, .inl (cI, 1600, .inl Zi)), (aown, .inl (cI, 40, .inl (upd Zi 0 0)))])) (va_Qv (fun _ : Unit => True) (pPost dC dI (va_A [(h, .inr (5, [.int 1, .ref aweight, .ref aown, .int 0, .ref abetween, .ref acommunity, .ref afresh, .int 0, .ref atold, .ref areached, .ref aplaced, .int 0, .ref amoved, .ref agained, .int 0, .ref adegrees, .long 0])), (aweight, .inl (cI, 1600, .inl Zi)), (aown, .inl (cI, 40, .inl (upd Zi 0 0)))] sz) [(h, .inr (5, [.int (nI k), .ref aweight, .ref aown, .int 0, .ref abetween, .ref acommunity, .ref afresh, .int 0, .ref atold, .ref areached, .ref aplaced, .int 0, .ref amoved, .ref agained, .int 0, .ref adegrees, .long 0]))]) (va_A [(h, .inr (5, [.int 1, .ref aweight, .ref aown, .int 0, .ref abetween, .ref acommunity, .ref afresh, .int 0, .ref atold, .ref areached, .ref aplaced, .int 0, .ref amoved, .ref agained, .int 0, .ref adegrees, .long 0])), (aweight, .inl (cI, 1600, .inl Zi)), (aown, .inl (cI, 40, .inl (upd Zi 0 0)))] sz)) 0 0 (va_A [(h, .inr (5, [.int 1, .ref aweight, .ref aown, .int 0, .ref abetween, .ref acommunity, .ref afresh, .int 0, .ref atold, .ref areached, .ref aplaced, .int 0, .ref amoved, .ref agained, .int 0, .ref adegrees, .long 0])), (aweight, .inl (cI, 1600, .inl Zi)), (aown, .inl (cI, 40, .inl (upd Zi 0 0)))] sz) := by
  refine Met.ofW (cc := cX5_nodes) (maxL := 3) (ret := none) (by decide) rfl ?_
  intro p e s m args below meth c s₁ B hml hv
  obtain ⟨rfl, hsz, hP, hK, hD0⟩ := hv
  have hx := B.exec
  have hb := B.bytes
  have hr := B.returns
  have hts := atoms_spec (ws := wsX5_nodes) B.pre
  have hown : s.vm.findClass RX5 = some m.cls := findClass_of_methodNamed B.named
  have hlocks := B.notSynchronized
  subst hsz
  have hD := hD0.self (sz := s.heap.size)
  generalize hAe : va_A [(h, .inr (5, [.int 1, .ref aweight, .ref aown, .int 0, .ref abetween, .ref acommunity, .ref afresh, .int 0, .ref atold, .ref areached, .ref aplaced, .int 0, .ref amoved, .ref agained, .int 0, .ref adegrees, .long 0])), (aweight, .inl (cI, 1600, .inl Zi)), (aown, .inl (cI, 40, .inl (upd Zi 0 0)))] s.heap.size = A at hD ⊢
  have hA : ∀ q : Nat, s.heap.size ≤ q → A q := fun q h => by rw [← hAe]; exact Or.inr h
  have hS : va_S A s.heap s.heap [] := va_S.rf
  have hP : va_P (dC, dI) vwCl [(h, .inr (5, [.int 1, .ref aweight, .ref aown, .int 0, .ref abetween, .ref acommunity, .ref afresh, .int 0, .ref atold, .ref areached, .ref aplaced, .int 0, .ref amoved, .ref agained, .int 0, .ref adegrees, .long 0])), (aweight, .inl (cI, 1600, .inl Zi)), (aown, .inl (cI, 40, .inl (upd Zi 0 0)))] s.heap := hP
  have hl := lv_entry ([.ref h, .int (nI k)]) (n := 3) (Nat.le_of_ble_eq_true rfl)
  rw [lg_entry_eq]
  generalize (lg_sl ([.ref h, .int (nI k)]) ++ List.replicate (3 - (lg_sl ([.ref h, .int (nI k)])).length) Slot.unset).toArray = ls at hl ⊢
  have hl : lv_has ls 3 [(0, .ref h), (1, .int (nI k))] := hl
  have i_5 : ∀ w ∈ wsX50, w ∈ wsX5_nodes := by decide +kernel
  have k_0 := hts (.fieldLink RX5 48 "CommunityLevelsModel" "thrown" "I") (by decide +kernel)
  have k_1 := hts (.fieldLink RX5 7 "CommunityLevelsModel" "n" "I") (by decide +kernel)
  have k_2 := hts (.fieldLink RX5 17 "CommunityLevelsModel" "own" "[I") (by decide +kernel)
  have k_3 := hts (.fieldLink RX5 13 "CommunityLevelsModel" "weight" "[I") (by decide +kernel)
  refine lv_aload_n hx hb dX5_nodes_0 rfl (lv_at hl 0 rfl) ?_
  refine lv_iload_n hx hb dX5_nodes_1 rfl (lv_at hl 1 rfl) ?_
  refine lv_iconst (v := 1) hx hb dX5_nodes_2 (by decide) ?_
  refine lv_icmp_lt (tgt := 12) hx hb dX5_nodes_3 (by decide) (fun c_1 => ?_) (fun c_1 => ?_)
  · exact absurd c_1 (nI_nlt (a := k) (b := 1) hk1 (by omega))
  refine lv_iload_n hx hb dX5_nodes_6 rfl (lv_at hl 1 rfl) ?_
  refine lv_bipush (v := 40) hx hb dX5_nodes_7 (by decide) ?_
  refine lv_icmp_le (tgt := 16) hx hb dX5_nodes_9 (by decide) (fun c_2 => ?_) (fun c_2 => ?_)
  rotate_left
  · exact absurd (nI_le (a := k) (b := 40) hk (by decide)) c_2
  refine lv_iconst (v := 0) hx hb dX5_nodes_16 (by decide) ?_
  refine va_put (D := (dC, dI)) (ci := 5) (v := .int 0) (ty := .int) (C := RX5) (T := TX5) (N := 17) hx hb hts i_5 tyX5 tyX5_ok nmX5 hown hK hP hD hS 0 rfl rfl 14 (by decide) k_0 (fun _ h9 => h9) rfl (by decide +kernel) rfl rfl (Nat.le_of_ble_eq_true rfl) dX5_nodes_17 (fun H locs hP hD hS => ?_)
  have hP : va_P (dC, dI) vwCl [(h, .inr (5, [.int 1, .ref aweight, .ref aown, .int 0, .ref abetween, .ref acommunity, .ref afresh, .int 0, .ref atold, .ref areached, .ref aplaced, .int 0, .ref amoved, .ref agained, .int 0, .ref adegrees, .long 0])), (aweight, .inl (cI, 1600, .inl Zi)), (aown, .inl (cI, 40, .inl (upd Zi 0 0)))] H := hP
  have hD : va_D A [(h, .inr (5, [.int 1, .ref aweight, .ref aown, .int 0, .ref abetween, .ref acommunity, .ref afresh, .int 0, .ref atold, .ref areached, .ref aplaced, .int 0, .ref amoved, .ref agained, .int 0, .ref adegrees, .long 0])), (aweight, .inl (cI, 1600, .inl Zi)), (aown, .inl (cI, 40, .inl (upd Zi 0 0)))] := hD
  refine lv_aload_n hx hb dX5_nodes_20 rfl (lv_at hl 0 rfl) ?_
  refine va_get (D := (dC, dI)) (ci := 5) (v := .int 0) (C := RX5) (T := TX5) (N := 17) hx hb hts i_5 hown hK hP 0 rfl rfl 14 (by decide) k_0 (fun _ h9 => h9) rfl dX5_nodes_21 ?_
  refine lv_if_ne (tgt := 81) hx hb dX5_nodes_24 (by decide) (fun c_3 => ?_) (fun c_3 => ?_)
  · exact absurd c_3 (by decide)
  refine lv_aload_n hx hb dX5_nodes_27 rfl (lv_at hl 0 rfl) ?_
  refine lv_iload_n hx hb dX5_nodes_28 rfl (lv_at hl 1 rfl) ?_
  refine va_put (D := (dC, dI)) (ci := 5) (v := .int (nI k)) (ty := .int) (C := RX5) (T := TX5) (N := 17) hx hb hts i_5 tyX5 tyX5_ok nmX5 hown hK hP hD hS 0 rfl rfl 0 (by decide) k_1 (fun _ h9 => h9) rfl (by decide +kernel) rfl rfl (Nat.le_of_ble_eq_true rfl) dX5_nodes_29 (fun H locs hP hD hS => ?_)
  have hP : va_P (dC, dI) vwCl [(h, .inr (5, [.int (nI k), .ref aweight, .ref aown, .int 0, .ref abetween, .ref acommunity, .ref afresh, .int 0, .ref atold, .ref areached, .ref aplaced, .int 0, .ref amoved, .ref agained, .int 0, .ref adegrees, .long 0])), (aweight, .inl (cI, 1600, .inl Zi)), (aown, .inl (cI, 40, .inl (upd Zi 0 0)))] H := hP
  have hD : va_D A [(h, .inr (5, [.int (nI k), .ref aweight, .ref aown, .int 0, .ref abetween, .ref acommunity, .ref afresh, .int 0, .ref atold, .ref areached, .ref aplaced, .int 0, .ref amoved, .ref agained, .int 0, .ref adegrees, .long 0])), (aweight, .inl (cI, 1600, .inl Zi)), (aown, .inl (cI, 40, .inl (upd Zi 0 0)))] := hD
  refine lv_iconst (v := 0) hx hb dX5_nodes_32 (by decide) ?_
  refine lv_istore_n (lv' := [(2, .int 0), (0, .ref h), (1, .int (nI k))]) hx hb dX5_nodes_33 rfl hl (by decide) rfl (fun ls hl => ?_)
  refine lq_loop (α := Nat → Int32) (nL := 3) (fun f9 => [(h, .inr (5, [.int (nI k), .ref aweight, .ref aown, .int 0, .ref abetween, .ref acommunity, .ref afresh, .int 0, .ref atold, .ref areached, .ref aplaced, .int 0, .ref amoved, .ref agained, .int 0, .ref adegrees, .long 0])), (aweight, .inl (cI, 1600, .inl f9)), (aown, .inl (cI, 40, .inl (upd Zi 0 0)))]) (fun i f9 => [(2, .int (nI i)), (0, .ref h), (1, .int (nI k))]) (fun i f9 => True) 1600 Zi 0 trivial (Nat.zero_le _) hP hD hS (lv_sub hl [0, 1, 2] rfl) (fun f9 H locs ls hI hP hD hS hl => ?_) (fun i f9 H locs ls hlt hI hP hD hS hl ih => ?_)
  · skip
    have hP : va_P (dC, dI) vwCl [(h, .inr (5, [.int (nI k), .ref aweight, .ref aown, .int 0, .ref abetween, .ref acommunity, .ref afresh, .int 0, .ref atold, .ref areached, .ref aplaced, .int 0, .ref amoved, .ref agained, .int 0, .ref adegrees, .long 0])), (aweight, .inl (cI, 1600, .inl f9)), (aown, .inl (cI, 40, .inl (upd Zi 0 0)))] H := hP
    have hD : va_D A [(h, .inr (5, [.int (nI k), .ref aweight, .ref aown, .int 0, .ref abetween, .ref acommunity, .ref afresh, .int 0, .ref atold, .ref areached, .ref aplaced, .int 0, .ref amoved, .ref agained, .int 0, .ref adegrees, .long 0])), (aweight, .inl (cI, 1600, .inl f9)), (aown, .inl (cI, 40, .inl (upd Zi 0 0)))] := hD
    have hl : lv_has ls 3 [(2, .int (nI 1600)), (0, .ref h), (1, .int (nI k))] := hl
    have hI : True := hI
    refine lv_iload_n hx hb dX5_nodes_34 rfl (lv_at hl 0 rfl) ?_
    refine lv_sipush (v := 1600) hx hb dX5_nodes_35 (by decide) ?_
    refine lv_icmp_ge (tgt := 54) hx hb dX5_nodes_38 (by decide) (fun c_4 => ?_) (fun c_4 => ?_)
    rotate_left
    · exact absurd (nI_le (a := 1600) (b := 1600) (Nat.le_refl _) (by decide)) c_4
    refine lv_iconst (v := 0) hx hb dX5_nodes_54 (by decide) ?_
    refine lv_istore_n (lv' := [(2, .int 0), (0, .ref h), (1, .int (nI k))]) hx hb dX5_nodes_55 rfl hl (by decide) rfl (fun ls hl => ?_)
    refine lq_loop (α := Nat → Int32) (nL := 3) (fun f8 => [(h, .inr (5, [.int (nI k), .ref aweight, .ref aown, .int 0, .ref abetween, .ref acommunity, .ref afresh, .int 0, .ref atold, .ref areached, .ref aplaced, .int 0, .ref amoved, .ref agained, .int 0, .ref adegrees, .long 0])), (aweight, .inl (cI, 1600, .inl f9)), (aown, .inl (cI, 40, .inl f8))]) (fun j f8 => [(2, .int (nI j)), (0, .ref h), (1, .int (nI k))]) (fun j f8 => True) k (upd Zi 0 0) 0 trivial (Nat.zero_le _) hP hD hS (lv_sub hl [0, 1, 2] rfl) (fun f8 H locs ls hI hP hD hS hl => ?_) (fun j f8 H locs ls hlt hI hP hD hS hl ih => ?_)
    · skip
      have hP : va_P (dC, dI) vwCl [(h, .inr (5, [.int (nI k), .ref aweight, .ref aown, .int 0, .ref abetween, .ref acommunity, .ref afresh, .int 0, .ref atold, .ref areached, .ref aplaced, .int 0, .ref amoved, .ref agained, .int 0, .ref adegrees, .long 0])), (aweight, .inl (cI, 1600, .inl f9)), (aown, .inl (cI, 40, .inl f8))] H := hP
      have hD : va_D A [(h, .inr (5, [.int (nI k), .ref aweight, .ref aown, .int 0, .ref abetween, .ref acommunity, .ref afresh, .int 0, .ref atold, .ref areached, .ref aplaced, .int 0, .ref amoved, .ref agained, .int 0, .ref adegrees, .long 0])), (aweight, .inl (cI, 1600, .inl f9)), (aown, .inl (cI, 40, .inl f8))] := hD
      have hl : lv_has ls 3 [(2, .int (nI k)), (0, .ref h), (1, .int (nI k))] := hl
      have hI : True := hI
      refine lv_iload_n hx hb dX5_nodes_56 rfl (lv_at hl 0 rfl) ?_
      refine lv_aload_n hx hb dX5_nodes_57 rfl (lv_at hl 1 rfl) ?_
      refine va_get (D := (dC, dI)) (ci := 5) (v := .int (nI k)) (C := RX5) (T := TX5) (N := 17) hx hb hts i_5 hown hK hP 0 rfl rfl 0 (by decide) k_1 (fun _ h9 => h9) rfl dX5_nodes_58 ?_
      refine lv_icmp_ge (tgt := 77) hx hb dX5_nodes_61 (by decide) (fun c_5 => ?_) (fun c_5 => ?_)
      rotate_left
      · exact absurd (nI_le (a := k) (b := k) (Nat.le_refl _) (by omega)) c_5
      refine lv_aload_n hx hb dX5_nodes_77 rfl (lv_at hl 1 rfl) ?_
      have hPc := hP.sub (ws' := [(h, .inr (5, [.int (nI k), .ref aweight, .ref aown, .int 0, .ref abetween, .ref acommunity, .ref afresh, .int 0, .ref atold, .ref areached, .ref aplaced, .int 0, .ref amoved, .ref agained, .int 0, .ref adegrees, .long 0]))]) [0] rfl
      have hDc := hD.sub (ws' := [(h, .inr (5, [.int (nI k), .ref aweight, .ref aown, .int 0, .ref abetween, .ref acommunity, .ref afresh, .int 0, .ref atold, .ref areached, .ref aplaced, .int 0, .ref amoved, .ref agained, .int 0, .ref adegrees, .long 0]))]) [0] (by decide) rfl
      have hFc := va_free (wc := [(h, .inr (5, [.int (nI k), .ref aweight, .ref aown, .int 0, .ref abetween, .ref acommunity, .ref afresh, .int 0, .ref atold, .ref areached, .ref aplaced, .int 0, .ref amoved, .ref agained, .int 0, .ref adegrees, .long 0]))]) hD hS hA [0] rfl
      refine va_callv (va_runV (As := []) (rest := []) ⟨hx, hb, hml, hown, hts⟩ (c_X5_forget l dC dI cI cJ h aweight aown abetween acommunity afresh atold areached aplaced amoved agained adegrees H.size (nI k) 0) (cwV 0 hts gX5_nodes_X5_forget rfl rfl rfl (by decide +kernel) ⟨Nat.le_of_ble_eq_true rfl, Nat.le_of_ble_eq_true rfl⟩) ⟨fun a U g mk q => by obtain ⟨q0, q1, qP, qK, qD⟩ := q; exact ⟨q0, q1, qP, va_K.moved (u := U) (U := U.calling g mk a) (Vm.Alike.refl U.vm) qK, qD⟩, va_recv hK hPc (ci := 5) (q0 := 0) rfl rfl, fun U hU hW => ⟨rfl, by rw [hU], by rw [hU]; exact hPc, va_K.moved hW.alike hK, hDc.weaken (fun _ _ _ _ => trivial)⟩⟩ rfl rfl hl.1 rfl (lv_room (Nat.le_of_ble_eq_true rfl)) dX5_nodes_78 ⟨Nat.le_of_ble_eq_true rfl, Nat.le_of_ble_eq_true rfl⟩) hS (fun q _ h => hFc q h) hFc (fun u_7 t H1 locs ht hvm hw hB hz1 hk1 hS => ?_)
      obtain ⟨hP1, hD1⟩ := hB
      rw [ht] at hP1
      obtain ⟨hP, hD⟩ := va_join (wr := [(aweight, .inl (cI, 1600, .inl f9)), (aown, .inl (cI, 40, .inl f8))]) (w1 := [(h, .inr (5, [.int (nI k), .ref aweight, .ref aown, .int 0, .ref abetween, .ref acommunity, .ref afresh, .int 0, .ref atold, .ref areached, .ref aplaced, .int 0, .ref amoved, .ref agained, .int 0, .ref adegrees, .long 0]))]) hP hD [0] [1, 2] rfl rfl (by decide) (by decide) hk1 hFc hP1 hD1
      generalize H1 = H at hP hS ⊢
      have hP : va_P (dC, dI) vwCl [(aweight, .inl (cI, 1600, .inl f9)), (aown, .inl (cI, 40, .inl f8)), (h, .inr (5, [.int (nI k), .ref aweight, .ref aown, .int 0, .ref abetween, .ref acommunity, .ref afresh, .int 0, .ref atold, .ref areached, .ref aplaced, .int 0, .ref amoved, .ref agained, .int 0, .ref adegrees, .long 0]))] H := hP
      have hD : va_D A [(aweight, .inl (cI, 1600, .inl f9)), (aown, .inl (cI, 40, .inl f8)), (h, .inr (5, [.int (nI k), .ref aweight, .ref aown, .int 0, .ref abetween, .ref acommunity, .ref afresh, .int 0, .ref atold, .ref areached, .ref aplaced, .int 0, .ref amoved, .ref agained, .int 0, .ref adegrees, .long 0]))] := hD
      have hP9 := hP.sub (ws' := [(h, .inr (5, [.int (nI k), .ref aweight, .ref aown, .int 0, .ref abetween, .ref acommunity, .ref afresh, .int 0, .ref atold, .ref areached, .ref aplaced, .int 0, .ref amoved, .ref agained, .int 0, .ref adegrees, .long 0]))]) [2] rfl
      have hD9 := hD.sub (ws' := [(h, .inr (5, [.int (nI k), .ref aweight, .ref aown, .int 0, .ref abetween, .ref acommunity, .ref afresh, .int 0, .ref atold, .ref areached, .ref aplaced, .int 0, .ref amoved, .ref agained, .int 0, .ref adegrees, .long 0]))]) [2] (by decide) rfl
      exact W.vret hx hb hr (fun t ht hW => ⟨⟨(), rfl, trivial, by rw [ht]; exact hP9, hD9⟩, hS.F ht⟩) hS.2.2 dX5_nodes_81
    · skip
      have hP : va_P (dC, dI) vwCl [(h, .inr (5, [.int (nI k), .ref aweight, .ref aown, .int 0, .ref abetween, .ref acommunity, .ref afresh, .int 0, .ref atold, .ref areached, .ref aplaced, .int 0, .ref amoved, .ref agained, .int 0, .ref adegrees, .long 0])), (aweight, .inl (cI, 1600, .inl f9)), (aown, .inl (cI, 40, .inl f8))] H := hP
      have hD : va_D A [(h, .inr (5, [.int (nI k), .ref aweight, .ref aown, .int 0, .ref abetween, .ref acommunity, .ref afresh, .int 0, .ref atold, .ref areached, .ref aplaced, .int 0, .ref amoved, .ref agained, .int 0, .ref adegrees, .long 0])), (aweight, .inl (cI, 1600, .inl f9)), (aown, .inl (cI, 40, .inl f8))] := hD
      have hl : lv_has ls 3 [(2, .int (nI j)), (0, .ref h), (1, .int (nI k))] := hl
      have hI : True := hI
      refine lv_iload_n hx hb dX5_nodes_56 rfl (lv_at hl 0 rfl) ?_
      refine lv_aload_n hx hb dX5_nodes_57 rfl (lv_at hl 1 rfl) ?_
      refine va_get (D := (dC, dI)) (ci := 5) (v := .int (nI k)) (C := RX5) (T := TX5) (N := 17) hx hb hts i_5 hown hK hP 0 rfl rfl 0 (by decide) k_1 (fun _ h9 => h9) rfl dX5_nodes_58 ?_
      refine lv_icmp_ge (tgt := 77) hx hb dX5_nodes_61 (by decide) (fun c_8 => ?_) (fun c_8 => ?_)
      · exact absurd c_8 (nI_ge (b := k) hlt (by omega))
      refine lv_aload_n hx hb dX5_nodes_64 rfl (lv_at hl 1 rfl) ?_
      refine va_get (D := (dC, dI)) (ci := 5) (v := .ref aown) (C := RX5) (T := TX5) (N := 17) hx hb hts i_5 hown hK hP 0 rfl rfl 2 (by decide) k_2 (fun _ h9 => h9) rfl dX5_nodes_65 ?_
      refine lv_iload_n hx hb dX5_nodes_68 rfl (lv_at hl 0 rfl) ?_
      refine lv_iload_n hx hb dX5_nodes_69 rfl (lv_at hl 0 rfl) ?_
      refine va_iast hx hb hK hP hD hS 2 0 rfl rfl (vp_in_nI (show j < 40 from by omega) (by omega)) dX5_nodes_70 (fun H locs hP hD hS => ?_)
      rw [nI_clamp (show j < 2 ^ 31 from by omega)] at hP hD
      have hP : va_P (dC, dI) vwCl [(h, .inr (5, [.int (nI k), .ref aweight, .ref aown, .int 0, .ref abetween, .ref acommunity, .ref afresh, .int 0, .ref atold, .ref areached, .ref aplaced, .int 0, .ref amoved, .ref agained, .int 0, .ref adegrees, .long 0])), (aweight, .inl (cI, 1600, .inl f9)), (aown, .inl (cI, 40, .inl (upd f8 j (nI j))))] H := hP
      have hD : va_D A [(h, .inr (5, [.int (nI k), .ref aweight, .ref aown, .int 0, .ref abetween, .ref acommunity, .ref afresh, .int 0, .ref atold, .ref areached, .ref aplaced, .int 0, .ref amoved, .ref agained, .int 0, .ref adegrees, .long 0])), (aweight, .inl (cI, 1600, .inl f9)), (aown, .inl (cI, 40, .inl (upd f8 j (nI j))))] := hD
      refine lv_iinc (v := nI (j + 1)) (lv' := [(2, .int (nI (j + 1))), (0, .ref h), (1, .int (nI k))]) hx hb dX5_nodes_71 hl (k := 0) rfl (nI_1 _) (by decide) rfl (fun ls hl => ?_)
      refine lv_goto (tgt := 56) hx hb dX5_nodes_74 (by decide) ?_
      exact ih _ H locs ls trivial hP hD hS (lv_sub hl [0, 1, 2] rfl)
  · skip
    have hP : va_P (dC, dI) vwCl [(h, .inr (5, [.int (nI k), .ref aweight, .ref aown, .int 0, .ref abetween, .ref acommunity, .ref afresh, .int 0, .ref atold, .ref areached, .ref aplaced, .int 0, .ref amoved, .ref agained, .int 0, .ref adegrees, .long 0])), (aweight, .inl (cI, 1600, .inl f9)), (aown, .inl (cI, 40, .inl (upd Zi 0 0)))] H := hP
    have hD : va_D A [(h, .inr (5, [.int (nI k), .ref aweight, .ref aown, .int 0, .ref abetween, .ref acommunity, .ref afresh, .int 0, .ref atold, .ref areached, .ref aplaced, .int 0, .ref amoved, .ref agained, .int 0, .ref adegrees, .long 0])), (aweight, .inl (cI, 1600, .inl f9)), (aown, .inl (cI, 40, .inl (upd Zi 0 0)))] := hD
    have hl : lv_has ls 3 [(2, .int (nI i)), (0, .ref h), (1, .int (nI k))] := hl
    have hI : True := hI
    refine lv_iload_n hx hb dX5_nodes_34 rfl (lv_at hl 0 rfl) ?_
    refine lv_sipush (v := 1600) hx hb dX5_nodes_35 (by decide) ?_
    refine lv_icmp_ge (tgt := 54) hx hb dX5_nodes_38 (by decide) (fun c_9 => ?_) (fun c_9 => ?_)
    · exact absurd c_9 (nI_ge (b := 1600) hlt (by decide))
    refine lv_aload_n hx hb dX5_nodes_41 rfl (lv_at hl 1 rfl) ?_
    refine va_get (D := (dC, dI)) (ci := 5) (v := .ref aweight) (C := RX5) (T := TX5) (N := 17) hx hb hts i_5 hown hK hP 0 rfl rfl 1 (by decide) k_3 (fun _ h9 => h9) rfl dX5_nodes_42 ?_
    refine lv_iload_n hx hb dX5_nodes_45 rfl (lv_at hl 0 rfl) ?_
    refine lv_iconst (v := 0) hx hb dX5_nodes_46 (by decide) ?_
    refine va_iast hx hb hK hP hD hS 1 0 rfl rfl (vp_in_nI (show i < 1600 from by omega) (by omega)) dX5_nodes_47 (fun H locs hP hD hS => ?_)
    rw [nI_clamp (show i < 2 ^ 31 from by omega)] at hP hD
    have hP : va_P (dC, dI) vwCl [(h, .inr (5, [.int (nI k), .ref aweight, .ref aown, .int 0, .ref abetween, .ref acommunity, .ref afresh, .int 0, .ref atold, .ref areached, .ref aplaced, .int 0, .ref amoved, .ref agained, .int 0, .ref adegrees, .long 0])), (aweight, .inl (cI, 1600, .inl (upd f9 i 0))), (aown, .inl (cI, 40, .inl (upd Zi 0 0)))] H := hP
    have hD : va_D A [(h, .inr (5, [.int (nI k), .ref aweight, .ref aown, .int 0, .ref abetween, .ref acommunity, .ref afresh, .int 0, .ref atold, .ref areached, .ref aplaced, .int 0, .ref amoved, .ref agained, .int 0, .ref adegrees, .long 0])), (aweight, .inl (cI, 1600, .inl (upd f9 i 0))), (aown, .inl (cI, 40, .inl (upd Zi 0 0)))] := hD
    refine lv_iinc (v := nI (i + 1)) (lv' := [(2, .int (nI (i + 1))), (0, .ref h), (1, .int (nI k))]) hx hb dX5_nodes_48 hl (k := 0) rfl (nI_1 _) (by decide) rfl (fun ls hl => ?_)
    refine lv_goto (tgt := 34) hx hb dX5_nodes_51 (by decide) ?_
    exact ih _ H locs ls trivial hP hD hS (lv_sub hl [0, 1, 2] rfl)
set_option maxHeartbeats 4000000 in
set_option maxRecDepth 100000 in
theorem c_X5_nodes_bad (l : Launch) (dC : Nat → ClassId) (dI : Nat → Nat → Nat) (cI cJ : ClassId) (h aweight aown abetween acommunity afresh atold areached aplaced amoved agained adegrees : Nat) (sz : Nat) (n : Int32) (hn : n < 1 ∨ 40 < n) : Met l yX5_nodes wsX5_nodes ({ frames := 0, cells := 0, slots := 0, locals := 0 }) (va_Pc [.ref h, .int n] (pPre dC dI cI cJ sz [(h, .inr (5, [.int 1, .ref aweight, .ref aown, .int 0, .ref abetween, .ref acommunity, .ref afresh, .int 0, .ref atold, .ref areached, .ref aplaced, .int 0, .ref amoved, .ref agained, .int 0, .ref adegrees, .long 0]))])) (va_Qv (fun _ : Unit => True) (pPost dC dI (va_A [(h, .inr (5, [.int 1, .ref aweight, .ref aown, .int 0, .ref abetween, .ref acommunity, .ref afresh, .int 0, .ref atold, .ref areached, .ref aplaced, .int 0, .ref amoved, .ref agained, .int 0, .ref adegrees, .long 0]))] sz) [(h, .inr (5, [.int 1, .ref aweight, .ref aown, .int 0, .ref abetween, .ref acommunity, .ref afresh, .int 0, .ref atold, .ref areached, .ref aplaced, .int 0, .ref amoved, .ref agained, .int 1, .ref adegrees, .long 0]))]) (va_A [(h, .inr (5, [.int 1, .ref aweight, .ref aown, .int 0, .ref abetween, .ref acommunity, .ref afresh, .int 0, .ref atold, .ref areached, .ref aplaced, .int 0, .ref amoved, .ref agained, .int 0, .ref adegrees, .long 0]))] sz)) 0 0 (va_A [(h, .inr (5, [.int 1, .ref aweight, .ref aown, .int 0, .ref abetween, .ref acommunity, .ref afresh, .int 0, .ref atold, .ref areached, .ref aplaced, .int 0, .ref amoved, .ref agained, .int 0, .ref adegrees, .long 0]))] sz) := by
  refine Met.ofW (cc := cX5_nodes) (maxL := 3) (ret := none) (by decide) rfl ?_
  intro p e s m args below meth c s₁ B hml hv
  obtain ⟨rfl, hsz, hP, hK, hD0⟩ := hv
  have hx := B.exec
  have hb := B.bytes
  have hr := B.returns
  have hts := atoms_spec (ws := wsX5_nodes) B.pre
  have hown : s.vm.findClass RX5 = some m.cls := findClass_of_methodNamed B.named
  have hlocks := B.notSynchronized
  subst hsz
  have hD := hD0.self (sz := s.heap.size)
  generalize hAe : va_A [(h, .inr (5, [.int 1, .ref aweight, .ref aown, .int 0, .ref abetween, .ref acommunity, .ref afresh, .int 0, .ref atold, .ref areached, .ref aplaced, .int 0, .ref amoved, .ref agained, .int 0, .ref adegrees, .long 0]))] s.heap.size = A at hD ⊢
  have hA : ∀ q : Nat, s.heap.size ≤ q → A q := fun q h => by rw [← hAe]; exact Or.inr h
  have hS : va_S A s.heap s.heap [] := va_S.rf
  have hP : va_P (dC, dI) vwCl [(h, .inr (5, [.int 1, .ref aweight, .ref aown, .int 0, .ref abetween, .ref acommunity, .ref afresh, .int 0, .ref atold, .ref areached, .ref aplaced, .int 0, .ref amoved, .ref agained, .int 0, .ref adegrees, .long 0]))] s.heap := hP
  have hl := lv_entry ([.ref h, .int n]) (n := 3) (Nat.le_of_ble_eq_true rfl)
  rw [lg_entry_eq]
  generalize (lg_sl ([.ref h, .int n]) ++ List.replicate (3 - (lg_sl ([.ref h, .int n])).length) Slot.unset).toArray = ls at hl ⊢
  have hl : lv_has ls 3 [(0, .ref h), (1, .int n)] := hl
  have i_5 : ∀ w ∈ wsX50, w ∈ wsX5_nodes := by decide +kernel
  have k_0 := hts (.fieldLink RX5 48 "CommunityLevelsModel" "thrown" "I") (by decide +kernel)
  refine lv_aload_n hx hb dX5_nodes_0 rfl (lv_at hl 0 rfl) ?_
  refine lv_iload_n hx hb dX5_nodes_1 rfl (lv_at hl 1 rfl) ?_
  refine lv_iconst (v := 1) hx hb dX5_nodes_2 (by decide) ?_
  refine lv_icmp_lt (tgt := 12) hx hb dX5_nodes_3 (by decide) (fun c_1 => ?_) (fun c_1 => ?_)
  · skip
    refine lv_iconst (v := 1) hx hb dX5_nodes_12 (by decide) ?_
    refine lv_goto (tgt := 17) hx hb dX5_nodes_13 (by decide) ?_
    refine va_put (D := (dC, dI)) (ci := 5) (v := .int 1) (ty := .int) (C := RX5) (T := TX5) (N := 17) hx hb hts i_5 tyX5 tyX5_ok nmX5 hown hK hP hD hS 0 rfl rfl 14 (by decide) k_0 (fun _ h9 => h9) rfl (by decide +kernel) rfl rfl (Nat.le_of_ble_eq_true rfl) dX5_nodes_17 (fun H locs hP hD hS => ?_)
    have hP : va_P (dC, dI) vwCl [(h, .inr (5, [.int 1, .ref aweight, .ref aown, .int 0, .ref abetween, .ref acommunity, .ref afresh, .int 0, .ref atold, .ref areached, .ref aplaced, .int 0, .ref amoved, .ref agained, .int 1, .ref adegrees, .long 0]))] H := hP
    have hD : va_D A [(h, .inr (5, [.int 1, .ref aweight, .ref aown, .int 0, .ref abetween, .ref acommunity, .ref afresh, .int 0, .ref atold, .ref areached, .ref aplaced, .int 0, .ref amoved, .ref agained, .int 1, .ref adegrees, .long 0]))] := hD
    refine lv_aload_n hx hb dX5_nodes_20 rfl (lv_at hl 0 rfl) ?_
    refine va_get (D := (dC, dI)) (ci := 5) (v := .int 1) (C := RX5) (T := TX5) (N := 17) hx hb hts i_5 hown hK hP 0 rfl rfl 14 (by decide) k_0 (fun _ h9 => h9) rfl dX5_nodes_21 ?_
    refine lv_if_ne (tgt := 81) hx hb dX5_nodes_24 (by decide) (fun c_2 => ?_) (fun c_2 => ?_)
    rotate_left
    · exact absurd c_2 (by decide)
    have hP9 := hP.sub (ws' := [(h, .inr (5, [.int 1, .ref aweight, .ref aown, .int 0, .ref abetween, .ref acommunity, .ref afresh, .int 0, .ref atold, .ref areached, .ref aplaced, .int 0, .ref amoved, .ref agained, .int 1, .ref adegrees, .long 0]))]) [0] rfl
    have hD9 := hD.sub (ws' := [(h, .inr (5, [.int 1, .ref aweight, .ref aown, .int 0, .ref abetween, .ref acommunity, .ref afresh, .int 0, .ref atold, .ref areached, .ref aplaced, .int 0, .ref amoved, .ref agained, .int 1, .ref adegrees, .long 0]))]) [0] (by decide) rfl
    exact W.vret hx hb hr (fun t ht hW => ⟨⟨(), rfl, trivial, by rw [ht]; exact hP9, hD9⟩, hS.F ht⟩) hS.2.2 dX5_nodes_81
  · skip
    refine lv_iload_n hx hb dX5_nodes_6 rfl (lv_at hl 1 rfl) ?_
    refine lv_bipush (v := 40) hx hb dX5_nodes_7 (by decide) ?_
    refine lv_icmp_le (tgt := 16) hx hb dX5_nodes_9 (by decide) (fun c_3 => ?_) (fun c_3 => ?_)
    · exact absurd c_3 (Int32.not_le.mpr (hn.resolve_left c_1))
    refine lv_iconst (v := 1) hx hb dX5_nodes_12 (by decide) ?_
    refine lv_goto (tgt := 17) hx hb dX5_nodes_13 (by decide) ?_
    refine va_put (D := (dC, dI)) (ci := 5) (v := .int 1) (ty := .int) (C := RX5) (T := TX5) (N := 17) hx hb hts i_5 tyX5 tyX5_ok nmX5 hown hK hP hD hS 0 rfl rfl 14 (by decide) k_0 (fun _ h9 => h9) rfl (by decide +kernel) rfl rfl (Nat.le_of_ble_eq_true rfl) dX5_nodes_17 (fun H locs hP hD hS => ?_)
    have hP : va_P (dC, dI) vwCl [(h, .inr (5, [.int 1, .ref aweight, .ref aown, .int 0, .ref abetween, .ref acommunity, .ref afresh, .int 0, .ref atold, .ref areached, .ref aplaced, .int 0, .ref amoved, .ref agained, .int 1, .ref adegrees, .long 0]))] H := hP
    have hD : va_D A [(h, .inr (5, [.int 1, .ref aweight, .ref aown, .int 0, .ref abetween, .ref acommunity, .ref afresh, .int 0, .ref atold, .ref areached, .ref aplaced, .int 0, .ref amoved, .ref agained, .int 1, .ref adegrees, .long 0]))] := hD
    refine lv_aload_n hx hb dX5_nodes_20 rfl (lv_at hl 0 rfl) ?_
    refine va_get (D := (dC, dI)) (ci := 5) (v := .int 1) (C := RX5) (T := TX5) (N := 17) hx hb hts i_5 hown hK hP 0 rfl rfl 14 (by decide) k_0 (fun _ h9 => h9) rfl dX5_nodes_21 ?_
    refine lv_if_ne (tgt := 81) hx hb dX5_nodes_24 (by decide) (fun c_4 => ?_) (fun c_4 => ?_)
    rotate_left
    · exact absurd c_4 (by decide)
    have hP9 := hP.sub (ws' := [(h, .inr (5, [.int 1, .ref aweight, .ref aown, .int 0, .ref abetween, .ref acommunity, .ref afresh, .int 0, .ref atold, .ref areached, .ref aplaced, .int 0, .ref amoved, .ref agained, .int 1, .ref adegrees, .long 0]))]) [0] rfl
    have hD9 := hD.sub (ws' := [(h, .inr (5, [.int 1, .ref aweight, .ref aown, .int 0, .ref abetween, .ref acommunity, .ref afresh, .int 0, .ref atold, .ref areached, .ref aplaced, .int 0, .ref amoved, .ref agained, .int 1, .ref adegrees, .long 0]))]) [0] (by decide) rfl
    exact W.vret hx hb hr (fun t ht hW => ⟨⟨(), rfl, trivial, by rw [ht]; exact hP9, hD9⟩, hS.F ht⟩) hS.2.2 dX5_nodes_81
set_option maxHeartbeats 4000000 in
set_option maxRecDepth 100000 in
theorem c_X5_all (l : Launch) (dC : Nat → ClassId) (dI : Nat → Nat → Nat) (cI cJ : ClassId) (h aweight aown abetween acommunity afresh atold areached aplaced amoved agained adegrees : Nat) (sz : Nat) : Met l yX5_all wsX5_all ({ frames := 0, cells := 0, slots := 0, locals := 0 }) (va_Pc [.ref h] (pPre dC dI cI cJ sz [(h, .inr (5, [.int 1, .ref aweight, .ref aown, .int 0, .ref abetween, .ref acommunity, .ref afresh, .int 0, .ref atold, .ref areached, .ref aplaced, .int 0, .ref amoved, .ref agained, .int 0, .ref adegrees, .long 0])), (aweight, .inl (cI, 1600, .inl Zi))])) (va_Ql (fun (r : Int64) (_ : Unit) => r = 0) (pPost dC dI (va_A [(h, .inr (5, [.int 1, .ref aweight, .ref aown, .int 0, .ref abetween, .ref acommunity, .ref afresh, .int 0, .ref atold, .ref areached, .ref aplaced, .int 0, .ref amoved, .ref agained, .int 0, .ref adegrees, .long 0])), (aweight, .inl (cI, 1600, .inl Zi))] sz) [(h, .inr (5, [.int 1, .ref aweight, .ref aown, .int 0, .ref abetween, .ref acommunity, .ref afresh, .int 0, .ref atold, .ref areached, .ref aplaced, .int 0, .ref amoved, .ref agained, .int 0, .ref adegrees, .long 0])), (aweight, .inl (cI, 1600, .inl Zi))]) (va_A [(h, .inr (5, [.int 1, .ref aweight, .ref aown, .int 0, .ref abetween, .ref acommunity, .ref afresh, .int 0, .ref atold, .ref areached, .ref aplaced, .int 0, .ref amoved, .ref agained, .int 0, .ref adegrees, .long 0])), (aweight, .inl (cI, 1600, .inl Zi))] sz)) 0 0 (va_A [(h, .inr (5, [.int 1, .ref aweight, .ref aown, .int 0, .ref abetween, .ref acommunity, .ref afresh, .int 0, .ref atold, .ref areached, .ref aplaced, .int 0, .ref amoved, .ref agained, .int 0, .ref adegrees, .long 0])), (aweight, .inl (cI, 1600, .inl Zi))] sz) := by
  refine Met.ofW (cc := cX5_all) (maxL := 5) (ret := (some .long)) (by decide) rfl ?_
  intro p e s m args below meth c s₁ B hml hv
  obtain ⟨rfl, hsz, hP, hK, hD0⟩ := hv
  have hx := B.exec
  have hb := B.bytes
  have hr := B.returns
  have hts := atoms_spec (ws := wsX5_all) B.pre
  have hown : s.vm.findClass RX5 = some m.cls := findClass_of_methodNamed B.named
  have hlocks := B.notSynchronized
  subst hsz
  have hD := hD0.self (sz := s.heap.size)
  generalize hAe : va_A [(h, .inr (5, [.int 1, .ref aweight, .ref aown, .int 0, .ref abetween, .ref acommunity, .ref afresh, .int 0, .ref atold, .ref areached, .ref aplaced, .int 0, .ref amoved, .ref agained, .int 0, .ref adegrees, .long 0])), (aweight, .inl (cI, 1600, .inl Zi))] s.heap.size = A at hD ⊢
  have hA : ∀ q : Nat, s.heap.size ≤ q → A q := fun q h => by rw [← hAe]; exact Or.inr h
  have hS : va_S A s.heap s.heap [] := va_S.rf
  have hP : va_P (dC, dI) vwCl [(h, .inr (5, [.int 1, .ref aweight, .ref aown, .int 0, .ref abetween, .ref acommunity, .ref afresh, .int 0, .ref atold, .ref areached, .ref aplaced, .int 0, .ref amoved, .ref agained, .int 0, .ref adegrees, .long 0])), (aweight, .inl (cI, 1600, .inl Zi))] s.heap := hP
  have hl := lv_entry ([.ref h]) (n := 5) (Nat.le_of_ble_eq_true rfl)
  rw [lg_entry_eq]
  generalize (lg_sl ([.ref h]) ++ List.replicate (5 - (lg_sl ([.ref h])).length) Slot.unset).toArray = ls at hl ⊢
  have hl : lv_has ls 5 [(0, .ref h)] := hl
  have i_5 : ∀ w ∈ wsX50, w ∈ wsX5_all := by decide +kernel
  have k_0 := hts (.fieldLink RX5 7 "CommunityLevelsModel" "n" "I") (by decide +kernel)
  have k_1 := hts (.fieldLink RX5 13 "CommunityLevelsModel" "weight" "[I") (by decide +kernel)
  refine lv_lconst (v := 0) hx hb dX5_all_0 (by decide) ?_
  refine lv_lstore_n (lv' := [(1, .long 0), (0, .ref h)]) hx hb dX5_all_1 rfl hl (by decide) rfl (fun ls hl => ?_)
  refine lv_iconst (v := 0) hx hb dX5_all_2 (by decide) ?_
  refine lv_istore_n (lv' := [(3, .int 0), (1, .long 0), (0, .ref h)]) hx hb dX5_all_3 rfl hl (by decide) rfl (fun ls hl => ?_)
  refine lv_iload_n hx hb dX5_all_4 rfl (lv_at hl 0 rfl) ?_
  refine lv_aload_n hx hb dX5_all_5 rfl (lv_at hl 2 rfl) ?_
  refine va_get (D := (dC, dI)) (ci := 5) (v := .int 1) (C := RX5) (T := TX5) (N := 17) hx hb hts i_5 hown hK hP 0 rfl rfl 0 (by decide) k_0 (fun _ h9 => h9) rfl dX5_all_6 ?_
  refine lv_icmp_ge (tgt := 49) hx hb dX5_all_9 (by decide) (fun c_1 => ?_) (fun c_1 => ?_)
  · exact absurd c_1 (by decide)
  refine lv_iconst (v := 0) hx hb dX5_all_12 (by decide) ?_
  refine lv_istore (lv' := [(4, .int 0), (3, .int 0), (1, .long 0), (0, .ref h)]) hx hb dX5_all_13 hl (by decide) rfl (fun ls hl => ?_)
  refine lv_iload hx hb dX5_all_15 (lv_at hl 0 rfl) ?_
  refine lv_iload_n hx hb dX5_all_17 rfl (lv_at hl 1 rfl) ?_
  refine lv_icmp_gt (tgt := 43) hx hb dX5_all_18 (by decide) (fun c_2 => ?_) (fun c_2 => ?_)
  · exact absurd c_2 (by decide)
  refine lv_lload_n hx hb dX5_all_21 rfl (lv_at hl 2 rfl) ?_
  refine lv_aload_n hx hb dX5_all_22 rfl (lv_at hl 3 rfl) ?_
  refine va_get (D := (dC, dI)) (ci := 5) (v := .ref aweight) (C := RX5) (T := TX5) (N := 17) hx hb hts i_5 hown hK hP 0 rfl rfl 1 (by decide) k_1 (fun _ h9 => h9) rfl dX5_all_23 ?_
  refine lv_bipush (v := 40) hx hb dX5_all_26 (by decide) ?_
  refine lv_iload_n hx hb dX5_all_28 rfl (lv_at hl 1 rfl) ?_
  refine lv_imul hx hb dX5_all_29 ?_
  refine lc_i (v := 0) (by first | rfl | decide) ?_
  refine lv_iload hx hb dX5_all_30 (lv_at hl 0 rfl) ?_
  refine lv_iadd hx hb dX5_all_32 ?_
  refine lc_i (v := 0) (by first | rfl | decide) ?_
  refine va_iald hx hb hK hP 1 0 rfl rfl (vp_c (by decide)) dX5_all_33 ?_
  refine lc_i (v := 0) (by first | rfl | decide) ?_
  refine lv_i2l (v := 0) hx hb dX5_all_34 (by decide) ?_
  refine lv_ladd hx hb dX5_all_35 ?_
  refine lc_l (v := 0) (by first | rfl | decide) ?_
  refine lv_lstore_n (lv' := [(1, .long 0), (4, .int 0), (3, .int 0), (0, .ref h)]) hx hb dX5_all_36 rfl hl (by decide) rfl (fun ls hl => ?_)
  refine lv_iinc (v := 1) (lv' := [(4, .int 1), (1, .long 0), (3, .int 0), (0, .ref h)]) hx hb dX5_all_37 hl (k := 1) rfl (by decide) (by decide) rfl (fun ls hl => ?_)
  refine lv_goto (tgt := 15) hx hb dX5_all_40 (by decide) ?_
  refine lv_iload hx hb dX5_all_15 (lv_at hl 0 rfl) ?_
  refine lv_iload_n hx hb dX5_all_17 rfl (lv_at hl 2 rfl) ?_
  refine lv_icmp_gt (tgt := 43) hx hb dX5_all_18 (by decide) (fun c_3 => ?_) (fun c_3 => ?_)
  rotate_left
  · exact absurd (by decide) c_3
  refine lv_iinc (v := 1) (lv' := [(3, .int 1), (4, .int 1), (1, .long 0), (0, .ref h)]) hx hb dX5_all_43 hl (k := 2) rfl (by decide) (by decide) rfl (fun ls hl => ?_)
  refine lv_goto (tgt := 4) hx hb dX5_all_46 (by decide) ?_
  refine lv_iload_n hx hb dX5_all_4 rfl (lv_at hl 0 rfl) ?_
  refine lv_aload_n hx hb dX5_all_5 rfl (lv_at hl 3 rfl) ?_
  refine va_get (D := (dC, dI)) (ci := 5) (v := .int 1) (C := RX5) (T := TX5) (N := 17) hx hb hts i_5 hown hK hP 0 rfl rfl 0 (by decide) k_0 (fun _ h9 => h9) rfl dX5_all_6 ?_
  refine lv_icmp_ge (tgt := 49) hx hb dX5_all_9 (by decide) (fun c_4 => ?_) (fun c_4 => ?_)
  rotate_left
  · exact absurd (by decide) c_4
  refine lv_lload_n hx hb dX5_all_49 rfl (lv_at hl 2 rfl) ?_
  have hP9 := hP.sub (ws' := [(h, .inr (5, [.int 1, .ref aweight, .ref aown, .int 0, .ref abetween, .ref acommunity, .ref afresh, .int 0, .ref atold, .ref areached, .ref aplaced, .int 0, .ref amoved, .ref agained, .int 0, .ref adegrees, .long 0])), (aweight, .inl (cI, 1600, .inl Zi))]) [0, 1] rfl
  have hD9 := hD.sub (ws' := [(h, .inr (5, [.int 1, .ref aweight, .ref aown, .int 0, .ref abetween, .ref acommunity, .ref afresh, .int 0, .ref atold, .ref areached, .ref aplaced, .int 0, .ref amoved, .ref agained, .int 0, .ref adegrees, .long 0])), (aweight, .inl (cI, 1600, .inl Zi))]) [0, 1] (by decide) rfl
  exact W.lret (v := 0) hx hb hr (fun t ht hW => ⟨⟨_, (), rfl, rfl, by rw [ht]; exact hP9, hD9⟩, hS.F ht⟩) hS.2.2 dX5_all_50
set_option maxHeartbeats 4000000 in
set_option maxRecDepth 100000 in
theorem c_X5_weigh (l : Launch) (dC : Nat → ClassId) (dI : Nat → Nat → Nat) (cI cJ : ClassId) (h aweight aown abetween acommunity afresh atold areached aplaced amoved agained adegrees : Nat) (sz : Nat) (w9 : Int32) (hw0 : ¬ w9 < 0) (hw1 : lg_cmp (0 + w9.toInt64) 536870912 < 0) : Met l yX5_weigh wsX5_weigh ({ frames := 1, cells := 0, slots := 0, locals := 24 }) (va_Pc [.ref h, .int 0, .int 0, .int w9] (pPre dC dI cI cJ sz [(h, .inr (5, [.int 1, .ref aweight, .ref aown, .int 0, .ref abetween, .ref acommunity, .ref afresh, .int 0, .ref atold, .ref areached, .ref aplaced, .int 0, .ref amoved, .ref agained, .int 0, .ref adegrees, .long 0])), (aweight, .inl (cI, 1600, .inl Zi))])) (va_Qi (fun (r : Int32) (_ : Unit) => r = 0) (pPost dC dI (va_A [(h, .inr (5, [.int 1, .ref aweight, .ref aown, .int 0, .ref abetween, .ref acommunity, .ref afresh, .int 0, .ref atold, .ref areached, .ref aplaced, .int 0, .ref amoved, .ref agained, .int 0, .ref adegrees, .long 0])), (aweight, .inl (cI, 1600, .inl Zi))] sz) [(h, .inr (5, [.int 1, .ref aweight, .ref aown, .int 0, .ref abetween, .ref acommunity, .ref afresh, .int 0, .ref atold, .ref areached, .ref aplaced, .int 0, .ref amoved, .ref agained, .int 0, .ref adegrees, .long 0]))]) (va_A [(h, .inr (5, [.int 1, .ref aweight, .ref aown, .int 0, .ref abetween, .ref acommunity, .ref afresh, .int 0, .ref atold, .ref areached, .ref aplaced, .int 0, .ref amoved, .ref agained, .int 0, .ref adegrees, .long 0])), (aweight, .inl (cI, 1600, .inl Zi))] sz)) 0 0 (va_A [(h, .inr (5, [.int 1, .ref aweight, .ref aown, .int 0, .ref abetween, .ref acommunity, .ref afresh, .int 0, .ref atold, .ref areached, .ref aplaced, .int 0, .ref amoved, .ref agained, .int 0, .ref adegrees, .long 0])), (aweight, .inl (cI, 1600, .inl Zi))] sz) := by
  refine Met.ofW (cc := cX5_weigh) (maxL := 5) (ret := (some .int)) (by decide) rfl ?_
  intro p e s m args below meth c s₁ B hml hv
  obtain ⟨rfl, hsz, hP, hK, hD0⟩ := hv
  have hx := B.exec
  have hb := B.bytes
  have hr := B.returns
  have hts := atoms_spec (ws := wsX5_weigh) B.pre
  have hown : s.vm.findClass RX5 = some m.cls := findClass_of_methodNamed B.named
  have hlocks := B.notSynchronized
  subst hsz
  have hD := hD0.self (sz := s.heap.size)
  generalize hAe : va_A [(h, .inr (5, [.int 1, .ref aweight, .ref aown, .int 0, .ref abetween, .ref acommunity, .ref afresh, .int 0, .ref atold, .ref areached, .ref aplaced, .int 0, .ref amoved, .ref agained, .int 0, .ref adegrees, .long 0])), (aweight, .inl (cI, 1600, .inl Zi))] s.heap.size = A at hD ⊢
  have hA : ∀ q : Nat, s.heap.size ≤ q → A q := fun q h => by rw [← hAe]; exact Or.inr h
  have hS : va_S A s.heap s.heap [] := va_S.rf
  have hP : va_P (dC, dI) vwCl [(h, .inr (5, [.int 1, .ref aweight, .ref aown, .int 0, .ref abetween, .ref acommunity, .ref afresh, .int 0, .ref atold, .ref areached, .ref aplaced, .int 0, .ref amoved, .ref agained, .int 0, .ref adegrees, .long 0])), (aweight, .inl (cI, 1600, .inl Zi))] s.heap := hP
  have hl := lv_entry ([.ref h, .int 0, .int 0, .int w9]) (n := 5) (Nat.le_of_ble_eq_true rfl)
  rw [lg_entry_eq]
  generalize (lg_sl ([.ref h, .int 0, .int 0, .int w9]) ++ List.replicate (5 - (lg_sl ([.ref h, .int 0, .int 0, .int w9])).length) Slot.unset).toArray = ls at hl ⊢
  have hl : lv_has ls 5 [(0, .ref h), (1, .int 0), (2, .int 0), (3, .int w9)] := hl
  have i_5 : ∀ w ∈ wsX50, w ∈ wsX5_weigh := by decide +kernel
  have k_0 := hts (.fieldLink RX5 48 "CommunityLevelsModel" "thrown" "I") (by decide +kernel)
  have k_1 := hts (.fieldLink RX5 13 "CommunityLevelsModel" "weight" "[I") (by decide +kernel)
  have k_2 := hts (.constantLong RX5 68 (536870912)) (by decide +kernel)
  refine lv_aload_n hx hb dX5_weigh_0 rfl (lv_at hl 0 rfl) ?_
  refine lv_aload_n hx hb dX5_weigh_1 rfl (lv_at hl 0 rfl) ?_
  refine lv_iload_n hx hb dX5_weigh_2 rfl (lv_at hl 1 rfl) ?_
  have hPc := hP.sub (ws' := [(h, .inr (5, [.int 1, .ref aweight, .ref aown, .int 0, .ref abetween, .ref acommunity, .ref afresh, .int 0, .ref atold, .ref areached, .ref aplaced, .int 0, .ref amoved, .ref agained, .int 0, .ref adegrees, .long 0]))]) [0] rfl
  have hDc := hD.sub (ws' := [(h, .inr (5, [.int 1, .ref aweight, .ref aown, .int 0, .ref abetween, .ref acommunity, .ref afresh, .int 0, .ref atold, .ref areached, .ref aplaced, .int 0, .ref amoved, .ref agained, .int 0, .ref adegrees, .long 0]))]) [0] (by decide) rfl
  have hFc := va_free (wc := [(h, .inr (5, [.int 1, .ref aweight, .ref aown, .int 0, .ref abetween, .ref acommunity, .ref afresh, .int 0, .ref atold, .ref areached, .ref aplaced, .int 0, .ref amoved, .ref agained, .int 0, .ref adegrees, .long 0]))]) hD hS hA [0] rfl
  refine va_calli (va_runV (As := [.int 0]) (rest := [.ref h]) ⟨hx, hb, hml, hown, hts⟩ (c_X5_noNode l dC dI cI cJ h aweight aown abetween acommunity afresh atold areached aplaced amoved agained adegrees s.heap.size 0) (cwV 1 hts gX5_weigh_X5_noNode rfl rfl rfl (by decide +kernel) ⟨Nat.le_of_ble_eq_true rfl, Nat.le_of_ble_eq_true rfl⟩) ⟨fun a U g mk q => by obtain ⟨q0, q1, qP, qK, qD⟩ := q; exact ⟨q0, q1, qP, va_K.moved (u := U) (U := U.calling g mk a) (Vm.Alike.refl U.vm) qK, qD⟩, va_recv hK hPc (ci := 5) (q0 := 0) rfl rfl, fun U hU hW => ⟨rfl, by rw [hU], by rw [hU]; exact hPc, va_K.moved hW.alike hK, hDc.weaken (fun _ _ _ _ => trivial)⟩⟩ rfl rfl hl.1 rfl (lv_room (Nat.le_of_ble_eq_true rfl)) dX5_weigh_3 ⟨Nat.le_of_ble_eq_true rfl, Nat.le_of_ble_eq_true rfl⟩) hS (fun q _ h => hFc q h) hFc (fun r_1 u_2 t H1 locs ht hvm hw hB hz1 hk1 hS => ?_)
  obtain ⟨hP1, hD1⟩ := hB
  rw [ht] at hP1
  obtain ⟨hP, hD⟩ := va_join (wr := [(aweight, .inl (cI, 1600, .inl Zi))]) (w1 := [(h, .inr (5, [.int 1, .ref aweight, .ref aown, .int 0, .ref abetween, .ref acommunity, .ref afresh, .int 0, .ref atold, .ref areached, .ref aplaced, .int 0, .ref amoved, .ref agained, .int 0, .ref adegrees, .long 0]))]) hP hD [0] [1] rfl rfl (by decide) (by decide) hk1 hFc hP1 hD1
  generalize H1 = H at hP hS ⊢
  have hP : va_P (dC, dI) vwCl [(aweight, .inl (cI, 1600, .inl Zi)), (h, .inr (5, [.int 1, .ref aweight, .ref aown, .int 0, .ref abetween, .ref acommunity, .ref afresh, .int 0, .ref atold, .ref areached, .ref aplaced, .int 0, .ref amoved, .ref agained, .int 0, .ref adegrees, .long 0]))] H := hP
  have hD : va_D A [(aweight, .inl (cI, 1600, .inl Zi)), (h, .inr (5, [.int 1, .ref aweight, .ref aown, .int 0, .ref abetween, .ref acommunity, .ref afresh, .int 0, .ref atold, .ref areached, .ref aplaced, .int 0, .ref amoved, .ref agained, .int 0, .ref adegrees, .long 0]))] := hD
  obtain rfl : r_1 = 0 := hw
  refine lv_if_ne (tgt := 17) hx hb dX5_weigh_6 (by decide) (fun c_3 => ?_) (fun c_3 => ?_)
  · exact absurd c_3 (by decide)
  refine lv_aload_n hx hb dX5_weigh_9 rfl (lv_at hl 0 rfl) ?_
  refine lv_iload_n hx hb dX5_weigh_10 rfl (lv_at hl 2 rfl) ?_
  have hPc := hP.sub (ws' := [(h, .inr (5, [.int 1, .ref aweight, .ref aown, .int 0, .ref abetween, .ref acommunity, .ref afresh, .int 0, .ref atold, .ref areached, .ref aplaced, .int 0, .ref amoved, .ref agained, .int 0, .ref adegrees, .long 0]))]) [1] rfl
  have hDc := hD.sub (ws' := [(h, .inr (5, [.int 1, .ref aweight, .ref aown, .int 0, .ref abetween, .ref acommunity, .ref afresh, .int 0, .ref atold, .ref areached, .ref aplaced, .int 0, .ref amoved, .ref agained, .int 0, .ref adegrees, .long 0]))]) [1] (by decide) rfl
  have hFc := va_free (wc := [(h, .inr (5, [.int 1, .ref aweight, .ref aown, .int 0, .ref abetween, .ref acommunity, .ref afresh, .int 0, .ref atold, .ref areached, .ref aplaced, .int 0, .ref amoved, .ref agained, .int 0, .ref adegrees, .long 0]))]) hD hS hA [1] rfl
  refine va_calli (va_runV (As := [.int 0]) (rest := [.ref h]) ⟨hx, hb, hml, hown, hts⟩ (c_X5_noNode l dC dI cI cJ h aweight aown abetween acommunity afresh atold areached aplaced amoved agained adegrees H.size 0) (cwV 1 hts gX5_weigh_X5_noNode rfl rfl rfl (by decide +kernel) ⟨Nat.le_of_ble_eq_true rfl, Nat.le_of_ble_eq_true rfl⟩) ⟨fun a U g mk q => by obtain ⟨q0, q1, qP, qK, qD⟩ := q; exact ⟨q0, q1, qP, va_K.moved (u := U) (U := U.calling g mk a) (Vm.Alike.refl U.vm) qK, qD⟩, va_recv hK hPc (ci := 5) (q0 := 0) rfl rfl, fun U hU hW => ⟨rfl, by rw [hU], by rw [hU]; exact hPc, va_K.moved hW.alike hK, hDc.weaken (fun _ _ _ _ => trivial)⟩⟩ rfl rfl hl.1 rfl (lv_room (Nat.le_of_ble_eq_true rfl)) dX5_weigh_11 ⟨Nat.le_of_ble_eq_true rfl, Nat.le_of_ble_eq_true rfl⟩) hS (fun q _ h => hFc q h) hFc (fun r_4 u_5 t H1 locs ht hvm hw hB hz1 hk1 hS => ?_)
  obtain ⟨hP1, hD1⟩ := hB
  rw [ht] at hP1
  obtain ⟨hP, hD⟩ := va_join (wr := [(aweight, .inl (cI, 1600, .inl Zi))]) (w1 := [(h, .inr (5, [.int 1, .ref aweight, .ref aown, .int 0, .ref abetween, .ref acommunity, .ref afresh, .int 0, .ref atold, .ref areached, .ref aplaced, .int 0, .ref amoved, .ref agained, .int 0, .ref adegrees, .long 0]))]) hP hD [1] [0] rfl rfl (by decide) (by decide) hk1 hFc hP1 hD1
  generalize H1 = H at hP hS ⊢
  have hP : va_P (dC, dI) vwCl [(aweight, .inl (cI, 1600, .inl Zi)), (h, .inr (5, [.int 1, .ref aweight, .ref aown, .int 0, .ref abetween, .ref acommunity, .ref afresh, .int 0, .ref atold, .ref areached, .ref aplaced, .int 0, .ref amoved, .ref agained, .int 0, .ref adegrees, .long 0]))] H := hP
  have hD : va_D A [(aweight, .inl (cI, 1600, .inl Zi)), (h, .inr (5, [.int 1, .ref aweight, .ref aown, .int 0, .ref abetween, .ref acommunity, .ref afresh, .int 0, .ref atold, .ref areached, .ref aplaced, .int 0, .ref amoved, .ref agained, .int 0, .ref adegrees, .long 0]))] := hD
  obtain rfl : r_4 = 0 := hw
  refine lv_if_eq (tgt := 21) hx hb dX5_weigh_14 (by decide) (fun c_6 => ?_) (fun c_6 => ?_)
  rotate_left
  · exact absurd (by decide) c_6
  refine lv_iconst (v := 0) hx hb dX5_weigh_21 (by decide) ?_
  refine va_put (D := (dC, dI)) (ci := 5) (v := .int 0) (ty := .int) (C := RX5) (T := TX5) (N := 17) hx hb hts i_5 tyX5 tyX5_ok nmX5 hown hK hP hD hS 1 rfl rfl 14 (by decide) k_0 (fun _ h9 => h9) rfl (by decide +kernel) rfl rfl (Nat.le_of_ble_eq_true rfl) dX5_weigh_22 (fun H locs hP hD hS => ?_)
  have hP : va_P (dC, dI) vwCl [(aweight, .inl (cI, 1600, .inl Zi)), (h, .inr (5, [.int 1, .ref aweight, .ref aown, .int 0, .ref abetween, .ref acommunity, .ref afresh, .int 0, .ref atold, .ref areached, .ref aplaced, .int 0, .ref amoved, .ref agained, .int 0, .ref adegrees, .long 0]))] H := hP
  have hD : va_D A [(aweight, .inl (cI, 1600, .inl Zi)), (h, .inr (5, [.int 1, .ref aweight, .ref aown, .int 0, .ref abetween, .ref acommunity, .ref afresh, .int 0, .ref atold, .ref areached, .ref aplaced, .int 0, .ref amoved, .ref agained, .int 0, .ref adegrees, .long 0]))] := hD
  refine lv_aload_n hx hb dX5_weigh_25 rfl (lv_at hl 0 rfl) ?_
  refine va_get (D := (dC, dI)) (ci := 5) (v := .int 0) (C := RX5) (T := TX5) (N := 17) hx hb hts i_5 hown hK hP 1 rfl rfl 14 (by decide) k_0 (fun _ h9 => h9) rfl dX5_weigh_26 ?_
  refine lv_if_le (tgt := 34) hx hb dX5_weigh_29 (by decide) (fun c_7 => ?_) (fun c_7 => ?_)
  rotate_left
  · exact absurd (by decide) c_7
  refine lv_aload_n hx hb dX5_weigh_34 rfl (lv_at hl 0 rfl) ?_
  refine va_get (D := (dC, dI)) (ci := 5) (v := .ref aweight) (C := RX5) (T := TX5) (N := 17) hx hb hts i_5 hown hK hP 1 rfl rfl 1 (by decide) k_1 (fun _ h9 => h9) rfl dX5_weigh_35 ?_
  refine lv_bipush (v := 40) hx hb dX5_weigh_38 (by decide) ?_
  refine lv_iload_n hx hb dX5_weigh_40 rfl (lv_at hl 1 rfl) ?_
  refine lv_imul hx hb dX5_weigh_41 ?_
  refine lc_i (v := 0) (by first | rfl | decide) ?_
  refine lv_iload_n hx hb dX5_weigh_42 rfl (lv_at hl 2 rfl) ?_
  refine lv_iadd hx hb dX5_weigh_43 ?_
  refine lc_i (v := 0) (by first | rfl | decide) ?_
  refine va_iald hx hb hK hP 0 0 rfl rfl (vp_c (by decide)) dX5_weigh_44 ?_
  refine lc_i (v := 0) (by first | rfl | decide) ?_
  refine lv_istore (lv' := [(4, .int 0), (0, .ref h), (1, .int 0), (2, .int 0), (3, .int w9)]) hx hb dX5_weigh_45 hl (by decide) rfl (fun ls hl => ?_)
  refine lv_aload_n hx hb dX5_weigh_47 rfl (lv_at hl 1 rfl) ?_
  refine lv_iload_n hx hb dX5_weigh_48 rfl (lv_at hl 4 rfl) ?_
  refine lv_if_lt (tgt := 70) hx hb dX5_weigh_49 (by decide) (fun c_8 => ?_) (fun c_8 => ?_)
  · exact absurd c_8 hw0
  refine lv_aload_n hx hb dX5_weigh_52 rfl (lv_at hl 1 rfl) ?_
  have hPc := hP.sub (ws' := [(h, .inr (5, [.int 1, .ref aweight, .ref aown, .int 0, .ref abetween, .ref acommunity, .ref afresh, .int 0, .ref atold, .ref areached, .ref aplaced, .int 0, .ref amoved, .ref agained, .int 0, .ref adegrees, .long 0])), (aweight, .inl (cI, 1600, .inl Zi))]) [1, 0] rfl
  have hDc := hD.sub (ws' := [(h, .inr (5, [.int 1, .ref aweight, .ref aown, .int 0, .ref abetween, .ref acommunity, .ref afresh, .int 0, .ref atold, .ref areached, .ref aplaced, .int 0, .ref amoved, .ref agained, .int 0, .ref adegrees, .long 0])), (aweight, .inl (cI, 1600, .inl Zi))]) [1, 0] (by decide) rfl
  have hFc := va_free (wc := [(h, .inr (5, [.int 1, .ref aweight, .ref aown, .int 0, .ref abetween, .ref acommunity, .ref afresh, .int 0, .ref atold, .ref areached, .ref aplaced, .int 0, .ref amoved, .ref agained, .int 0, .ref adegrees, .long 0])), (aweight, .inl (cI, 1600, .inl Zi))]) hD hS hA [1, 0] rfl
  refine va_calll (va_runV (As := []) (rest := [.ref h]) ⟨hx, hb, hml, hown, hts⟩ (c_X5_all l dC dI cI cJ h aweight aown abetween acommunity afresh atold areached aplaced amoved agained adegrees H.size) (cwV 0 hts gX5_weigh_X5_all rfl rfl rfl (by decide +kernel) ⟨Nat.le_of_ble_eq_true rfl, Nat.le_of_ble_eq_true rfl⟩) ⟨fun a U g mk q => by obtain ⟨q0, q1, qP, qK, qD⟩ := q; exact ⟨q0, q1, qP, va_K.moved (u := U) (U := U.calling g mk a) (Vm.Alike.refl U.vm) qK, qD⟩, va_recv hK hPc (ci := 5) (q0 := 0) rfl rfl, fun U hU hW => ⟨rfl, by rw [hU], by rw [hU]; exact hPc, va_K.moved hW.alike hK, hDc.weaken (fun _ _ _ _ => trivial)⟩⟩ rfl rfl hl.1 rfl (lv_room (Nat.le_of_ble_eq_true rfl)) dX5_weigh_53 ⟨Nat.le_of_ble_eq_true rfl, Nat.le_of_ble_eq_true rfl⟩) hS (fun q _ h => hFc q h) hFc (fun r_9 u_10 t H1 locs ht hvm hw hB hz1 hk1 hS => ?_)
  obtain ⟨hP1, hD1⟩ := hB
  rw [ht] at hP1
  obtain ⟨hP, hD⟩ := va_join (wr := []) (w1 := [(h, .inr (5, [.int 1, .ref aweight, .ref aown, .int 0, .ref abetween, .ref acommunity, .ref afresh, .int 0, .ref atold, .ref areached, .ref aplaced, .int 0, .ref amoved, .ref agained, .int 0, .ref adegrees, .long 0])), (aweight, .inl (cI, 1600, .inl Zi))]) hP hD [1, 0] [] rfl rfl (by decide) (by decide) hk1 hFc hP1 hD1
  generalize H1 = H at hP hS ⊢
  have hP : va_P (dC, dI) vwCl [(h, .inr (5, [.int 1, .ref aweight, .ref aown, .int 0, .ref abetween, .ref acommunity, .ref afresh, .int 0, .ref atold, .ref areached, .ref aplaced, .int 0, .ref amoved, .ref agained, .int 0, .ref adegrees, .long 0])), (aweight, .inl (cI, 1600, .inl Zi))] H := hP
  have hD : va_D A [(h, .inr (5, [.int 1, .ref aweight, .ref aown, .int 0, .ref abetween, .ref acommunity, .ref afresh, .int 0, .ref atold, .ref areached, .ref aplaced, .int 0, .ref amoved, .ref agained, .int 0, .ref adegrees, .long 0])), (aweight, .inl (cI, 1600, .inl Zi))] := hD
  obtain rfl : r_9 = 0 := hw
  refine lv_iload hx hb dX5_weigh_56 (lv_at hl 0 rfl) ?_
  refine lv_i2l (v := 0) hx hb dX5_weigh_58 (by decide) ?_
  refine lv_lsub hx hb dX5_weigh_59 ?_
  refine lc_l (v := 0) (by first | rfl | decide) ?_
  refine lv_iload_n hx hb dX5_weigh_60 rfl (lv_at hl 4 rfl) ?_
  refine lv_i2l (v := w9.toInt64) hx hb dX5_weigh_61 rfl ?_
  refine lv_ladd hx hb dX5_weigh_62 ?_
  refine lv_ldc2 (own := RX5) (v := 536870912) hx hb hown k_2 dX5_weigh_63 ?_
  refine W.lcmp hx hb dX5_weigh_66 ?_
  refine lv_if_lt (tgt := 74) hx hb dX5_weigh_67 (by decide) (fun c_11 => ?_) (fun c_11 => ?_)
  rotate_left
  · exact absurd hw1 c_11
  refine lv_iconst (v := 0) hx hb dX5_weigh_74 (by decide) ?_
  refine va_put (D := (dC, dI)) (ci := 5) (v := .int 0) (ty := .int) (C := RX5) (T := TX5) (N := 17) hx hb hts i_5 tyX5 tyX5_ok nmX5 hown hK hP hD hS 0 rfl rfl 14 (by decide) k_0 (fun _ h9 => h9) rfl (by decide +kernel) rfl rfl (Nat.le_of_ble_eq_true rfl) dX5_weigh_75 (fun H locs hP hD hS => ?_)
  have hP : va_P (dC, dI) vwCl [(h, .inr (5, [.int 1, .ref aweight, .ref aown, .int 0, .ref abetween, .ref acommunity, .ref afresh, .int 0, .ref atold, .ref areached, .ref aplaced, .int 0, .ref amoved, .ref agained, .int 0, .ref adegrees, .long 0])), (aweight, .inl (cI, 1600, .inl Zi))] H := hP
  have hD : va_D A [(h, .inr (5, [.int 1, .ref aweight, .ref aown, .int 0, .ref abetween, .ref acommunity, .ref afresh, .int 0, .ref atold, .ref areached, .ref aplaced, .int 0, .ref amoved, .ref agained, .int 0, .ref adegrees, .long 0])), (aweight, .inl (cI, 1600, .inl Zi))] := hD
  refine lv_aload_n hx hb dX5_weigh_78 rfl (lv_at hl 1 rfl) ?_
  refine va_get (D := (dC, dI)) (ci := 5) (v := .int 0) (C := RX5) (T := TX5) (N := 17) hx hb hts i_5 hown hK hP 0 rfl rfl 14 (by decide) k_0 (fun _ h9 => h9) rfl dX5_weigh_79 ?_
  refine lv_if_le (tgt := 87) hx hb dX5_weigh_82 (by decide) (fun c_12 => ?_) (fun c_12 => ?_)
  rotate_left
  · exact absurd (by decide) c_12
  refine lv_aload_n hx hb dX5_weigh_87 rfl (lv_at hl 1 rfl) ?_
  refine va_get (D := (dC, dI)) (ci := 5) (v := .ref aweight) (C := RX5) (T := TX5) (N := 17) hx hb hts i_5 hown hK hP 0 rfl rfl 1 (by decide) k_1 (fun _ h9 => h9) rfl dX5_weigh_88 ?_
  refine lv_bipush (v := 40) hx hb dX5_weigh_91 (by decide) ?_
  refine lv_iload_n hx hb dX5_weigh_93 rfl (lv_at hl 2 rfl) ?_
  refine lv_imul hx hb dX5_weigh_94 ?_
  refine lc_i (v := 0) (by first | rfl | decide) ?_
  refine lv_iload_n hx hb dX5_weigh_95 rfl (lv_at hl 3 rfl) ?_
  refine lv_iadd hx hb dX5_weigh_96 ?_
  refine lc_i (v := 0) (by first | rfl | decide) ?_
  refine lv_iload_n hx hb dX5_weigh_97 rfl (lv_at hl 4 rfl) ?_
  refine va_iast hx hb hK hP hD hS 1 0 rfl rfl (vp_c (by decide)) dX5_weigh_98 (fun H locs hP hD hS => ?_)
  have hP : va_P (dC, dI) vwCl [(h, .inr (5, [.int 1, .ref aweight, .ref aown, .int 0, .ref abetween, .ref acommunity, .ref afresh, .int 0, .ref atold, .ref areached, .ref aplaced, .int 0, .ref amoved, .ref agained, .int 0, .ref adegrees, .long 0])), (aweight, .inl (cI, 1600, .inl (upd Zi 0 w9)))] H := hP
  have hD : va_D A [(h, .inr (5, [.int 1, .ref aweight, .ref aown, .int 0, .ref abetween, .ref acommunity, .ref afresh, .int 0, .ref atold, .ref areached, .ref aplaced, .int 0, .ref amoved, .ref agained, .int 0, .ref adegrees, .long 0])), (aweight, .inl (cI, 1600, .inl (upd Zi 0 w9)))] := hD
  refine lv_aload_n hx hb dX5_weigh_99 rfl (lv_at hl 1 rfl) ?_
  refine va_get (D := (dC, dI)) (ci := 5) (v := .ref aweight) (C := RX5) (T := TX5) (N := 17) hx hb hts i_5 hown hK hP 0 rfl rfl 1 (by decide) k_1 (fun _ h9 => h9) rfl dX5_weigh_100 ?_
  refine lv_bipush (v := 40) hx hb dX5_weigh_103 (by decide) ?_
  refine lv_iload_n hx hb dX5_weigh_105 rfl (lv_at hl 3 rfl) ?_
  refine lv_imul hx hb dX5_weigh_106 ?_
  refine lc_i (v := 0) (by first | rfl | decide) ?_
  refine lv_iload_n hx hb dX5_weigh_107 rfl (lv_at hl 2 rfl) ?_
  refine lv_iadd hx hb dX5_weigh_108 ?_
  refine lc_i (v := 0) (by first | rfl | decide) ?_
  refine lv_iload_n hx hb dX5_weigh_109 rfl (lv_at hl 4 rfl) ?_
  refine va_iast hx hb hK hP hD hS 1 0 rfl rfl (vp_c (by decide)) dX5_weigh_110 (fun H locs hP hD hS => ?_)
  have hP : va_P (dC, dI) vwCl [(h, .inr (5, [.int 1, .ref aweight, .ref aown, .int 0, .ref abetween, .ref acommunity, .ref afresh, .int 0, .ref atold, .ref areached, .ref aplaced, .int 0, .ref amoved, .ref agained, .int 0, .ref adegrees, .long 0])), (aweight, .inl (cI, 1600, .inl (upd (upd Zi 0 w9) 0 w9)))] H := hP
  have hD : va_D A [(h, .inr (5, [.int 1, .ref aweight, .ref aown, .int 0, .ref abetween, .ref acommunity, .ref afresh, .int 0, .ref atold, .ref areached, .ref aplaced, .int 0, .ref amoved, .ref agained, .int 0, .ref adegrees, .long 0])), (aweight, .inl (cI, 1600, .inl (upd (upd Zi 0 w9) 0 w9)))] := hD
  refine lv_aload_n hx hb dX5_weigh_111 rfl (lv_at hl 1 rfl) ?_
  have hPc := hP.sub (ws' := [(h, .inr (5, [.int 1, .ref aweight, .ref aown, .int 0, .ref abetween, .ref acommunity, .ref afresh, .int 0, .ref atold, .ref areached, .ref aplaced, .int 0, .ref amoved, .ref agained, .int 0, .ref adegrees, .long 0]))]) [0] rfl
  have hDc := hD.sub (ws' := [(h, .inr (5, [.int 1, .ref aweight, .ref aown, .int 0, .ref abetween, .ref acommunity, .ref afresh, .int 0, .ref atold, .ref areached, .ref aplaced, .int 0, .ref amoved, .ref agained, .int 0, .ref adegrees, .long 0]))]) [0] (by decide) rfl
  have hFc := va_free (wc := [(h, .inr (5, [.int 1, .ref aweight, .ref aown, .int 0, .ref abetween, .ref acommunity, .ref afresh, .int 0, .ref atold, .ref areached, .ref aplaced, .int 0, .ref amoved, .ref agained, .int 0, .ref adegrees, .long 0]))]) hD hS hA [0] rfl
  refine va_callv (va_runV (As := []) (rest := []) ⟨hx, hb, hml, hown, hts⟩ (c_X5_forget l dC dI cI cJ h aweight aown abetween acommunity afresh atold areached aplaced amoved agained adegrees H.size 1 0) (cwV 0 hts gX5_weigh_X5_forget rfl rfl rfl (by decide +kernel) ⟨Nat.le_of_ble_eq_true rfl, Nat.le_of_ble_eq_true rfl⟩) ⟨fun a U g mk q => by obtain ⟨q0, q1, qP, qK, qD⟩ := q; exact ⟨q0, q1, qP, va_K.moved (u := U) (U := U.calling g mk a) (Vm.Alike.refl U.vm) qK, qD⟩, va_recv hK hPc (ci := 5) (q0 := 0) rfl rfl, fun U hU hW => ⟨rfl, by rw [hU], by rw [hU]; exact hPc, va_K.moved hW.alike hK, hDc.weaken (fun _ _ _ _ => trivial)⟩⟩ rfl rfl hl.1 rfl (lv_room (Nat.le_of_ble_eq_true rfl)) dX5_weigh_112 ⟨Nat.le_of_ble_eq_true rfl, Nat.le_of_ble_eq_true rfl⟩) hS (fun q _ h => hFc q h) hFc (fun u_14 t H1 locs ht hvm hw hB hz1 hk1 hS => ?_)
  obtain ⟨hP1, hD1⟩ := hB
  rw [ht] at hP1
  obtain ⟨hP, hD⟩ := va_join (wr := [(aweight, .inl (cI, 1600, .inl (upd (upd Zi 0 w9) 0 w9)))]) (w1 := [(h, .inr (5, [.int 1, .ref aweight, .ref aown, .int 0, .ref abetween, .ref acommunity, .ref afresh, .int 0, .ref atold, .ref areached, .ref aplaced, .int 0, .ref amoved, .ref agained, .int 0, .ref adegrees, .long 0]))]) hP hD [0] [1] rfl rfl (by decide) (by decide) hk1 hFc hP1 hD1
  generalize H1 = H at hP hS ⊢
  have hP : va_P (dC, dI) vwCl [(aweight, .inl (cI, 1600, .inl (upd (upd Zi 0 w9) 0 w9))), (h, .inr (5, [.int 1, .ref aweight, .ref aown, .int 0, .ref abetween, .ref acommunity, .ref afresh, .int 0, .ref atold, .ref areached, .ref aplaced, .int 0, .ref amoved, .ref agained, .int 0, .ref adegrees, .long 0]))] H := hP
  have hD : va_D A [(aweight, .inl (cI, 1600, .inl (upd (upd Zi 0 w9) 0 w9))), (h, .inr (5, [.int 1, .ref aweight, .ref aown, .int 0, .ref abetween, .ref acommunity, .ref afresh, .int 0, .ref atold, .ref areached, .ref aplaced, .int 0, .ref amoved, .ref agained, .int 0, .ref adegrees, .long 0]))] := hD
  refine lv_iload hx hb dX5_weigh_115 (lv_at hl 0 rfl) ?_
  have hP9 := hP.sub (ws' := [(h, .inr (5, [.int 1, .ref aweight, .ref aown, .int 0, .ref abetween, .ref acommunity, .ref afresh, .int 0, .ref atold, .ref areached, .ref aplaced, .int 0, .ref amoved, .ref agained, .int 0, .ref adegrees, .long 0]))]) [1] rfl
  have hD9 := hD.sub (ws' := [(h, .inr (5, [.int 1, .ref aweight, .ref aown, .int 0, .ref abetween, .ref acommunity, .ref afresh, .int 0, .ref atold, .ref areached, .ref aplaced, .int 0, .ref amoved, .ref agained, .int 0, .ref adegrees, .long 0]))]) [1] (by decide) rfl
  exact W.iret (v := 0) hx hb hr (fun t ht hW => ⟨⟨_, (), rfl, rfl, by rw [ht]; exact hP9, hD9⟩, hS.F ht⟩) hS.2.2 dX5_weigh_117
set_option maxHeartbeats 4000000 in
set_option maxRecDepth 100000 in
theorem c_X5_weigh_b1 (l : Launch) (dC : Nat → ClassId) (dI : Nat → Nat → Nat) (cI cJ : ClassId) (h aweight aown abetween acommunity afresh atold areached aplaced amoved agained adegrees : Nat) (sz : Nat) (n : Int32) (b9 : Int32) (w9 : Int32) (hn : n < 0 ∨ 1 ≤ n) : Met l yX5_weigh wsX5_weigh ({ frames := 1, cells := 0, slots := 0, locals := 21 }) (va_Pc [.ref h, .int n, .int b9, .int w9] (pPre dC dI cI cJ sz [(h, .inr (5, [.int 1, .ref aweight, .ref aown, .int 0, .ref abetween, .ref acommunity, .ref afresh, .int 0, .ref atold, .ref areached, .ref aplaced, .int 0, .ref amoved, .ref agained, .int 0, .ref adegrees, .long 0]))])) (va_Qi (fun (r : Int32) (_ : Unit) => r = 0) (pPost dC dI (va_A [(h, .inr (5, [.int 1, .ref aweight, .ref aown, .int 0, .ref abetween, .ref acommunity, .ref afresh, .int 0, .ref atold, .ref areached, .ref aplaced, .int 0, .ref amoved, .ref agained, .int 0, .ref adegrees, .long 0]))] sz) [(h, .inr (5, [.int 1, .ref aweight, .ref aown, .int 0, .ref abetween, .ref acommunity, .ref afresh, .int 0, .ref atold, .ref areached, .ref aplaced, .int 0, .ref amoved, .ref agained, .int 1, .ref adegrees, .long 0]))]) (va_A [(h, .inr (5, [.int 1, .ref aweight, .ref aown, .int 0, .ref abetween, .ref acommunity, .ref afresh, .int 0, .ref atold, .ref areached, .ref aplaced, .int 0, .ref amoved, .ref agained, .int 0, .ref adegrees, .long 0]))] sz)) 0 0 (va_A [(h, .inr (5, [.int 1, .ref aweight, .ref aown, .int 0, .ref abetween, .ref acommunity, .ref afresh, .int 0, .ref atold, .ref areached, .ref aplaced, .int 0, .ref amoved, .ref agained, .int 0, .ref adegrees, .long 0]))] sz) := by
  refine Met.ofW (cc := cX5_weigh) (maxL := 5) (ret := (some .int)) (by decide) rfl ?_
  intro p e s m args below meth c s₁ B hml hv
  obtain ⟨rfl, hsz, hP, hK, hD0⟩ := hv
  have hx := B.exec
  have hb := B.bytes
  have hr := B.returns
  have hts := atoms_spec (ws := wsX5_weigh) B.pre
  have hown : s.vm.findClass RX5 = some m.cls := findClass_of_methodNamed B.named
  have hlocks := B.notSynchronized
  subst hsz
  have hD := hD0.self (sz := s.heap.size)
  generalize hAe : va_A [(h, .inr (5, [.int 1, .ref aweight, .ref aown, .int 0, .ref abetween, .ref acommunity, .ref afresh, .int 0, .ref atold, .ref areached, .ref aplaced, .int 0, .ref amoved, .ref agained, .int 0, .ref adegrees, .long 0]))] s.heap.size = A at hD ⊢
  have hA : ∀ q : Nat, s.heap.size ≤ q → A q := fun q h => by rw [← hAe]; exact Or.inr h
  have hS : va_S A s.heap s.heap [] := va_S.rf
  have hP : va_P (dC, dI) vwCl [(h, .inr (5, [.int 1, .ref aweight, .ref aown, .int 0, .ref abetween, .ref acommunity, .ref afresh, .int 0, .ref atold, .ref areached, .ref aplaced, .int 0, .ref amoved, .ref agained, .int 0, .ref adegrees, .long 0]))] s.heap := hP
  have hl := lv_entry ([.ref h, .int n, .int b9, .int w9]) (n := 5) (Nat.le_of_ble_eq_true rfl)
  rw [lg_entry_eq]
  generalize (lg_sl ([.ref h, .int n, .int b9, .int w9]) ++ List.replicate (5 - (lg_sl ([.ref h, .int n, .int b9, .int w9])).length) Slot.unset).toArray = ls at hl ⊢
  have hl : lv_has ls 5 [(0, .ref h), (1, .int n), (2, .int b9), (3, .int w9)] := hl
  have i_5 : ∀ w ∈ wsX50, w ∈ wsX5_weigh := by decide +kernel
  have k_0 := hts (.fieldLink RX5 48 "CommunityLevelsModel" "thrown" "I") (by decide +kernel)
  refine lv_aload_n hx hb dX5_weigh_0 rfl (lv_at hl 0 rfl) ?_
  refine lv_aload_n hx hb dX5_weigh_1 rfl (lv_at hl 0 rfl) ?_
  refine lv_iload_n hx hb dX5_weigh_2 rfl (lv_at hl 1 rfl) ?_
  have hPc := hP.sub (ws' := [(h, .inr (5, [.int 1, .ref aweight, .ref aown, .int 0, .ref abetween, .ref acommunity, .ref afresh, .int 0, .ref atold, .ref areached, .ref aplaced, .int 0, .ref amoved, .ref agained, .int 0, .ref adegrees, .long 0]))]) [0] rfl
  have hDc := hD.sub (ws' := [(h, .inr (5, [.int 1, .ref aweight, .ref aown, .int 0, .ref abetween, .ref acommunity, .ref afresh, .int 0, .ref atold, .ref areached, .ref aplaced, .int 0, .ref amoved, .ref agained, .int 0, .ref adegrees, .long 0]))]) [0] (by decide) rfl
  have hFc := va_free (wc := [(h, .inr (5, [.int 1, .ref aweight, .ref aown, .int 0, .ref abetween, .ref acommunity, .ref afresh, .int 0, .ref atold, .ref areached, .ref aplaced, .int 0, .ref amoved, .ref agained, .int 0, .ref adegrees, .long 0]))]) hD hS hA [0] rfl
  refine va_calli (va_runV (As := [.int n]) (rest := [.ref h]) ⟨hx, hb, hml, hown, hts⟩ (c_X5_noNode_bad l dC dI cI cJ h aweight aown abetween acommunity afresh atold areached aplaced amoved agained adegrees s.heap.size n 0 hn) (cwV 1 hts gX5_weigh_X5_noNode rfl rfl rfl (by decide +kernel) ⟨Nat.le_of_ble_eq_true rfl, Nat.le_of_ble_eq_true rfl⟩) ⟨fun a U g mk q => by obtain ⟨q0, q1, qP, qK, qD⟩ := q; exact ⟨q0, q1, qP, va_K.moved (u := U) (U := U.calling g mk a) (Vm.Alike.refl U.vm) qK, qD⟩, va_recv hK hPc (ci := 5) (q0 := 0) rfl rfl, fun U hU hW => ⟨rfl, by rw [hU], by rw [hU]; exact hPc, va_K.moved hW.alike hK, hDc.weaken (fun _ _ _ _ => trivial)⟩⟩ rfl rfl hl.1 rfl (lv_room (Nat.le_of_ble_eq_true rfl)) dX5_weigh_3 ⟨Nat.le_of_ble_eq_true rfl, Nat.le_of_ble_eq_true rfl⟩) hS (fun q _ h => hFc q h) hFc (fun r_1 u_2 t H1 locs ht hvm hw hB hz1 hk1 hS => ?_)
  obtain ⟨hP1, hD1⟩ := hB
  rw [ht] at hP1
  obtain ⟨hP, hD⟩ := va_join (wr := []) (w1 := [(h, .inr (5, [.int 1, .ref aweight, .ref aown, .int 0, .ref abetween, .ref acommunity, .ref afresh, .int 0, .ref atold, .ref areached, .ref aplaced, .int 0, .ref amoved, .ref agained, .int 0, .ref adegrees, .long 0]))]) hP hD [0] [] rfl rfl (by decide) (by decide) hk1 hFc hP1 hD1
  generalize H1 = H at hP hS ⊢
  have hP : va_P (dC, dI) vwCl [(h, .inr (5, [.int 1, .ref aweight, .ref aown, .int 0, .ref abetween, .ref acommunity, .ref afresh, .int 0, .ref atold, .ref areached, .ref aplaced, .int 0, .ref amoved, .ref agained, .int 0, .ref adegrees, .long 0]))] H := hP
  have hD : va_D A [(h, .inr (5, [.int 1, .ref aweight, .ref aown, .int 0, .ref abetween, .ref acommunity, .ref afresh, .int 0, .ref atold, .ref areached, .ref aplaced, .int 0, .ref amoved, .ref agained, .int 0, .ref adegrees, .long 0]))] := hD
  obtain rfl : r_1 = 1 := hw
  refine lv_if_ne (tgt := 17) hx hb dX5_weigh_6 (by decide) (fun c_3 => ?_) (fun c_3 => ?_)
  rotate_left
  · exact absurd c_3 (by decide)
  refine lv_iconst (v := 1) hx hb dX5_weigh_17 (by decide) ?_
  refine lv_goto (tgt := 22) hx hb dX5_weigh_18 (by decide) ?_
  refine va_put (D := (dC, dI)) (ci := 5) (v := .int 1) (ty := .int) (C := RX5) (T := TX5) (N := 17) hx hb hts i_5 tyX5 tyX5_ok nmX5 hown hK hP hD hS 0 rfl rfl 14 (by decide) k_0 (fun _ h9 => h9) rfl (by decide +kernel) rfl rfl (Nat.le_of_ble_eq_true rfl) dX5_weigh_22 (fun H locs hP hD hS => ?_)
  have hP : va_P (dC, dI) vwCl [(h, .inr (5, [.int 1, .ref aweight, .ref aown, .int 0, .ref abetween, .ref acommunity, .ref afresh, .int 0, .ref atold, .ref areached, .ref aplaced, .int 0, .ref amoved, .ref agained, .int 1, .ref adegrees, .long 0]))] H := hP
  have hD : va_D A [(h, .inr (5, [.int 1, .ref aweight, .ref aown, .int 0, .ref abetween, .ref acommunity, .ref afresh, .int 0, .ref atold, .ref areached, .ref aplaced, .int 0, .ref amoved, .ref agained, .int 1, .ref adegrees, .long 0]))] := hD
  refine lv_aload_n hx hb dX5_weigh_25 rfl (lv_at hl 0 rfl) ?_
  refine va_get (D := (dC, dI)) (ci := 5) (v := .int 1) (C := RX5) (T := TX5) (N := 17) hx hb hts i_5 hown hK hP 0 rfl rfl 14 (by decide) k_0 (fun _ h9 => h9) rfl dX5_weigh_26 ?_
  refine lv_if_le (tgt := 34) hx hb dX5_weigh_29 (by decide) (fun c_4 => ?_) (fun c_4 => ?_)
  · exact absurd c_4 (by decide)
  refine lv_iconst (v := 0) hx hb dX5_weigh_32 (by decide) ?_
  have hP9 := hP.sub (ws' := [(h, .inr (5, [.int 1, .ref aweight, .ref aown, .int 0, .ref abetween, .ref acommunity, .ref afresh, .int 0, .ref atold, .ref areached, .ref aplaced, .int 0, .ref amoved, .ref agained, .int 1, .ref adegrees, .long 0]))]) [0] rfl
  have hD9 := hD.sub (ws' := [(h, .inr (5, [.int 1, .ref aweight, .ref aown, .int 0, .ref abetween, .ref acommunity, .ref afresh, .int 0, .ref atold, .ref areached, .ref aplaced, .int 0, .ref amoved, .ref agained, .int 1, .ref adegrees, .long 0]))]) [0] (by decide) rfl
  exact W.iret (v := 0) hx hb hr (fun t ht hW => ⟨⟨_, (), rfl, rfl, by rw [ht]; exact hP9, hD9⟩, hS.F ht⟩) hS.2.2 dX5_weigh_33
set_option maxHeartbeats 4000000 in
set_option maxRecDepth 100000 in
theorem c_X5_weigh_b2 (l : Launch) (dC : Nat → ClassId) (dI : Nat → Nat → Nat) (cI cJ : ClassId) (h aweight aown abetween acommunity afresh atold areached aplaced amoved agained adegrees : Nat) (sz : Nat) (n : Int32) (w9 : Int32) (hn : n < 0 ∨ 1 ≤ n) : Met l yX5_weigh wsX5_weigh ({ frames := 1, cells := 0, slots := 0, locals := 21 }) (va_Pc [.ref h, .int 0, .int n, .int w9] (pPre dC dI cI cJ sz [(h, .inr (5, [.int 1, .ref aweight, .ref aown, .int 0, .ref abetween, .ref acommunity, .ref afresh, .int 0, .ref atold, .ref areached, .ref aplaced, .int 0, .ref amoved, .ref agained, .int 0, .ref adegrees, .long 0]))])) (va_Qi (fun (r : Int32) (_ : Unit) => r = 0) (pPost dC dI (va_A [(h, .inr (5, [.int 1, .ref aweight, .ref aown, .int 0, .ref abetween, .ref acommunity, .ref afresh, .int 0, .ref atold, .ref areached, .ref aplaced, .int 0, .ref amoved, .ref agained, .int 0, .ref adegrees, .long 0]))] sz) [(h, .inr (5, [.int 1, .ref aweight, .ref aown, .int 0, .ref abetween, .ref acommunity, .ref afresh, .int 0, .ref atold, .ref areached, .ref aplaced, .int 0, .ref amoved, .ref agained, .int 1, .ref adegrees, .long 0]))]) (va_A [(h, .inr (5, [.int 1, .ref aweight, .ref aown, .int 0, .ref abetween, .ref acommunity, .ref afresh, .int 0, .ref atold, .ref areached, .ref aplaced, .int 0, .ref amoved, .ref agained, .int 0, .ref adegrees, .long 0]))] sz)) 0 0 (va_A [(h, .inr (5, [.int 1, .ref aweight, .ref aown, .int 0, .ref abetween, .ref acommunity, .ref afresh, .int 0, .ref atold, .ref areached, .ref aplaced, .int 0, .ref amoved, .ref agained, .int 0, .ref adegrees, .long 0]))] sz) := by
  refine Met.ofW (cc := cX5_weigh) (maxL := 5) (ret := (some .int)) (by decide) rfl ?_
  intro p e s m args below meth c s₁ B hml hv
  obtain ⟨rfl, hsz, hP, hK, hD0⟩ := hv
  have hx := B.exec
  have hb := B.bytes
  have hr := B.returns
  have hts := atoms_spec (ws := wsX5_weigh) B.pre
  have hown : s.vm.findClass RX5 = some m.cls := findClass_of_methodNamed B.named
  have hlocks := B.notSynchronized
  subst hsz
  have hD := hD0.self (sz := s.heap.size)
  generalize hAe : va_A [(h, .inr (5, [.int 1, .ref aweight, .ref aown, .int 0, .ref abetween, .ref acommunity, .ref afresh, .int 0, .ref atold, .ref areached, .ref aplaced, .int 0, .ref amoved, .ref agained, .int 0, .ref adegrees, .long 0]))] s.heap.size = A at hD ⊢
  have hA : ∀ q : Nat, s.heap.size ≤ q → A q := fun q h => by rw [← hAe]; exact Or.inr h
  have hS : va_S A s.heap s.heap [] := va_S.rf
  have hP : va_P (dC, dI) vwCl [(h, .inr (5, [.int 1, .ref aweight, .ref aown, .int 0, .ref abetween, .ref acommunity, .ref afresh, .int 0, .ref atold, .ref areached, .ref aplaced, .int 0, .ref amoved, .ref agained, .int 0, .ref adegrees, .long 0]))] s.heap := hP
  have hl := lv_entry ([.ref h, .int 0, .int n, .int w9]) (n := 5) (Nat.le_of_ble_eq_true rfl)
  rw [lg_entry_eq]
  generalize (lg_sl ([.ref h, .int 0, .int n, .int w9]) ++ List.replicate (5 - (lg_sl ([.ref h, .int 0, .int n, .int w9])).length) Slot.unset).toArray = ls at hl ⊢
  have hl : lv_has ls 5 [(0, .ref h), (1, .int 0), (2, .int n), (3, .int w9)] := hl
  have i_5 : ∀ w ∈ wsX50, w ∈ wsX5_weigh := by decide +kernel
  have k_0 := hts (.fieldLink RX5 48 "CommunityLevelsModel" "thrown" "I") (by decide +kernel)
  refine lv_aload_n hx hb dX5_weigh_0 rfl (lv_at hl 0 rfl) ?_
  refine lv_aload_n hx hb dX5_weigh_1 rfl (lv_at hl 0 rfl) ?_
  refine lv_iload_n hx hb dX5_weigh_2 rfl (lv_at hl 1 rfl) ?_
  have hPc := hP.sub (ws' := [(h, .inr (5, [.int 1, .ref aweight, .ref aown, .int 0, .ref abetween, .ref acommunity, .ref afresh, .int 0, .ref atold, .ref areached, .ref aplaced, .int 0, .ref amoved, .ref agained, .int 0, .ref adegrees, .long 0]))]) [0] rfl
  have hDc := hD.sub (ws' := [(h, .inr (5, [.int 1, .ref aweight, .ref aown, .int 0, .ref abetween, .ref acommunity, .ref afresh, .int 0, .ref atold, .ref areached, .ref aplaced, .int 0, .ref amoved, .ref agained, .int 0, .ref adegrees, .long 0]))]) [0] (by decide) rfl
  have hFc := va_free (wc := [(h, .inr (5, [.int 1, .ref aweight, .ref aown, .int 0, .ref abetween, .ref acommunity, .ref afresh, .int 0, .ref atold, .ref areached, .ref aplaced, .int 0, .ref amoved, .ref agained, .int 0, .ref adegrees, .long 0]))]) hD hS hA [0] rfl
  refine va_calli (va_runV (As := [.int 0]) (rest := [.ref h]) ⟨hx, hb, hml, hown, hts⟩ (c_X5_noNode l dC dI cI cJ h aweight aown abetween acommunity afresh atold areached aplaced amoved agained adegrees s.heap.size 0) (cwV 1 hts gX5_weigh_X5_noNode rfl rfl rfl (by decide +kernel) ⟨Nat.le_of_ble_eq_true rfl, Nat.le_of_ble_eq_true rfl⟩) ⟨fun a U g mk q => by obtain ⟨q0, q1, qP, qK, qD⟩ := q; exact ⟨q0, q1, qP, va_K.moved (u := U) (U := U.calling g mk a) (Vm.Alike.refl U.vm) qK, qD⟩, va_recv hK hPc (ci := 5) (q0 := 0) rfl rfl, fun U hU hW => ⟨rfl, by rw [hU], by rw [hU]; exact hPc, va_K.moved hW.alike hK, hDc.weaken (fun _ _ _ _ => trivial)⟩⟩ rfl rfl hl.1 rfl (lv_room (Nat.le_of_ble_eq_true rfl)) dX5_weigh_3 ⟨Nat.le_of_ble_eq_true rfl, Nat.le_of_ble_eq_true rfl⟩) hS (fun q _ h => hFc q h) hFc (fun r_1 u_2 t H1 locs ht hvm hw hB hz1 hk1 hS => ?_)
  obtain ⟨hP1, hD1⟩ := hB
  rw [ht] at hP1
  obtain ⟨hP, hD⟩ := va_join (wr := []) (w1 := [(h, .inr (5, [.int 1, .ref aweight, .ref aown, .int 0, .ref abetween, .ref acommunity, .ref afresh, .int 0, .ref atold, .ref areached, .ref aplaced, .int 0, .ref amoved, .ref agained, .int 0, .ref adegrees, .long 0]))]) hP hD [0] [] rfl rfl (by decide) (by decide) hk1 hFc hP1 hD1
  generalize H1 = H at hP hS ⊢
  have hP : va_P (dC, dI) vwCl [(h, .inr (5, [.int 1, .ref aweight, .ref aown, .int 0, .ref abetween, .ref acommunity, .ref afresh, .int 0, .ref atold, .ref areached, .ref aplaced, .int 0, .ref amoved, .ref agained, .int 0, .ref adegrees, .long 0]))] H := hP
  have hD : va_D A [(h, .inr (5, [.int 1, .ref aweight, .ref aown, .int 0, .ref abetween, .ref acommunity, .ref afresh, .int 0, .ref atold, .ref areached, .ref aplaced, .int 0, .ref amoved, .ref agained, .int 0, .ref adegrees, .long 0]))] := hD
  obtain rfl : r_1 = 0 := hw
  refine lv_if_ne (tgt := 17) hx hb dX5_weigh_6 (by decide) (fun c_3 => ?_) (fun c_3 => ?_)
  · exact absurd c_3 (by decide)
  refine lv_aload_n hx hb dX5_weigh_9 rfl (lv_at hl 0 rfl) ?_
  refine lv_iload_n hx hb dX5_weigh_10 rfl (lv_at hl 2 rfl) ?_
  have hPc := hP.sub (ws' := [(h, .inr (5, [.int 1, .ref aweight, .ref aown, .int 0, .ref abetween, .ref acommunity, .ref afresh, .int 0, .ref atold, .ref areached, .ref aplaced, .int 0, .ref amoved, .ref agained, .int 0, .ref adegrees, .long 0]))]) [0] rfl
  have hDc := hD.sub (ws' := [(h, .inr (5, [.int 1, .ref aweight, .ref aown, .int 0, .ref abetween, .ref acommunity, .ref afresh, .int 0, .ref atold, .ref areached, .ref aplaced, .int 0, .ref amoved, .ref agained, .int 0, .ref adegrees, .long 0]))]) [0] (by decide) rfl
  have hFc := va_free (wc := [(h, .inr (5, [.int 1, .ref aweight, .ref aown, .int 0, .ref abetween, .ref acommunity, .ref afresh, .int 0, .ref atold, .ref areached, .ref aplaced, .int 0, .ref amoved, .ref agained, .int 0, .ref adegrees, .long 0]))]) hD hS hA [0] rfl
  refine va_calli (va_runV (As := [.int n]) (rest := [.ref h]) ⟨hx, hb, hml, hown, hts⟩ (c_X5_noNode_bad l dC dI cI cJ h aweight aown abetween acommunity afresh atold areached aplaced amoved agained adegrees H.size n 0 hn) (cwV 1 hts gX5_weigh_X5_noNode rfl rfl rfl (by decide +kernel) ⟨Nat.le_of_ble_eq_true rfl, Nat.le_of_ble_eq_true rfl⟩) ⟨fun a U g mk q => by obtain ⟨q0, q1, qP, qK, qD⟩ := q; exact ⟨q0, q1, qP, va_K.moved (u := U) (U := U.calling g mk a) (Vm.Alike.refl U.vm) qK, qD⟩, va_recv hK hPc (ci := 5) (q0 := 0) rfl rfl, fun U hU hW => ⟨rfl, by rw [hU], by rw [hU]; exact hPc, va_K.moved hW.alike hK, hDc.weaken (fun _ _ _ _ => trivial)⟩⟩ rfl rfl hl.1 rfl (lv_room (Nat.le_of_ble_eq_true rfl)) dX5_weigh_11 ⟨Nat.le_of_ble_eq_true rfl, Nat.le_of_ble_eq_true rfl⟩) hS (fun q _ h => hFc q h) hFc (fun r_4 u_5 t H1 locs ht hvm hw hB hz1 hk1 hS => ?_)
  obtain ⟨hP1, hD1⟩ := hB
  rw [ht] at hP1
  obtain ⟨hP, hD⟩ := va_join (wr := []) (w1 := [(h, .inr (5, [.int 1, .ref aweight, .ref aown, .int 0, .ref abetween, .ref acommunity, .ref afresh, .int 0, .ref atold, .ref areached, .ref aplaced, .int 0, .ref amoved, .ref agained, .int 0, .ref adegrees, .long 0]))]) hP hD [0] [] rfl rfl (by decide) (by decide) hk1 hFc hP1 hD1
  generalize H1 = H at hP hS ⊢
  have hP : va_P (dC, dI) vwCl [(h, .inr (5, [.int 1, .ref aweight, .ref aown, .int 0, .ref abetween, .ref acommunity, .ref afresh, .int 0, .ref atold, .ref areached, .ref aplaced, .int 0, .ref amoved, .ref agained, .int 0, .ref adegrees, .long 0]))] H := hP
  have hD : va_D A [(h, .inr (5, [.int 1, .ref aweight, .ref aown, .int 0, .ref abetween, .ref acommunity, .ref afresh, .int 0, .ref atold, .ref areached, .ref aplaced, .int 0, .ref amoved, .ref agained, .int 0, .ref adegrees, .long 0]))] := hD
  obtain rfl : r_4 = 1 := hw
  refine lv_if_eq (tgt := 21) hx hb dX5_weigh_14 (by decide) (fun c_6 => ?_) (fun c_6 => ?_)
  · exact absurd c_6 (by decide)
  refine lv_iconst (v := 1) hx hb dX5_weigh_17 (by decide) ?_
  refine lv_goto (tgt := 22) hx hb dX5_weigh_18 (by decide) ?_
  refine va_put (D := (dC, dI)) (ci := 5) (v := .int 1) (ty := .int) (C := RX5) (T := TX5) (N := 17) hx hb hts i_5 tyX5 tyX5_ok nmX5 hown hK hP hD hS 0 rfl rfl 14 (by decide) k_0 (fun _ h9 => h9) rfl (by decide +kernel) rfl rfl (Nat.le_of_ble_eq_true rfl) dX5_weigh_22 (fun H locs hP hD hS => ?_)
  have hP : va_P (dC, dI) vwCl [(h, .inr (5, [.int 1, .ref aweight, .ref aown, .int 0, .ref abetween, .ref acommunity, .ref afresh, .int 0, .ref atold, .ref areached, .ref aplaced, .int 0, .ref amoved, .ref agained, .int 1, .ref adegrees, .long 0]))] H := hP
  have hD : va_D A [(h, .inr (5, [.int 1, .ref aweight, .ref aown, .int 0, .ref abetween, .ref acommunity, .ref afresh, .int 0, .ref atold, .ref areached, .ref aplaced, .int 0, .ref amoved, .ref agained, .int 1, .ref adegrees, .long 0]))] := hD
  refine lv_aload_n hx hb dX5_weigh_25 rfl (lv_at hl 0 rfl) ?_
  refine va_get (D := (dC, dI)) (ci := 5) (v := .int 1) (C := RX5) (T := TX5) (N := 17) hx hb hts i_5 hown hK hP 0 rfl rfl 14 (by decide) k_0 (fun _ h9 => h9) rfl dX5_weigh_26 ?_
  refine lv_if_le (tgt := 34) hx hb dX5_weigh_29 (by decide) (fun c_7 => ?_) (fun c_7 => ?_)
  · exact absurd c_7 (by decide)
  refine lv_iconst (v := 0) hx hb dX5_weigh_32 (by decide) ?_
  have hP9 := hP.sub (ws' := [(h, .inr (5, [.int 1, .ref aweight, .ref aown, .int 0, .ref abetween, .ref acommunity, .ref afresh, .int 0, .ref atold, .ref areached, .ref aplaced, .int 0, .ref amoved, .ref agained, .int 1, .ref adegrees, .long 0]))]) [0] rfl
  have hD9 := hD.sub (ws' := [(h, .inr (5, [.int 1, .ref aweight, .ref aown, .int 0, .ref abetween, .ref acommunity, .ref afresh, .int 0, .ref atold, .ref areached, .ref aplaced, .int 0, .ref amoved, .ref agained, .int 1, .ref adegrees, .long 0]))]) [0] (by decide) rfl
  exact W.iret (v := 0) hx hb hr (fun t ht hW => ⟨⟨_, (), rfl, rfl, by rw [ht]; exact hP9, hD9⟩, hS.F ht⟩) hS.2.2 dX5_weigh_33
set_option maxHeartbeats 4000000 in
set_option maxRecDepth 100000 in
theorem c_X5_weigh_b3 (l : Launch) (dC : Nat → ClassId) (dI : Nat → Nat → Nat) (cI cJ : ClassId) (h aweight aown abetween acommunity afresh atold areached aplaced amoved agained adegrees : Nat) (sz : Nat) (w9 : Int32) (hwn : w9 < 0) : Met l yX5_weigh wsX5_weigh ({ frames := 1, cells := 0, slots := 0, locals := 21 }) (va_Pc [.ref h, .int 0, .int 0, .int w9] (pPre dC dI cI cJ sz [(h, .inr (5, [.int 1, .ref aweight, .ref aown, .int 0, .ref abetween, .ref acommunity, .ref afresh, .int 0, .ref atold, .ref areached, .ref aplaced, .int 0, .ref amoved, .ref agained, .int 0, .ref adegrees, .long 0])), (aweight, .inl (cI, 1600, .inl Zi))])) (va_Qi (fun (r : Int32) (_ : Unit) => r = 0) (pPost dC dI (va_A [(h, .inr (5, [.int 1, .ref aweight, .ref aown, .int 0, .ref abetween, .ref acommunity, .ref afresh, .int 0, .ref atold, .ref areached, .ref aplaced, .int 0, .ref amoved, .ref agained, .int 0, .ref adegrees, .long 0])), (aweight, .inl (cI, 1600, .inl Zi))] sz) [(h, .inr (5, [.int 1, .ref aweight, .ref aown, .int 0, .ref abetween, .ref acommunity, .ref afresh, .int 0, .ref atold, .ref areached, .ref aplaced, .int 0, .ref amoved, .ref agained, .int 2, .ref adegrees, .long 0]))]) (va_A [(h, .inr (5, [.int 1, .ref aweight, .ref aown, .int 0, .ref abetween, .ref acommunity, .ref afresh, .int 0, .ref atold, .ref areached, .ref aplaced, .int 0, .ref amoved, .ref agained, .int 0, .ref adegrees, .long 0])), (aweight, .inl (cI, 1600, .inl Zi))] sz)) 0 0 (va_A [(h, .inr (5, [.int 1, .ref aweight, .ref aown, .int 0, .ref abetween, .ref acommunity, .ref afresh, .int 0, .ref atold, .ref areached, .ref aplaced, .int 0, .ref amoved, .ref agained, .int 0, .ref adegrees, .long 0])), (aweight, .inl (cI, 1600, .inl Zi))] sz) := by
  refine Met.ofW (cc := cX5_weigh) (maxL := 5) (ret := (some .int)) (by decide) rfl ?_
  intro p e s m args below meth c s₁ B hml hv
  obtain ⟨rfl, hsz, hP, hK, hD0⟩ := hv
  have hx := B.exec
  have hb := B.bytes
  have hr := B.returns
  have hts := atoms_spec (ws := wsX5_weigh) B.pre
  have hown : s.vm.findClass RX5 = some m.cls := findClass_of_methodNamed B.named
  have hlocks := B.notSynchronized
  subst hsz
  have hD := hD0.self (sz := s.heap.size)
  generalize hAe : va_A [(h, .inr (5, [.int 1, .ref aweight, .ref aown, .int 0, .ref abetween, .ref acommunity, .ref afresh, .int 0, .ref atold, .ref areached, .ref aplaced, .int 0, .ref amoved, .ref agained, .int 0, .ref adegrees, .long 0])), (aweight, .inl (cI, 1600, .inl Zi))] s.heap.size = A at hD ⊢
  have hA : ∀ q : Nat, s.heap.size ≤ q → A q := fun q h => by rw [← hAe]; exact Or.inr h
  have hS : va_S A s.heap s.heap [] := va_S.rf
  have hP : va_P (dC, dI) vwCl [(h, .inr (5, [.int 1, .ref aweight, .ref aown, .int 0, .ref abetween, .ref acommunity, .ref afresh, .int 0, .ref atold, .ref areached, .ref aplaced, .int 0, .ref amoved, .ref agained, .int 0, .ref adegrees, .long 0])), (aweight, .inl (cI, 1600, .inl Zi))] s.heap := hP
  have hl := lv_entry ([.ref h, .int 0, .int 0, .int w9]) (n := 5) (Nat.le_of_ble_eq_true rfl)
  rw [lg_entry_eq]
  generalize (lg_sl ([.ref h, .int 0, .int 0, .int w9]) ++ List.replicate (5 - (lg_sl ([.ref h, .int 0, .int 0, .int w9])).length) Slot.unset).toArray = ls at hl ⊢
  have hl : lv_has ls 5 [(0, .ref h), (1, .int 0), (2, .int 0), (3, .int w9)] := hl
  have i_5 : ∀ w ∈ wsX50, w ∈ wsX5_weigh := by decide +kernel
  have k_0 := hts (.fieldLink RX5 48 "CommunityLevelsModel" "thrown" "I") (by decide +kernel)
  have k_1 := hts (.fieldLink RX5 13 "CommunityLevelsModel" "weight" "[I") (by decide +kernel)
  refine lv_aload_n hx hb dX5_weigh_0 rfl (lv_at hl 0 rfl) ?_
  refine lv_aload_n hx hb dX5_weigh_1 rfl (lv_at hl 0 rfl) ?_
  refine lv_iload_n hx hb dX5_weigh_2 rfl (lv_at hl 1 rfl) ?_
  have hPc := hP.sub (ws' := [(h, .inr (5, [.int 1, .ref aweight, .ref aown, .int 0, .ref abetween, .ref acommunity, .ref afresh, .int 0, .ref atold, .ref areached, .ref aplaced, .int 0, .ref amoved, .ref agained, .int 0, .ref adegrees, .long 0]))]) [0] rfl
  have hDc := hD.sub (ws' := [(h, .inr (5, [.int 1, .ref aweight, .ref aown, .int 0, .ref abetween, .ref acommunity, .ref afresh, .int 0, .ref atold, .ref areached, .ref aplaced, .int 0, .ref amoved, .ref agained, .int 0, .ref adegrees, .long 0]))]) [0] (by decide) rfl
  have hFc := va_free (wc := [(h, .inr (5, [.int 1, .ref aweight, .ref aown, .int 0, .ref abetween, .ref acommunity, .ref afresh, .int 0, .ref atold, .ref areached, .ref aplaced, .int 0, .ref amoved, .ref agained, .int 0, .ref adegrees, .long 0]))]) hD hS hA [0] rfl
  refine va_calli (va_runV (As := [.int 0]) (rest := [.ref h]) ⟨hx, hb, hml, hown, hts⟩ (c_X5_noNode l dC dI cI cJ h aweight aown abetween acommunity afresh atold areached aplaced amoved agained adegrees s.heap.size 0) (cwV 1 hts gX5_weigh_X5_noNode rfl rfl rfl (by decide +kernel) ⟨Nat.le_of_ble_eq_true rfl, Nat.le_of_ble_eq_true rfl⟩) ⟨fun a U g mk q => by obtain ⟨q0, q1, qP, qK, qD⟩ := q; exact ⟨q0, q1, qP, va_K.moved (u := U) (U := U.calling g mk a) (Vm.Alike.refl U.vm) qK, qD⟩, va_recv hK hPc (ci := 5) (q0 := 0) rfl rfl, fun U hU hW => ⟨rfl, by rw [hU], by rw [hU]; exact hPc, va_K.moved hW.alike hK, hDc.weaken (fun _ _ _ _ => trivial)⟩⟩ rfl rfl hl.1 rfl (lv_room (Nat.le_of_ble_eq_true rfl)) dX5_weigh_3 ⟨Nat.le_of_ble_eq_true rfl, Nat.le_of_ble_eq_true rfl⟩) hS (fun q _ h => hFc q h) hFc (fun r_1 u_2 t H1 locs ht hvm hw hB hz1 hk1 hS => ?_)
  obtain ⟨hP1, hD1⟩ := hB
  rw [ht] at hP1
  obtain ⟨hP, hD⟩ := va_join (wr := [(aweight, .inl (cI, 1600, .inl Zi))]) (w1 := [(h, .inr (5, [.int 1, .ref aweight, .ref aown, .int 0, .ref abetween, .ref acommunity, .ref afresh, .int 0, .ref atold, .ref areached, .ref aplaced, .int 0, .ref amoved, .ref agained, .int 0, .ref adegrees, .long 0]))]) hP hD [0] [1] rfl rfl (by decide) (by decide) hk1 hFc hP1 hD1
  generalize H1 = H at hP hS ⊢
  have hP : va_P (dC, dI) vwCl [(aweight, .inl (cI, 1600, .inl Zi)), (h, .inr (5, [.int 1, .ref aweight, .ref aown, .int 0, .ref abetween, .ref acommunity, .ref afresh, .int 0, .ref atold, .ref areached, .ref aplaced, .int 0, .ref amoved, .ref agained, .int 0, .ref adegrees, .long 0]))] H := hP
  have hD : va_D A [(aweight, .inl (cI, 1600, .inl Zi)), (h, .inr (5, [.int 1, .ref aweight, .ref aown, .int 0, .ref abetween, .ref acommunity, .ref afresh, .int 0, .ref atold, .ref areached, .ref aplaced, .int 0, .ref amoved, .ref agained, .int 0, .ref adegrees, .long 0]))] := hD
  obtain rfl : r_1 = 0 := hw
  refine lv_if_ne (tgt := 17) hx hb dX5_weigh_6 (by decide) (fun c_3 => ?_) (fun c_3 => ?_)
  · exact absurd c_3 (by decide)
  refine lv_aload_n hx hb dX5_weigh_9 rfl (lv_at hl 0 rfl) ?_
  refine lv_iload_n hx hb dX5_weigh_10 rfl (lv_at hl 2 rfl) ?_
  have hPc := hP.sub (ws' := [(h, .inr (5, [.int 1, .ref aweight, .ref aown, .int 0, .ref abetween, .ref acommunity, .ref afresh, .int 0, .ref atold, .ref areached, .ref aplaced, .int 0, .ref amoved, .ref agained, .int 0, .ref adegrees, .long 0]))]) [1] rfl
  have hDc := hD.sub (ws' := [(h, .inr (5, [.int 1, .ref aweight, .ref aown, .int 0, .ref abetween, .ref acommunity, .ref afresh, .int 0, .ref atold, .ref areached, .ref aplaced, .int 0, .ref amoved, .ref agained, .int 0, .ref adegrees, .long 0]))]) [1] (by decide) rfl
  have hFc := va_free (wc := [(h, .inr (5, [.int 1, .ref aweight, .ref aown, .int 0, .ref abetween, .ref acommunity, .ref afresh, .int 0, .ref atold, .ref areached, .ref aplaced, .int 0, .ref amoved, .ref agained, .int 0, .ref adegrees, .long 0]))]) hD hS hA [1] rfl
  refine va_calli (va_runV (As := [.int 0]) (rest := [.ref h]) ⟨hx, hb, hml, hown, hts⟩ (c_X5_noNode l dC dI cI cJ h aweight aown abetween acommunity afresh atold areached aplaced amoved agained adegrees H.size 0) (cwV 1 hts gX5_weigh_X5_noNode rfl rfl rfl (by decide +kernel) ⟨Nat.le_of_ble_eq_true rfl, Nat.le_of_ble_eq_true rfl⟩) ⟨fun a U g mk q => by obtain ⟨q0, q1, qP, qK, qD⟩ := q; exact ⟨q0, q1, qP, va_K.moved (u := U) (U := U.calling g mk a) (Vm.Alike.refl U.vm) qK, qD⟩, va_recv hK hPc (ci := 5) (q0 := 0) rfl rfl, fun U hU hW => ⟨rfl, by rw [hU], by rw [hU]; exact hPc, va_K.moved hW.alike hK, hDc.weaken (fun _ _ _ _ => trivial)⟩⟩ rfl rfl hl.1 rfl (lv_room (Nat.le_of_ble_eq_true rfl)) dX5_weigh_11 ⟨Nat.le_of_ble_eq_true rfl, Nat.le_of_ble_eq_true rfl⟩) hS (fun q _ h => hFc q h) hFc (fun r_4 u_5 t H1 locs ht hvm hw hB hz1 hk1 hS => ?_)
  obtain ⟨hP1, hD1⟩ := hB
  rw [ht] at hP1
  obtain ⟨hP, hD⟩ := va_join (wr := [(aweight, .inl (cI, 1600, .inl Zi))]) (w1 := [(h, .inr (5, [.int 1, .ref aweight, .ref aown, .int 0, .ref abetween, .ref acommunity, .ref afresh, .int 0, .ref atold, .ref areached, .ref aplaced, .int 0, .ref amoved, .ref agained, .int 0, .ref adegrees, .long 0]))]) hP hD [1] [0] rfl rfl (by decide) (by decide) hk1 hFc hP1 hD1
  generalize H1 = H at hP hS ⊢
  have hP : va_P (dC, dI) vwCl [(aweight, .inl (cI, 1600, .inl Zi)), (h, .inr (5, [.int 1, .ref aweight, .ref aown, .int 0, .ref abetween, .ref acommunity, .ref afresh, .int 0, .ref atold, .ref areached, .ref aplaced, .int 0, .ref amoved, .ref agained, .int 0, .ref adegrees, .long 0]))] H := hP
  have hD : va_D A [(aweight, .inl (cI, 1600, .inl Zi)), (h, .inr (5, [.int 1, .ref aweight, .ref aown, .int 0, .ref abetween, .ref acommunity, .ref afresh, .int 0, .ref atold, .ref areached, .ref aplaced, .int 0, .ref amoved, .ref agained, .int 0, .ref adegrees, .long 0]))] := hD
  obtain rfl : r_4 = 0 := hw
  refine lv_if_eq (tgt := 21) hx hb dX5_weigh_14 (by decide) (fun c_6 => ?_) (fun c_6 => ?_)
  rotate_left
  · exact absurd (by decide) c_6
  refine lv_iconst (v := 0) hx hb dX5_weigh_21 (by decide) ?_
  refine va_put (D := (dC, dI)) (ci := 5) (v := .int 0) (ty := .int) (C := RX5) (T := TX5) (N := 17) hx hb hts i_5 tyX5 tyX5_ok nmX5 hown hK hP hD hS 1 rfl rfl 14 (by decide) k_0 (fun _ h9 => h9) rfl (by decide +kernel) rfl rfl (Nat.le_of_ble_eq_true rfl) dX5_weigh_22 (fun H locs hP hD hS => ?_)
  have hP : va_P (dC, dI) vwCl [(aweight, .inl (cI, 1600, .inl Zi)), (h, .inr (5, [.int 1, .ref aweight, .ref aown, .int 0, .ref abetween, .ref acommunity, .ref afresh, .int 0, .ref atold, .ref areached, .ref aplaced, .int 0, .ref amoved, .ref agained, .int 0, .ref adegrees, .long 0]))] H := hP
  have hD : va_D A [(aweight, .inl (cI, 1600, .inl Zi)), (h, .inr (5, [.int 1, .ref aweight, .ref aown, .int 0, .ref abetween, .ref acommunity, .ref afresh, .int 0, .ref atold, .ref areached, .ref aplaced, .int 0, .ref amoved, .ref agained, .int 0, .ref adegrees, .long 0]))] := hD
  refine lv_aload_n hx hb dX5_weigh_25 rfl (lv_at hl 0 rfl) ?_
  refine va_get (D := (dC, dI)) (ci := 5) (v := .int 0) (C := RX5) (T := TX5) (N := 17) hx hb hts i_5 hown hK hP 1 rfl rfl 14 (by decide) k_0 (fun _ h9 => h9) rfl dX5_weigh_26 ?_
  refine lv_if_le (tgt := 34) hx hb dX5_weigh_29 (by decide) (fun c_7 => ?_) (fun c_7 => ?_)
  rotate_left
  · exact absurd (by decide) c_7
  refine lv_aload_n hx hb dX5_weigh_34 rfl (lv_at hl 0 rfl) ?_
  refine va_get (D := (dC, dI)) (ci := 5) (v := .ref aweight) (C := RX5) (T := TX5) (N := 17) hx hb hts i_5 hown hK hP 1 rfl rfl 1 (by decide) k_1 (fun _ h9 => h9) rfl dX5_weigh_35 ?_
  refine lv_bipush (v := 40) hx hb dX5_weigh_38 (by decide) ?_
  refine lv_iload_n hx hb dX5_weigh_40 rfl (lv_at hl 1 rfl) ?_
  refine lv_imul hx hb dX5_weigh_41 ?_
  refine lc_i (v := 0) (by first | rfl | decide) ?_
  refine lv_iload_n hx hb dX5_weigh_42 rfl (lv_at hl 2 rfl) ?_
  refine lv_iadd hx hb dX5_weigh_43 ?_
  refine lc_i (v := 0) (by first | rfl | decide) ?_
  refine va_iald hx hb hK hP 0 0 rfl rfl (vp_c (by decide)) dX5_weigh_44 ?_
  refine lc_i (v := 0) (by first | rfl | decide) ?_
  refine lv_istore (lv' := [(4, .int 0), (0, .ref h), (1, .int 0), (2, .int 0), (3, .int w9)]) hx hb dX5_weigh_45 hl (by decide) rfl (fun ls hl => ?_)
  refine lv_aload_n hx hb dX5_weigh_47 rfl (lv_at hl 1 rfl) ?_
  refine lv_iload_n hx hb dX5_weigh_48 rfl (lv_at hl 4 rfl) ?_
  refine lv_if_lt (tgt := 70) hx hb dX5_weigh_49 (by decide) (fun c_8 => ?_) (fun c_8 => ?_)
  rotate_left
  · exact absurd hwn c_8
  refine lv_iconst (v := 2) hx hb dX5_weigh_70 (by decide) ?_
  refine lv_goto (tgt := 75) hx hb dX5_weigh_71 (by decide) ?_
  refine va_put (D := (dC, dI)) (ci := 5) (v := .int 2) (ty := .int) (C := RX5) (T := TX5) (N := 17) hx hb hts i_5 tyX5 tyX5_ok nmX5 hown hK hP hD hS 1 rfl rfl 14 (by decide) k_0 (fun _ h9 => h9) rfl (by decide +kernel) rfl rfl (Nat.le_of_ble_eq_true rfl) dX5_weigh_75 (fun H locs hP hD hS => ?_)
  have hP : va_P (dC, dI) vwCl [(aweight, .inl (cI, 1600, .inl Zi)), (h, .inr (5, [.int 1, .ref aweight, .ref aown, .int 0, .ref abetween, .ref acommunity, .ref afresh, .int 0, .ref atold, .ref areached, .ref aplaced, .int 0, .ref amoved, .ref agained, .int 2, .ref adegrees, .long 0]))] H := hP
  have hD : va_D A [(aweight, .inl (cI, 1600, .inl Zi)), (h, .inr (5, [.int 1, .ref aweight, .ref aown, .int 0, .ref abetween, .ref acommunity, .ref afresh, .int 0, .ref atold, .ref areached, .ref aplaced, .int 0, .ref amoved, .ref agained, .int 2, .ref adegrees, .long 0]))] := hD
  refine lv_aload_n hx hb dX5_weigh_78 rfl (lv_at hl 1 rfl) ?_
  refine va_get (D := (dC, dI)) (ci := 5) (v := .int 2) (C := RX5) (T := TX5) (N := 17) hx hb hts i_5 hown hK hP 1 rfl rfl 14 (by decide) k_0 (fun _ h9 => h9) rfl dX5_weigh_79 ?_
  refine lv_if_le (tgt := 87) hx hb dX5_weigh_82 (by decide) (fun c_9 => ?_) (fun c_9 => ?_)
  · exact absurd c_9 (by decide)
  refine lv_iconst (v := 0) hx hb dX5_weigh_85 (by decide) ?_
  have hP9 := hP.sub (ws' := [(h, .inr (5, [.int 1, .ref aweight, .ref aown, .int 0, .ref abetween, .ref acommunity, .ref afresh, .int 0, .ref atold, .ref areached, .ref aplaced, .int 0, .ref amoved, .ref agained, .int 2, .ref adegrees, .long 0]))]) [1] rfl
  have hD9 := hD.sub (ws' := [(h, .inr (5, [.int 1, .ref aweight, .ref aown, .int 0, .ref abetween, .ref acommunity, .ref afresh, .int 0, .ref atold, .ref areached, .ref aplaced, .int 0, .ref amoved, .ref agained, .int 2, .ref adegrees, .long 0]))]) [1] (by decide) rfl
  exact W.iret (v := 0) hx hb hr (fun t ht hW => ⟨⟨_, (), rfl, rfl, by rw [ht]; exact hP9, hD9⟩, hS.F ht⟩) hS.2.2 dX5_weigh_86
set_option maxHeartbeats 4000000 in
set_option maxRecDepth 100000 in
theorem c_X5_weigh_b4 (l : Launch) (dC : Nat → ClassId) (dI : Nat → Nat → Nat) (cI cJ : ClassId) (h aweight aown abetween acommunity afresh atold areached aplaced amoved agained adegrees : Nat) (sz : Nat) (w9 : Int32) (hw0 : ¬ w9 < 0) (hw2 : ¬ lg_cmp (0 + w9.toInt64) 536870912 < 0) : Met l yX5_weigh wsX5_weigh ({ frames := 1, cells := 0, slots := 0, locals := 24 }) (va_Pc [.ref h, .int 0, .int 0, .int w9] (pPre dC dI cI cJ sz [(h, .inr (5, [.int 1, .ref aweight, .ref aown, .int 0, .ref abetween, .ref acommunity, .ref afresh, .int 0, .ref atold, .ref areached, .ref aplaced, .int 0, .ref amoved, .ref agained, .int 0, .ref adegrees, .long 0])), (aweight, .inl (cI, 1600, .inl Zi))])) (va_Qi (fun (r : Int32) (_ : Unit) => r = 0) (pPost dC dI (va_A [(h, .inr (5, [.int 1, .ref aweight, .ref aown, .int 0, .ref abetween, .ref acommunity, .ref afresh, .int 0, .ref atold, .ref areached, .ref aplaced, .int 0, .ref amoved, .ref agained, .int 0, .ref adegrees, .long 0])), (aweight, .inl (cI, 1600, .inl Zi))] sz) [(h, .inr (5, [.int 1, .ref aweight, .ref aown, .int 0, .ref abetween, .ref acommunity, .ref afresh, .int 0, .ref atold, .ref areached, .ref aplaced, .int 0, .ref amoved, .ref agained, .int 2, .ref adegrees, .long 0]))]) (va_A [(h, .inr (5, [.int 1, .ref aweight, .ref aown, .int 0, .ref abetween, .ref acommunity, .ref afresh, .int 0, .ref atold, .ref areached, .ref aplaced, .int 0, .ref amoved, .ref agained, .int 0, .ref adegrees, .long 0])), (aweight, .inl (cI, 1600, .inl Zi))] sz)) 0 0 (va_A [(h, .inr (5, [.int 1, .ref aweight, .ref aown, .int 0, .ref abetween, .ref acommunity, .ref afresh, .int 0, .ref atold, .ref areached, .ref aplaced, .int 0, .ref amoved, .ref agained, .int 0, .ref adegrees, .long 0])), (aweight, .inl (cI, 1600, .inl Zi))] sz) := by
  refine Met.ofW (cc := cX5_weigh) (maxL := 5) (ret := (some .int)) (by decide) rfl ?_
  intro p e s m args below meth c s₁ B hml hv
  obtain ⟨rfl, hsz, hP, hK, hD0⟩ := hv
  have hx := B.exec
  have hb := B.bytes
  have hr := B.returns
  have hts := atoms_spec (ws := wsX5_weigh) B.pre
  have hown : s.vm.findClass RX5 = some m.cls := findClass_of_methodNamed B.named
  have hlocks := B.notSynchronized
  subst hsz
  have hD := hD0.self (sz := s.heap.size)
  generalize hAe : va_A [(h, .inr (5, [.int 1, .ref aweight, .ref aown, .int 0, .ref abetween, .ref acommunity, .ref afresh, .int 0, .ref atold, .ref areached, .ref aplaced, .int 0, .ref amoved, .ref agained, .int 0, .ref adegrees, .long 0])), (aweight, .inl (cI, 1600, .inl Zi))] s.heap.size = A at hD ⊢
  have hA : ∀ q : Nat, s.heap.size ≤ q → A q := fun q h => by rw [← hAe]; exact Or.inr h
  have hS : va_S A s.heap s.heap [] := va_S.rf
  have hP : va_P (dC, dI) vwCl [(h, .inr (5, [.int 1, .ref aweight, .ref aown, .int 0, .ref abetween, .ref acommunity, .ref afresh, .int 0, .ref atold, .ref areached, .ref aplaced, .int 0, .ref amoved, .ref agained, .int 0, .ref adegrees, .long 0])), (aweight, .inl (cI, 1600, .inl Zi))] s.heap := hP
  have hl := lv_entry ([.ref h, .int 0, .int 0, .int w9]) (n := 5) (Nat.le_of_ble_eq_true rfl)
  rw [lg_entry_eq]
  generalize (lg_sl ([.ref h, .int 0, .int 0, .int w9]) ++ List.replicate (5 - (lg_sl ([.ref h, .int 0, .int 0, .int w9])).length) Slot.unset).toArray = ls at hl ⊢
  have hl : lv_has ls 5 [(0, .ref h), (1, .int 0), (2, .int 0), (3, .int w9)] := hl
  have i_5 : ∀ w ∈ wsX50, w ∈ wsX5_weigh := by decide +kernel
  have k_0 := hts (.fieldLink RX5 48 "CommunityLevelsModel" "thrown" "I") (by decide +kernel)
  have k_1 := hts (.fieldLink RX5 13 "CommunityLevelsModel" "weight" "[I") (by decide +kernel)
  have k_2 := hts (.constantLong RX5 68 (536870912)) (by decide +kernel)
  refine lv_aload_n hx hb dX5_weigh_0 rfl (lv_at hl 0 rfl) ?_
  refine lv_aload_n hx hb dX5_weigh_1 rfl (lv_at hl 0 rfl) ?_
  refine lv_iload_n hx hb dX5_weigh_2 rfl (lv_at hl 1 rfl) ?_
  have hPc := hP.sub (ws' := [(h, .inr (5, [.int 1, .ref aweight, .ref aown, .int 0, .ref abetween, .ref acommunity, .ref afresh, .int 0, .ref atold, .ref areached, .ref aplaced, .int 0, .ref amoved, .ref agained, .int 0, .ref adegrees, .long 0]))]) [0] rfl
  have hDc := hD.sub (ws' := [(h, .inr (5, [.int 1, .ref aweight, .ref aown, .int 0, .ref abetween, .ref acommunity, .ref afresh, .int 0, .ref atold, .ref areached, .ref aplaced, .int 0, .ref amoved, .ref agained, .int 0, .ref adegrees, .long 0]))]) [0] (by decide) rfl
  have hFc := va_free (wc := [(h, .inr (5, [.int 1, .ref aweight, .ref aown, .int 0, .ref abetween, .ref acommunity, .ref afresh, .int 0, .ref atold, .ref areached, .ref aplaced, .int 0, .ref amoved, .ref agained, .int 0, .ref adegrees, .long 0]))]) hD hS hA [0] rfl
  refine va_calli (va_runV (As := [.int 0]) (rest := [.ref h]) ⟨hx, hb, hml, hown, hts⟩ (c_X5_noNode l dC dI cI cJ h aweight aown abetween acommunity afresh atold areached aplaced amoved agained adegrees s.heap.size 0) (cwV 1 hts gX5_weigh_X5_noNode rfl rfl rfl (by decide +kernel) ⟨Nat.le_of_ble_eq_true rfl, Nat.le_of_ble_eq_true rfl⟩) ⟨fun a U g mk q => by obtain ⟨q0, q1, qP, qK, qD⟩ := q; exact ⟨q0, q1, qP, va_K.moved (u := U) (U := U.calling g mk a) (Vm.Alike.refl U.vm) qK, qD⟩, va_recv hK hPc (ci := 5) (q0 := 0) rfl rfl, fun U hU hW => ⟨rfl, by rw [hU], by rw [hU]; exact hPc, va_K.moved hW.alike hK, hDc.weaken (fun _ _ _ _ => trivial)⟩⟩ rfl rfl hl.1 rfl (lv_room (Nat.le_of_ble_eq_true rfl)) dX5_weigh_3 ⟨Nat.le_of_ble_eq_true rfl, Nat.le_of_ble_eq_true rfl⟩) hS (fun q _ h => hFc q h) hFc (fun r_1 u_2 t H1 locs ht hvm hw hB hz1 hk1 hS => ?_)
  obtain ⟨hP1, hD1⟩ := hB
  rw [ht] at hP1
  obtain ⟨hP, hD⟩ := va_join (wr := [(aweight, .inl (cI, 1600, .inl Zi))]) (w1 := [(h, .inr (5, [.int 1, .ref aweight, .ref aown, .int 0, .ref abetween, .ref acommunity, .ref afresh, .int 0, .ref atold, .ref areached, .ref aplaced, .int 0, .ref amoved, .ref agained, .int 0, .ref adegrees, .long 0]))]) hP hD [0] [1] rfl rfl (by decide) (by decide) hk1 hFc hP1 hD1
  generalize H1 = H at hP hS ⊢
  have hP : va_P (dC, dI) vwCl [(aweight, .inl (cI, 1600, .inl Zi)), (h, .inr (5, [.int 1, .ref aweight, .ref aown, .int 0, .ref abetween, .ref acommunity, .ref afresh, .int 0, .ref atold, .ref areached, .ref aplaced, .int 0, .ref amoved, .ref agained, .int 0, .ref adegrees, .long 0]))] H := hP
  have hD : va_D A [(aweight, .inl (cI, 1600, .inl Zi)), (h, .inr (5, [.int 1, .ref aweight, .ref aown, .int 0, .ref abetween, .ref acommunity, .ref afresh, .int 0, .ref atold, .ref areached, .ref aplaced, .int 0, .ref amoved, .ref agained, .int 0, .ref adegrees, .long 0]))] := hD
  obtain rfl : r_1 = 0 := hw
  refine lv_if_ne (tgt := 17) hx hb dX5_weigh_6 (by decide) (fun c_3 => ?_) (fun c_3 => ?_)
  · exact absurd c_3 (by decide)
  refine lv_aload_n hx hb dX5_weigh_9 rfl (lv_at hl 0 rfl) ?_
  refine lv_iload_n hx hb dX5_weigh_10 rfl (lv_at hl 2 rfl) ?_
  have hPc := hP.sub (ws' := [(h, .inr (5, [.int 1, .ref aweight, .ref aown, .int 0, .ref abetween, .ref acommunity, .ref afresh, .int 0, .ref atold, .ref areached, .ref aplaced, .int 0, .ref amoved, .ref agained, .int 0, .ref adegrees, .long 0]))]) [1] rfl
  have hDc := hD.sub (ws' := [(h, .inr (5, [.int 1, .ref aweight, .ref aown, .int 0, .ref abetween, .ref acommunity, .ref afresh, .int 0, .ref atold, .ref areached, .ref aplaced, .int 0, .ref amoved, .ref agained, .int 0, .ref adegrees, .long 0]))]) [1] (by decide) rfl
  have hFc := va_free (wc := [(h, .inr (5, [.int 1, .ref aweight, .ref aown, .int 0, .ref abetween, .ref acommunity, .ref afresh, .int 0, .ref atold, .ref areached, .ref aplaced, .int 0, .ref amoved, .ref agained, .int 0, .ref adegrees, .long 0]))]) hD hS hA [1] rfl
  refine va_calli (va_runV (As := [.int 0]) (rest := [.ref h]) ⟨hx, hb, hml, hown, hts⟩ (c_X5_noNode l dC dI cI cJ h aweight aown abetween acommunity afresh atold areached aplaced amoved agained adegrees H.size 0) (cwV 1 hts gX5_weigh_X5_noNode rfl rfl rfl (by decide +kernel) ⟨Nat.le_of_ble_eq_true rfl, Nat.le_of_ble_eq_true rfl⟩) ⟨fun a U g mk q => by obtain ⟨q0, q1, qP, qK, qD⟩ := q; exact ⟨q0, q1, qP, va_K.moved (u := U) (U := U.calling g mk a) (Vm.Alike.refl U.vm) qK, qD⟩, va_recv hK hPc (ci := 5) (q0 := 0) rfl rfl, fun U hU hW => ⟨rfl, by rw [hU], by rw [hU]; exact hPc, va_K.moved hW.alike hK, hDc.weaken (fun _ _ _ _ => trivial)⟩⟩ rfl rfl hl.1 rfl (lv_room (Nat.le_of_ble_eq_true rfl)) dX5_weigh_11 ⟨Nat.le_of_ble_eq_true rfl, Nat.le_of_ble_eq_true rfl⟩) hS (fun q _ h => hFc q h) hFc (fun r_4 u_5 t H1 locs ht hvm hw hB hz1 hk1 hS => ?_)
  obtain ⟨hP1, hD1⟩ := hB
  rw [ht] at hP1
  obtain ⟨hP, hD⟩ := va_join (wr := [(aweight, .inl (cI, 1600, .inl Zi))]) (w1 := [(h, .inr (5, [.int 1, .ref aweight, .ref aown, .int 0, .ref abetween, .ref acommunity, .ref afresh, .int 0, .ref atold, .ref areached, .ref aplaced, .int 0, .ref amoved, .ref agained, .int 0, .ref adegrees, .long 0]))]) hP hD [1] [0] rfl rfl (by decide) (by decide) hk1 hFc hP1 hD1
  generalize H1 = H at hP hS ⊢
  have hP : va_P (dC, dI) vwCl [(aweight, .inl (cI, 1600, .inl Zi)), (h, .inr (5, [.int 1, .ref aweight, .ref aown, .int 0, .ref abetween, .ref acommunity, .ref afresh, .int 0, .ref atold, .ref areached, .ref aplaced, .int 0, .ref amoved, .ref agained, .int 0, .ref adegrees, .long 0]))] H := hP
  have hD : va_D A [(aweight, .inl (cI, 1600, .inl Zi)), (h, .inr (5, [.int 1, .ref aweight, .ref aown, .int 0, .ref abetween, .ref acommunity, .ref afresh, .int 0, .ref atold, .ref areached, .ref aplaced, .int 0, .ref amoved, .ref agained, .int 0, .ref adegrees, .long 0]))] := hD
  obtain rfl : r_4 = 0 := hw
  refine lv_if_eq (tgt := 21) hx hb dX5_weigh_14 (by decide) (fun c_6 => ?_) (fun c_6 => ?_)
  rotate_left
  · exact absurd (by decide) c_6
  refine lv_iconst (v := 0) hx hb dX5_weigh_21 (by decide) ?_
  refine va_put (D := (dC, dI)) (ci := 5) (v := .int 0) (ty := .int) (C := RX5) (T := TX5) (N := 17) hx hb hts i_5 tyX5 tyX5_ok nmX5 hown hK hP hD hS 1 rfl rfl 14 (by decide) k_0 (fun _ h9 => h9) rfl (by decide +kernel) rfl rfl (Nat.le_of_ble_eq_true rfl) dX5_weigh_22 (fun H locs hP hD hS => ?_)
  have hP : va_P (dC, dI) vwCl [(aweight, .inl (cI, 1600, .inl Zi)), (h, .inr (5, [.int 1, .ref aweight, .ref aown, .int 0, .ref abetween, .ref acommunity, .ref afresh, .int 0, .ref atold, .ref areached, .ref aplaced, .int 0, .ref amoved, .ref agained, .int 0, .ref adegrees, .long 0]))] H := hP
  have hD : va_D A [(aweight, .inl (cI, 1600, .inl Zi)), (h, .inr (5, [.int 1, .ref aweight, .ref aown, .int 0, .ref abetween, .ref acommunity, .ref afresh, .int 0, .ref atold, .ref areached, .ref aplaced, .int 0, .ref amoved, .ref agained, .int 0, .ref adegrees, .long 0]))] := hD
  refine lv_aload_n hx hb dX5_weigh_25 rfl (lv_at hl 0 rfl) ?_
  refine va_get (D := (dC, dI)) (ci := 5) (v := .int 0) (C := RX5) (T := TX5) (N := 17) hx hb hts i_5 hown hK hP 1 rfl rfl 14 (by decide) k_0 (fun _ h9 => h9) rfl dX5_weigh_26 ?_
  refine lv_if_le (tgt := 34) hx hb dX5_weigh_29 (by decide) (fun c_7 => ?_) (fun c_7 => ?_)
  rotate_left
  · exact absurd (by decide) c_7
  refine lv_aload_n hx hb dX5_weigh_34 rfl (lv_at hl 0 rfl) ?_
  refine va_get (D := (dC, dI)) (ci := 5) (v := .ref aweight) (C := RX5) (T := TX5) (N := 17) hx hb hts i_5 hown hK hP 1 rfl rfl 1 (by decide) k_1 (fun _ h9 => h9) rfl dX5_weigh_35 ?_
  refine lv_bipush (v := 40) hx hb dX5_weigh_38 (by decide) ?_
  refine lv_iload_n hx hb dX5_weigh_40 rfl (lv_at hl 1 rfl) ?_
  refine lv_imul hx hb dX5_weigh_41 ?_
  refine lc_i (v := 0) (by first | rfl | decide) ?_
  refine lv_iload_n hx hb dX5_weigh_42 rfl (lv_at hl 2 rfl) ?_
  refine lv_iadd hx hb dX5_weigh_43 ?_
  refine lc_i (v := 0) (by first | rfl | decide) ?_
  refine va_iald hx hb hK hP 0 0 rfl rfl (vp_c (by decide)) dX5_weigh_44 ?_
  refine lc_i (v := 0) (by first | rfl | decide) ?_
  refine lv_istore (lv' := [(4, .int 0), (0, .ref h), (1, .int 0), (2, .int 0), (3, .int w9)]) hx hb dX5_weigh_45 hl (by decide) rfl (fun ls hl => ?_)
  refine lv_aload_n hx hb dX5_weigh_47 rfl (lv_at hl 1 rfl) ?_
  refine lv_iload_n hx hb dX5_weigh_48 rfl (lv_at hl 4 rfl) ?_
  refine lv_if_lt (tgt := 70) hx hb dX5_weigh_49 (by decide) (fun c_8 => ?_) (fun c_8 => ?_)
  · exact absurd c_8 hw0
  refine lv_aload_n hx hb dX5_weigh_52 rfl (lv_at hl 1 rfl) ?_
  have hPc := hP.sub (ws' := [(h, .inr (5, [.int 1, .ref aweight, .ref aown, .int 0, .ref abetween, .ref acommunity, .ref afresh, .int 0, .ref atold, .ref areached, .ref aplaced, .int 0, .ref amoved, .ref agained, .int 0, .ref adegrees, .long 0])), (aweight, .inl (cI, 1600, .inl Zi))]) [1, 0] rfl
  have hDc := hD.sub (ws' := [(h, .inr (5, [.int 1, .ref aweight, .ref aown, .int 0, .ref abetween, .ref acommunity, .ref afresh, .int 0, .ref atold, .ref areached, .ref aplaced, .int 0, .ref amoved, .ref agained, .int 0, .ref adegrees, .long 0])), (aweight, .inl (cI, 1600, .inl Zi))]) [1, 0] (by decide) rfl
  have hFc := va_free (wc := [(h, .inr (5, [.int 1, .ref aweight, .ref aown, .int 0, .ref abetween, .ref acommunity, .ref afresh, .int 0, .ref atold, .ref areached, .ref aplaced, .int 0, .ref amoved, .ref agained, .int 0, .ref adegrees, .long 0])), (aweight, .inl (cI, 1600, .inl Zi))]) hD hS hA [1, 0] rfl
  refine va_calll (va_runV (As := []) (rest := [.ref h]) ⟨hx, hb, hml, hown, hts⟩ (c_X5_all l dC dI cI cJ h aweight aown abetween acommunity afresh atold areached aplaced amoved agained adegrees H.size) (cwV 0 hts gX5_weigh_X5_all rfl rfl rfl (by decide +kernel) ⟨Nat.le_of_ble_eq_true rfl, Nat.le_of_ble_eq_true rfl⟩) ⟨fun a U g mk q => by obtain ⟨q0, q1, qP, qK, qD⟩ := q; exact ⟨q0, q1, qP, va_K.moved (u := U) (U := U.calling g mk a) (Vm.Alike.refl U.vm) qK, qD⟩, va_recv hK hPc (ci := 5) (q0 := 0) rfl rfl, fun U hU hW => ⟨rfl, by rw [hU], by rw [hU]; exact hPc, va_K.moved hW.alike hK, hDc.weaken (fun _ _ _ _ => trivial)⟩⟩ rfl rfl hl.1 rfl (lv_room (Nat.le_of_ble_eq_true rfl)) dX5_weigh_53 ⟨Nat.le_of_ble_eq_true rfl, Nat.le_of_ble_eq_true rfl⟩) hS (fun q _ h => hFc q h) hFc (fun r_9 u_10 t H1 locs ht hvm hw hB hz1 hk1 hS => ?_)
  obtain ⟨hP1, hD1⟩ := hB
  rw [ht] at hP1
  obtain ⟨hP, hD⟩ := va_join (wr := []) (w1 := [(h, .inr (5, [.int 1, .ref aweight, .ref aown, .int 0, .ref abetween, .ref acommunity, .ref afresh, .int 0, .ref atold, .ref areached, .ref aplaced, .int 0, .ref amoved, .ref agained, .int 0, .ref adegrees, .long 0])), (aweight, .inl (cI, 1600, .inl Zi))]) hP hD [1, 0] [] rfl rfl (by decide) (by decide) hk1 hFc hP1 hD1
  generalize H1 = H at hP hS ⊢
  have hP : va_P (dC, dI) vwCl [(h, .inr (5, [.int 1, .ref aweight, .ref aown, .int 0, .ref abetween, .ref acommunity, .ref afresh, .int 0, .ref atold, .ref areached, .ref aplaced, .int 0, .ref amoved, .ref agained, .int 0, .ref adegrees, .long 0])), (aweight, .inl (cI, 1600, .inl Zi))] H := hP
  have hD : va_D A [(h, .inr (5, [.int 1, .ref aweight, .ref aown, .int 0, .ref abetween, .ref acommunity, .ref afresh, .int 0, .ref atold, .ref areached, .ref aplaced, .int 0, .ref amoved, .ref agained, .int 0, .ref adegrees, .long 0])), (aweight, .inl (cI, 1600, .inl Zi))] := hD
  obtain rfl : r_9 = 0 := hw
  refine lv_iload hx hb dX5_weigh_56 (lv_at hl 0 rfl) ?_
  refine lv_i2l (v := 0) hx hb dX5_weigh_58 (by decide) ?_
  refine lv_lsub hx hb dX5_weigh_59 ?_
  refine lc_l (v := 0) (by first | rfl | decide) ?_
  refine lv_iload_n hx hb dX5_weigh_60 rfl (lv_at hl 4 rfl) ?_
  refine lv_i2l (v := w9.toInt64) hx hb dX5_weigh_61 rfl ?_
  refine lv_ladd hx hb dX5_weigh_62 ?_
  refine lv_ldc2 (own := RX5) (v := 536870912) hx hb hown k_2 dX5_weigh_63 ?_
  refine W.lcmp hx hb dX5_weigh_66 ?_
  refine lv_if_lt (tgt := 74) hx hb dX5_weigh_67 (by decide) (fun c_11 => ?_) (fun c_11 => ?_)
  · exact absurd c_11 hw2
  refine lv_iconst (v := 2) hx hb dX5_weigh_70 (by decide) ?_
  refine lv_goto (tgt := 75) hx hb dX5_weigh_71 (by decide) ?_
  refine va_put (D := (dC, dI)) (ci := 5) (v := .int 2) (ty := .int) (C := RX5) (T := TX5) (N := 17) hx hb hts i_5 tyX5 tyX5_ok nmX5 hown hK hP hD hS 0 rfl rfl 14 (by decide) k_0 (fun _ h9 => h9) rfl (by decide +kernel) rfl rfl (Nat.le_of_ble_eq_true rfl) dX5_weigh_75 (fun H locs hP hD hS => ?_)
  have hP : va_P (dC, dI) vwCl [(h, .inr (5, [.int 1, .ref aweight, .ref aown, .int 0, .ref abetween, .ref acommunity, .ref afresh, .int 0, .ref atold, .ref areached, .ref aplaced, .int 0, .ref amoved, .ref agained, .int 2, .ref adegrees, .long 0])), (aweight, .inl (cI, 1600, .inl Zi))] H := hP
  have hD : va_D A [(h, .inr (5, [.int 1, .ref aweight, .ref aown, .int 0, .ref abetween, .ref acommunity, .ref afresh, .int 0, .ref atold, .ref areached, .ref aplaced, .int 0, .ref amoved, .ref agained, .int 2, .ref adegrees, .long 0])), (aweight, .inl (cI, 1600, .inl Zi))] := hD
  refine lv_aload_n hx hb dX5_weigh_78 rfl (lv_at hl 1 rfl) ?_
  refine va_get (D := (dC, dI)) (ci := 5) (v := .int 2) (C := RX5) (T := TX5) (N := 17) hx hb hts i_5 hown hK hP 0 rfl rfl 14 (by decide) k_0 (fun _ h9 => h9) rfl dX5_weigh_79 ?_
  refine lv_if_le (tgt := 87) hx hb dX5_weigh_82 (by decide) (fun c_12 => ?_) (fun c_12 => ?_)
  · exact absurd c_12 (by decide)
  refine lv_iconst (v := 0) hx hb dX5_weigh_85 (by decide) ?_
  have hP9 := hP.sub (ws' := [(h, .inr (5, [.int 1, .ref aweight, .ref aown, .int 0, .ref abetween, .ref acommunity, .ref afresh, .int 0, .ref atold, .ref areached, .ref aplaced, .int 0, .ref amoved, .ref agained, .int 2, .ref adegrees, .long 0]))]) [0] rfl
  have hD9 := hD.sub (ws' := [(h, .inr (5, [.int 1, .ref aweight, .ref aown, .int 0, .ref abetween, .ref acommunity, .ref afresh, .int 0, .ref atold, .ref areached, .ref aplaced, .int 0, .ref amoved, .ref agained, .int 2, .ref adegrees, .long 0]))]) [0] (by decide) rfl
  exact W.iret (v := 0) hx hb hr (fun t ht hW => ⟨⟨_, (), rfl, rfl, by rw [ht]; exact hP9, hD9⟩, hS.F ht⟩) hS.2.2 dX5_weigh_86
