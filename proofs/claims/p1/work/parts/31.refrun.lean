set_option maxHeartbeats 4000000 in
set_option maxRecDepth 100000 in
theorem c_X5_first (l : Launch) (dC : Nat → ClassId) (dI : Nat → Nat → Nat) (cI cJ : ClassId) (h aweight aown abetween acommunity afresh atold areached aplaced amoved agained adegrees : Nat) (sz : Nat) : Met l yX5_first wsX5_first ({ frames := 0, cells := 0, slots := 0, locals := 0 }) (va_Pc [.ref h] (pPre dC dI cI cJ sz [(h, .inr (5, [.int 1, .ref aweight, .ref aown, .int 0, .ref abetween, .ref acommunity, .ref afresh, .int 0, .ref atold, .ref areached, .ref aplaced, .int 0, .ref amoved, .ref agained, .int 0, .ref adegrees, .long 0])), (aweight, .inl (cI, 1600, .inl Zi)), (abetween, .inl (cJ, 1600, .inr (.inl Zl)))])) (va_Qv (fun _ : Unit => True) (pPost dC dI (va_A [(h, .inr (5, [.int 1, .ref aweight, .ref aown, .int 0, .ref abetween, .ref acommunity, .ref afresh, .int 0, .ref atold, .ref areached, .ref aplaced, .int 0, .ref amoved, .ref agained, .int 0, .ref adegrees, .long 0])), (aweight, .inl (cI, 1600, .inl Zi)), (abetween, .inl (cJ, 1600, .inr (.inl Zl)))] sz) [(h, .inr (5, [.int 1, .ref aweight, .ref aown, .int 1, .ref abetween, .ref acommunity, .ref afresh, .int 0, .ref atold, .ref areached, .ref aplaced, .int 0, .ref amoved, .ref agained, .int 0, .ref adegrees, .long 0])), (aweight, .inl (cI, 1600, .inl Zi)), (abetween, .inl (cJ, 1600, .inr (.inl (vp_updL Zl 0 0))))]) (va_A [(h, .inr (5, [.int 1, .ref aweight, .ref aown, .int 0, .ref abetween, .ref acommunity, .ref afresh, .int 0, .ref atold, .ref areached, .ref aplaced, .int 0, .ref amoved, .ref agained, .int 0, .ref adegrees, .long 0])), (aweight, .inl (cI, 1600, .inl Zi)), (abetween, .inl (cJ, 1600, .inr (.inl Zl)))] sz)) 0 0 (va_A [(h, .inr (5, [.int 1, .ref aweight, .ref aown, .int 0, .ref abetween, .ref acommunity, .ref afresh, .int 0, .ref atold, .ref areached, .ref aplaced, .int 0, .ref amoved, .ref agained, .int 0, .ref adegrees, .long 0])), (aweight, .inl (cI, 1600, .inl Zi)), (abetween, .inl (cJ, 1600, .inr (.inl Zl)))] sz) := by
  refine Met.ofW (cc := cX5_first) (maxL := 3) (ret := none) (by decide) rfl ?_
  intro p e s m args below meth c s₁ B hml hv
  obtain ⟨rfl, hsz, hP, hK, hD0⟩ := hv
  have hx := B.exec
  have hb := B.bytes
  have hr := B.returns
  have hts := atoms_spec (ws := wsX5_first) B.pre
  have hown : s.vm.findClass RX5 = some m.cls := findClass_of_methodNamed B.named
  have hlocks := B.notSynchronized
  subst hsz
  have hD := hD0.self (sz := s.heap.size)
  generalize hAe : va_A [(h, .inr (5, [.int 1, .ref aweight, .ref aown, .int 0, .ref abetween, .ref acommunity, .ref afresh, .int 0, .ref atold, .ref areached, .ref aplaced, .int 0, .ref amoved, .ref agained, .int 0, .ref adegrees, .long 0])), (aweight, .inl (cI, 1600, .inl Zi)), (abetween, .inl (cJ, 1600, .inr (.inl Zl)))] s.heap.size = A at hD ⊢
  have hA : ∀ q : Nat, s.heap.size ≤ q → A q := fun q h => by rw [← hAe]; exact Or.inr h
  have hS : va_S A s.heap s.heap [] := va_S.rf
  have hP : va_P (dC, dI) vwCl [(h, .inr (5, [.int 1, .ref aweight, .ref aown, .int 0, .ref abetween, .ref acommunity, .ref afresh, .int 0, .ref atold, .ref areached, .ref aplaced, .int 0, .ref amoved, .ref agained, .int 0, .ref adegrees, .long 0])), (aweight, .inl (cI, 1600, .inl Zi)), (abetween, .inl (cJ, 1600, .inr (.inl Zl)))] s.heap := hP
  have hl := lv_entry ([.ref h]) (n := 3) (Nat.le_of_ble_eq_true rfl)
  rw [lg_entry_eq]
  generalize (lg_sl ([.ref h]) ++ List.replicate (3 - (lg_sl ([.ref h])).length) Slot.unset).toArray = ls at hl ⊢
  have hl : lv_has ls 3 [(0, .ref h)] := hl
  have i_5 : ∀ w ∈ wsX50, w ∈ wsX5_first := by decide +kernel
  have k_0 := hts (.fieldLink RX5 7 "CommunityLevelsModel" "n" "I") (by decide +kernel)
  have k_1 := hts (.fieldLink RX5 70 "CommunityLevelsModel" "many" "I") (by decide +kernel)
  have k_2 := hts (.fieldLink RX5 20 "CommunityLevelsModel" "between" "[J") (by decide +kernel)
  have k_3 := hts (.fieldLink RX5 13 "CommunityLevelsModel" "weight" "[I") (by decide +kernel)
  refine lv_aload_n hx hb dX5_first_0 rfl (lv_at hl 0 rfl) ?_
  refine lv_aload_n hx hb dX5_first_1 rfl (lv_at hl 0 rfl) ?_
  refine va_get (D := (dC, dI)) (ci := 5) (v := .int 1) (C := RX5) (T := TX5) (N := 17) hx hb hts i_5 hown hK hP 0 rfl rfl 0 (by decide) k_0 (fun _ h9 => h9) rfl dX5_first_2 ?_
  refine va_put (D := (dC, dI)) (ci := 5) (v := .int 1) (ty := .int) (C := RX5) (T := TX5) (N := 17) hx hb hts i_5 tyX5 tyX5_ok nmX5 hown hK hP hD hS 0 rfl rfl 3 (by decide) k_1 (fun _ h9 => h9) rfl (by decide +kernel) rfl rfl (Nat.le_of_ble_eq_true rfl) dX5_first_5 (fun H locs hP hD hS => ?_)
  have hP : va_P (dC, dI) vwCl [(h, .inr (5, [.int 1, .ref aweight, .ref aown, .int 1, .ref abetween, .ref acommunity, .ref afresh, .int 0, .ref atold, .ref areached, .ref aplaced, .int 0, .ref amoved, .ref agained, .int 0, .ref adegrees, .long 0])), (aweight, .inl (cI, 1600, .inl Zi)), (abetween, .inl (cJ, 1600, .inr (.inl Zl)))] H := hP
  have hD : va_D A [(h, .inr (5, [.int 1, .ref aweight, .ref aown, .int 1, .ref abetween, .ref acommunity, .ref afresh, .int 0, .ref atold, .ref areached, .ref aplaced, .int 0, .ref amoved, .ref agained, .int 0, .ref adegrees, .long 0])), (aweight, .inl (cI, 1600, .inl Zi)), (abetween, .inl (cJ, 1600, .inr (.inl Zl)))] := hD
  refine lv_iconst (v := 0) hx hb dX5_first_8 (by decide) ?_
  refine lv_istore_n (lv' := [(1, .int 0), (0, .ref h)]) hx hb dX5_first_9 rfl hl (by decide) rfl (fun ls hl => ?_)
  refine lv_iload_n hx hb dX5_first_10 rfl (lv_at hl 0 rfl) ?_
  refine lv_aload_n hx hb dX5_first_11 rfl (lv_at hl 1 rfl) ?_
  refine va_get (D := (dC, dI)) (ci := 5) (v := .int 1) (C := RX5) (T := TX5) (N := 17) hx hb hts i_5 hown hK hP 0 rfl rfl 0 (by decide) k_0 (fun _ h9 => h9) rfl dX5_first_12 ?_
  refine lv_icmp_ge (tgt := 63) hx hb dX5_first_15 (by decide) (fun c_1 => ?_) (fun c_1 => ?_)
  · exact absurd c_1 (by decide)
  refine lv_iconst (v := 0) hx hb dX5_first_18 (by decide) ?_
  refine lv_istore_n (lv' := [(2, .int 0), (1, .int 0), (0, .ref h)]) hx hb dX5_first_19 rfl hl (by decide) rfl (fun ls hl => ?_)
  refine lv_iload_n hx hb dX5_first_20 rfl (lv_at hl 0 rfl) ?_
  refine lv_aload_n hx hb dX5_first_21 rfl (lv_at hl 2 rfl) ?_
  refine va_get (D := (dC, dI)) (ci := 5) (v := .int 1) (C := RX5) (T := TX5) (N := 17) hx hb hts i_5 hown hK hP 0 rfl rfl 0 (by decide) k_0 (fun _ h9 => h9) rfl dX5_first_22 ?_
  refine lv_icmp_ge (tgt := 57) hx hb dX5_first_25 (by decide) (fun c_2 => ?_) (fun c_2 => ?_)
  · exact absurd c_2 (by decide)
  refine lv_aload_n hx hb dX5_first_28 rfl (lv_at hl 2 rfl) ?_
  refine va_get (D := (dC, dI)) (ci := 5) (v := .ref abetween) (C := RX5) (T := TX5) (N := 17) hx hb hts i_5 hown hK hP 0 rfl rfl 4 (by decide) k_2 (fun _ h9 => h9) rfl dX5_first_29 ?_
  refine lv_bipush (v := 40) hx hb dX5_first_32 (by decide) ?_
  refine lv_iload_n hx hb dX5_first_34 rfl (lv_at hl 1 rfl) ?_
  refine lv_imul hx hb dX5_first_35 ?_
  refine lc_i (v := 0) (by first | rfl | decide) ?_
  refine lv_iload_n hx hb dX5_first_36 rfl (lv_at hl 0 rfl) ?_
  refine lv_iadd hx hb dX5_first_37 ?_
  refine lc_i (v := 0) (by first | rfl | decide) ?_
  refine lv_aload_n hx hb dX5_first_38 rfl (lv_at hl 2 rfl) ?_
  refine va_get (D := (dC, dI)) (ci := 5) (v := .ref aweight) (C := RX5) (T := TX5) (N := 17) hx hb hts i_5 hown hK hP 0 rfl rfl 1 (by decide) k_3 (fun _ h9 => h9) rfl dX5_first_39 ?_
  refine lv_bipush (v := 40) hx hb dX5_first_42 (by decide) ?_
  refine lv_iload_n hx hb dX5_first_44 rfl (lv_at hl 1 rfl) ?_
  refine lv_imul hx hb dX5_first_45 ?_
  refine lc_i (v := 0) (by first | rfl | decide) ?_
  refine lv_iload_n hx hb dX5_first_46 rfl (lv_at hl 0 rfl) ?_
  refine lv_iadd hx hb dX5_first_47 ?_
  refine lc_i (v := 0) (by first | rfl | decide) ?_
  refine va_iald hx hb hK hP 1 0 rfl rfl (vp_c (by decide)) dX5_first_48 ?_
  refine lc_i (v := 0) (by first | rfl | decide) ?_
  refine lv_i2l (v := 0) hx hb dX5_first_49 (by decide) ?_
  refine va_last hx hb hK hP hD hS 2 1 rfl rfl (vp_c (by decide)) dX5_first_50 (fun H locs hP hD hS => ?_)
  have hP : va_P (dC, dI) vwCl [(h, .inr (5, [.int 1, .ref aweight, .ref aown, .int 1, .ref abetween, .ref acommunity, .ref afresh, .int 0, .ref atold, .ref areached, .ref aplaced, .int 0, .ref amoved, .ref agained, .int 0, .ref adegrees, .long 0])), (aweight, .inl (cI, 1600, .inl Zi)), (abetween, .inl (cJ, 1600, .inr (.inl (vp_updL Zl 0 0))))] H := hP
  have hD : va_D A [(h, .inr (5, [.int 1, .ref aweight, .ref aown, .int 1, .ref abetween, .ref acommunity, .ref afresh, .int 0, .ref atold, .ref areached, .ref aplaced, .int 0, .ref amoved, .ref agained, .int 0, .ref adegrees, .long 0])), (aweight, .inl (cI, 1600, .inl Zi)), (abetween, .inl (cJ, 1600, .inr (.inl (vp_updL Zl 0 0))))] := hD
  refine lv_iinc (v := 1) (lv' := [(2, .int 1), (1, .int 0), (0, .ref h)]) hx hb dX5_first_51 hl (k := 0) rfl (by decide) (by decide) rfl (fun ls hl => ?_)
  refine lv_goto (tgt := 20) hx hb dX5_first_54 (by decide) ?_
  refine lv_iload_n hx hb dX5_first_20 rfl (lv_at hl 0 rfl) ?_
  refine lv_aload_n hx hb dX5_first_21 rfl (lv_at hl 2 rfl) ?_
  refine va_get (D := (dC, dI)) (ci := 5) (v := .int 1) (C := RX5) (T := TX5) (N := 17) hx hb hts i_5 hown hK hP 0 rfl rfl 0 (by decide) k_0 (fun _ h9 => h9) rfl dX5_first_22 ?_
  refine lv_icmp_ge (tgt := 57) hx hb dX5_first_25 (by decide) (fun c_3 => ?_) (fun c_3 => ?_)
  rotate_left
  · exact absurd (by decide) c_3
  refine lv_iinc (v := 1) (lv' := [(1, .int 1), (2, .int 1), (0, .ref h)]) hx hb dX5_first_57 hl (k := 1) rfl (by decide) (by decide) rfl (fun ls hl => ?_)
  refine lv_goto (tgt := 10) hx hb dX5_first_60 (by decide) ?_
  refine lv_iload_n hx hb dX5_first_10 rfl (lv_at hl 0 rfl) ?_
  refine lv_aload_n hx hb dX5_first_11 rfl (lv_at hl 2 rfl) ?_
  refine va_get (D := (dC, dI)) (ci := 5) (v := .int 1) (C := RX5) (T := TX5) (N := 17) hx hb hts i_5 hown hK hP 0 rfl rfl 0 (by decide) k_0 (fun _ h9 => h9) rfl dX5_first_12 ?_
  refine lv_icmp_ge (tgt := 63) hx hb dX5_first_15 (by decide) (fun c_4 => ?_) (fun c_4 => ?_)
  rotate_left
  · exact absurd (by decide) c_4
  have hP9 := hP.sub (ws' := [(h, .inr (5, [.int 1, .ref aweight, .ref aown, .int 1, .ref abetween, .ref acommunity, .ref afresh, .int 0, .ref atold, .ref areached, .ref aplaced, .int 0, .ref amoved, .ref agained, .int 0, .ref adegrees, .long 0])), (aweight, .inl (cI, 1600, .inl Zi)), (abetween, .inl (cJ, 1600, .inr (.inl (vp_updL Zl 0 0))))]) [0, 1, 2] rfl
  have hD9 := hD.sub (ws' := [(h, .inr (5, [.int 1, .ref aweight, .ref aown, .int 1, .ref abetween, .ref acommunity, .ref afresh, .int 0, .ref atold, .ref areached, .ref aplaced, .int 0, .ref amoved, .ref agained, .int 0, .ref adegrees, .long 0])), (aweight, .inl (cI, 1600, .inl Zi)), (abetween, .inl (cJ, 1600, .inr (.inl (vp_updL Zl 0 0))))]) [0, 1, 2] (by decide) rfl
  exact W.vret hx hb hr (fun t ht hW => ⟨⟨(), rfl, trivial, by rw [ht]; exact hP9, hD9⟩, hS.F ht⟩) hS.2.2 dX5_first_63
set_option maxHeartbeats 4000000 in
set_option maxRecDepth 100000 in
theorem c_X5_degree (l : Launch) (dC : Nat → ClassId) (dI : Nat → Nat → Nat) (cI cJ : ClassId) (h aweight aown abetween acommunity afresh atold areached aplaced amoved agained adegrees : Nat) (sz : Nat) : Met l yX5_degree wsX5_degree ({ frames := 0, cells := 0, slots := 0, locals := 0 }) (va_Pc [.ref h, .int 0] (pPre dC dI cI cJ sz [(h, .inr (5, [.int 1, .ref aweight, .ref aown, .int 1, .ref abetween, .ref acommunity, .ref afresh, .int 0, .ref atold, .ref areached, .ref aplaced, .int 0, .ref amoved, .ref agained, .int 0, .ref adegrees, .long 0])), (abetween, .inl (cJ, 1600, .inr (.inl (vp_updL Zl 0 0))))])) (va_Ql (fun (r : Int64) (_ : Unit) => r = 0) (pPost dC dI (va_A [(h, .inr (5, [.int 1, .ref aweight, .ref aown, .int 1, .ref abetween, .ref acommunity, .ref afresh, .int 0, .ref atold, .ref areached, .ref aplaced, .int 0, .ref amoved, .ref agained, .int 0, .ref adegrees, .long 0])), (abetween, .inl (cJ, 1600, .inr (.inl (vp_updL Zl 0 0))))] sz) [(h, .inr (5, [.int 1, .ref aweight, .ref aown, .int 1, .ref abetween, .ref acommunity, .ref afresh, .int 0, .ref atold, .ref areached, .ref aplaced, .int 0, .ref amoved, .ref agained, .int 0, .ref adegrees, .long 0])), (abetween, .inl (cJ, 1600, .inr (.inl (vp_updL Zl 0 0))))]) (va_A [(h, .inr (5, [.int 1, .ref aweight, .ref aown, .int 1, .ref abetween, .ref acommunity, .ref afresh, .int 0, .ref atold, .ref areached, .ref aplaced, .int 0, .ref amoved, .ref agained, .int 0, .ref adegrees, .long 0])), (abetween, .inl (cJ, 1600, .inr (.inl (vp_updL Zl 0 0))))] sz)) 0 0 (va_A [(h, .inr (5, [.int 1, .ref aweight, .ref aown, .int 1, .ref abetween, .ref acommunity, .ref afresh, .int 0, .ref atold, .ref areached, .ref aplaced, .int 0, .ref amoved, .ref agained, .int 0, .ref adegrees, .long 0])), (abetween, .inl (cJ, 1600, .inr (.inl (vp_updL Zl 0 0))))] sz) := by
  refine Met.ofW (cc := cX5_degree) (maxL := 5) (ret := (some .long)) (by decide) rfl ?_
  intro p e s m args below meth c s₁ B hml hv
  obtain ⟨rfl, hsz, hP, hK, hD0⟩ := hv
  have hx := B.exec
  have hb := B.bytes
  have hr := B.returns
  have hts := atoms_spec (ws := wsX5_degree) B.pre
  have hown : s.vm.findClass RX5 = some m.cls := findClass_of_methodNamed B.named
  have hlocks := B.notSynchronized
  subst hsz
  have hD := hD0.self (sz := s.heap.size)
  generalize hAe : va_A [(h, .inr (5, [.int 1, .ref aweight, .ref aown, .int 1, .ref abetween, .ref acommunity, .ref afresh, .int 0, .ref atold, .ref areached, .ref aplaced, .int 0, .ref amoved, .ref agained, .int 0, .ref adegrees, .long 0])), (abetween, .inl (cJ, 1600, .inr (.inl (vp_updL Zl 0 0))))] s.heap.size = A at hD ⊢
  have hA : ∀ q : Nat, s.heap.size ≤ q → A q := fun q h => by rw [← hAe]; exact Or.inr h
  have hS : va_S A s.heap s.heap [] := va_S.rf
  have hP : va_P (dC, dI) vwCl [(h, .inr (5, [.int 1, .ref aweight, .ref aown, .int 1, .ref abetween, .ref acommunity, .ref afresh, .int 0, .ref atold, .ref areached, .ref aplaced, .int 0, .ref amoved, .ref agained, .int 0, .ref adegrees, .long 0])), (abetween, .inl (cJ, 1600, .inr (.inl (vp_updL Zl 0 0))))] s.heap := hP
  have hl := lv_entry ([.ref h, .int 0]) (n := 5) (Nat.le_of_ble_eq_true rfl)
  rw [lg_entry_eq]
  generalize (lg_sl ([.ref h, .int 0]) ++ List.replicate (5 - (lg_sl ([.ref h, .int 0])).length) Slot.unset).toArray = ls at hl ⊢
  have hl : lv_has ls 5 [(0, .ref h), (1, .int 0)] := hl
  have i_5 : ∀ w ∈ wsX50, w ∈ wsX5_degree := by decide +kernel
  have k_0 := hts (.fieldLink RX5 20 "CommunityLevelsModel" "between" "[J") (by decide +kernel)
  have k_1 := hts (.fieldLink RX5 70 "CommunityLevelsModel" "many" "I") (by decide +kernel)
  refine lv_aload_n hx hb dX5_degree_0 rfl (lv_at hl 0 rfl) ?_
  refine va_get (D := (dC, dI)) (ci := 5) (v := .ref abetween) (C := RX5) (T := TX5) (N := 17) hx hb hts i_5 hown hK hP 0 rfl rfl 4 (by decide) k_0 (fun _ h9 => h9) rfl dX5_degree_1 ?_
  refine lv_bipush (v := 40) hx hb dX5_degree_4 (by decide) ?_
  refine lv_iload_n hx hb dX5_degree_6 rfl (lv_at hl 1 rfl) ?_
  refine lv_imul hx hb dX5_degree_7 ?_
  refine lc_i (v := 0) (by first | rfl | decide) ?_
  refine lv_iload_n hx hb dX5_degree_8 rfl (lv_at hl 1 rfl) ?_
  refine lv_iadd hx hb dX5_degree_9 ?_
  refine lc_i (v := 0) (by first | rfl | decide) ?_
  refine va_lald hx hb hK hP 1 1 rfl rfl (vp_c (by decide)) dX5_degree_10 ?_
  refine lc_l (v := 0) (by first | rfl | decide) ?_
  refine lv_lstore_n (lv' := [(2, .long 0), (0, .ref h), (1, .int 0)]) hx hb dX5_degree_11 rfl hl (by decide) rfl (fun ls hl => ?_)
  refine lv_iconst (v := 0) hx hb dX5_degree_12 (by decide) ?_
  refine lv_istore (lv' := [(4, .int 0), (2, .long 0), (0, .ref h), (1, .int 0)]) hx hb dX5_degree_13 hl (by decide) rfl (fun ls hl => ?_)
  refine lv_iload hx hb dX5_degree_15 (lv_at hl 0 rfl) ?_
  refine lv_aload_n hx hb dX5_degree_17 rfl (lv_at hl 2 rfl) ?_
  refine va_get (D := (dC, dI)) (ci := 5) (v := .int 1) (C := RX5) (T := TX5) (N := 17) hx hb hts i_5 hown hK hP 0 rfl rfl 3 (by decide) k_1 (fun _ h9 => h9) rfl dX5_degree_18 ?_
  refine lv_icmp_ge (tgt := 45) hx hb dX5_degree_21 (by decide) (fun c_1 => ?_) (fun c_1 => ?_)
  · exact absurd c_1 (by decide)
  refine lv_lload_n hx hb dX5_degree_24 rfl (lv_at hl 1 rfl) ?_
  refine lv_aload_n hx hb dX5_degree_25 rfl (lv_at hl 2 rfl) ?_
  refine va_get (D := (dC, dI)) (ci := 5) (v := .ref abetween) (C := RX5) (T := TX5) (N := 17) hx hb hts i_5 hown hK hP 0 rfl rfl 4 (by decide) k_0 (fun _ h9 => h9) rfl dX5_degree_26 ?_
  refine lv_bipush (v := 40) hx hb dX5_degree_29 (by decide) ?_
  refine lv_iload_n hx hb dX5_degree_31 rfl (lv_at hl 3 rfl) ?_
  refine lv_imul hx hb dX5_degree_32 ?_
  refine lc_i (v := 0) (by first | rfl | decide) ?_
  refine lv_iload hx hb dX5_degree_33 (lv_at hl 0 rfl) ?_
  refine lv_iadd hx hb dX5_degree_35 ?_
  refine lc_i (v := 0) (by first | rfl | decide) ?_
  refine va_lald hx hb hK hP 1 1 rfl rfl (vp_c (by decide)) dX5_degree_36 ?_
  refine lc_l (v := 0) (by first | rfl | decide) ?_
  refine lv_ladd hx hb dX5_degree_37 ?_
  refine lc_l (v := 0) (by first | rfl | decide) ?_
  refine lv_lstore_n (lv' := [(2, .long 0), (4, .int 0), (0, .ref h), (1, .int 0)]) hx hb dX5_degree_38 rfl hl (by decide) rfl (fun ls hl => ?_)
  refine lv_iinc (v := 1) (lv' := [(4, .int 1), (2, .long 0), (0, .ref h), (1, .int 0)]) hx hb dX5_degree_39 hl (k := 1) rfl (by decide) (by decide) rfl (fun ls hl => ?_)
  refine lv_goto (tgt := 15) hx hb dX5_degree_42 (by decide) ?_
  refine lv_iload hx hb dX5_degree_15 (lv_at hl 0 rfl) ?_
  refine lv_aload_n hx hb dX5_degree_17 rfl (lv_at hl 2 rfl) ?_
  refine va_get (D := (dC, dI)) (ci := 5) (v := .int 1) (C := RX5) (T := TX5) (N := 17) hx hb hts i_5 hown hK hP 0 rfl rfl 3 (by decide) k_1 (fun _ h9 => h9) rfl dX5_degree_18 ?_
  refine lv_icmp_ge (tgt := 45) hx hb dX5_degree_21 (by decide) (fun c_2 => ?_) (fun c_2 => ?_)
  rotate_left
  · exact absurd (by decide) c_2
  refine lv_lload_n hx hb dX5_degree_45 rfl (lv_at hl 1 rfl) ?_
  have hP9 := hP.sub (ws' := [(h, .inr (5, [.int 1, .ref aweight, .ref aown, .int 1, .ref abetween, .ref acommunity, .ref afresh, .int 0, .ref atold, .ref areached, .ref aplaced, .int 0, .ref amoved, .ref agained, .int 0, .ref adegrees, .long 0])), (abetween, .inl (cJ, 1600, .inr (.inl (vp_updL Zl 0 0))))]) [0, 1] rfl
  have hD9 := hD.sub (ws' := [(h, .inr (5, [.int 1, .ref aweight, .ref aown, .int 1, .ref abetween, .ref acommunity, .ref afresh, .int 0, .ref atold, .ref areached, .ref aplaced, .int 0, .ref amoved, .ref agained, .int 0, .ref adegrees, .long 0])), (abetween, .inl (cJ, 1600, .inr (.inl (vp_updL Zl 0 0))))]) [0, 1] (by decide) rfl
  exact W.lret (v := 0) hx hb hr (fun t ht hW => ⟨⟨_, (), rfl, rfl, by rw [ht]; exact hP9, hD9⟩, hS.F ht⟩) hS.2.2 dX5_degree_46
set_option maxHeartbeats 4000000 in
set_option maxRecDepth 100000 in
theorem c_X5_sum (l : Launch) (dC : Nat → ClassId) (dI : Nat → Nat → Nat) (cI cJ : ClassId) (h aweight aown abetween acommunity afresh atold areached aplaced amoved agained adegrees : Nat) (sz : Nat) : Met l yX5_sum wsX5_sum ({ frames := 0, cells := 0, slots := 0, locals := 0 }) (va_Pc [.ref h] (pPre dC dI cI cJ sz [(h, .inr (5, [.int 1, .ref aweight, .ref aown, .int 1, .ref abetween, .ref acommunity, .ref afresh, .int 0, .ref atold, .ref areached, .ref aplaced, .int 0, .ref amoved, .ref agained, .int 0, .ref adegrees, .long 0])), (abetween, .inl (cJ, 1600, .inr (.inl (vp_updL Zl 0 0))))])) (va_Ql (fun (r : Int64) (_ : Unit) => r = 0) (pPost dC dI (va_A [(h, .inr (5, [.int 1, .ref aweight, .ref aown, .int 1, .ref abetween, .ref acommunity, .ref afresh, .int 0, .ref atold, .ref areached, .ref aplaced, .int 0, .ref amoved, .ref agained, .int 0, .ref adegrees, .long 0])), (abetween, .inl (cJ, 1600, .inr (.inl (vp_updL Zl 0 0))))] sz) [(h, .inr (5, [.int 1, .ref aweight, .ref aown, .int 1, .ref abetween, .ref acommunity, .ref afresh, .int 0, .ref atold, .ref areached, .ref aplaced, .int 0, .ref amoved, .ref agained, .int 0, .ref adegrees, .long 0])), (abetween, .inl (cJ, 1600, .inr (.inl (vp_updL Zl 0 0))))]) (va_A [(h, .inr (5, [.int 1, .ref aweight, .ref aown, .int 1, .ref abetween, .ref acommunity, .ref afresh, .int 0, .ref atold, .ref areached, .ref aplaced, .int 0, .ref amoved, .ref agained, .int 0, .ref adegrees, .long 0])), (abetween, .inl (cJ, 1600, .inr (.inl (vp_updL Zl 0 0))))] sz)) 0 0 (va_A [(h, .inr (5, [.int 1, .ref aweight, .ref aown, .int 1, .ref abetween, .ref acommunity, .ref afresh, .int 0, .ref atold, .ref areached, .ref aplaced, .int 0, .ref amoved, .ref agained, .int 0, .ref adegrees, .long 0])), (abetween, .inl (cJ, 1600, .inr (.inl (vp_updL Zl 0 0))))] sz) := by
  refine Met.ofW (cc := cX5_sum) (maxL := 5) (ret := (some .long)) (by decide) rfl ?_
  intro p e s m args below meth c s₁ B hml hv
  obtain ⟨rfl, hsz, hP, hK, hD0⟩ := hv
  have hx := B.exec
  have hb := B.bytes
  have hr := B.returns
  have hts := atoms_spec (ws := wsX5_sum) B.pre
  have hown : s.vm.findClass RX5 = some m.cls := findClass_of_methodNamed B.named
  have hlocks := B.notSynchronized
  subst hsz
  have hD := hD0.self (sz := s.heap.size)
  generalize hAe : va_A [(h, .inr (5, [.int 1, .ref aweight, .ref aown, .int 1, .ref abetween, .ref acommunity, .ref afresh, .int 0, .ref atold, .ref areached, .ref aplaced, .int 0, .ref amoved, .ref agained, .int 0, .ref adegrees, .long 0])), (abetween, .inl (cJ, 1600, .inr (.inl (vp_updL Zl 0 0))))] s.heap.size = A at hD ⊢
  have hA : ∀ q : Nat, s.heap.size ≤ q → A q := fun q h => by rw [← hAe]; exact Or.inr h
  have hS : va_S A s.heap s.heap [] := va_S.rf
  have hP : va_P (dC, dI) vwCl [(h, .inr (5, [.int 1, .ref aweight, .ref aown, .int 1, .ref abetween, .ref acommunity, .ref afresh, .int 0, .ref atold, .ref areached, .ref aplaced, .int 0, .ref amoved, .ref agained, .int 0, .ref adegrees, .long 0])), (abetween, .inl (cJ, 1600, .inr (.inl (vp_updL Zl 0 0))))] s.heap := hP
  have hl := lv_entry ([.ref h]) (n := 5) (Nat.le_of_ble_eq_true rfl)
  rw [lg_entry_eq]
  generalize (lg_sl ([.ref h]) ++ List.replicate (5 - (lg_sl ([.ref h])).length) Slot.unset).toArray = ls at hl ⊢
  have hl : lv_has ls 5 [(0, .ref h)] := hl
  have i_5 : ∀ w ∈ wsX50, w ∈ wsX5_sum := by decide +kernel
  have k_0 := hts (.fieldLink RX5 70 "CommunityLevelsModel" "many" "I") (by decide +kernel)
  have k_1 := hts (.fieldLink RX5 20 "CommunityLevelsModel" "between" "[J") (by decide +kernel)
  refine lv_lconst (v := 0) hx hb dX5_sum_0 (by decide) ?_
  refine lv_lstore_n (lv' := [(1, .long 0), (0, .ref h)]) hx hb dX5_sum_1 rfl hl (by decide) rfl (fun ls hl => ?_)
  refine lv_iconst (v := 0) hx hb dX5_sum_2 (by decide) ?_
  refine lv_istore_n (lv' := [(3, .int 0), (1, .long 0), (0, .ref h)]) hx hb dX5_sum_3 rfl hl (by decide) rfl (fun ls hl => ?_)
  refine lv_iload_n hx hb dX5_sum_4 rfl (lv_at hl 0 rfl) ?_
  refine lv_aload_n hx hb dX5_sum_5 rfl (lv_at hl 2 rfl) ?_
  refine va_get (D := (dC, dI)) (ci := 5) (v := .int 1) (C := RX5) (T := TX5) (N := 17) hx hb hts i_5 hown hK hP 0 rfl rfl 3 (by decide) k_0 (fun _ h9 => h9) rfl dX5_sum_6 ?_
  refine lv_icmp_ge (tgt := 48) hx hb dX5_sum_9 (by decide) (fun c_1 => ?_) (fun c_1 => ?_)
  · exact absurd c_1 (by decide)
  refine lv_iconst (v := 0) hx hb dX5_sum_12 (by decide) ?_
  refine lv_istore (lv' := [(4, .int 0), (3, .int 0), (1, .long 0), (0, .ref h)]) hx hb dX5_sum_13 hl (by decide) rfl (fun ls hl => ?_)
  refine lv_iload hx hb dX5_sum_15 (lv_at hl 0 rfl) ?_
  refine lv_iload_n hx hb dX5_sum_17 rfl (lv_at hl 1 rfl) ?_
  refine lv_icmp_gt (tgt := 42) hx hb dX5_sum_18 (by decide) (fun c_2 => ?_) (fun c_2 => ?_)
  · exact absurd c_2 (by decide)
  refine lv_lload_n hx hb dX5_sum_21 rfl (lv_at hl 2 rfl) ?_
  refine lv_aload_n hx hb dX5_sum_22 rfl (lv_at hl 3 rfl) ?_
  refine va_get (D := (dC, dI)) (ci := 5) (v := .ref abetween) (C := RX5) (T := TX5) (N := 17) hx hb hts i_5 hown hK hP 0 rfl rfl 4 (by decide) k_1 (fun _ h9 => h9) rfl dX5_sum_23 ?_
  refine lv_bipush (v := 40) hx hb dX5_sum_26 (by decide) ?_
  refine lv_iload_n hx hb dX5_sum_28 rfl (lv_at hl 1 rfl) ?_
  refine lv_imul hx hb dX5_sum_29 ?_
  refine lc_i (v := 0) (by first | rfl | decide) ?_
  refine lv_iload hx hb dX5_sum_30 (lv_at hl 0 rfl) ?_
  refine lv_iadd hx hb dX5_sum_32 ?_
  refine lc_i (v := 0) (by first | rfl | decide) ?_
  refine va_lald hx hb hK hP 1 1 rfl rfl (vp_c (by decide)) dX5_sum_33 ?_
  refine lc_l (v := 0) (by first | rfl | decide) ?_
  refine lv_ladd hx hb dX5_sum_34 ?_
  refine lc_l (v := 0) (by first | rfl | decide) ?_
  refine lv_lstore_n (lv' := [(1, .long 0), (4, .int 0), (3, .int 0), (0, .ref h)]) hx hb dX5_sum_35 rfl hl (by decide) rfl (fun ls hl => ?_)
  refine lv_iinc (v := 1) (lv' := [(4, .int 1), (1, .long 0), (3, .int 0), (0, .ref h)]) hx hb dX5_sum_36 hl (k := 1) rfl (by decide) (by decide) rfl (fun ls hl => ?_)
  refine lv_goto (tgt := 15) hx hb dX5_sum_39 (by decide) ?_
  refine lv_iload hx hb dX5_sum_15 (lv_at hl 0 rfl) ?_
  refine lv_iload_n hx hb dX5_sum_17 rfl (lv_at hl 2 rfl) ?_
  refine lv_icmp_gt (tgt := 42) hx hb dX5_sum_18 (by decide) (fun c_3 => ?_) (fun c_3 => ?_)
  rotate_left
  · exact absurd (by decide) c_3
  refine lv_iinc (v := 1) (lv' := [(3, .int 1), (4, .int 1), (1, .long 0), (0, .ref h)]) hx hb dX5_sum_42 hl (k := 2) rfl (by decide) (by decide) rfl (fun ls hl => ?_)
  refine lv_goto (tgt := 4) hx hb dX5_sum_45 (by decide) ?_
  refine lv_iload_n hx hb dX5_sum_4 rfl (lv_at hl 0 rfl) ?_
  refine lv_aload_n hx hb dX5_sum_5 rfl (lv_at hl 3 rfl) ?_
  refine va_get (D := (dC, dI)) (ci := 5) (v := .int 1) (C := RX5) (T := TX5) (N := 17) hx hb hts i_5 hown hK hP 0 rfl rfl 3 (by decide) k_0 (fun _ h9 => h9) rfl dX5_sum_6 ?_
  refine lv_icmp_ge (tgt := 48) hx hb dX5_sum_9 (by decide) (fun c_4 => ?_) (fun c_4 => ?_)
  rotate_left
  · exact absurd (by decide) c_4
  refine lv_lload_n hx hb dX5_sum_48 rfl (lv_at hl 2 rfl) ?_
  have hP9 := hP.sub (ws' := [(h, .inr (5, [.int 1, .ref aweight, .ref aown, .int 1, .ref abetween, .ref acommunity, .ref afresh, .int 0, .ref atold, .ref areached, .ref aplaced, .int 0, .ref amoved, .ref agained, .int 0, .ref adegrees, .long 0])), (abetween, .inl (cJ, 1600, .inr (.inl (vp_updL Zl 0 0))))]) [0, 1] rfl
  have hD9 := hD.sub (ws' := [(h, .inr (5, [.int 1, .ref aweight, .ref aown, .int 1, .ref abetween, .ref acommunity, .ref afresh, .int 0, .ref atold, .ref areached, .ref aplaced, .int 0, .ref amoved, .ref agained, .int 0, .ref adegrees, .long 0])), (abetween, .inl (cJ, 1600, .inr (.inl (vp_updL Zl 0 0))))]) [0, 1] (by decide) rfl
  exact W.lret (v := 0) hx hb hr (fun t ht hW => ⟨⟨_, (), rfl, rfl, by rw [ht]; exact hP9, hD9⟩, hS.F ht⟩) hS.2.2 dX5_sum_49
set_option maxHeartbeats 4000000 in
set_option maxRecDepth 100000 in
theorem c_X5_prepare (l : Launch) (dC : Nat → ClassId) (dI : Nat → Nat → Nat) (cI cJ : ClassId) (h aweight aown abetween acommunity afresh atold areached aplaced amoved agained adegrees : Nat) (sz : Nat) : Met l yX5_prepare wsX5_prepare ({ frames := 1, cells := 0, slots := 0, locals := 24 }) (va_Pc [.ref h] (pPre dC dI cI cJ sz [(h, .inr (5, [.int 1, .ref aweight, .ref aown, .int 1, .ref abetween, .ref acommunity, .ref afresh, .int 0, .ref atold, .ref areached, .ref aplaced, .int 0, .ref amoved, .ref agained, .int 0, .ref adegrees, .long 0])), (abetween, .inl (cJ, 1600, .inr (.inl (vp_updL Zl 0 0)))), (adegrees, .inl (cJ, 40, .inr (.inl Zl)))])) (va_Qv (fun _ : Unit => True) (pPost dC dI (va_A [(h, .inr (5, [.int 1, .ref aweight, .ref aown, .int 1, .ref abetween, .ref acommunity, .ref afresh, .int 0, .ref atold, .ref areached, .ref aplaced, .int 0, .ref amoved, .ref agained, .int 0, .ref adegrees, .long 0])), (abetween, .inl (cJ, 1600, .inr (.inl (vp_updL Zl 0 0)))), (adegrees, .inl (cJ, 40, .inr (.inl Zl)))] sz) [(h, .inr (5, [.int 1, .ref aweight, .ref aown, .int 1, .ref abetween, .ref acommunity, .ref afresh, .int 0, .ref atold, .ref areached, .ref aplaced, .int 0, .ref amoved, .ref agained, .int 0, .ref adegrees, .long 0])), (abetween, .inl (cJ, 1600, .inr (.inl (vp_updL Zl 0 0)))), (adegrees, .inl (cJ, 40, .inr (.inl (vp_updL Zl 0 0))))]) (va_A [(h, .inr (5, [.int 1, .ref aweight, .ref aown, .int 1, .ref abetween, .ref acommunity, .ref afresh, .int 0, .ref atold, .ref areached, .ref aplaced, .int 0, .ref amoved, .ref agained, .int 0, .ref adegrees, .long 0])), (abetween, .inl (cJ, 1600, .inr (.inl (vp_updL Zl 0 0)))), (adegrees, .inl (cJ, 40, .inr (.inl Zl)))] sz)) 0 0 (va_A [(h, .inr (5, [.int 1, .ref aweight, .ref aown, .int 1, .ref abetween, .ref acommunity, .ref afresh, .int 0, .ref atold, .ref areached, .ref aplaced, .int 0, .ref amoved, .ref agained, .int 0, .ref adegrees, .long 0])), (abetween, .inl (cJ, 1600, .inr (.inl (vp_updL Zl 0 0)))), (adegrees, .inl (cJ, 40, .inr (.inl Zl)))] sz) := by
  refine Met.ofW (cc := cX5_prepare) (maxL := 2) (ret := none) (by decide) rfl ?_
  intro p e s m args below meth c s₁ B hml hv
  obtain ⟨rfl, hsz, hP, hK, hD0⟩ := hv
  have hx := B.exec
  have hb := B.bytes
  have hr := B.returns
  have hts := atoms_spec (ws := wsX5_prepare) B.pre
  have hown : s.vm.findClass RX5 = some m.cls := findClass_of_methodNamed B.named
  have hlocks := B.notSynchronized
  subst hsz
  have hD := hD0.self (sz := s.heap.size)
  generalize hAe : va_A [(h, .inr (5, [.int 1, .ref aweight, .ref aown, .int 1, .ref abetween, .ref acommunity, .ref afresh, .int 0, .ref atold, .ref areached, .ref aplaced, .int 0, .ref amoved, .ref agained, .int 0, .ref adegrees, .long 0])), (abetween, .inl (cJ, 1600, .inr (.inl (vp_updL Zl 0 0)))), (adegrees, .inl (cJ, 40, .inr (.inl Zl)))] s.heap.size = A at hD ⊢
  have hA : ∀ q : Nat, s.heap.size ≤ q → A q := fun q h => by rw [← hAe]; exact Or.inr h
  have hS : va_S A s.heap s.heap [] := va_S.rf
  have hP : va_P (dC, dI) vwCl [(h, .inr (5, [.int 1, .ref aweight, .ref aown, .int 1, .ref abetween, .ref acommunity, .ref afresh, .int 0, .ref atold, .ref areached, .ref aplaced, .int 0, .ref amoved, .ref agained, .int 0, .ref adegrees, .long 0])), (abetween, .inl (cJ, 1600, .inr (.inl (vp_updL Zl 0 0)))), (adegrees, .inl (cJ, 40, .inr (.inl Zl)))] s.heap := hP
  have hl := lv_entry ([.ref h]) (n := 2) (Nat.le_of_ble_eq_true rfl)
  rw [lg_entry_eq]
  generalize (lg_sl ([.ref h]) ++ List.replicate (2 - (lg_sl ([.ref h])).length) Slot.unset).toArray = ls at hl ⊢
  have hl : lv_has ls 2 [(0, .ref h)] := hl
  have i_5 : ∀ w ∈ wsX50, w ∈ wsX5_prepare := by decide +kernel
  have k_0 := hts (.fieldLink RX5 76 "CommunityLevelsModel" "whole" "J") (by decide +kernel)
  have k_1 := hts (.fieldLink RX5 70 "CommunityLevelsModel" "many" "I") (by decide +kernel)
  have k_2 := hts (.fieldLink RX5 45 "CommunityLevelsModel" "degrees" "[J") (by decide +kernel)
  refine lv_aload_n hx hb dX5_prepare_0 rfl (lv_at hl 0 rfl) ?_
  refine lv_aload_n hx hb dX5_prepare_1 rfl (lv_at hl 0 rfl) ?_
  have hPc := hP.sub (ws' := [(h, .inr (5, [.int 1, .ref aweight, .ref aown, .int 1, .ref abetween, .ref acommunity, .ref afresh, .int 0, .ref atold, .ref areached, .ref aplaced, .int 0, .ref amoved, .ref agained, .int 0, .ref adegrees, .long 0])), (abetween, .inl (cJ, 1600, .inr (.inl (vp_updL Zl 0 0))))]) [0, 1] rfl
  have hDc := hD.sub (ws' := [(h, .inr (5, [.int 1, .ref aweight, .ref aown, .int 1, .ref abetween, .ref acommunity, .ref afresh, .int 0, .ref atold, .ref areached, .ref aplaced, .int 0, .ref amoved, .ref agained, .int 0, .ref adegrees, .long 0])), (abetween, .inl (cJ, 1600, .inr (.inl (vp_updL Zl 0 0))))]) [0, 1] (by decide) rfl
  have hFc := va_free (wc := [(h, .inr (5, [.int 1, .ref aweight, .ref aown, .int 1, .ref abetween, .ref acommunity, .ref afresh, .int 0, .ref atold, .ref areached, .ref aplaced, .int 0, .ref amoved, .ref agained, .int 0, .ref adegrees, .long 0])), (abetween, .inl (cJ, 1600, .inr (.inl (vp_updL Zl 0 0))))]) hD hS hA [0, 1] rfl
  refine va_calll (va_runV (As := []) (rest := [.ref h]) ⟨hx, hb, hml, hown, hts⟩ (c_X5_sum l dC dI cI cJ h aweight aown abetween acommunity afresh atold areached aplaced amoved agained adegrees s.heap.size) (cwV 0 hts gX5_prepare_X5_sum rfl rfl rfl (by decide +kernel) ⟨Nat.le_of_ble_eq_true rfl, Nat.le_of_ble_eq_true rfl⟩) ⟨fun a U g mk q => by obtain ⟨q0, q1, qP, qK, qD⟩ := q; exact ⟨q0, q1, qP, va_K.moved (u := U) (U := U.calling g mk a) (Vm.Alike.refl U.vm) qK, qD⟩, va_recv hK hPc (ci := 5) (q0 := 0) rfl rfl, fun U hU hW => ⟨rfl, by rw [hU], by rw [hU]; exact hPc, va_K.moved hW.alike hK, hDc.weaken (fun _ _ _ _ => trivial)⟩⟩ rfl rfl hl.1 rfl (lv_room (Nat.le_of_ble_eq_true rfl)) dX5_prepare_2 ⟨Nat.le_of_ble_eq_true rfl, Nat.le_of_ble_eq_true rfl⟩) hS (fun q _ h => hFc q h) hFc (fun r_1 u_2 t H1 locs ht hvm hw hB hz1 hk1 hS => ?_)
  obtain ⟨hP1, hD1⟩ := hB
  rw [ht] at hP1
  obtain ⟨hP, hD⟩ := va_join (wr := [(adegrees, .inl (cJ, 40, .inr (.inl Zl)))]) (w1 := [(h, .inr (5, [.int 1, .ref aweight, .ref aown, .int 1, .ref abetween, .ref acommunity, .ref afresh, .int 0, .ref atold, .ref areached, .ref aplaced, .int 0, .ref amoved, .ref agained, .int 0, .ref adegrees, .long 0])), (abetween, .inl (cJ, 1600, .inr (.inl (vp_updL Zl 0 0))))]) hP hD [0, 1] [2] rfl rfl (by decide) (by decide) hk1 hFc hP1 hD1
  generalize H1 = H at hP hS ⊢
  have hP : va_P (dC, dI) vwCl [(adegrees, .inl (cJ, 40, .inr (.inl Zl))), (h, .inr (5, [.int 1, .ref aweight, .ref aown, .int 1, .ref abetween, .ref acommunity, .ref afresh, .int 0, .ref atold, .ref areached, .ref aplaced, .int 0, .ref amoved, .ref agained, .int 0, .ref adegrees, .long 0])), (abetween, .inl (cJ, 1600, .inr (.inl (vp_updL Zl 0 0))))] H := hP
  have hD : va_D A [(adegrees, .inl (cJ, 40, .inr (.inl Zl))), (h, .inr (5, [.int 1, .ref aweight, .ref aown, .int 1, .ref abetween, .ref acommunity, .ref afresh, .int 0, .ref atold, .ref areached, .ref aplaced, .int 0, .ref amoved, .ref agained, .int 0, .ref adegrees, .long 0])), (abetween, .inl (cJ, 1600, .inr (.inl (vp_updL Zl 0 0))))] := hD
  obtain rfl : r_1 = 0 := hw
  refine va_put (D := (dC, dI)) (ci := 5) (v := .long 0) (ty := .long) (C := RX5) (T := TX5) (N := 17) hx hb hts i_5 tyX5 tyX5_ok nmX5 hown hK hP hD hS 1 rfl rfl 16 (by decide) k_0 (fun _ h9 => h9) rfl (by decide +kernel) rfl rfl (Nat.le_of_ble_eq_true rfl) dX5_prepare_5 (fun H locs hP hD hS => ?_)
  have hP : va_P (dC, dI) vwCl [(adegrees, .inl (cJ, 40, .inr (.inl Zl))), (h, .inr (5, [.int 1, .ref aweight, .ref aown, .int 1, .ref abetween, .ref acommunity, .ref afresh, .int 0, .ref atold, .ref areached, .ref aplaced, .int 0, .ref amoved, .ref agained, .int 0, .ref adegrees, .long 0])), (abetween, .inl (cJ, 1600, .inr (.inl (vp_updL Zl 0 0))))] H := hP
  have hD : va_D A [(adegrees, .inl (cJ, 40, .inr (.inl Zl))), (h, .inr (5, [.int 1, .ref aweight, .ref aown, .int 1, .ref abetween, .ref acommunity, .ref afresh, .int 0, .ref atold, .ref areached, .ref aplaced, .int 0, .ref amoved, .ref agained, .int 0, .ref adegrees, .long 0])), (abetween, .inl (cJ, 1600, .inr (.inl (vp_updL Zl 0 0))))] := hD
  refine lv_iconst (v := 0) hx hb dX5_prepare_8 (by decide) ?_
  refine lv_istore_n (lv' := [(1, .int 0), (0, .ref h)]) hx hb dX5_prepare_9 rfl hl (by decide) rfl (fun ls hl => ?_)
  refine lv_iload_n hx hb dX5_prepare_10 rfl (lv_at hl 0 rfl) ?_
  refine lv_aload_n hx hb dX5_prepare_11 rfl (lv_at hl 1 rfl) ?_
  refine va_get (D := (dC, dI)) (ci := 5) (v := .int 1) (C := RX5) (T := TX5) (N := 17) hx hb hts i_5 hown hK hP 1 rfl rfl 3 (by decide) k_1 (fun _ h9 => h9) rfl dX5_prepare_12 ?_
  refine lv_icmp_ge (tgt := 35) hx hb dX5_prepare_15 (by decide) (fun c_3 => ?_) (fun c_3 => ?_)
  · exact absurd c_3 (by decide)
  refine lv_aload_n hx hb dX5_prepare_18 rfl (lv_at hl 1 rfl) ?_
  refine va_get (D := (dC, dI)) (ci := 5) (v := .ref adegrees) (C := RX5) (T := TX5) (N := 17) hx hb hts i_5 hown hK hP 1 rfl rfl 15 (by decide) k_2 (fun _ h9 => h9) rfl dX5_prepare_19 ?_
  refine lv_iload_n hx hb dX5_prepare_22 rfl (lv_at hl 0 rfl) ?_
  refine lv_aload_n hx hb dX5_prepare_23 rfl (lv_at hl 1 rfl) ?_
  refine lv_iload_n hx hb dX5_prepare_24 rfl (lv_at hl 0 rfl) ?_
  have hPc := hP.sub (ws' := [(h, .inr (5, [.int 1, .ref aweight, .ref aown, .int 1, .ref abetween, .ref acommunity, .ref afresh, .int 0, .ref atold, .ref areached, .ref aplaced, .int 0, .ref amoved, .ref agained, .int 0, .ref adegrees, .long 0])), (abetween, .inl (cJ, 1600, .inr (.inl (vp_updL Zl 0 0))))]) [1, 2] rfl
  have hDc := hD.sub (ws' := [(h, .inr (5, [.int 1, .ref aweight, .ref aown, .int 1, .ref abetween, .ref acommunity, .ref afresh, .int 0, .ref atold, .ref areached, .ref aplaced, .int 0, .ref amoved, .ref agained, .int 0, .ref adegrees, .long 0])), (abetween, .inl (cJ, 1600, .inr (.inl (vp_updL Zl 0 0))))]) [1, 2] (by decide) rfl
  have hFc := va_free (wc := [(h, .inr (5, [.int 1, .ref aweight, .ref aown, .int 1, .ref abetween, .ref acommunity, .ref afresh, .int 0, .ref atold, .ref areached, .ref aplaced, .int 0, .ref amoved, .ref agained, .int 0, .ref adegrees, .long 0])), (abetween, .inl (cJ, 1600, .inr (.inl (vp_updL Zl 0 0))))]) hD hS hA [1, 2] rfl
  refine va_calll (va_runV (As := [.int 0]) (rest := [.int 0, .ref adegrees]) ⟨hx, hb, hml, hown, hts⟩ (c_X5_degree l dC dI cI cJ h aweight aown abetween acommunity afresh atold areached aplaced amoved agained adegrees H.size) (cwV 1 hts gX5_prepare_X5_degree rfl rfl rfl (by decide +kernel) ⟨Nat.le_of_ble_eq_true rfl, Nat.le_of_ble_eq_true rfl⟩) ⟨fun a U g mk q => by obtain ⟨q0, q1, qP, qK, qD⟩ := q; exact ⟨q0, q1, qP, va_K.moved (u := U) (U := U.calling g mk a) (Vm.Alike.refl U.vm) qK, qD⟩, va_recv hK hPc (ci := 5) (q0 := 0) rfl rfl, fun U hU hW => ⟨rfl, by rw [hU], by rw [hU]; exact hPc, va_K.moved hW.alike hK, hDc.weaken (fun _ _ _ _ => trivial)⟩⟩ rfl rfl hl.1 rfl (lv_room (Nat.le_of_ble_eq_true rfl)) dX5_prepare_25 ⟨Nat.le_of_ble_eq_true rfl, Nat.le_of_ble_eq_true rfl⟩) hS (fun q _ h => hFc q h) hFc (fun r_4 u_5 t H1 locs ht hvm hw hB hz1 hk1 hS => ?_)
  obtain ⟨hP1, hD1⟩ := hB
  rw [ht] at hP1
  obtain ⟨hP, hD⟩ := va_join (wr := [(adegrees, .inl (cJ, 40, .inr (.inl Zl)))]) (w1 := [(h, .inr (5, [.int 1, .ref aweight, .ref aown, .int 1, .ref abetween, .ref acommunity, .ref afresh, .int 0, .ref atold, .ref areached, .ref aplaced, .int 0, .ref amoved, .ref agained, .int 0, .ref adegrees, .long 0])), (abetween, .inl (cJ, 1600, .inr (.inl (vp_updL Zl 0 0))))]) hP hD [1, 2] [0] rfl rfl (by decide) (by decide) hk1 hFc hP1 hD1
  generalize H1 = H at hP hS ⊢
  have hP : va_P (dC, dI) vwCl [(adegrees, .inl (cJ, 40, .inr (.inl Zl))), (h, .inr (5, [.int 1, .ref aweight, .ref aown, .int 1, .ref abetween, .ref acommunity, .ref afresh, .int 0, .ref atold, .ref areached, .ref aplaced, .int 0, .ref amoved, .ref agained, .int 0, .ref adegrees, .long 0])), (abetween, .inl (cJ, 1600, .inr (.inl (vp_updL Zl 0 0))))] H := hP
  have hD : va_D A [(adegrees, .inl (cJ, 40, .inr (.inl Zl))), (h, .inr (5, [.int 1, .ref aweight, .ref aown, .int 1, .ref abetween, .ref acommunity, .ref afresh, .int 0, .ref atold, .ref areached, .ref aplaced, .int 0, .ref amoved, .ref agained, .int 0, .ref adegrees, .long 0])), (abetween, .inl (cJ, 1600, .inr (.inl (vp_updL Zl 0 0))))] := hD
  obtain rfl : r_4 = 0 := hw
  refine va_last hx hb hK hP hD hS 0 1 rfl rfl (vp_c (by decide)) dX5_prepare_28 (fun H locs hP hD hS => ?_)
  have hP : va_P (dC, dI) vwCl [(adegrees, .inl (cJ, 40, .inr (.inl (vp_updL Zl 0 0)))), (h, .inr (5, [.int 1, .ref aweight, .ref aown, .int 1, .ref abetween, .ref acommunity, .ref afresh, .int 0, .ref atold, .ref areached, .ref aplaced, .int 0, .ref amoved, .ref agained, .int 0, .ref adegrees, .long 0])), (abetween, .inl (cJ, 1600, .inr (.inl (vp_updL Zl 0 0))))] H := hP
  have hD : va_D A [(adegrees, .inl (cJ, 40, .inr (.inl (vp_updL Zl 0 0)))), (h, .inr (5, [.int 1, .ref aweight, .ref aown, .int 1, .ref abetween, .ref acommunity, .ref afresh, .int 0, .ref atold, .ref areached, .ref aplaced, .int 0, .ref amoved, .ref agained, .int 0, .ref adegrees, .long 0])), (abetween, .inl (cJ, 1600, .inr (.inl (vp_updL Zl 0 0))))] := hD
  refine lv_iinc (v := 1) (lv' := [(1, .int 1), (0, .ref h)]) hx hb dX5_prepare_29 hl (k := 0) rfl (by decide) (by decide) rfl (fun ls hl => ?_)
  refine lv_goto (tgt := 10) hx hb dX5_prepare_32 (by decide) ?_
  refine lv_iload_n hx hb dX5_prepare_10 rfl (lv_at hl 0 rfl) ?_
  refine lv_aload_n hx hb dX5_prepare_11 rfl (lv_at hl 1 rfl) ?_
  refine va_get (D := (dC, dI)) (ci := 5) (v := .int 1) (C := RX5) (T := TX5) (N := 17) hx hb hts i_5 hown hK hP 1 rfl rfl 3 (by decide) k_1 (fun _ h9 => h9) rfl dX5_prepare_12 ?_
  refine lv_icmp_ge (tgt := 35) hx hb dX5_prepare_15 (by decide) (fun c_6 => ?_) (fun c_6 => ?_)
  rotate_left
  · exact absurd (by decide) c_6
  have hP9 := hP.sub (ws' := [(h, .inr (5, [.int 1, .ref aweight, .ref aown, .int 1, .ref abetween, .ref acommunity, .ref afresh, .int 0, .ref atold, .ref areached, .ref aplaced, .int 0, .ref amoved, .ref agained, .int 0, .ref adegrees, .long 0])), (abetween, .inl (cJ, 1600, .inr (.inl (vp_updL Zl 0 0)))), (adegrees, .inl (cJ, 40, .inr (.inl (vp_updL Zl 0 0))))]) [1, 2, 0] rfl
  have hD9 := hD.sub (ws' := [(h, .inr (5, [.int 1, .ref aweight, .ref aown, .int 1, .ref abetween, .ref acommunity, .ref afresh, .int 0, .ref atold, .ref areached, .ref aplaced, .int 0, .ref amoved, .ref agained, .int 0, .ref adegrees, .long 0])), (abetween, .inl (cJ, 1600, .inr (.inl (vp_updL Zl 0 0)))), (adegrees, .inl (cJ, 40, .inr (.inl (vp_updL Zl 0 0))))]) [1, 2, 0] (by decide) rfl
  exact W.vret hx hb hr (fun t ht hW => ⟨⟨(), rfl, trivial, by rw [ht]; exact hP9, hD9⟩, hS.F ht⟩) hS.2.2 dX5_prepare_35
set_option maxHeartbeats 4000000 in
set_option maxRecDepth 100000 in
theorem c_X5_modularityNow (l : Launch) (dC : Nat → ClassId) (dI : Nat → Nat → Nat) (cI cJ : ClassId) (h aweight aown abetween acommunity afresh atold areached aplaced amoved agained adegrees : Nat) (sz : Nat) (fh : Nat → Int32) (hz : fh 0 = 0) : Met l yX5_modularityNow wsX5_modularityNow ({ frames := 0, cells := 0, slots := 0, locals := 0 }) (va_Pc [.ref h] (pPre dC dI cI cJ sz [(h, .inr (5, [.int 1, .ref aweight, .ref aown, .int 1, .ref abetween, .ref acommunity, .ref afresh, .int 0, .ref atold, .ref areached, .ref aplaced, .int 0, .ref amoved, .ref agained, .int 0, .ref adegrees, .long 0])), (abetween, .inl (cJ, 1600, .inr (.inl (vp_updL Zl 0 0)))), (acommunity, .inl (cI, 40, .inl fh)), (adegrees, .inl (cJ, 40, .inr (.inl (vp_updL Zl 0 0))))])) (va_Ql (fun (r : Int64) (_ : Unit) => r = 0) (pPost dC dI (va_A [(h, .inr (5, [.int 1, .ref aweight, .ref aown, .int 1, .ref abetween, .ref acommunity, .ref afresh, .int 0, .ref atold, .ref areached, .ref aplaced, .int 0, .ref amoved, .ref agained, .int 0, .ref adegrees, .long 0])), (abetween, .inl (cJ, 1600, .inr (.inl (vp_updL Zl 0 0)))), (acommunity, .inl (cI, 40, .inl fh)), (adegrees, .inl (cJ, 40, .inr (.inl (vp_updL Zl 0 0))))] sz) [(h, .inr (5, [.int 1, .ref aweight, .ref aown, .int 1, .ref abetween, .ref acommunity, .ref afresh, .int 0, .ref atold, .ref areached, .ref aplaced, .int 0, .ref amoved, .ref agained, .int 0, .ref adegrees, .long 0])), (abetween, .inl (cJ, 1600, .inr (.inl (vp_updL Zl 0 0)))), (acommunity, .inl (cI, 40, .inl fh)), (adegrees, .inl (cJ, 40, .inr (.inl (vp_updL Zl 0 0))))]) (va_A [(h, .inr (5, [.int 1, .ref aweight, .ref aown, .int 1, .ref abetween, .ref acommunity, .ref afresh, .int 0, .ref atold, .ref areached, .ref aplaced, .int 0, .ref amoved, .ref agained, .int 0, .ref adegrees, .long 0])), (abetween, .inl (cJ, 1600, .inr (.inl (vp_updL Zl 0 0)))), (acommunity, .inl (cI, 40, .inl fh)), (adegrees, .inl (cJ, 40, .inr (.inl (vp_updL Zl 0 0))))] sz)) 0 0 (va_A [(h, .inr (5, [.int 1, .ref aweight, .ref aown, .int 1, .ref abetween, .ref acommunity, .ref afresh, .int 0, .ref atold, .ref areached, .ref aplaced, .int 0, .ref amoved, .ref agained, .int 0, .ref adegrees, .long 0])), (abetween, .inl (cJ, 1600, .inr (.inl (vp_updL Zl 0 0)))), (acommunity, .inl (cI, 40, .inl fh)), (adegrees, .inl (cJ, 40, .inr (.inl (vp_updL Zl 0 0))))] sz) := by
  refine Met.ofW (cc := cX5_modularityNow) (maxL := 10) (ret := (some .long)) (by decide) rfl ?_
  intro p e s m args below meth c s₁ B hml hv
  obtain ⟨rfl, hsz, hP, hK, hD0⟩ := hv
  have hx := B.exec
  have hb := B.bytes
  have hr := B.returns
  have hts := atoms_spec (ws := wsX5_modularityNow) B.pre
  have hown : s.vm.findClass RX5 = some m.cls := findClass_of_methodNamed B.named
  have hlocks := B.notSynchronized
  subst hsz
  have hD := hD0.self (sz := s.heap.size)
  generalize hAe : va_A [(h, .inr (5, [.int 1, .ref aweight, .ref aown, .int 1, .ref abetween, .ref acommunity, .ref afresh, .int 0, .ref atold, .ref areached, .ref aplaced, .int 0, .ref amoved, .ref agained, .int 0, .ref adegrees, .long 0])), (abetween, .inl (cJ, 1600, .inr (.inl (vp_updL Zl 0 0)))), (acommunity, .inl (cI, 40, .inl fh)), (adegrees, .inl (cJ, 40, .inr (.inl (vp_updL Zl 0 0))))] s.heap.size = A at hD ⊢
  have hA : ∀ q : Nat, s.heap.size ≤ q → A q := fun q h => by rw [← hAe]; exact Or.inr h
  have hS : va_S A s.heap s.heap [] := va_S.rf
  have hP : va_P (dC, dI) vwCl [(h, .inr (5, [.int 1, .ref aweight, .ref aown, .int 1, .ref abetween, .ref acommunity, .ref afresh, .int 0, .ref atold, .ref areached, .ref aplaced, .int 0, .ref amoved, .ref agained, .int 0, .ref adegrees, .long 0])), (abetween, .inl (cJ, 1600, .inr (.inl (vp_updL Zl 0 0)))), (acommunity, .inl (cI, 40, .inl fh)), (adegrees, .inl (cJ, 40, .inr (.inl (vp_updL Zl 0 0))))] s.heap := hP
  have hl := lv_entry ([.ref h]) (n := 10) (Nat.le_of_ble_eq_true rfl)
  rw [lg_entry_eq]
  generalize (lg_sl ([.ref h]) ++ List.replicate (10 - (lg_sl ([.ref h])).length) Slot.unset).toArray = ls at hl ⊢
  have hl : lv_has ls 10 [(0, .ref h)] := hl
  have i_5 : ∀ w ∈ wsX50, w ∈ wsX5_modularityNow := by decide +kernel
  have k_0 := hts (.fieldLink RX5 70 "CommunityLevelsModel" "many" "I") (by decide +kernel)
  have k_1 := hts (.fieldLink RX5 24 "CommunityLevelsModel" "community" "[I") (by decide +kernel)
  have k_2 := hts (.constantLong RX5 84 (4)) (by decide +kernel)
  have k_3 := hts (.fieldLink RX5 76 "CommunityLevelsModel" "whole" "J") (by decide +kernel)
  have k_4 := hts (.fieldLink RX5 45 "CommunityLevelsModel" "degrees" "[J") (by decide +kernel)
  have k_5 := hts (.fieldLink RX5 20 "CommunityLevelsModel" "between" "[J") (by decide +kernel)
  refine lv_lconst (v := 0) hx hb dX5_modularityNow_0 (by decide) ?_
  refine lv_lstore_n (lv' := [(1, .long 0), (0, .ref h)]) hx hb dX5_modularityNow_1 rfl hl (by decide) rfl (fun ls hl => ?_)
  refine lv_iconst (v := 0) hx hb dX5_modularityNow_2 (by decide) ?_
  refine lv_istore_n (lv' := [(3, .int 0), (1, .long 0), (0, .ref h)]) hx hb dX5_modularityNow_3 rfl hl (by decide) rfl (fun ls hl => ?_)
  refine lq_loop (α := Unit) (nL := 10) (fun _ => [(h, .inr (5, [.int 1, .ref aweight, .ref aown, .int 1, .ref abetween, .ref acommunity, .ref afresh, .int 0, .ref atold, .ref areached, .ref aplaced, .int 0, .ref amoved, .ref agained, .int 0, .ref adegrees, .long 0])), (abetween, .inl (cJ, 1600, .inr (.inl (vp_updL Zl 0 0)))), (acommunity, .inl (cI, 40, .inl fh)), (adegrees, .inl (cJ, 40, .inr (.inl (vp_updL Zl 0 0))))]) (fun i _ => [(3, .int (nI i)), (1, .long 0), (0, .ref h)]) (fun i _ => True) 40 () 0 trivial (Nat.zero_le _) hP hD hS (lv_sub hl [0, 1, 2] rfl) (fun _u H locs ls hI hP hD hS hl => ?_) (fun i _u H locs ls hlt hI hP hD hS hl ih => ?_)
  · skip
    have hP : va_P (dC, dI) vwCl [(h, .inr (5, [.int 1, .ref aweight, .ref aown, .int 1, .ref abetween, .ref acommunity, .ref afresh, .int 0, .ref atold, .ref areached, .ref aplaced, .int 0, .ref amoved, .ref agained, .int 0, .ref adegrees, .long 0])), (abetween, .inl (cJ, 1600, .inr (.inl (vp_updL Zl 0 0)))), (acommunity, .inl (cI, 40, .inl fh)), (adegrees, .inl (cJ, 40, .inr (.inl (vp_updL Zl 0 0))))] H := hP
    have hD : va_D A [(h, .inr (5, [.int 1, .ref aweight, .ref aown, .int 1, .ref abetween, .ref acommunity, .ref afresh, .int 0, .ref atold, .ref areached, .ref aplaced, .int 0, .ref amoved, .ref agained, .int 0, .ref adegrees, .long 0])), (abetween, .inl (cJ, 1600, .inr (.inl (vp_updL Zl 0 0)))), (acommunity, .inl (cI, 40, .inl fh)), (adegrees, .inl (cJ, 40, .inr (.inl (vp_updL Zl 0 0))))] := hD
    have hl : lv_has ls 10 [(3, .int (nI 40)), (1, .long 0), (0, .ref h)] := hl
    have hI : True := hI
    refine lv_iload_n hx hb dX5_modularityNow_4 rfl (lv_at hl 0 rfl) ?_
    refine lv_bipush (v := 40) hx hb dX5_modularityNow_5 (by decide) ?_
    refine lv_icmp_ge (tgt := 132) hx hb dX5_modularityNow_7 (by decide) (fun c_1 => ?_) (fun c_1 => ?_)
    rotate_left
    · exact absurd (nI_le (a := 40) (b := 40) (Nat.le_refl _) (by decide)) c_1
    refine lv_lload_n hx hb dX5_modularityNow_132 rfl (lv_at hl 1 rfl) ?_
    have hP9 := hP.sub (ws' := [(h, .inr (5, [.int 1, .ref aweight, .ref aown, .int 1, .ref abetween, .ref acommunity, .ref afresh, .int 0, .ref atold, .ref areached, .ref aplaced, .int 0, .ref amoved, .ref agained, .int 0, .ref adegrees, .long 0])), (abetween, .inl (cJ, 1600, .inr (.inl (vp_updL Zl 0 0)))), (acommunity, .inl (cI, 40, .inl fh)), (adegrees, .inl (cJ, 40, .inr (.inl (vp_updL Zl 0 0))))]) [0, 1, 2, 3] rfl
    have hD9 := hD.sub (ws' := [(h, .inr (5, [.int 1, .ref aweight, .ref aown, .int 1, .ref abetween, .ref acommunity, .ref afresh, .int 0, .ref atold, .ref areached, .ref aplaced, .int 0, .ref amoved, .ref agained, .int 0, .ref adegrees, .long 0])), (abetween, .inl (cJ, 1600, .inr (.inl (vp_updL Zl 0 0)))), (acommunity, .inl (cI, 40, .inl fh)), (adegrees, .inl (cJ, 40, .inr (.inl (vp_updL Zl 0 0))))]) [0, 1, 2, 3] (by decide) rfl
    exact W.lret (v := 0) hx hb hr (fun t ht hW => ⟨⟨_, (), rfl, rfl, by rw [ht]; exact hP9, hD9⟩, hS.F ht⟩) hS.2.2 dX5_modularityNow_133
  · skip
    have hP : va_P (dC, dI) vwCl [(h, .inr (5, [.int 1, .ref aweight, .ref aown, .int 1, .ref abetween, .ref acommunity, .ref afresh, .int 0, .ref atold, .ref areached, .ref aplaced, .int 0, .ref amoved, .ref agained, .int 0, .ref adegrees, .long 0])), (abetween, .inl (cJ, 1600, .inr (.inl (vp_updL Zl 0 0)))), (acommunity, .inl (cI, 40, .inl fh)), (adegrees, .inl (cJ, 40, .inr (.inl (vp_updL Zl 0 0))))] H := hP
    have hD : va_D A [(h, .inr (5, [.int 1, .ref aweight, .ref aown, .int 1, .ref abetween, .ref acommunity, .ref afresh, .int 0, .ref atold, .ref areached, .ref aplaced, .int 0, .ref amoved, .ref agained, .int 0, .ref adegrees, .long 0])), (abetween, .inl (cJ, 1600, .inr (.inl (vp_updL Zl 0 0)))), (acommunity, .inl (cI, 40, .inl fh)), (adegrees, .inl (cJ, 40, .inr (.inl (vp_updL Zl 0 0))))] := hD
    have hl : lv_has ls 10 [(3, .int (nI i)), (1, .long 0), (0, .ref h)] := hl
    have hI : True := hI
    refine lv_iload_n hx hb dX5_modularityNow_4 rfl (lv_at hl 0 rfl) ?_
    refine lv_bipush (v := 40) hx hb dX5_modularityNow_5 (by decide) ?_
    refine lv_icmp_ge (tgt := 132) hx hb dX5_modularityNow_7 (by decide) (fun c_2 => ?_) (fun c_2 => ?_)
    · exact absurd c_2 (nI_ge (b := 40) hlt (by decide))
    refine lv_lconst (v := 0) hx hb dX5_modularityNow_10 (by decide) ?_
    refine lv_lstore (lv' := [(4, .long 0), (3, .int (nI i)), (1, .long 0), (0, .ref h)]) hx hb dX5_modularityNow_11 hl (by decide) rfl (fun ls hl => ?_)
    refine lv_lconst (v := 0) hx hb dX5_modularityNow_13 (by decide) ?_
    refine lv_lstore (lv' := [(6, .long 0), (4, .long 0), (3, .int (nI i)), (1, .long 0), (0, .ref h)]) hx hb dX5_modularityNow_14 hl (by decide) rfl (fun ls hl => ?_)
    refine lv_iconst (v := 0) hx hb dX5_modularityNow_16 (by decide) ?_
    refine lv_istore (lv' := [(8, .int 0), (6, .long 0), (4, .long 0), (3, .int (nI i)), (1, .long 0), (0, .ref h)]) hx hb dX5_modularityNow_17 hl (by decide) rfl (fun ls hl => ?_)
    refine lv_iload hx hb dX5_modularityNow_19 (lv_at hl 0 rfl) ?_
    refine lv_aload_n hx hb dX5_modularityNow_21 rfl (lv_at hl 5 rfl) ?_
    refine va_get (D := (dC, dI)) (ci := 5) (v := .int 1) (C := RX5) (T := TX5) (N := 17) hx hb hts i_5 hown hK hP 0 rfl rfl 3 (by decide) k_0 (fun _ h9 => h9) rfl dX5_modularityNow_22 ?_
    refine lv_icmp_ge (tgt := 106) hx hb dX5_modularityNow_25 (by decide) (fun c_3 => ?_) (fun c_3 => ?_)
    · exact absurd c_3 (by decide)
    refine lv_aload_n hx hb dX5_modularityNow_28 rfl (lv_at hl 5 rfl) ?_
    refine va_get (D := (dC, dI)) (ci := 5) (v := .ref acommunity) (C := RX5) (T := TX5) (N := 17) hx hb hts i_5 hown hK hP 0 rfl rfl 5 (by decide) k_1 (fun _ h9 => h9) rfl dX5_modularityNow_29 ?_
    refine lv_iload hx hb dX5_modularityNow_32 (lv_at hl 0 rfl) ?_
    refine va_iald hx hb hK hP 2 0 rfl rfl (vp_c (by decide)) dX5_modularityNow_34 ?_
    refine lc_i (v := 0) hz ?_
    refine lv_iload_n hx hb dX5_modularityNow_35 rfl (lv_at hl 3 rfl) ?_
    refine lv_icmp_ne (tgt := 100) hx hb dX5_modularityNow_36 (by decide) (fun c_4 => ?_) (fun c_4 => ?_)
    · skip
      refine lv_iinc (v := 1) (lv' := [(8, .int 1), (6, .long 0), (4, .long 0), (3, .int (nI i)), (1, .long 0), (0, .ref h)]) hx hb dX5_modularityNow_100 hl (k := 0) rfl (by decide) (by decide) rfl (fun ls hl => ?_)
      refine lv_goto (tgt := 19) hx hb dX5_modularityNow_103 (by decide) ?_
      refine lv_iload hx hb dX5_modularityNow_19 (lv_at hl 0 rfl) ?_
      refine lv_aload_n hx hb dX5_modularityNow_21 rfl (lv_at hl 5 rfl) ?_
      refine va_get (D := (dC, dI)) (ci := 5) (v := .int 1) (C := RX5) (T := TX5) (N := 17) hx hb hts i_5 hown hK hP 0 rfl rfl 3 (by decide) k_0 (fun _ h9 => h9) rfl dX5_modularityNow_22 ?_
      refine lv_icmp_ge (tgt := 106) hx hb dX5_modularityNow_25 (by decide) (fun c_5 => ?_) (fun c_5 => ?_)
      rotate_left
      · exact absurd (by decide) c_5
      refine lv_lload_n hx hb dX5_modularityNow_106 rfl (lv_at hl 4 rfl) ?_
      refine lv_ldc2 (own := RX5) (v := 4) hx hb hown k_2 dX5_modularityNow_107 ?_
      refine lv_aload_n hx hb dX5_modularityNow_110 rfl (lv_at hl 5 rfl) ?_
      refine va_get (D := (dC, dI)) (ci := 5) (v := .long 0) (C := RX5) (T := TX5) (N := 17) hx hb hts i_5 hown hK hP 0 rfl rfl 16 (by decide) k_3 (fun _ h9 => h9) rfl dX5_modularityNow_111 ?_
      refine lv_lmul hx hb dX5_modularityNow_114 ?_
      refine lc_l (v := 0) (by first | rfl | decide) ?_
      refine lv_lload hx hb dX5_modularityNow_115 (lv_at hl 2 rfl) ?_
      refine lv_lmul hx hb dX5_modularityNow_117 ?_
      refine lc_l (v := 0) (by first | rfl | decide) ?_
      refine lv_lload hx hb dX5_modularityNow_118 (lv_at hl 1 rfl) ?_
      refine lv_lload hx hb dX5_modularityNow_120 (lv_at hl 1 rfl) ?_
      refine lv_lmul hx hb dX5_modularityNow_122 ?_
      refine lc_l (v := 0) (by first | rfl | decide) ?_
      refine lv_lsub hx hb dX5_modularityNow_123 ?_
      refine lc_l (v := 0) (by first | rfl | decide) ?_
      refine lv_ladd hx hb dX5_modularityNow_124 ?_
      refine lc_l (v := 0) (by first | rfl | decide) ?_
      refine lv_lstore_n (lv' := [(1, .long 0), (8, .int 1), (6, .long 0), (4, .long 0), (3, .int (nI i)), (0, .ref h)]) hx hb dX5_modularityNow_125 rfl hl (by decide) rfl (fun ls hl => ?_)
      refine lv_iinc (v := nI (i + 1)) (lv' := [(3, .int (nI (i + 1))), (1, .long 0), (8, .int 1), (6, .long 0), (4, .long 0), (0, .ref h)]) hx hb dX5_modularityNow_126 hl (k := 4) rfl (nI_1 _) (by decide) rfl (fun ls hl => ?_)
      refine lv_goto (tgt := 4) hx hb dX5_modularityNow_129 (by decide) ?_
      exact ih () H locs ls trivial hP hD hS (lv_sub hl [0, 1, 5] rfl)
    · skip
      refine lv_lload hx hb dX5_modularityNow_39 (lv_at hl 1 rfl) ?_
      refine lv_aload_n hx hb dX5_modularityNow_41 rfl (lv_at hl 5 rfl) ?_
      refine va_get (D := (dC, dI)) (ci := 5) (v := .ref adegrees) (C := RX5) (T := TX5) (N := 17) hx hb hts i_5 hown hK hP 0 rfl rfl 15 (by decide) k_4 (fun _ h9 => h9) rfl dX5_modularityNow_42 ?_
      refine lv_iload hx hb dX5_modularityNow_45 (lv_at hl 0 rfl) ?_
      refine va_lald hx hb hK hP 3 1 rfl rfl (vp_c (by decide)) dX5_modularityNow_47 ?_
      refine lc_l (v := 0) (by first | rfl | decide) ?_
      refine lv_ladd hx hb dX5_modularityNow_48 ?_
      refine lc_l (v := 0) (by first | rfl | decide) ?_
      refine lv_lstore (lv' := [(6, .long 0), (8, .int 0), (4, .long 0), (3, .int (nI i)), (1, .long 0), (0, .ref h)]) hx hb dX5_modularityNow_49 hl (by decide) rfl (fun ls hl => ?_)
      refine lv_iconst (v := 0) hx hb dX5_modularityNow_51 (by decide) ?_
      refine lv_istore (lv' := [(9, .int 0), (6, .long 0), (8, .int 0), (4, .long 0), (3, .int (nI i)), (1, .long 0), (0, .ref h)]) hx hb dX5_modularityNow_52 hl (by decide) rfl (fun ls hl => ?_)
      refine lv_iload hx hb dX5_modularityNow_54 (lv_at hl 0 rfl) ?_
      refine lv_iload hx hb dX5_modularityNow_56 (lv_at hl 2 rfl) ?_
      refine lv_icmp_gt (tgt := 100) hx hb dX5_modularityNow_58 (by decide) (fun c_6 => ?_) (fun c_6 => ?_)
      · exact absurd c_6 (by decide)
      refine lv_lload hx hb dX5_modularityNow_61 (lv_at hl 3 rfl) ?_
      refine lv_aload_n hx hb dX5_modularityNow_63 rfl (lv_at hl 6 rfl) ?_
      refine va_get (D := (dC, dI)) (ci := 5) (v := .ref acommunity) (C := RX5) (T := TX5) (N := 17) hx hb hts i_5 hown hK hP 0 rfl rfl 5 (by decide) k_1 (fun _ h9 => h9) rfl dX5_modularityNow_64 ?_
      refine lv_iload hx hb dX5_modularityNow_67 (lv_at hl 0 rfl) ?_
      refine va_iald hx hb hK hP 2 0 rfl rfl (vp_c (by decide)) dX5_modularityNow_69 ?_
      refine lc_i (v := 0) hz ?_
      refine lv_iload_n hx hb dX5_modularityNow_70 rfl (lv_at hl 4 rfl) ?_
      refine lv_icmp_ne (tgt := 90) hx hb dX5_modularityNow_71 (by decide) (fun c_7 => ?_) (fun c_7 => ?_)
      · skip
        refine lv_lconst (v := 0) hx hb dX5_modularityNow_90 (by decide) ?_
        refine lv_ladd hx hb dX5_modularityNow_91 ?_
        refine lc_l (v := 0) (by first | rfl | decide) ?_
        refine lv_lstore (lv' := [(4, .long 0), (9, .int 0), (6, .long 0), (8, .int 0), (3, .int (nI i)), (1, .long 0), (0, .ref h)]) hx hb dX5_modularityNow_92 hl (by decide) rfl (fun ls hl => ?_)
        refine lv_iinc (v := 1) (lv' := [(9, .int 1), (4, .long 0), (6, .long 0), (8, .int 0), (3, .int (nI i)), (1, .long 0), (0, .ref h)]) hx hb dX5_modularityNow_94 hl (k := 1) rfl (by decide) (by decide) rfl (fun ls hl => ?_)
        refine lv_goto (tgt := 54) hx hb dX5_modularityNow_97 (by decide) ?_
        refine lv_iload hx hb dX5_modularityNow_54 (lv_at hl 0 rfl) ?_
        refine lv_iload hx hb dX5_modularityNow_56 (lv_at hl 3 rfl) ?_
        refine lv_icmp_gt (tgt := 100) hx hb dX5_modularityNow_58 (by decide) (fun c_8 => ?_) (fun c_8 => ?_)
        rotate_left
        · exact absurd (by decide) c_8
        refine lv_iinc (v := 1) (lv' := [(8, .int 1), (9, .int 1), (4, .long 0), (6, .long 0), (3, .int (nI i)), (1, .long 0), (0, .ref h)]) hx hb dX5_modularityNow_100 hl (k := 3) rfl (by decide) (by decide) rfl (fun ls hl => ?_)
        refine lv_goto (tgt := 19) hx hb dX5_modularityNow_103 (by decide) ?_
        refine lv_iload hx hb dX5_modularityNow_19 (lv_at hl 0 rfl) ?_
        refine lv_aload_n hx hb dX5_modularityNow_21 rfl (lv_at hl 6 rfl) ?_
        refine va_get (D := (dC, dI)) (ci := 5) (v := .int 1) (C := RX5) (T := TX5) (N := 17) hx hb hts i_5 hown hK hP 0 rfl rfl 3 (by decide) k_0 (fun _ h9 => h9) rfl dX5_modularityNow_22 ?_
        refine lv_icmp_ge (tgt := 106) hx hb dX5_modularityNow_25 (by decide) (fun c_9 => ?_) (fun c_9 => ?_)
        rotate_left
        · exact absurd (by decide) c_9
        refine lv_lload_n hx hb dX5_modularityNow_106 rfl (lv_at hl 5 rfl) ?_
        refine lv_ldc2 (own := RX5) (v := 4) hx hb hown k_2 dX5_modularityNow_107 ?_
        refine lv_aload_n hx hb dX5_modularityNow_110 rfl (lv_at hl 6 rfl) ?_
        refine va_get (D := (dC, dI)) (ci := 5) (v := .long 0) (C := RX5) (T := TX5) (N := 17) hx hb hts i_5 hown hK hP 0 rfl rfl 16 (by decide) k_3 (fun _ h9 => h9) rfl dX5_modularityNow_111 ?_
        refine lv_lmul hx hb dX5_modularityNow_114 ?_
        refine lc_l (v := 0) (by first | rfl | decide) ?_
        refine lv_lload hx hb dX5_modularityNow_115 (lv_at hl 2 rfl) ?_
        refine lv_lmul hx hb dX5_modularityNow_117 ?_
        refine lc_l (v := 0) (by first | rfl | decide) ?_
        refine lv_lload hx hb dX5_modularityNow_118 (lv_at hl 3 rfl) ?_
        refine lv_lload hx hb dX5_modularityNow_120 (lv_at hl 3 rfl) ?_
        refine lv_lmul hx hb dX5_modularityNow_122 ?_
        refine lc_l (v := 0) (by first | rfl | decide) ?_
        refine lv_lsub hx hb dX5_modularityNow_123 ?_
        refine lc_l (v := 0) (by first | rfl | decide) ?_
        refine lv_ladd hx hb dX5_modularityNow_124 ?_
        refine lc_l (v := 0) (by first | rfl | decide) ?_
        refine lv_lstore_n (lv' := [(1, .long 0), (8, .int 1), (9, .int 1), (4, .long 0), (6, .long 0), (3, .int (nI i)), (0, .ref h)]) hx hb dX5_modularityNow_125 rfl hl (by decide) rfl (fun ls hl => ?_)
        refine lv_iinc (v := nI (i + 1)) (lv' := [(3, .int (nI (i + 1))), (1, .long 0), (8, .int 1), (9, .int 1), (4, .long 0), (6, .long 0), (0, .ref h)]) hx hb dX5_modularityNow_126 hl (k := 5) rfl (nI_1 _) (by decide) rfl (fun ls hl => ?_)
        refine lv_goto (tgt := 4) hx hb dX5_modularityNow_129 (by decide) ?_
        exact ih () H locs ls trivial hP hD hS (lv_sub hl [0, 1, 6] rfl)
      · skip
        refine lv_aload_n hx hb dX5_modularityNow_74 rfl (lv_at hl 6 rfl) ?_
        refine va_get (D := (dC, dI)) (ci := 5) (v := .ref abetween) (C := RX5) (T := TX5) (N := 17) hx hb hts i_5 hown hK hP 0 rfl rfl 4 (by decide) k_5 (fun _ h9 => h9) rfl dX5_modularityNow_75 ?_
        refine lv_bipush (v := 40) hx hb dX5_modularityNow_78 (by decide) ?_
        refine lv_iload hx hb dX5_modularityNow_80 (lv_at hl 2 rfl) ?_
        refine lv_imul hx hb dX5_modularityNow_82 ?_
        refine lc_i (v := 0) (by first | rfl | decide) ?_
        refine lv_iload hx hb dX5_modularityNow_83 (lv_at hl 0 rfl) ?_
        refine lv_iadd hx hb dX5_modularityNow_85 ?_
        refine lc_i (v := 0) (by first | rfl | decide) ?_
        refine va_lald hx hb hK hP 1 1 rfl rfl (vp_c (by decide)) dX5_modularityNow_86 ?_
        refine lc_l (v := 0) (by first | rfl | decide) ?_
        refine lv_goto (tgt := 91) hx hb dX5_modularityNow_87 (by decide) ?_
        refine lv_ladd hx hb dX5_modularityNow_91 ?_
        refine lc_l (v := 0) (by first | rfl | decide) ?_
        refine lv_lstore (lv' := [(4, .long 0), (9, .int 0), (6, .long 0), (8, .int 0), (3, .int (nI i)), (1, .long 0), (0, .ref h)]) hx hb dX5_modularityNow_92 hl (by decide) rfl (fun ls hl => ?_)
        refine lv_iinc (v := 1) (lv' := [(9, .int 1), (4, .long 0), (6, .long 0), (8, .int 0), (3, .int (nI i)), (1, .long 0), (0, .ref h)]) hx hb dX5_modularityNow_94 hl (k := 1) rfl (by decide) (by decide) rfl (fun ls hl => ?_)
        refine lv_goto (tgt := 54) hx hb dX5_modularityNow_97 (by decide) ?_
        refine lv_iload hx hb dX5_modularityNow_54 (lv_at hl 0 rfl) ?_
        refine lv_iload hx hb dX5_modularityNow_56 (lv_at hl 3 rfl) ?_
        refine lv_icmp_gt (tgt := 100) hx hb dX5_modularityNow_58 (by decide) (fun c_10 => ?_) (fun c_10 => ?_)
        rotate_left
        · exact absurd (by decide) c_10
        refine lv_iinc (v := 1) (lv' := [(8, .int 1), (9, .int 1), (4, .long 0), (6, .long 0), (3, .int (nI i)), (1, .long 0), (0, .ref h)]) hx hb dX5_modularityNow_100 hl (k := 3) rfl (by decide) (by decide) rfl (fun ls hl => ?_)
        refine lv_goto (tgt := 19) hx hb dX5_modularityNow_103 (by decide) ?_
        refine lv_iload hx hb dX5_modularityNow_19 (lv_at hl 0 rfl) ?_
        refine lv_aload_n hx hb dX5_modularityNow_21 rfl (lv_at hl 6 rfl) ?_
        refine va_get (D := (dC, dI)) (ci := 5) (v := .int 1) (C := RX5) (T := TX5) (N := 17) hx hb hts i_5 hown hK hP 0 rfl rfl 3 (by decide) k_0 (fun _ h9 => h9) rfl dX5_modularityNow_22 ?_
        refine lv_icmp_ge (tgt := 106) hx hb dX5_modularityNow_25 (by decide) (fun c_11 => ?_) (fun c_11 => ?_)
        rotate_left
        · exact absurd (by decide) c_11
        refine lv_lload_n hx hb dX5_modularityNow_106 rfl (lv_at hl 5 rfl) ?_
        refine lv_ldc2 (own := RX5) (v := 4) hx hb hown k_2 dX5_modularityNow_107 ?_
        refine lv_aload_n hx hb dX5_modularityNow_110 rfl (lv_at hl 6 rfl) ?_
        refine va_get (D := (dC, dI)) (ci := 5) (v := .long 0) (C := RX5) (T := TX5) (N := 17) hx hb hts i_5 hown hK hP 0 rfl rfl 16 (by decide) k_3 (fun _ h9 => h9) rfl dX5_modularityNow_111 ?_
        refine lv_lmul hx hb dX5_modularityNow_114 ?_
        refine lc_l (v := 0) (by first | rfl | decide) ?_
        refine lv_lload hx hb dX5_modularityNow_115 (lv_at hl 2 rfl) ?_
        refine lv_lmul hx hb dX5_modularityNow_117 ?_
        refine lc_l (v := 0) (by first | rfl | decide) ?_
        refine lv_lload hx hb dX5_modularityNow_118 (lv_at hl 3 rfl) ?_
        refine lv_lload hx hb dX5_modularityNow_120 (lv_at hl 3 rfl) ?_
        refine lv_lmul hx hb dX5_modularityNow_122 ?_
        refine lc_l (v := 0) (by first | rfl | decide) ?_
        refine lv_lsub hx hb dX5_modularityNow_123 ?_
        refine lc_l (v := 0) (by first | rfl | decide) ?_
        refine lv_ladd hx hb dX5_modularityNow_124 ?_
        refine lc_l (v := 0) (by first | rfl | decide) ?_
        refine lv_lstore_n (lv' := [(1, .long 0), (8, .int 1), (9, .int 1), (4, .long 0), (6, .long 0), (3, .int (nI i)), (0, .ref h)]) hx hb dX5_modularityNow_125 rfl hl (by decide) rfl (fun ls hl => ?_)
        refine lv_iinc (v := nI (i + 1)) (lv' := [(3, .int (nI (i + 1))), (1, .long 0), (8, .int 1), (9, .int 1), (4, .long 0), (6, .long 0), (0, .ref h)]) hx hb dX5_modularityNow_126 hl (k := 5) rfl (nI_1 _) (by decide) rfl (fun ls hl => ?_)
        refine lv_goto (tgt := 4) hx hb dX5_modularityNow_129 (by decide) ?_
        exact ih () H locs ls trivial hP hD hS (lv_sub hl [0, 1, 6] rfl)
set_option maxHeartbeats 4000000 in
set_option maxRecDepth 100000 in
theorem c_X5_gainOf (l : Launch) (dC : Nat → ClassId) (dI : Nat → Nat → Nat) (cI cJ : ClassId) (h aweight aown abetween acommunity afresh atold areached aplaced amoved agained adegrees : Nat) (sz : Nat) (fh : Nat → Int32) (hz : fh 0 = 0) : Met l yX5_gainOf wsX5_gainOf ({ frames := 0, cells := 0, slots := 0, locals := 0 }) (va_Pc [.ref h, .int 0, .int 0] (pPre dC dI cI cJ sz [(h, .inr (5, [.int 1, .ref aweight, .ref aown, .int 1, .ref abetween, .ref acommunity, .ref afresh, .int 0, .ref atold, .ref areached, .ref aplaced, .int 0, .ref amoved, .ref agained, .int 0, .ref adegrees, .long 0])), (acommunity, .inl (cI, 40, .inl fh))])) (va_Ql (fun (r : Int64) (_ : Unit) => r = 0) (pPost dC dI (va_A [(h, .inr (5, [.int 1, .ref aweight, .ref aown, .int 1, .ref abetween, .ref acommunity, .ref afresh, .int 0, .ref atold, .ref areached, .ref aplaced, .int 0, .ref amoved, .ref agained, .int 0, .ref adegrees, .long 0])), (acommunity, .inl (cI, 40, .inl fh))] sz) [(h, .inr (5, [.int 1, .ref aweight, .ref aown, .int 1, .ref abetween, .ref acommunity, .ref afresh, .int 0, .ref atold, .ref areached, .ref aplaced, .int 0, .ref amoved, .ref agained, .int 0, .ref adegrees, .long 0])), (acommunity, .inl (cI, 40, .inl fh))]) (va_A [(h, .inr (5, [.int 1, .ref aweight, .ref aown, .int 1, .ref abetween, .ref acommunity, .ref afresh, .int 0, .ref atold, .ref areached, .ref aplaced, .int 0, .ref amoved, .ref agained, .int 0, .ref adegrees, .long 0])), (acommunity, .inl (cI, 40, .inl fh))] sz)) 0 0 (va_A [(h, .inr (5, [.int 1, .ref aweight, .ref aown, .int 1, .ref abetween, .ref acommunity, .ref afresh, .int 0, .ref atold, .ref areached, .ref aplaced, .int 0, .ref amoved, .ref agained, .int 0, .ref adegrees, .long 0])), (acommunity, .inl (cI, 40, .inl fh))] sz) := by
  refine Met.ofW (cc := cX5_gainOf) (maxL := 12) (ret := (some .long)) (by decide) rfl ?_
  intro p e s m args below meth c s₁ B hml hv
  obtain ⟨rfl, hsz, hP, hK, hD0⟩ := hv
  have hx := B.exec
  have hb := B.bytes
  have hr := B.returns
  have hts := atoms_spec (ws := wsX5_gainOf) B.pre
  have hown : s.vm.findClass RX5 = some m.cls := findClass_of_methodNamed B.named
  have hlocks := B.notSynchronized
  subst hsz
  have hD := hD0.self (sz := s.heap.size)
  generalize hAe : va_A [(h, .inr (5, [.int 1, .ref aweight, .ref aown, .int 1, .ref abetween, .ref acommunity, .ref afresh, .int 0, .ref atold, .ref areached, .ref aplaced, .int 0, .ref amoved, .ref agained, .int 0, .ref adegrees, .long 0])), (acommunity, .inl (cI, 40, .inl fh))] s.heap.size = A at hD ⊢
  have hA : ∀ q : Nat, s.heap.size ≤ q → A q := fun q h => by rw [← hAe]; exact Or.inr h
  have hS : va_S A s.heap s.heap [] := va_S.rf
  have hP : va_P (dC, dI) vwCl [(h, .inr (5, [.int 1, .ref aweight, .ref aown, .int 1, .ref abetween, .ref acommunity, .ref afresh, .int 0, .ref atold, .ref areached, .ref aplaced, .int 0, .ref amoved, .ref agained, .int 0, .ref adegrees, .long 0])), (acommunity, .inl (cI, 40, .inl fh))] s.heap := hP
  have hl := lv_entry ([.ref h, .int 0, .int 0]) (n := 12) (Nat.le_of_ble_eq_true rfl)
  rw [lg_entry_eq]
  generalize (lg_sl ([.ref h, .int 0, .int 0]) ++ List.replicate (12 - (lg_sl ([.ref h, .int 0, .int 0])).length) Slot.unset).toArray = ls at hl ⊢
  have hl : lv_has ls 12 [(0, .ref h), (1, .int 0), (2, .int 0)] := hl
  have i_5 : ∀ w ∈ wsX50, w ∈ wsX5_gainOf := by decide +kernel
  have k_0 := hts (.fieldLink RX5 24 "CommunityLevelsModel" "community" "[I") (by decide +kernel)
  refine lv_aload_n hx hb dX5_gainOf_0 rfl (lv_at hl 0 rfl) ?_
  refine va_get (D := (dC, dI)) (ci := 5) (v := .ref acommunity) (C := RX5) (T := TX5) (N := 17) hx hb hts i_5 hown hK hP 0 rfl rfl 5 (by decide) k_0 (fun _ h9 => h9) rfl dX5_gainOf_1 ?_
  refine lv_iload_n hx hb dX5_gainOf_4 rfl (lv_at hl 1 rfl) ?_
  refine va_iald hx hb hK hP 1 0 rfl rfl (vp_c (by decide)) dX5_gainOf_5 ?_
  refine lc_i (v := 0) hz ?_
  refine lv_iload_n hx hb dX5_gainOf_6 rfl (lv_at hl 2 rfl) ?_
  refine lv_icmp_ne (tgt := 12) hx hb dX5_gainOf_7 (by decide) (fun c_1 => ?_) (fun c_1 => ?_)
  · exact absurd c_1 (by decide)
  refine lv_lconst (v := 0) hx hb dX5_gainOf_10 (by decide) ?_
  have hP9 := hP.sub (ws' := [(h, .inr (5, [.int 1, .ref aweight, .ref aown, .int 1, .ref abetween, .ref acommunity, .ref afresh, .int 0, .ref atold, .ref areached, .ref aplaced, .int 0, .ref amoved, .ref agained, .int 0, .ref adegrees, .long 0])), (acommunity, .inl (cI, 40, .inl fh))]) [0, 1] rfl
  have hD9 := hD.sub (ws' := [(h, .inr (5, [.int 1, .ref aweight, .ref aown, .int 1, .ref abetween, .ref acommunity, .ref afresh, .int 0, .ref atold, .ref areached, .ref aplaced, .int 0, .ref amoved, .ref agained, .int 0, .ref adegrees, .long 0])), (acommunity, .inl (cI, 40, .inl fh))]) [0, 1] (by decide) rfl
  exact W.lret (v := 0) hx hb hr (fun t ht hW => ⟨⟨_, (), rfl, rfl, by rw [ht]; exact hP9, hD9⟩, hS.F ht⟩) hS.2.2 dX5_gainOf_11
set_option maxHeartbeats 4000000 in
set_option maxRecDepth 100000 in
theorem c_X5_isNear (l : Launch) (dC : Nat → ClassId) (dI : Nat → Nat → Nat) (cI cJ : ClassId) (h aweight aown abetween acommunity afresh atold areached aplaced amoved agained adegrees : Nat) (sz : Nat) (n : Int32) : Met l yX5_isNear wsX5_isNear ({ frames := 0, cells := 0, slots := 0, locals := 0 }) (va_Pc [.ref h, .int 0, .int n] (pPre dC dI cI cJ sz [(h, .inr (5, [.int 1, .ref aweight, .ref aown, .int 1, .ref abetween, .ref acommunity, .ref afresh, .int 0, .ref atold, .ref areached, .ref aplaced, .int 0, .ref amoved, .ref agained, .int 0, .ref adegrees, .long 0]))])) (va_Qi (fun (r : Int32) (_ : Unit) => r = 0) (pPost dC dI (va_A [(h, .inr (5, [.int 1, .ref aweight, .ref aown, .int 1, .ref abetween, .ref acommunity, .ref afresh, .int 0, .ref atold, .ref areached, .ref aplaced, .int 0, .ref amoved, .ref agained, .int 0, .ref adegrees, .long 0]))] sz) [(h, .inr (5, [.int 1, .ref aweight, .ref aown, .int 1, .ref abetween, .ref acommunity, .ref afresh, .int 0, .ref atold, .ref areached, .ref aplaced, .int 0, .ref amoved, .ref agained, .int 0, .ref adegrees, .long 0]))]) (va_A [(h, .inr (5, [.int 1, .ref aweight, .ref aown, .int 1, .ref abetween, .ref acommunity, .ref afresh, .int 0, .ref atold, .ref areached, .ref aplaced, .int 0, .ref amoved, .ref agained, .int 0, .ref adegrees, .long 0]))] sz)) 0 0 (va_A [(h, .inr (5, [.int 1, .ref aweight, .ref aown, .int 1, .ref abetween, .ref acommunity, .ref afresh, .int 0, .ref atold, .ref areached, .ref aplaced, .int 0, .ref amoved, .ref agained, .int 0, .ref adegrees, .long 0]))] sz) := by
  refine Met.ofW (cc := cX5_isNear) (maxL := 5) (ret := (some .boolean)) (by decide) rfl ?_
  intro p e s m args below meth c s₁ B hml hv
  obtain ⟨rfl, hsz, hP, hK, hD0⟩ := hv
  have hx := B.exec
  have hb := B.bytes
  have hr := B.returns
  have hts := atoms_spec (ws := wsX5_isNear) B.pre
  have hown : s.vm.findClass RX5 = some m.cls := findClass_of_methodNamed B.named
  have hlocks := B.notSynchronized
  subst hsz
  have hD := hD0.self (sz := s.heap.size)
  generalize hAe : va_A [(h, .inr (5, [.int 1, .ref aweight, .ref aown, .int 1, .ref abetween, .ref acommunity, .ref afresh, .int 0, .ref atold, .ref areached, .ref aplaced, .int 0, .ref amoved, .ref agained, .int 0, .ref adegrees, .long 0]))] s.heap.size = A at hD ⊢
  have hA : ∀ q : Nat, s.heap.size ≤ q → A q := fun q h => by rw [← hAe]; exact Or.inr h
  have hS : va_S A s.heap s.heap [] := va_S.rf
  have hP : va_P (dC, dI) vwCl [(h, .inr (5, [.int 1, .ref aweight, .ref aown, .int 1, .ref abetween, .ref acommunity, .ref afresh, .int 0, .ref atold, .ref areached, .ref aplaced, .int 0, .ref amoved, .ref agained, .int 0, .ref adegrees, .long 0]))] s.heap := hP
  have hl := lv_entry ([.ref h, .int 0, .int n]) (n := 5) (Nat.le_of_ble_eq_true rfl)
  rw [lg_entry_eq]
  generalize (lg_sl ([.ref h, .int 0, .int n]) ++ List.replicate (5 - (lg_sl ([.ref h, .int 0, .int n])).length) Slot.unset).toArray = ls at hl ⊢
  have hl : lv_has ls 5 [(0, .ref h), (1, .int 0), (2, .int n)] := hl
  have i_5 : ∀ w ∈ wsX50, w ∈ wsX5_isNear := by decide +kernel
  have k_0 := hts (.fieldLink RX5 70 "CommunityLevelsModel" "many" "I") (by decide +kernel)
  refine lv_iconst (v := 0) hx hb dX5_isNear_0 (by decide) ?_
  refine lv_istore_n (lv' := [(3, .int 0), (0, .ref h), (1, .int 0), (2, .int n)]) hx hb dX5_isNear_1 rfl hl (by decide) rfl (fun ls hl => ?_)
  refine lv_iconst (v := 0) hx hb dX5_isNear_2 (by decide) ?_
  refine lv_istore (lv' := [(4, .int 0), (3, .int 0), (0, .ref h), (1, .int 0), (2, .int n)]) hx hb dX5_isNear_3 hl (by decide) rfl (fun ls hl => ?_)
  refine lv_iload hx hb dX5_isNear_5 (lv_at hl 0 rfl) ?_
  refine lv_aload_n hx hb dX5_isNear_7 rfl (lv_at hl 2 rfl) ?_
  refine va_get (D := (dC, dI)) (ci := 5) (v := .int 1) (C := RX5) (T := TX5) (N := 17) hx hb hts i_5 hown hK hP 0 rfl rfl 3 (by decide) k_0 (fun _ h9 => h9) rfl dX5_isNear_8 ?_
  refine lv_icmp_ge (tgt := 62) hx hb dX5_isNear_11 (by decide) (fun c_1 => ?_) (fun c_1 => ?_)
  · exact absurd c_1 (by decide)
  refine lv_iload_n hx hb dX5_isNear_14 rfl (lv_at hl 1 rfl) ?_
  refine lv_iload hx hb dX5_isNear_15 (lv_at hl 0 rfl) ?_
  refine lv_iload_n hx hb dX5_isNear_17 rfl (lv_at hl 3 rfl) ?_
  refine lv_icmp_eq (tgt := 53) hx hb dX5_isNear_18 (by decide) (fun c_2 => ?_) (fun c_2 => ?_)
  rotate_left
  · exact absurd (by decide) c_2
  refine lv_iconst (v := 0) hx hb dX5_isNear_53 (by decide) ?_
  refine lv_ior hx hb dX5_isNear_54 ?_
  refine lc_i (v := 0) (by first | rfl | decide) ?_
  refine lv_istore_n (lv' := [(3, .int 0), (4, .int 0), (0, .ref h), (1, .int 0), (2, .int n)]) hx hb dX5_isNear_55 rfl hl (by decide) rfl (fun ls hl => ?_)
  refine lv_iinc (v := 1) (lv' := [(4, .int 1), (3, .int 0), (0, .ref h), (1, .int 0), (2, .int n)]) hx hb dX5_isNear_56 hl (k := 1) rfl (by decide) (by decide) rfl (fun ls hl => ?_)
  refine lv_goto (tgt := 5) hx hb dX5_isNear_59 (by decide) ?_
  refine lv_iload hx hb dX5_isNear_5 (lv_at hl 0 rfl) ?_
  refine lv_aload_n hx hb dX5_isNear_7 rfl (lv_at hl 2 rfl) ?_
  refine va_get (D := (dC, dI)) (ci := 5) (v := .int 1) (C := RX5) (T := TX5) (N := 17) hx hb hts i_5 hown hK hP 0 rfl rfl 3 (by decide) k_0 (fun _ h9 => h9) rfl dX5_isNear_8 ?_
  refine lv_icmp_ge (tgt := 62) hx hb dX5_isNear_11 (by decide) (fun c_3 => ?_) (fun c_3 => ?_)
  rotate_left
  · exact absurd (by decide) c_3
  refine lv_iload_n hx hb dX5_isNear_62 rfl (lv_at hl 1 rfl) ?_
  have hP9 := hP.sub (ws' := [(h, .inr (5, [.int 1, .ref aweight, .ref aown, .int 1, .ref abetween, .ref acommunity, .ref afresh, .int 0, .ref atold, .ref areached, .ref aplaced, .int 0, .ref amoved, .ref agained, .int 0, .ref adegrees, .long 0]))]) [0] rfl
  have hD9 := hD.sub (ws' := [(h, .inr (5, [.int 1, .ref aweight, .ref aown, .int 1, .ref abetween, .ref acommunity, .ref afresh, .int 0, .ref atold, .ref areached, .ref aplaced, .int 0, .ref amoved, .ref agained, .int 0, .ref adegrees, .long 0]))]) [0] (by decide) rfl
  exact W.zret (v := 0) hx hb hr (by decide) (fun t ht hW => ⟨⟨_, (), rfl, rfl, by rw [ht]; exact hP9, hD9⟩, hS.F ht⟩) hS.2.2 dX5_isNear_63
set_option maxHeartbeats 4000000 in
set_option maxRecDepth 100000 in
theorem c_X5_isAlone (l : Launch) (dC : Nat → ClassId) (dI : Nat → Nat → Nat) (cI cJ : ClassId) (h aweight aown abetween acommunity afresh atold areached aplaced amoved agained adegrees : Nat) (sz : Nat) : Met l yX5_isAlone wsX5_isAlone ({ frames := 0, cells := 0, slots := 0, locals := 0 }) (va_Pc [.ref h, .int 0] (pPre dC dI cI cJ sz [(h, .inr (5, [.int 1, .ref aweight, .ref aown, .int 1, .ref abetween, .ref acommunity, .ref afresh, .int 0, .ref atold, .ref areached, .ref aplaced, .int 0, .ref amoved, .ref agained, .int 0, .ref adegrees, .long 0]))])) (va_Qi (fun (r : Int32) (_ : Unit) => r = 1) (pPost dC dI (va_A [(h, .inr (5, [.int 1, .ref aweight, .ref aown, .int 1, .ref abetween, .ref acommunity, .ref afresh, .int 0, .ref atold, .ref areached, .ref aplaced, .int 0, .ref amoved, .ref agained, .int 0, .ref adegrees, .long 0]))] sz) [(h, .inr (5, [.int 1, .ref aweight, .ref aown, .int 1, .ref abetween, .ref acommunity, .ref afresh, .int 0, .ref atold, .ref areached, .ref aplaced, .int 0, .ref amoved, .ref agained, .int 0, .ref adegrees, .long 0]))]) (va_A [(h, .inr (5, [.int 1, .ref aweight, .ref aown, .int 1, .ref abetween, .ref acommunity, .ref afresh, .int 0, .ref atold, .ref areached, .ref aplaced, .int 0, .ref amoved, .ref agained, .int 0, .ref adegrees, .long 0]))] sz)) 0 0 (va_A [(h, .inr (5, [.int 1, .ref aweight, .ref aown, .int 1, .ref abetween, .ref acommunity, .ref afresh, .int 0, .ref atold, .ref areached, .ref aplaced, .int 0, .ref amoved, .ref agained, .int 0, .ref adegrees, .long 0]))] sz) := by
  refine Met.ofW (cc := cX5_isAlone) (maxL := 4) (ret := (some .boolean)) (by decide) rfl ?_
  intro p e s m args below meth c s₁ B hml hv
  obtain ⟨rfl, hsz, hP, hK, hD0⟩ := hv
  have hx := B.exec
  have hb := B.bytes
  have hr := B.returns
  have hts := atoms_spec (ws := wsX5_isAlone) B.pre
  have hown : s.vm.findClass RX5 = some m.cls := findClass_of_methodNamed B.named
  have hlocks := B.notSynchronized
  subst hsz
  have hD := hD0.self (sz := s.heap.size)
  generalize hAe : va_A [(h, .inr (5, [.int 1, .ref aweight, .ref aown, .int 1, .ref abetween, .ref acommunity, .ref afresh, .int 0, .ref atold, .ref areached, .ref aplaced, .int 0, .ref amoved, .ref agained, .int 0, .ref adegrees, .long 0]))] s.heap.size = A at hD ⊢
  have hA : ∀ q : Nat, s.heap.size ≤ q → A q := fun q h => by rw [← hAe]; exact Or.inr h
  have hS : va_S A s.heap s.heap [] := va_S.rf
  have hP : va_P (dC, dI) vwCl [(h, .inr (5, [.int 1, .ref aweight, .ref aown, .int 1, .ref abetween, .ref acommunity, .ref afresh, .int 0, .ref atold, .ref areached, .ref aplaced, .int 0, .ref amoved, .ref agained, .int 0, .ref adegrees, .long 0]))] s.heap := hP
  have hl := lv_entry ([.ref h, .int 0]) (n := 4) (Nat.le_of_ble_eq_true rfl)
  rw [lg_entry_eq]
  generalize (lg_sl ([.ref h, .int 0]) ++ List.replicate (4 - (lg_sl ([.ref h, .int 0])).length) Slot.unset).toArray = ls at hl ⊢
  have hl : lv_has ls 4 [(0, .ref h), (1, .int 0)] := hl
  have i_5 : ∀ w ∈ wsX50, w ∈ wsX5_isAlone := by decide +kernel
  have k_0 := hts (.fieldLink RX5 70 "CommunityLevelsModel" "many" "I") (by decide +kernel)
  refine lv_iconst (v := 1) hx hb dX5_isAlone_0 (by decide) ?_
  refine lv_istore_n (lv' := [(2, .int 1), (0, .ref h), (1, .int 0)]) hx hb dX5_isAlone_1 rfl hl (by decide) rfl (fun ls hl => ?_)
  refine lv_iconst (v := 0) hx hb dX5_isAlone_2 (by decide) ?_
  refine lv_istore_n (lv' := [(3, .int 0), (2, .int 1), (0, .ref h), (1, .int 0)]) hx hb dX5_isAlone_3 rfl hl (by decide) rfl (fun ls hl => ?_)
  refine lv_iload_n hx hb dX5_isAlone_4 rfl (lv_at hl 0 rfl) ?_
  refine lv_aload_n hx hb dX5_isAlone_5 rfl (lv_at hl 2 rfl) ?_
  refine va_get (D := (dC, dI)) (ci := 5) (v := .int 1) (C := RX5) (T := TX5) (N := 17) hx hb hts i_5 hown hK hP 0 rfl rfl 3 (by decide) k_0 (fun _ h9 => h9) rfl dX5_isAlone_6 ?_
  refine lv_icmp_ge (tgt := 46) hx hb dX5_isAlone_9 (by decide) (fun c_1 => ?_) (fun c_1 => ?_)
  · exact absurd c_1 (by decide)
  refine lv_iload_n hx hb dX5_isAlone_12 rfl (lv_at hl 1 rfl) ?_
  refine lv_iload_n hx hb dX5_isAlone_13 rfl (lv_at hl 0 rfl) ?_
  refine lv_iload_n hx hb dX5_isAlone_14 rfl (lv_at hl 3 rfl) ?_
  refine lv_icmp_eq (tgt := 33) hx hb dX5_isAlone_15 (by decide) (fun c_2 => ?_) (fun c_2 => ?_)
  rotate_left
  · exact absurd (by decide) c_2
  refine lv_iconst (v := 1) hx hb dX5_isAlone_33 (by decide) ?_
  refine lv_goto (tgt := 38) hx hb dX5_isAlone_34 (by decide) ?_
  refine lv_iand hx hb dX5_isAlone_38 ?_
  refine lc_i (v := 1) (by first | rfl | decide) ?_
  refine lv_istore_n (lv' := [(2, .int 1), (3, .int 0), (0, .ref h), (1, .int 0)]) hx hb dX5_isAlone_39 rfl hl (by decide) rfl (fun ls hl => ?_)
  refine lv_iinc (v := 1) (lv' := [(3, .int 1), (2, .int 1), (0, .ref h), (1, .int 0)]) hx hb dX5_isAlone_40 hl (k := 1) rfl (by decide) (by decide) rfl (fun ls hl => ?_)
  refine lv_goto (tgt := 4) hx hb dX5_isAlone_43 (by decide) ?_
  refine lv_iload_n hx hb dX5_isAlone_4 rfl (lv_at hl 0 rfl) ?_
  refine lv_aload_n hx hb dX5_isAlone_5 rfl (lv_at hl 2 rfl) ?_
  refine va_get (D := (dC, dI)) (ci := 5) (v := .int 1) (C := RX5) (T := TX5) (N := 17) hx hb hts i_5 hown hK hP 0 rfl rfl 3 (by decide) k_0 (fun _ h9 => h9) rfl dX5_isAlone_6 ?_
  refine lv_icmp_ge (tgt := 46) hx hb dX5_isAlone_9 (by decide) (fun c_3 => ?_) (fun c_3 => ?_)
  rotate_left
  · exact absurd (by decide) c_3
  refine lv_iload_n hx hb dX5_isAlone_46 rfl (lv_at hl 1 rfl) ?_
  have hP9 := hP.sub (ws' := [(h, .inr (5, [.int 1, .ref aweight, .ref aown, .int 1, .ref abetween, .ref acommunity, .ref afresh, .int 0, .ref atold, .ref areached, .ref aplaced, .int 0, .ref amoved, .ref agained, .int 0, .ref adegrees, .long 0]))]) [0] rfl
  have hD9 := hD.sub (ws' := [(h, .inr (5, [.int 1, .ref aweight, .ref aown, .int 1, .ref abetween, .ref acommunity, .ref afresh, .int 0, .ref atold, .ref areached, .ref aplaced, .int 0, .ref amoved, .ref agained, .int 0, .ref adegrees, .long 0]))]) [0] (by decide) rfl
  exact W.zret (v := 1) hx hb hr (by decide) (fun t ht hW => ⟨⟨_, (), rfl, rfl, by rw [ht]; exact hP9, hD9⟩, hS.F ht⟩) hS.2.2 dX5_isAlone_47
set_option maxHeartbeats 4000000 in
set_option maxRecDepth 100000 in
theorem c_X5_come (l : Launch) (dC : Nat → ClassId) (dI : Nat → Nat → Nat) (cI cJ : ClassId) (h aweight aown abetween acommunity afresh atold areached aplaced amoved agained adegrees : Nat) (sz : Nat) (fh : Nat → Int32) (hz : fh 0 = 0) : Met l yX5_come wsX5_come ({ frames := 1, cells := 0, slots := 0, locals := 24 }) (va_Pc [.ref h, .int 0] (pPre dC dI cI cJ sz [(h, .inr (5, [.int 1, .ref aweight, .ref aown, .int 1, .ref abetween, .ref acommunity, .ref afresh, .int 0, .ref atold, .ref areached, .ref aplaced, .int 0, .ref amoved, .ref agained, .int 0, .ref adegrees, .long 0])), (acommunity, .inl (cI, 40, .inl fh))])) (va_Qi (fun (r : Int32) (_ : Unit) => r = 0) (pPost dC dI (va_A [(h, .inr (5, [.int 1, .ref aweight, .ref aown, .int 1, .ref abetween, .ref acommunity, .ref afresh, .int 0, .ref atold, .ref areached, .ref aplaced, .int 0, .ref amoved, .ref agained, .int 0, .ref adegrees, .long 0])), (acommunity, .inl (cI, 40, .inl fh))] sz) [(h, .inr (5, [.int 1, .ref aweight, .ref aown, .int 1, .ref abetween, .ref acommunity, .ref afresh, .int 0, .ref atold, .ref areached, .ref aplaced, .int 0, .ref amoved, .ref agained, .int 0, .ref adegrees, .long 0])), (acommunity, .inl (cI, 40, .inl fh))]) (va_A [(h, .inr (5, [.int 1, .ref aweight, .ref aown, .int 1, .ref abetween, .ref acommunity, .ref afresh, .int 0, .ref atold, .ref areached, .ref aplaced, .int 0, .ref amoved, .ref agained, .int 0, .ref adegrees, .long 0])), (acommunity, .inl (cI, 40, .inl fh))] sz)) 0 0 (va_A [(h, .inr (5, [.int 1, .ref aweight, .ref aown, .int 1, .ref abetween, .ref acommunity, .ref afresh, .int 0, .ref atold, .ref areached, .ref aplaced, .int 0, .ref amoved, .ref agained, .int 0, .ref adegrees, .long 0])), (acommunity, .inl (cI, 40, .inl fh))] sz) := by
  refine Met.ofW (cc := cX5_come) (maxL := 8) (ret := (some .boolean)) (by decide) rfl ?_
  intro p e s m args below meth c s₁ B hml hv
  obtain ⟨rfl, hsz, hP, hK, hD0⟩ := hv
  have hx := B.exec
  have hb := B.bytes
  have hr := B.returns
  have hts := atoms_spec (ws := wsX5_come) B.pre
  have hown : s.vm.findClass RX5 = some m.cls := findClass_of_methodNamed B.named
  have hlocks := B.notSynchronized
  subst hsz
  have hD := hD0.self (sz := s.heap.size)
  generalize hAe : va_A [(h, .inr (5, [.int 1, .ref aweight, .ref aown, .int 1, .ref abetween, .ref acommunity, .ref afresh, .int 0, .ref atold, .ref areached, .ref aplaced, .int 0, .ref amoved, .ref agained, .int 0, .ref adegrees, .long 0])), (acommunity, .inl (cI, 40, .inl fh))] s.heap.size = A at hD ⊢
  have hA : ∀ q : Nat, s.heap.size ≤ q → A q := fun q h => by rw [← hAe]; exact Or.inr h
  have hS : va_S A s.heap s.heap [] := va_S.rf
  have hP : va_P (dC, dI) vwCl [(h, .inr (5, [.int 1, .ref aweight, .ref aown, .int 1, .ref abetween, .ref acommunity, .ref afresh, .int 0, .ref atold, .ref areached, .ref aplaced, .int 0, .ref amoved, .ref agained, .int 0, .ref adegrees, .long 0])), (acommunity, .inl (cI, 40, .inl fh))] s.heap := hP
  have hl := lv_entry ([.ref h, .int 0]) (n := 8) (Nat.le_of_ble_eq_true rfl)
  rw [lg_entry_eq]
  generalize (lg_sl ([.ref h, .int 0]) ++ List.replicate (8 - (lg_sl ([.ref h, .int 0])).length) Slot.unset).toArray = ls at hl ⊢
  have hl : lv_has ls 8 [(0, .ref h), (1, .int 0)] := hl
  have i_5 : ∀ w ∈ wsX50, w ∈ wsX5_come := by decide +kernel
  have k_0 := hts (.fieldLink RX5 24 "CommunityLevelsModel" "community" "[I") (by decide +kernel)
  refine lv_iconst (v := (-1)) hx hb dX5_come_0 (by decide) ?_
  refine lv_istore_n (lv' := [(2, .int (-1)), (0, .ref h), (1, .int 0)]) hx hb dX5_come_1 rfl hl (by decide) rfl (fun ls hl => ?_)
  refine lv_lconst (v := 0) hx hb dX5_come_2 (by decide) ?_
  refine lv_lstore_n (lv' := [(3, .long 0), (2, .int (-1)), (0, .ref h), (1, .int 0)]) hx hb dX5_come_3 rfl hl (by decide) rfl (fun ls hl => ?_)
  refine lv_iconst (v := 0) hx hb dX5_come_4 (by decide) ?_
  refine lv_istore (lv' := [(5, .int 0), (3, .long 0), (2, .int (-1)), (0, .ref h), (1, .int 0)]) hx hb dX5_come_5 hl (by decide) rfl (fun ls hl => ?_)
  refine lq_loop (α := Unit) (nL := 8) (fun _ => [(h, .inr (5, [.int 1, .ref aweight, .ref aown, .int 1, .ref abetween, .ref acommunity, .ref afresh, .int 0, .ref atold, .ref areached, .ref aplaced, .int 0, .ref amoved, .ref agained, .int 0, .ref adegrees, .long 0])), (acommunity, .inl (cI, 40, .inl fh))]) (fun i _ => [(5, .int (nI i)), (3, .long 0), (2, .int (-1)), (0, .ref h), (1, .int 0)]) (fun i _ => True) 40 () 0 trivial (Nat.zero_le _) hP hD hS (lv_sub hl [0, 1, 2, 3, 4] rfl) (fun _u H locs ls hI hP hD hS hl => ?_) (fun i _u H locs ls hlt hI hP hD hS hl ih => ?_)
  · skip
    have hP : va_P (dC, dI) vwCl [(h, .inr (5, [.int 1, .ref aweight, .ref aown, .int 1, .ref abetween, .ref acommunity, .ref afresh, .int 0, .ref atold, .ref areached, .ref aplaced, .int 0, .ref amoved, .ref agained, .int 0, .ref adegrees, .long 0])), (acommunity, .inl (cI, 40, .inl fh))] H := hP
    have hD : va_D A [(h, .inr (5, [.int 1, .ref aweight, .ref aown, .int 1, .ref abetween, .ref acommunity, .ref afresh, .int 0, .ref atold, .ref areached, .ref aplaced, .int 0, .ref amoved, .ref agained, .int 0, .ref adegrees, .long 0])), (acommunity, .inl (cI, 40, .inl fh))] := hD
    have hl : lv_has ls 8 [(5, .int (nI 40)), (3, .long 0), (2, .int (-1)), (0, .ref h), (1, .int 0)] := hl
    have hI : True := hI
    refine lv_iload hx hb dX5_come_7 (lv_at hl 0 rfl) ?_
    refine lv_bipush (v := 40) hx hb dX5_come_9 (by decide) ?_
    refine lv_icmp_ge (tgt := 78) hx hb dX5_come_11 (by decide) (fun c_1 => ?_) (fun c_1 => ?_)
    rotate_left
    · exact absurd (nI_le (a := 40) (b := 40) (Nat.le_refl _) (by decide)) c_1
    refine lv_aload_n hx hb dX5_come_78 rfl (lv_at hl 3 rfl) ?_
    refine lv_iload_n hx hb dX5_come_79 rfl (lv_at hl 4 rfl) ?_
    have hPc := hP.sub (ws' := [(h, .inr (5, [.int 1, .ref aweight, .ref aown, .int 1, .ref abetween, .ref acommunity, .ref afresh, .int 0, .ref atold, .ref areached, .ref aplaced, .int 0, .ref amoved, .ref agained, .int 0, .ref adegrees, .long 0]))]) [0] rfl
    have hDc := hD.sub (ws' := [(h, .inr (5, [.int 1, .ref aweight, .ref aown, .int 1, .ref abetween, .ref acommunity, .ref afresh, .int 0, .ref atold, .ref areached, .ref aplaced, .int 0, .ref amoved, .ref agained, .int 0, .ref adegrees, .long 0]))]) [0] (by decide) rfl
    have hFc := va_free (wc := [(h, .inr (5, [.int 1, .ref aweight, .ref aown, .int 1, .ref abetween, .ref acommunity, .ref afresh, .int 0, .ref atold, .ref areached, .ref aplaced, .int 0, .ref amoved, .ref agained, .int 0, .ref adegrees, .long 0]))]) hD hS hA [0] rfl
    refine va_calli (va_runV (As := [.int 0]) (rest := []) ⟨hx, hb, hml, hown, hts⟩ (c_X5_isAlone l dC dI cI cJ h aweight aown abetween acommunity afresh atold areached aplaced amoved agained adegrees H.size) (cwV 1 hts gX5_come_X5_isAlone rfl rfl rfl (by decide +kernel) ⟨Nat.le_of_ble_eq_true rfl, Nat.le_of_ble_eq_true rfl⟩) ⟨fun a U g mk q => by obtain ⟨q0, q1, qP, qK, qD⟩ := q; exact ⟨q0, q1, qP, va_K.moved (u := U) (U := U.calling g mk a) (Vm.Alike.refl U.vm) qK, qD⟩, va_recv hK hPc (ci := 5) (q0 := 0) rfl rfl, fun U hU hW => ⟨rfl, by rw [hU], by rw [hU]; exact hPc, va_K.moved hW.alike hK, hDc.weaken (fun _ _ _ _ => trivial)⟩⟩ rfl rfl hl.1 rfl (lv_room (Nat.le_of_ble_eq_true rfl)) dX5_come_80 ⟨Nat.le_of_ble_eq_true rfl, Nat.le_of_ble_eq_true rfl⟩) hS (fun q _ h => hFc q h) hFc (fun r_2 u_3 t H1 locs ht hvm hw hB hz1 hk1 hS => ?_)
    obtain ⟨hP1, hD1⟩ := hB
    rw [ht] at hP1
    obtain ⟨hP, hD⟩ := va_join (wr := [(acommunity, .inl (cI, 40, .inl fh))]) (w1 := [(h, .inr (5, [.int 1, .ref aweight, .ref aown, .int 1, .ref abetween, .ref acommunity, .ref afresh, .int 0, .ref atold, .ref areached, .ref aplaced, .int 0, .ref amoved, .ref agained, .int 0, .ref adegrees, .long 0]))]) hP hD [0] [1] rfl rfl (by decide) (by decide) hk1 hFc hP1 hD1
    generalize H1 = H at hP hS ⊢
    have hP : va_P (dC, dI) vwCl [(acommunity, .inl (cI, 40, .inl fh)), (h, .inr (5, [.int 1, .ref aweight, .ref aown, .int 1, .ref abetween, .ref acommunity, .ref afresh, .int 0, .ref atold, .ref areached, .ref aplaced, .int 0, .ref amoved, .ref agained, .int 0, .ref adegrees, .long 0]))] H := hP
    have hD : va_D A [(acommunity, .inl (cI, 40, .inl fh)), (h, .inr (5, [.int 1, .ref aweight, .ref aown, .int 1, .ref abetween, .ref acommunity, .ref afresh, .int 0, .ref atold, .ref areached, .ref aplaced, .int 0, .ref amoved, .ref agained, .int 0, .ref adegrees, .long 0]))] := hD
    obtain rfl : r_2 = 1 := hw
    refine lv_if_ne (tgt := 141) hx hb dX5_come_83 (by decide) (fun c_4 => ?_) (fun c_4 => ?_)
    rotate_left
    · exact absurd c_4 (by decide)
    refine lv_iload_n hx hb dX5_come_141 rfl (lv_at hl 2 rfl) ?_
    refine lv_if_ge (tgt := 147) hx hb dX5_come_142 (by decide) (fun c_5 => ?_) (fun c_5 => ?_)
    · exact absurd c_5 (by decide)
    refine lv_iconst (v := 0) hx hb dX5_come_145 (by decide) ?_
    have hP9 := hP.sub (ws' := [(h, .inr (5, [.int 1, .ref aweight, .ref aown, .int 1, .ref abetween, .ref acommunity, .ref afresh, .int 0, .ref atold, .ref areached, .ref aplaced, .int 0, .ref amoved, .ref agained, .int 0, .ref adegrees, .long 0])), (acommunity, .inl (cI, 40, .inl fh))]) [1, 0] rfl
    have hD9 := hD.sub (ws' := [(h, .inr (5, [.int 1, .ref aweight, .ref aown, .int 1, .ref abetween, .ref acommunity, .ref afresh, .int 0, .ref atold, .ref areached, .ref aplaced, .int 0, .ref amoved, .ref agained, .int 0, .ref adegrees, .long 0])), (acommunity, .inl (cI, 40, .inl fh))]) [1, 0] (by decide) rfl
    exact W.zret (v := 0) hx hb hr (by decide) (fun t ht hW => ⟨⟨_, (), rfl, rfl, by rw [ht]; exact hP9, hD9⟩, hS.F ht⟩) hS.2.2 dX5_come_146
  · skip
    have hP : va_P (dC, dI) vwCl [(h, .inr (5, [.int 1, .ref aweight, .ref aown, .int 1, .ref abetween, .ref acommunity, .ref afresh, .int 0, .ref atold, .ref areached, .ref aplaced, .int 0, .ref amoved, .ref agained, .int 0, .ref adegrees, .long 0])), (acommunity, .inl (cI, 40, .inl fh))] H := hP
    have hD : va_D A [(h, .inr (5, [.int 1, .ref aweight, .ref aown, .int 1, .ref abetween, .ref acommunity, .ref afresh, .int 0, .ref atold, .ref areached, .ref aplaced, .int 0, .ref amoved, .ref agained, .int 0, .ref adegrees, .long 0])), (acommunity, .inl (cI, 40, .inl fh))] := hD
    have hl : lv_has ls 8 [(5, .int (nI i)), (3, .long 0), (2, .int (-1)), (0, .ref h), (1, .int 0)] := hl
    have hI : True := hI
    refine lv_iload hx hb dX5_come_7 (lv_at hl 0 rfl) ?_
    refine lv_bipush (v := 40) hx hb dX5_come_9 (by decide) ?_
    refine lv_icmp_ge (tgt := 78) hx hb dX5_come_11 (by decide) (fun c_6 => ?_) (fun c_6 => ?_)
    · exact absurd c_6 (nI_ge (b := 40) hlt (by decide))
    refine lv_iload hx hb dX5_come_14 (lv_at hl 0 rfl) ?_
    refine lv_aload_n hx hb dX5_come_16 rfl (lv_at hl 3 rfl) ?_
    refine va_get (D := (dC, dI)) (ci := 5) (v := .ref acommunity) (C := RX5) (T := TX5) (N := 17) hx hb hts i_5 hown hK hP 0 rfl rfl 5 (by decide) k_0 (fun _ h9 => h9) rfl dX5_come_17 ?_
    refine lv_iload_n hx hb dX5_come_20 rfl (lv_at hl 4 rfl) ?_
    refine va_iald hx hb hK hP 1 0 rfl rfl (vp_c (by decide)) dX5_come_21 ?_
    refine lc_i (v := 0) hz ?_
    refine lv_icmp_eq (tgt := 72) hx hb dX5_come_22 (by decide) (fun c_7 => ?_) (fun c_7 => ?_)
    · skip
      refine lv_iinc (v := nI (i + 1)) (lv' := [(5, .int (nI (i + 1))), (3, .long 0), (2, .int (-1)), (0, .ref h), (1, .int 0)]) hx hb dX5_come_72 hl (k := 0) rfl (nI_1 _) (by decide) rfl (fun ls hl => ?_)
      refine lv_goto (tgt := 7) hx hb dX5_come_75 (by decide) ?_
      exact ih () H locs ls trivial hP hD hS (lv_sub hl [0, 1, 2, 3, 4] rfl)
    · skip
      refine lv_aload_n hx hb dX5_come_25 rfl (lv_at hl 3 rfl) ?_
      refine lv_iload_n hx hb dX5_come_26 rfl (lv_at hl 4 rfl) ?_
      refine lv_iload hx hb dX5_come_27 (lv_at hl 0 rfl) ?_
      have hPc := hP.sub (ws' := [(h, .inr (5, [.int 1, .ref aweight, .ref aown, .int 1, .ref abetween, .ref acommunity, .ref afresh, .int 0, .ref atold, .ref areached, .ref aplaced, .int 0, .ref amoved, .ref agained, .int 0, .ref adegrees, .long 0]))]) [0] rfl
      have hDc := hD.sub (ws' := [(h, .inr (5, [.int 1, .ref aweight, .ref aown, .int 1, .ref abetween, .ref acommunity, .ref afresh, .int 0, .ref atold, .ref areached, .ref aplaced, .int 0, .ref amoved, .ref agained, .int 0, .ref adegrees, .long 0]))]) [0] (by decide) rfl
      have hFc := va_free (wc := [(h, .inr (5, [.int 1, .ref aweight, .ref aown, .int 1, .ref abetween, .ref acommunity, .ref afresh, .int 0, .ref atold, .ref areached, .ref aplaced, .int 0, .ref amoved, .ref agained, .int 0, .ref adegrees, .long 0]))]) hD hS hA [0] rfl
      refine va_calli (va_runV (As := [.int 0, .int (nI i)]) (rest := []) ⟨hx, hb, hml, hown, hts⟩ (c_X5_isNear l dC dI cI cJ h aweight aown abetween acommunity afresh atold areached aplaced amoved agained adegrees H.size (nI i)) (cwV 2 hts gX5_come_X5_isNear rfl rfl rfl (by decide +kernel) ⟨Nat.le_of_ble_eq_true rfl, Nat.le_of_ble_eq_true rfl⟩) ⟨fun a U g mk q => by obtain ⟨q0, q1, qP, qK, qD⟩ := q; exact ⟨q0, q1, qP, va_K.moved (u := U) (U := U.calling g mk a) (Vm.Alike.refl U.vm) qK, qD⟩, va_recv hK hPc (ci := 5) (q0 := 0) rfl rfl, fun U hU hW => ⟨rfl, by rw [hU], by rw [hU]; exact hPc, va_K.moved hW.alike hK, hDc.weaken (fun _ _ _ _ => trivial)⟩⟩ rfl rfl hl.1 rfl (lv_room (Nat.le_of_ble_eq_true rfl)) dX5_come_29 ⟨Nat.le_of_ble_eq_true rfl, Nat.le_of_ble_eq_true rfl⟩) hS (fun q _ h => hFc q h) hFc (fun r_8 u_9 t H1 locs ht hvm hw hB hz1 hk1 hS => ?_)
      obtain ⟨hP1, hD1⟩ := hB
      rw [ht] at hP1
      obtain ⟨hP, hD⟩ := va_join (wr := [(acommunity, .inl (cI, 40, .inl fh))]) (w1 := [(h, .inr (5, [.int 1, .ref aweight, .ref aown, .int 1, .ref abetween, .ref acommunity, .ref afresh, .int 0, .ref atold, .ref areached, .ref aplaced, .int 0, .ref amoved, .ref agained, .int 0, .ref adegrees, .long 0]))]) hP hD [0] [1] rfl rfl (by decide) (by decide) hk1 hFc hP1 hD1
      generalize H1 = H at hP hS ⊢
      have hP : va_P (dC, dI) vwCl [(acommunity, .inl (cI, 40, .inl fh)), (h, .inr (5, [.int 1, .ref aweight, .ref aown, .int 1, .ref abetween, .ref acommunity, .ref afresh, .int 0, .ref atold, .ref areached, .ref aplaced, .int 0, .ref amoved, .ref agained, .int 0, .ref adegrees, .long 0]))] H := hP
      have hD : va_D A [(acommunity, .inl (cI, 40, .inl fh)), (h, .inr (5, [.int 1, .ref aweight, .ref aown, .int 1, .ref abetween, .ref acommunity, .ref afresh, .int 0, .ref atold, .ref areached, .ref aplaced, .int 0, .ref amoved, .ref agained, .int 0, .ref adegrees, .long 0]))] := hD
      obtain rfl : r_8 = 0 := hw
      refine lv_if_eq (tgt := 72) hx hb dX5_come_32 (by decide) (fun c_10 => ?_) (fun c_10 => ?_)
      rotate_left
      · exact absurd (by decide) c_10
      refine lv_iinc (v := nI (i + 1)) (lv' := [(5, .int (nI (i + 1))), (3, .long 0), (2, .int (-1)), (0, .ref h), (1, .int 0)]) hx hb dX5_come_72 hl (k := 0) rfl (nI_1 _) (by decide) rfl (fun ls hl => ?_)
      refine lv_goto (tgt := 7) hx hb dX5_come_75 (by decide) ?_
      exact ih () H locs ls trivial (hP.sub [1, 0] rfl) (hD.sub [1, 0] (by decide) rfl) hS (lv_sub hl [0, 1, 2, 3, 4] rfl)
set_option maxHeartbeats 4000000 in
set_option maxRecDepth 100000 in
theorem c_X5_number (l : Launch) (dC : Nat → ClassId) (dI : Nat → Nat → Nat) (cI cJ : ClassId) (h aweight aown abetween acommunity afresh atold areached aplaced amoved agained adegrees : Nat) (sz : Nat) (fh : Nat → Int32) (hz : fh 0 = 0) : Met l yX5_number wsX5_number ({ frames := 0, cells := 0, slots := 0, locals := 0 }) (va_Pc [.ref h] (pPre dC dI cI cJ sz [(h, .inr (5, [.int 1, .ref aweight, .ref aown, .int 1, .ref abetween, .ref acommunity, .ref afresh, .int 0, .ref atold, .ref areached, .ref aplaced, .int 0, .ref amoved, .ref agained, .int 0, .ref adegrees, .long 0])), (acommunity, .inl (cI, 40, .inl fh))])) (va_Qi (fun (r : Int32) (_ : Unit) => r = 1) (pPost dC dI (va_A [(h, .inr (5, [.int 1, .ref aweight, .ref aown, .int 1, .ref abetween, .ref acommunity, .ref afresh, .int 0, .ref atold, .ref areached, .ref aplaced, .int 0, .ref amoved, .ref agained, .int 0, .ref adegrees, .long 0])), (acommunity, .inl (cI, 40, .inl fh))] sz) [(h, .inr (5, [.int 1, .ref aweight, .ref aown, .int 1, .ref abetween, .ref acommunity, .ref afresh, .int 0, .ref atold, .ref areached, .ref aplaced, .int 0, .ref amoved, .ref agained, .int 0, .ref adegrees, .long 0])), (acommunity, .inl (cI, 40, .inl (upd (upd fh 0 40) 0 0)))]) (va_A [(h, .inr (5, [.int 1, .ref aweight, .ref aown, .int 1, .ref abetween, .ref acommunity, .ref afresh, .int 0, .ref atold, .ref areached, .ref aplaced, .int 0, .ref amoved, .ref agained, .int 0, .ref adegrees, .long 0])), (acommunity, .inl (cI, 40, .inl fh))] sz)) 0 0 (va_A [(h, .inr (5, [.int 1, .ref aweight, .ref aown, .int 1, .ref abetween, .ref acommunity, .ref afresh, .int 0, .ref atold, .ref areached, .ref aplaced, .int 0, .ref amoved, .ref agained, .int 0, .ref adegrees, .long 0])), (acommunity, .inl (cI, 40, .inl fh))] sz) := by
  refine Met.ofW (cc := cX5_number) (maxL := 5) (ret := (some .int)) (by decide) rfl ?_
  intro p e s m args below meth c s₁ B hml hv
  obtain ⟨rfl, hsz, hP, hK, hD0⟩ := hv
  have hx := B.exec
  have hb := B.bytes
  have hr := B.returns
  have hts := atoms_spec (ws := wsX5_number) B.pre
  have hown : s.vm.findClass RX5 = some m.cls := findClass_of_methodNamed B.named
  have hlocks := B.notSynchronized
  subst hsz
  have hD := hD0.self (sz := s.heap.size)
  generalize hAe : va_A [(h, .inr (5, [.int 1, .ref aweight, .ref aown, .int 1, .ref abetween, .ref acommunity, .ref afresh, .int 0, .ref atold, .ref areached, .ref aplaced, .int 0, .ref amoved, .ref agained, .int 0, .ref adegrees, .long 0])), (acommunity, .inl (cI, 40, .inl fh))] s.heap.size = A at hD ⊢
  have hA : ∀ q : Nat, s.heap.size ≤ q → A q := fun q h => by rw [← hAe]; exact Or.inr h
  have hS : va_S A s.heap s.heap [] := va_S.rf
  have hP : va_P (dC, dI) vwCl [(h, .inr (5, [.int 1, .ref aweight, .ref aown, .int 1, .ref abetween, .ref acommunity, .ref afresh, .int 0, .ref atold, .ref areached, .ref aplaced, .int 0, .ref amoved, .ref agained, .int 0, .ref adegrees, .long 0])), (acommunity, .inl (cI, 40, .inl fh))] s.heap := hP
  have hl := lv_entry ([.ref h]) (n := 5) (Nat.le_of_ble_eq_true rfl)
  rw [lg_entry_eq]
  generalize (lg_sl ([.ref h]) ++ List.replicate (5 - (lg_sl ([.ref h])).length) Slot.unset).toArray = ls at hl ⊢
  have hl : lv_has ls 5 [(0, .ref h)] := hl
  have i_5 : ∀ w ∈ wsX50, w ∈ wsX5_number := by decide +kernel
  have k_0 := hts (.fieldLink RX5 70 "CommunityLevelsModel" "many" "I") (by decide +kernel)
  have k_1 := hts (.fieldLink RX5 24 "CommunityLevelsModel" "community" "[I") (by decide +kernel)
  refine lv_iconst (v := 0) hx hb dX5_number_0 (by decide) ?_
  refine lv_istore_n (lv' := [(1, .int 0), (0, .ref h)]) hx hb dX5_number_1 rfl hl (by decide) rfl (fun ls hl => ?_)
  refine lv_iconst (v := 0) hx hb dX5_number_2 (by decide) ?_
  refine lv_istore_n (lv' := [(2, .int 0), (1, .int 0), (0, .ref h)]) hx hb dX5_number_3 rfl hl (by decide) rfl (fun ls hl => ?_)
  refine lv_iload_n hx hb dX5_number_4 rfl (lv_at hl 0 rfl) ?_
  refine lv_aload_n hx hb dX5_number_5 rfl (lv_at hl 2 rfl) ?_
  refine va_get (D := (dC, dI)) (ci := 5) (v := .int 1) (C := RX5) (T := TX5) (N := 17) hx hb hts i_5 hown hK hP 0 rfl rfl 3 (by decide) k_0 (fun _ h9 => h9) rfl dX5_number_6 ?_
  refine lv_icmp_ge (tgt := 84) hx hb dX5_number_9 (by decide) (fun c_1 => ?_) (fun c_1 => ?_)
  · exact absurd c_1 (by decide)
  refine lv_aload_n hx hb dX5_number_12 rfl (lv_at hl 2 rfl) ?_
  refine va_get (D := (dC, dI)) (ci := 5) (v := .ref acommunity) (C := RX5) (T := TX5) (N := 17) hx hb hts i_5 hown hK hP 0 rfl rfl 5 (by decide) k_1 (fun _ h9 => h9) rfl dX5_number_13 ?_
  refine lv_iload_n hx hb dX5_number_16 rfl (lv_at hl 0 rfl) ?_
  refine va_iald hx hb hK hP 1 0 rfl rfl (vp_c (by decide)) dX5_number_17 ?_
  refine lc_i (v := 0) hz ?_
  refine lv_istore_n (lv' := [(3, .int 0), (2, .int 0), (1, .int 0), (0, .ref h)]) hx hb dX5_number_18 rfl hl (by decide) rfl (fun ls hl => ?_)
  refine lv_iload_n hx hb dX5_number_19 rfl (lv_at hl 0 rfl) ?_
  refine lv_bipush (v := 40) hx hb dX5_number_20 (by decide) ?_
  refine lv_icmp_ge (tgt := 78) hx hb dX5_number_22 (by decide) (fun c_2 => ?_) (fun c_2 => ?_)
  · exact absurd c_2 (by decide)
  refine lv_iload_n hx hb dX5_number_25 rfl (lv_at hl 1 rfl) ?_
  refine lv_istore (lv' := [(4, .int 0), (3, .int 0), (2, .int 0), (1, .int 0), (0, .ref h)]) hx hb dX5_number_26 hl (by decide) rfl (fun ls hl => ?_)
  refine lv_iload hx hb dX5_number_28 (lv_at hl 0 rfl) ?_
  refine lv_aload_n hx hb dX5_number_30 rfl (lv_at hl 4 rfl) ?_
  refine va_get (D := (dC, dI)) (ci := 5) (v := .int 1) (C := RX5) (T := TX5) (N := 17) hx hb hts i_5 hown hK hP 0 rfl rfl 3 (by decide) k_0 (fun _ h9 => h9) rfl dX5_number_31 ?_
  refine lv_icmp_ge (tgt := 75) hx hb dX5_number_34 (by decide) (fun c_3 => ?_) (fun c_3 => ?_)
  · exact absurd c_3 (by decide)
  refine lv_aload_n hx hb dX5_number_37 rfl (lv_at hl 4 rfl) ?_
  refine va_get (D := (dC, dI)) (ci := 5) (v := .ref acommunity) (C := RX5) (T := TX5) (N := 17) hx hb hts i_5 hown hK hP 0 rfl rfl 5 (by decide) k_1 (fun _ h9 => h9) rfl dX5_number_38 ?_
  refine lv_iload hx hb dX5_number_41 (lv_at hl 0 rfl) ?_
  refine lv_aload_n hx hb dX5_number_43 rfl (lv_at hl 4 rfl) ?_
  refine va_get (D := (dC, dI)) (ci := 5) (v := .ref acommunity) (C := RX5) (T := TX5) (N := 17) hx hb hts i_5 hown hK hP 0 rfl rfl 5 (by decide) k_1 (fun _ h9 => h9) rfl dX5_number_44 ?_
  refine lv_iload hx hb dX5_number_47 (lv_at hl 0 rfl) ?_
  refine va_iald hx hb hK hP 1 0 rfl rfl (vp_c (by decide)) dX5_number_49 ?_
  refine lc_i (v := 0) hz ?_
  refine lv_iload_n hx hb dX5_number_50 rfl (lv_at hl 1 rfl) ?_
  refine lv_icmp_ne (tgt := 61) hx hb dX5_number_51 (by decide) (fun c_4 => ?_) (fun c_4 => ?_)
  · exact absurd c_4 (by decide)
  refine lv_bipush (v := 40) hx hb dX5_number_54 (by decide) ?_
  refine lv_iload_n hx hb dX5_number_56 rfl (lv_at hl 3 rfl) ?_
  refine lv_iadd hx hb dX5_number_57 ?_
  refine lc_i (v := 40) (by first | rfl | decide) ?_
  refine lv_goto (tgt := 68) hx hb dX5_number_58 (by decide) ?_
  refine va_iast hx hb hK hP hD hS 1 0 rfl rfl (vp_c (by decide)) dX5_number_68 (fun H locs hP hD hS => ?_)
  have hP : va_P (dC, dI) vwCl [(h, .inr (5, [.int 1, .ref aweight, .ref aown, .int 1, .ref abetween, .ref acommunity, .ref afresh, .int 0, .ref atold, .ref areached, .ref aplaced, .int 0, .ref amoved, .ref agained, .int 0, .ref adegrees, .long 0])), (acommunity, .inl (cI, 40, .inl (upd fh 0 40)))] H := hP
  have hD : va_D A [(h, .inr (5, [.int 1, .ref aweight, .ref aown, .int 1, .ref abetween, .ref acommunity, .ref afresh, .int 0, .ref atold, .ref areached, .ref aplaced, .int 0, .ref amoved, .ref agained, .int 0, .ref adegrees, .long 0])), (acommunity, .inl (cI, 40, .inl (upd fh 0 40)))] := hD
  refine lv_iinc (v := 1) (lv' := [(4, .int 1), (3, .int 0), (2, .int 0), (1, .int 0), (0, .ref h)]) hx hb dX5_number_69 hl (k := 0) rfl (by decide) (by decide) rfl (fun ls hl => ?_)
  refine lv_goto (tgt := 28) hx hb dX5_number_72 (by decide) ?_
  refine lv_iload hx hb dX5_number_28 (lv_at hl 0 rfl) ?_
  refine lv_aload_n hx hb dX5_number_30 rfl (lv_at hl 4 rfl) ?_
  refine va_get (D := (dC, dI)) (ci := 5) (v := .int 1) (C := RX5) (T := TX5) (N := 17) hx hb hts i_5 hown hK hP 0 rfl rfl 3 (by decide) k_0 (fun _ h9 => h9) rfl dX5_number_31 ?_
  refine lv_icmp_ge (tgt := 75) hx hb dX5_number_34 (by decide) (fun c_5 => ?_) (fun c_5 => ?_)
  rotate_left
  · exact absurd (by decide) c_5
  refine lv_iinc (v := 1) (lv' := [(1, .int 1), (4, .int 1), (3, .int 0), (2, .int 0), (0, .ref h)]) hx hb dX5_number_75 hl (k := 3) rfl (by decide) (by decide) rfl (fun ls hl => ?_)
  refine lv_iinc (v := 1) (lv' := [(2, .int 1), (1, .int 1), (4, .int 1), (3, .int 0), (0, .ref h)]) hx hb dX5_number_78 hl (k := 3) rfl (by decide) (by decide) rfl (fun ls hl => ?_)
  refine lv_goto (tgt := 4) hx hb dX5_number_81 (by decide) ?_
  refine lv_iload_n hx hb dX5_number_4 rfl (lv_at hl 0 rfl) ?_
  refine lv_aload_n hx hb dX5_number_5 rfl (lv_at hl 4 rfl) ?_
  refine va_get (D := (dC, dI)) (ci := 5) (v := .int 1) (C := RX5) (T := TX5) (N := 17) hx hb hts i_5 hown hK hP 0 rfl rfl 3 (by decide) k_0 (fun _ h9 => h9) rfl dX5_number_6 ?_
  refine lv_icmp_ge (tgt := 84) hx hb dX5_number_9 (by decide) (fun c_6 => ?_) (fun c_6 => ?_)
  rotate_left
  · exact absurd (by decide) c_6
  refine lv_iconst (v := 0) hx hb dX5_number_84 (by decide) ?_
  refine lv_istore_n (lv' := [(2, .int 0), (1, .int 1), (4, .int 1), (3, .int 0), (0, .ref h)]) hx hb dX5_number_85 rfl hl (by decide) rfl (fun ls hl => ?_)
  refine lv_iload_n hx hb dX5_number_86 rfl (lv_at hl 0 rfl) ?_
  refine lv_aload_n hx hb dX5_number_87 rfl (lv_at hl 4 rfl) ?_
  refine va_get (D := (dC, dI)) (ci := 5) (v := .int 1) (C := RX5) (T := TX5) (N := 17) hx hb hts i_5 hown hK hP 0 rfl rfl 3 (by decide) k_0 (fun _ h9 => h9) rfl dX5_number_88 ?_
  refine lv_icmp_ge (tgt := 111) hx hb dX5_number_91 (by decide) (fun c_7 => ?_) (fun c_7 => ?_)
  · exact absurd c_7 (by decide)
  refine lv_aload_n hx hb dX5_number_94 rfl (lv_at hl 4 rfl) ?_
  refine va_get (D := (dC, dI)) (ci := 5) (v := .ref acommunity) (C := RX5) (T := TX5) (N := 17) hx hb hts i_5 hown hK hP 0 rfl rfl 5 (by decide) k_1 (fun _ h9 => h9) rfl dX5_number_95 ?_
  refine lv_iload_n hx hb dX5_number_98 rfl (lv_at hl 0 rfl) ?_
  refine lv_dup2_11 hx hb dX5_number_99 rfl rfl ?_
  refine va_iald hx hb hK hP 1 0 rfl rfl (vp_c (by decide)) dX5_number_100 ?_
  refine lc_i (v := 40) (by first | rfl | decide) ?_
  refine lv_bipush (v := 40) hx hb dX5_number_101 (by decide) ?_
  refine lv_isub hx hb dX5_number_103 ?_
  refine lc_i (v := 0) (by first | rfl | decide) ?_
  refine va_iast hx hb hK hP hD hS 1 0 rfl rfl (vp_c (by decide)) dX5_number_104 (fun H locs hP hD hS => ?_)
  have hP : va_P (dC, dI) vwCl [(h, .inr (5, [.int 1, .ref aweight, .ref aown, .int 1, .ref abetween, .ref acommunity, .ref afresh, .int 0, .ref atold, .ref areached, .ref aplaced, .int 0, .ref amoved, .ref agained, .int 0, .ref adegrees, .long 0])), (acommunity, .inl (cI, 40, .inl (upd (upd fh 0 40) 0 0)))] H := hP
  have hD : va_D A [(h, .inr (5, [.int 1, .ref aweight, .ref aown, .int 1, .ref abetween, .ref acommunity, .ref afresh, .int 0, .ref atold, .ref areached, .ref aplaced, .int 0, .ref amoved, .ref agained, .int 0, .ref adegrees, .long 0])), (acommunity, .inl (cI, 40, .inl (upd (upd fh 0 40) 0 0)))] := hD
  refine lv_iinc (v := 1) (lv' := [(2, .int 1), (1, .int 1), (4, .int 1), (3, .int 0), (0, .ref h)]) hx hb dX5_number_105 hl (k := 0) rfl (by decide) (by decide) rfl (fun ls hl => ?_)
  refine lv_goto (tgt := 86) hx hb dX5_number_108 (by decide) ?_
  refine lv_iload_n hx hb dX5_number_86 rfl (lv_at hl 0 rfl) ?_
  refine lv_aload_n hx hb dX5_number_87 rfl (lv_at hl 4 rfl) ?_
  refine va_get (D := (dC, dI)) (ci := 5) (v := .int 1) (C := RX5) (T := TX5) (N := 17) hx hb hts i_5 hown hK hP 0 rfl rfl 3 (by decide) k_0 (fun _ h9 => h9) rfl dX5_number_88 ?_
  refine lv_icmp_ge (tgt := 111) hx hb dX5_number_91 (by decide) (fun c_8 => ?_) (fun c_8 => ?_)
  rotate_left
  · exact absurd (by decide) c_8
  refine lv_iload_n hx hb dX5_number_111 rfl (lv_at hl 1 rfl) ?_
  have hP9 := hP.sub (ws' := [(h, .inr (5, [.int 1, .ref aweight, .ref aown, .int 1, .ref abetween, .ref acommunity, .ref afresh, .int 0, .ref atold, .ref areached, .ref aplaced, .int 0, .ref amoved, .ref agained, .int 0, .ref adegrees, .long 0])), (acommunity, .inl (cI, 40, .inl (upd (upd fh 0 40) 0 0)))]) [0, 1] rfl
  have hD9 := hD.sub (ws' := [(h, .inr (5, [.int 1, .ref aweight, .ref aown, .int 1, .ref abetween, .ref acommunity, .ref afresh, .int 0, .ref atold, .ref areached, .ref aplaced, .int 0, .ref amoved, .ref agained, .int 0, .ref adegrees, .long 0])), (acommunity, .inl (cI, 40, .inl (upd (upd fh 0 40) 0 0)))]) [0, 1] (by decide) rfl
  exact W.iret (v := 1) hx hb hr (fun t ht hW => ⟨⟨_, (), rfl, rfl, by rw [ht]; exact hP9, hD9⟩, hS.F ht⟩) hS.2.2 dX5_number_112
set_option maxHeartbeats 4000000 in
set_option maxRecDepth 100000 in
theorem c_X5_run (l : Launch) (dC : Nat → ClassId) (dI : Nat → Nat → Nat) (cI cJ : ClassId) (h aweight aown abetween acommunity afresh atold areached aplaced amoved agained adegrees : Nat) (sz : Nat) : Met l yX5_run wsX5_run ({ frames := 2, cells := 0, slots := 0, locals := 51 }) (va_Pc [.ref h] (pPre dC dI cI cJ sz [(h, .inr (5, [.int 1, .ref aweight, .ref aown, .int 0, .ref abetween, .ref acommunity, .ref afresh, .int 0, .ref atold, .ref areached, .ref aplaced, .int 0, .ref amoved, .ref agained, .int 0, .ref adegrees, .long 0])), (aweight, .inl (cI, 1600, .inl Zi)), (abetween, .inl (cJ, 1600, .inr (.inl Zl))), (acommunity, .inl (cI, 40, .inl Zi)), (atold, .inl (cI, 164, .inl Zi)), (areached, .inl (cJ, 41, .inr (.inl Zl))), (aplaced, .inl (cI, 1640, .inl Zi)), (adegrees, .inl (cJ, 40, .inr (.inl Zl)))])) (va_Qi (fun (r : Int32) (_ : Unit) => r = 1) (pPost dC dI (va_A [(h, .inr (5, [.int 1, .ref aweight, .ref aown, .int 0, .ref abetween, .ref acommunity, .ref afresh, .int 0, .ref atold, .ref areached, .ref aplaced, .int 0, .ref amoved, .ref agained, .int 0, .ref adegrees, .long 0])), (aweight, .inl (cI, 1600, .inl Zi)), (abetween, .inl (cJ, 1600, .inr (.inl Zl))), (acommunity, .inl (cI, 40, .inl Zi)), (atold, .inl (cI, 164, .inl Zi)), (areached, .inl (cJ, 41, .inr (.inl Zl))), (aplaced, .inl (cI, 1640, .inl Zi)), (adegrees, .inl (cJ, 40, .inr (.inl Zl)))] sz) []) (va_A [(h, .inr (5, [.int 1, .ref aweight, .ref aown, .int 0, .ref abetween, .ref acommunity, .ref afresh, .int 0, .ref atold, .ref areached, .ref aplaced, .int 0, .ref amoved, .ref agained, .int 0, .ref adegrees, .long 0])), (aweight, .inl (cI, 1600, .inl Zi)), (abetween, .inl (cJ, 1600, .inr (.inl Zl))), (acommunity, .inl (cI, 40, .inl Zi)), (atold, .inl (cI, 164, .inl Zi)), (areached, .inl (cJ, 41, .inr (.inl Zl))), (aplaced, .inl (cI, 1640, .inl Zi)), (adegrees, .inl (cJ, 40, .inr (.inl Zl)))] sz)) 0 0 (va_A [(h, .inr (5, [.int 1, .ref aweight, .ref aown, .int 0, .ref abetween, .ref acommunity, .ref afresh, .int 0, .ref atold, .ref areached, .ref aplaced, .int 0, .ref amoved, .ref agained, .int 0, .ref adegrees, .long 0])), (aweight, .inl (cI, 1600, .inl Zi)), (abetween, .inl (cJ, 1600, .inr (.inl Zl))), (acommunity, .inl (cI, 40, .inl Zi)), (atold, .inl (cI, 164, .inl Zi)), (areached, .inl (cJ, 41, .inr (.inl Zl))), (aplaced, .inl (cI, 1640, .inl Zi)), (adegrees, .inl (cJ, 40, .inr (.inl Zl)))] sz) := by
  refine Met.ofW (cc := cX5_run) (maxL := 8) (ret := (some .int)) (by decide) rfl ?_
  intro p e s m args below meth c s₁ B hml hv
  obtain ⟨rfl, hsz, hP, hK, hD0⟩ := hv
  have hx := B.exec
  have hb := B.bytes
  have hr := B.returns
  have hts := atoms_spec (ws := wsX5_run) B.pre
  have hown : s.vm.findClass RX5 = some m.cls := findClass_of_methodNamed B.named
  have hlocks := B.notSynchronized
  subst hsz
  have hD := hD0.self (sz := s.heap.size)
  generalize hAe : va_A [(h, .inr (5, [.int 1, .ref aweight, .ref aown, .int 0, .ref abetween, .ref acommunity, .ref afresh, .int 0, .ref atold, .ref areached, .ref aplaced, .int 0, .ref amoved, .ref agained, .int 0, .ref adegrees, .long 0])), (aweight, .inl (cI, 1600, .inl Zi)), (abetween, .inl (cJ, 1600, .inr (.inl Zl))), (acommunity, .inl (cI, 40, .inl Zi)), (atold, .inl (cI, 164, .inl Zi)), (areached, .inl (cJ, 41, .inr (.inl Zl))), (aplaced, .inl (cI, 1640, .inl Zi)), (adegrees, .inl (cJ, 40, .inr (.inl Zl)))] s.heap.size = A at hD ⊢
  have hA : ∀ q : Nat, s.heap.size ≤ q → A q := fun q h => by rw [← hAe]; exact Or.inr h
  have hS : va_S A s.heap s.heap [] := va_S.rf
  have hP : va_P (dC, dI) vwCl [(h, .inr (5, [.int 1, .ref aweight, .ref aown, .int 0, .ref abetween, .ref acommunity, .ref afresh, .int 0, .ref atold, .ref areached, .ref aplaced, .int 0, .ref amoved, .ref agained, .int 0, .ref adegrees, .long 0])), (aweight, .inl (cI, 1600, .inl Zi)), (abetween, .inl (cJ, 1600, .inr (.inl Zl))), (acommunity, .inl (cI, 40, .inl Zi)), (atold, .inl (cI, 164, .inl Zi)), (areached, .inl (cJ, 41, .inr (.inl Zl))), (aplaced, .inl (cI, 1640, .inl Zi)), (adegrees, .inl (cJ, 40, .inr (.inl Zl)))] s.heap := hP
  have hl := lv_entry ([.ref h]) (n := 8) (Nat.le_of_ble_eq_true rfl)
  rw [lg_entry_eq]
  generalize (lg_sl ([.ref h]) ++ List.replicate (8 - (lg_sl ([.ref h])).length) Slot.unset).toArray = ls at hl ⊢
  have hl : lv_has ls 8 [(0, .ref h)] := hl
  have i_5 : ∀ w ∈ wsX50, w ∈ wsX5_run := by decide +kernel
  have k_0 := hts (.fieldLink RX5 48 "CommunityLevelsModel" "thrown" "I") (by decide +kernel)
  have k_1 := hts (.fieldLink RX5 54 "CommunityLevelsModel" "moves" "I") (by decide +kernel)
  have k_2 := hts (.fieldLink RX5 70 "CommunityLevelsModel" "many" "I") (by decide +kernel)
  have k_3 := hts (.fieldLink RX5 24 "CommunityLevelsModel" "community" "[I") (by decide +kernel)
  have k_4 := hts (.fieldLink RX5 30 "CommunityLevelsModel" "told" "[I") (by decide +kernel)
  have k_5 := hts (.fieldLink RX5 51 "CommunityLevelsModel" "levels" "I") (by decide +kernel)
  have k_6 := hts (.fieldLink RX5 33 "CommunityLevelsModel" "reached" "[J") (by decide +kernel)
  have k_7 := hts (.fieldLink RX5 7 "CommunityLevelsModel" "n" "I") (by decide +kernel)
  have k_8 := hts (.fieldLink RX5 36 "CommunityLevelsModel" "placed" "[I") (by decide +kernel)
  refine lv_aload_n hx hb dX5_run_0 rfl (lv_at hl 0 rfl) ?_
  refine lv_iconst (v := 0) hx hb dX5_run_1 (by decide) ?_
  refine va_put (D := (dC, dI)) (ci := 5) (v := .int 0) (ty := .int) (C := RX5) (T := TX5) (N := 17) hx hb hts i_5 tyX5 tyX5_ok nmX5 hown hK hP hD hS 0 rfl rfl 14 (by decide) k_0 (fun _ h9 => h9) rfl (by decide +kernel) rfl rfl (Nat.le_of_ble_eq_true rfl) dX5_run_2 (fun H locs hP hD hS => ?_)
  have hP : va_P (dC, dI) vwCl [(h, .inr (5, [.int 1, .ref aweight, .ref aown, .int 0, .ref abetween, .ref acommunity, .ref afresh, .int 0, .ref atold, .ref areached, .ref aplaced, .int 0, .ref amoved, .ref agained, .int 0, .ref adegrees, .long 0])), (aweight, .inl (cI, 1600, .inl Zi)), (abetween, .inl (cJ, 1600, .inr (.inl Zl))), (acommunity, .inl (cI, 40, .inl Zi)), (atold, .inl (cI, 164, .inl Zi)), (areached, .inl (cJ, 41, .inr (.inl Zl))), (aplaced, .inl (cI, 1640, .inl Zi)), (adegrees, .inl (cJ, 40, .inr (.inl Zl)))] H := hP
  have hD : va_D A [(h, .inr (5, [.int 1, .ref aweight, .ref aown, .int 0, .ref abetween, .ref acommunity, .ref afresh, .int 0, .ref atold, .ref areached, .ref aplaced, .int 0, .ref amoved, .ref agained, .int 0, .ref adegrees, .long 0])), (aweight, .inl (cI, 1600, .inl Zi)), (abetween, .inl (cJ, 1600, .inr (.inl Zl))), (acommunity, .inl (cI, 40, .inl Zi)), (atold, .inl (cI, 164, .inl Zi)), (areached, .inl (cJ, 41, .inr (.inl Zl))), (aplaced, .inl (cI, 1640, .inl Zi)), (adegrees, .inl (cJ, 40, .inr (.inl Zl)))] := hD
  refine lv_aload_n hx hb dX5_run_5 rfl (lv_at hl 0 rfl) ?_
  have hPc := hP.sub (ws' := [(h, .inr (5, [.int 1, .ref aweight, .ref aown, .int 0, .ref abetween, .ref acommunity, .ref afresh, .int 0, .ref atold, .ref areached, .ref aplaced, .int 0, .ref amoved, .ref agained, .int 0, .ref adegrees, .long 0]))]) [0] rfl
  have hDc := hD.sub (ws' := [(h, .inr (5, [.int 1, .ref aweight, .ref aown, .int 0, .ref abetween, .ref acommunity, .ref afresh, .int 0, .ref atold, .ref areached, .ref aplaced, .int 0, .ref amoved, .ref agained, .int 0, .ref adegrees, .long 0]))]) [0] (by decide) rfl
  have hFc := va_free (wc := [(h, .inr (5, [.int 1, .ref aweight, .ref aown, .int 0, .ref abetween, .ref acommunity, .ref afresh, .int 0, .ref atold, .ref areached, .ref aplaced, .int 0, .ref amoved, .ref agained, .int 0, .ref adegrees, .long 0]))]) hD hS hA [0] rfl
  refine va_callv (va_runV (As := []) (rest := []) ⟨hx, hb, hml, hown, hts⟩ (c_X5_forget l dC dI cI cJ h aweight aown abetween acommunity afresh atold areached aplaced amoved agained adegrees H.size 1 0) (cwV 0 hts gX5_run_X5_forget rfl rfl rfl (by decide +kernel) ⟨Nat.le_of_ble_eq_true rfl, Nat.le_of_ble_eq_true rfl⟩) ⟨fun a U g mk q => by obtain ⟨q0, q1, qP, qK, qD⟩ := q; exact ⟨q0, q1, qP, va_K.moved (u := U) (U := U.calling g mk a) (Vm.Alike.refl U.vm) qK, qD⟩, va_recv hK hPc (ci := 5) (q0 := 0) rfl rfl, fun U hU hW => ⟨rfl, by rw [hU], by rw [hU]; exact hPc, va_K.moved hW.alike hK, hDc.weaken (fun _ _ _ _ => trivial)⟩⟩ rfl rfl hl.1 rfl (lv_room (Nat.le_of_ble_eq_true rfl)) dX5_run_6 ⟨Nat.le_of_ble_eq_true rfl, Nat.le_of_ble_eq_true rfl⟩) hS (fun q _ h => hFc q h) hFc (fun u_2 t H1 locs ht hvm hw hB hz1 hk1 hS => ?_)
  obtain ⟨hP1, hD1⟩ := hB
  rw [ht] at hP1
  obtain ⟨hP, hD⟩ := va_join (wr := [(aweight, .inl (cI, 1600, .inl Zi)), (abetween, .inl (cJ, 1600, .inr (.inl Zl))), (acommunity, .inl (cI, 40, .inl Zi)), (atold, .inl (cI, 164, .inl Zi)), (areached, .inl (cJ, 41, .inr (.inl Zl))), (aplaced, .inl (cI, 1640, .inl Zi)), (adegrees, .inl (cJ, 40, .inr (.inl Zl)))]) (w1 := [(h, .inr (5, [.int 1, .ref aweight, .ref aown, .int 0, .ref abetween, .ref acommunity, .ref afresh, .int 0, .ref atold, .ref areached, .ref aplaced, .int 0, .ref amoved, .ref agained, .int 0, .ref adegrees, .long 0]))]) hP hD [0] [1, 2, 3, 4, 5, 6, 7] rfl rfl (by decide) (by decide) hk1 hFc hP1 hD1
  generalize H1 = H at hP hS ⊢
  have hP : va_P (dC, dI) vwCl [(aweight, .inl (cI, 1600, .inl Zi)), (abetween, .inl (cJ, 1600, .inr (.inl Zl))), (acommunity, .inl (cI, 40, .inl Zi)), (atold, .inl (cI, 164, .inl Zi)), (areached, .inl (cJ, 41, .inr (.inl Zl))), (aplaced, .inl (cI, 1640, .inl Zi)), (adegrees, .inl (cJ, 40, .inr (.inl Zl))), (h, .inr (5, [.int 1, .ref aweight, .ref aown, .int 0, .ref abetween, .ref acommunity, .ref afresh, .int 0, .ref atold, .ref areached, .ref aplaced, .int 0, .ref amoved, .ref agained, .int 0, .ref adegrees, .long 0]))] H := hP
  have hD : va_D A [(aweight, .inl (cI, 1600, .inl Zi)), (abetween, .inl (cJ, 1600, .inr (.inl Zl))), (acommunity, .inl (cI, 40, .inl Zi)), (atold, .inl (cI, 164, .inl Zi)), (areached, .inl (cJ, 41, .inr (.inl Zl))), (aplaced, .inl (cI, 1640, .inl Zi)), (adegrees, .inl (cJ, 40, .inr (.inl Zl))), (h, .inr (5, [.int 1, .ref aweight, .ref aown, .int 0, .ref abetween, .ref acommunity, .ref afresh, .int 0, .ref atold, .ref areached, .ref aplaced, .int 0, .ref amoved, .ref agained, .int 0, .ref adegrees, .long 0]))] := hD
  refine lv_aload_n hx hb dX5_run_9 rfl (lv_at hl 0 rfl) ?_
  have hPc := hP.sub (ws' := [(h, .inr (5, [.int 1, .ref aweight, .ref aown, .int 0, .ref abetween, .ref acommunity, .ref afresh, .int 0, .ref atold, .ref areached, .ref aplaced, .int 0, .ref amoved, .ref agained, .int 0, .ref adegrees, .long 0])), (aweight, .inl (cI, 1600, .inl Zi)), (abetween, .inl (cJ, 1600, .inr (.inl Zl)))]) [7, 0, 1] rfl
  have hDc := hD.sub (ws' := [(h, .inr (5, [.int 1, .ref aweight, .ref aown, .int 0, .ref abetween, .ref acommunity, .ref afresh, .int 0, .ref atold, .ref areached, .ref aplaced, .int 0, .ref amoved, .ref agained, .int 0, .ref adegrees, .long 0])), (aweight, .inl (cI, 1600, .inl Zi)), (abetween, .inl (cJ, 1600, .inr (.inl Zl)))]) [7, 0, 1] (by decide) rfl
  have hFc := va_free (wc := [(h, .inr (5, [.int 1, .ref aweight, .ref aown, .int 0, .ref abetween, .ref acommunity, .ref afresh, .int 0, .ref atold, .ref areached, .ref aplaced, .int 0, .ref amoved, .ref agained, .int 0, .ref adegrees, .long 0])), (aweight, .inl (cI, 1600, .inl Zi)), (abetween, .inl (cJ, 1600, .inr (.inl Zl)))]) hD hS hA [7, 0, 1] rfl
  refine va_callv (va_runV (As := []) (rest := []) ⟨hx, hb, hml, hown, hts⟩ (c_X5_first l dC dI cI cJ h aweight aown abetween acommunity afresh atold areached aplaced amoved agained adegrees H.size) (cwV 0 hts gX5_run_X5_first rfl rfl rfl (by decide +kernel) ⟨Nat.le_of_ble_eq_true rfl, Nat.le_of_ble_eq_true rfl⟩) ⟨fun a U g mk q => by obtain ⟨q0, q1, qP, qK, qD⟩ := q; exact ⟨q0, q1, qP, va_K.moved (u := U) (U := U.calling g mk a) (Vm.Alike.refl U.vm) qK, qD⟩, va_recv hK hPc (ci := 5) (q0 := 0) rfl rfl, fun U hU hW => ⟨rfl, by rw [hU], by rw [hU]; exact hPc, va_K.moved hW.alike hK, hDc.weaken (fun _ _ _ _ => trivial)⟩⟩ rfl rfl hl.1 rfl (lv_room (Nat.le_of_ble_eq_true rfl)) dX5_run_10 ⟨Nat.le_of_ble_eq_true rfl, Nat.le_of_ble_eq_true rfl⟩) hS (fun q _ h => hFc q h) hFc (fun u_4 t H1 locs ht hvm hw hB hz1 hk1 hS => ?_)
  obtain ⟨hP1, hD1⟩ := hB
  rw [ht] at hP1
  obtain ⟨hP, hD⟩ := va_join (wr := [(acommunity, .inl (cI, 40, .inl Zi)), (atold, .inl (cI, 164, .inl Zi)), (areached, .inl (cJ, 41, .inr (.inl Zl))), (aplaced, .inl (cI, 1640, .inl Zi)), (adegrees, .inl (cJ, 40, .inr (.inl Zl)))]) (w1 := [(h, .inr (5, [.int 1, .ref aweight, .ref aown, .int 1, .ref abetween, .ref acommunity, .ref afresh, .int 0, .ref atold, .ref areached, .ref aplaced, .int 0, .ref amoved, .ref agained, .int 0, .ref adegrees, .long 0])), (aweight, .inl (cI, 1600, .inl Zi)), (abetween, .inl (cJ, 1600, .inr (.inl (vp_updL Zl 0 0))))]) hP hD [7, 0, 1] [2, 3, 4, 5, 6] rfl rfl (by decide) (by decide) hk1 hFc hP1 hD1
  generalize H1 = H at hP hS ⊢
  have hP : va_P (dC, dI) vwCl [(acommunity, .inl (cI, 40, .inl Zi)), (atold, .inl (cI, 164, .inl Zi)), (areached, .inl (cJ, 41, .inr (.inl Zl))), (aplaced, .inl (cI, 1640, .inl Zi)), (adegrees, .inl (cJ, 40, .inr (.inl Zl))), (h, .inr (5, [.int 1, .ref aweight, .ref aown, .int 1, .ref abetween, .ref acommunity, .ref afresh, .int 0, .ref atold, .ref areached, .ref aplaced, .int 0, .ref amoved, .ref agained, .int 0, .ref adegrees, .long 0])), (aweight, .inl (cI, 1600, .inl Zi)), (abetween, .inl (cJ, 1600, .inr (.inl (vp_updL Zl 0 0))))] H := hP
  have hD : va_D A [(acommunity, .inl (cI, 40, .inl Zi)), (atold, .inl (cI, 164, .inl Zi)), (areached, .inl (cJ, 41, .inr (.inl Zl))), (aplaced, .inl (cI, 1640, .inl Zi)), (adegrees, .inl (cJ, 40, .inr (.inl Zl))), (h, .inr (5, [.int 1, .ref aweight, .ref aown, .int 1, .ref abetween, .ref acommunity, .ref afresh, .int 0, .ref atold, .ref areached, .ref aplaced, .int 0, .ref amoved, .ref agained, .int 0, .ref adegrees, .long 0])), (aweight, .inl (cI, 1600, .inl Zi)), (abetween, .inl (cJ, 1600, .inr (.inl (vp_updL Zl 0 0))))] := hD
  refine lv_iconst (v := 1) hx hb dX5_run_13 (by decide) ?_
  refine lv_istore_n (lv' := [(1, .int 1), (0, .ref h)]) hx hb dX5_run_14 rfl hl (by decide) rfl (fun ls hl => ?_)
  refine lv_iload_n hx hb dX5_run_15 rfl (lv_at hl 0 rfl) ?_
  refine lv_if_eq (tgt := 293) hx hb dX5_run_16 (by decide) (fun c_5 => ?_) (fun c_5 => ?_)
  · exact absurd c_5 (by decide)
  refine lv_aload_n hx hb dX5_run_19 rfl (lv_at hl 1 rfl) ?_
  refine va_get (D := (dC, dI)) (ci := 5) (v := .int 0) (C := RX5) (T := TX5) (N := 17) hx hb hts i_5 hown hK hP 5 rfl rfl 11 (by decide) k_1 (fun _ h9 => h9) rfl dX5_run_20 ?_
  refine lv_istore_n (lv' := [(2, .int 0), (1, .int 1), (0, .ref h)]) hx hb dX5_run_23 rfl hl (by decide) rfl (fun ls hl => ?_)
  refine lv_iconst (v := 0) hx hb dX5_run_24 (by decide) ?_
  refine lv_istore_n (lv' := [(3, .int 0), (2, .int 0), (1, .int 1), (0, .ref h)]) hx hb dX5_run_25 rfl hl (by decide) rfl (fun ls hl => ?_)
  refine lv_aload_n hx hb dX5_run_26 rfl (lv_at hl 3 rfl) ?_
  have hPc := hP.sub (ws' := [(h, .inr (5, [.int 1, .ref aweight, .ref aown, .int 1, .ref abetween, .ref acommunity, .ref afresh, .int 0, .ref atold, .ref areached, .ref aplaced, .int 0, .ref amoved, .ref agained, .int 0, .ref adegrees, .long 0])), (abetween, .inl (cJ, 1600, .inr (.inl (vp_updL Zl 0 0)))), (adegrees, .inl (cJ, 40, .inr (.inl Zl)))]) [5, 7, 4] rfl
  have hDc := hD.sub (ws' := [(h, .inr (5, [.int 1, .ref aweight, .ref aown, .int 1, .ref abetween, .ref acommunity, .ref afresh, .int 0, .ref atold, .ref areached, .ref aplaced, .int 0, .ref amoved, .ref agained, .int 0, .ref adegrees, .long 0])), (abetween, .inl (cJ, 1600, .inr (.inl (vp_updL Zl 0 0)))), (adegrees, .inl (cJ, 40, .inr (.inl Zl)))]) [5, 7, 4] (by decide) rfl
  have hFc := va_free (wc := [(h, .inr (5, [.int 1, .ref aweight, .ref aown, .int 1, .ref abetween, .ref acommunity, .ref afresh, .int 0, .ref atold, .ref areached, .ref aplaced, .int 0, .ref amoved, .ref agained, .int 0, .ref adegrees, .long 0])), (abetween, .inl (cJ, 1600, .inr (.inl (vp_updL Zl 0 0)))), (adegrees, .inl (cJ, 40, .inr (.inl Zl)))]) hD hS hA [5, 7, 4] rfl
  refine va_callv (va_runV (As := []) (rest := []) ⟨hx, hb, hml, hown, hts⟩ (c_X5_prepare l dC dI cI cJ h aweight aown abetween acommunity afresh atold areached aplaced amoved agained adegrees H.size) (cwV 0 hts gX5_run_X5_prepare rfl rfl rfl (by decide +kernel) ⟨Nat.le_of_ble_eq_true rfl, Nat.le_of_ble_eq_true rfl⟩) ⟨fun a U g mk q => by obtain ⟨q0, q1, qP, qK, qD⟩ := q; exact ⟨q0, q1, qP, va_K.moved (u := U) (U := U.calling g mk a) (Vm.Alike.refl U.vm) qK, qD⟩, va_recv hK hPc (ci := 5) (q0 := 0) rfl rfl, fun U hU hW => ⟨rfl, by rw [hU], by rw [hU]; exact hPc, va_K.moved hW.alike hK, hDc.weaken (fun _ _ _ _ => trivial)⟩⟩ rfl rfl hl.1 rfl (lv_room (Nat.le_of_ble_eq_true rfl)) dX5_run_27 ⟨Nat.le_of_ble_eq_true rfl, Nat.le_of_ble_eq_true rfl⟩) hS (fun q _ h => hFc q h) hFc (fun u_7 t H1 locs ht hvm hw hB hz1 hk1 hS => ?_)
  obtain ⟨hP1, hD1⟩ := hB
  rw [ht] at hP1
  obtain ⟨hP, hD⟩ := va_join (wr := [(acommunity, .inl (cI, 40, .inl Zi)), (atold, .inl (cI, 164, .inl Zi)), (areached, .inl (cJ, 41, .inr (.inl Zl))), (aplaced, .inl (cI, 1640, .inl Zi)), (aweight, .inl (cI, 1600, .inl Zi))]) (w1 := [(h, .inr (5, [.int 1, .ref aweight, .ref aown, .int 1, .ref abetween, .ref acommunity, .ref afresh, .int 0, .ref atold, .ref areached, .ref aplaced, .int 0, .ref amoved, .ref agained, .int 0, .ref adegrees, .long 0])), (abetween, .inl (cJ, 1600, .inr (.inl (vp_updL Zl 0 0)))), (adegrees, .inl (cJ, 40, .inr (.inl (vp_updL Zl 0 0))))]) hP hD [5, 7, 4] [0, 1, 2, 3, 6] rfl rfl (by decide) (by decide) hk1 hFc hP1 hD1
  generalize H1 = H at hP hS ⊢
  have hP : va_P (dC, dI) vwCl [(acommunity, .inl (cI, 40, .inl Zi)), (atold, .inl (cI, 164, .inl Zi)), (areached, .inl (cJ, 41, .inr (.inl Zl))), (aplaced, .inl (cI, 1640, .inl Zi)), (aweight, .inl (cI, 1600, .inl Zi)), (h, .inr (5, [.int 1, .ref aweight, .ref aown, .int 1, .ref abetween, .ref acommunity, .ref afresh, .int 0, .ref atold, .ref areached, .ref aplaced, .int 0, .ref amoved, .ref agained, .int 0, .ref adegrees, .long 0])), (abetween, .inl (cJ, 1600, .inr (.inl (vp_updL Zl 0 0)))), (adegrees, .inl (cJ, 40, .inr (.inl (vp_updL Zl 0 0))))] H := hP
  have hD : va_D A [(acommunity, .inl (cI, 40, .inl Zi)), (atold, .inl (cI, 164, .inl Zi)), (areached, .inl (cJ, 41, .inr (.inl Zl))), (aplaced, .inl (cI, 1640, .inl Zi)), (aweight, .inl (cI, 1600, .inl Zi)), (h, .inr (5, [.int 1, .ref aweight, .ref aown, .int 1, .ref abetween, .ref acommunity, .ref afresh, .int 0, .ref atold, .ref areached, .ref aplaced, .int 0, .ref amoved, .ref agained, .int 0, .ref adegrees, .long 0])), (abetween, .inl (cJ, 1600, .inr (.inl (vp_updL Zl 0 0)))), (adegrees, .inl (cJ, 40, .inr (.inl (vp_updL Zl 0 0))))] := hD
  refine lv_iconst (v := 0) hx hb dX5_run_30 (by decide) ?_
  refine lv_istore (lv' := [(4, .int 0), (3, .int 0), (2, .int 0), (1, .int 1), (0, .ref h)]) hx hb dX5_run_31 hl (by decide) rfl (fun ls hl => ?_)
  refine lv_iload hx hb dX5_run_33 (lv_at hl 0 rfl) ?_
  refine lv_aload_n hx hb dX5_run_35 rfl (lv_at hl 4 rfl) ?_
  refine va_get (D := (dC, dI)) (ci := 5) (v := .int 1) (C := RX5) (T := TX5) (N := 17) hx hb hts i_5 hown hK hP 5 rfl rfl 3 (by decide) k_2 (fun _ h9 => h9) rfl dX5_run_36 ?_
  refine lv_icmp_ge (tgt := 57) hx hb dX5_run_39 (by decide) (fun c_8 => ?_) (fun c_8 => ?_)
  · exact absurd c_8 (by decide)
  refine lv_aload_n hx hb dX5_run_42 rfl (lv_at hl 4 rfl) ?_
  refine va_get (D := (dC, dI)) (ci := 5) (v := .ref acommunity) (C := RX5) (T := TX5) (N := 17) hx hb hts i_5 hown hK hP 5 rfl rfl 5 (by decide) k_3 (fun _ h9 => h9) rfl dX5_run_43 ?_
  refine lv_iload hx hb dX5_run_46 (lv_at hl 0 rfl) ?_
  refine lv_iload hx hb dX5_run_48 (lv_at hl 0 rfl) ?_
  refine va_iast hx hb hK hP hD hS 0 0 rfl rfl (vp_c (by decide)) dX5_run_50 (fun H locs hP hD hS => ?_)
  have hP : va_P (dC, dI) vwCl [(acommunity, .inl (cI, 40, .inl (upd Zi 0 0))), (atold, .inl (cI, 164, .inl Zi)), (areached, .inl (cJ, 41, .inr (.inl Zl))), (aplaced, .inl (cI, 1640, .inl Zi)), (aweight, .inl (cI, 1600, .inl Zi)), (h, .inr (5, [.int 1, .ref aweight, .ref aown, .int 1, .ref abetween, .ref acommunity, .ref afresh, .int 0, .ref atold, .ref areached, .ref aplaced, .int 0, .ref amoved, .ref agained, .int 0, .ref adegrees, .long 0])), (abetween, .inl (cJ, 1600, .inr (.inl (vp_updL Zl 0 0)))), (adegrees, .inl (cJ, 40, .inr (.inl (vp_updL Zl 0 0))))] H := hP
  have hD : va_D A [(acommunity, .inl (cI, 40, .inl (upd Zi 0 0))), (atold, .inl (cI, 164, .inl Zi)), (areached, .inl (cJ, 41, .inr (.inl Zl))), (aplaced, .inl (cI, 1640, .inl Zi)), (aweight, .inl (cI, 1600, .inl Zi)), (h, .inr (5, [.int 1, .ref aweight, .ref aown, .int 1, .ref abetween, .ref acommunity, .ref afresh, .int 0, .ref atold, .ref areached, .ref aplaced, .int 0, .ref amoved, .ref agained, .int 0, .ref adegrees, .long 0])), (abetween, .inl (cJ, 1600, .inr (.inl (vp_updL Zl 0 0)))), (adegrees, .inl (cJ, 40, .inr (.inl (vp_updL Zl 0 0))))] := hD
  refine lv_iinc (v := 1) (lv' := [(4, .int 1), (3, .int 0), (2, .int 0), (1, .int 1), (0, .ref h)]) hx hb dX5_run_51 hl (k := 0) rfl (by decide) (by decide) rfl (fun ls hl => ?_)
  refine lv_goto (tgt := 33) hx hb dX5_run_54 (by decide) ?_
  refine lv_iload hx hb dX5_run_33 (lv_at hl 0 rfl) ?_
  refine lv_aload_n hx hb dX5_run_35 rfl (lv_at hl 4 rfl) ?_
  refine va_get (D := (dC, dI)) (ci := 5) (v := .int 1) (C := RX5) (T := TX5) (N := 17) hx hb hts i_5 hown hK hP 5 rfl rfl 3 (by decide) k_2 (fun _ h9 => h9) rfl dX5_run_36 ?_
  refine lv_icmp_ge (tgt := 57) hx hb dX5_run_39 (by decide) (fun c_9 => ?_) (fun c_9 => ?_)
  rotate_left
  · exact absurd (by decide) c_9
  refine lv_iconst (v := 1) hx hb dX5_run_57 (by decide) ?_
  refine lv_istore (lv' := [(4, .int 1), (3, .int 0), (2, .int 0), (1, .int 1), (0, .ref h)]) hx hb dX5_run_58 hl (by decide) rfl (fun ls hl => ?_)
  refine lv_iload hx hb dX5_run_60 (lv_at hl 0 rfl) ?_
  refine lv_if_eq (tgt := 103) hx hb dX5_run_62 (by decide) (fun c_10 => ?_) (fun c_10 => ?_)
  · exact absurd c_10 (by decide)
  refine lv_iconst (v := 0) hx hb dX5_run_65 (by decide) ?_
  refine lv_istore (lv' := [(4, .int 0), (3, .int 0), (2, .int 0), (1, .int 1), (0, .ref h)]) hx hb dX5_run_66 hl (by decide) rfl (fun ls hl => ?_)
  refine lv_iconst (v := 0) hx hb dX5_run_68 (by decide) ?_
  refine lv_istore (lv' := [(5, .int 0), (4, .int 0), (3, .int 0), (2, .int 0), (1, .int 1), (0, .ref h)]) hx hb dX5_run_69 hl (by decide) rfl (fun ls hl => ?_)
  refine lv_iload hx hb dX5_run_71 (lv_at hl 0 rfl) ?_
  refine lv_aload_n hx hb dX5_run_73 rfl (lv_at hl 5 rfl) ?_
  refine va_get (D := (dC, dI)) (ci := 5) (v := .int 1) (C := RX5) (T := TX5) (N := 17) hx hb hts i_5 hown hK hP 5 rfl rfl 3 (by decide) k_2 (fun _ h9 => h9) rfl dX5_run_74 ?_
  refine lv_icmp_ge (tgt := 97) hx hb dX5_run_77 (by decide) (fun c_11 => ?_) (fun c_11 => ?_)
  · exact absurd c_11 (by decide)
  refine lv_iload hx hb dX5_run_80 (lv_at hl 1 rfl) ?_
  refine lv_aload_n hx hb dX5_run_82 rfl (lv_at hl 5 rfl) ?_
  refine lv_iload hx hb dX5_run_83 (lv_at hl 0 rfl) ?_
  have hPc := hP.sub (ws' := [(h, .inr (5, [.int 1, .ref aweight, .ref aown, .int 1, .ref abetween, .ref acommunity, .ref afresh, .int 0, .ref atold, .ref areached, .ref aplaced, .int 0, .ref amoved, .ref agained, .int 0, .ref adegrees, .long 0])), (acommunity, .inl (cI, 40, .inl (upd Zi 0 0)))]) [5, 0] rfl
  have hDc := hD.sub (ws' := [(h, .inr (5, [.int 1, .ref aweight, .ref aown, .int 1, .ref abetween, .ref acommunity, .ref afresh, .int 0, .ref atold, .ref areached, .ref aplaced, .int 0, .ref amoved, .ref agained, .int 0, .ref adegrees, .long 0])), (acommunity, .inl (cI, 40, .inl (upd Zi 0 0)))]) [5, 0] (by decide) rfl
  have hFc := va_free (wc := [(h, .inr (5, [.int 1, .ref aweight, .ref aown, .int 1, .ref abetween, .ref acommunity, .ref afresh, .int 0, .ref atold, .ref areached, .ref aplaced, .int 0, .ref amoved, .ref agained, .int 0, .ref adegrees, .long 0])), (acommunity, .inl (cI, 40, .inl (upd Zi 0 0)))]) hD hS hA [5, 0] rfl
  refine va_calli (va_runV (As := [.int 0]) (rest := [.int 0]) ⟨hx, hb, hml, hown, hts⟩ (c_X5_come l dC dI cI cJ h aweight aown abetween acommunity afresh atold areached aplaced amoved agained adegrees H.size (upd Zi 0 0) (by first | rfl | exact hz | decide)) (cwV 1 hts gX5_run_X5_come rfl rfl rfl (by decide +kernel) ⟨Nat.le_of_ble_eq_true rfl, Nat.le_of_ble_eq_true rfl⟩) ⟨fun a U g mk q => by obtain ⟨q0, q1, qP, qK, qD⟩ := q; exact ⟨q0, q1, qP, va_K.moved (u := U) (U := U.calling g mk a) (Vm.Alike.refl U.vm) qK, qD⟩, va_recv hK hPc (ci := 5) (q0 := 0) rfl rfl, fun U hU hW => ⟨rfl, by rw [hU], by rw [hU]; exact hPc, va_K.moved hW.alike hK, hDc.weaken (fun _ _ _ _ => trivial)⟩⟩ rfl rfl hl.1 rfl (lv_room (Nat.le_of_ble_eq_true rfl)) dX5_run_85 ⟨Nat.le_of_ble_eq_true rfl, Nat.le_of_ble_eq_true rfl⟩) hS (fun q _ h => hFc q h) hFc (fun r_12 u_13 t H1 locs ht hvm hw hB hz1 hk1 hS => ?_)
  obtain ⟨hP1, hD1⟩ := hB
  rw [ht] at hP1
  obtain ⟨hP, hD⟩ := va_join (wr := [(atold, .inl (cI, 164, .inl Zi)), (areached, .inl (cJ, 41, .inr (.inl Zl))), (aplaced, .inl (cI, 1640, .inl Zi)), (aweight, .inl (cI, 1600, .inl Zi)), (abetween, .inl (cJ, 1600, .inr (.inl (vp_updL Zl 0 0)))), (adegrees, .inl (cJ, 40, .inr (.inl (vp_updL Zl 0 0))))]) (w1 := [(h, .inr (5, [.int 1, .ref aweight, .ref aown, .int 1, .ref abetween, .ref acommunity, .ref afresh, .int 0, .ref atold, .ref areached, .ref aplaced, .int 0, .ref amoved, .ref agained, .int 0, .ref adegrees, .long 0])), (acommunity, .inl (cI, 40, .inl (upd Zi 0 0)))]) hP hD [5, 0] [1, 2, 3, 4, 6, 7] rfl rfl (by decide) (by decide) hk1 hFc hP1 hD1
  generalize H1 = H at hP hS ⊢
  have hP : va_P (dC, dI) vwCl [(atold, .inl (cI, 164, .inl Zi)), (areached, .inl (cJ, 41, .inr (.inl Zl))), (aplaced, .inl (cI, 1640, .inl Zi)), (aweight, .inl (cI, 1600, .inl Zi)), (abetween, .inl (cJ, 1600, .inr (.inl (vp_updL Zl 0 0)))), (adegrees, .inl (cJ, 40, .inr (.inl (vp_updL Zl 0 0)))), (h, .inr (5, [.int 1, .ref aweight, .ref aown, .int 1, .ref abetween, .ref acommunity, .ref afresh, .int 0, .ref atold, .ref areached, .ref aplaced, .int 0, .ref amoved, .ref agained, .int 0, .ref adegrees, .long 0])), (acommunity, .inl (cI, 40, .inl (upd Zi 0 0)))] H := hP
  have hD : va_D A [(atold, .inl (cI, 164, .inl Zi)), (areached, .inl (cJ, 41, .inr (.inl Zl))), (aplaced, .inl (cI, 1640, .inl Zi)), (aweight, .inl (cI, 1600, .inl Zi)), (abetween, .inl (cJ, 1600, .inr (.inl (vp_updL Zl 0 0)))), (adegrees, .inl (cJ, 40, .inr (.inl (vp_updL Zl 0 0)))), (h, .inr (5, [.int 1, .ref aweight, .ref aown, .int 1, .ref abetween, .ref acommunity, .ref afresh, .int 0, .ref atold, .ref areached, .ref aplaced, .int 0, .ref amoved, .ref agained, .int 0, .ref adegrees, .long 0])), (acommunity, .inl (cI, 40, .inl (upd Zi 0 0)))] := hD
  obtain rfl : r_12 = 0 := hw
  refine lv_ior hx hb dX5_run_88 ?_
  refine lc_i (v := 0) (by first | rfl | decide) ?_
  refine lv_istore (lv' := [(4, .int 0), (5, .int 0), (3, .int 0), (2, .int 0), (1, .int 1), (0, .ref h)]) hx hb dX5_run_89 hl (by decide) rfl (fun ls hl => ?_)
  refine lv_iinc (v := 1) (lv' := [(5, .int 1), (4, .int 0), (3, .int 0), (2, .int 0), (1, .int 1), (0, .ref h)]) hx hb dX5_run_91 hl (k := 1) rfl (by decide) (by decide) rfl (fun ls hl => ?_)
  refine lv_goto (tgt := 71) hx hb dX5_run_94 (by decide) ?_
  refine lv_iload hx hb dX5_run_71 (lv_at hl 0 rfl) ?_
  refine lv_aload_n hx hb dX5_run_73 rfl (lv_at hl 5 rfl) ?_
  refine va_get (D := (dC, dI)) (ci := 5) (v := .int 1) (C := RX5) (T := TX5) (N := 17) hx hb hts i_5 hown hK hP 6 rfl rfl 3 (by decide) k_2 (fun _ h9 => h9) rfl dX5_run_74 ?_
  refine lv_icmp_ge (tgt := 97) hx hb dX5_run_77 (by decide) (fun c_14 => ?_) (fun c_14 => ?_)
  rotate_left
  · exact absurd (by decide) c_14
  refine lv_iinc (v := 1) (lv' := [(3, .int 1), (5, .int 1), (4, .int 0), (2, .int 0), (1, .int 1), (0, .ref h)]) hx hb dX5_run_97 hl (k := 2) rfl (by decide) (by decide) rfl (fun ls hl => ?_)
  refine lv_goto (tgt := 60) hx hb dX5_run_100 (by decide) ?_
  refine lv_iload hx hb dX5_run_60 (lv_at hl 2 rfl) ?_
  refine lv_if_eq (tgt := 103) hx hb dX5_run_62 (by decide) (fun c_15 => ?_) (fun c_15 => ?_)
  rotate_left
  · exact absurd (by decide) c_15
  refine lv_aload_n hx hb dX5_run_103 rfl (lv_at hl 5 rfl) ?_
  have hPc := hP.sub (ws' := [(h, .inr (5, [.int 1, .ref aweight, .ref aown, .int 1, .ref abetween, .ref acommunity, .ref afresh, .int 0, .ref atold, .ref areached, .ref aplaced, .int 0, .ref amoved, .ref agained, .int 0, .ref adegrees, .long 0])), (acommunity, .inl (cI, 40, .inl (upd Zi 0 0)))]) [6, 7] rfl
  have hDc := hD.sub (ws' := [(h, .inr (5, [.int 1, .ref aweight, .ref aown, .int 1, .ref abetween, .ref acommunity, .ref afresh, .int 0, .ref atold, .ref areached, .ref aplaced, .int 0, .ref amoved, .ref agained, .int 0, .ref adegrees, .long 0])), (acommunity, .inl (cI, 40, .inl (upd Zi 0 0)))]) [6, 7] (by decide) rfl
  have hFc := va_free (wc := [(h, .inr (5, [.int 1, .ref aweight, .ref aown, .int 1, .ref abetween, .ref acommunity, .ref afresh, .int 0, .ref atold, .ref areached, .ref aplaced, .int 0, .ref amoved, .ref agained, .int 0, .ref adegrees, .long 0])), (acommunity, .inl (cI, 40, .inl (upd Zi 0 0)))]) hD hS hA [6, 7] rfl
  refine va_calli (va_runV (As := []) (rest := []) ⟨hx, hb, hml, hown, hts⟩ (c_X5_number l dC dI cI cJ h aweight aown abetween acommunity afresh atold areached aplaced amoved agained adegrees H.size (upd Zi 0 0) (by first | rfl | exact hz | decide)) (cwV 0 hts gX5_run_X5_number rfl rfl rfl (by decide +kernel) ⟨Nat.le_of_ble_eq_true rfl, Nat.le_of_ble_eq_true rfl⟩) ⟨fun a U g mk q => by obtain ⟨q0, q1, qP, qK, qD⟩ := q; exact ⟨q0, q1, qP, va_K.moved (u := U) (U := U.calling g mk a) (Vm.Alike.refl U.vm) qK, qD⟩, va_recv hK hPc (ci := 5) (q0 := 0) rfl rfl, fun U hU hW => ⟨rfl, by rw [hU], by rw [hU]; exact hPc, va_K.moved hW.alike hK, hDc.weaken (fun _ _ _ _ => trivial)⟩⟩ rfl rfl hl.1 rfl (lv_room (Nat.le_of_ble_eq_true rfl)) dX5_run_104 ⟨Nat.le_of_ble_eq_true rfl, Nat.le_of_ble_eq_true rfl⟩) hS (fun q _ h => hFc q h) hFc (fun r_16 u_17 t H1 locs ht hvm hw hB hz1 hk1 hS => ?_)
  obtain ⟨hP1, hD1⟩ := hB
  rw [ht] at hP1
  obtain ⟨hP, hD⟩ := va_join (wr := [(atold, .inl (cI, 164, .inl Zi)), (areached, .inl (cJ, 41, .inr (.inl Zl))), (aplaced, .inl (cI, 1640, .inl Zi)), (aweight, .inl (cI, 1600, .inl Zi)), (abetween, .inl (cJ, 1600, .inr (.inl (vp_updL Zl 0 0)))), (adegrees, .inl (cJ, 40, .inr (.inl (vp_updL Zl 0 0))))]) (w1 := [(h, .inr (5, [.int 1, .ref aweight, .ref aown, .int 1, .ref abetween, .ref acommunity, .ref afresh, .int 0, .ref atold, .ref areached, .ref aplaced, .int 0, .ref amoved, .ref agained, .int 0, .ref adegrees, .long 0])), (acommunity, .inl (cI, 40, .inl (upd (upd (upd Zi 0 0) 0 40) 0 0)))]) hP hD [6, 7] [0, 1, 2, 3, 4, 5] rfl rfl (by decide) (by decide) hk1 hFc hP1 hD1
  generalize H1 = H at hP hS ⊢
  have hP : va_P (dC, dI) vwCl [(atold, .inl (cI, 164, .inl Zi)), (areached, .inl (cJ, 41, .inr (.inl Zl))), (aplaced, .inl (cI, 1640, .inl Zi)), (aweight, .inl (cI, 1600, .inl Zi)), (abetween, .inl (cJ, 1600, .inr (.inl (vp_updL Zl 0 0)))), (adegrees, .inl (cJ, 40, .inr (.inl (vp_updL Zl 0 0)))), (h, .inr (5, [.int 1, .ref aweight, .ref aown, .int 1, .ref abetween, .ref acommunity, .ref afresh, .int 0, .ref atold, .ref areached, .ref aplaced, .int 0, .ref amoved, .ref agained, .int 0, .ref adegrees, .long 0])), (acommunity, .inl (cI, 40, .inl (upd (upd (upd Zi 0 0) 0 40) 0 0)))] H := hP
  have hD : va_D A [(atold, .inl (cI, 164, .inl Zi)), (areached, .inl (cJ, 41, .inr (.inl Zl))), (aplaced, .inl (cI, 1640, .inl Zi)), (aweight, .inl (cI, 1600, .inl Zi)), (abetween, .inl (cJ, 1600, .inr (.inl (vp_updL Zl 0 0)))), (adegrees, .inl (cJ, 40, .inr (.inl (vp_updL Zl 0 0)))), (h, .inr (5, [.int 1, .ref aweight, .ref aown, .int 1, .ref abetween, .ref acommunity, .ref afresh, .int 0, .ref atold, .ref areached, .ref aplaced, .int 0, .ref amoved, .ref agained, .int 0, .ref adegrees, .long 0])), (acommunity, .inl (cI, 40, .inl (upd (upd (upd Zi 0 0) 0 40) 0 0)))] := hD
  obtain rfl : r_16 = 1 := hw
  refine lv_istore (lv' := [(5, .int 1), (3, .int 1), (4, .int 0), (2, .int 0), (1, .int 1), (0, .ref h)]) hx hb dX5_run_107 hl (by decide) rfl (fun ls hl => ?_)
  refine lv_aload_n hx hb dX5_run_109 rfl (lv_at hl 5 rfl) ?_
  refine va_get (D := (dC, dI)) (ci := 5) (v := .ref atold) (C := RX5) (T := TX5) (N := 17) hx hb hts i_5 hown hK hP 6 rfl rfl 8 (by decide) k_4 (fun _ h9 => h9) rfl dX5_run_110 ?_
  refine lv_iconst (v := 4) hx hb dX5_run_113 (by decide) ?_
  refine lv_aload_n hx hb dX5_run_114 rfl (lv_at hl 5 rfl) ?_
  refine va_get (D := (dC, dI)) (ci := 5) (v := .int 0) (C := RX5) (T := TX5) (N := 17) hx hb hts i_5 hown hK hP 6 rfl rfl 7 (by decide) k_5 (fun _ h9 => h9) rfl dX5_run_115 ?_
  refine lv_imul hx hb dX5_run_118 ?_
  refine lc_i (v := 0) (by first | rfl | decide) ?_
  refine lv_aload_n hx hb dX5_run_119 rfl (lv_at hl 5 rfl) ?_
  refine va_get (D := (dC, dI)) (ci := 5) (v := .int 1) (C := RX5) (T := TX5) (N := 17) hx hb hts i_5 hown hK hP 6 rfl rfl 3 (by decide) k_2 (fun _ h9 => h9) rfl dX5_run_120 ?_
  refine va_iast hx hb hK hP hD hS 0 0 rfl rfl (vp_c (by decide)) dX5_run_123 (fun H locs hP hD hS => ?_)
  have hP : va_P (dC, dI) vwCl [(atold, .inl (cI, 164, .inl (upd Zi 0 1))), (areached, .inl (cJ, 41, .inr (.inl Zl))), (aplaced, .inl (cI, 1640, .inl Zi)), (aweight, .inl (cI, 1600, .inl Zi)), (abetween, .inl (cJ, 1600, .inr (.inl (vp_updL Zl 0 0)))), (adegrees, .inl (cJ, 40, .inr (.inl (vp_updL Zl 0 0)))), (h, .inr (5, [.int 1, .ref aweight, .ref aown, .int 1, .ref abetween, .ref acommunity, .ref afresh, .int 0, .ref atold, .ref areached, .ref aplaced, .int 0, .ref amoved, .ref agained, .int 0, .ref adegrees, .long 0])), (acommunity, .inl (cI, 40, .inl (upd (upd (upd Zi 0 0) 0 40) 0 0)))] H := hP
  have hD : va_D A [(atold, .inl (cI, 164, .inl (upd Zi 0 1))), (areached, .inl (cJ, 41, .inr (.inl Zl))), (aplaced, .inl (cI, 1640, .inl Zi)), (aweight, .inl (cI, 1600, .inl Zi)), (abetween, .inl (cJ, 1600, .inr (.inl (vp_updL Zl 0 0)))), (adegrees, .inl (cJ, 40, .inr (.inl (vp_updL Zl 0 0)))), (h, .inr (5, [.int 1, .ref aweight, .ref aown, .int 1, .ref abetween, .ref acommunity, .ref afresh, .int 0, .ref atold, .ref areached, .ref aplaced, .int 0, .ref amoved, .ref agained, .int 0, .ref adegrees, .long 0])), (acommunity, .inl (cI, 40, .inl (upd (upd (upd Zi 0 0) 0 40) 0 0)))] := hD
  refine lv_aload_n hx hb dX5_run_124 rfl (lv_at hl 5 rfl) ?_
  refine va_get (D := (dC, dI)) (ci := 5) (v := .ref atold) (C := RX5) (T := TX5) (N := 17) hx hb hts i_5 hown hK hP 6 rfl rfl 8 (by decide) k_4 (fun _ h9 => h9) rfl dX5_run_125 ?_
  refine lv_iconst (v := 4) hx hb dX5_run_128 (by decide) ?_
  refine lv_aload_n hx hb dX5_run_129 rfl (lv_at hl 5 rfl) ?_
  refine va_get (D := (dC, dI)) (ci := 5) (v := .int 0) (C := RX5) (T := TX5) (N := 17) hx hb hts i_5 hown hK hP 6 rfl rfl 7 (by decide) k_5 (fun _ h9 => h9) rfl dX5_run_130 ?_
  refine lv_imul hx hb dX5_run_133 ?_
  refine lc_i (v := 0) (by first | rfl | decide) ?_
  refine lv_iconst (v := 1) hx hb dX5_run_134 (by decide) ?_
  refine lv_iadd hx hb dX5_run_135 ?_
  refine lc_i (v := 1) (by first | rfl | decide) ?_
  refine lv_iload hx hb dX5_run_136 (lv_at hl 0 rfl) ?_
  refine va_iast hx hb hK hP hD hS 0 0 rfl rfl (vp_c (by decide)) dX5_run_138 (fun H locs hP hD hS => ?_)
  have hP : va_P (dC, dI) vwCl [(atold, .inl (cI, 164, .inl (upd (upd Zi 0 1) 1 1))), (areached, .inl (cJ, 41, .inr (.inl Zl))), (aplaced, .inl (cI, 1640, .inl Zi)), (aweight, .inl (cI, 1600, .inl Zi)), (abetween, .inl (cJ, 1600, .inr (.inl (vp_updL Zl 0 0)))), (adegrees, .inl (cJ, 40, .inr (.inl (vp_updL Zl 0 0)))), (h, .inr (5, [.int 1, .ref aweight, .ref aown, .int 1, .ref abetween, .ref acommunity, .ref afresh, .int 0, .ref atold, .ref areached, .ref aplaced, .int 0, .ref amoved, .ref agained, .int 0, .ref adegrees, .long 0])), (acommunity, .inl (cI, 40, .inl (upd (upd (upd Zi 0 0) 0 40) 0 0)))] H := hP
  have hD : va_D A [(atold, .inl (cI, 164, .inl (upd (upd Zi 0 1) 1 1))), (areached, .inl (cJ, 41, .inr (.inl Zl))), (aplaced, .inl (cI, 1640, .inl Zi)), (aweight, .inl (cI, 1600, .inl Zi)), (abetween, .inl (cJ, 1600, .inr (.inl (vp_updL Zl 0 0)))), (adegrees, .inl (cJ, 40, .inr (.inl (vp_updL Zl 0 0)))), (h, .inr (5, [.int 1, .ref aweight, .ref aown, .int 1, .ref abetween, .ref acommunity, .ref afresh, .int 0, .ref atold, .ref areached, .ref aplaced, .int 0, .ref amoved, .ref agained, .int 0, .ref adegrees, .long 0])), (acommunity, .inl (cI, 40, .inl (upd (upd (upd Zi 0 0) 0 40) 0 0)))] := hD
  refine lv_aload_n hx hb dX5_run_139 rfl (lv_at hl 5 rfl) ?_
  refine va_get (D := (dC, dI)) (ci := 5) (v := .ref atold) (C := RX5) (T := TX5) (N := 17) hx hb hts i_5 hown hK hP 6 rfl rfl 8 (by decide) k_4 (fun _ h9 => h9) rfl dX5_run_140 ?_
  refine lv_iconst (v := 4) hx hb dX5_run_143 (by decide) ?_
  refine lv_aload_n hx hb dX5_run_144 rfl (lv_at hl 5 rfl) ?_
  refine va_get (D := (dC, dI)) (ci := 5) (v := .int 0) (C := RX5) (T := TX5) (N := 17) hx hb hts i_5 hown hK hP 6 rfl rfl 7 (by decide) k_5 (fun _ h9 => h9) rfl dX5_run_145 ?_
  refine lv_imul hx hb dX5_run_148 ?_
  refine lc_i (v := 0) (by first | rfl | decide) ?_
  refine lv_iconst (v := 2) hx hb dX5_run_149 (by decide) ?_
  refine lv_iadd hx hb dX5_run_150 ?_
  refine lc_i (v := 2) (by first | rfl | decide) ?_
  refine lv_iload_n hx hb dX5_run_151 rfl (lv_at hl 1 rfl) ?_
  refine va_iast hx hb hK hP hD hS 0 0 rfl rfl (vp_c (by decide)) dX5_run_152 (fun H locs hP hD hS => ?_)
  have hP : va_P (dC, dI) vwCl [(atold, .inl (cI, 164, .inl (upd (upd (upd Zi 0 1) 1 1) 2 1))), (areached, .inl (cJ, 41, .inr (.inl Zl))), (aplaced, .inl (cI, 1640, .inl Zi)), (aweight, .inl (cI, 1600, .inl Zi)), (abetween, .inl (cJ, 1600, .inr (.inl (vp_updL Zl 0 0)))), (adegrees, .inl (cJ, 40, .inr (.inl (vp_updL Zl 0 0)))), (h, .inr (5, [.int 1, .ref aweight, .ref aown, .int 1, .ref abetween, .ref acommunity, .ref afresh, .int 0, .ref atold, .ref areached, .ref aplaced, .int 0, .ref amoved, .ref agained, .int 0, .ref adegrees, .long 0])), (acommunity, .inl (cI, 40, .inl (upd (upd (upd Zi 0 0) 0 40) 0 0)))] H := hP
  have hD : va_D A [(atold, .inl (cI, 164, .inl (upd (upd (upd Zi 0 1) 1 1) 2 1))), (areached, .inl (cJ, 41, .inr (.inl Zl))), (aplaced, .inl (cI, 1640, .inl Zi)), (aweight, .inl (cI, 1600, .inl Zi)), (abetween, .inl (cJ, 1600, .inr (.inl (vp_updL Zl 0 0)))), (adegrees, .inl (cJ, 40, .inr (.inl (vp_updL Zl 0 0)))), (h, .inr (5, [.int 1, .ref aweight, .ref aown, .int 1, .ref abetween, .ref acommunity, .ref afresh, .int 0, .ref atold, .ref areached, .ref aplaced, .int 0, .ref amoved, .ref agained, .int 0, .ref adegrees, .long 0])), (acommunity, .inl (cI, 40, .inl (upd (upd (upd Zi 0 0) 0 40) 0 0)))] := hD
  refine lv_aload_n hx hb dX5_run_153 rfl (lv_at hl 5 rfl) ?_
  refine va_get (D := (dC, dI)) (ci := 5) (v := .ref atold) (C := RX5) (T := TX5) (N := 17) hx hb hts i_5 hown hK hP 6 rfl rfl 8 (by decide) k_4 (fun _ h9 => h9) rfl dX5_run_154 ?_
  refine lv_iconst (v := 4) hx hb dX5_run_157 (by decide) ?_
  refine lv_aload_n hx hb dX5_run_158 rfl (lv_at hl 5 rfl) ?_
  refine va_get (D := (dC, dI)) (ci := 5) (v := .int 0) (C := RX5) (T := TX5) (N := 17) hx hb hts i_5 hown hK hP 6 rfl rfl 7 (by decide) k_5 (fun _ h9 => h9) rfl dX5_run_159 ?_
  refine lv_imul hx hb dX5_run_162 ?_
  refine lc_i (v := 0) (by first | rfl | decide) ?_
  refine lv_iconst (v := 3) hx hb dX5_run_163 (by decide) ?_
  refine lv_iadd hx hb dX5_run_164 ?_
  refine lc_i (v := 3) (by first | rfl | decide) ?_
  refine lv_aload_n hx hb dX5_run_165 rfl (lv_at hl 5 rfl) ?_
  refine va_get (D := (dC, dI)) (ci := 5) (v := .int 0) (C := RX5) (T := TX5) (N := 17) hx hb hts i_5 hown hK hP 6 rfl rfl 11 (by decide) k_1 (fun _ h9 => h9) rfl dX5_run_166 ?_
  refine lv_iload_n hx hb dX5_run_169 rfl (lv_at hl 3 rfl) ?_
  refine lv_isub hx hb dX5_run_170 ?_
  refine lc_i (v := 0) (by first | rfl | decide) ?_
  refine va_iast hx hb hK hP hD hS 0 0 rfl rfl (vp_c (by decide)) dX5_run_171 (fun H locs hP hD hS => ?_)
  have hP : va_P (dC, dI) vwCl [(atold, .inl (cI, 164, .inl (upd (upd (upd (upd Zi 0 1) 1 1) 2 1) 3 0))), (areached, .inl (cJ, 41, .inr (.inl Zl))), (aplaced, .inl (cI, 1640, .inl Zi)), (aweight, .inl (cI, 1600, .inl Zi)), (abetween, .inl (cJ, 1600, .inr (.inl (vp_updL Zl 0 0)))), (adegrees, .inl (cJ, 40, .inr (.inl (vp_updL Zl 0 0)))), (h, .inr (5, [.int 1, .ref aweight, .ref aown, .int 1, .ref abetween, .ref acommunity, .ref afresh, .int 0, .ref atold, .ref areached, .ref aplaced, .int 0, .ref amoved, .ref agained, .int 0, .ref adegrees, .long 0])), (acommunity, .inl (cI, 40, .inl (upd (upd (upd Zi 0 0) 0 40) 0 0)))] H := hP
  have hD : va_D A [(atold, .inl (cI, 164, .inl (upd (upd (upd (upd Zi 0 1) 1 1) 2 1) 3 0))), (areached, .inl (cJ, 41, .inr (.inl Zl))), (aplaced, .inl (cI, 1640, .inl Zi)), (aweight, .inl (cI, 1600, .inl Zi)), (abetween, .inl (cJ, 1600, .inr (.inl (vp_updL Zl 0 0)))), (adegrees, .inl (cJ, 40, .inr (.inl (vp_updL Zl 0 0)))), (h, .inr (5, [.int 1, .ref aweight, .ref aown, .int 1, .ref abetween, .ref acommunity, .ref afresh, .int 0, .ref atold, .ref areached, .ref aplaced, .int 0, .ref amoved, .ref agained, .int 0, .ref adegrees, .long 0])), (acommunity, .inl (cI, 40, .inl (upd (upd (upd Zi 0 0) 0 40) 0 0)))] := hD
  refine lv_aload_n hx hb dX5_run_172 rfl (lv_at hl 5 rfl) ?_
  refine va_get (D := (dC, dI)) (ci := 5) (v := .ref areached) (C := RX5) (T := TX5) (N := 17) hx hb hts i_5 hown hK hP 6 rfl rfl 9 (by decide) k_6 (fun _ h9 => h9) rfl dX5_run_173 ?_
  refine lv_aload_n hx hb dX5_run_176 rfl (lv_at hl 5 rfl) ?_
  refine va_get (D := (dC, dI)) (ci := 5) (v := .int 0) (C := RX5) (T := TX5) (N := 17) hx hb hts i_5 hown hK hP 6 rfl rfl 7 (by decide) k_5 (fun _ h9 => h9) rfl dX5_run_177 ?_
  refine lv_aload_n hx hb dX5_run_180 rfl (lv_at hl 5 rfl) ?_
  have hPc := hP.sub (ws' := [(h, .inr (5, [.int 1, .ref aweight, .ref aown, .int 1, .ref abetween, .ref acommunity, .ref afresh, .int 0, .ref atold, .ref areached, .ref aplaced, .int 0, .ref amoved, .ref agained, .int 0, .ref adegrees, .long 0])), (abetween, .inl (cJ, 1600, .inr (.inl (vp_updL Zl 0 0)))), (acommunity, .inl (cI, 40, .inl (upd (upd (upd Zi 0 0) 0 40) 0 0))), (adegrees, .inl (cJ, 40, .inr (.inl (vp_updL Zl 0 0))))]) [6, 4, 7, 5] rfl
  have hDc := hD.sub (ws' := [(h, .inr (5, [.int 1, .ref aweight, .ref aown, .int 1, .ref abetween, .ref acommunity, .ref afresh, .int 0, .ref atold, .ref areached, .ref aplaced, .int 0, .ref amoved, .ref agained, .int 0, .ref adegrees, .long 0])), (abetween, .inl (cJ, 1600, .inr (.inl (vp_updL Zl 0 0)))), (acommunity, .inl (cI, 40, .inl (upd (upd (upd Zi 0 0) 0 40) 0 0))), (adegrees, .inl (cJ, 40, .inr (.inl (vp_updL Zl 0 0))))]) [6, 4, 7, 5] (by decide) rfl
  have hFc := va_free (wc := [(h, .inr (5, [.int 1, .ref aweight, .ref aown, .int 1, .ref abetween, .ref acommunity, .ref afresh, .int 0, .ref atold, .ref areached, .ref aplaced, .int 0, .ref amoved, .ref agained, .int 0, .ref adegrees, .long 0])), (abetween, .inl (cJ, 1600, .inr (.inl (vp_updL Zl 0 0)))), (acommunity, .inl (cI, 40, .inl (upd (upd (upd Zi 0 0) 0 40) 0 0))), (adegrees, .inl (cJ, 40, .inr (.inl (vp_updL Zl 0 0))))]) hD hS hA [6, 4, 7, 5] rfl
  refine va_calll (va_runV (As := []) (rest := [.int 0, .ref areached]) ⟨hx, hb, hml, hown, hts⟩ (c_X5_modularityNow l dC dI cI cJ h aweight aown abetween acommunity afresh atold areached aplaced amoved agained adegrees H.size (upd (upd (upd Zi 0 0) 0 40) 0 0) (by first | rfl | exact hz | decide)) (cwV 0 hts gX5_run_X5_modularityNow rfl rfl rfl (by decide +kernel) ⟨Nat.le_of_ble_eq_true rfl, Nat.le_of_ble_eq_true rfl⟩) ⟨fun a U g mk q => by obtain ⟨q0, q1, qP, qK, qD⟩ := q; exact ⟨q0, q1, qP, va_K.moved (u := U) (U := U.calling g mk a) (Vm.Alike.refl U.vm) qK, qD⟩, va_recv hK hPc (ci := 5) (q0 := 0) rfl rfl, fun U hU hW => ⟨rfl, by rw [hU], by rw [hU]; exact hPc, va_K.moved hW.alike hK, hDc.weaken (fun _ _ _ _ => trivial)⟩⟩ rfl rfl hl.1 rfl (lv_room (Nat.le_of_ble_eq_true rfl)) dX5_run_181 ⟨Nat.le_of_ble_eq_true rfl, Nat.le_of_ble_eq_true rfl⟩) hS (fun q _ h => hFc q h) hFc (fun r_18 u_19 t H1 locs ht hvm hw hB hz1 hk1 hS => ?_)
  obtain ⟨hP1, hD1⟩ := hB
  rw [ht] at hP1
  obtain ⟨hP, hD⟩ := va_join (wr := [(atold, .inl (cI, 164, .inl (upd (upd (upd (upd Zi 0 1) 1 1) 2 1) 3 0))), (areached, .inl (cJ, 41, .inr (.inl Zl))), (aplaced, .inl (cI, 1640, .inl Zi)), (aweight, .inl (cI, 1600, .inl Zi))]) (w1 := [(h, .inr (5, [.int 1, .ref aweight, .ref aown, .int 1, .ref abetween, .ref acommunity, .ref afresh, .int 0, .ref atold, .ref areached, .ref aplaced, .int 0, .ref amoved, .ref agained, .int 0, .ref adegrees, .long 0])), (abetween, .inl (cJ, 1600, .inr (.inl (vp_updL Zl 0 0)))), (acommunity, .inl (cI, 40, .inl (upd (upd (upd Zi 0 0) 0 40) 0 0))), (adegrees, .inl (cJ, 40, .inr (.inl (vp_updL Zl 0 0))))]) hP hD [6, 4, 7, 5] [0, 1, 2, 3] rfl rfl (by decide) (by decide) hk1 hFc hP1 hD1
  generalize H1 = H at hP hS ⊢
  have hP : va_P (dC, dI) vwCl [(atold, .inl (cI, 164, .inl (upd (upd (upd (upd Zi 0 1) 1 1) 2 1) 3 0))), (areached, .inl (cJ, 41, .inr (.inl Zl))), (aplaced, .inl (cI, 1640, .inl Zi)), (aweight, .inl (cI, 1600, .inl Zi)), (h, .inr (5, [.int 1, .ref aweight, .ref aown, .int 1, .ref abetween, .ref acommunity, .ref afresh, .int 0, .ref atold, .ref areached, .ref aplaced, .int 0, .ref amoved, .ref agained, .int 0, .ref adegrees, .long 0])), (abetween, .inl (cJ, 1600, .inr (.inl (vp_updL Zl 0 0)))), (acommunity, .inl (cI, 40, .inl (upd (upd (upd Zi 0 0) 0 40) 0 0))), (adegrees, .inl (cJ, 40, .inr (.inl (vp_updL Zl 0 0))))] H := hP
  have hD : va_D A [(atold, .inl (cI, 164, .inl (upd (upd (upd (upd Zi 0 1) 1 1) 2 1) 3 0))), (areached, .inl (cJ, 41, .inr (.inl Zl))), (aplaced, .inl (cI, 1640, .inl Zi)), (aweight, .inl (cI, 1600, .inl Zi)), (h, .inr (5, [.int 1, .ref aweight, .ref aown, .int 1, .ref abetween, .ref acommunity, .ref afresh, .int 0, .ref atold, .ref areached, .ref aplaced, .int 0, .ref amoved, .ref agained, .int 0, .ref adegrees, .long 0])), (abetween, .inl (cJ, 1600, .inr (.inl (vp_updL Zl 0 0)))), (acommunity, .inl (cI, 40, .inl (upd (upd (upd Zi 0 0) 0 40) 0 0))), (adegrees, .inl (cJ, 40, .inr (.inl (vp_updL Zl 0 0))))] := hD
  obtain rfl : r_18 = 0 := hw
  refine va_last hx hb hK hP hD hS 1 1 rfl rfl (vp_c (by decide)) dX5_run_184 (fun H locs hP hD hS => ?_)
  have hP : va_P (dC, dI) vwCl [(atold, .inl (cI, 164, .inl (upd (upd (upd (upd Zi 0 1) 1 1) 2 1) 3 0))), (areached, .inl (cJ, 41, .inr (.inl (vp_updL Zl 0 0)))), (aplaced, .inl (cI, 1640, .inl Zi)), (aweight, .inl (cI, 1600, .inl Zi)), (h, .inr (5, [.int 1, .ref aweight, .ref aown, .int 1, .ref abetween, .ref acommunity, .ref afresh, .int 0, .ref atold, .ref areached, .ref aplaced, .int 0, .ref amoved, .ref agained, .int 0, .ref adegrees, .long 0])), (abetween, .inl (cJ, 1600, .inr (.inl (vp_updL Zl 0 0)))), (acommunity, .inl (cI, 40, .inl (upd (upd (upd Zi 0 0) 0 40) 0 0))), (adegrees, .inl (cJ, 40, .inr (.inl (vp_updL Zl 0 0))))] H := hP
  have hD : va_D A [(atold, .inl (cI, 164, .inl (upd (upd (upd (upd Zi 0 1) 1 1) 2 1) 3 0))), (areached, .inl (cJ, 41, .inr (.inl (vp_updL Zl 0 0)))), (aplaced, .inl (cI, 1640, .inl Zi)), (aweight, .inl (cI, 1600, .inl Zi)), (h, .inr (5, [.int 1, .ref aweight, .ref aown, .int 1, .ref abetween, .ref acommunity, .ref afresh, .int 0, .ref atold, .ref areached, .ref aplaced, .int 0, .ref amoved, .ref agained, .int 0, .ref adegrees, .long 0])), (abetween, .inl (cJ, 1600, .inr (.inl (vp_updL Zl 0 0)))), (acommunity, .inl (cI, 40, .inl (upd (upd (upd Zi 0 0) 0 40) 0 0))), (adegrees, .inl (cJ, 40, .inr (.inl (vp_updL Zl 0 0))))] := hD
  refine lv_iconst (v := 0) hx hb dX5_run_185 (by decide) ?_
  refine lv_istore (lv' := [(6, .int 0), (5, .int 1), (3, .int 1), (4, .int 0), (2, .int 0), (1, .int 1), (0, .ref h)]) hx hb dX5_run_186 hl (by decide) rfl (fun ls hl => ?_)
  refine lv_iload hx hb dX5_run_188 (lv_at hl 0 rfl) ?_
  refine lv_aload_n hx hb dX5_run_190 rfl (lv_at hl 6 rfl) ?_
  refine va_get (D := (dC, dI)) (ci := 5) (v := .int 1) (C := RX5) (T := TX5) (N := 17) hx hb hts i_5 hown hK hP 4 rfl rfl 0 (by decide) k_7 (fun _ h9 => h9) rfl dX5_run_191 ?_
  refine lv_icmp_ge (tgt := 256) hx hb dX5_run_194 (by decide) (fun c_20 => ?_) (fun c_20 => ?_)
  · exact absurd c_20 (by decide)
  refine lv_aload_n hx hb dX5_run_197 rfl (lv_at hl 6 rfl) ?_
  refine va_get (D := (dC, dI)) (ci := 5) (v := .int 0) (C := RX5) (T := TX5) (N := 17) hx hb hts i_5 hown hK hP 4 rfl rfl 7 (by decide) k_5 (fun _ h9 => h9) rfl dX5_run_198 ?_
  refine lv_if_ne (tgt := 209) hx hb dX5_run_201 (by decide) (fun c_21 => ?_) (fun c_21 => ?_)
  · exact absurd c_21 (by decide)
  refine lv_iload hx hb dX5_run_204 (lv_at hl 0 rfl) ?_
  refine lv_goto (tgt := 226) hx hb dX5_run_206 (by decide) ?_
  refine lv_istore (lv' := [(7, .int 0), (6, .int 0), (5, .int 1), (3, .int 1), (4, .int 0), (2, .int 0), (1, .int 1), (0, .ref h)]) hx hb dX5_run_226 hl (by decide) rfl (fun ls hl => ?_)
  refine lv_aload_n hx hb dX5_run_228 rfl (lv_at hl 7 rfl) ?_
  refine va_get (D := (dC, dI)) (ci := 5) (v := .ref aplaced) (C := RX5) (T := TX5) (N := 17) hx hb hts i_5 hown hK hP 4 rfl rfl 10 (by decide) k_8 (fun _ h9 => h9) rfl dX5_run_229 ?_
  refine lv_bipush (v := 40) hx hb dX5_run_232 (by decide) ?_
  refine lv_aload_n hx hb dX5_run_234 rfl (lv_at hl 7 rfl) ?_
  refine va_get (D := (dC, dI)) (ci := 5) (v := .int 0) (C := RX5) (T := TX5) (N := 17) hx hb hts i_5 hown hK hP 4 rfl rfl 7 (by decide) k_5 (fun _ h9 => h9) rfl dX5_run_235 ?_
  refine lv_imul hx hb dX5_run_238 ?_
  refine lc_i (v := 0) (by first | rfl | decide) ?_
  refine lv_iload hx hb dX5_run_239 (lv_at hl 1 rfl) ?_
  refine lv_iadd hx hb dX5_run_241 ?_
  refine lc_i (v := 0) (by first | rfl | decide) ?_
  refine lv_aload_n hx hb dX5_run_242 rfl (lv_at hl 7 rfl) ?_
  refine va_get (D := (dC, dI)) (ci := 5) (v := .ref acommunity) (C := RX5) (T := TX5) (N := 17) hx hb hts i_5 hown hK hP 4 rfl rfl 5 (by decide) k_3 (fun _ h9 => h9) rfl dX5_run_243 ?_
  refine lv_iload hx hb dX5_run_246 (lv_at hl 0 rfl) ?_
  refine va_iald hx hb hK hP 6 0 rfl rfl (vp_c (by decide)) dX5_run_248 ?_
  refine lc_i (v := 0) (by first | rfl | decide) ?_
  refine va_iast hx hb hK hP hD hS 2 0 rfl rfl (vp_c (by decide)) dX5_run_249 (fun H locs hP hD hS => ?_)
  have hP : va_P (dC, dI) vwCl [(atold, .inl (cI, 164, .inl (upd (upd (upd (upd Zi 0 1) 1 1) 2 1) 3 0))), (areached, .inl (cJ, 41, .inr (.inl (vp_updL Zl 0 0)))), (aplaced, .inl (cI, 1640, .inl (upd Zi 0 0))), (aweight, .inl (cI, 1600, .inl Zi)), (h, .inr (5, [.int 1, .ref aweight, .ref aown, .int 1, .ref abetween, .ref acommunity, .ref afresh, .int 0, .ref atold, .ref areached, .ref aplaced, .int 0, .ref amoved, .ref agained, .int 0, .ref adegrees, .long 0])), (abetween, .inl (cJ, 1600, .inr (.inl (vp_updL Zl 0 0)))), (acommunity, .inl (cI, 40, .inl (upd (upd (upd Zi 0 0) 0 40) 0 0))), (adegrees, .inl (cJ, 40, .inr (.inl (vp_updL Zl 0 0))))] H := hP
  have hD : va_D A [(atold, .inl (cI, 164, .inl (upd (upd (upd (upd Zi 0 1) 1 1) 2 1) 3 0))), (areached, .inl (cJ, 41, .inr (.inl (vp_updL Zl 0 0)))), (aplaced, .inl (cI, 1640, .inl (upd Zi 0 0))), (aweight, .inl (cI, 1600, .inl Zi)), (h, .inr (5, [.int 1, .ref aweight, .ref aown, .int 1, .ref abetween, .ref acommunity, .ref afresh, .int 0, .ref atold, .ref areached, .ref aplaced, .int 0, .ref amoved, .ref agained, .int 0, .ref adegrees, .long 0])), (abetween, .inl (cJ, 1600, .inr (.inl (vp_updL Zl 0 0)))), (acommunity, .inl (cI, 40, .inl (upd (upd (upd Zi 0 0) 0 40) 0 0))), (adegrees, .inl (cJ, 40, .inr (.inl (vp_updL Zl 0 0))))] := hD
  refine lv_iinc (v := 1) (lv' := [(6, .int 1), (7, .int 0), (5, .int 1), (3, .int 1), (4, .int 0), (2, .int 0), (1, .int 1), (0, .ref h)]) hx hb dX5_run_250 hl (k := 1) rfl (by decide) (by decide) rfl (fun ls hl => ?_)
  refine lv_goto (tgt := 188) hx hb dX5_run_253 (by decide) ?_
  refine lv_iload hx hb dX5_run_188 (lv_at hl 0 rfl) ?_
  refine lv_aload_n hx hb dX5_run_190 rfl (lv_at hl 7 rfl) ?_
  refine va_get (D := (dC, dI)) (ci := 5) (v := .int 1) (C := RX5) (T := TX5) (N := 17) hx hb hts i_5 hown hK hP 4 rfl rfl 0 (by decide) k_7 (fun _ h9 => h9) rfl dX5_run_191 ?_
  refine lv_icmp_ge (tgt := 256) hx hb dX5_run_194 (by decide) (fun c_22 => ?_) (fun c_22 => ?_)
  rotate_left
  · exact absurd (by decide) c_22
  refine lv_aload_n hx hb dX5_run_256 rfl (lv_at hl 7 rfl) ?_
  refine lv_dup hx hb dX5_run_257 rfl ?_
  refine va_get (D := (dC, dI)) (ci := 5) (v := .int 0) (C := RX5) (T := TX5) (N := 17) hx hb hts i_5 hown hK hP 4 rfl rfl 7 (by decide) k_5 (fun _ h9 => h9) rfl dX5_run_258 ?_
  refine lv_iconst (v := 1) hx hb dX5_run_261 (by decide) ?_
  refine lv_iadd hx hb dX5_run_262 ?_
  refine lc_i (v := 1) (by first | rfl | decide) ?_
  refine va_put (D := (dC, dI)) (ci := 5) (v := .int 1) (ty := .int) (C := RX5) (T := TX5) (N := 17) hx hb hts i_5 tyX5 tyX5_ok nmX5 hown hK hP hD hS 4 rfl rfl 7 (by decide) k_5 (fun _ h9 => h9) rfl (by decide +kernel) rfl rfl (Nat.le_of_ble_eq_true rfl) dX5_run_263 (fun H locs hP hD hS => ?_)
  have hP : va_P (dC, dI) vwCl [(atold, .inl (cI, 164, .inl (upd (upd (upd (upd Zi 0 1) 1 1) 2 1) 3 0))), (areached, .inl (cJ, 41, .inr (.inl (vp_updL Zl 0 0)))), (aplaced, .inl (cI, 1640, .inl (upd Zi 0 0))), (aweight, .inl (cI, 1600, .inl Zi)), (h, .inr (5, [.int 1, .ref aweight, .ref aown, .int 1, .ref abetween, .ref acommunity, .ref afresh, .int 1, .ref atold, .ref areached, .ref aplaced, .int 0, .ref amoved, .ref agained, .int 0, .ref adegrees, .long 0])), (abetween, .inl (cJ, 1600, .inr (.inl (vp_updL Zl 0 0)))), (acommunity, .inl (cI, 40, .inl (upd (upd (upd Zi 0 0) 0 40) 0 0))), (adegrees, .inl (cJ, 40, .inr (.inl (vp_updL Zl 0 0))))] H := hP
  have hD : va_D A [(atold, .inl (cI, 164, .inl (upd (upd (upd (upd Zi 0 1) 1 1) 2 1) 3 0))), (areached, .inl (cJ, 41, .inr (.inl (vp_updL Zl 0 0)))), (aplaced, .inl (cI, 1640, .inl (upd Zi 0 0))), (aweight, .inl (cI, 1600, .inl Zi)), (h, .inr (5, [.int 1, .ref aweight, .ref aown, .int 1, .ref abetween, .ref acommunity, .ref afresh, .int 1, .ref atold, .ref areached, .ref aplaced, .int 0, .ref amoved, .ref agained, .int 0, .ref adegrees, .long 0])), (abetween, .inl (cJ, 1600, .inr (.inl (vp_updL Zl 0 0)))), (acommunity, .inl (cI, 40, .inl (upd (upd (upd Zi 0 0) 0 40) 0 0))), (adegrees, .inl (cJ, 40, .inr (.inl (vp_updL Zl 0 0))))] := hD
  refine lv_aload_n hx hb dX5_run_266 rfl (lv_at hl 7 rfl) ?_
  refine va_get (D := (dC, dI)) (ci := 5) (v := .int 0) (C := RX5) (T := TX5) (N := 17) hx hb hts i_5 hown hK hP 4 rfl rfl 11 (by decide) k_1 (fun _ h9 => h9) rfl dX5_run_267 ?_
  refine lv_iload_n hx hb dX5_run_270 rfl (lv_at hl 5 rfl) ?_
  refine lv_icmp_le (tgt := 278) hx hb dX5_run_271 (by decide) (fun c_23 => ?_) (fun c_23 => ?_)
  rotate_left
  · exact absurd (by decide) c_23
  refine lv_iconst (v := 0) hx hb dX5_run_278 (by decide) ?_
  refine lv_istore_n (lv' := [(1, .int 0), (6, .int 1), (7, .int 0), (5, .int 1), (3, .int 1), (4, .int 0), (2, .int 0), (0, .ref h)]) hx hb dX5_run_279 rfl hl (by decide) rfl (fun ls hl => ?_)
  refine lv_iload_n hx hb dX5_run_280 rfl (lv_at hl 0 rfl) ?_
  refine lv_if_eq (tgt := 290) hx hb dX5_run_281 (by decide) (fun c_24 => ?_) (fun c_24 => ?_)
  rotate_left
  · exact absurd (by decide) c_24
  refine lv_goto (tgt := 15) hx hb dX5_run_290 (by decide) ?_
  refine lv_iload_n hx hb dX5_run_15 rfl (lv_at hl 0 rfl) ?_
  refine lv_if_eq (tgt := 293) hx hb dX5_run_16 (by decide) (fun c_25 => ?_) (fun c_25 => ?_)
  rotate_left
  · exact absurd (by decide) c_25
  refine lv_aload_n hx hb dX5_run_293 rfl (lv_at hl 7 rfl) ?_
  refine va_get (D := (dC, dI)) (ci := 5) (v := .int 1) (C := RX5) (T := TX5) (N := 17) hx hb hts i_5 hown hK hP 4 rfl rfl 7 (by decide) k_5 (fun _ h9 => h9) rfl dX5_run_294 ?_
  have hP9 := hP.sub (ws' := []) [] rfl
  have hD9 := hD.sub (ws' := []) [] (by decide) rfl
  exact W.iret (v := 1) hx hb hr (fun t ht hW => ⟨⟨_, (), rfl, rfl, by rw [ht]; exact hP9, hD9⟩, hS.F ht⟩) hS.2.2 dX5_run_297
