set_option maxHeartbeats 4000000 in
set_option maxRecDepth 100000 in
theorem c_X4_requireNode (l : Launch) (dC : Nat → ClassId) (dI : Nat → Nat → Nat) (cI cJ : ClassId) (x g mr tb lo g3 gr wi w d : Nat) (sz : Nat) : Met l yX4_requireNode wsX4_requireNode ({ frames := 0, cells := 0, slots := 0, locals := 0 }) (va_Pc [.ref x, .int 0] (pPre dC dI cI cJ sz [(x, .inr (4, [.ref g, .ref mr, .ref tb, .ref lo, .ref g3, .ref gr, .ref wi])), (g, .inr (0, [.ref w, .ref d, .int 1, .int 0]))])) (va_Qv (fun _ : Unit => True) (pPost dC dI (va_A [(x, .inr (4, [.ref g, .ref mr, .ref tb, .ref lo, .ref g3, .ref gr, .ref wi])), (g, .inr (0, [.ref w, .ref d, .int 1, .int 0]))] sz) [(x, .inr (4, [.ref g, .ref mr, .ref tb, .ref lo, .ref g3, .ref gr, .ref wi])), (g, .inr (0, [.ref w, .ref d, .int 1, .int 0]))]) (va_A [(x, .inr (4, [.ref g, .ref mr, .ref tb, .ref lo, .ref g3, .ref gr, .ref wi])), (g, .inr (0, [.ref w, .ref d, .int 1, .int 0]))] sz)) 0 0 (va_A [(x, .inr (4, [.ref g, .ref mr, .ref tb, .ref lo, .ref g3, .ref gr, .ref wi])), (g, .inr (0, [.ref w, .ref d, .int 1, .int 0]))] sz) := by
  refine Met.ofW (cc := cX4_requireNode) (maxL := 2) (ret := none) (by decide) rfl ?_
  intro p e s m args below meth c s₁ B hml hv
  obtain ⟨rfl, hsz, hP, hK, hD0⟩ := hv
  have hx := B.exec
  have hb := B.bytes
  have hr := B.returns
  have hts := atoms_spec (ws := wsX4_requireNode) B.pre
  have hown : s.vm.findClass RX4 = some m.cls := findClass_of_methodNamed B.named
  have hlocks := B.notSynchronized
  subst hsz
  have hD := hD0.self (sz := s.heap.size)
  generalize hAe : va_A [(x, .inr (4, [.ref g, .ref mr, .ref tb, .ref lo, .ref g3, .ref gr, .ref wi])), (g, .inr (0, [.ref w, .ref d, .int 1, .int 0]))] s.heap.size = A at hD ⊢
  have hA : ∀ q : Nat, s.heap.size ≤ q → A q := fun q h => by rw [← hAe]; exact Or.inr h
  have hS : va_S A s.heap s.heap [] := va_S.rf
  have hP : va_P (dC, dI) vwCl [(x, .inr (4, [.ref g, .ref mr, .ref tb, .ref lo, .ref g3, .ref gr, .ref wi])), (g, .inr (0, [.ref w, .ref d, .int 1, .int 0]))] s.heap := hP
  have hl := lv_entry ([.ref x, .int 0]) (n := 2) (Nat.le_of_ble_eq_true rfl)
  rw [lg_entry_eq]
  generalize (lg_sl ([.ref x, .int 0]) ++ List.replicate (2 - (lg_sl ([.ref x, .int 0])).length) Slot.unset).toArray = ls at hl ⊢
  have hl : lv_has ls 2 [(0, .ref x), (1, .int 0)] := hl
  have i_0 : ∀ w ∈ wsX00, w ∈ wsX4_requireNode := by decide +kernel
  have i_4 : ∀ w ∈ wsX40, w ∈ wsX4_requireNode := by decide +kernel
  have k_0 := hts (.fieldLink RX4 10 "CommunityLevels" "told" "LCommunityLevels$Graph;") (by decide +kernel)
  have k_1 := hts (.fieldLink RX4 121 "CommunityLevels$Graph" "size" "I") (by decide +kernel)
  refine lv_iload_n hx hb dX4_requireNode_0 rfl (lv_at hl 1 rfl) ?_
  refine lv_if_lt (tgt := 15) hx hb dX4_requireNode_1 (by decide) (fun c_1 => ?_) (fun c_1 => ?_)
  · exact absurd c_1 (by decide)
  refine lv_iload_n hx hb dX4_requireNode_4 rfl (lv_at hl 1 rfl) ?_
  refine lv_aload_n hx hb dX4_requireNode_5 rfl (lv_at hl 0 rfl) ?_
  refine va_get (D := (dC, dI)) (ci := 4) (v := .ref g) (C := RX4) (T := TX4) (N := 7) hx hb hts i_4 hown hK hP 0 rfl rfl 0 (by decide) k_0 (fun _ h9 => h9) rfl dX4_requireNode_6 ?_
  refine va_get (D := (dC, dI)) (ci := 0) (v := .int 1) (C := RX0) (T := TX0) (N := 4) hx hb hts i_0 hown hK hP 1 rfl rfl 2 (by decide) k_1 (fun _ h9 => h9) rfl dX4_requireNode_9 ?_
  refine lv_icmp_lt (tgt := 25) hx hb dX4_requireNode_12 (by decide) (fun c_2 => ?_) (fun c_2 => ?_)
  rotate_left
  · exact absurd (by decide) c_2
  have hP9 := hP.sub (ws' := [(x, .inr (4, [.ref g, .ref mr, .ref tb, .ref lo, .ref g3, .ref gr, .ref wi])), (g, .inr (0, [.ref w, .ref d, .int 1, .int 0]))]) [0, 1] rfl
  have hD9 := hD.sub (ws' := [(x, .inr (4, [.ref g, .ref mr, .ref tb, .ref lo, .ref g3, .ref gr, .ref wi])), (g, .inr (0, [.ref w, .ref d, .int 1, .int 0]))]) [0, 1] (by decide) rfl
  exact W.vret hx hb hr (fun t ht hW => ⟨⟨(), rfl, trivial, by rw [ht]; exact hP9, hD9⟩, hS.F ht⟩) hS.2.2 dX4_requireNode_25
set_option maxHeartbeats 4000000 in
set_option maxRecDepth 100000 in
theorem c_X4_requireCommunity (l : Launch) (dC : Nat → ClassId) (dI : Nat → Nat → Nat) (cI cJ : ClassId) (x g mr tb lo g3 gr wi w d : Nat) (sz : Nat) : Met l yX4_requireCommunity wsX4_requireCommunity ({ frames := 0, cells := 0, slots := 0, locals := 0 }) (va_Pc [.ref x, .int 0] (pPre dC dI cI cJ sz [(x, .inr (4, [.ref g, .ref mr, .ref tb, .ref lo, .ref g3, .ref gr, .ref wi])), (g, .inr (0, [.ref w, .ref d, .int 1, .int 0]))])) (va_Qv (fun _ : Unit => True) (pPost dC dI (va_A [(x, .inr (4, [.ref g, .ref mr, .ref tb, .ref lo, .ref g3, .ref gr, .ref wi])), (g, .inr (0, [.ref w, .ref d, .int 1, .int 0]))] sz) [(x, .inr (4, [.ref g, .ref mr, .ref tb, .ref lo, .ref g3, .ref gr, .ref wi])), (g, .inr (0, [.ref w, .ref d, .int 1, .int 0]))]) (va_A [(x, .inr (4, [.ref g, .ref mr, .ref tb, .ref lo, .ref g3, .ref gr, .ref wi])), (g, .inr (0, [.ref w, .ref d, .int 1, .int 0]))] sz)) 0 0 (va_A [(x, .inr (4, [.ref g, .ref mr, .ref tb, .ref lo, .ref g3, .ref gr, .ref wi])), (g, .inr (0, [.ref w, .ref d, .int 1, .int 0]))] sz) := by
  refine Met.ofW (cc := cX4_requireCommunity) (maxL := 2) (ret := none) (by decide) rfl ?_
  intro p e s m args below meth c s₁ B hml hv
  obtain ⟨rfl, hsz, hP, hK, hD0⟩ := hv
  have hx := B.exec
  have hb := B.bytes
  have hr := B.returns
  have hts := atoms_spec (ws := wsX4_requireCommunity) B.pre
  have hown : s.vm.findClass RX4 = some m.cls := findClass_of_methodNamed B.named
  have hlocks := B.notSynchronized
  subst hsz
  have hD := hD0.self (sz := s.heap.size)
  generalize hAe : va_A [(x, .inr (4, [.ref g, .ref mr, .ref tb, .ref lo, .ref g3, .ref gr, .ref wi])), (g, .inr (0, [.ref w, .ref d, .int 1, .int 0]))] s.heap.size = A at hD ⊢
  have hA : ∀ q : Nat, s.heap.size ≤ q → A q := fun q h => by rw [← hAe]; exact Or.inr h
  have hS : va_S A s.heap s.heap [] := va_S.rf
  have hP : va_P (dC, dI) vwCl [(x, .inr (4, [.ref g, .ref mr, .ref tb, .ref lo, .ref g3, .ref gr, .ref wi])), (g, .inr (0, [.ref w, .ref d, .int 1, .int 0]))] s.heap := hP
  have hl := lv_entry ([.ref x, .int 0]) (n := 2) (Nat.le_of_ble_eq_true rfl)
  rw [lg_entry_eq]
  generalize (lg_sl ([.ref x, .int 0]) ++ List.replicate (2 - (lg_sl ([.ref x, .int 0])).length) Slot.unset).toArray = ls at hl ⊢
  have hl : lv_has ls 2 [(0, .ref x), (1, .int 0)] := hl
  have i_0 : ∀ w ∈ wsX00, w ∈ wsX4_requireCommunity := by decide +kernel
  have i_4 : ∀ w ∈ wsX40, w ∈ wsX4_requireCommunity := by decide +kernel
  have k_0 := hts (.fieldLink RX4 10 "CommunityLevels" "told" "LCommunityLevels$Graph;") (by decide +kernel)
  have k_1 := hts (.fieldLink RX4 121 "CommunityLevels$Graph" "size" "I") (by decide +kernel)
  refine lv_iload_n hx hb dX4_requireCommunity_0 rfl (lv_at hl 1 rfl) ?_
  refine lv_if_lt (tgt := 15) hx hb dX4_requireCommunity_1 (by decide) (fun c_1 => ?_) (fun c_1 => ?_)
  · exact absurd c_1 (by decide)
  refine lv_iload_n hx hb dX4_requireCommunity_4 rfl (lv_at hl 1 rfl) ?_
  refine lv_aload_n hx hb dX4_requireCommunity_5 rfl (lv_at hl 0 rfl) ?_
  refine va_get (D := (dC, dI)) (ci := 4) (v := .ref g) (C := RX4) (T := TX4) (N := 7) hx hb hts i_4 hown hK hP 0 rfl rfl 0 (by decide) k_0 (fun _ h9 => h9) rfl dX4_requireCommunity_6 ?_
  refine va_get (D := (dC, dI)) (ci := 0) (v := .int 1) (C := RX0) (T := TX0) (N := 4) hx hb hts i_0 hown hK hP 1 rfl rfl 2 (by decide) k_1 (fun _ h9 => h9) rfl dX4_requireCommunity_9 ?_
  refine lv_icmp_lt (tgt := 25) hx hb dX4_requireCommunity_12 (by decide) (fun c_2 => ?_) (fun c_2 => ?_)
  rotate_left
  · exact absurd (by decide) c_2
  have hP9 := hP.sub (ws' := [(x, .inr (4, [.ref g, .ref mr, .ref tb, .ref lo, .ref g3, .ref gr, .ref wi])), (g, .inr (0, [.ref w, .ref d, .int 1, .int 0]))]) [0, 1] rfl
  have hD9 := hD.sub (ws' := [(x, .inr (4, [.ref g, .ref mr, .ref tb, .ref lo, .ref g3, .ref gr, .ref wi])), (g, .inr (0, [.ref w, .ref d, .int 1, .int 0]))]) [0, 1] (by decide) rfl
  exact W.vret hx hb hr (fun t ht hW => ⟨⟨(), rfl, trivial, by rw [ht]; exact hP9, hD9⟩, hS.F ht⟩) hS.2.2 dX4_requireCommunity_25
set_option maxHeartbeats 4000000 in
set_option maxRecDepth 100000 in
theorem c_X4_requireNode_bad (l : Launch) (hno : l.stackTraces = false) (dC : Nat → ClassId) (dI : Nat → Nat → Nat) (cI cJ : ClassId) (x g mr tb lo g3 gr wi w d : Nat) (sz : Nat) (n : Int32) (hn : n < 0 ∨ 1 ≤ n) : vx_Met l yX4_requireNode wsX4_requireNode ({ frames := 6, cells := 1, slots := 6, locals := 82 }) (va_Pc [.ref x, .int n] (pPreX dC dI cI cJ sz [(x, .inr (4, [.ref g, .ref mr, .ref tb, .ref lo, .ref g3, .ref gr, .ref wi])), (g, .inr (0, [.ref w, .ref d, .int 1, .int 0]))])) (va_Qv (fun _ : Unit => False) (fun _ _ => True) (va_A [(x, .inr (4, [.ref g, .ref mr, .ref tb, .ref lo, .ref g3, .ref gr, .ref wi])), (g, .inr (0, [.ref w, .ref d, .int 1, .int 0]))] sz)) (vx_X (fun _ : Unit => True) (fun E _ _ => E = "java/lang/IndexOutOfBoundsException") (va_A [(x, .inr (4, [.ref g, .ref mr, .ref tb, .ref lo, .ref g3, .ref gr, .ref wi])), (g, .inr (0, [.ref w, .ref d, .int 1, .int 0]))] sz)) 1 6 (va_A [(x, .inr (4, [.ref g, .ref mr, .ref tb, .ref lo, .ref g3, .ref gr, .ref wi])), (g, .inr (0, [.ref w, .ref d, .int 1, .int 0]))] sz) := by
  refine vx_ofW (cc := cX4_requireNode) (maxL := 2) (ret := none) (by decide) rfl ?_
  intro p e s m args below meth c s₁ B hml htab hv
  obtain ⟨rfl, hsz, hP, hK, hD0, hX⟩ := hv
  have hx := B.exec
  have hb := B.bytes
  have hr := B.returns
  have hts := atoms_spec (ws := wsX4_requireNode) B.pre
  have hown : s.vm.findClass RX4 = some m.cls := findClass_of_methodNamed B.named
  have hlocks := B.notSynchronized
  subst hsz
  have hD := hD0.self (sz := s.heap.size)
  generalize hAe : va_A [(x, .inr (4, [.ref g, .ref mr, .ref tb, .ref lo, .ref g3, .ref gr, .ref wi])), (g, .inr (0, [.ref w, .ref d, .int 1, .int 0]))] s.heap.size = A at hD hX ⊢
  have hA : ∀ q : Nat, s.heap.size ≤ q → A q := fun q h => by rw [← hAe]; exact Or.inr h
  have hS : va_S A s.heap s.heap [] := va_S.rf
  have hP : va_P (dC, dI) vwCl [(x, .inr (4, [.ref g, .ref mr, .ref tb, .ref lo, .ref g3, .ref gr, .ref wi])), (g, .inr (0, [.ref w, .ref d, .int 1, .int 0]))] s.heap := hP
  have hl := lv_entry ([.ref x, .int n]) (n := 2) (Nat.le_of_ble_eq_true rfl)
  rw [lg_entry_eq]
  generalize (lg_sl ([.ref x, .int n]) ++ List.replicate (2 - (lg_sl ([.ref x, .int n])).length) Slot.unset).toArray = ls at hl ⊢
  have hl : lv_has ls 2 [(0, .ref x), (1, .int n)] := hl
  have i_0 : ∀ w ∈ wsX00, w ∈ wsX4_requireNode := by decide +kernel
  have i_4 : ∀ w ∈ wsX40, w ∈ wsX4_requireNode := by decide +kernel
  have k_0 := hts (.classLink RX4 144 "java/lang/IndexOutOfBoundsException") (by decide +kernel)
  have k_1 := hts (.initialized "java/lang/IndexOutOfBoundsException") (by decide +kernel)
  have k_2 := hts (.fieldLink RX4 10 "CommunityLevels" "told" "LCommunityLevels$Graph;") (by decide +kernel)
  have k_3 := hts (.fieldLink RX4 121 "CommunityLevels$Graph" "size" "I") (by decide +kernel)
  refine lv_iload_n hx hb dX4_requireNode_0 rfl (lv_at hl 1 rfl) ?_
  refine lv_if_lt (tgt := 15) hx hb dX4_requireNode_1 (by decide) (fun c_1 => ?_) (fun c_1 => ?_)
  · skip
    obtain ⟨sa9, hstr9⟩ := hX.2.2.2.2 (152, "there is no such node") (List.mem_of_getElem? (i := 4) rfl)
    have hat9 : ∀ w ∈ vx_atS RX4 148 "java/lang/IndexOutOfBoundsException" ["java/lang/RuntimeException", "java/lang/Exception"], w.before _ s = true := vx_hat (B := vzB) (fun w h => hts w (List.mem_cons_of_mem _ (List.mem_append_right _ h))) (by decide +kernel) (fun w h => vz_bad w h (hX.2.2.1 w h))
    exact vx_throwS hx hb hno (own := RX4) (cls := "java/lang/IndexOutOfBoundsException") (text := "there is no such node") (names := ["java/lang/RuntimeException", "java/lang/Exception"]) (sa := sa9) hown (by decide +kernel) (by decide +kernel) k_0 k_1 hstr9 hat9 (by decide +kernel) hX.1 hX.2.1 hS (by rw [hml]; exact hl.1) dX4_requireNode_15 dX4_requireNode_18 dX4_requireNode_19 dX4_requireNode_21 dX4_requireNode_24 (fun x h => (htab x h).elim) (Nat.le_of_ble_eq_true rfl) (Nat.le_of_ble_eq_true rfl) (Nat.le_of_ble_eq_true rfl) (Nat.le_of_ble_eq_true rfl) hlocks (fun t9 _ hz9 hk9 => ⟨(), trivial, rfl, Nat.le_trans hS.1 hz9, fun q h1 h2 => (hk9 q (Nat.lt_of_lt_of_le h1 hS.1)).trans (hS.2.1 q h1 h2)⟩) hS.2.2 (Nat.le_of_ble_eq_true rfl) (Nat.le_of_ble_eq_true rfl)
  · skip
    refine lv_iload_n hx hb dX4_requireNode_4 rfl (lv_at hl 1 rfl) ?_
    refine lv_aload_n hx hb dX4_requireNode_5 rfl (lv_at hl 0 rfl) ?_
    refine va_get (D := (dC, dI)) (ci := 4) (v := .ref g) (C := RX4) (T := TX4) (N := 7) hx hb hts i_4 hown hK hP 0 rfl rfl 0 (by decide) k_2 (fun _ h9 => h9) rfl dX4_requireNode_6 ?_
    refine va_get (D := (dC, dI)) (ci := 0) (v := .int 1) (C := RX0) (T := TX0) (N := 4) hx hb hts i_0 hown hK hP 1 rfl rfl 2 (by decide) k_3 (fun _ h9 => h9) rfl dX4_requireNode_9 ?_
    refine lv_icmp_lt (tgt := 25) hx hb dX4_requireNode_12 (by decide) (fun c_2 => ?_) (fun c_2 => ?_)
    · exact absurd c_2 (Int32.not_lt.mpr (hn.resolve_left c_1))
    obtain ⟨sa9, hstr9⟩ := hX.2.2.2.2 (152, "there is no such node") (List.mem_of_getElem? (i := 4) rfl)
    have hat9 : ∀ w ∈ vx_atS RX4 148 "java/lang/IndexOutOfBoundsException" ["java/lang/RuntimeException", "java/lang/Exception"], w.before _ s = true := vx_hat (B := vzB) (fun w h => hts w (List.mem_cons_of_mem _ (List.mem_append_right _ h))) (by decide +kernel) (fun w h => vz_bad w h (hX.2.2.1 w h))
    exact vx_throwS hx hb hno (own := RX4) (cls := "java/lang/IndexOutOfBoundsException") (text := "there is no such node") (names := ["java/lang/RuntimeException", "java/lang/Exception"]) (sa := sa9) hown (by decide +kernel) (by decide +kernel) k_0 k_1 hstr9 hat9 (by decide +kernel) hX.1 hX.2.1 hS (by rw [hml]; exact hl.1) dX4_requireNode_15 dX4_requireNode_18 dX4_requireNode_19 dX4_requireNode_21 dX4_requireNode_24 (fun x h => (htab x h).elim) (Nat.le_of_ble_eq_true rfl) (Nat.le_of_ble_eq_true rfl) (Nat.le_of_ble_eq_true rfl) (Nat.le_of_ble_eq_true rfl) hlocks (fun t9 _ hz9 hk9 => ⟨(), trivial, rfl, Nat.le_trans hS.1 hz9, fun q h1 h2 => (hk9 q (Nat.lt_of_lt_of_le h1 hS.1)).trans (hS.2.1 q h1 h2)⟩) hS.2.2 (Nat.le_of_ble_eq_true rfl) (Nat.le_of_ble_eq_true rfl)
set_option maxHeartbeats 4000000 in
set_option maxRecDepth 100000 in
theorem c_X4_requireCommunity_bad (l : Launch) (hno : l.stackTraces = false) (dC : Nat → ClassId) (dI : Nat → Nat → Nat) (cI cJ : ClassId) (x g mr tb lo g3 gr wi w d : Nat) (sz : Nat) (n : Int32) (hn : n < 0 ∨ 1 ≤ n) : vx_Met l yX4_requireCommunity wsX4_requireCommunity ({ frames := 6, cells := 1, slots := 6, locals := 82 }) (va_Pc [.ref x, .int n] (pPreX dC dI cI cJ sz [(x, .inr (4, [.ref g, .ref mr, .ref tb, .ref lo, .ref g3, .ref gr, .ref wi])), (g, .inr (0, [.ref w, .ref d, .int 1, .int 0]))])) (va_Qv (fun _ : Unit => False) (fun _ _ => True) (va_A [(x, .inr (4, [.ref g, .ref mr, .ref tb, .ref lo, .ref g3, .ref gr, .ref wi])), (g, .inr (0, [.ref w, .ref d, .int 1, .int 0]))] sz)) (vx_X (fun _ : Unit => True) (fun E _ _ => E = "java/lang/IndexOutOfBoundsException") (va_A [(x, .inr (4, [.ref g, .ref mr, .ref tb, .ref lo, .ref g3, .ref gr, .ref wi])), (g, .inr (0, [.ref w, .ref d, .int 1, .int 0]))] sz)) 1 6 (va_A [(x, .inr (4, [.ref g, .ref mr, .ref tb, .ref lo, .ref g3, .ref gr, .ref wi])), (g, .inr (0, [.ref w, .ref d, .int 1, .int 0]))] sz) := by
  refine vx_ofW (cc := cX4_requireCommunity) (maxL := 2) (ret := none) (by decide) rfl ?_
  intro p e s m args below meth c s₁ B hml htab hv
  obtain ⟨rfl, hsz, hP, hK, hD0, hX⟩ := hv
  have hx := B.exec
  have hb := B.bytes
  have hr := B.returns
  have hts := atoms_spec (ws := wsX4_requireCommunity) B.pre
  have hown : s.vm.findClass RX4 = some m.cls := findClass_of_methodNamed B.named
  have hlocks := B.notSynchronized
  subst hsz
  have hD := hD0.self (sz := s.heap.size)
  generalize hAe : va_A [(x, .inr (4, [.ref g, .ref mr, .ref tb, .ref lo, .ref g3, .ref gr, .ref wi])), (g, .inr (0, [.ref w, .ref d, .int 1, .int 0]))] s.heap.size = A at hD hX ⊢
  have hA : ∀ q : Nat, s.heap.size ≤ q → A q := fun q h => by rw [← hAe]; exact Or.inr h
  have hS : va_S A s.heap s.heap [] := va_S.rf
  have hP : va_P (dC, dI) vwCl [(x, .inr (4, [.ref g, .ref mr, .ref tb, .ref lo, .ref g3, .ref gr, .ref wi])), (g, .inr (0, [.ref w, .ref d, .int 1, .int 0]))] s.heap := hP
  have hl := lv_entry ([.ref x, .int n]) (n := 2) (Nat.le_of_ble_eq_true rfl)
  rw [lg_entry_eq]
  generalize (lg_sl ([.ref x, .int n]) ++ List.replicate (2 - (lg_sl ([.ref x, .int n])).length) Slot.unset).toArray = ls at hl ⊢
  have hl : lv_has ls 2 [(0, .ref x), (1, .int n)] := hl
  have i_0 : ∀ w ∈ wsX00, w ∈ wsX4_requireCommunity := by decide +kernel
  have i_4 : ∀ w ∈ wsX40, w ∈ wsX4_requireCommunity := by decide +kernel
  have k_0 := hts (.classLink RX4 144 "java/lang/IndexOutOfBoundsException") (by decide +kernel)
  have k_1 := hts (.initialized "java/lang/IndexOutOfBoundsException") (by decide +kernel)
  have k_2 := hts (.fieldLink RX4 10 "CommunityLevels" "told" "LCommunityLevels$Graph;") (by decide +kernel)
  have k_3 := hts (.fieldLink RX4 121 "CommunityLevels$Graph" "size" "I") (by decide +kernel)
  refine lv_iload_n hx hb dX4_requireCommunity_0 rfl (lv_at hl 1 rfl) ?_
  refine lv_if_lt (tgt := 15) hx hb dX4_requireCommunity_1 (by decide) (fun c_1 => ?_) (fun c_1 => ?_)
  · skip
    obtain ⟨sa9, hstr9⟩ := hX.2.2.2.2 (154, "a community's number is 0 .. N - 1") (List.mem_of_getElem? (i := 5) rfl)
    have hat9 : ∀ w ∈ vx_atS RX4 148 "java/lang/IndexOutOfBoundsException" ["java/lang/RuntimeException", "java/lang/Exception"], w.before _ s = true := vx_hat (B := vzB) (fun w h => hts w (List.mem_cons_of_mem _ (List.mem_append_right _ h))) (by decide +kernel) (fun w h => vz_bad w h (hX.2.2.1 w h))
    exact vx_throwS hx hb hno (own := RX4) (cls := "java/lang/IndexOutOfBoundsException") (text := "a community's number is 0 .. N - 1") (names := ["java/lang/RuntimeException", "java/lang/Exception"]) (sa := sa9) hown (by decide +kernel) (by decide +kernel) k_0 k_1 hstr9 hat9 (by decide +kernel) hX.1 hX.2.1 hS (by rw [hml]; exact hl.1) dX4_requireCommunity_15 dX4_requireCommunity_18 dX4_requireCommunity_19 dX4_requireCommunity_21 dX4_requireCommunity_24 (fun x h => (htab x h).elim) (Nat.le_of_ble_eq_true rfl) (Nat.le_of_ble_eq_true rfl) (Nat.le_of_ble_eq_true rfl) (Nat.le_of_ble_eq_true rfl) hlocks (fun t9 _ hz9 hk9 => ⟨(), trivial, rfl, Nat.le_trans hS.1 hz9, fun q h1 h2 => (hk9 q (Nat.lt_of_lt_of_le h1 hS.1)).trans (hS.2.1 q h1 h2)⟩) hS.2.2 (Nat.le_of_ble_eq_true rfl) (Nat.le_of_ble_eq_true rfl)
  · skip
    refine lv_iload_n hx hb dX4_requireCommunity_4 rfl (lv_at hl 1 rfl) ?_
    refine lv_aload_n hx hb dX4_requireCommunity_5 rfl (lv_at hl 0 rfl) ?_
    refine va_get (D := (dC, dI)) (ci := 4) (v := .ref g) (C := RX4) (T := TX4) (N := 7) hx hb hts i_4 hown hK hP 0 rfl rfl 0 (by decide) k_2 (fun _ h9 => h9) rfl dX4_requireCommunity_6 ?_
    refine va_get (D := (dC, dI)) (ci := 0) (v := .int 1) (C := RX0) (T := TX0) (N := 4) hx hb hts i_0 hown hK hP 1 rfl rfl 2 (by decide) k_3 (fun _ h9 => h9) rfl dX4_requireCommunity_9 ?_
    refine lv_icmp_lt (tgt := 25) hx hb dX4_requireCommunity_12 (by decide) (fun c_2 => ?_) (fun c_2 => ?_)
    · exact absurd c_2 (Int32.not_lt.mpr (hn.resolve_left c_1))
    obtain ⟨sa9, hstr9⟩ := hX.2.2.2.2 (154, "a community's number is 0 .. N - 1") (List.mem_of_getElem? (i := 5) rfl)
    have hat9 : ∀ w ∈ vx_atS RX4 148 "java/lang/IndexOutOfBoundsException" ["java/lang/RuntimeException", "java/lang/Exception"], w.before _ s = true := vx_hat (B := vzB) (fun w h => hts w (List.mem_cons_of_mem _ (List.mem_append_right _ h))) (by decide +kernel) (fun w h => vz_bad w h (hX.2.2.1 w h))
    exact vx_throwS hx hb hno (own := RX4) (cls := "java/lang/IndexOutOfBoundsException") (text := "a community's number is 0 .. N - 1") (names := ["java/lang/RuntimeException", "java/lang/Exception"]) (sa := sa9) hown (by decide +kernel) (by decide +kernel) k_0 k_1 hstr9 hat9 (by decide +kernel) hX.1 hX.2.1 hS (by rw [hml]; exact hl.1) dX4_requireCommunity_15 dX4_requireCommunity_18 dX4_requireCommunity_19 dX4_requireCommunity_21 dX4_requireCommunity_24 (fun x h => (htab x h).elim) (Nat.le_of_ble_eq_true rfl) (Nat.le_of_ble_eq_true rfl) (Nat.le_of_ble_eq_true rfl) (Nat.le_of_ble_eq_true rfl) hlocks (fun t9 _ hz9 hk9 => ⟨(), trivial, rfl, Nat.le_trans hS.1 hz9, fun q h1 h2 => (hk9 q (Nat.lt_of_lt_of_le h1 hS.1)).trans (hS.2.1 q h1 h2)⟩) hS.2.2 (Nat.le_of_ble_eq_true rfl) (Nat.le_of_ble_eq_true rfl)
