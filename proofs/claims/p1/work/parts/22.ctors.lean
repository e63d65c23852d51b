set_option maxHeartbeats 4000000 in
set_option maxRecDepth 100000 in
theorem c_X0_init (l : Launch) (dC : Nat → ClassId) (dI : Nat → Nat → Nat) (cI cJ : ClassId) (h : Nat) (sz : Nat) : Met l yX0_init wsX0_init ({ frames := 1, cells := 2, slots := 1640, locals := 12 }) (va_Pc [.ref h] (pPre dC dI cI cJ sz [(h, .inr (0, [.null, .null, .int 0, .int 0]))])) (va_Qv (fun _ : Nat → Nat => True) (fun u t => va_P (dC, dI) vwCl [(h, .inr (0, [.ref (u 0), .ref (u 1), .int 1, .int 0])), ((u 0), .inl (cI, 1600, .inl Zi)), ((u 1), .inl (cI, 40, .inl Zi))] t.heap ∧ va_D (va_A [(h, .inr (0, [.null, .null, .int 0, .int 0]))] sz) [(h, .inr (0, [.ref (u 0), .ref (u 1), .int 1, .int 0])), ((u 0), .inl (cI, 1600, .inl Zi)), ((u 1), .inl (cI, 40, .inl Zi))]) (va_A [(h, .inr (0, [.null, .null, .int 0, .int 0]))] sz)) 2 1640 (va_A [(h, .inr (0, [.null, .null, .int 0, .int 0]))] sz) := by
  refine Met.ofW (cc := cX0_init) (maxL := 1) (ret := none) (by decide) rfl ?_
  intro p e s m args below meth c s₁ B hml hv
  obtain ⟨rfl, hsz, hP, hK, hD0⟩ := hv
  have hx := B.exec
  have hb := B.bytes
  have hr := B.returns
  have hts := atoms_spec (ws := wsX0_init) B.pre
  have hown : s.vm.findClass RX0 = some m.cls := findClass_of_methodNamed B.named
  have hlocks := B.notSynchronized
  have hin : meth.name = "<init>" := (name_of_methodNamed B.named B.method).1
  subst hsz
  have hD := hD0.self (sz := s.heap.size)
  generalize hAe : va_A [(h, .inr (0, [.null, .null, .int 0, .int 0]))] s.heap.size = A at hD ⊢
  have hA : ∀ q : Nat, s.heap.size ≤ q → A q := fun q h => by rw [← hAe]; exact Or.inr h
  have hS : va_S A s.heap s.heap [] := va_S.rf
  have hP : va_P (dC, dI) vwCl [(h, .inr (0, [.null, .null, .int 0, .int 0]))] s.heap := hP
  have hl := lv_entry ([.ref h]) (n := 1) (Nat.le_of_ble_eq_true rfl)
  rw [lg_entry_eq]
  generalize (lg_sl ([.ref h]) ++ List.replicate (1 - (lg_sl ([.ref h])).length) Slot.unset).toArray = ls at hl ⊢
  have hl : lv_has ls 1 [(0, .ref h)] := hl
  have i_0 : ∀ w ∈ wsX00, w ∈ wsX0_init := by decide +kernel
  have k_0 := hts (.methodLink RX0 3 objectInit) (by decide +kernel)
  have k_1 := hts (.instanceMethod objectInit) (by decide +kernel)
  have k_2 := hts (.code objectInit ⟨#[0xb1]⟩ 1 none) (by decide +kernel)
  have k_3 := hts (.arrayClass .int) (by decide +kernel)
  have k_4 := hts (.fieldLink RX0 9 "CommunityLevels$Graph" "weight" "[I") (by decide +kernel)
  have k_5 := hts (.fieldLink RX0 15 "CommunityLevels$Graph" "degree" "[I") (by decide +kernel)
  have k_6 := hts (.fieldLink RX0 18 "CommunityLevels$Graph" "size" "I") (by decide +kernel)
  have k_7 := hts (.fieldLink RX0 22 "CommunityLevels$Graph" "total" "I") (by decide +kernel)
  refine lv_aload_n hx hb dX0_init_0 rfl (lv_at hl 0 rfl) ?_
  refine W.objInit hx hb hown k_0 k_1 k_2 rfl (by rw [hml]; exact hl.1) rfl dX0_init_1 (Nat.le_of_ble_eq_true rfl) (Nat.le_of_ble_eq_true rfl) ?_
  refine W.eq (g2 := F0 m 4 ls []) rfl ?_
  refine lv_aload_n hx hb dX0_init_4 rfl (lv_at hl 0 rfl) ?_
  refine lv_sipush (v := 1600) hx hb dX0_init_5 (by decide) ?_
  refine vn_I (N' := 1600) hx hb k_3 hK hP hD hS hA (by decide) (by decide) (by decide) (Nat.le_of_ble_eq_true rfl) (Nat.le_of_ble_eq_true rfl) dX0_init_8 (fun q_1 H hP hD hS => ?_)
  refine W.widen (k := 1) (n := 1600) (by decide) (by decide) ?_
  have hP : va_P (dC, dI) vwCl [(h, .inr (0, [.null, .null, .int 0, .int 0])), (q_1, .inl (cI, 1600, .inl Zi))] H := hP
  have hD : va_D A [(h, .inr (0, [.null, .null, .int 0, .int 0])), (q_1, .inl (cI, 1600, .inl Zi))] := hD
  refine va_putF (D := (dC, dI)) (ci := 0) (v := .ref q_1) (ty := .array .int) (C := RX0) (T := TX0) (N := 4) hx hb hts i_0 tyX0 tyX0_ok nmX0 hown hK hP hD hS 0 rfl rfl 0 (by decide) k_4 (fun _ h9 => h9) rfl hin rfl (by decide +kernel) rfl rfl (Nat.le_of_ble_eq_true rfl) dX0_init_10 (fun H locs hP hD hS => ?_)
  have hP : va_P (dC, dI) vwCl [(h, .inr (0, [.ref q_1, .null, .int 0, .int 0])), (q_1, .inl (cI, 1600, .inl Zi))] H := hP
  have hD : va_D A [(h, .inr (0, [.ref q_1, .null, .int 0, .int 0])), (q_1, .inl (cI, 1600, .inl Zi))] := hD
  refine lv_aload_n hx hb dX0_init_13 rfl (lv_at hl 0 rfl) ?_
  refine lv_bipush (v := 40) hx hb dX0_init_14 (by decide) ?_
  refine vn_I (N' := 40) hx hb k_3 hK hP hD hS hA (by decide) (by decide) (by decide) (Nat.le_of_ble_eq_true rfl) (Nat.le_of_ble_eq_true rfl) dX0_init_16 (fun q_2 H hP hD hS => ?_)
  refine W.widen (k := 2) (n := 1640) (by decide) (by decide) ?_
  have hP : va_P (dC, dI) vwCl [(h, .inr (0, [.ref q_1, .null, .int 0, .int 0])), (q_1, .inl (cI, 1600, .inl Zi)), (q_2, .inl (cI, 40, .inl Zi))] H := hP
  have hD : va_D A [(h, .inr (0, [.ref q_1, .null, .int 0, .int 0])), (q_1, .inl (cI, 1600, .inl Zi)), (q_2, .inl (cI, 40, .inl Zi))] := hD
  refine va_putF (D := (dC, dI)) (ci := 0) (v := .ref q_2) (ty := .array .int) (C := RX0) (T := TX0) (N := 4) hx hb hts i_0 tyX0 tyX0_ok nmX0 hown hK hP hD hS 0 rfl rfl 1 (by decide) k_5 (fun _ h9 => h9) rfl hin rfl (by decide +kernel) rfl rfl (Nat.le_of_ble_eq_true rfl) dX0_init_18 (fun H locs hP hD hS => ?_)
  have hP : va_P (dC, dI) vwCl [(h, .inr (0, [.ref q_1, .ref q_2, .int 0, .int 0])), (q_1, .inl (cI, 1600, .inl Zi)), (q_2, .inl (cI, 40, .inl Zi))] H := hP
  have hD : va_D A [(h, .inr (0, [.ref q_1, .ref q_2, .int 0, .int 0])), (q_1, .inl (cI, 1600, .inl Zi)), (q_2, .inl (cI, 40, .inl Zi))] := hD
  refine lv_aload_n hx hb dX0_init_21 rfl (lv_at hl 0 rfl) ?_
  refine lv_iconst (v := 1) hx hb dX0_init_22 (by decide) ?_
  refine va_put (D := (dC, dI)) (ci := 0) (v := .int 1) (ty := .int) (C := RX0) (T := TX0) (N := 4) hx hb hts i_0 tyX0 tyX0_ok nmX0 hown hK hP hD hS 0 rfl rfl 2 (by decide) k_6 (fun _ h9 => h9) rfl (by decide +kernel) rfl rfl (Nat.le_of_ble_eq_true rfl) dX0_init_23 (fun H locs hP hD hS => ?_)
  have hP : va_P (dC, dI) vwCl [(h, .inr (0, [.ref q_1, .ref q_2, .int 1, .int 0])), (q_1, .inl (cI, 1600, .inl Zi)), (q_2, .inl (cI, 40, .inl Zi))] H := hP
  have hD : va_D A [(h, .inr (0, [.ref q_1, .ref q_2, .int 1, .int 0])), (q_1, .inl (cI, 1600, .inl Zi)), (q_2, .inl (cI, 40, .inl Zi))] := hD
  refine lv_aload_n hx hb dX0_init_26 rfl (lv_at hl 0 rfl) ?_
  refine lv_iconst (v := 0) hx hb dX0_init_27 (by decide) ?_
  refine va_put (D := (dC, dI)) (ci := 0) (v := .int 0) (ty := .int) (C := RX0) (T := TX0) (N := 4) hx hb hts i_0 tyX0 tyX0_ok nmX0 hown hK hP hD hS 0 rfl rfl 3 (by decide) k_7 (fun _ h9 => h9) rfl (by decide +kernel) rfl rfl (Nat.le_of_ble_eq_true rfl) dX0_init_28 (fun H locs hP hD hS => ?_)
  have hP : va_P (dC, dI) vwCl [(h, .inr (0, [.ref q_1, .ref q_2, .int 1, .int 0])), (q_1, .inl (cI, 1600, .inl Zi)), (q_2, .inl (cI, 40, .inl Zi))] H := hP
  have hD : va_D A [(h, .inr (0, [.ref q_1, .ref q_2, .int 1, .int 0])), (q_1, .inl (cI, 1600, .inl Zi)), (q_2, .inl (cI, 40, .inl Zi))] := hD
  have hP9 := hP.sub (ws' := [(h, .inr (0, [.ref q_1, .ref q_2, .int 1, .int 0])), (q_1, .inl (cI, 1600, .inl Zi)), (q_2, .inl (cI, 40, .inl Zi))]) [0, 1, 2] rfl
  have hD9 := hD.sub (ws' := [(h, .inr (0, [.ref q_1, .ref q_2, .int 1, .int 0])), (q_1, .inl (cI, 1600, .inl Zi)), (q_2, .inl (cI, 40, .inl Zi))]) [0, 1, 2] (by decide) rfl
  exact W.vret hx hb hr (fun t ht hW => ⟨⟨(fun j => ([q_1, q_2] : List Nat).getD j 0), rfl, trivial, by rw [ht]; exact hP9, hD9⟩, hS.F ht⟩) hS.2.2 dX0_init_31
set_option maxHeartbeats 4000000 in
set_option maxRecDepth 100000 in
theorem c_X1_init (l : Launch) (dC : Nat → ClassId) (dI : Nat → Nat → Nat) (cI cJ : ClassId) (h : Nat) (sz : Nat) : Met l yX1_init wsX1_init ({ frames := 1, cells := 5, slots := 200, locals := 12 }) (va_Pc [.ref h] (pPre dC dI cI cJ sz [(h, .inr (1, [.null, .null, .null, .null, .null]))])) (va_Qv (fun _ : Nat → Nat => True) (fun u t => va_P (dC, dI) vwCl [(h, .inr (1, [.ref (u 0), .ref (u 1), .ref (u 2), .ref (u 3), .ref (u 4)])), ((u 0), .inl (cI, 40, .inl Zi)), ((u 1), .inl (cI, 40, .inl Zi)), ((u 2), .inl (cI, 40, .inl Zi)), ((u 3), .inl (cI, 40, .inl Zi)), ((u 4), .inl (cI, 40, .inl Zi))] t.heap ∧ va_D (va_A [(h, .inr (1, [.null, .null, .null, .null, .null]))] sz) [(h, .inr (1, [.ref (u 0), .ref (u 1), .ref (u 2), .ref (u 3), .ref (u 4)])), ((u 0), .inl (cI, 40, .inl Zi)), ((u 1), .inl (cI, 40, .inl Zi)), ((u 2), .inl (cI, 40, .inl Zi)), ((u 3), .inl (cI, 40, .inl Zi)), ((u 4), .inl (cI, 40, .inl Zi))]) (va_A [(h, .inr (1, [.null, .null, .null, .null, .null]))] sz)) 5 200 (va_A [(h, .inr (1, [.null, .null, .null, .null, .null]))] sz) := by
  refine Met.ofW (cc := cX1_init) (maxL := 1) (ret := none) (by decide) rfl ?_
  intro p e s m args below meth c s₁ B hml hv
  obtain ⟨rfl, hsz, hP, hK, hD0⟩ := hv
  have hx := B.exec
  have hb := B.bytes
  have hr := B.returns
  have hts := atoms_spec (ws := wsX1_init) B.pre
  have hown : s.vm.findClass RX1 = some m.cls := findClass_of_methodNamed B.named
  have hlocks := B.notSynchronized
  have hin : meth.name = "<init>" := (name_of_methodNamed B.named B.method).1
  subst hsz
  have hD := hD0.self (sz := s.heap.size)
  generalize hAe : va_A [(h, .inr (1, [.null, .null, .null, .null, .null]))] s.heap.size = A at hD ⊢
  have hA : ∀ q : Nat, s.heap.size ≤ q → A q := fun q h => by rw [← hAe]; exact Or.inr h
  have hS : va_S A s.heap s.heap [] := va_S.rf
  have hP : va_P (dC, dI) vwCl [(h, .inr (1, [.null, .null, .null, .null, .null]))] s.heap := hP
  have hl := lv_entry ([.ref h]) (n := 1) (Nat.le_of_ble_eq_true rfl)
  rw [lg_entry_eq]
  generalize (lg_sl ([.ref h]) ++ List.replicate (1 - (lg_sl ([.ref h])).length) Slot.unset).toArray = ls at hl ⊢
  have hl : lv_has ls 1 [(0, .ref h)] := hl
  have i_1 : ∀ w ∈ wsX10, w ∈ wsX1_init := by decide +kernel
  have k_0 := hts (.methodLink RX1 3 objectInit) (by decide +kernel)
  have k_1 := hts (.instanceMethod objectInit) (by decide +kernel)
  have k_2 := hts (.code objectInit ⟨#[0xb1]⟩ 1 none) (by decide +kernel)
  have k_3 := hts (.arrayClass .int) (by decide +kernel)
  have k_4 := hts (.fieldLink RX1 9 "CommunityLevels$Groups" "home" "[I") (by decide +kernel)
  have k_5 := hts (.fieldLink RX1 15 "CommunityLevels$Groups" "count" "[I") (by decide +kernel)
  have k_6 := hts (.fieldLink RX1 18 "CommunityLevels$Groups" "degree" "[I") (by decide +kernel)
  have k_7 := hts (.fieldLink RX1 21 "CommunityLevels$Groups" "link" "[I") (by decide +kernel)
  have k_8 := hts (.fieldLink RX1 24 "CommunityLevels$Groups" "number" "[I") (by decide +kernel)
  refine lv_aload_n hx hb dX1_init_0 rfl (lv_at hl 0 rfl) ?_
  refine W.objInit hx hb hown k_0 k_1 k_2 rfl (by rw [hml]; exact hl.1) rfl dX1_init_1 (Nat.le_of_ble_eq_true rfl) (Nat.le_of_ble_eq_true rfl) ?_
  refine W.eq (g2 := F0 m 4 ls []) rfl ?_
  refine lv_aload_n hx hb dX1_init_4 rfl (lv_at hl 0 rfl) ?_
  refine lv_bipush (v := 40) hx hb dX1_init_5 (by decide) ?_
  refine vn_I (N' := 40) hx hb k_3 hK hP hD hS hA (by decide) (by decide) (by decide) (Nat.le_of_ble_eq_true rfl) (Nat.le_of_ble_eq_true rfl) dX1_init_7 (fun q_1 H hP hD hS => ?_)
  refine W.widen (k := 1) (n := 40) (by decide) (by decide) ?_
  have hP : va_P (dC, dI) vwCl [(h, .inr (1, [.null, .null, .null, .null, .null])), (q_1, .inl (cI, 40, .inl Zi))] H := hP
  have hD : va_D A [(h, .inr (1, [.null, .null, .null, .null, .null])), (q_1, .inl (cI, 40, .inl Zi))] := hD
  refine va_putF (D := (dC, dI)) (ci := 1) (v := .ref q_1) (ty := .array .int) (C := RX1) (T := TX1) (N := 5) hx hb hts i_1 tyX1 tyX1_ok nmX1 hown hK hP hD hS 0 rfl rfl 0 (by decide) k_4 (fun _ h9 => h9) rfl hin rfl (by decide +kernel) rfl rfl (Nat.le_of_ble_eq_true rfl) dX1_init_9 (fun H locs hP hD hS => ?_)
  have hP : va_P (dC, dI) vwCl [(h, .inr (1, [.ref q_1, .null, .null, .null, .null])), (q_1, .inl (cI, 40, .inl Zi))] H := hP
  have hD : va_D A [(h, .inr (1, [.ref q_1, .null, .null, .null, .null])), (q_1, .inl (cI, 40, .inl Zi))] := hD
  refine lv_aload_n hx hb dX1_init_12 rfl (lv_at hl 0 rfl) ?_
  refine lv_bipush (v := 40) hx hb dX1_init_13 (by decide) ?_
  refine vn_I (N' := 40) hx hb k_3 hK hP hD hS hA (by decide) (by decide) (by decide) (Nat.le_of_ble_eq_true rfl) (Nat.le_of_ble_eq_true rfl) dX1_init_15 (fun q_2 H hP hD hS => ?_)
  refine W.widen (k := 2) (n := 80) (by decide) (by decide) ?_
  have hP : va_P (dC, dI) vwCl [(h, .inr (1, [.ref q_1, .null, .null, .null, .null])), (q_1, .inl (cI, 40, .inl Zi)), (q_2, .inl (cI, 40, .inl Zi))] H := hP
  have hD : va_D A [(h, .inr (1, [.ref q_1, .null, .null, .null, .null])), (q_1, .inl (cI, 40, .inl Zi)), (q_2, .inl (cI, 40, .inl Zi))] := hD
  refine va_putF (D := (dC, dI)) (ci := 1) (v := .ref q_2) (ty := .array .int) (C := RX1) (T := TX1) (N := 5) hx hb hts i_1 tyX1 tyX1_ok nmX1 hown hK hP hD hS 0 rfl rfl 1 (by decide) k_5 (fun _ h9 => h9) rfl hin rfl (by decide +kernel) rfl rfl (Nat.le_of_ble_eq_true rfl) dX1_init_17 (fun H locs hP hD hS => ?_)
  have hP : va_P (dC, dI) vwCl [(h, .inr (1, [.ref q_1, .ref q_2, .null, .null, .null])), (q_1, .inl (cI, 40, .inl Zi)), (q_2, .inl (cI, 40, .inl Zi))] H := hP
  have hD : va_D A [(h, .inr (1, [.ref q_1, .ref q_2, .null, .null, .null])), (q_1, .inl (cI, 40, .inl Zi)), (q_2, .inl (cI, 40, .inl Zi))] := hD
  refine lv_aload_n hx hb dX1_init_20 rfl (lv_at hl 0 rfl) ?_
  refine lv_bipush (v := 40) hx hb dX1_init_21 (by decide) ?_
  refine vn_I (N' := 40) hx hb k_3 hK hP hD hS hA (by decide) (by decide) (by decide) (Nat.le_of_ble_eq_true rfl) (Nat.le_of_ble_eq_true rfl) dX1_init_23 (fun q_3 H hP hD hS => ?_)
  refine W.widen (k := 3) (n := 120) (by decide) (by decide) ?_
  have hP : va_P (dC, dI) vwCl [(h, .inr (1, [.ref q_1, .ref q_2, .null, .null, .null])), (q_1, .inl (cI, 40, .inl Zi)), (q_2, .inl (cI, 40, .inl Zi)), (q_3, .inl (cI, 40, .inl Zi))] H := hP
  have hD : va_D A [(h, .inr (1, [.ref q_1, .ref q_2, .null, .null, .null])), (q_1, .inl (cI, 40, .inl Zi)), (q_2, .inl (cI, 40, .inl Zi)), (q_3, .inl (cI, 40, .inl Zi))] := hD
  refine va_putF (D := (dC, dI)) (ci := 1) (v := .ref q_3) (ty := .array .int) (C := RX1) (T := TX1) (N := 5) hx hb hts i_1 tyX1 tyX1_ok nmX1 hown hK hP hD hS 0 rfl rfl 2 (by decide) k_6 (fun _ h9 => h9) rfl hin rfl (by decide +kernel) rfl rfl (Nat.le_of_ble_eq_true rfl) dX1_init_25 (fun H locs hP hD hS => ?_)
  have hP : va_P (dC, dI) vwCl [(h, .inr (1, [.ref q_1, .ref q_2, .ref q_3, .null, .null])), (q_1, .inl (cI, 40, .inl Zi)), (q_2, .inl (cI, 40, .inl Zi)), (q_3, .inl (cI, 40, .inl Zi))] H := hP
  have hD : va_D A [(h, .inr (1, [.ref q_1, .ref q_2, .ref q_3, .null, .null])), (q_1, .inl (cI, 40, .inl Zi)), (q_2, .inl (cI, 40, .inl Zi)), (q_3, .inl (cI, 40, .inl Zi))] := hD
  refine lv_aload_n hx hb dX1_init_28 rfl (lv_at hl 0 rfl) ?_
  refine lv_bipush (v := 40) hx hb dX1_init_29 (by decide) ?_
  refine vn_I (N' := 40) hx hb k_3 hK hP hD hS hA (by decide) (by decide) (by decide) (Nat.le_of_ble_eq_true rfl) (Nat.le_of_ble_eq_true rfl) dX1_init_31 (fun q_4 H hP hD hS => ?_)
  refine W.widen (k := 4) (n := 160) (by decide) (by decide) ?_
  have hP : va_P (dC, dI) vwCl [(h, .inr (1, [.ref q_1, .ref q_2, .ref q_3, .null, .null])), (q_1, .inl (cI, 40, .inl Zi)), (q_2, .inl (cI, 40, .inl Zi)), (q_3, .inl (cI, 40, .inl Zi)), (q_4, .inl (cI, 40, .inl Zi))] H := hP
  have hD : va_D A [(h, .inr (1, [.ref q_1, .ref q_2, .ref q_3, .null, .null])), (q_1, .inl (cI, 40, .inl Zi)), (q_2, .inl (cI, 40, .inl Zi)), (q_3, .inl (cI, 40, .inl Zi)), (q_4, .inl (cI, 40, .inl Zi))] := hD
  refine va_putF (D := (dC, dI)) (ci := 1) (v := .ref q_4) (ty := .array .int) (C := RX1) (T := TX1) (N := 5) hx hb hts i_1 tyX1 tyX1_ok nmX1 hown hK hP hD hS 0 rfl rfl 3 (by decide) k_7 (fun _ h9 => h9) rfl hin rfl (by decide +kernel) rfl rfl (Nat.le_of_ble_eq_true rfl) dX1_init_33 (fun H locs hP hD hS => ?_)
  have hP : va_P (dC, dI) vwCl [(h, .inr (1, [.ref q_1, .ref q_2, .ref q_3, .ref q_4, .null])), (q_1, .inl (cI, 40, .inl Zi)), (q_2, .inl (cI, 40, .inl Zi)), (q_3, .inl (cI, 40, .inl Zi)), (q_4, .inl (cI, 40, .inl Zi))] H := hP
  have hD : va_D A [(h, .inr (1, [.ref q_1, .ref q_2, .ref q_3, .ref q_4, .null])), (q_1, .inl (cI, 40, .inl Zi)), (q_2, .inl (cI, 40, .inl Zi)), (q_3, .inl (cI, 40, .inl Zi)), (q_4, .inl (cI, 40, .inl Zi))] := hD
  refine lv_aload_n hx hb dX1_init_36 rfl (lv_at hl 0 rfl) ?_
  refine lv_bipush (v := 40) hx hb dX1_init_37 (by decide) ?_
  refine vn_I (N' := 40) hx hb k_3 hK hP hD hS hA (by decide) (by decide) (by decide) (Nat.le_of_ble_eq_true rfl) (Nat.le_of_ble_eq_true rfl) dX1_init_39 (fun q_5 H hP hD hS => ?_)
  refine W.widen (k := 5) (n := 200) (by decide) (by decide) ?_
  have hP : va_P (dC, dI) vwCl [(h, .inr (1, [.ref q_1, .ref q_2, .ref q_3, .ref q_4, .null])), (q_1, .inl (cI, 40, .inl Zi)), (q_2, .inl (cI, 40, .inl Zi)), (q_3, .inl (cI, 40, .inl Zi)), (q_4, .inl (cI, 40, .inl Zi)), (q_5, .inl (cI, 40, .inl Zi))] H := hP
  have hD : va_D A [(h, .inr (1, [.ref q_1, .ref q_2, .ref q_3, .ref q_4, .null])), (q_1, .inl (cI, 40, .inl Zi)), (q_2, .inl (cI, 40, .inl Zi)), (q_3, .inl (cI, 40, .inl Zi)), (q_4, .inl (cI, 40, .inl Zi)), (q_5, .inl (cI, 40, .inl Zi))] := hD
  refine va_putF (D := (dC, dI)) (ci := 1) (v := .ref q_5) (ty := .array .int) (C := RX1) (T := TX1) (N := 5) hx hb hts i_1 tyX1 tyX1_ok nmX1 hown hK hP hD hS 0 rfl rfl 4 (by decide) k_8 (fun _ h9 => h9) rfl hin rfl (by decide +kernel) rfl rfl (Nat.le_of_ble_eq_true rfl) dX1_init_41 (fun H locs hP hD hS => ?_)
  have hP : va_P (dC, dI) vwCl [(h, .inr (1, [.ref q_1, .ref q_2, .ref q_3, .ref q_4, .ref q_5])), (q_1, .inl (cI, 40, .inl Zi)), (q_2, .inl (cI, 40, .inl Zi)), (q_3, .inl (cI, 40, .inl Zi)), (q_4, .inl (cI, 40, .inl Zi)), (q_5, .inl (cI, 40, .inl Zi))] H := hP
  have hD : va_D A [(h, .inr (1, [.ref q_1, .ref q_2, .ref q_3, .ref q_4, .ref q_5])), (q_1, .inl (cI, 40, .inl Zi)), (q_2, .inl (cI, 40, .inl Zi)), (q_3, .inl (cI, 40, .inl Zi)), (q_4, .inl (cI, 40, .inl Zi)), (q_5, .inl (cI, 40, .inl Zi))] := hD
  have hP9 := hP.sub (ws' := [(h, .inr (1, [.ref q_1, .ref q_2, .ref q_3, .ref q_4, .ref q_5])), (q_1, .inl (cI, 40, .inl Zi)), (q_2, .inl (cI, 40, .inl Zi)), (q_3, .inl (cI, 40, .inl Zi)), (q_4, .inl (cI, 40, .inl Zi)), (q_5, .inl (cI, 40, .inl Zi))]) [0, 1, 2, 3, 4, 5] rfl
  have hD9 := hD.sub (ws' := [(h, .inr (1, [.ref q_1, .ref q_2, .ref q_3, .ref q_4, .ref q_5])), (q_1, .inl (cI, 40, .inl Zi)), (q_2, .inl (cI, 40, .inl Zi)), (q_3, .inl (cI, 40, .inl Zi)), (q_4, .inl (cI, 40, .inl Zi)), (q_5, .inl (cI, 40, .inl Zi))]) [0, 1, 2, 3, 4, 5] (by decide) rfl
  exact W.vret hx hb hr (fun t ht hW => ⟨⟨(fun j => ([q_1, q_2, q_3, q_4, q_5] : List Nat).getD j 0), rfl, trivial, by rw [ht]; exact hP9, hD9⟩, hS.F ht⟩) hS.2.2 dX1_init_44
set_option maxHeartbeats 4000000 in
set_option maxRecDepth 100000 in
theorem c_X2_init (l : Launch) (dC : Nat → ClassId) (dI : Nat → Nat → Nat) (cI cJ : ClassId) (h : Nat) (sz : Nat) : Met l yX2_init wsX2_init ({ frames := 1, cells := 3, slots := 1800, locals := 12 }) (va_Pc [.ref h] (pPre dC dI cI cJ sz [(h, .inr (2, [.null, .null, .null, .int 0]))])) (va_Qv (fun _ : Nat → Nat => True) (fun u t => va_P (dC, dI) vwCl [(h, .inr (2, [.ref (u 0), .ref (u 1), .ref (u 2), .int 0])), ((u 0), .inl (cI, 160, .inl Zi)), ((u 1), .inl (cI, 1600, .inl Zi)), ((u 2), .inl (cJ, 40, .inr (.inl Zl)))] t.heap ∧ va_D (va_A [(h, .inr (2, [.null, .null, .null, .int 0]))] sz) [(h, .inr (2, [.ref (u 0), .ref (u 1), .ref (u 2), .int 0])), ((u 0), .inl (cI, 160, .inl Zi)), ((u 1), .inl (cI, 1600, .inl Zi)), ((u 2), .inl (cJ, 40, .inr (.inl Zl)))]) (va_A [(h, .inr (2, [.null, .null, .null, .int 0]))] sz)) 3 1800 (va_A [(h, .inr (2, [.null, .null, .null, .int 0]))] sz) := by
  refine Met.ofW (cc := cX2_init) (maxL := 1) (ret := none) (by decide) rfl ?_
  intro p e s m args below meth c s₁ B hml hv
  obtain ⟨rfl, hsz, hP, hK, hD0⟩ := hv
  have hx := B.exec
  have hb := B.bytes
  have hr := B.returns
  have hts := atoms_spec (ws := wsX2_init) B.pre
  have hown : s.vm.findClass RX2 = some m.cls := findClass_of_methodNamed B.named
  have hlocks := B.notSynchronized
  have hin : meth.name = "<init>" := (name_of_methodNamed B.named B.method).1
  subst hsz
  have hD := hD0.self (sz := s.heap.size)
  generalize hAe : va_A [(h, .inr (2, [.null, .null, .null, .int 0]))] s.heap.size = A at hD ⊢
  have hA : ∀ q : Nat, s.heap.size ≤ q → A q := fun q h => by rw [← hAe]; exact Or.inr h
  have hS : va_S A s.heap s.heap [] := va_S.rf
  have hP : va_P (dC, dI) vwCl [(h, .inr (2, [.null, .null, .null, .int 0]))] s.heap := hP
  have hl := lv_entry ([.ref h]) (n := 1) (Nat.le_of_ble_eq_true rfl)
  rw [lg_entry_eq]
  generalize (lg_sl ([.ref h]) ++ List.replicate (1 - (lg_sl ([.ref h])).length) Slot.unset).toArray = ls at hl ⊢
  have hl : lv_has ls 1 [(0, .ref h)] := hl
  have i_2 : ∀ w ∈ wsX20, w ∈ wsX2_init := by decide +kernel
  have k_0 := hts (.methodLink RX2 3 objectInit) (by decide +kernel)
  have k_1 := hts (.instanceMethod objectInit) (by decide +kernel)
  have k_2 := hts (.code objectInit ⟨#[0xb1]⟩ 1 none) (by decide +kernel)
  have k_3 := hts (.arrayClass .int) (by decide +kernel)
  have k_4 := hts (.fieldLink RX2 9 "CommunityLevels$LevelTable" "facts" "[I") (by decide +kernel)
  have k_5 := hts (.fieldLink RX2 15 "CommunityLevels$LevelTable" "homes" "[I") (by decide +kernel)
  have k_6 := hts (.arrayClass .long) (by decide +kernel)
  have k_7 := hts (.fieldLink RX2 18 "CommunityLevels$LevelTable" "scores" "[J") (by decide +kernel)
  have k_8 := hts (.fieldLink RX2 22 "CommunityLevels$LevelTable" "size" "I") (by decide +kernel)
  refine lv_aload_n hx hb dX2_init_0 rfl (lv_at hl 0 rfl) ?_
  refine W.objInit hx hb hown k_0 k_1 k_2 rfl (by rw [hml]; exact hl.1) rfl dX2_init_1 (Nat.le_of_ble_eq_true rfl) (Nat.le_of_ble_eq_true rfl) ?_
  refine W.eq (g2 := F0 m 4 ls []) rfl ?_
  refine lv_aload_n hx hb dX2_init_4 rfl (lv_at hl 0 rfl) ?_
  refine lv_sipush (v := 160) hx hb dX2_init_5 (by decide) ?_
  refine vn_I (N' := 160) hx hb k_3 hK hP hD hS hA (by decide) (by decide) (by decide) (Nat.le_of_ble_eq_true rfl) (Nat.le_of_ble_eq_true rfl) dX2_init_8 (fun q_1 H hP hD hS => ?_)
  refine W.widen (k := 1) (n := 160) (by decide) (by decide) ?_
  have hP : va_P (dC, dI) vwCl [(h, .inr (2, [.null, .null, .null, .int 0])), (q_1, .inl (cI, 160, .inl Zi))] H := hP
  have hD : va_D A [(h, .inr (2, [.null, .null, .null, .int 0])), (q_1, .inl (cI, 160, .inl Zi))] := hD
  refine va_putF (D := (dC, dI)) (ci := 2) (v := .ref q_1) (ty := .array .int) (C := RX2) (T := TX2) (N := 4) hx hb hts i_2 tyX2 tyX2_ok nmX2 hown hK hP hD hS 0 rfl rfl 0 (by decide) k_4 (fun _ h9 => h9) rfl hin rfl (by decide +kernel) rfl rfl (Nat.le_of_ble_eq_true rfl) dX2_init_10 (fun H locs hP hD hS => ?_)
  have hP : va_P (dC, dI) vwCl [(h, .inr (2, [.ref q_1, .null, .null, .int 0])), (q_1, .inl (cI, 160, .inl Zi))] H := hP
  have hD : va_D A [(h, .inr (2, [.ref q_1, .null, .null, .int 0])), (q_1, .inl (cI, 160, .inl Zi))] := hD
  refine lv_aload_n hx hb dX2_init_13 rfl (lv_at hl 0 rfl) ?_
  refine lv_sipush (v := 1600) hx hb dX2_init_14 (by decide) ?_
  refine vn_I (N' := 1600) hx hb k_3 hK hP hD hS hA (by decide) (by decide) (by decide) (Nat.le_of_ble_eq_true rfl) (Nat.le_of_ble_eq_true rfl) dX2_init_17 (fun q_2 H hP hD hS => ?_)
  refine W.widen (k := 2) (n := 1760) (by decide) (by decide) ?_
  have hP : va_P (dC, dI) vwCl [(h, .inr (2, [.ref q_1, .null, .null, .int 0])), (q_1, .inl (cI, 160, .inl Zi)), (q_2, .inl (cI, 1600, .inl Zi))] H := hP
  have hD : va_D A [(h, .inr (2, [.ref q_1, .null, .null, .int 0])), (q_1, .inl (cI, 160, .inl Zi)), (q_2, .inl (cI, 1600, .inl Zi))] := hD
  refine va_putF (D := (dC, dI)) (ci := 2) (v := .ref q_2) (ty := .array .int) (C := RX2) (T := TX2) (N := 4) hx hb hts i_2 tyX2 tyX2_ok nmX2 hown hK hP hD hS 0 rfl rfl 1 (by decide) k_5 (fun _ h9 => h9) rfl hin rfl (by decide +kernel) rfl rfl (Nat.le_of_ble_eq_true rfl) dX2_init_19 (fun H locs hP hD hS => ?_)
  have hP : va_P (dC, dI) vwCl [(h, .inr (2, [.ref q_1, .ref q_2, .null, .int 0])), (q_1, .inl (cI, 160, .inl Zi)), (q_2, .inl (cI, 1600, .inl Zi))] H := hP
  have hD : va_D A [(h, .inr (2, [.ref q_1, .ref q_2, .null, .int 0])), (q_1, .inl (cI, 160, .inl Zi)), (q_2, .inl (cI, 1600, .inl Zi))] := hD
  refine lv_aload_n hx hb dX2_init_22 rfl (lv_at hl 0 rfl) ?_
  refine lv_bipush (v := 40) hx hb dX2_init_23 (by decide) ?_
  refine vn_J (N' := 40) hx hb k_6 hK hP hD hS hA (by decide) (by decide) (by decide) (Nat.le_of_ble_eq_true rfl) (Nat.le_of_ble_eq_true rfl) dX2_init_25 (fun q_3 H hP hD hS => ?_)
  refine W.widen (k := 3) (n := 1800) (by decide) (by decide) ?_
  have hP : va_P (dC, dI) vwCl [(h, .inr (2, [.ref q_1, .ref q_2, .null, .int 0])), (q_1, .inl (cI, 160, .inl Zi)), (q_2, .inl (cI, 1600, .inl Zi)), (q_3, .inl (cJ, 40, .inr (.inl Zl)))] H := hP
  have hD : va_D A [(h, .inr (2, [.ref q_1, .ref q_2, .null, .int 0])), (q_1, .inl (cI, 160, .inl Zi)), (q_2, .inl (cI, 1600, .inl Zi)), (q_3, .inl (cJ, 40, .inr (.inl Zl)))] := hD
  refine va_putF (D := (dC, dI)) (ci := 2) (v := .ref q_3) (ty := .array .long) (C := RX2) (T := TX2) (N := 4) hx hb hts i_2 tyX2 tyX2_ok nmX2 hown hK hP hD hS 0 rfl rfl 2 (by decide) k_7 (fun _ h9 => h9) rfl hin rfl (by decide +kernel) rfl rfl (Nat.le_of_ble_eq_true rfl) dX2_init_27 (fun H locs hP hD hS => ?_)
  have hP : va_P (dC, dI) vwCl [(h, .inr (2, [.ref q_1, .ref q_2, .ref q_3, .int 0])), (q_1, .inl (cI, 160, .inl Zi)), (q_2, .inl (cI, 1600, .inl Zi)), (q_3, .inl (cJ, 40, .inr (.inl Zl)))] H := hP
  have hD : va_D A [(h, .inr (2, [.ref q_1, .ref q_2, .ref q_3, .int 0])), (q_1, .inl (cI, 160, .inl Zi)), (q_2, .inl (cI, 1600, .inl Zi)), (q_3, .inl (cJ, 40, .inr (.inl Zl)))] := hD
  refine lv_aload_n hx hb dX2_init_30 rfl (lv_at hl 0 rfl) ?_
  refine lv_iconst (v := 0) hx hb dX2_init_31 (by decide) ?_
  refine va_put (D := (dC, dI)) (ci := 2) (v := .int 0) (ty := .int) (C := RX2) (T := TX2) (N := 4) hx hb hts i_2 tyX2 tyX2_ok nmX2 hown hK hP hD hS 0 rfl rfl 3 (by decide) k_8 (fun _ h9 => h9) rfl (by decide +kernel) rfl rfl (Nat.le_of_ble_eq_true rfl) dX2_init_32 (fun H locs hP hD hS => ?_)
  have hP : va_P (dC, dI) vwCl [(h, .inr (2, [.ref q_1, .ref q_2, .ref q_3, .int 0])), (q_1, .inl (cI, 160, .inl Zi)), (q_2, .inl (cI, 1600, .inl Zi)), (q_3, .inl (cJ, 40, .inr (.inl Zl)))] H := hP
  have hD : va_D A [(h, .inr (2, [.ref q_1, .ref q_2, .ref q_3, .int 0])), (q_1, .inl (cI, 160, .inl Zi)), (q_2, .inl (cI, 1600, .inl Zi)), (q_3, .inl (cJ, 40, .inr (.inl Zl)))] := hD
  have hP9 := hP.sub (ws' := [(h, .inr (2, [.ref q_1, .ref q_2, .ref q_3, .int 0])), (q_1, .inl (cI, 160, .inl Zi)), (q_2, .inl (cI, 1600, .inl Zi)), (q_3, .inl (cJ, 40, .inr (.inl Zl)))]) [0, 1, 2, 3] rfl
  have hD9 := hD.sub (ws' := [(h, .inr (2, [.ref q_1, .ref q_2, .ref q_3, .int 0])), (q_1, .inl (cI, 160, .inl Zi)), (q_2, .inl (cI, 1600, .inl Zi)), (q_3, .inl (cJ, 40, .inr (.inl Zl)))]) [0, 1, 2, 3] (by decide) rfl
  exact W.vret hx hb hr (fun t ht hW => ⟨⟨(fun j => ([q_1, q_2, q_3] : List Nat).getD j 0), rfl, trivial, by rw [ht]; exact hP9, hD9⟩, hS.F ht⟩) hS.2.2 dX2_init_35
set_option maxHeartbeats 4000000 in
set_option maxRecDepth 100000 in
theorem c_X3_init (l : Launch) (dC : Nat → ClassId) (dI : Nat → Nat → Nat) (cI cJ : ClassId) (h : Nat) (sz : Nat) : Met l yX3_init wsX3_init ({ frames := 1, cells := 2, slots := 2000, locals := 12 }) (va_Pc [.ref h] (pPre dC dI cI cJ sz [(h, .inr (3, [.null, .null, .int 0]))])) (va_Qv (fun _ : Nat → Nat => True) (fun u t => va_P (dC, dI) vwCl [(h, .inr (3, [.ref (u 0), .ref (u 1), .int 0])), ((u 0), .inl (cI, 1600, .inl Zi)), ((u 1), .inl (cJ, 400, .inr (.inl Zl)))] t.heap ∧ va_D (va_A [(h, .inr (3, [.null, .null, .int 0]))] sz) [(h, .inr (3, [.ref (u 0), .ref (u 1), .int 0])), ((u 0), .inl (cI, 1600, .inl Zi)), ((u 1), .inl (cJ, 400, .inr (.inl Zl)))]) (va_A [(h, .inr (3, [.null, .null, .int 0]))] sz)) 2 2000 (va_A [(h, .inr (3, [.null, .null, .int 0]))] sz) := by
  refine Met.ofW (cc := cX3_init) (maxL := 1) (ret := none) (by decide) rfl ?_
  intro p e s m args below meth c s₁ B hml hv
  obtain ⟨rfl, hsz, hP, hK, hD0⟩ := hv
  have hx := B.exec
  have hb := B.bytes
  have hr := B.returns
  have hts := atoms_spec (ws := wsX3_init) B.pre
  have hown : s.vm.findClass RX3 = some m.cls := findClass_of_methodNamed B.named
  have hlocks := B.notSynchronized
  have hin : meth.name = "<init>" := (name_of_methodNamed B.named B.method).1
  subst hsz
  have hD := hD0.self (sz := s.heap.size)
  generalize hAe : va_A [(h, .inr (3, [.null, .null, .int 0]))] s.heap.size = A at hD ⊢
  have hA : ∀ q : Nat, s.heap.size ≤ q → A q := fun q h => by rw [← hAe]; exact Or.inr h
  have hS : va_S A s.heap s.heap [] := va_S.rf
  have hP : va_P (dC, dI) vwCl [(h, .inr (3, [.null, .null, .int 0]))] s.heap := hP
  have hl := lv_entry ([.ref h]) (n := 1) (Nat.le_of_ble_eq_true rfl)
  rw [lg_entry_eq]
  generalize (lg_sl ([.ref h]) ++ List.replicate (1 - (lg_sl ([.ref h])).length) Slot.unset).toArray = ls at hl ⊢
  have hl : lv_has ls 1 [(0, .ref h)] := hl
  have i_3 : ∀ w ∈ wsX30, w ∈ wsX3_init := by decide +kernel
  have k_0 := hts (.methodLink RX3 3 objectInit) (by decide +kernel)
  have k_1 := hts (.instanceMethod objectInit) (by decide +kernel)
  have k_2 := hts (.code objectInit ⟨#[0xb1]⟩ 1 none) (by decide +kernel)
  have k_3 := hts (.arrayClass .int) (by decide +kernel)
  have k_4 := hts (.fieldLink RX3 9 "CommunityLevels$MoveLog" "facts" "[I") (by decide +kernel)
  have k_5 := hts (.arrayClass .long) (by decide +kernel)
  have k_6 := hts (.fieldLink RX3 15 "CommunityLevels$MoveLog" "gains" "[J") (by decide +kernel)
  have k_7 := hts (.fieldLink RX3 19 "CommunityLevels$MoveLog" "size" "I") (by decide +kernel)
  refine lv_aload_n hx hb dX3_init_0 rfl (lv_at hl 0 rfl) ?_
  refine W.objInit hx hb hown k_0 k_1 k_2 rfl (by rw [hml]; exact hl.1) rfl dX3_init_1 (Nat.le_of_ble_eq_true rfl) (Nat.le_of_ble_eq_true rfl) ?_
  refine W.eq (g2 := F0 m 4 ls []) rfl ?_
  refine lv_aload_n hx hb dX3_init_4 rfl (lv_at hl 0 rfl) ?_
  refine lv_sipush (v := 1600) hx hb dX3_init_5 (by decide) ?_
  refine vn_I (N' := 1600) hx hb k_3 hK hP hD hS hA (by decide) (by decide) (by decide) (Nat.le_of_ble_eq_true rfl) (Nat.le_of_ble_eq_true rfl) dX3_init_8 (fun q_1 H hP hD hS => ?_)
  refine W.widen (k := 1) (n := 1600) (by decide) (by decide) ?_
  have hP : va_P (dC, dI) vwCl [(h, .inr (3, [.null, .null, .int 0])), (q_1, .inl (cI, 1600, .inl Zi))] H := hP
  have hD : va_D A [(h, .inr (3, [.null, .null, .int 0])), (q_1, .inl (cI, 1600, .inl Zi))] := hD
  refine va_putF (D := (dC, dI)) (ci := 3) (v := .ref q_1) (ty := .array .int) (C := RX3) (T := TX3) (N := 3) hx hb hts i_3 tyX3 tyX3_ok nmX3 hown hK hP hD hS 0 rfl rfl 0 (by decide) k_4 (fun _ h9 => h9) rfl hin rfl (by decide +kernel) rfl rfl (Nat.le_of_ble_eq_true rfl) dX3_init_10 (fun H locs hP hD hS => ?_)
  have hP : va_P (dC, dI) vwCl [(h, .inr (3, [.ref q_1, .null, .int 0])), (q_1, .inl (cI, 1600, .inl Zi))] H := hP
  have hD : va_D A [(h, .inr (3, [.ref q_1, .null, .int 0])), (q_1, .inl (cI, 1600, .inl Zi))] := hD
  refine lv_aload_n hx hb dX3_init_13 rfl (lv_at hl 0 rfl) ?_
  refine lv_sipush (v := 400) hx hb dX3_init_14 (by decide) ?_
  refine vn_J (N' := 400) hx hb k_5 hK hP hD hS hA (by decide) (by decide) (by decide) (Nat.le_of_ble_eq_true rfl) (Nat.le_of_ble_eq_true rfl) dX3_init_17 (fun q_2 H hP hD hS => ?_)
  refine W.widen (k := 2) (n := 2000) (by decide) (by decide) ?_
  have hP : va_P (dC, dI) vwCl [(h, .inr (3, [.ref q_1, .null, .int 0])), (q_1, .inl (cI, 1600, .inl Zi)), (q_2, .inl (cJ, 400, .inr (.inl Zl)))] H := hP
  have hD : va_D A [(h, .inr (3, [.ref q_1, .null, .int 0])), (q_1, .inl (cI, 1600, .inl Zi)), (q_2, .inl (cJ, 400, .inr (.inl Zl)))] := hD
  refine va_putF (D := (dC, dI)) (ci := 3) (v := .ref q_2) (ty := .array .long) (C := RX3) (T := TX3) (N := 3) hx hb hts i_3 tyX3 tyX3_ok nmX3 hown hK hP hD hS 0 rfl rfl 1 (by decide) k_6 (fun _ h9 => h9) rfl hin rfl (by decide +kernel) rfl rfl (Nat.le_of_ble_eq_true rfl) dX3_init_19 (fun H locs hP hD hS => ?_)
  have hP : va_P (dC, dI) vwCl [(h, .inr (3, [.ref q_1, .ref q_2, .int 0])), (q_1, .inl (cI, 1600, .inl Zi)), (q_2, .inl (cJ, 400, .inr (.inl Zl)))] H := hP
  have hD : va_D A [(h, .inr (3, [.ref q_1, .ref q_2, .int 0])), (q_1, .inl (cI, 1600, .inl Zi)), (q_2, .inl (cJ, 400, .inr (.inl Zl)))] := hD
  refine lv_aload_n hx hb dX3_init_22 rfl (lv_at hl 0 rfl) ?_
  refine lv_iconst (v := 0) hx hb dX3_init_23 (by decide) ?_
  refine va_put (D := (dC, dI)) (ci := 3) (v := .int 0) (ty := .int) (C := RX3) (T := TX3) (N := 3) hx hb hts i_3 tyX3 tyX3_ok nmX3 hown hK hP hD hS 0 rfl rfl 2 (by decide) k_7 (fun _ h9 => h9) rfl (by decide +kernel) rfl rfl (Nat.le_of_ble_eq_true rfl) dX3_init_24 (fun H locs hP hD hS => ?_)
  have hP : va_P (dC, dI) vwCl [(h, .inr (3, [.ref q_1, .ref q_2, .int 0])), (q_1, .inl (cI, 1600, .inl Zi)), (q_2, .inl (cJ, 400, .inr (.inl Zl)))] H := hP
  have hD : va_D A [(h, .inr (3, [.ref q_1, .ref q_2, .int 0])), (q_1, .inl (cI, 1600, .inl Zi)), (q_2, .inl (cJ, 400, .inr (.inl Zl)))] := hD
  have hP9 := hP.sub (ws' := [(h, .inr (3, [.ref q_1, .ref q_2, .int 0])), (q_1, .inl (cI, 1600, .inl Zi)), (q_2, .inl (cJ, 400, .inr (.inl Zl)))]) [0, 1, 2] rfl
  have hD9 := hD.sub (ws' := [(h, .inr (3, [.ref q_1, .ref q_2, .int 0])), (q_1, .inl (cI, 1600, .inl Zi)), (q_2, .inl (cJ, 400, .inr (.inl Zl)))]) [0, 1, 2] (by decide) rfl
  exact W.vret hx hb hr (fun t ht hW => ⟨⟨(fun j => ([q_1, q_2] : List Nat).getD j 0), rfl, trivial, by rw [ht]; exact hP9, hD9⟩, hS.F ht⟩) hS.2.2 dX3_init_27
set_option maxHeartbeats 4000000 in
set_option maxRecDepth 100000 in
theorem c_X4_init (l : Launch) (dC : Nat → ClassId) (dI : Nat → Nat → Nat) (cI cJ : ClassId) (h : Nat) (sz : Nat) : Met l yX4_init wsX4_init ({ frames := 2, cells := 26, slots := 7545, locals := 32 }) (va_Pc [.ref h] (pPre dC dI cI cJ sz [(h, .inr (4, [.null, .null, .null, .null, .null, .null, .null]))])) (va_Qv (fun _ : Nat → Nat => True) (fun u t => va_P (dC, dI) vwCl [(h, .inr (4, [.ref (u 0), .ref (u 3), .ref (u 9), .ref (u 13), .ref (u 16), .ref (u 19), .ref (u 25)])), ((u 0), .inr (0, [.ref (u 1), .ref (u 2), .int 1, .int 0])), ((u 1), .inl (cI, 1600, .inl Zi)), ((u 2), .inl (cI, 40, .inl Zi)), ((u 3), .inr (1, [.ref (u 4), .ref (u 5), .ref (u 6), .ref (u 7), .ref (u 8)])), ((u 4), .inl (cI, 40, .inl Zi)), ((u 5), .inl (cI, 40, .inl Zi)), ((u 6), .inl (cI, 40, .inl Zi)), ((u 7), .inl (cI, 40, .inl Zi)), ((u 8), .inl (cI, 40, .inl Zi)), ((u 9), .inr (2, [.ref (u 10), .ref (u 11), .ref (u 12), .int 0])), ((u 10), .inl (cI, 160, .inl Zi)), ((u 11), .inl (cI, 1600, .inl Zi)), ((u 12), .inl (cJ, 40, .inr (.inl Zl))), ((u 13), .inr (3, [.ref (u 14), .ref (u 15), .int 0])), ((u 14), .inl (cI, 1600, .inl Zi)), ((u 15), .inl (cJ, 400, .inr (.inl Zl))), ((u 16), .inr (0, [.ref (u 17), .ref (u 18), .int 1, .int 0])), ((u 17), .inl (cI, 1600, .inl Zi)), ((u 18), .inl (cI, 40, .inl Zi)), ((u 19), .inr (1, [.ref (u 20), .ref (u 21), .ref (u 22), .ref (u 23), .ref (u 24)])), ((u 20), .inl (cI, 40, .inl Zi)), ((u 21), .inl (cI, 40, .inl Zi)), ((u 22), .inl (cI, 40, .inl Zi)), ((u 23), .inl (cI, 40, .inl Zi)), ((u 24), .inl (cI, 40, .inl Zi)), ((u 25), .inl (cI, 40, .inl Zi))] t.heap ∧ va_D (va_A [(h, .inr (4, [.null, .null, .null, .null, .null, .null, .null]))] sz) [(h, .inr (4, [.ref (u 0), .ref (u 3), .ref (u 9), .ref (u 13), .ref (u 16), .ref (u 19), .ref (u 25)])), ((u 0), .inr (0, [.ref (u 1), .ref (u 2), .int 1, .int 0])), ((u 1), .inl (cI, 1600, .inl Zi)), ((u 2), .inl (cI, 40, .inl Zi)), ((u 3), .inr (1, [.ref (u 4), .ref (u 5), .ref (u 6), .ref (u 7), .ref (u 8)])), ((u 4), .inl (cI, 40, .inl Zi)), ((u 5), .inl (cI, 40, .inl Zi)), ((u 6), .inl (cI, 40, .inl Zi)), ((u 7), .inl (cI, 40, .inl Zi)), ((u 8), .inl (cI, 40, .inl Zi)), ((u 9), .inr (2, [.ref (u 10), .ref (u 11), .ref (u 12), .int 0])), ((u 10), .inl (cI, 160, .inl Zi)), ((u 11), .inl (cI, 1600, .inl Zi)), ((u 12), .inl (cJ, 40, .inr (.inl Zl))), ((u 13), .inr (3, [.ref (u 14), .ref (u 15), .int 0])), ((u 14), .inl (cI, 1600, .inl Zi)), ((u 15), .inl (cJ, 400, .inr (.inl Zl))), ((u 16), .inr (0, [.ref (u 17), .ref (u 18), .int 1, .int 0])), ((u 17), .inl (cI, 1600, .inl Zi)), ((u 18), .inl (cI, 40, .inl Zi)), ((u 19), .inr (1, [.ref (u 20), .ref (u 21), .ref (u 22), .ref (u 23), .ref (u 24)])), ((u 20), .inl (cI, 40, .inl Zi)), ((u 21), .inl (cI, 40, .inl Zi)), ((u 22), .inl (cI, 40, .inl Zi)), ((u 23), .inl (cI, 40, .inl Zi)), ((u 24), .inl (cI, 40, .inl Zi)), ((u 25), .inl (cI, 40, .inl Zi))]) (va_A [(h, .inr (4, [.null, .null, .null, .null, .null, .null, .null]))] sz)) 26 7545 (va_A [(h, .inr (4, [.null, .null, .null, .null, .null, .null, .null]))] sz) := by
  refine Met.ofW (cc := cX4_init) (maxL := 1) (ret := none) (by decide) rfl ?_
  intro p e s m args below meth c s₁ B hml hv
  obtain ⟨rfl, hsz, hP, hK, hD0⟩ := hv
  have hx := B.exec
  have hb := B.bytes
  have hr := B.returns
  have hts := atoms_spec (ws := wsX4_init) B.pre
  have hown : s.vm.findClass RX4 = some m.cls := findClass_of_methodNamed B.named
  have hlocks := B.notSynchronized
  have hin : meth.name = "<init>" := (name_of_methodNamed B.named B.method).1
  subst hsz
  have hD := hD0.self (sz := s.heap.size)
  generalize hAe : va_A [(h, .inr (4, [.null, .null, .null, .null, .null, .null, .null]))] s.heap.size = A at hD ⊢
  have hA : ∀ q : Nat, s.heap.size ≤ q → A q := fun q h => by rw [← hAe]; exact Or.inr h
  have hS : va_S A s.heap s.heap [] := va_S.rf
  have hP : va_P (dC, dI) vwCl [(h, .inr (4, [.null, .null, .null, .null, .null, .null, .null]))] s.heap := hP
  have hl := lv_entry ([.ref h]) (n := 1) (Nat.le_of_ble_eq_true rfl)
  rw [lg_entry_eq]
  generalize (lg_sl ([.ref h]) ++ List.replicate (1 - (lg_sl ([.ref h])).length) Slot.unset).toArray = ls at hl ⊢
  have hl : lv_has ls 1 [(0, .ref h)] := hl
  have i_0 : ∀ w ∈ wsX00, w ∈ wsX4_init := by decide +kernel
  have i_1 : ∀ w ∈ wsX10, w ∈ wsX4_init := by decide +kernel
  have i_2 : ∀ w ∈ wsX20, w ∈ wsX4_init := by decide +kernel
  have i_3 : ∀ w ∈ wsX30, w ∈ wsX4_init := by decide +kernel
  have i_4 : ∀ w ∈ wsX40, w ∈ wsX4_init := by decide +kernel
  have k_0 := hts (.methodLink RX4 1 objectInit) (by decide +kernel)
  have k_1 := hts (.instanceMethod objectInit) (by decide +kernel)
  have k_2 := hts (.code objectInit ⟨#[0xb1]⟩ 1 none) (by decide +kernel)
  have k_3 := hts (.classLink RX4 7 RX0) (by decide +kernel)
  have k_4 := hts (.instantiable RX0 4) (by decide +kernel)
  have k_5 := hts (.initialized RX0) (by decide +kernel)
  have k_6 := hts (.methodLink RX4 9 yX0_init) (by decide +kernel)
  have k_7 := hts (.instanceMethod yX0_init) (by decide +kernel)
  have k_8 := hts (.fieldLink RX4 10 "CommunityLevels" "told" "LCommunityLevels$Graph;") (by decide +kernel)
  have k_9 := hts (.classLink RX4 16 RX1) (by decide +kernel)
  have k_10 := hts (.instantiable RX1 5) (by decide +kernel)
  have k_11 := hts (.initialized RX1) (by decide +kernel)
  have k_12 := hts (.methodLink RX4 18 yX1_init) (by decide +kernel)
  have k_13 := hts (.instanceMethod yX1_init) (by decide +kernel)
  have k_14 := hts (.fieldLink RX4 19 "CommunityLevels" "mine" "LCommunityLevels$Groups;") (by decide +kernel)
  have k_15 := hts (.classLink RX4 23 RX2) (by decide +kernel)
  have k_16 := hts (.instantiable RX2 4) (by decide +kernel)
  have k_17 := hts (.initialized RX2) (by decide +kernel)
  have k_18 := hts (.methodLink RX4 25 yX2_init) (by decide +kernel)
  have k_19 := hts (.instanceMethod yX2_init) (by decide +kernel)
  have k_20 := hts (.fieldLink RX4 26 "CommunityLevels" "table" "LCommunityLevels$LevelTable;") (by decide +kernel)
  have k_21 := hts (.classLink RX4 30 RX3) (by decide +kernel)
  have k_22 := hts (.instantiable RX3 3) (by decide +kernel)
  have k_23 := hts (.initialized RX3) (by decide +kernel)
  have k_24 := hts (.methodLink RX4 32 yX3_init) (by decide +kernel)
  have k_25 := hts (.instanceMethod yX3_init) (by decide +kernel)
  have k_26 := hts (.fieldLink RX4 33 "CommunityLevels" "log" "LCommunityLevels$MoveLog;") (by decide +kernel)
  have k_27 := hts (.fieldLink RX4 37 "CommunityLevels" "graph" "LCommunityLevels$Graph;") (by decide +kernel)
  have k_28 := hts (.fieldLink RX4 40 "CommunityLevels" "groups" "LCommunityLevels$Groups;") (by decide +kernel)
  have k_29 := hts (.arrayClass .int) (by decide +kernel)
  have k_30 := hts (.fieldLink RX4 43 "CommunityLevels" "within" "[I") (by decide +kernel)
  refine lv_aload_n hx hb dX4_init_0 rfl (lv_at hl 0 rfl) ?_
  refine W.objInit hx hb hown k_0 k_1 k_2 rfl (by rw [hml]; exact hl.1) rfl dX4_init_1 (Nat.le_of_ble_eq_true rfl) (Nat.le_of_ble_eq_true rfl) ?_
  refine W.eq (g2 := F0 m 4 ls []) rfl ?_
  refine lv_aload_n hx hb dX4_init_4 rfl (lv_at hl 0 rfl) ?_
  refine va_new (ci := 0) (fs := [.null, .null, .int 0, .int 0]) (C := RX0) (T := TX0) (N := 4) hx hb hts i_0 tyX0 tyX0_ok hown k_3 k_4 k_5 hK hP hD hS hA rfl (by decide) (Nat.le_of_ble_eq_true rfl) (Nat.le_of_ble_eq_true rfl) dX4_init_5 (fun q_1 H hP hD hS => ?_)
  refine W.widen (k := 1) (n := 4) (by decide) (by decide) ?_
  have hP : va_P (dC, dI) vwCl [(h, .inr (4, [.null, .null, .null, .null, .null, .null, .null])), (q_1, .inr (0, [.null, .null, .int 0, .int 0]))] H := hP
  have hD : va_D A [(h, .inr (4, [.null, .null, .null, .null, .null, .null, .null])), (q_1, .inr (0, [.null, .null, .int 0, .int 0]))] := hD
  refine lv_dup hx hb dX4_init_8 rfl ?_
  have hPc := hP.sub (ws' := [(q_1, .inr (0, [.null, .null, .int 0, .int 0]))]) [1] rfl
  have hDc := hD.sub (ws' := [(q_1, .inr (0, [.null, .null, .int 0, .int 0]))]) [1] (by decide) rfl
  have hFc := va_free (wc := [(q_1, .inr (0, [.null, .null, .int 0, .int 0]))]) hD hS hA [1] rfl
  refine va_callv (va_runI (As := []) (rest := [.ref q_1, .ref h]) ⟨hx, hb, hml, hown, hts⟩ (c_X0_init l dC dI cI cJ q_1 H.size) (cwI 0 hts gX4_init_X0_init rfl rfl rfl k_5 k_6 k_7 rfl (by decide +kernel) ⟨Nat.le_of_ble_eq_true rfl, Nat.le_of_ble_eq_true rfl⟩) ⟨fun a U g mk q => by obtain ⟨q0, q1, qP, qK, qD⟩ := q; exact ⟨q0, q1, qP, va_K.moved (u := U) (U := U.calling g mk a) (Vm.Alike.refl U.vm) qK, qD⟩, fun U hU hW => ⟨rfl, by rw [hU], by rw [hU]; exact hPc, va_K.moved hW.alike hK, hDc.weaken (fun _ _ _ _ => trivial)⟩⟩ rfl rfl hl.1 rfl (lv_room (Nat.le_of_ble_eq_true rfl)) dX4_init_9 ⟨Nat.le_of_ble_eq_true rfl, Nat.le_of_ble_eq_true rfl⟩) hS (fun q _ h => hFc q h) hFc (fun u_3 t H1 locs ht hvm hw hB hz1 hk1 hS => ?_)
  obtain ⟨hP1, hD1⟩ := hB
  rw [ht] at hP1
  obtain ⟨hP, hD⟩ := va_join (wr := [(h, .inr (4, [.null, .null, .null, .null, .null, .null, .null]))]) (w1 := [(q_1, .inr (0, [.ref (u_3 0), .ref (u_3 1), .int 1, .int 0])), ((u_3 0), .inl (cI, 1600, .inl Zi)), ((u_3 1), .inl (cI, 40, .inl Zi))]) hP hD [1] [0] rfl rfl (by decide) (by decide) hk1 hFc hP1 hD1
  generalize H1 = H at hP hS ⊢
  have hP : va_P (dC, dI) vwCl [(h, .inr (4, [.null, .null, .null, .null, .null, .null, .null])), (q_1, .inr (0, [.ref (u_3 0), .ref (u_3 1), .int 1, .int 0])), ((u_3 0), .inl (cI, 1600, .inl Zi)), ((u_3 1), .inl (cI, 40, .inl Zi))] H := hP
  have hD : va_D A [(h, .inr (4, [.null, .null, .null, .null, .null, .null, .null])), (q_1, .inr (0, [.ref (u_3 0), .ref (u_3 1), .int 1, .int 0])), ((u_3 0), .inl (cI, 1600, .inl Zi)), ((u_3 1), .inl (cI, 40, .inl Zi))] := hD
  refine W.widen (k := 3) (n := 1644) (by decide) (by decide) ?_
  refine va_putF (D := (dC, dI)) (ci := 4) (v := .ref q_1) (ty := .object "CommunityLevels$Graph") (C := RX4) (T := TX4) (N := 7) hx hb hts i_4 tyX4 tyX4_ok nmX4 hown hK hP hD hS 0 rfl rfl 0 (by decide) k_8 (fun _ h9 => h9) rfl hin rfl (by decide +kernel) rfl rfl (Nat.le_of_ble_eq_true rfl) dX4_init_12 (fun H locs hP hD hS => ?_)
  have hP : va_P (dC, dI) vwCl [(h, .inr (4, [.ref q_1, .null, .null, .null, .null, .null, .null])), (q_1, .inr (0, [.ref (u_3 0), .ref (u_3 1), .int 1, .int 0])), ((u_3 0), .inl (cI, 1600, .inl Zi)), ((u_3 1), .inl (cI, 40, .inl Zi))] H := hP
  have hD : va_D A [(h, .inr (4, [.ref q_1, .null, .null, .null, .null, .null, .null])), (q_1, .inr (0, [.ref (u_3 0), .ref (u_3 1), .int 1, .int 0])), ((u_3 0), .inl (cI, 1600, .inl Zi)), ((u_3 1), .inl (cI, 40, .inl Zi))] := hD
  refine lv_aload_n hx hb dX4_init_15 rfl (lv_at hl 0 rfl) ?_
  refine va_new (ci := 1) (fs := [.null, .null, .null, .null, .null]) (C := RX1) (T := TX1) (N := 5) hx hb hts i_1 tyX1 tyX1_ok hown k_9 k_10 k_11 hK hP hD hS hA rfl (by decide) (Nat.le_of_ble_eq_true rfl) (Nat.le_of_ble_eq_true rfl) dX4_init_16 (fun q_4 H hP hD hS => ?_)
  refine W.widen (k := 4) (n := 1649) (by decide) (by decide) ?_
  have hP : va_P (dC, dI) vwCl [(h, .inr (4, [.ref q_1, .null, .null, .null, .null, .null, .null])), (q_1, .inr (0, [.ref (u_3 0), .ref (u_3 1), .int 1, .int 0])), ((u_3 0), .inl (cI, 1600, .inl Zi)), ((u_3 1), .inl (cI, 40, .inl Zi)), (q_4, .inr (1, [.null, .null, .null, .null, .null]))] H := hP
  have hD : va_D A [(h, .inr (4, [.ref q_1, .null, .null, .null, .null, .null, .null])), (q_1, .inr (0, [.ref (u_3 0), .ref (u_3 1), .int 1, .int 0])), ((u_3 0), .inl (cI, 1600, .inl Zi)), ((u_3 1), .inl (cI, 40, .inl Zi)), (q_4, .inr (1, [.null, .null, .null, .null, .null]))] := hD
  refine lv_dup hx hb dX4_init_19 rfl ?_
  have hPc := hP.sub (ws' := [(q_4, .inr (1, [.null, .null, .null, .null, .null]))]) [4] rfl
  have hDc := hD.sub (ws' := [(q_4, .inr (1, [.null, .null, .null, .null, .null]))]) [4] (by decide) rfl
  have hFc := va_free (wc := [(q_4, .inr (1, [.null, .null, .null, .null, .null]))]) hD hS hA [4] rfl
  refine va_callv (va_runI (As := []) (rest := [.ref q_4, .ref h]) ⟨hx, hb, hml, hown, hts⟩ (c_X1_init l dC dI cI cJ q_4 H.size) (cwI 0 hts gX4_init_X1_init rfl rfl rfl k_11 k_12 k_13 rfl (by decide +kernel) ⟨Nat.le_of_ble_eq_true rfl, Nat.le_of_ble_eq_true rfl⟩) ⟨fun a U g mk q => by obtain ⟨q0, q1, qP, qK, qD⟩ := q; exact ⟨q0, q1, qP, va_K.moved (u := U) (U := U.calling g mk a) (Vm.Alike.refl U.vm) qK, qD⟩, fun U hU hW => ⟨rfl, by rw [hU], by rw [hU]; exact hPc, va_K.moved hW.alike hK, hDc.weaken (fun _ _ _ _ => trivial)⟩⟩ rfl rfl hl.1 rfl (lv_room (Nat.le_of_ble_eq_true rfl)) dX4_init_20 ⟨Nat.le_of_ble_eq_true rfl, Nat.le_of_ble_eq_true rfl⟩) hS (fun q _ h => hFc q h) hFc (fun u_6 t H1 locs ht hvm hw hB hz1 hk1 hS => ?_)
  obtain ⟨hP1, hD1⟩ := hB
  rw [ht] at hP1
  obtain ⟨hP, hD⟩ := va_join (wr := [(h, .inr (4, [.ref q_1, .null, .null, .null, .null, .null, .null])), (q_1, .inr (0, [.ref (u_3 0), .ref (u_3 1), .int 1, .int 0])), ((u_3 0), .inl (cI, 1600, .inl Zi)), ((u_3 1), .inl (cI, 40, .inl Zi))]) (w1 := [(q_4, .inr (1, [.ref (u_6 0), .ref (u_6 1), .ref (u_6 2), .ref (u_6 3), .ref (u_6 4)])), ((u_6 0), .inl (cI, 40, .inl Zi)), ((u_6 1), .inl (cI, 40, .inl Zi)), ((u_6 2), .inl (cI, 40, .inl Zi)), ((u_6 3), .inl (cI, 40, .inl Zi)), ((u_6 4), .inl (cI, 40, .inl Zi))]) hP hD [4] [0, 1, 2, 3] rfl rfl (by decide) (by decide) hk1 hFc hP1 hD1
  generalize H1 = H at hP hS ⊢
  have hP : va_P (dC, dI) vwCl [(h, .inr (4, [.ref q_1, .null, .null, .null, .null, .null, .null])), (q_1, .inr (0, [.ref (u_3 0), .ref (u_3 1), .int 1, .int 0])), ((u_3 0), .inl (cI, 1600, .inl Zi)), ((u_3 1), .inl (cI, 40, .inl Zi)), (q_4, .inr (1, [.ref (u_6 0), .ref (u_6 1), .ref (u_6 2), .ref (u_6 3), .ref (u_6 4)])), ((u_6 0), .inl (cI, 40, .inl Zi)), ((u_6 1), .inl (cI, 40, .inl Zi)), ((u_6 2), .inl (cI, 40, .inl Zi)), ((u_6 3), .inl (cI, 40, .inl Zi)), ((u_6 4), .inl (cI, 40, .inl Zi))] H := hP
  have hD : va_D A [(h, .inr (4, [.ref q_1, .null, .null, .null, .null, .null, .null])), (q_1, .inr (0, [.ref (u_3 0), .ref (u_3 1), .int 1, .int 0])), ((u_3 0), .inl (cI, 1600, .inl Zi)), ((u_3 1), .inl (cI, 40, .inl Zi)), (q_4, .inr (1, [.ref (u_6 0), .ref (u_6 1), .ref (u_6 2), .ref (u_6 3), .ref (u_6 4)])), ((u_6 0), .inl (cI, 40, .inl Zi)), ((u_6 1), .inl (cI, 40, .inl Zi)), ((u_6 2), .inl (cI, 40, .inl Zi)), ((u_6 3), .inl (cI, 40, .inl Zi)), ((u_6 4), .inl (cI, 40, .inl Zi))] := hD
  refine W.widen (k := 9) (n := 1849) (by decide) (by decide) ?_
  refine va_putF (D := (dC, dI)) (ci := 4) (v := .ref q_4) (ty := .object "CommunityLevels$Groups") (C := RX4) (T := TX4) (N := 7) hx hb hts i_4 tyX4 tyX4_ok nmX4 hown hK hP hD hS 0 rfl rfl 1 (by decide) k_14 (fun _ h9 => h9) rfl hin rfl (by decide +kernel) rfl rfl (Nat.le_of_ble_eq_true rfl) dX4_init_23 (fun H locs hP hD hS => ?_)
  have hP : va_P (dC, dI) vwCl [(h, .inr (4, [.ref q_1, .ref q_4, .null, .null, .null, .null, .null])), (q_1, .inr (0, [.ref (u_3 0), .ref (u_3 1), .int 1, .int 0])), ((u_3 0), .inl (cI, 1600, .inl Zi)), ((u_3 1), .inl (cI, 40, .inl Zi)), (q_4, .inr (1, [.ref (u_6 0), .ref (u_6 1), .ref (u_6 2), .ref (u_6 3), .ref (u_6 4)])), ((u_6 0), .inl (cI, 40, .inl Zi)), ((u_6 1), .inl (cI, 40, .inl Zi)), ((u_6 2), .inl (cI, 40, .inl Zi)), ((u_6 3), .inl (cI, 40, .inl Zi)), ((u_6 4), .inl (cI, 40, .inl Zi))] H := hP
  have hD : va_D A [(h, .inr (4, [.ref q_1, .ref q_4, .null, .null, .null, .null, .null])), (q_1, .inr (0, [.ref (u_3 0), .ref (u_3 1), .int 1, .int 0])), ((u_3 0), .inl (cI, 1600, .inl Zi)), ((u_3 1), .inl (cI, 40, .inl Zi)), (q_4, .inr (1, [.ref (u_6 0), .ref (u_6 1), .ref (u_6 2), .ref (u_6 3), .ref (u_6 4)])), ((u_6 0), .inl (cI, 40, .inl Zi)), ((u_6 1), .inl (cI, 40, .inl Zi)), ((u_6 2), .inl (cI, 40, .inl Zi)), ((u_6 3), .inl (cI, 40, .inl Zi)), ((u_6 4), .inl (cI, 40, .inl Zi))] := hD
  refine lv_aload_n hx hb dX4_init_26 rfl (lv_at hl 0 rfl) ?_
  refine va_new (ci := 2) (fs := [.null, .null, .null, .int 0]) (C := RX2) (T := TX2) (N := 4) hx hb hts i_2 tyX2 tyX2_ok hown k_15 k_16 k_17 hK hP hD hS hA rfl (by decide) (Nat.le_of_ble_eq_true rfl) (Nat.le_of_ble_eq_true rfl) dX4_init_27 (fun q_7 H hP hD hS => ?_)
  refine W.widen (k := 10) (n := 1853) (by decide) (by decide) ?_
  have hP : va_P (dC, dI) vwCl [(h, .inr (4, [.ref q_1, .ref q_4, .null, .null, .null, .null, .null])), (q_1, .inr (0, [.ref (u_3 0), .ref (u_3 1), .int 1, .int 0])), ((u_3 0), .inl (cI, 1600, .inl Zi)), ((u_3 1), .inl (cI, 40, .inl Zi)), (q_4, .inr (1, [.ref (u_6 0), .ref (u_6 1), .ref (u_6 2), .ref (u_6 3), .ref (u_6 4)])), ((u_6 0), .inl (cI, 40, .inl Zi)), ((u_6 1), .inl (cI, 40, .inl Zi)), ((u_6 2), .inl (cI, 40, .inl Zi)), ((u_6 3), .inl (cI, 40, .inl Zi)), ((u_6 4), .inl (cI, 40, .inl Zi)), (q_7, .inr (2, [.null, .null, .null, .int 0]))] H := hP
  have hD : va_D A [(h, .inr (4, [.ref q_1, .ref q_4, .null, .null, .null, .null, .null])), (q_1, .inr (0, [.ref (u_3 0), .ref (u_3 1), .int 1, .int 0])), ((u_3 0), .inl (cI, 1600, .inl Zi)), ((u_3 1), .inl (cI, 40, .inl Zi)), (q_4, .inr (1, [.ref (u_6 0), .ref (u_6 1), .ref (u_6 2), .ref (u_6 3), .ref (u_6 4)])), ((u_6 0), .inl (cI, 40, .inl Zi)), ((u_6 1), .inl (cI, 40, .inl Zi)), ((u_6 2), .inl (cI, 40, .inl Zi)), ((u_6 3), .inl (cI, 40, .inl Zi)), ((u_6 4), .inl (cI, 40, .inl Zi)), (q_7, .inr (2, [.null, .null, .null, .int 0]))] := hD
  refine lv_dup hx hb dX4_init_30 rfl ?_
  have hPc := hP.sub (ws' := [(q_7, .inr (2, [.null, .null, .null, .int 0]))]) [10] rfl
  have hDc := hD.sub (ws' := [(q_7, .inr (2, [.null, .null, .null, .int 0]))]) [10] (by decide) rfl
  have hFc := va_free (wc := [(q_7, .inr (2, [.null, .null, .null, .int 0]))]) hD hS hA [10] rfl
  refine va_callv (va_runI (As := []) (rest := [.ref q_7, .ref h]) ⟨hx, hb, hml, hown, hts⟩ (c_X2_init l dC dI cI cJ q_7 H.size) (cwI 0 hts gX4_init_X2_init rfl rfl rfl k_17 k_18 k_19 rfl (by decide +kernel) ⟨Nat.le_of_ble_eq_true rfl, Nat.le_of_ble_eq_true rfl⟩) ⟨fun a U g mk q => by obtain ⟨q0, q1, qP, qK, qD⟩ := q; exact ⟨q0, q1, qP, va_K.moved (u := U) (U := U.calling g mk a) (Vm.Alike.refl U.vm) qK, qD⟩, fun U hU hW => ⟨rfl, by rw [hU], by rw [hU]; exact hPc, va_K.moved hW.alike hK, hDc.weaken (fun _ _ _ _ => trivial)⟩⟩ rfl rfl hl.1 rfl (lv_room (Nat.le_of_ble_eq_true rfl)) dX4_init_31 ⟨Nat.le_of_ble_eq_true rfl, Nat.le_of_ble_eq_true rfl⟩) hS (fun q _ h => hFc q h) hFc (fun u_9 t H1 locs ht hvm hw hB hz1 hk1 hS => ?_)
  obtain ⟨hP1, hD1⟩ := hB
  rw [ht] at hP1
  obtain ⟨hP, hD⟩ := va_join (wr := [(h, .inr (4, [.ref q_1, .ref q_4, .null, .null, .null, .null, .null])), (q_1, .inr (0, [.ref (u_3 0), .ref (u_3 1), .int 1, .int 0])), ((u_3 0), .inl (cI, 1600, .inl Zi)), ((u_3 1), .inl (cI, 40, .inl Zi)), (q_4, .inr (1, [.ref (u_6 0), .ref (u_6 1), .ref (u_6 2), .ref (u_6 3), .ref (u_6 4)])), ((u_6 0), .inl (cI, 40, .inl Zi)), ((u_6 1), .inl (cI, 40, .inl Zi)), ((u_6 2), .inl (cI, 40, .inl Zi)), ((u_6 3), .inl (cI, 40, .inl Zi)), ((u_6 4), .inl (cI, 40, .inl Zi))]) (w1 := [(q_7, .inr (2, [.ref (u_9 0), .ref (u_9 1), .ref (u_9 2), .int 0])), ((u_9 0), .inl (cI, 160, .inl Zi)), ((u_9 1), .inl (cI, 1600, .inl Zi)), ((u_9 2), .inl (cJ, 40, .inr (.inl Zl)))]) hP hD [10] [0, 1, 2, 3, 4, 5, 6, 7, 8, 9] rfl rfl (by decide) (by decide) hk1 hFc hP1 hD1
  generalize H1 = H at hP hS ⊢
  have hP : va_P (dC, dI) vwCl [(h, .inr (4, [.ref q_1, .ref q_4, .null, .null, .null, .null, .null])), (q_1, .inr (0, [.ref (u_3 0), .ref (u_3 1), .int 1, .int 0])), ((u_3 0), .inl (cI, 1600, .inl Zi)), ((u_3 1), .inl (cI, 40, .inl Zi)), (q_4, .inr (1, [.ref (u_6 0), .ref (u_6 1), .ref (u_6 2), .ref (u_6 3), .ref (u_6 4)])), ((u_6 0), .inl (cI, 40, .inl Zi)), ((u_6 1), .inl (cI, 40, .inl Zi)), ((u_6 2), .inl (cI, 40, .inl Zi)), ((u_6 3), .inl (cI, 40, .inl Zi)), ((u_6 4), .inl (cI, 40, .inl Zi)), (q_7, .inr (2, [.ref (u_9 0), .ref (u_9 1), .ref (u_9 2), .int 0])), ((u_9 0), .inl (cI, 160, .inl Zi)), ((u_9 1), .inl (cI, 1600, .inl Zi)), ((u_9 2), .inl (cJ, 40, .inr (.inl Zl)))] H := hP
  have hD : va_D A [(h, .inr (4, [.ref q_1, .ref q_4, .null, .null, .null, .null, .null])), (q_1, .inr (0, [.ref (u_3 0), .ref (u_3 1), .int 1, .int 0])), ((u_3 0), .inl (cI, 1600, .inl Zi)), ((u_3 1), .inl (cI, 40, .inl Zi)), (q_4, .inr (1, [.ref (u_6 0), .ref (u_6 1), .ref (u_6 2), .ref (u_6 3), .ref (u_6 4)])), ((u_6 0), .inl (cI, 40, .inl Zi)), ((u_6 1), .inl (cI, 40, .inl Zi)), ((u_6 2), .inl (cI, 40, .inl Zi)), ((u_6 3), .inl (cI, 40, .inl Zi)), ((u_6 4), .inl (cI, 40, .inl Zi)), (q_7, .inr (2, [.ref (u_9 0), .ref (u_9 1), .ref (u_9 2), .int 0])), ((u_9 0), .inl (cI, 160, .inl Zi)), ((u_9 1), .inl (cI, 1600, .inl Zi)), ((u_9 2), .inl (cJ, 40, .inr (.inl Zl)))] := hD
  refine W.widen (k := 13) (n := 3653) (by decide) (by decide) ?_
  refine va_putF (D := (dC, dI)) (ci := 4) (v := .ref q_7) (ty := .object "CommunityLevels$LevelTable") (C := RX4) (T := TX4) (N := 7) hx hb hts i_4 tyX4 tyX4_ok nmX4 hown hK hP hD hS 0 rfl rfl 2 (by decide) k_20 (fun _ h9 => h9) rfl hin rfl (by decide +kernel) rfl rfl (Nat.le_of_ble_eq_true rfl) dX4_init_34 (fun H locs hP hD hS => ?_)
  have hP : va_P (dC, dI) vwCl [(h, .inr (4, [.ref q_1, .ref q_4, .ref q_7, .null, .null, .null, .null])), (q_1, .inr (0, [.ref (u_3 0), .ref (u_3 1), .int 1, .int 0])), ((u_3 0), .inl (cI, 1600, .inl Zi)), ((u_3 1), .inl (cI, 40, .inl Zi)), (q_4, .inr (1, [.ref (u_6 0), .ref (u_6 1), .ref (u_6 2), .ref (u_6 3), .ref (u_6 4)])), ((u_6 0), .inl (cI, 40, .inl Zi)), ((u_6 1), .inl (cI, 40, .inl Zi)), ((u_6 2), .inl (cI, 40, .inl Zi)), ((u_6 3), .inl (cI, 40, .inl Zi)), ((u_6 4), .inl (cI, 40, .inl Zi)), (q_7, .inr (2, [.ref (u_9 0), .ref (u_9 1), .ref (u_9 2), .int 0])), ((u_9 0), .inl (cI, 160, .inl Zi)), ((u_9 1), .inl (cI, 1600, .inl Zi)), ((u_9 2), .inl (cJ, 40, .inr (.inl Zl)))] H := hP
  have hD : va_D A [(h, .inr (4, [.ref q_1, .ref q_4, .ref q_7, .null, .null, .null, .null])), (q_1, .inr (0, [.ref (u_3 0), .ref (u_3 1), .int 1, .int 0])), ((u_3 0), .inl (cI, 1600, .inl Zi)), ((u_3 1), .inl (cI, 40, .inl Zi)), (q_4, .inr (1, [.ref (u_6 0), .ref (u_6 1), .ref (u_6 2), .ref (u_6 3), .ref (u_6 4)])), ((u_6 0), .inl (cI, 40, .inl Zi)), ((u_6 1), .inl (cI, 40, .inl Zi)), ((u_6 2), .inl (cI, 40, .inl Zi)), ((u_6 3), .inl (cI, 40, .inl Zi)), ((u_6 4), .inl (cI, 40, .inl Zi)), (q_7, .inr (2, [.ref (u_9 0), .ref (u_9 1), .ref (u_9 2), .int 0])), ((u_9 0), .inl (cI, 160, .inl Zi)), ((u_9 1), .inl (cI, 1600, .inl Zi)), ((u_9 2), .inl (cJ, 40, .inr (.inl Zl)))] := hD
  refine lv_aload_n hx hb dX4_init_37 rfl (lv_at hl 0 rfl) ?_
  refine va_new (ci := 3) (fs := [.null, .null, .int 0]) (C := RX3) (T := TX3) (N := 3) hx hb hts i_3 tyX3 tyX3_ok hown k_21 k_22 k_23 hK hP hD hS hA rfl (by decide) (Nat.le_of_ble_eq_true rfl) (Nat.le_of_ble_eq_true rfl) dX4_init_38 (fun q_10 H hP hD hS => ?_)
  refine W.widen (k := 14) (n := 3656) (by decide) (by decide) ?_
  have hP : va_P (dC, dI) vwCl [(h, .inr (4, [.ref q_1, .ref q_4, .ref q_7, .null, .null, .null, .null])), (q_1, .inr (0, [.ref (u_3 0), .ref (u_3 1), .int 1, .int 0])), ((u_3 0), .inl (cI, 1600, .inl Zi)), ((u_3 1), .inl (cI, 40, .inl Zi)), (q_4, .inr (1, [.ref (u_6 0), .ref (u_6 1), .ref (u_6 2), .ref (u_6 3), .ref (u_6 4)])), ((u_6 0), .inl (cI, 40, .inl Zi)), ((u_6 1), .inl (cI, 40, .inl Zi)), ((u_6 2), .inl (cI, 40, .inl Zi)), ((u_6 3), .inl (cI, 40, .inl Zi)), ((u_6 4), .inl (cI, 40, .inl Zi)), (q_7, .inr (2, [.ref (u_9 0), .ref (u_9 1), .ref (u_9 2), .int 0])), ((u_9 0), .inl (cI, 160, .inl Zi)), ((u_9 1), .inl (cI, 1600, .inl Zi)), ((u_9 2), .inl (cJ, 40, .inr (.inl Zl))), (q_10, .inr (3, [.null, .null, .int 0]))] H := hP
  have hD : va_D A [(h, .inr (4, [.ref q_1, .ref q_4, .ref q_7, .null, .null, .null, .null])), (q_1, .inr (0, [.ref (u_3 0), .ref (u_3 1), .int 1, .int 0])), ((u_3 0), .inl (cI, 1600, .inl Zi)), ((u_3 1), .inl (cI, 40, .inl Zi)), (q_4, .inr (1, [.ref (u_6 0), .ref (u_6 1), .ref (u_6 2), .ref (u_6 3), .ref (u_6 4)])), ((u_6 0), .inl (cI, 40, .inl Zi)), ((u_6 1), .inl (cI, 40, .inl Zi)), ((u_6 2), .inl (cI, 40, .inl Zi)), ((u_6 3), .inl (cI, 40, .inl Zi)), ((u_6 4), .inl (cI, 40, .inl Zi)), (q_7, .inr (2, [.ref (u_9 0), .ref (u_9 1), .ref (u_9 2), .int 0])), ((u_9 0), .inl (cI, 160, .inl Zi)), ((u_9 1), .inl (cI, 1600, .inl Zi)), ((u_9 2), .inl (cJ, 40, .inr (.inl Zl))), (q_10, .inr (3, [.null, .null, .int 0]))] := hD
  refine lv_dup hx hb dX4_init_41 rfl ?_
  have hPc := hP.sub (ws' := [(q_10, .inr (3, [.null, .null, .int 0]))]) [14] rfl
  have hDc := hD.sub (ws' := [(q_10, .inr (3, [.null, .null, .int 0]))]) [14] (by decide) rfl
  have hFc := va_free (wc := [(q_10, .inr (3, [.null, .null, .int 0]))]) hD hS hA [14] rfl
  refine va_callv (va_runI (As := []) (rest := [.ref q_10, .ref h]) ⟨hx, hb, hml, hown, hts⟩ (c_X3_init l dC dI cI cJ q_10 H.size) (cwI 0 hts gX4_init_X3_init rfl rfl rfl k_23 k_24 k_25 rfl (by decide +kernel) ⟨Nat.le_of_ble_eq_true rfl, Nat.le_of_ble_eq_true rfl⟩) ⟨fun a U g mk q => by obtain ⟨q0, q1, qP, qK, qD⟩ := q; exact ⟨q0, q1, qP, va_K.moved (u := U) (U := U.calling g mk a) (Vm.Alike.refl U.vm) qK, qD⟩, fun U hU hW => ⟨rfl, by rw [hU], by rw [hU]; exact hPc, va_K.moved hW.alike hK, hDc.weaken (fun _ _ _ _ => trivial)⟩⟩ rfl rfl hl.1 rfl (lv_room (Nat.le_of_ble_eq_true rfl)) dX4_init_42 ⟨Nat.le_of_ble_eq_true rfl, Nat.le_of_ble_eq_true rfl⟩) hS (fun q _ h => hFc q h) hFc (fun u_12 t H1 locs ht hvm hw hB hz1 hk1 hS => ?_)
  obtain ⟨hP1, hD1⟩ := hB
  rw [ht] at hP1
  obtain ⟨hP, hD⟩ := va_join (wr := [(h, .inr (4, [.ref q_1, .ref q_4, .ref q_7, .null, .null, .null, .null])), (q_1, .inr (0, [.ref (u_3 0), .ref (u_3 1), .int 1, .int 0])), ((u_3 0), .inl (cI, 1600, .inl Zi)), ((u_3 1), .inl (cI, 40, .inl Zi)), (q_4, .inr (1, [.ref (u_6 0), .ref (u_6 1), .ref (u_6 2), .ref (u_6 3), .ref (u_6 4)])), ((u_6 0), .inl (cI, 40, .inl Zi)), ((u_6 1), .inl (cI, 40, .inl Zi)), ((u_6 2), .inl (cI, 40, .inl Zi)), ((u_6 3), .inl (cI, 40, .inl Zi)), ((u_6 4), .inl (cI, 40, .inl Zi)), (q_7, .inr (2, [.ref (u_9 0), .ref (u_9 1), .ref (u_9 2), .int 0])), ((u_9 0), .inl (cI, 160, .inl Zi)), ((u_9 1), .inl (cI, 1600, .inl Zi)), ((u_9 2), .inl (cJ, 40, .inr (.inl Zl)))]) (w1 := [(q_10, .inr (3, [.ref (u_12 0), .ref (u_12 1), .int 0])), ((u_12 0), .inl (cI, 1600, .inl Zi)), ((u_12 1), .inl (cJ, 400, .inr (.inl Zl)))]) hP hD [14] [0, 1, 2, 3, 4, 5, 6, 7, 8, 9, 10, 11, 12, 13] rfl rfl (by decide) (by decide) hk1 hFc hP1 hD1
  generalize H1 = H at hP hS ⊢
  have hP : va_P (dC, dI) vwCl [(h, .inr (4, [.ref q_1, .ref q_4, .ref q_7, .null, .null, .null, .null])), (q_1, .inr (0, [.ref (u_3 0), .ref (u_3 1), .int 1, .int 0])), ((u_3 0), .inl (cI, 1600, .inl Zi)), ((u_3 1), .inl (cI, 40, .inl Zi)), (q_4, .inr (1, [.ref (u_6 0), .ref (u_6 1), .ref (u_6 2), .ref (u_6 3), .ref (u_6 4)])), ((u_6 0), .inl (cI, 40, .inl Zi)), ((u_6 1), .inl (cI, 40, .inl Zi)), ((u_6 2), .inl (cI, 40, .inl Zi)), ((u_6 3), .inl (cI, 40, .inl Zi)), ((u_6 4), .inl (cI, 40, .inl Zi)), (q_7, .inr (2, [.ref (u_9 0), .ref (u_9 1), .ref (u_9 2), .int 0])), ((u_9 0), .inl (cI, 160, .inl Zi)), ((u_9 1), .inl (cI, 1600, .inl Zi)), ((u_9 2), .inl (cJ, 40, .inr (.inl Zl))), (q_10, .inr (3, [.ref (u_12 0), .ref (u_12 1), .int 0])), ((u_12 0), .inl (cI, 1600, .inl Zi)), ((u_12 1), .inl (cJ, 400, .inr (.inl Zl)))] H := hP
  have hD : va_D A [(h, .inr (4, [.ref q_1, .ref q_4, .ref q_7, .null, .null, .null, .null])), (q_1, .inr (0, [.ref (u_3 0), .ref (u_3 1), .int 1, .int 0])), ((u_3 0), .inl (cI, 1600, .inl Zi)), ((u_3 1), .inl (cI, 40, .inl Zi)), (q_4, .inr (1, [.ref (u_6 0), .ref (u_6 1), .ref (u_6 2), .ref (u_6 3), .ref (u_6 4)])), ((u_6 0), .inl (cI, 40, .inl Zi)), ((u_6 1), .inl (cI, 40, .inl Zi)), ((u_6 2), .inl (cI, 40, .inl Zi)), ((u_6 3), .inl (cI, 40, .inl Zi)), ((u_6 4), .inl (cI, 40, .inl Zi)), (q_7, .inr (2, [.ref (u_9 0), .ref (u_9 1), .ref (u_9 2), .int 0])), ((u_9 0), .inl (cI, 160, .inl Zi)), ((u_9 1), .inl (cI, 1600, .inl Zi)), ((u_9 2), .inl (cJ, 40, .inr (.inl Zl))), (q_10, .inr (3, [.ref (u_12 0), .ref (u_12 1), .int 0])), ((u_12 0), .inl (cI, 1600, .inl Zi)), ((u_12 1), .inl (cJ, 400, .inr (.inl Zl)))] := hD
  refine W.widen (k := 16) (n := 5656) (by decide) (by decide) ?_
  refine va_putF (D := (dC, dI)) (ci := 4) (v := .ref q_10) (ty := .object "CommunityLevels$MoveLog") (C := RX4) (T := TX4) (N := 7) hx hb hts i_4 tyX4 tyX4_ok nmX4 hown hK hP hD hS 0 rfl rfl 3 (by decide) k_26 (fun _ h9 => h9) rfl hin rfl (by decide +kernel) rfl rfl (Nat.le_of_ble_eq_true rfl) dX4_init_45 (fun H locs hP hD hS => ?_)
  have hP : va_P (dC, dI) vwCl [(h, .inr (4, [.ref q_1, .ref q_4, .ref q_7, .ref q_10, .null, .null, .null])), (q_1, .inr (0, [.ref (u_3 0), .ref (u_3 1), .int 1, .int 0])), ((u_3 0), .inl (cI, 1600, .inl Zi)), ((u_3 1), .inl (cI, 40, .inl Zi)), (q_4, .inr (1, [.ref (u_6 0), .ref (u_6 1), .ref (u_6 2), .ref (u_6 3), .ref (u_6 4)])), ((u_6 0), .inl (cI, 40, .inl Zi)), ((u_6 1), .inl (cI, 40, .inl Zi)), ((u_6 2), .inl (cI, 40, .inl Zi)), ((u_6 3), .inl (cI, 40, .inl Zi)), ((u_6 4), .inl (cI, 40, .inl Zi)), (q_7, .inr (2, [.ref (u_9 0), .ref (u_9 1), .ref (u_9 2), .int 0])), ((u_9 0), .inl (cI, 160, .inl Zi)), ((u_9 1), .inl (cI, 1600, .inl Zi)), ((u_9 2), .inl (cJ, 40, .inr (.inl Zl))), (q_10, .inr (3, [.ref (u_12 0), .ref (u_12 1), .int 0])), ((u_12 0), .inl (cI, 1600, .inl Zi)), ((u_12 1), .inl (cJ, 400, .inr (.inl Zl)))] H := hP
  have hD : va_D A [(h, .inr (4, [.ref q_1, .ref q_4, .ref q_7, .ref q_10, .null, .null, .null])), (q_1, .inr (0, [.ref (u_3 0), .ref (u_3 1), .int 1, .int 0])), ((u_3 0), .inl (cI, 1600, .inl Zi)), ((u_3 1), .inl (cI, 40, .inl Zi)), (q_4, .inr (1, [.ref (u_6 0), .ref (u_6 1), .ref (u_6 2), .ref (u_6 3), .ref (u_6 4)])), ((u_6 0), .inl (cI, 40, .inl Zi)), ((u_6 1), .inl (cI, 40, .inl Zi)), ((u_6 2), .inl (cI, 40, .inl Zi)), ((u_6 3), .inl (cI, 40, .inl Zi)), ((u_6 4), .inl (cI, 40, .inl Zi)), (q_7, .inr (2, [.ref (u_9 0), .ref (u_9 1), .ref (u_9 2), .int 0])), ((u_9 0), .inl (cI, 160, .inl Zi)), ((u_9 1), .inl (cI, 1600, .inl Zi)), ((u_9 2), .inl (cJ, 40, .inr (.inl Zl))), (q_10, .inr (3, [.ref (u_12 0), .ref (u_12 1), .int 0])), ((u_12 0), .inl (cI, 1600, .inl Zi)), ((u_12 1), .inl (cJ, 400, .inr (.inl Zl)))] := hD
  refine lv_aload_n hx hb dX4_init_48 rfl (lv_at hl 0 rfl) ?_
  refine va_new (ci := 0) (fs := [.null, .null, .int 0, .int 0]) (C := RX0) (T := TX0) (N := 4) hx hb hts i_0 tyX0 tyX0_ok hown k_3 k_4 k_5 hK hP hD hS hA rfl (by decide) (Nat.le_of_ble_eq_true rfl) (Nat.le_of_ble_eq_true rfl) dX4_init_49 (fun q_13 H hP hD hS => ?_)
  refine W.widen (k := 17) (n := 5660) (by decide) (by decide) ?_
  have hP : va_P (dC, dI) vwCl [(h, .inr (4, [.ref q_1, .ref q_4, .ref q_7, .ref q_10, .null, .null, .null])), (q_1, .inr (0, [.ref (u_3 0), .ref (u_3 1), .int 1, .int 0])), ((u_3 0), .inl (cI, 1600, .inl Zi)), ((u_3 1), .inl (cI, 40, .inl Zi)), (q_4, .inr (1, [.ref (u_6 0), .ref (u_6 1), .ref (u_6 2), .ref (u_6 3), .ref (u_6 4)])), ((u_6 0), .inl (cI, 40, .inl Zi)), ((u_6 1), .inl (cI, 40, .inl Zi)), ((u_6 2), .inl (cI, 40, .inl Zi)), ((u_6 3), .inl (cI, 40, .inl Zi)), ((u_6 4), .inl (cI, 40, .inl Zi)), (q_7, .inr (2, [.ref (u_9 0), .ref (u_9 1), .ref (u_9 2), .int 0])), ((u_9 0), .inl (cI, 160, .inl Zi)), ((u_9 1), .inl (cI, 1600, .inl Zi)), ((u_9 2), .inl (cJ, 40, .inr (.inl Zl))), (q_10, .inr (3, [.ref (u_12 0), .ref (u_12 1), .int 0])), ((u_12 0), .inl (cI, 1600, .inl Zi)), ((u_12 1), .inl (cJ, 400, .inr (.inl Zl))), (q_13, .inr (0, [.null, .null, .int 0, .int 0]))] H := hP
  have hD : va_D A [(h, .inr (4, [.ref q_1, .ref q_4, .ref q_7, .ref q_10, .null, .null, .null])), (q_1, .inr (0, [.ref (u_3 0), .ref (u_3 1), .int 1, .int 0])), ((u_3 0), .inl (cI, 1600, .inl Zi)), ((u_3 1), .inl (cI, 40, .inl Zi)), (q_4, .inr (1, [.ref (u_6 0), .ref (u_6 1), .ref (u_6 2), .ref (u_6 3), .ref (u_6 4)])), ((u_6 0), .inl (cI, 40, .inl Zi)), ((u_6 1), .inl (cI, 40, .inl Zi)), ((u_6 2), .inl (cI, 40, .inl Zi)), ((u_6 3), .inl (cI, 40, .inl Zi)), ((u_6 4), .inl (cI, 40, .inl Zi)), (q_7, .inr (2, [.ref (u_9 0), .ref (u_9 1), .ref (u_9 2), .int 0])), ((u_9 0), .inl (cI, 160, .inl Zi)), ((u_9 1), .inl (cI, 1600, .inl Zi)), ((u_9 2), .inl (cJ, 40, .inr (.inl Zl))), (q_10, .inr (3, [.ref (u_12 0), .ref (u_12 1), .int 0])), ((u_12 0), .inl (cI, 1600, .inl Zi)), ((u_12 1), .inl (cJ, 400, .inr (.inl Zl))), (q_13, .inr (0, [.null, .null, .int 0, .int 0]))] := hD
  refine lv_dup hx hb dX4_init_52 rfl ?_
  have hPc := hP.sub (ws' := [(q_13, .inr (0, [.null, .null, .int 0, .int 0]))]) [17] rfl
  have hDc := hD.sub (ws' := [(q_13, .inr (0, [.null, .null, .int 0, .int 0]))]) [17] (by decide) rfl
  have hFc := va_free (wc := [(q_13, .inr (0, [.null, .null, .int 0, .int 0]))]) hD hS hA [17] rfl
  refine va_callv (va_runI (As := []) (rest := [.ref q_13, .ref h]) ⟨hx, hb, hml, hown, hts⟩ (c_X0_init l dC dI cI cJ q_13 H.size) (cwI 0 hts gX4_init_X0_init rfl rfl rfl k_5 k_6 k_7 rfl (by decide +kernel) ⟨Nat.le_of_ble_eq_true rfl, Nat.le_of_ble_eq_true rfl⟩) ⟨fun a U g mk q => by obtain ⟨q0, q1, qP, qK, qD⟩ := q; exact ⟨q0, q1, qP, va_K.moved (u := U) (U := U.calling g mk a) (Vm.Alike.refl U.vm) qK, qD⟩, fun U hU hW => ⟨rfl, by rw [hU], by rw [hU]; exact hPc, va_K.moved hW.alike hK, hDc.weaken (fun _ _ _ _ => trivial)⟩⟩ rfl rfl hl.1 rfl (lv_room (Nat.le_of_ble_eq_true rfl)) dX4_init_53 ⟨Nat.le_of_ble_eq_true rfl, Nat.le_of_ble_eq_true rfl⟩) hS (fun q _ h => hFc q h) hFc (fun u_15 t H1 locs ht hvm hw hB hz1 hk1 hS => ?_)
  obtain ⟨hP1, hD1⟩ := hB
  rw [ht] at hP1
  obtain ⟨hP, hD⟩ := va_join (wr := [(h, .inr (4, [.ref q_1, .ref q_4, .ref q_7, .ref q_10, .null, .null, .null])), (q_1, .inr (0, [.ref (u_3 0), .ref (u_3 1), .int 1, .int 0])), ((u_3 0), .inl (cI, 1600, .inl Zi)), ((u_3 1), .inl (cI, 40, .inl Zi)), (q_4, .inr (1, [.ref (u_6 0), .ref (u_6 1), .ref (u_6 2), .ref (u_6 3), .ref (u_6 4)])), ((u_6 0), .inl (cI, 40, .inl Zi)), ((u_6 1), .inl (cI, 40, .inl Zi)), ((u_6 2), .inl (cI, 40, .inl Zi)), ((u_6 3), .inl (cI, 40, .inl Zi)), ((u_6 4), .inl (cI, 40, .inl Zi)), (q_7, .inr (2, [.ref (u_9 0), .ref (u_9 1), .ref (u_9 2), .int 0])), ((u_9 0), .inl (cI, 160, .inl Zi)), ((u_9 1), .inl (cI, 1600, .inl Zi)), ((u_9 2), .inl (cJ, 40, .inr (.inl Zl))), (q_10, .inr (3, [.ref (u_12 0), .ref (u_12 1), .int 0])), ((u_12 0), .inl (cI, 1600, .inl Zi)), ((u_12 1), .inl (cJ, 400, .inr (.inl Zl)))]) (w1 := [(q_13, .inr (0, [.ref (u_15 0), .ref (u_15 1), .int 1, .int 0])), ((u_15 0), .inl (cI, 1600, .inl Zi)), ((u_15 1), .inl (cI, 40, .inl Zi))]) hP hD [17] [0, 1, 2, 3, 4, 5, 6, 7, 8, 9, 10, 11, 12, 13, 14, 15, 16] rfl rfl (by decide) (by decide) hk1 hFc hP1 hD1
  generalize H1 = H at hP hS ⊢
  have hP : va_P (dC, dI) vwCl [(h, .inr (4, [.ref q_1, .ref q_4, .ref q_7, .ref q_10, .null, .null, .null])), (q_1, .inr (0, [.ref (u_3 0), .ref (u_3 1), .int 1, .int 0])), ((u_3 0), .inl (cI, 1600, .inl Zi)), ((u_3 1), .inl (cI, 40, .inl Zi)), (q_4, .inr (1, [.ref (u_6 0), .ref (u_6 1), .ref (u_6 2), .ref (u_6 3), .ref (u_6 4)])), ((u_6 0), .inl (cI, 40, .inl Zi)), ((u_6 1), .inl (cI, 40, .inl Zi)), ((u_6 2), .inl (cI, 40, .inl Zi)), ((u_6 3), .inl (cI, 40, .inl Zi)), ((u_6 4), .inl (cI, 40, .inl Zi)), (q_7, .inr (2, [.ref (u_9 0), .ref (u_9 1), .ref (u_9 2), .int 0])), ((u_9 0), .inl (cI, 160, .inl Zi)), ((u_9 1), .inl (cI, 1600, .inl Zi)), ((u_9 2), .inl (cJ, 40, .inr (.inl Zl))), (q_10, .inr (3, [.ref (u_12 0), .ref (u_12 1), .int 0])), ((u_12 0), .inl (cI, 1600, .inl Zi)), ((u_12 1), .inl (cJ, 400, .inr (.inl Zl))), (q_13, .inr (0, [.ref (u_15 0), .ref (u_15 1), .int 1, .int 0])), ((u_15 0), .inl (cI, 1600, .inl Zi)), ((u_15 1), .inl (cI, 40, .inl Zi))] H := hP
  have hD : va_D A [(h, .inr (4, [.ref q_1, .ref q_4, .ref q_7, .ref q_10, .null, .null, .null])), (q_1, .inr (0, [.ref (u_3 0), .ref (u_3 1), .int 1, .int 0])), ((u_3 0), .inl (cI, 1600, .inl Zi)), ((u_3 1), .inl (cI, 40, .inl Zi)), (q_4, .inr (1, [.ref (u_6 0), .ref (u_6 1), .ref (u_6 2), .ref (u_6 3), .ref (u_6 4)])), ((u_6 0), .inl (cI, 40, .inl Zi)), ((u_6 1), .inl (cI, 40, .inl Zi)), ((u_6 2), .inl (cI, 40, .inl Zi)), ((u_6 3), .inl (cI, 40, .inl Zi)), ((u_6 4), .inl (cI, 40, .inl Zi)), (q_7, .inr (2, [.ref (u_9 0), .ref (u_9 1), .ref (u_9 2), .int 0])), ((u_9 0), .inl (cI, 160, .inl Zi)), ((u_9 1), .inl (cI, 1600, .inl Zi)), ((u_9 2), .inl (cJ, 40, .inr (.inl Zl))), (q_10, .inr (3, [.ref (u_12 0), .ref (u_12 1), .int 0])), ((u_12 0), .inl (cI, 1600, .inl Zi)), ((u_12 1), .inl (cJ, 400, .inr (.inl Zl))), (q_13, .inr (0, [.ref (u_15 0), .ref (u_15 1), .int 1, .int 0])), ((u_15 0), .inl (cI, 1600, .inl Zi)), ((u_15 1), .inl (cI, 40, .inl Zi))] := hD
  refine W.widen (k := 19) (n := 7300) (by decide) (by decide) ?_
  refine va_putF (D := (dC, dI)) (ci := 4) (v := .ref q_13) (ty := .object "CommunityLevels$Graph") (C := RX4) (T := TX4) (N := 7) hx hb hts i_4 tyX4 tyX4_ok nmX4 hown hK hP hD hS 0 rfl rfl 4 (by decide) k_27 (fun _ h9 => h9) rfl hin rfl (by decide +kernel) rfl rfl (Nat.le_of_ble_eq_true rfl) dX4_init_56 (fun H locs hP hD hS => ?_)
  have hP : va_P (dC, dI) vwCl [(h, .inr (4, [.ref q_1, .ref q_4, .ref q_7, .ref q_10, .ref q_13, .null, .null])), (q_1, .inr (0, [.ref (u_3 0), .ref (u_3 1), .int 1, .int 0])), ((u_3 0), .inl (cI, 1600, .inl Zi)), ((u_3 1), .inl (cI, 40, .inl Zi)), (q_4, .inr (1, [.ref (u_6 0), .ref (u_6 1), .ref (u_6 2), .ref (u_6 3), .ref (u_6 4)])), ((u_6 0), .inl (cI, 40, .inl Zi)), ((u_6 1), .inl (cI, 40, .inl Zi)), ((u_6 2), .inl (cI, 40, .inl Zi)), ((u_6 3), .inl (cI, 40, .inl Zi)), ((u_6 4), .inl (cI, 40, .inl Zi)), (q_7, .inr (2, [.ref (u_9 0), .ref (u_9 1), .ref (u_9 2), .int 0])), ((u_9 0), .inl (cI, 160, .inl Zi)), ((u_9 1), .inl (cI, 1600, .inl Zi)), ((u_9 2), .inl (cJ, 40, .inr (.inl Zl))), (q_10, .inr (3, [.ref (u_12 0), .ref (u_12 1), .int 0])), ((u_12 0), .inl (cI, 1600, .inl Zi)), ((u_12 1), .inl (cJ, 400, .inr (.inl Zl))), (q_13, .inr (0, [.ref (u_15 0), .ref (u_15 1), .int 1, .int 0])), ((u_15 0), .inl (cI, 1600, .inl Zi)), ((u_15 1), .inl (cI, 40, .inl Zi))] H := hP
  have hD : va_D A [(h, .inr (4, [.ref q_1, .ref q_4, .ref q_7, .ref q_10, .ref q_13, .null, .null])), (q_1, .inr (0, [.ref (u_3 0), .ref (u_3 1), .int 1, .int 0])), ((u_3 0), .inl (cI, 1600, .inl Zi)), ((u_3 1), .inl (cI, 40, .inl Zi)), (q_4, .inr (1, [.ref (u_6 0), .ref (u_6 1), .ref (u_6 2), .ref (u_6 3), .ref (u_6 4)])), ((u_6 0), .inl (cI, 40, .inl Zi)), ((u_6 1), .inl (cI, 40, .inl Zi)), ((u_6 2), .inl (cI, 40, .inl Zi)), ((u_6 3), .inl (cI, 40, .inl Zi)), ((u_6 4), .inl (cI, 40, .inl Zi)), (q_7, .inr (2, [.ref (u_9 0), .ref (u_9 1), .ref (u_9 2), .int 0])), ((u_9 0), .inl (cI, 160, .inl Zi)), ((u_9 1), .inl (cI, 1600, .inl Zi)), ((u_9 2), .inl (cJ, 40, .inr (.inl Zl))), (q_10, .inr (3, [.ref (u_12 0), .ref (u_12 1), .int 0])), ((u_12 0), .inl (cI, 1600, .inl Zi)), ((u_12 1), .inl (cJ, 400, .inr (.inl Zl))), (q_13, .inr (0, [.ref (u_15 0), .ref (u_15 1), .int 1, .int 0])), ((u_15 0), .inl (cI, 1600, .inl Zi)), ((u_15 1), .inl (cI, 40, .inl Zi))] := hD
  refine lv_aload_n hx hb dX4_init_59 rfl (lv_at hl 0 rfl) ?_
  refine va_new (ci := 1) (fs := [.null, .null, .null, .null, .null]) (C := RX1) (T := TX1) (N := 5) hx hb hts i_1 tyX1 tyX1_ok hown k_9 k_10 k_11 hK hP hD hS hA rfl (by decide) (Nat.le_of_ble_eq_true rfl) (Nat.le_of_ble_eq_true rfl) dX4_init_60 (fun q_16 H hP hD hS => ?_)
  refine W.widen (k := 20) (n := 7305) (by decide) (by decide) ?_
  have hP : va_P (dC, dI) vwCl [(h, .inr (4, [.ref q_1, .ref q_4, .ref q_7, .ref q_10, .ref q_13, .null, .null])), (q_1, .inr (0, [.ref (u_3 0), .ref (u_3 1), .int 1, .int 0])), ((u_3 0), .inl (cI, 1600, .inl Zi)), ((u_3 1), .inl (cI, 40, .inl Zi)), (q_4, .inr (1, [.ref (u_6 0), .ref (u_6 1), .ref (u_6 2), .ref (u_6 3), .ref (u_6 4)])), ((u_6 0), .inl (cI, 40, .inl Zi)), ((u_6 1), .inl (cI, 40, .inl Zi)), ((u_6 2), .inl (cI, 40, .inl Zi)), ((u_6 3), .inl (cI, 40, .inl Zi)), ((u_6 4), .inl (cI, 40, .inl Zi)), (q_7, .inr (2, [.ref (u_9 0), .ref (u_9 1), .ref (u_9 2), .int 0])), ((u_9 0), .inl (cI, 160, .inl Zi)), ((u_9 1), .inl (cI, 1600, .inl Zi)), ((u_9 2), .inl (cJ, 40, .inr (.inl Zl))), (q_10, .inr (3, [.ref (u_12 0), .ref (u_12 1), .int 0])), ((u_12 0), .inl (cI, 1600, .inl Zi)), ((u_12 1), .inl (cJ, 400, .inr (.inl Zl))), (q_13, .inr (0, [.ref (u_15 0), .ref (u_15 1), .int 1, .int 0])), ((u_15 0), .inl (cI, 1600, .inl Zi)), ((u_15 1), .inl (cI, 40, .inl Zi)), (q_16, .inr (1, [.null, .null, .null, .null, .null]))] H := hP
  have hD : va_D A [(h, .inr (4, [.ref q_1, .ref q_4, .ref q_7, .ref q_10, .ref q_13, .null, .null])), (q_1, .inr (0, [.ref (u_3 0), .ref (u_3 1), .int 1, .int 0])), ((u_3 0), .inl (cI, 1600, .inl Zi)), ((u_3 1), .inl (cI, 40, .inl Zi)), (q_4, .inr (1, [.ref (u_6 0), .ref (u_6 1), .ref (u_6 2), .ref (u_6 3), .ref (u_6 4)])), ((u_6 0), .inl (cI, 40, .inl Zi)), ((u_6 1), .inl (cI, 40, .inl Zi)), ((u_6 2), .inl (cI, 40, .inl Zi)), ((u_6 3), .inl (cI, 40, .inl Zi)), ((u_6 4), .inl (cI, 40, .inl Zi)), (q_7, .inr (2, [.ref (u_9 0), .ref (u_9 1), .ref (u_9 2), .int 0])), ((u_9 0), .inl (cI, 160, .inl Zi)), ((u_9 1), .inl (cI, 1600, .inl Zi)), ((u_9 2), .inl (cJ, 40, .inr (.inl Zl))), (q_10, .inr (3, [.ref (u_12 0), .ref (u_12 1), .int 0])), ((u_12 0), .inl (cI, 1600, .inl Zi)), ((u_12 1), .inl (cJ, 400, .inr (.inl Zl))), (q_13, .inr (0, [.ref (u_15 0), .ref (u_15 1), .int 1, .int 0])), ((u_15 0), .inl (cI, 1600, .inl Zi)), ((u_15 1), .inl (cI, 40, .inl Zi)), (q_16, .inr (1, [.null, .null, .null, .null, .null]))] := hD
  refine lv_dup hx hb dX4_init_63 rfl ?_
  have hPc := hP.sub (ws' := [(q_16, .inr (1, [.null, .null, .null, .null, .null]))]) [20] rfl
  have hDc := hD.sub (ws' := [(q_16, .inr (1, [.null, .null, .null, .null, .null]))]) [20] (by decide) rfl
  have hFc := va_free (wc := [(q_16, .inr (1, [.null, .null, .null, .null, .null]))]) hD hS hA [20] rfl
  refine va_callv (va_runI (As := []) (rest := [.ref q_16, .ref h]) ⟨hx, hb, hml, hown, hts⟩ (c_X1_init l dC dI cI cJ q_16 H.size) (cwI 0 hts gX4_init_X1_init rfl rfl rfl k_11 k_12 k_13 rfl (by decide +kernel) ⟨Nat.le_of_ble_eq_true rfl, Nat.le_of_ble_eq_true rfl⟩) ⟨fun a U g mk q => by obtain ⟨q0, q1, qP, qK, qD⟩ := q; exact ⟨q0, q1, qP, va_K.moved (u := U) (U := U.calling g mk a) (Vm.Alike.refl U.vm) qK, qD⟩, fun U hU hW => ⟨rfl, by rw [hU], by rw [hU]; exact hPc, va_K.moved hW.alike hK, hDc.weaken (fun _ _ _ _ => trivial)⟩⟩ rfl rfl hl.1 rfl (lv_room (Nat.le_of_ble_eq_true rfl)) dX4_init_64 ⟨Nat.le_of_ble_eq_true rfl, Nat.le_of_ble_eq_true rfl⟩) hS (fun q _ h => hFc q h) hFc (fun u_18 t H1 locs ht hvm hw hB hz1 hk1 hS => ?_)
  obtain ⟨hP1, hD1⟩ := hB
  rw [ht] at hP1
  obtain ⟨hP, hD⟩ := va_join (wr := [(h, .inr (4, [.ref q_1, .ref q_4, .ref q_7, .ref q_10, .ref q_13, .null, .null])), (q_1, .inr (0, [.ref (u_3 0), .ref (u_3 1), .int 1, .int 0])), ((u_3 0), .inl (cI, 1600, .inl Zi)), ((u_3 1), .inl (cI, 40, .inl Zi)), (q_4, .inr (1, [.ref (u_6 0), .ref (u_6 1), .ref (u_6 2), .ref (u_6 3), .ref (u_6 4)])), ((u_6 0), .inl (cI, 40, .inl Zi)), ((u_6 1), .inl (cI, 40, .inl Zi)), ((u_6 2), .inl (cI, 40, .inl Zi)), ((u_6 3), .inl (cI, 40, .inl Zi)), ((u_6 4), .inl (cI, 40, .inl Zi)), (q_7, .inr (2, [.ref (u_9 0), .ref (u_9 1), .ref (u_9 2), .int 0])), ((u_9 0), .inl (cI, 160, .inl Zi)), ((u_9 1), .inl (cI, 1600, .inl Zi)), ((u_9 2), .inl (cJ, 40, .inr (.inl Zl))), (q_10, .inr (3, [.ref (u_12 0), .ref (u_12 1), .int 0])), ((u_12 0), .inl (cI, 1600, .inl Zi)), ((u_12 1), .inl (cJ, 400, .inr (.inl Zl))), (q_13, .inr (0, [.ref (u_15 0), .ref (u_15 1), .int 1, .int 0])), ((u_15 0), .inl (cI, 1600, .inl Zi)), ((u_15 1), .inl (cI, 40, .inl Zi))]) (w1 := [(q_16, .inr (1, [.ref (u_18 0), .ref (u_18 1), .ref (u_18 2), .ref (u_18 3), .ref (u_18 4)])), ((u_18 0), .inl (cI, 40, .inl Zi)), ((u_18 1), .inl (cI, 40, .inl Zi)), ((u_18 2), .inl (cI, 40, .inl Zi)), ((u_18 3), .inl (cI, 40, .inl Zi)), ((u_18 4), .inl (cI, 40, .inl Zi))]) hP hD [20] [0, 1, 2, 3, 4, 5, 6, 7, 8, 9, 10, 11, 12, 13, 14, 15, 16, 17, 18, 19] rfl rfl (by decide) (by decide) hk1 hFc hP1 hD1
  generalize H1 = H at hP hS ⊢
  have hP : va_P (dC, dI) vwCl [(h, .inr (4, [.ref q_1, .ref q_4, .ref q_7, .ref q_10, .ref q_13, .null, .null])), (q_1, .inr (0, [.ref (u_3 0), .ref (u_3 1), .int 1, .int 0])), ((u_3 0), .inl (cI, 1600, .inl Zi)), ((u_3 1), .inl (cI, 40, .inl Zi)), (q_4, .inr (1, [.ref (u_6 0), .ref (u_6 1), .ref (u_6 2), .ref (u_6 3), .ref (u_6 4)])), ((u_6 0), .inl (cI, 40, .inl Zi)), ((u_6 1), .inl (cI, 40, .inl Zi)), ((u_6 2), .inl (cI, 40, .inl Zi)), ((u_6 3), .inl (cI, 40, .inl Zi)), ((u_6 4), .inl (cI, 40, .inl Zi)), (q_7, .inr (2, [.ref (u_9 0), .ref (u_9 1), .ref (u_9 2), .int 0])), ((u_9 0), .inl (cI, 160, .inl Zi)), ((u_9 1), .inl (cI, 1600, .inl Zi)), ((u_9 2), .inl (cJ, 40, .inr (.inl Zl))), (q_10, .inr (3, [.ref (u_12 0), .ref (u_12 1), .int 0])), ((u_12 0), .inl (cI, 1600, .inl Zi)), ((u_12 1), .inl (cJ, 400, .inr (.inl Zl))), (q_13, .inr (0, [.ref (u_15 0), .ref (u_15 1), .int 1, .int 0])), ((u_15 0), .inl (cI, 1600, .inl Zi)), ((u_15 1), .inl (cI, 40, .inl Zi)), (q_16, .inr (1, [.ref (u_18 0), .ref (u_18 1), .ref (u_18 2), .ref (u_18 3), .ref (u_18 4)])), ((u_18 0), .inl (cI, 40, .inl Zi)), ((u_18 1), .inl (cI, 40, .inl Zi)), ((u_18 2), .inl (cI, 40, .inl Zi)), ((u_18 3), .inl (cI, 40, .inl Zi)), ((u_18 4), .inl (cI, 40, .inl Zi))] H := hP
  have hD : va_D A [(h, .inr (4, [.ref q_1, .ref q_4, .ref q_7, .ref q_10, .ref q_13, .null, .null])), (q_1, .inr (0, [.ref (u_3 0), .ref (u_3 1), .int 1, .int 0])), ((u_3 0), .inl (cI, 1600, .inl Zi)), ((u_3 1), .inl (cI, 40, .inl Zi)), (q_4, .inr (1, [.ref (u_6 0), .ref (u_6 1), .ref (u_6 2), .ref (u_6 3), .ref (u_6 4)])), ((u_6 0), .inl (cI, 40, .inl Zi)), ((u_6 1), .inl (cI, 40, .inl Zi)), ((u_6 2), .inl (cI, 40, .inl Zi)), ((u_6 3), .inl (cI, 40, .inl Zi)), ((u_6 4), .inl (cI, 40, .inl Zi)), (q_7, .inr (2, [.ref (u_9 0), .ref (u_9 1), .ref (u_9 2), .int 0])), ((u_9 0), .inl (cI, 160, .inl Zi)), ((u_9 1), .inl (cI, 1600, .inl Zi)), ((u_9 2), .inl (cJ, 40, .inr (.inl Zl))), (q_10, .inr (3, [.ref (u_12 0), .ref (u_12 1), .int 0])), ((u_12 0), .inl (cI, 1600, .inl Zi)), ((u_12 1), .inl (cJ, 400, .inr (.inl Zl))), (q_13, .inr (0, [.ref (u_15 0), .ref (u_15 1), .int 1, .int 0])), ((u_15 0), .inl (cI, 1600, .inl Zi)), ((u_15 1), .inl (cI, 40, .inl Zi)), (q_16, .inr (1, [.ref (u_18 0), .ref (u_18 1), .ref (u_18 2), .ref (u_18 3), .ref (u_18 4)])), ((u_18 0), .inl (cI, 40, .inl Zi)), ((u_18 1), .inl (cI, 40, .inl Zi)), ((u_18 2), .inl (cI, 40, .inl Zi)), ((u_18 3), .inl (cI, 40, .inl Zi)), ((u_18 4), .inl (cI, 40, .inl Zi))] := hD
  refine W.widen (k := 25) (n := 7505) (by decide) (by decide) ?_
  refine va_putF (D := (dC, dI)) (ci := 4) (v := .ref q_16) (ty := .object "CommunityLevels$Groups") (C := RX4) (T := TX4) (N := 7) hx hb hts i_4 tyX4 tyX4_ok nmX4 hown hK hP hD hS 0 rfl rfl 5 (by decide) k_28 (fun _ h9 => h9) rfl hin rfl (by decide +kernel) rfl rfl (Nat.le_of_ble_eq_true rfl) dX4_init_67 (fun H locs hP hD hS => ?_)
  have hP : va_P (dC, dI) vwCl [(h, .inr (4, [.ref q_1, .ref q_4, .ref q_7, .ref q_10, .ref q_13, .ref q_16, .null])), (q_1, .inr (0, [.ref (u_3 0), .ref (u_3 1), .int 1, .int 0])), ((u_3 0), .inl (cI, 1600, .inl Zi)), ((u_3 1), .inl (cI, 40, .inl Zi)), (q_4, .inr (1, [.ref (u_6 0), .ref (u_6 1), .ref (u_6 2), .ref (u_6 3), .ref (u_6 4)])), ((u_6 0), .inl (cI, 40, .inl Zi)), ((u_6 1), .inl (cI, 40, .inl Zi)), ((u_6 2), .inl (cI, 40, .inl Zi)), ((u_6 3), .inl (cI, 40, .inl Zi)), ((u_6 4), .inl (cI, 40, .inl Zi)), (q_7, .inr (2, [.ref (u_9 0), .ref (u_9 1), .ref (u_9 2), .int 0])), ((u_9 0), .inl (cI, 160, .inl Zi)), ((u_9 1), .inl (cI, 1600, .inl Zi)), ((u_9 2), .inl (cJ, 40, .inr (.inl Zl))), (q_10, .inr (3, [.ref (u_12 0), .ref (u_12 1), .int 0])), ((u_12 0), .inl (cI, 1600, .inl Zi)), ((u_12 1), .inl (cJ, 400, .inr (.inl Zl))), (q_13, .inr (0, [.ref (u_15 0), .ref (u_15 1), .int 1, .int 0])), ((u_15 0), .inl (cI, 1600, .inl Zi)), ((u_15 1), .inl (cI, 40, .inl Zi)), (q_16, .inr (1, [.ref (u_18 0), .ref (u_18 1), .ref (u_18 2), .ref (u_18 3), .ref (u_18 4)])), ((u_18 0), .inl (cI, 40, .inl Zi)), ((u_18 1), .inl (cI, 40, .inl Zi)), ((u_18 2), .inl (cI, 40, .inl Zi)), ((u_18 3), .inl (cI, 40, .inl Zi)), ((u_18 4), .inl (cI, 40, .inl Zi))] H := hP
  have hD : va_D A [(h, .inr (4, [.ref q_1, .ref q_4, .ref q_7, .ref q_10, .ref q_13, .ref q_16, .null])), (q_1, .inr (0, [.ref (u_3 0), .ref (u_3 1), .int 1, .int 0])), ((u_3 0), .inl (cI, 1600, .inl Zi)), ((u_3 1), .inl (cI, 40, .inl Zi)), (q_4, .inr (1, [.ref (u_6 0), .ref (u_6 1), .ref (u_6 2), .ref (u_6 3), .ref (u_6 4)])), ((u_6 0), .inl (cI, 40, .inl Zi)), ((u_6 1), .inl (cI, 40, .inl Zi)), ((u_6 2), .inl (cI, 40, .inl Zi)), ((u_6 3), .inl (cI, 40, .inl Zi)), ((u_6 4), .inl (cI, 40, .inl Zi)), (q_7, .inr (2, [.ref (u_9 0), .ref (u_9 1), .ref (u_9 2), .int 0])), ((u_9 0), .inl (cI, 160, .inl Zi)), ((u_9 1), .inl (cI, 1600, .inl Zi)), ((u_9 2), .inl (cJ, 40, .inr (.inl Zl))), (q_10, .inr (3, [.ref (u_12 0), .ref (u_12 1), .int 0])), ((u_12 0), .inl (cI, 1600, .inl Zi)), ((u_12 1), .inl (cJ, 400, .inr (.inl Zl))), (q_13, .inr (0, [.ref (u_15 0), .ref (u_15 1), .int 1, .int 0])), ((u_15 0), .inl (cI, 1600, .inl Zi)), ((u_15 1), .inl (cI, 40, .inl Zi)), (q_16, .inr (1, [.ref (u_18 0), .ref (u_18 1), .ref (u_18 2), .ref (u_18 3), .ref (u_18 4)])), ((u_18 0), .inl (cI, 40, .inl Zi)), ((u_18 1), .inl (cI, 40, .inl Zi)), ((u_18 2), .inl (cI, 40, .inl Zi)), ((u_18 3), .inl (cI, 40, .inl Zi)), ((u_18 4), .inl (cI, 40, .inl Zi))] := hD
  refine lv_aload_n hx hb dX4_init_70 rfl (lv_at hl 0 rfl) ?_
  refine lv_bipush (v := 40) hx hb dX4_init_71 (by decide) ?_
  refine vn_I (N' := 40) hx hb k_29 hK hP hD hS hA (by decide) (by decide) (by decide) (Nat.le_of_ble_eq_true rfl) (Nat.le_of_ble_eq_true rfl) dX4_init_73 (fun q_19 H hP hD hS => ?_)
  refine W.widen (k := 26) (n := 7545) (by decide) (by decide) ?_
  have hP : va_P (dC, dI) vwCl [(h, .inr (4, [.ref q_1, .ref q_4, .ref q_7, .ref q_10, .ref q_13, .ref q_16, .null])), (q_1, .inr (0, [.ref (u_3 0), .ref (u_3 1), .int 1, .int 0])), ((u_3 0), .inl (cI, 1600, .inl Zi)), ((u_3 1), .inl (cI, 40, .inl Zi)), (q_4, .inr (1, [.ref (u_6 0), .ref (u_6 1), .ref (u_6 2), .ref (u_6 3), .ref (u_6 4)])), ((u_6 0), .inl (cI, 40, .inl Zi)), ((u_6 1), .inl (cI, 40, .inl Zi)), ((u_6 2), .inl (cI, 40, .inl Zi)), ((u_6 3), .inl (cI, 40, .inl Zi)), ((u_6 4), .inl (cI, 40, .inl Zi)), (q_7, .inr (2, [.ref (u_9 0), .ref (u_9 1), .ref (u_9 2), .int 0])), ((u_9 0), .inl (cI, 160, .inl Zi)), ((u_9 1), .inl (cI, 1600, .inl Zi)), ((u_9 2), .inl (cJ, 40, .inr (.inl Zl))), (q_10, .inr (3, [.ref (u_12 0), .ref (u_12 1), .int 0])), ((u_12 0), .inl (cI, 1600, .inl Zi)), ((u_12 1), .inl (cJ, 400, .inr (.inl Zl))), (q_13, .inr (0, [.ref (u_15 0), .ref (u_15 1), .int 1, .int 0])), ((u_15 0), .inl (cI, 1600, .inl Zi)), ((u_15 1), .inl (cI, 40, .inl Zi)), (q_16, .inr (1, [.ref (u_18 0), .ref (u_18 1), .ref (u_18 2), .ref (u_18 3), .ref (u_18 4)])), ((u_18 0), .inl (cI, 40, .inl Zi)), ((u_18 1), .inl (cI, 40, .inl Zi)), ((u_18 2), .inl (cI, 40, .inl Zi)), ((u_18 3), .inl (cI, 40, .inl Zi)), ((u_18 4), .inl (cI, 40, .inl Zi)), (q_19, .inl (cI, 40, .inl Zi))] H := hP
  have hD : va_D A [(h, .inr (4, [.ref q_1, .ref q_4, .ref q_7, .ref q_10, .ref q_13, .ref q_16, .null])), (q_1, .inr (0, [.ref (u_3 0), .ref (u_3 1), .int 1, .int 0])), ((u_3 0), .inl (cI, 1600, .inl Zi)), ((u_3 1), .inl (cI, 40, .inl Zi)), (q_4, .inr (1, [.ref (u_6 0), .ref (u_6 1), .ref (u_6 2), .ref (u_6 3), .ref (u_6 4)])), ((u_6 0), .inl (cI, 40, .inl Zi)), ((u_6 1), .inl (cI, 40, .inl Zi)), ((u_6 2), .inl (cI, 40, .inl Zi)), ((u_6 3), .inl (cI, 40, .inl Zi)), ((u_6 4), .inl (cI, 40, .inl Zi)), (q_7, .inr (2, [.ref (u_9 0), .ref (u_9 1), .ref (u_9 2), .int 0])), ((u_9 0), .inl (cI, 160, .inl Zi)), ((u_9 1), .inl (cI, 1600, .inl Zi)), ((u_9 2), .inl (cJ, 40, .inr (.inl Zl))), (q_10, .inr (3, [.ref (u_12 0), .ref (u_12 1), .int 0])), ((u_12 0), .inl (cI, 1600, .inl Zi)), ((u_12 1), .inl (cJ, 400, .inr (.inl Zl))), (q_13, .inr (0, [.ref (u_15 0), .ref (u_15 1), .int 1, .int 0])), ((u_15 0), .inl (cI, 1600, .inl Zi)), ((u_15 1), .inl (cI, 40, .inl Zi)), (q_16, .inr (1, [.ref (u_18 0), .ref (u_18 1), .ref (u_18 2), .ref (u_18 3), .ref (u_18 4)])), ((u_18 0), .inl (cI, 40, .inl Zi)), ((u_18 1), .inl (cI, 40, .inl Zi)), ((u_18 2), .inl (cI, 40, .inl Zi)), ((u_18 3), .inl (cI, 40, .inl Zi)), ((u_18 4), .inl (cI, 40, .inl Zi)), (q_19, .inl (cI, 40, .inl Zi))] := hD
  refine va_putF (D := (dC, dI)) (ci := 4) (v := .ref q_19) (ty := .array .int) (C := RX4) (T := TX4) (N := 7) hx hb hts i_4 tyX4 tyX4_ok nmX4 hown hK hP hD hS 0 rfl rfl 6 (by decide) k_30 (fun _ h9 => h9) rfl hin rfl (by decide +kernel) rfl rfl (Nat.le_of_ble_eq_true rfl) dX4_init_75 (fun H locs hP hD hS => ?_)
  have hP : va_P (dC, dI) vwCl [(h, .inr (4, [.ref q_1, .ref q_4, .ref q_7, .ref q_10, .ref q_13, .ref q_16, .ref q_19])), (q_1, .inr (0, [.ref (u_3 0), .ref (u_3 1), .int 1, .int 0])), ((u_3 0), .inl (cI, 1600, .inl Zi)), ((u_3 1), .inl (cI, 40, .inl Zi)), (q_4, .inr (1, [.ref (u_6 0), .ref (u_6 1), .ref (u_6 2), .ref (u_6 3), .ref (u_6 4)])), ((u_6 0), .inl (cI, 40, .inl Zi)), ((u_6 1), .inl (cI, 40, .inl Zi)), ((u_6 2), .inl (cI, 40, .inl Zi)), ((u_6 3), .inl (cI, 40, .inl Zi)), ((u_6 4), .inl (cI, 40, .inl Zi)), (q_7, .inr (2, [.ref (u_9 0), .ref (u_9 1), .ref (u_9 2), .int 0])), ((u_9 0), .inl (cI, 160, .inl Zi)), ((u_9 1), .inl (cI, 1600, .inl Zi)), ((u_9 2), .inl (cJ, 40, .inr (.inl Zl))), (q_10, .inr (3, [.ref (u_12 0), .ref (u_12 1), .int 0])), ((u_12 0), .inl (cI, 1600, .inl Zi)), ((u_12 1), .inl (cJ, 400, .inr (.inl Zl))), (q_13, .inr (0, [.ref (u_15 0), .ref (u_15 1), .int 1, .int 0])), ((u_15 0), .inl (cI, 1600, .inl Zi)), ((u_15 1), .inl (cI, 40, .inl Zi)), (q_16, .inr (1, [.ref (u_18 0), .ref (u_18 1), .ref (u_18 2), .ref (u_18 3), .ref (u_18 4)])), ((u_18 0), .inl (cI, 40, .inl Zi)), ((u_18 1), .inl (cI, 40, .inl Zi)), ((u_18 2), .inl (cI, 40, .inl Zi)), ((u_18 3), .inl (cI, 40, .inl Zi)), ((u_18 4), .inl (cI, 40, .inl Zi)), (q_19, .inl (cI, 40, .inl Zi))] H := hP
  have hD : va_D A [(h, .inr (4, [.ref q_1, .ref q_4, .ref q_7, .ref q_10, .ref q_13, .ref q_16, .ref q_19])), (q_1, .inr (0, [.ref (u_3 0), .ref (u_3 1), .int 1, .int 0])), ((u_3 0), .inl (cI, 1600, .inl Zi)), ((u_3 1), .inl (cI, 40, .inl Zi)), (q_4, .inr (1, [.ref (u_6 0), .ref (u_6 1), .ref (u_6 2), .ref (u_6 3), .ref (u_6 4)])), ((u_6 0), .inl (cI, 40, .inl Zi)), ((u_6 1), .inl (cI, 40, .inl Zi)), ((u_6 2), .inl (cI, 40, .inl Zi)), ((u_6 3), .inl (cI, 40, .inl Zi)), ((u_6 4), .inl (cI, 40, .inl Zi)), (q_7, .inr (2, [.ref (u_9 0), .ref (u_9 1), .ref (u_9 2), .int 0])), ((u_9 0), .inl (cI, 160, .inl Zi)), ((u_9 1), .inl (cI, 1600, .inl Zi)), ((u_9 2), .inl (cJ, 40, .inr (.inl Zl))), (q_10, .inr (3, [.ref (u_12 0), .ref (u_12 1), .int 0])), ((u_12 0), .inl (cI, 1600, .inl Zi)), ((u_12 1), .inl (cJ, 400, .inr (.inl Zl))), (q_13, .inr (0, [.ref (u_15 0), .ref (u_15 1), .int 1, .int 0])), ((u_15 0), .inl (cI, 1600, .inl Zi)), ((u_15 1), .inl (cI, 40, .inl Zi)), (q_16, .inr (1, [.ref (u_18 0), .ref (u_18 1), .ref (u_18 2), .ref (u_18 3), .ref (u_18 4)])), ((u_18 0), .inl (cI, 40, .inl Zi)), ((u_18 1), .inl (cI, 40, .inl Zi)), ((u_18 2), .inl (cI, 40, .inl Zi)), ((u_18 3), .inl (cI, 40, .inl Zi)), ((u_18 4), .inl (cI, 40, .inl Zi)), (q_19, .inl (cI, 40, .inl Zi))] := hD
  have hP9 := hP.sub (ws' := [(h, .inr (4, [.ref q_1, .ref q_4, .ref q_7, .ref q_10, .ref q_13, .ref q_16, .ref q_19])), (q_1, .inr (0, [.ref (u_3 0), .ref (u_3 1), .int 1, .int 0])), ((u_3 0), .inl (cI, 1600, .inl Zi)), ((u_3 1), .inl (cI, 40, .inl Zi)), (q_4, .inr (1, [.ref (u_6 0), .ref (u_6 1), .ref (u_6 2), .ref (u_6 3), .ref (u_6 4)])), ((u_6 0), .inl (cI, 40, .inl Zi)), ((u_6 1), .inl (cI, 40, .inl Zi)), ((u_6 2), .inl (cI, 40, .inl Zi)), ((u_6 3), .inl (cI, 40, .inl Zi)), ((u_6 4), .inl (cI, 40, .inl Zi)), (q_7, .inr (2, [.ref (u_9 0), .ref (u_9 1), .ref (u_9 2), .int 0])), ((u_9 0), .inl (cI, 160, .inl Zi)), ((u_9 1), .inl (cI, 1600, .inl Zi)), ((u_9 2), .inl (cJ, 40, .inr (.inl Zl))), (q_10, .inr (3, [.ref (u_12 0), .ref (u_12 1), .int 0])), ((u_12 0), .inl (cI, 1600, .inl Zi)), ((u_12 1), .inl (cJ, 400, .inr (.inl Zl))), (q_13, .inr (0, [.ref (u_15 0), .ref (u_15 1), .int 1, .int 0])), ((u_15 0), .inl (cI, 1600, .inl Zi)), ((u_15 1), .inl (cI, 40, .inl Zi)), (q_16, .inr (1, [.ref (u_18 0), .ref (u_18 1), .ref (u_18 2), .ref (u_18 3), .ref (u_18 4)])), ((u_18 0), .inl (cI, 40, .inl Zi)), ((u_18 1), .inl (cI, 40, .inl Zi)), ((u_18 2), .inl (cI, 40, .inl Zi)), ((u_18 3), .inl (cI, 40, .inl Zi)), ((u_18 4), .inl (cI, 40, .inl Zi)), (q_19, .inl (cI, 40, .inl Zi))]) [0, 1, 2, 3, 4, 5, 6, 7, 8, 9, 10, 11, 12, 13, 14, 15, 16, 17, 18, 19, 20, 21, 22, 23, 24, 25, 26] rfl
  have hD9 := hD.sub (ws' := [(h, .inr (4, [.ref q_1, .ref q_4, .ref q_7, .ref q_10, .ref q_13, .ref q_16, .ref q_19])), (q_1, .inr (0, [.ref (u_3 0), .ref (u_3 1), .int 1, .int 0])), ((u_3 0), .inl (cI, 1600, .inl Zi)), ((u_3 1), .inl (cI, 40, .inl Zi)), (q_4, .inr (1, [.ref (u_6 0), .ref (u_6 1), .ref (u_6 2), .ref (u_6 3), .ref (u_6 4)])), ((u_6 0), .inl (cI, 40, .inl Zi)), ((u_6 1), .inl (cI, 40, .inl Zi)), ((u_6 2), .inl (cI, 40, .inl Zi)), ((u_6 3), .inl (cI, 40, .inl Zi)), ((u_6 4), .inl (cI, 40, .inl Zi)), (q_7, .inr (2, [.ref (u_9 0), .ref (u_9 1), .ref (u_9 2), .int 0])), ((u_9 0), .inl (cI, 160, .inl Zi)), ((u_9 1), .inl (cI, 1600, .inl Zi)), ((u_9 2), .inl (cJ, 40, .inr (.inl Zl))), (q_10, .inr (3, [.ref (u_12 0), .ref (u_12 1), .int 0])), ((u_12 0), .inl (cI, 1600, .inl Zi)), ((u_12 1), .inl (cJ, 400, .inr (.inl Zl))), (q_13, .inr (0, [.ref (u_15 0), .ref (u_15 1), .int 1, .int 0])), ((u_15 0), .inl (cI, 1600, .inl Zi)), ((u_15 1), .inl (cI, 40, .inl Zi)), (q_16, .inr (1, [.ref (u_18 0), .ref (u_18 1), .ref (u_18 2), .ref (u_18 3), .ref (u_18 4)])), ((u_18 0), .inl (cI, 40, .inl Zi)), ((u_18 1), .inl (cI, 40, .inl Zi)), ((u_18 2), .inl (cI, 40, .inl Zi)), ((u_18 3), .inl (cI, 40, .inl Zi)), ((u_18 4), .inl (cI, 40, .inl Zi)), (q_19, .inl (cI, 40, .inl Zi))]) [0, 1, 2, 3, 4, 5, 6, 7, 8, 9, 10, 11, 12, 13, 14, 15, 16, 17, 18, 19, 20, 21, 22, 23, 24, 25, 26] (by decide) rfl
  exact W.vret hx hb hr (fun t ht hW => ⟨⟨(fun j => ([q_1, (u_3 0), (u_3 1), q_4, (u_6 0), (u_6 1), (u_6 2), (u_6 3), (u_6 4), q_7, (u_9 0), (u_9 1), (u_9 2), q_10, (u_12 0), (u_12 1), q_13, (u_15 0), (u_15 1), q_16, (u_18 0), (u_18 1), (u_18 2), (u_18 3), (u_18 4), q_19] : List Nat).getD j 0), rfl, trivial, by rw [ht]; exact hP9, hD9⟩, hS.F ht⟩) hS.2.2 dX4_init_78
set_option maxHeartbeats 4000000 in
set_option maxRecDepth 100000 in
theorem c_X5_init (l : Launch) (dC : Nat → ClassId) (dI : Nat → Nat → Nat) (cI cJ : ClassId) (h : Nat) (sz : Nat) : Met l yX5_init wsX5_init ({ frames := 1, cells := 11, slots := 8765, locals := 12 }) (va_Pc [.ref h] (pPre dC dI cI cJ sz [(h, .inr (5, [.int 0, .null, .null, .int 0, .null, .null, .null, .int 0, .null, .null, .null, .int 0, .null, .null, .int 0, .null, .long 0]))])) (va_Qv (fun _ : Nat → Nat => True) (fun u t => va_P (dC, dI) vwCl [(h, .inr (5, [.int 1, .ref (u 0), .ref (u 1), .int 0, .ref (u 2), .ref (u 3), .ref (u 4), .int 0, .ref (u 5), .ref (u 6), .ref (u 7), .int 0, .ref (u 8), .ref (u 9), .int 0, .ref (u 10), .long 0])), ((u 0), .inl (cI, 1600, .inl Zi)), ((u 1), .inl (cI, 40, .inl (upd Zi 0 0))), ((u 2), .inl (cJ, 1600, .inr (.inl Zl))), ((u 3), .inl (cI, 40, .inl Zi)), ((u 4), .inl (cJ, 1600, .inr (.inl Zl))), ((u 5), .inl (cI, 164, .inl Zi)), ((u 6), .inl (cJ, 41, .inr (.inl Zl))), ((u 7), .inl (cI, 1640, .inl Zi)), ((u 8), .inl (cI, 1600, .inl Zi)), ((u 9), .inl (cJ, 400, .inr (.inl Zl))), ((u 10), .inl (cJ, 40, .inr (.inl Zl)))] t.heap ∧ va_D (va_A [(h, .inr (5, [.int 0, .null, .null, .int 0, .null, .null, .null, .int 0, .null, .null, .null, .int 0, .null, .null, .int 0, .null, .long 0]))] sz) [(h, .inr (5, [.int 1, .ref (u 0), .ref (u 1), .int 0, .ref (u 2), .ref (u 3), .ref (u 4), .int 0, .ref (u 5), .ref (u 6), .ref (u 7), .int 0, .ref (u 8), .ref (u 9), .int 0, .ref (u 10), .long 0])), ((u 0), .inl (cI, 1600, .inl Zi)), ((u 1), .inl (cI, 40, .inl (upd Zi 0 0))), ((u 2), .inl (cJ, 1600, .inr (.inl Zl))), ((u 3), .inl (cI, 40, .inl Zi)), ((u 4), .inl (cJ, 1600, .inr (.inl Zl))), ((u 5), .inl (cI, 164, .inl Zi)), ((u 6), .inl (cJ, 41, .inr (.inl Zl))), ((u 7), .inl (cI, 1640, .inl Zi)), ((u 8), .inl (cI, 1600, .inl Zi)), ((u 9), .inl (cJ, 400, .inr (.inl Zl))), ((u 10), .inl (cJ, 40, .inr (.inl Zl)))]) (va_A [(h, .inr (5, [.int 0, .null, .null, .int 0, .null, .null, .null, .int 0, .null, .null, .null, .int 0, .null, .null, .int 0, .null, .long 0]))] sz)) 11 8765 (va_A [(h, .inr (5, [.int 0, .null, .null, .int 0, .null, .null, .null, .int 0, .null, .null, .null, .int 0, .null, .null, .int 0, .null, .long 0]))] sz) := by
  refine Met.ofW (cc := cX5_init) (maxL := 1) (ret := none) (by decide) rfl ?_
  intro p e s m args below meth c s₁ B hml hv
  obtain ⟨rfl, hsz, hP, hK, hD0⟩ := hv
  have hx := B.exec
  have hb := B.bytes
  have hr := B.returns
  have hts := atoms_spec (ws := wsX5_init) B.pre
  have hown : s.vm.findClass RX5 = some m.cls := findClass_of_methodNamed B.named
  have hlocks := B.notSynchronized
  have hin : meth.name = "<init>" := (name_of_methodNamed B.named B.method).1
  subst hsz
  have hD := hD0.self (sz := s.heap.size)
  generalize hAe : va_A [(h, .inr (5, [.int 0, .null, .null, .int 0, .null, .null, .null, .int 0, .null, .null, .null, .int 0, .null, .null, .int 0, .null, .long 0]))] s.heap.size = A at hD ⊢
  have hA : ∀ q : Nat, s.heap.size ≤ q → A q := fun q h => by rw [← hAe]; exact Or.inr h
  have hS : va_S A s.heap s.heap [] := va_S.rf
  have hP : va_P (dC, dI) vwCl [(h, .inr (5, [.int 0, .null, .null, .int 0, .null, .null, .null, .int 0, .null, .null, .null, .int 0, .null, .null, .int 0, .null, .long 0]))] s.heap := hP
  have hl := lv_entry ([.ref h]) (n := 1) (Nat.le_of_ble_eq_true rfl)
  rw [lg_entry_eq]
  generalize (lg_sl ([.ref h]) ++ List.replicate (1 - (lg_sl ([.ref h])).length) Slot.unset).toArray = ls at hl ⊢
  have hl : lv_has ls 1 [(0, .ref h)] := hl
  have i_5 : ∀ w ∈ wsX50, w ∈ wsX5_init := by decide +kernel
  have k_0 := hts (.methodLink RX5 1 objectInit) (by decide +kernel)
  have k_1 := hts (.instanceMethod objectInit) (by decide +kernel)
  have k_2 := hts (.code objectInit ⟨#[0xb1]⟩ 1 none) (by decide +kernel)
  have k_3 := hts (.fieldLink RX5 7 "CommunityLevelsModel" "n" "I") (by decide +kernel)
  have k_4 := hts (.arrayClass .int) (by decide +kernel)
  have k_5 := hts (.fieldLink RX5 13 "CommunityLevelsModel" "weight" "[I") (by decide +kernel)
  have k_6 := hts (.fieldLink RX5 17 "CommunityLevelsModel" "own" "[I") (by decide +kernel)
  have k_7 := hts (.arrayClass .long) (by decide +kernel)
  have k_8 := hts (.fieldLink RX5 20 "CommunityLevelsModel" "between" "[J") (by decide +kernel)
  have k_9 := hts (.fieldLink RX5 24 "CommunityLevelsModel" "community" "[I") (by decide +kernel)
  have k_10 := hts (.fieldLink RX5 27 "CommunityLevelsModel" "fresh" "[J") (by decide +kernel)
  have k_11 := hts (.fieldLink RX5 30 "CommunityLevelsModel" "told" "[I") (by decide +kernel)
  have k_12 := hts (.fieldLink RX5 33 "CommunityLevelsModel" "reached" "[J") (by decide +kernel)
  have k_13 := hts (.fieldLink RX5 36 "CommunityLevelsModel" "placed" "[I") (by decide +kernel)
  have k_14 := hts (.fieldLink RX5 39 "CommunityLevelsModel" "moved" "[I") (by decide +kernel)
  have k_15 := hts (.fieldLink RX5 42 "CommunityLevelsModel" "gained" "[J") (by decide +kernel)
  have k_16 := hts (.fieldLink RX5 45 "CommunityLevelsModel" "degrees" "[J") (by decide +kernel)
  refine lv_aload_n hx hb dX5_init_0 rfl (lv_at hl 0 rfl) ?_
  refine W.objInit hx hb hown k_0 k_1 k_2 rfl (by rw [hml]; exact hl.1) rfl dX5_init_1 (Nat.le_of_ble_eq_true rfl) (Nat.le_of_ble_eq_true rfl) ?_
  refine W.eq (g2 := F0 m 4 ls []) rfl ?_
  refine lv_aload_n hx hb dX5_init_4 rfl (lv_at hl 0 rfl) ?_
  refine lv_iconst (v := 1) hx hb dX5_init_5 (by decide) ?_
  refine va_put (D := (dC, dI)) (ci := 5) (v := .int 1) (ty := .int) (C := RX5) (T := TX5) (N := 17) hx hb hts i_5 tyX5 tyX5_ok nmX5 hown hK hP hD hS 0 rfl rfl 0 (by decide) k_3 (fun _ h9 => h9) rfl (by decide +kernel) rfl rfl (Nat.le_of_ble_eq_true rfl) dX5_init_6 (fun H locs hP hD hS => ?_)
  have hP : va_P (dC, dI) vwCl [(h, .inr (5, [.int 1, .null, .null, .int 0, .null, .null, .null, .int 0, .null, .null, .null, .int 0, .null, .null, .int 0, .null, .long 0]))] H := hP
  have hD : va_D A [(h, .inr (5, [.int 1, .null, .null, .int 0, .null, .null, .null, .int 0, .null, .null, .null, .int 0, .null, .null, .int 0, .null, .long 0]))] := hD
  refine lv_aload_n hx hb dX5_init_9 rfl (lv_at hl 0 rfl) ?_
  refine lv_sipush (v := 1600) hx hb dX5_init_10 (by decide) ?_
  refine vn_I (N' := 1600) hx hb k_4 hK hP hD hS hA (by decide) (by decide) (by decide) (Nat.le_of_ble_eq_true rfl) (Nat.le_of_ble_eq_true rfl) dX5_init_13 (fun q_1 H hP hD hS => ?_)
  refine W.widen (k := 1) (n := 1600) (by decide) (by decide) ?_
  have hP : va_P (dC, dI) vwCl [(h, .inr (5, [.int 1, .null, .null, .int 0, .null, .null, .null, .int 0, .null, .null, .null, .int 0, .null, .null, .int 0, .null, .long 0])), (q_1, .inl (cI, 1600, .inl Zi))] H := hP
  have hD : va_D A [(h, .inr (5, [.int 1, .null, .null, .int 0, .null, .null, .null, .int 0, .null, .null, .null, .int 0, .null, .null, .int 0, .null, .long 0])), (q_1, .inl (cI, 1600, .inl Zi))] := hD
  refine va_putF (D := (dC, dI)) (ci := 5) (v := .ref q_1) (ty := .array .int) (C := RX5) (T := TX5) (N := 17) hx hb hts i_5 tyX5 tyX5_ok nmX5 hown hK hP hD hS 0 rfl rfl 1 (by decide) k_5 (fun _ h9 => h9) rfl hin rfl (by decide +kernel) rfl rfl (Nat.le_of_ble_eq_true rfl) dX5_init_15 (fun H locs hP hD hS => ?_)
  have hP : va_P (dC, dI) vwCl [(h, .inr (5, [.int 1, .ref q_1, .null, .int 0, .null, .null, .null, .int 0, .null, .null, .null, .int 0, .null, .null, .int 0, .null, .long 0])), (q_1, .inl (cI, 1600, .inl Zi))] H := hP
  have hD : va_D A [(h, .inr (5, [.int 1, .ref q_1, .null, .int 0, .null, .null, .null, .int 0, .null, .null, .null, .int 0, .null, .null, .int 0, .null, .long 0])), (q_1, .inl (cI, 1600, .inl Zi))] := hD
  refine lv_aload_n hx hb dX5_init_18 rfl (lv_at hl 0 rfl) ?_
  refine lv_bipush (v := 40) hx hb dX5_init_19 (by decide) ?_
  refine vn_I (N' := 40) hx hb k_4 hK hP hD hS hA (by decide) (by decide) (by decide) (Nat.le_of_ble_eq_true rfl) (Nat.le_of_ble_eq_true rfl) dX5_init_21 (fun q_2 H hP hD hS => ?_)
  refine W.widen (k := 2) (n := 1640) (by decide) (by decide) ?_
  have hP : va_P (dC, dI) vwCl [(h, .inr (5, [.int 1, .ref q_1, .null, .int 0, .null, .null, .null, .int 0, .null, .null, .null, .int 0, .null, .null, .int 0, .null, .long 0])), (q_1, .inl (cI, 1600, .inl Zi)), (q_2, .inl (cI, 40, .inl Zi))] H := hP
  have hD : va_D A [(h, .inr (5, [.int 1, .ref q_1, .null, .int 0, .null, .null, .null, .int 0, .null, .null, .null, .int 0, .null, .null, .int 0, .null, .long 0])), (q_1, .inl (cI, 1600, .inl Zi)), (q_2, .inl (cI, 40, .inl Zi))] := hD
  refine va_putF (D := (dC, dI)) (ci := 5) (v := .ref q_2) (ty := .array .int) (C := RX5) (T := TX5) (N := 17) hx hb hts i_5 tyX5 tyX5_ok nmX5 hown hK hP hD hS 0 rfl rfl 2 (by decide) k_6 (fun _ h9 => h9) rfl hin rfl (by decide +kernel) rfl rfl (Nat.le_of_ble_eq_true rfl) dX5_init_23 (fun H locs hP hD hS => ?_)
  have hP : va_P (dC, dI) vwCl [(h, .inr (5, [.int 1, .ref q_1, .ref q_2, .int 0, .null, .null, .null, .int 0, .null, .null, .null, .int 0, .null, .null, .int 0, .null, .long 0])), (q_1, .inl (cI, 1600, .inl Zi)), (q_2, .inl (cI, 40, .inl Zi))] H := hP
  have hD : va_D A [(h, .inr (5, [.int 1, .ref q_1, .ref q_2, .int 0, .null, .null, .null, .int 0, .null, .null, .null, .int 0, .null, .null, .int 0, .null, .long 0])), (q_1, .inl (cI, 1600, .inl Zi)), (q_2, .inl (cI, 40, .inl Zi))] := hD
  refine lv_aload_n hx hb dX5_init_26 rfl (lv_at hl 0 rfl) ?_
  refine lv_sipush (v := 1600) hx hb dX5_init_27 (by decide) ?_
  refine vn_J (N' := 1600) hx hb k_7 hK hP hD hS hA (by decide) (by decide) (by decide) (Nat.le_of_ble_eq_true rfl) (Nat.le_of_ble_eq_true rfl) dX5_init_30 (fun q_3 H hP hD hS => ?_)
  refine W.widen (k := 3) (n := 3240) (by decide) (by decide) ?_
  have hP : va_P (dC, dI) vwCl [(h, .inr (5, [.int 1, .ref q_1, .ref q_2, .int 0, .null, .null, .null, .int 0, .null, .null, .null, .int 0, .null, .null, .int 0, .null, .long 0])), (q_1, .inl (cI, 1600, .inl Zi)), (q_2, .inl (cI, 40, .inl Zi)), (q_3, .inl (cJ, 1600, .inr (.inl Zl)))] H := hP
  have hD : va_D A [(h, .inr (5, [.int 1, .ref q_1, .ref q_2, .int 0, .null, .null, .null, .int 0, .null, .null, .null, .int 0, .null, .null, .int 0, .null, .long 0])), (q_1, .inl (cI, 1600, .inl Zi)), (q_2, .inl (cI, 40, .inl Zi)), (q_3, .inl (cJ, 1600, .inr (.inl Zl)))] := hD
  refine va_putF (D := (dC, dI)) (ci := 5) (v := .ref q_3) (ty := .array .long) (C := RX5) (T := TX5) (N := 17) hx hb hts i_5 tyX5 tyX5_ok nmX5 hown hK hP hD hS 0 rfl rfl 4 (by decide) k_8 (fun _ h9 => h9) rfl hin rfl (by decide +kernel) rfl rfl (Nat.le_of_ble_eq_true rfl) dX5_init_32 (fun H locs hP hD hS => ?_)
  have hP : va_P (dC, dI) vwCl [(h, .inr (5, [.int 1, .ref q_1, .ref q_2, .int 0, .ref q_3, .null, .null, .int 0, .null, .null, .null, .int 0, .null, .null, .int 0, .null, .long 0])), (q_1, .inl (cI, 1600, .inl Zi)), (q_2, .inl (cI, 40, .inl Zi)), (q_3, .inl (cJ, 1600, .inr (.inl Zl)))] H := hP
  have hD : va_D A [(h, .inr (5, [.int 1, .ref q_1, .ref q_2, .int 0, .ref q_3, .null, .null, .int 0, .null, .null, .null, .int 0, .null, .null, .int 0, .null, .long 0])), (q_1, .inl (cI, 1600, .inl Zi)), (q_2, .inl (cI, 40, .inl Zi)), (q_3, .inl (cJ, 1600, .inr (.inl Zl)))] := hD
  refine lv_aload_n hx hb dX5_init_35 rfl (lv_at hl 0 rfl) ?_
  refine lv_bipush (v := 40) hx hb dX5_init_36 (by decide) ?_
  refine vn_I (N' := 40) hx hb k_4 hK hP hD hS hA (by decide) (by decide) (by decide) (Nat.le_of_ble_eq_true rfl) (Nat.le_of_ble_eq_true rfl) dX5_init_38 (fun q_4 H hP hD hS => ?_)
  refine W.widen (k := 4) (n := 3280) (by decide) (by decide) ?_
  have hP : va_P (dC, dI) vwCl [(h, .inr (5, [.int 1, .ref q_1, .ref q_2, .int 0, .ref q_3, .null, .null, .int 0, .null, .null, .null, .int 0, .null, .null, .int 0, .null, .long 0])), (q_1, .inl (cI, 1600, .inl Zi)), (q_2, .inl (cI, 40, .inl Zi)), (q_3, .inl (cJ, 1600, .inr (.inl Zl))), (q_4, .inl (cI, 40, .inl Zi))] H := hP
  have hD : va_D A [(h, .inr (5, [.int 1, .ref q_1, .ref q_2, .int 0, .ref q_3, .null, .null, .int 0, .null, .null, .null, .int 0, .null, .null, .int 0, .null, .long 0])), (q_1, .inl (cI, 1600, .inl Zi)), (q_2, .inl (cI, 40, .inl Zi)), (q_3, .inl (cJ, 1600, .inr (.inl Zl))), (q_4, .inl (cI, 40, .inl Zi))] := hD
  refine va_putF (D := (dC, dI)) (ci := 5) (v := .ref q_4) (ty := .array .int) (C := RX5) (T := TX5) (N := 17) hx hb hts i_5 tyX5 tyX5_ok nmX5 hown hK hP hD hS 0 rfl rfl 5 (by decide) k_9 (fun _ h9 => h9) rfl hin rfl (by decide +kernel) rfl rfl (Nat.le_of_ble_eq_true rfl) dX5_init_40 (fun H locs hP hD hS => ?_)
  have hP : va_P (dC, dI) vwCl [(h, .inr (5, [.int 1, .ref q_1, .ref q_2, .int 0, .ref q_3, .ref q_4, .null, .int 0, .null, .null, .null, .int 0, .null, .null, .int 0, .null, .long 0])), (q_1, .inl (cI, 1600, .inl Zi)), (q_2, .inl (cI, 40, .inl Zi)), (q_3, .inl (cJ, 1600, .inr (.inl Zl))), (q_4, .inl (cI, 40, .inl Zi))] H := hP
  have hD : va_D A [(h, .inr (5, [.int 1, .ref q_1, .ref q_2, .int 0, .ref q_3, .ref q_4, .null, .int 0, .null, .null, .null, .int 0, .null, .null, .int 0, .null, .long 0])), (q_1, .inl (cI, 1600, .inl Zi)), (q_2, .inl (cI, 40, .inl Zi)), (q_3, .inl (cJ, 1600, .inr (.inl Zl))), (q_4, .inl (cI, 40, .inl Zi))] := hD
  refine lv_aload_n hx hb dX5_init_43 rfl (lv_at hl 0 rfl) ?_
  refine lv_sipush (v := 1600) hx hb dX5_init_44 (by decide) ?_
  refine vn_J (N' := 1600) hx hb k_7 hK hP hD hS hA (by decide) (by decide) (by decide) (Nat.le_of_ble_eq_true rfl) (Nat.le_of_ble_eq_true rfl) dX5_init_47 (fun q_5 H hP hD hS => ?_)
  refine W.widen (k := 5) (n := 4880) (by decide) (by decide) ?_
  have hP : va_P (dC, dI) vwCl [(h, .inr (5, [.int 1, .ref q_1, .ref q_2, .int 0, .ref q_3, .ref q_4, .null, .int 0, .null, .null, .null, .int 0, .null, .null, .int 0, .null, .long 0])), (q_1, .inl (cI, 1600, .inl Zi)), (q_2, .inl (cI, 40, .inl Zi)), (q_3, .inl (cJ, 1600, .inr (.inl Zl))), (q_4, .inl (cI, 40, .inl Zi)), (q_5, .inl (cJ, 1600, .inr (.inl Zl)))] H := hP
  have hD : va_D A [(h, .inr (5, [.int 1, .ref q_1, .ref q_2, .int 0, .ref q_3, .ref q_4, .null, .int 0, .null, .null, .null, .int 0, .null, .null, .int 0, .null, .long 0])), (q_1, .inl (cI, 1600, .inl Zi)), (q_2, .inl (cI, 40, .inl Zi)), (q_3, .inl (cJ, 1600, .inr (.inl Zl))), (q_4, .inl (cI, 40, .inl Zi)), (q_5, .inl (cJ, 1600, .inr (.inl Zl)))] := hD
  refine va_putF (D := (dC, dI)) (ci := 5) (v := .ref q_5) (ty := .array .long) (C := RX5) (T := TX5) (N := 17) hx hb hts i_5 tyX5 tyX5_ok nmX5 hown hK hP hD hS 0 rfl rfl 6 (by decide) k_10 (fun _ h9 => h9) rfl hin rfl (by decide +kernel) rfl rfl (Nat.le_of_ble_eq_true rfl) dX5_init_49 (fun H locs hP hD hS => ?_)
  have hP : va_P (dC, dI) vwCl [(h, .inr (5, [.int 1, .ref q_1, .ref q_2, .int 0, .ref q_3, .ref q_4, .ref q_5, .int 0, .null, .null, .null, .int 0, .null, .null, .int 0, .null, .long 0])), (q_1, .inl (cI, 1600, .inl Zi)), (q_2, .inl (cI, 40, .inl Zi)), (q_3, .inl (cJ, 1600, .inr (.inl Zl))), (q_4, .inl (cI, 40, .inl Zi)), (q_5, .inl (cJ, 1600, .inr (.inl Zl)))] H := hP
  have hD : va_D A [(h, .inr (5, [.int 1, .ref q_1, .ref q_2, .int 0, .ref q_3, .ref q_4, .ref q_5, .int 0, .null, .null, .null, .int 0, .null, .null, .int 0, .null, .long 0])), (q_1, .inl (cI, 1600, .inl Zi)), (q_2, .inl (cI, 40, .inl Zi)), (q_3, .inl (cJ, 1600, .inr (.inl Zl))), (q_4, .inl (cI, 40, .inl Zi)), (q_5, .inl (cJ, 1600, .inr (.inl Zl)))] := hD
  refine lv_aload_n hx hb dX5_init_52 rfl (lv_at hl 0 rfl) ?_
  refine lv_sipush (v := 164) hx hb dX5_init_53 (by decide) ?_
  refine vn_I (N' := 164) hx hb k_4 hK hP hD hS hA (by decide) (by decide) (by decide) (Nat.le_of_ble_eq_true rfl) (Nat.le_of_ble_eq_true rfl) dX5_init_56 (fun q_6 H hP hD hS => ?_)
  refine W.widen (k := 6) (n := 5044) (by decide) (by decide) ?_
  have hP : va_P (dC, dI) vwCl [(h, .inr (5, [.int 1, .ref q_1, .ref q_2, .int 0, .ref q_3, .ref q_4, .ref q_5, .int 0, .null, .null, .null, .int 0, .null, .null, .int 0, .null, .long 0])), (q_1, .inl (cI, 1600, .inl Zi)), (q_2, .inl (cI, 40, .inl Zi)), (q_3, .inl (cJ, 1600, .inr (.inl Zl))), (q_4, .inl (cI, 40, .inl Zi)), (q_5, .inl (cJ, 1600, .inr (.inl Zl))), (q_6, .inl (cI, 164, .inl Zi))] H := hP
  have hD : va_D A [(h, .inr (5, [.int 1, .ref q_1, .ref q_2, .int 0, .ref q_3, .ref q_4, .ref q_5, .int 0, .null, .null, .null, .int 0, .null, .null, .int 0, .null, .long 0])), (q_1, .inl (cI, 1600, .inl Zi)), (q_2, .inl (cI, 40, .inl Zi)), (q_3, .inl (cJ, 1600, .inr (.inl Zl))), (q_4, .inl (cI, 40, .inl Zi)), (q_5, .inl (cJ, 1600, .inr (.inl Zl))), (q_6, .inl (cI, 164, .inl Zi))] := hD
  refine va_putF (D := (dC, dI)) (ci := 5) (v := .ref q_6) (ty := .array .int) (C := RX5) (T := TX5) (N := 17) hx hb hts i_5 tyX5 tyX5_ok nmX5 hown hK hP hD hS 0 rfl rfl 8 (by decide) k_11 (fun _ h9 => h9) rfl hin rfl (by decide +kernel) rfl rfl (Nat.le_of_ble_eq_true rfl) dX5_init_58 (fun H locs hP hD hS => ?_)
  have hP : va_P (dC, dI) vwCl [(h, .inr (5, [.int 1, .ref q_1, .ref q_2, .int 0, .ref q_3, .ref q_4, .ref q_5, .int 0, .ref q_6, .null, .null, .int 0, .null, .null, .int 0, .null, .long 0])), (q_1, .inl (cI, 1600, .inl Zi)), (q_2, .inl (cI, 40, .inl Zi)), (q_3, .inl (cJ, 1600, .inr (.inl Zl))), (q_4, .inl (cI, 40, .inl Zi)), (q_5, .inl (cJ, 1600, .inr (.inl Zl))), (q_6, .inl (cI, 164, .inl Zi))] H := hP
  have hD : va_D A [(h, .inr (5, [.int 1, .ref q_1, .ref q_2, .int 0, .ref q_3, .ref q_4, .ref q_5, .int 0, .ref q_6, .null, .null, .int 0, .null, .null, .int 0, .null, .long 0])), (q_1, .inl (cI, 1600, .inl Zi)), (q_2, .inl (cI, 40, .inl Zi)), (q_3, .inl (cJ, 1600, .inr (.inl Zl))), (q_4, .inl (cI, 40, .inl Zi)), (q_5, .inl (cJ, 1600, .inr (.inl Zl))), (q_6, .inl (cI, 164, .inl Zi))] := hD
  refine lv_aload_n hx hb dX5_init_61 rfl (lv_at hl 0 rfl) ?_
  refine lv_bipush (v := 41) hx hb dX5_init_62 (by decide) ?_
  refine vn_J (N' := 41) hx hb k_7 hK hP hD hS hA (by decide) (by decide) (by decide) (Nat.le_of_ble_eq_true rfl) (Nat.le_of_ble_eq_true rfl) dX5_init_64 (fun q_7 H hP hD hS => ?_)
  refine W.widen (k := 7) (n := 5085) (by decide) (by decide) ?_
  have hP : va_P (dC, dI) vwCl [(h, .inr (5, [.int 1, .ref q_1, .ref q_2, .int 0, .ref q_3, .ref q_4, .ref q_5, .int 0, .ref q_6, .null, .null, .int 0, .null, .null, .int 0, .null, .long 0])), (q_1, .inl (cI, 1600, .inl Zi)), (q_2, .inl (cI, 40, .inl Zi)), (q_3, .inl (cJ, 1600, .inr (.inl Zl))), (q_4, .inl (cI, 40, .inl Zi)), (q_5, .inl (cJ, 1600, .inr (.inl Zl))), (q_6, .inl (cI, 164, .inl Zi)), (q_7, .inl (cJ, 41, .inr (.inl Zl)))] H := hP
  have hD : va_D A [(h, .inr (5, [.int 1, .ref q_1, .ref q_2, .int 0, .ref q_3, .ref q_4, .ref q_5, .int 0, .ref q_6, .null, .null, .int 0, .null, .null, .int 0, .null, .long 0])), (q_1, .inl (cI, 1600, .inl Zi)), (q_2, .inl (cI, 40, .inl Zi)), (q_3, .inl (cJ, 1600, .inr (.inl Zl))), (q_4, .inl (cI, 40, .inl Zi)), (q_5, .inl (cJ, 1600, .inr (.inl Zl))), (q_6, .inl (cI, 164, .inl Zi)), (q_7, .inl (cJ, 41, .inr (.inl Zl)))] := hD
  refine va_putF (D := (dC, dI)) (ci := 5) (v := .ref q_7) (ty := .array .long) (C := RX5) (T := TX5) (N := 17) hx hb hts i_5 tyX5 tyX5_ok nmX5 hown hK hP hD hS 0 rfl rfl 9 (by decide) k_12 (fun _ h9 => h9) rfl hin rfl (by decide +kernel) rfl rfl (Nat.le_of_ble_eq_true rfl) dX5_init_66 (fun H locs hP hD hS => ?_)
  have hP : va_P (dC, dI) vwCl [(h, .inr (5, [.int 1, .ref q_1, .ref q_2, .int 0, .ref q_3, .ref q_4, .ref q_5, .int 0, .ref q_6, .ref q_7, .null, .int 0, .null, .null, .int 0, .null, .long 0])), (q_1, .inl (cI, 1600, .inl Zi)), (q_2, .inl (cI, 40, .inl Zi)), (q_3, .inl (cJ, 1600, .inr (.inl Zl))), (q_4, .inl (cI, 40, .inl Zi)), (q_5, .inl (cJ, 1600, .inr (.inl Zl))), (q_6, .inl (cI, 164, .inl Zi)), (q_7, .inl (cJ, 41, .inr (.inl Zl)))] H := hP
  have hD : va_D A [(h, .inr (5, [.int 1, .ref q_1, .ref q_2, .int 0, .ref q_3, .ref q_4, .ref q_5, .int 0, .ref q_6, .ref q_7, .null, .int 0, .null, .null, .int 0, .null, .long 0])), (q_1, .inl (cI, 1600, .inl Zi)), (q_2, .inl (cI, 40, .inl Zi)), (q_3, .inl (cJ, 1600, .inr (.inl Zl))), (q_4, .inl (cI, 40, .inl Zi)), (q_5, .inl (cJ, 1600, .inr (.inl Zl))), (q_6, .inl (cI, 164, .inl Zi)), (q_7, .inl (cJ, 41, .inr (.inl Zl)))] := hD
  refine lv_aload_n hx hb dX5_init_69 rfl (lv_at hl 0 rfl) ?_
  refine lv_sipush (v := 1640) hx hb dX5_init_70 (by decide) ?_
  refine vn_I (N' := 1640) hx hb k_4 hK hP hD hS hA (by decide) (by decide) (by decide) (Nat.le_of_ble_eq_true rfl) (Nat.le_of_ble_eq_true rfl) dX5_init_73 (fun q_8 H hP hD hS => ?_)
  refine W.widen (k := 8) (n := 6725) (by decide) (by decide) ?_
  have hP : va_P (dC, dI) vwCl [(h, .inr (5, [.int 1, .ref q_1, .ref q_2, .int 0, .ref q_3, .ref q_4, .ref q_5, .int 0, .ref q_6, .ref q_7, .null, .int 0, .null, .null, .int 0, .null, .long 0])), (q_1, .inl (cI, 1600, .inl Zi)), (q_2, .inl (cI, 40, .inl Zi)), (q_3, .inl (cJ, 1600, .inr (.inl Zl))), (q_4, .inl (cI, 40, .inl Zi)), (q_5, .inl (cJ, 1600, .inr (.inl Zl))), (q_6, .inl (cI, 164, .inl Zi)), (q_7, .inl (cJ, 41, .inr (.inl Zl))), (q_8, .inl (cI, 1640, .inl Zi))] H := hP
  have hD : va_D A [(h, .inr (5, [.int 1, .ref q_1, .ref q_2, .int 0, .ref q_3, .ref q_4, .ref q_5, .int 0, .ref q_6, .ref q_7, .null, .int 0, .null, .null, .int 0, .null, .long 0])), (q_1, .inl (cI, 1600, .inl Zi)), (q_2, .inl (cI, 40, .inl Zi)), (q_3, .inl (cJ, 1600, .inr (.inl Zl))), (q_4, .inl (cI, 40, .inl Zi)), (q_5, .inl (cJ, 1600, .inr (.inl Zl))), (q_6, .inl (cI, 164, .inl Zi)), (q_7, .inl (cJ, 41, .inr (.inl Zl))), (q_8, .inl (cI, 1640, .inl Zi))] := hD
  refine va_putF (D := (dC, dI)) (ci := 5) (v := .ref q_8) (ty := .array .int) (C := RX5) (T := TX5) (N := 17) hx hb hts i_5 tyX5 tyX5_ok nmX5 hown hK hP hD hS 0 rfl rfl 10 (by decide) k_13 (fun _ h9 => h9) rfl hin rfl (by decide +kernel) rfl rfl (Nat.le_of_ble_eq_true rfl) dX5_init_75 (fun H locs hP hD hS => ?_)
  have hP : va_P (dC, dI) vwCl [(h, .inr (5, [.int 1, .ref q_1, .ref q_2, .int 0, .ref q_3, .ref q_4, .ref q_5, .int 0, .ref q_6, .ref q_7, .ref q_8, .int 0, .null, .null, .int 0, .null, .long 0])), (q_1, .inl (cI, 1600, .inl Zi)), (q_2, .inl (cI, 40, .inl Zi)), (q_3, .inl (cJ, 1600, .inr (.inl Zl))), (q_4, .inl (cI, 40, .inl Zi)), (q_5, .inl (cJ, 1600, .inr (.inl Zl))), (q_6, .inl (cI, 164, .inl Zi)), (q_7, .inl (cJ, 41, .inr (.inl Zl))), (q_8, .inl (cI, 1640, .inl Zi))] H := hP
  have hD : va_D A [(h, .inr (5, [.int 1, .ref q_1, .ref q_2, .int 0, .ref q_3, .ref q_4, .ref q_5, .int 0, .ref q_6, .ref q_7, .ref q_8, .int 0, .null, .null, .int 0, .null, .long 0])), (q_1, .inl (cI, 1600, .inl Zi)), (q_2, .inl (cI, 40, .inl Zi)), (q_3, .inl (cJ, 1600, .inr (.inl Zl))), (q_4, .inl (cI, 40, .inl Zi)), (q_5, .inl (cJ, 1600, .inr (.inl Zl))), (q_6, .inl (cI, 164, .inl Zi)), (q_7, .inl (cJ, 41, .inr (.inl Zl))), (q_8, .inl (cI, 1640, .inl Zi))] := hD
  refine lv_aload_n hx hb dX5_init_78 rfl (lv_at hl 0 rfl) ?_
  refine lv_sipush (v := 1600) hx hb dX5_init_79 (by decide) ?_
  refine vn_I (N' := 1600) hx hb k_4 hK hP hD hS hA (by decide) (by decide) (by decide) (Nat.le_of_ble_eq_true rfl) (Nat.le_of_ble_eq_true rfl) dX5_init_82 (fun q_9 H hP hD hS => ?_)
  refine W.widen (k := 9) (n := 8325) (by decide) (by decide) ?_
  have hP : va_P (dC, dI) vwCl [(h, .inr (5, [.int 1, .ref q_1, .ref q_2, .int 0, .ref q_3, .ref q_4, .ref q_5, .int 0, .ref q_6, .ref q_7, .ref q_8, .int 0, .null, .null, .int 0, .null, .long 0])), (q_1, .inl (cI, 1600, .inl Zi)), (q_2, .inl (cI, 40, .inl Zi)), (q_3, .inl (cJ, 1600, .inr (.inl Zl))), (q_4, .inl (cI, 40, .inl Zi)), (q_5, .inl (cJ, 1600, .inr (.inl Zl))), (q_6, .inl (cI, 164, .inl Zi)), (q_7, .inl (cJ, 41, .inr (.inl Zl))), (q_8, .inl (cI, 1640, .inl Zi)), (q_9, .inl (cI, 1600, .inl Zi))] H := hP
  have hD : va_D A [(h, .inr (5, [.int 1, .ref q_1, .ref q_2, .int 0, .ref q_3, .ref q_4, .ref q_5, .int 0, .ref q_6, .ref q_7, .ref q_8, .int 0, .null, .null, .int 0, .null, .long 0])), (q_1, .inl (cI, 1600, .inl Zi)), (q_2, .inl (cI, 40, .inl Zi)), (q_3, .inl (cJ, 1600, .inr (.inl Zl))), (q_4, .inl (cI, 40, .inl Zi)), (q_5, .inl (cJ, 1600, .inr (.inl Zl))), (q_6, .inl (cI, 164, .inl Zi)), (q_7, .inl (cJ, 41, .inr (.inl Zl))), (q_8, .inl (cI, 1640, .inl Zi)), (q_9, .inl (cI, 1600, .inl Zi))] := hD
  refine va_putF (D := (dC, dI)) (ci := 5) (v := .ref q_9) (ty := .array .int) (C := RX5) (T := TX5) (N := 17) hx hb hts i_5 tyX5 tyX5_ok nmX5 hown hK hP hD hS 0 rfl rfl 12 (by decide) k_14 (fun _ h9 => h9) rfl hin rfl (by decide +kernel) rfl rfl (Nat.le_of_ble_eq_true rfl) dX5_init_84 (fun H locs hP hD hS => ?_)
  have hP : va_P (dC, dI) vwCl [(h, .inr (5, [.int 1, .ref q_1, .ref q_2, .int 0, .ref q_3, .ref q_4, .ref q_5, .int 0, .ref q_6, .ref q_7, .ref q_8, .int 0, .ref q_9, .null, .int 0, .null, .long 0])), (q_1, .inl (cI, 1600, .inl Zi)), (q_2, .inl (cI, 40, .inl Zi)), (q_3, .inl (cJ, 1600, .inr (.inl Zl))), (q_4, .inl (cI, 40, .inl Zi)), (q_5, .inl (cJ, 1600, .inr (.inl Zl))), (q_6, .inl (cI, 164, .inl Zi)), (q_7, .inl (cJ, 41, .inr (.inl Zl))), (q_8, .inl (cI, 1640, .inl Zi)), (q_9, .inl (cI, 1600, .inl Zi))] H := hP
  have hD : va_D A [(h, .inr (5, [.int 1, .ref q_1, .ref q_2, .int 0, .ref q_3, .ref q_4, .ref q_5, .int 0, .ref q_6, .ref q_7, .ref q_8, .int 0, .ref q_9, .null, .int 0, .null, .long 0])), (q_1, .inl (cI, 1600, .inl Zi)), (q_2, .inl (cI, 40, .inl Zi)), (q_3, .inl (cJ, 1600, .inr (.inl Zl))), (q_4, .inl (cI, 40, .inl Zi)), (q_5, .inl (cJ, 1600, .inr (.inl Zl))), (q_6, .inl (cI, 164, .inl Zi)), (q_7, .inl (cJ, 41, .inr (.inl Zl))), (q_8, .inl (cI, 1640, .inl Zi)), (q_9, .inl (cI, 1600, .inl Zi))] := hD
  refine lv_aload_n hx hb dX5_init_87 rfl (lv_at hl 0 rfl) ?_
  refine lv_sipush (v := 400) hx hb dX5_init_88 (by decide) ?_
  refine vn_J (N' := 400) hx hb k_7 hK hP hD hS hA (by decide) (by decide) (by decide) (Nat.le_of_ble_eq_true rfl) (Nat.le_of_ble_eq_true rfl) dX5_init_91 (fun q_10 H hP hD hS => ?_)
  refine W.widen (k := 10) (n := 8725) (by decide) (by decide) ?_
  have hP : va_P (dC, dI) vwCl [(h, .inr (5, [.int 1, .ref q_1, .ref q_2, .int 0, .ref q_3, .ref q_4, .ref q_5, .int 0, .ref q_6, .ref q_7, .ref q_8, .int 0, .ref q_9, .null, .int 0, .null, .long 0])), (q_1, .inl (cI, 1600, .inl Zi)), (q_2, .inl (cI, 40, .inl Zi)), (q_3, .inl (cJ, 1600, .inr (.inl Zl))), (q_4, .inl (cI, 40, .inl Zi)), (q_5, .inl (cJ, 1600, .inr (.inl Zl))), (q_6, .inl (cI, 164, .inl Zi)), (q_7, .inl (cJ, 41, .inr (.inl Zl))), (q_8, .inl (cI, 1640, .inl Zi)), (q_9, .inl (cI, 1600, .inl Zi)), (q_10, .inl (cJ, 400, .inr (.inl Zl)))] H := hP
  have hD : va_D A [(h, .inr (5, [.int 1, .ref q_1, .ref q_2, .int 0, .ref q_3, .ref q_4, .ref q_5, .int 0, .ref q_6, .ref q_7, .ref q_8, .int 0, .ref q_9, .null, .int 0, .null, .long 0])), (q_1, .inl (cI, 1600, .inl Zi)), (q_2, .inl (cI, 40, .inl Zi)), (q_3, .inl (cJ, 1600, .inr (.inl Zl))), (q_4, .inl (cI, 40, .inl Zi)), (q_5, .inl (cJ, 1600, .inr (.inl Zl))), (q_6, .inl (cI, 164, .inl Zi)), (q_7, .inl (cJ, 41, .inr (.inl Zl))), (q_8, .inl (cI, 1640, .inl Zi)), (q_9, .inl (cI, 1600, .inl Zi)), (q_10, .inl (cJ, 400, .inr (.inl Zl)))] := hD
  refine va_putF (D := (dC, dI)) (ci := 5) (v := .ref q_10) (ty := .array .long) (C := RX5) (T := TX5) (N := 17) hx hb hts i_5 tyX5 tyX5_ok nmX5 hown hK hP hD hS 0 rfl rfl 13 (by decide) k_15 (fun _ h9 => h9) rfl hin rfl (by decide +kernel) rfl rfl (Nat.le_of_ble_eq_true rfl) dX5_init_93 (fun H locs hP hD hS => ?_)
  have hP : va_P (dC, dI) vwCl [(h, .inr (5, [.int 1, .ref q_1, .ref q_2, .int 0, .ref q_3, .ref q_4, .ref q_5, .int 0, .ref q_6, .ref q_7, .ref q_8, .int 0, .ref q_9, .ref q_10, .int 0, .null, .long 0])), (q_1, .inl (cI, 1600, .inl Zi)), (q_2, .inl (cI, 40, .inl Zi)), (q_3, .inl (cJ, 1600, .inr (.inl Zl))), (q_4, .inl (cI, 40, .inl Zi)), (q_5, .inl (cJ, 1600, .inr (.inl Zl))), (q_6, .inl (cI, 164, .inl Zi)), (q_7, .inl (cJ, 41, .inr (.inl Zl))), (q_8, .inl (cI, 1640, .inl Zi)), (q_9, .inl (cI, 1600, .inl Zi)), (q_10, .inl (cJ, 400, .inr (.inl Zl)))] H := hP
  have hD : va_D A [(h, .inr (5, [.int 1, .ref q_1, .ref q_2, .int 0, .ref q_3, .ref q_4, .ref q_5, .int 0, .ref q_6, .ref q_7, .ref q_8, .int 0, .ref q_9, .ref q_10, .int 0, .null, .long 0])), (q_1, .inl (cI, 1600, .inl Zi)), (q_2, .inl (cI, 40, .inl Zi)), (q_3, .inl (cJ, 1600, .inr (.inl Zl))), (q_4, .inl (cI, 40, .inl Zi)), (q_5, .inl (cJ, 1600, .inr (.inl Zl))), (q_6, .inl (cI, 164, .inl Zi)), (q_7, .inl (cJ, 41, .inr (.inl Zl))), (q_8, .inl (cI, 1640, .inl Zi)), (q_9, .inl (cI, 1600, .inl Zi)), (q_10, .inl (cJ, 400, .inr (.inl Zl)))] := hD
  refine lv_aload_n hx hb dX5_init_96 rfl (lv_at hl 0 rfl) ?_
  refine lv_bipush (v := 40) hx hb dX5_init_97 (by decide) ?_
  refine vn_J (N' := 40) hx hb k_7 hK hP hD hS hA (by decide) (by decide) (by decide) (Nat.le_of_ble_eq_true rfl) (Nat.le_of_ble_eq_true rfl) dX5_init_99 (fun q_11 H hP hD hS => ?_)
  refine W.widen (k := 11) (n := 8765) (by decide) (by decide) ?_
  have hP : va_P (dC, dI) vwCl [(h, .inr (5, [.int 1, .ref q_1, .ref q_2, .int 0, .ref q_3, .ref q_4, .ref q_5, .int 0, .ref q_6, .ref q_7, .ref q_8, .int 0, .ref q_9, .ref q_10, .int 0, .null, .long 0])), (q_1, .inl (cI, 1600, .inl Zi)), (q_2, .inl (cI, 40, .inl Zi)), (q_3, .inl (cJ, 1600, .inr (.inl Zl))), (q_4, .inl (cI, 40, .inl Zi)), (q_5, .inl (cJ, 1600, .inr (.inl Zl))), (q_6, .inl (cI, 164, .inl Zi)), (q_7, .inl (cJ, 41, .inr (.inl Zl))), (q_8, .inl (cI, 1640, .inl Zi)), (q_9, .inl (cI, 1600, .inl Zi)), (q_10, .inl (cJ, 400, .inr (.inl Zl))), (q_11, .inl (cJ, 40, .inr (.inl Zl)))] H := hP
  have hD : va_D A [(h, .inr (5, [.int 1, .ref q_1, .ref q_2, .int 0, .ref q_3, .ref q_4, .ref q_5, .int 0, .ref q_6, .ref q_7, .ref q_8, .int 0, .ref q_9, .ref q_10, .int 0, .null, .long 0])), (q_1, .inl (cI, 1600, .inl Zi)), (q_2, .inl (cI, 40, .inl Zi)), (q_3, .inl (cJ, 1600, .inr (.inl Zl))), (q_4, .inl (cI, 40, .inl Zi)), (q_5, .inl (cJ, 1600, .inr (.inl Zl))), (q_6, .inl (cI, 164, .inl Zi)), (q_7, .inl (cJ, 41, .inr (.inl Zl))), (q_8, .inl (cI, 1640, .inl Zi)), (q_9, .inl (cI, 1600, .inl Zi)), (q_10, .inl (cJ, 400, .inr (.inl Zl))), (q_11, .inl (cJ, 40, .inr (.inl Zl)))] := hD
  refine va_putF (D := (dC, dI)) (ci := 5) (v := .ref q_11) (ty := .array .long) (C := RX5) (T := TX5) (N := 17) hx hb hts i_5 tyX5 tyX5_ok nmX5 hown hK hP hD hS 0 rfl rfl 15 (by decide) k_16 (fun _ h9 => h9) rfl hin rfl (by decide +kernel) rfl rfl (Nat.le_of_ble_eq_true rfl) dX5_init_101 (fun H locs hP hD hS => ?_)
  have hP : va_P (dC, dI) vwCl [(h, .inr (5, [.int 1, .ref q_1, .ref q_2, .int 0, .ref q_3, .ref q_4, .ref q_5, .int 0, .ref q_6, .ref q_7, .ref q_8, .int 0, .ref q_9, .ref q_10, .int 0, .ref q_11, .long 0])), (q_1, .inl (cI, 1600, .inl Zi)), (q_2, .inl (cI, 40, .inl Zi)), (q_3, .inl (cJ, 1600, .inr (.inl Zl))), (q_4, .inl (cI, 40, .inl Zi)), (q_5, .inl (cJ, 1600, .inr (.inl Zl))), (q_6, .inl (cI, 164, .inl Zi)), (q_7, .inl (cJ, 41, .inr (.inl Zl))), (q_8, .inl (cI, 1640, .inl Zi)), (q_9, .inl (cI, 1600, .inl Zi)), (q_10, .inl (cJ, 400, .inr (.inl Zl))), (q_11, .inl (cJ, 40, .inr (.inl Zl)))] H := hP
  have hD : va_D A [(h, .inr (5, [.int 1, .ref q_1, .ref q_2, .int 0, .ref q_3, .ref q_4, .ref q_5, .int 0, .ref q_6, .ref q_7, .ref q_8, .int 0, .ref q_9, .ref q_10, .int 0, .ref q_11, .long 0])), (q_1, .inl (cI, 1600, .inl Zi)), (q_2, .inl (cI, 40, .inl Zi)), (q_3, .inl (cJ, 1600, .inr (.inl Zl))), (q_4, .inl (cI, 40, .inl Zi)), (q_5, .inl (cJ, 1600, .inr (.inl Zl))), (q_6, .inl (cI, 164, .inl Zi)), (q_7, .inl (cJ, 41, .inr (.inl Zl))), (q_8, .inl (cI, 1640, .inl Zi)), (q_9, .inl (cI, 1600, .inl Zi)), (q_10, .inl (cJ, 400, .inr (.inl Zl))), (q_11, .inl (cJ, 40, .inr (.inl Zl)))] := hD
  refine lv_aload_n hx hb dX5_init_104 rfl (lv_at hl 0 rfl) ?_
  refine va_get (D := (dC, dI)) (ci := 5) (v := .ref q_2) (C := RX5) (T := TX5) (N := 17) hx hb hts i_5 hown hK hP 0 rfl rfl 2 (by decide) k_6 (fun _ h9 => h9) rfl dX5_init_105 ?_
  refine lv_iconst (v := 0) hx hb dX5_init_108 (by decide) ?_
  refine lv_iconst (v := 0) hx hb dX5_init_109 (by decide) ?_
  refine va_iast hx hb hK hP hD hS 2 0 rfl rfl (vp_c (by decide)) dX5_init_110 (fun H locs hP hD hS => ?_)
  have hP : va_P (dC, dI) vwCl [(h, .inr (5, [.int 1, .ref q_1, .ref q_2, .int 0, .ref q_3, .ref q_4, .ref q_5, .int 0, .ref q_6, .ref q_7, .ref q_8, .int 0, .ref q_9, .ref q_10, .int 0, .ref q_11, .long 0])), (q_1, .inl (cI, 1600, .inl Zi)), (q_2, .inl (cI, 40, .inl (upd Zi 0 0))), (q_3, .inl (cJ, 1600, .inr (.inl Zl))), (q_4, .inl (cI, 40, .inl Zi)), (q_5, .inl (cJ, 1600, .inr (.inl Zl))), (q_6, .inl (cI, 164, .inl Zi)), (q_7, .inl (cJ, 41, .inr (.inl Zl))), (q_8, .inl (cI, 1640, .inl Zi)), (q_9, .inl (cI, 1600, .inl Zi)), (q_10, .inl (cJ, 400, .inr (.inl Zl))), (q_11, .inl (cJ, 40, .inr (.inl Zl)))] H := hP
  have hD : va_D A [(h, .inr (5, [.int 1, .ref q_1, .ref q_2, .int 0, .ref q_3, .ref q_4, .ref q_5, .int 0, .ref q_6, .ref q_7, .ref q_8, .int 0, .ref q_9, .ref q_10, .int 0, .ref q_11, .long 0])), (q_1, .inl (cI, 1600, .inl Zi)), (q_2, .inl (cI, 40, .inl (upd Zi 0 0))), (q_3, .inl (cJ, 1600, .inr (.inl Zl))), (q_4, .inl (cI, 40, .inl Zi)), (q_5, .inl (cJ, 1600, .inr (.inl Zl))), (q_6, .inl (cI, 164, .inl Zi)), (q_7, .inl (cJ, 41, .inr (.inl Zl))), (q_8, .inl (cI, 1640, .inl Zi)), (q_9, .inl (cI, 1600, .inl Zi)), (q_10, .inl (cJ, 400, .inr (.inl Zl))), (q_11, .inl (cJ, 40, .inr (.inl Zl)))] := hD
  have hP9 := hP.sub (ws' := [(h, .inr (5, [.int 1, .ref q_1, .ref q_2, .int 0, .ref q_3, .ref q_4, .ref q_5, .int 0, .ref q_6, .ref q_7, .ref q_8, .int 0, .ref q_9, .ref q_10, .int 0, .ref q_11, .long 0])), (q_1, .inl (cI, 1600, .inl Zi)), (q_2, .inl (cI, 40, .inl (upd Zi 0 0))), (q_3, .inl (cJ, 1600, .inr (.inl Zl))), (q_4, .inl (cI, 40, .inl Zi)), (q_5, .inl (cJ, 1600, .inr (.inl Zl))), (q_6, .inl (cI, 164, .inl Zi)), (q_7, .inl (cJ, 41, .inr (.inl Zl))), (q_8, .inl (cI, 1640, .inl Zi)), (q_9, .inl (cI, 1600, .inl Zi)), (q_10, .inl (cJ, 400, .inr (.inl Zl))), (q_11, .inl (cJ, 40, .inr (.inl Zl)))]) [0, 1, 2, 3, 4, 5, 6, 7, 8, 9, 10, 11] rfl
  have hD9 := hD.sub (ws' := [(h, .inr (5, [.int 1, .ref q_1, .ref q_2, .int 0, .ref q_3, .ref q_4, .ref q_5, .int 0, .ref q_6, .ref q_7, .ref q_8, .int 0, .ref q_9, .ref q_10, .int 0, .ref q_11, .long 0])), (q_1, .inl (cI, 1600, .inl Zi)), (q_2, .inl (cI, 40, .inl (upd Zi 0 0))), (q_3, .inl (cJ, 1600, .inr (.inl Zl))), (q_4, .inl (cI, 40, .inl Zi)), (q_5, .inl (cJ, 1600, .inr (.inl Zl))), (q_6, .inl (cI, 164, .inl Zi)), (q_7, .inl (cJ, 41, .inr (.inl Zl))), (q_8, .inl (cI, 1640, .inl Zi)), (q_9, .inl (cI, 1600, .inl Zi)), (q_10, .inl (cJ, 400, .inr (.inl Zl))), (q_11, .inl (cJ, 40, .inr (.inl Zl)))]) [0, 1, 2, 3, 4, 5, 6, 7, 8, 9, 10, 11] (by decide) rfl
  exact W.vret hx hb hr (fun t ht hW => ⟨⟨(fun j => ([q_1, q_2, q_3, q_4, q_5, q_6, q_7, q_8, q_9, q_10, q_11] : List Nat).getD j 0), rfl, trivial, by rw [ht]; exact hP9, hD9⟩, hS.F ht⟩) hS.2.2 dX5_init_111
