set_option maxHeartbeats 4000000 in
set_option maxRecDepth 100000 in
theorem c_X0_between (l : Launch) (dC : Nat → ClassId) (dI : Nat → Nat → Nat) (cI cJ : ClassId) (g w d : Nat) (sz : Nat) (fW : Nat → Int32) (z : Int32) (tt : Int32) : Met l yX0_between wsX0_between ({ frames := 0, cells := 0, slots := 0, locals := 0 }) (va_Pc [.ref g, .int 0, .int 0] (pPre dC dI cI cJ sz [(g, .inr (0, [.ref w, .ref d, .int z, .int tt])), (w, .inl (cI, 1600, .inl fW))])) (va_Qi (fun (r : Int32) (_ : Unit) => r = fW 0) (pPost dC dI (va_A [(g, .inr (0, [.ref w, .ref d, .int z, .int tt])), (w, .inl (cI, 1600, .inl fW))] sz) [(g, .inr (0, [.ref w, .ref d, .int z, .int tt])), (w, .inl (cI, 1600, .inl fW))]) (va_A [(g, .inr (0, [.ref w, .ref d, .int z, .int tt])), (w, .inl (cI, 1600, .inl fW))] sz)) 0 0 (va_A [(g, .inr (0, [.ref w, .ref d, .int z, .int tt])), (w, .inl (cI, 1600, .inl fW))] sz) := by
  refine Met.ofW (cc := cX0_between) (maxL := 3) (ret := (some .int)) (by decide) rfl ?_
  intro p e s m args below meth c s₁ B hml hv
  obtain ⟨rfl, hsz, hP, hK, hD0⟩ := hv
  have hx := B.exec
  have hb := B.bytes
  have hr := B.returns
  have hts := atoms_spec (ws := wsX0_between) B.pre
  have hown : s.vm.findClass RX0 = some m.cls := findClass_of_methodNamed B.named
  have hlocks := B.notSynchronized
  subst hsz
  have hD := hD0.self (sz := s.heap.size)
  generalize hAe : va_A [(g, .inr (0, [.ref w, .ref d, .int z, .int tt])), (w, .inl (cI, 1600, .inl fW))] s.heap.size = A at hD ⊢
  have hA : ∀ q : Nat, s.heap.size ≤ q → A q := fun q h => by rw [← hAe]; exact Or.inr h
  have hS : va_S A s.heap s.heap [] := va_S.rf
  have hP : va_P (dC, dI) vwCl [(g, .inr (0, [.ref w, .ref d, .int z, .int tt])), (w, .inl (cI, 1600, .inl fW))] s.heap := hP
  have hl := lv_entry ([.ref g, .int 0, .int 0]) (n := 3) (Nat.le_of_ble_eq_true rfl)
  rw [lg_entry_eq]
  generalize (lg_sl ([.ref g, .int 0, .int 0]) ++ List.replicate (3 - (lg_sl ([.ref g, .int 0, .int 0])).length) Slot.unset).toArray = ls at hl ⊢
  have hl : lv_has ls 3 [(0, .ref g), (1, .int 0), (2, .int 0)] := hl
  have i_0 : ∀ w ∈ wsX00, w ∈ wsX0_between := by decide +kernel
  have k_0 := hts (.fieldLink RX0 9 "CommunityLevels$Graph" "weight" "[I") (by decide +kernel)
  refine lv_aload_n hx hb dX0_between_0 rfl (lv_at hl 0 rfl) ?_
  refine va_get (D := (dC, dI)) (ci := 0) (v := .ref w) (C := RX0) (T := TX0) (N := 4) hx hb hts i_0 hown hK hP 0 rfl rfl 0 (by decide) k_0 (fun _ h9 => h9) rfl dX0_between_1 ?_
  refine lv_iload_n hx hb dX0_between_4 rfl (lv_at hl 1 rfl) ?_
  refine lv_bipush (v := 40) hx hb dX0_between_5 (by decide) ?_
  refine lv_imul hx hb dX0_between_7 ?_
  refine lc_i (v := 0) (by first | rfl | decide) ?_
  refine lv_iload_n hx hb dX0_between_8 rfl (lv_at hl 2 rfl) ?_
  refine lv_iadd hx hb dX0_between_9 ?_
  refine lc_i (v := 0) (by first | rfl | decide) ?_
  refine va_iald hx hb hK hP 1 0 rfl rfl (vp_c (by decide)) dX0_between_10 ?_
  refine lc_i (v := fW 0) (by first | rfl | decide) ?_
  have hP9 := hP.sub (ws' := [(g, .inr (0, [.ref w, .ref d, .int z, .int tt])), (w, .inl (cI, 1600, .inl fW))]) [0, 1] rfl
  have hD9 := hD.sub (ws' := [(g, .inr (0, [.ref w, .ref d, .int z, .int tt])), (w, .inl (cI, 1600, .inl fW))]) [0, 1] (by decide) rfl
  exact W.iret (v := fW 0) hx hb hr (fun t ht hW => ⟨⟨_, (), rfl, rfl, by rw [ht]; exact hP9, hD9⟩, hS.F ht⟩) hS.2.2 dX0_between_11
set_option maxHeartbeats 4000000 in
set_option maxRecDepth 100000 in
theorem c_X0_empty (l : Launch) (dC : Nat → ClassId) (dI : Nat → Nat → Nat) (cI cJ : ClassId) (g w d : Nat) (sz : Nat) (fW : Nat → Int32) (fD : Nat → Int32) (z : Int32) (tt : Int32) (n : Int32) : Met l yX0_empty wsX0_empty ({ frames := 1, cells := 0, slots := 0, locals := 23 }) (va_Pc [.ref g, .int n] (pPre dC dI cI cJ sz [(g, .inr (0, [.ref w, .ref d, .int z, .int tt])), (w, .inl (cI, 1600, .inl fW)), (d, .inl (cI, 40, .inl fD))])) (va_Qv (fun _ : Unit => True) (pPost dC dI (va_A [(g, .inr (0, [.ref w, .ref d, .int z, .int tt])), (w, .inl (cI, 1600, .inl fW)), (d, .inl (cI, 40, .inl fD))] sz) [(g, .inr (0, [.ref w, .ref d, .int n, .int 0])), (w, .inl (cI, 1600, .inl Zi)), (d, .inl (cI, 40, .inl Zi))]) (va_A [(g, .inr (0, [.ref w, .ref d, .int z, .int tt])), (w, .inl (cI, 1600, .inl fW)), (d, .inl (cI, 40, .inl fD))] sz)) 0 0 (va_A [(g, .inr (0, [.ref w, .ref d, .int z, .int tt])), (w, .inl (cI, 1600, .inl fW)), (d, .inl (cI, 40, .inl fD))] sz) := by
  refine Met.ofW (cc := cX0_empty) (maxL := 2) (ret := none) (by decide) rfl ?_
  intro p e s m args below meth c s₁ B hml hv
  obtain ⟨rfl, hsz, hP, hK, hD0⟩ := hv
  have hx := B.exec
  have hb := B.bytes
  have hr := B.returns
  have hts := atoms_spec (ws := wsX0_empty) B.pre
  have hown : s.vm.findClass RX0 = some m.cls := findClass_of_methodNamed B.named
  have hlocks := B.notSynchronized
  subst hsz
  have hD := hD0.self (sz := s.heap.size)
  generalize hAe : va_A [(g, .inr (0, [.ref w, .ref d, .int z, .int tt])), (w, .inl (cI, 1600, .inl fW)), (d, .inl (cI, 40, .inl fD))] s.heap.size = A at hD ⊢
  have hA : ∀ q : Nat, s.heap.size ≤ q → A q := fun q h => by rw [← hAe]; exact Or.inr h
  have hS : va_S A s.heap s.heap [] := va_S.rf
  have hP : va_P (dC, dI) vwCl [(g, .inr (0, [.ref w, .ref d, .int z, .int tt])), (w, .inl (cI, 1600, .inl fW)), (d, .inl (cI, 40, .inl fD))] s.heap := hP
  have hl := lv_entry ([.ref g, .int n]) (n := 2) (Nat.le_of_ble_eq_true rfl)
  rw [lg_entry_eq]
  generalize (lg_sl ([.ref g, .int n]) ++ List.replicate (2 - (lg_sl ([.ref g, .int n])).length) Slot.unset).toArray = ls at hl ⊢
  have hl : lv_has ls 2 [(0, .ref g), (1, .int n)] := hl
  have i_0 : ∀ w ∈ wsX00, w ∈ wsX0_empty := by decide +kernel
  have k_0 := hts (.fieldLink RX0 9 "CommunityLevels$Graph" "weight" "[I") (by decide +kernel)
  have k_1 := hts (.fieldLink RX0 15 "CommunityLevels$Graph" "degree" "[I") (by decide +kernel)
  have k_2 := hts (.fieldLink RX0 18 "CommunityLevels$Graph" "size" "I") (by decide +kernel)
  have k_3 := hts (.fieldLink RX0 22 "CommunityLevels$Graph" "total" "I") (by decide +kernel)
  refine lv_aload_n hx hb dX0_empty_0 rfl (lv_at hl 0 rfl) ?_
  refine va_get (D := (dC, dI)) (ci := 0) (v := .ref w) (C := RX0) (T := TX0) (N := 4) hx hb hts i_0 hown hK hP 0 rfl rfl 0 (by decide) k_0 (fun _ h9 => h9) rfl dX0_empty_1 ?_
  refine lv_iconst (v := 0) hx hb dX0_empty_4 (by decide) ?_
  have hPc := hP.sub (ws' := [(w, .inl (cI, 1600, .inl fW))]) [1] rfl
  have hDc := hD.sub (ws' := [(w, .inl (cI, 1600, .inl fW))]) [1] (by decide) rfl
  have hFc := va_free (wc := [(w, .inl (cI, 1600, .inl fW))]) hD hS hA [1] rfl
  refine va_callv (va_runS (As := [.ref w, .int 0]) (rest := []) ⟨hx, hb, hml, hown, hts⟩ (c_J7_fill_53178 l dC dI cI cJ w s.heap.size 1600 fW 0 (by decide)) (va_cwS 2 hts gX0_empty_J7_fill_53178 rfl rfl rfl (by decide +kernel) ⟨Nat.le_of_ble_eq_true rfl, Nat.le_of_ble_eq_true rfl⟩) ⟨fun a U g mk q => by obtain ⟨q0, q1, qP, qK, qD⟩ := q; exact ⟨q0, q1, qP, va_K.moved (u := U) (U := U.calling g mk a) (Vm.Alike.refl U.vm) qK, qD⟩, fun U hU hW => ⟨rfl, by rw [hU], by rw [hU]; exact hPc, va_K.moved hW.alike hK, hDc.weaken (fun _ _ _ _ => trivial)⟩⟩ rfl rfl hl.1 rfl (lv_room (Nat.le_of_ble_eq_true rfl)) dX0_empty_5 ⟨Nat.le_of_ble_eq_true rfl, Nat.le_of_ble_eq_true rfl⟩) hS (fun q _ h => hFc q h) hFc (fun u_2 t H1 locs ht hvm hw hB hz1 hk1 hS => ?_)
  obtain ⟨hP1, hD1⟩ := hB
  rw [ht] at hP1
  obtain ⟨hP, hD⟩ := va_join (wr := [(g, .inr (0, [.ref w, .ref d, .int z, .int tt])), (d, .inl (cI, 40, .inl fD))]) (w1 := [(w, .inl (cI, 1600, .inl Zi))]) hP hD [1] [0, 2] rfl rfl (by decide) (by decide) hk1 hFc hP1 hD1
  generalize H1 = H at hP hS ⊢
  have hP : va_P (dC, dI) vwCl [(g, .inr (0, [.ref w, .ref d, .int z, .int tt])), (d, .inl (cI, 40, .inl fD)), (w, .inl (cI, 1600, .inl Zi))] H := hP
  have hD : va_D A [(g, .inr (0, [.ref w, .ref d, .int z, .int tt])), (d, .inl (cI, 40, .inl fD)), (w, .inl (cI, 1600, .inl Zi))] := hD
  refine lv_aload_n hx hb dX0_empty_8 rfl (lv_at hl 0 rfl) ?_
  refine va_get (D := (dC, dI)) (ci := 0) (v := .ref d) (C := RX0) (T := TX0) (N := 4) hx hb hts i_0 hown hK hP 0 rfl rfl 1 (by decide) k_1 (fun _ h9 => h9) rfl dX0_empty_9 ?_
  refine lv_iconst (v := 0) hx hb dX0_empty_12 (by decide) ?_
  have hPc := hP.sub (ws' := [(d, .inl (cI, 40, .inl fD))]) [1] rfl
  have hDc := hD.sub (ws' := [(d, .inl (cI, 40, .inl fD))]) [1] (by decide) rfl
  have hFc := va_free (wc := [(d, .inl (cI, 40, .inl fD))]) hD hS hA [1] rfl
  refine va_callv (va_runS (As := [.ref d, .int 0]) (rest := []) ⟨hx, hb, hml, hown, hts⟩ (c_J7_fill_53178 l dC dI cI cJ d H.size 40 fD 0 (by decide)) (va_cwS 2 hts gX0_empty_J7_fill_53178 rfl rfl rfl (by decide +kernel) ⟨Nat.le_of_ble_eq_true rfl, Nat.le_of_ble_eq_true rfl⟩) ⟨fun a U g mk q => by obtain ⟨q0, q1, qP, qK, qD⟩ := q; exact ⟨q0, q1, qP, va_K.moved (u := U) (U := U.calling g mk a) (Vm.Alike.refl U.vm) qK, qD⟩, fun U hU hW => ⟨rfl, by rw [hU], by rw [hU]; exact hPc, va_K.moved hW.alike hK, hDc.weaken (fun _ _ _ _ => trivial)⟩⟩ rfl rfl hl.1 rfl (lv_room (Nat.le_of_ble_eq_true rfl)) dX0_empty_13 ⟨Nat.le_of_ble_eq_true rfl, Nat.le_of_ble_eq_true rfl⟩) hS (fun q _ h => hFc q h) hFc (fun u_4 t H1 locs ht hvm hw hB hz1 hk1 hS => ?_)
  obtain ⟨hP1, hD1⟩ := hB
  rw [ht] at hP1
  obtain ⟨hP, hD⟩ := va_join (wr := [(g, .inr (0, [.ref w, .ref d, .int z, .int tt])), (w, .inl (cI, 1600, .inl Zi))]) (w1 := [(d, .inl (cI, 40, .inl Zi))]) hP hD [1] [0, 2] rfl rfl (by decide) (by decide) hk1 hFc hP1 hD1
  generalize H1 = H at hP hS ⊢
  have hP : va_P (dC, dI) vwCl [(g, .inr (0, [.ref w, .ref d, .int z, .int tt])), (w, .inl (cI, 1600, .inl Zi)), (d, .inl (cI, 40, .inl Zi))] H := hP
  have hD : va_D A [(g, .inr (0, [.ref w, .ref d, .int z, .int tt])), (w, .inl (cI, 1600, .inl Zi)), (d, .inl (cI, 40, .inl Zi))] := hD
  refine lv_aload_n hx hb dX0_empty_16 rfl (lv_at hl 0 rfl) ?_
  refine lv_iload_n hx hb dX0_empty_17 rfl (lv_at hl 1 rfl) ?_
  refine va_put (D := (dC, dI)) (ci := 0) (v := .int n) (ty := .int) (C := RX0) (T := TX0) (N := 4) hx hb hts i_0 tyX0 tyX0_ok nmX0 hown hK hP hD hS 0 rfl rfl 2 (by decide) k_2 (fun _ h9 => h9) rfl (by decide +kernel) rfl rfl (Nat.le_of_ble_eq_true rfl) dX0_empty_18 (fun H locs hP hD hS => ?_)
  have hP : va_P (dC, dI) vwCl [(g, .inr (0, [.ref w, .ref d, .int n, .int tt])), (w, .inl (cI, 1600, .inl Zi)), (d, .inl (cI, 40, .inl Zi))] H := hP
  have hD : va_D A [(g, .inr (0, [.ref w, .ref d, .int n, .int tt])), (w, .inl (cI, 1600, .inl Zi)), (d, .inl (cI, 40, .inl Zi))] := hD
  refine lv_aload_n hx hb dX0_empty_21 rfl (lv_at hl 0 rfl) ?_
  refine lv_iconst (v := 0) hx hb dX0_empty_22 (by decide) ?_
  refine va_put (D := (dC, dI)) (ci := 0) (v := .int 0) (ty := .int) (C := RX0) (T := TX0) (N := 4) hx hb hts i_0 tyX0 tyX0_ok nmX0 hown hK hP hD hS 0 rfl rfl 3 (by decide) k_3 (fun _ h9 => h9) rfl (by decide +kernel) rfl rfl (Nat.le_of_ble_eq_true rfl) dX0_empty_23 (fun H locs hP hD hS => ?_)
  have hP : va_P (dC, dI) vwCl [(g, .inr (0, [.ref w, .ref d, .int n, .int 0])), (w, .inl (cI, 1600, .inl Zi)), (d, .inl (cI, 40, .inl Zi))] H := hP
  have hD : va_D A [(g, .inr (0, [.ref w, .ref d, .int n, .int 0])), (w, .inl (cI, 1600, .inl Zi)), (d, .inl (cI, 40, .inl Zi))] := hD
  have hP9 := hP.sub (ws' := [(g, .inr (0, [.ref w, .ref d, .int n, .int 0])), (w, .inl (cI, 1600, .inl Zi)), (d, .inl (cI, 40, .inl Zi))]) [0, 1, 2] rfl
  have hD9 := hD.sub (ws' := [(g, .inr (0, [.ref w, .ref d, .int n, .int 0])), (w, .inl (cI, 1600, .inl Zi)), (d, .inl (cI, 40, .inl Zi))]) [0, 1, 2] (by decide) rfl
  exact W.vret hx hb hr (fun t ht hW => ⟨⟨(), rfl, trivial, by rw [ht]; exact hP9, hD9⟩, hS.F ht⟩) hS.2.2 dX0_empty_26
set_option maxHeartbeats 4000000 in
set_option maxRecDepth 100000 in
theorem c_X0_add (l : Launch) (dC : Nat → ClassId) (dI : Nat → Nat → Nat) (cI cJ : ClassId) (g w d : Nat) (sz : Nat) (n : Int32) : Met l yX0_add wsX0_add ({ frames := 0, cells := 0, slots := 0, locals := 0 }) (va_Pc [.ref g, .int 0, .int 0, .int n] (pPre dC dI cI cJ sz [(g, .inr (0, [.ref w, .ref d, .int 1, .int 0])), (w, .inl (cI, 1600, .inl Zi)), (d, .inl (cI, 40, .inl Zi))])) (va_Qv (fun _ : Unit => True) (pPost dC dI (va_A [(g, .inr (0, [.ref w, .ref d, .int 1, .int 0])), (w, .inl (cI, 1600, .inl Zi)), (d, .inl (cI, 40, .inl Zi))] sz) []) (va_A [(g, .inr (0, [.ref w, .ref d, .int 1, .int 0])), (w, .inl (cI, 1600, .inl Zi)), (d, .inl (cI, 40, .inl Zi))] sz)) 0 0 (va_A [(g, .inr (0, [.ref w, .ref d, .int 1, .int 0])), (w, .inl (cI, 1600, .inl Zi)), (d, .inl (cI, 40, .inl Zi))] sz) := by
  refine Met.ofW (cc := cX0_add) (maxL := 4) (ret := none) (by decide) rfl ?_
  intro p e s m args below meth c s₁ B hml hv
  obtain ⟨rfl, hsz, hP, hK, hD0⟩ := hv
  have hx := B.exec
  have hb := B.bytes
  have hr := B.returns
  have hts := atoms_spec (ws := wsX0_add) B.pre
  have hown : s.vm.findClass RX0 = some m.cls := findClass_of_methodNamed B.named
  have hlocks := B.notSynchronized
  subst hsz
  have hD := hD0.self (sz := s.heap.size)
  generalize hAe : va_A [(g, .inr (0, [.ref w, .ref d, .int 1, .int 0])), (w, .inl (cI, 1600, .inl Zi)), (d, .inl (cI, 40, .inl Zi))] s.heap.size = A at hD ⊢
  have hA : ∀ q : Nat, s.heap.size ≤ q → A q := fun q h => by rw [← hAe]; exact Or.inr h
  have hS : va_S A s.heap s.heap [] := va_S.rf
  have hP : va_P (dC, dI) vwCl [(g, .inr (0, [.ref w, .ref d, .int 1, .int 0])), (w, .inl (cI, 1600, .inl Zi)), (d, .inl (cI, 40, .inl Zi))] s.heap := hP
  have hl := lv_entry ([.ref g, .int 0, .int 0, .int n]) (n := 4) (Nat.le_of_ble_eq_true rfl)
  rw [lg_entry_eq]
  generalize (lg_sl ([.ref g, .int 0, .int 0, .int n]) ++ List.replicate (4 - (lg_sl ([.ref g, .int 0, .int 0, .int n])).length) Slot.unset).toArray = ls at hl ⊢
  have hl : lv_has ls 4 [(0, .ref g), (1, .int 0), (2, .int 0), (3, .int n)] := hl
  have i_0 : ∀ w ∈ wsX00, w ∈ wsX0_add := by decide +kernel
  have k_0 := hts (.fieldLink RX0 9 "CommunityLevels$Graph" "weight" "[I") (by decide +kernel)
  have k_1 := hts (.fieldLink RX0 15 "CommunityLevels$Graph" "degree" "[I") (by decide +kernel)
  have k_2 := hts (.fieldLink RX0 22 "CommunityLevels$Graph" "total" "I") (by decide +kernel)
  refine lv_aload_n hx hb dX0_add_0 rfl (lv_at hl 0 rfl) ?_
  refine va_get (D := (dC, dI)) (ci := 0) (v := .ref w) (C := RX0) (T := TX0) (N := 4) hx hb hts i_0 hown hK hP 0 rfl rfl 0 (by decide) k_0 (fun _ h9 => h9) rfl dX0_add_1 ?_
  refine lv_iload_n hx hb dX0_add_4 rfl (lv_at hl 1 rfl) ?_
  refine lv_bipush (v := 40) hx hb dX0_add_5 (by decide) ?_
  refine lv_imul hx hb dX0_add_7 ?_
  refine lc_i (v := 0) (by first | rfl | decide) ?_
  refine lv_iload_n hx hb dX0_add_8 rfl (lv_at hl 2 rfl) ?_
  refine lv_iadd hx hb dX0_add_9 ?_
  refine lc_i (v := 0) (by first | rfl | decide) ?_
  refine lv_dup2_11 hx hb dX0_add_10 rfl rfl ?_
  refine va_iald hx hb hK hP 1 0 rfl rfl (vp_c (by decide)) dX0_add_11 ?_
  refine lc_i (v := 0) (by first | rfl | decide) ?_
  refine lv_iload_n hx hb dX0_add_12 rfl (lv_at hl 3 rfl) ?_
  refine lv_iadd hx hb dX0_add_13 ?_
  refine va_iast hx hb hK hP hD hS 1 0 rfl rfl (vp_c (by decide)) dX0_add_14 (fun H locs hP hD hS => ?_)
  have hP : va_P (dC, dI) vwCl [(g, .inr (0, [.ref w, .ref d, .int 1, .int 0])), (w, .inl (cI, 1600, .inl (upd Zi 0 (0 + n)))), (d, .inl (cI, 40, .inl Zi))] H := hP
  have hD : va_D A [(g, .inr (0, [.ref w, .ref d, .int 1, .int 0])), (w, .inl (cI, 1600, .inl (upd Zi 0 (0 + n)))), (d, .inl (cI, 40, .inl Zi))] := hD
  refine lv_iload_n hx hb dX0_add_15 rfl (lv_at hl 1 rfl) ?_
  refine lv_iload_n hx hb dX0_add_16 rfl (lv_at hl 2 rfl) ?_
  refine lv_icmp_eq (tgt := 35) hx hb dX0_add_17 (by decide) (fun c_1 => ?_) (fun c_1 => ?_)
  rotate_left
  · exact absurd (by decide) c_1
  refine lv_aload_n hx hb dX0_add_35 rfl (lv_at hl 0 rfl) ?_
  refine va_get (D := (dC, dI)) (ci := 0) (v := .ref d) (C := RX0) (T := TX0) (N := 4) hx hb hts i_0 hown hK hP 0 rfl rfl 1 (by decide) k_1 (fun _ h9 => h9) rfl dX0_add_36 ?_
  refine lv_iload_n hx hb dX0_add_39 rfl (lv_at hl 1 rfl) ?_
  refine lv_dup2_11 hx hb dX0_add_40 rfl rfl ?_
  refine va_iald hx hb hK hP 2 0 rfl rfl (vp_c (by decide)) dX0_add_41 ?_
  refine lc_i (v := 0) (by first | rfl | decide) ?_
  refine lv_iload_n hx hb dX0_add_42 rfl (lv_at hl 3 rfl) ?_
  refine lv_iadd hx hb dX0_add_43 ?_
  refine va_iast hx hb hK hP hD hS 2 0 rfl rfl (vp_c (by decide)) dX0_add_44 (fun H locs hP hD hS => ?_)
  have hP : va_P (dC, dI) vwCl [(g, .inr (0, [.ref w, .ref d, .int 1, .int 0])), (w, .inl (cI, 1600, .inl (upd Zi 0 (0 + n)))), (d, .inl (cI, 40, .inl (upd Zi 0 (0 + n))))] H := hP
  have hD : va_D A [(g, .inr (0, [.ref w, .ref d, .int 1, .int 0])), (w, .inl (cI, 1600, .inl (upd Zi 0 (0 + n)))), (d, .inl (cI, 40, .inl (upd Zi 0 (0 + n))))] := hD
  refine lv_aload_n hx hb dX0_add_45 rfl (lv_at hl 0 rfl) ?_
  refine va_get (D := (dC, dI)) (ci := 0) (v := .ref d) (C := RX0) (T := TX0) (N := 4) hx hb hts i_0 hown hK hP 0 rfl rfl 1 (by decide) k_1 (fun _ h9 => h9) rfl dX0_add_46 ?_
  refine lv_iload_n hx hb dX0_add_49 rfl (lv_at hl 2 rfl) ?_
  refine lv_dup2_11 hx hb dX0_add_50 rfl rfl ?_
  refine va_iald hx hb hK hP 2 0 rfl rfl (vp_c (by decide)) dX0_add_51 ?_
  refine lc_i (v := 0 + n) (by first | rfl | decide) ?_
  refine lv_iload_n hx hb dX0_add_52 rfl (lv_at hl 3 rfl) ?_
  refine lv_iadd hx hb dX0_add_53 ?_
  refine va_iast hx hb hK hP hD hS 2 0 rfl rfl (vp_c (by decide)) dX0_add_54 (fun H locs hP hD hS => ?_)
  have hP : va_P (dC, dI) vwCl [(g, .inr (0, [.ref w, .ref d, .int 1, .int 0])), (w, .inl (cI, 1600, .inl (upd Zi 0 (0 + n)))), (d, .inl (cI, 40, .inl (upd (upd Zi 0 (0 + n)) 0 ((0 + n) + n))))] H := hP
  have hD : va_D A [(g, .inr (0, [.ref w, .ref d, .int 1, .int 0])), (w, .inl (cI, 1600, .inl (upd Zi 0 (0 + n)))), (d, .inl (cI, 40, .inl (upd (upd Zi 0 (0 + n)) 0 ((0 + n) + n))))] := hD
  refine lv_aload_n hx hb dX0_add_55 rfl (lv_at hl 0 rfl) ?_
  refine lv_dup hx hb dX0_add_56 rfl ?_
  refine va_get (D := (dC, dI)) (ci := 0) (v := .int 0) (C := RX0) (T := TX0) (N := 4) hx hb hts i_0 hown hK hP 0 rfl rfl 3 (by decide) k_2 (fun _ h9 => h9) rfl dX0_add_57 ?_
  refine lv_iload_n hx hb dX0_add_60 rfl (lv_at hl 3 rfl) ?_
  refine lv_iadd hx hb dX0_add_61 ?_
  refine va_put (D := (dC, dI)) (ci := 0) (v := .int (0 + n)) (ty := .int) (C := RX0) (T := TX0) (N := 4) hx hb hts i_0 tyX0 tyX0_ok nmX0 hown hK hP hD hS 0 rfl rfl 3 (by decide) k_2 (fun _ h9 => h9) rfl (by decide +kernel) rfl rfl (Nat.le_of_ble_eq_true rfl) dX0_add_62 (fun H locs hP hD hS => ?_)
  have hP : va_P (dC, dI) vwCl [(g, .inr (0, [.ref w, .ref d, .int 1, .int (0 + n)])), (w, .inl (cI, 1600, .inl (upd Zi 0 (0 + n)))), (d, .inl (cI, 40, .inl (upd (upd Zi 0 (0 + n)) 0 ((0 + n) + n))))] H := hP
  have hD : va_D A [(g, .inr (0, [.ref w, .ref d, .int 1, .int (0 + n)])), (w, .inl (cI, 1600, .inl (upd Zi 0 (0 + n)))), (d, .inl (cI, 40, .inl (upd (upd Zi 0 (0 + n)) 0 ((0 + n) + n))))] := hD
  have hP9 := hP.sub (ws' := []) [] rfl
  have hD9 := hD.sub (ws' := []) [] (by decide) rfl
  exact W.vret hx hb hr (fun t ht hW => ⟨⟨(), rfl, trivial, by rw [ht]; exact hP9, hD9⟩, hS.F ht⟩) hS.2.2 dX0_add_65
set_option maxHeartbeats 4000000 in
set_option maxRecDepth 100000 in
theorem c_X0_contract (l : Launch) (dC : Nat → ClassId) (dI : Nat → Nat → Nat) (cI cJ : ClassId) (g w d g2 w2 d2 ia : Nat) (sz : Nat) (fW : Nat → Int32) (fD : Nat → Int32) (z : Int32) (tt : Int32) (fA : Nat → Int32) : Met l yX0_contract wsX0_contract ({ frames := 2, cells := 0, slots := 0, locals := 44 }) (va_Pc [.ref g, .ref g2, .ref ia, .int 1] (pPre dC dI cI cJ sz [(g, .inr (0, [.ref w, .ref d, .int z, .int tt])), (w, .inl (cI, 1600, .inl fW)), (d, .inl (cI, 40, .inl fD)), (g2, .inr (0, [.ref w2, .ref d2, .int 1, .int 0])), (w2, .inl (cI, 1600, .inl Zi)), (ia, .inl (cI, 40, .inl fA))])) (va_Qv (fun _ : Unit => True) (pPost dC dI (va_A [(g, .inr (0, [.ref w, .ref d, .int z, .int tt])), (w, .inl (cI, 1600, .inl fW)), (d, .inl (cI, 40, .inl fD)), (g2, .inr (0, [.ref w2, .ref d2, .int 1, .int 0])), (w2, .inl (cI, 1600, .inl Zi)), (ia, .inl (cI, 40, .inl fA))] sz) [(g, .inr (0, [.ref w, .ref d, .int 1, .int 0])), (w, .inl (cI, 1600, .inl Zi)), (d, .inl (cI, 40, .inl Zi)), (g2, .inr (0, [.ref w2, .ref d2, .int 1, .int 0])), (w2, .inl (cI, 1600, .inl Zi)), (ia, .inl (cI, 40, .inl fA))]) (va_A [(g, .inr (0, [.ref w, .ref d, .int z, .int tt])), (w, .inl (cI, 1600, .inl fW)), (d, .inl (cI, 40, .inl fD)), (g2, .inr (0, [.ref w2, .ref d2, .int 1, .int 0])), (w2, .inl (cI, 1600, .inl Zi)), (ia, .inl (cI, 40, .inl fA))] sz)) 0 0 (va_A [(g, .inr (0, [.ref w, .ref d, .int z, .int tt])), (w, .inl (cI, 1600, .inl fW)), (d, .inl (cI, 40, .inl fD)), (g2, .inr (0, [.ref w2, .ref d2, .int 1, .int 0])), (w2, .inl (cI, 1600, .inl Zi)), (ia, .inl (cI, 40, .inl fA))] sz) := by
  refine Met.ofW (cc := cX0_contract) (maxL := 7) (ret := none) (by decide) rfl ?_
  intro p e s m args below meth c s₁ B hml hv
  obtain ⟨rfl, hsz, hP, hK, hD0⟩ := hv
  have hx := B.exec
  have hb := B.bytes
  have hr := B.returns
  have hts := atoms_spec (ws := wsX0_contract) B.pre
  have hown : s.vm.findClass RX0 = some m.cls := findClass_of_methodNamed B.named
  have hlocks := B.notSynchronized
  subst hsz
  have hD := hD0.self (sz := s.heap.size)
  generalize hAe : va_A [(g, .inr (0, [.ref w, .ref d, .int z, .int tt])), (w, .inl (cI, 1600, .inl fW)), (d, .inl (cI, 40, .inl fD)), (g2, .inr (0, [.ref w2, .ref d2, .int 1, .int 0])), (w2, .inl (cI, 1600, .inl Zi)), (ia, .inl (cI, 40, .inl fA))] s.heap.size = A at hD ⊢
  have hA : ∀ q : Nat, s.heap.size ≤ q → A q := fun q h => by rw [← hAe]; exact Or.inr h
  have hS : va_S A s.heap s.heap [] := va_S.rf
  have hP : va_P (dC, dI) vwCl [(g, .inr (0, [.ref w, .ref d, .int z, .int tt])), (w, .inl (cI, 1600, .inl fW)), (d, .inl (cI, 40, .inl fD)), (g2, .inr (0, [.ref w2, .ref d2, .int 1, .int 0])), (w2, .inl (cI, 1600, .inl Zi)), (ia, .inl (cI, 40, .inl fA))] s.heap := hP
  have hl := lv_entry ([.ref g, .ref g2, .ref ia, .int 1]) (n := 7) (Nat.le_of_ble_eq_true rfl)
  rw [lg_entry_eq]
  generalize (lg_sl ([.ref g, .ref g2, .ref ia, .int 1]) ++ List.replicate (7 - (lg_sl ([.ref g, .ref g2, .ref ia, .int 1])).length) Slot.unset).toArray = ls at hl ⊢
  have hl : lv_has ls 7 [(0, .ref g), (1, .ref g2), (2, .ref ia), (3, .int 1)] := hl
  have i_0 : ∀ w ∈ wsX00, w ∈ wsX0_contract := by decide +kernel
  have k_0 := hts (.fieldLink RX0 18 "CommunityLevels$Graph" "size" "I") (by decide +kernel)
  refine lv_aload_n hx hb dX0_contract_0 rfl (lv_at hl 0 rfl) ?_
  refine lv_iload_n hx hb dX0_contract_1 rfl (lv_at hl 3 rfl) ?_
  have hPc := hP.sub (ws' := [(g, .inr (0, [.ref w, .ref d, .int z, .int tt])), (w, .inl (cI, 1600, .inl fW)), (d, .inl (cI, 40, .inl fD))]) [0, 1, 2] rfl
  have hDc := hD.sub (ws' := [(g, .inr (0, [.ref w, .ref d, .int z, .int tt])), (w, .inl (cI, 1600, .inl fW)), (d, .inl (cI, 40, .inl fD))]) [0, 1, 2] (by decide) rfl
  have hFc := va_free (wc := [(g, .inr (0, [.ref w, .ref d, .int z, .int tt])), (w, .inl (cI, 1600, .inl fW)), (d, .inl (cI, 40, .inl fD))]) hD hS hA [0, 1, 2] rfl
  refine va_callv (va_runV (As := [.int 1]) (rest := []) ⟨hx, hb, hml, hown, hts⟩ (c_X0_empty l dC dI cI cJ g w d s.heap.size fW fD z tt 1) (cwV 1 hts gX0_contract_X0_empty rfl rfl rfl (by decide +kernel) ⟨Nat.le_of_ble_eq_true rfl, Nat.le_of_ble_eq_true rfl⟩) ⟨fun a U g mk q => by obtain ⟨q0, q1, qP, qK, qD⟩ := q; exact ⟨q0, q1, qP, va_K.moved (u := U) (U := U.calling g mk a) (Vm.Alike.refl U.vm) qK, qD⟩, va_recv hK hPc (ci := 0) (q0 := 0) rfl rfl, fun U hU hW => ⟨rfl, by rw [hU], by rw [hU]; exact hPc, va_K.moved hW.alike hK, hDc.weaken (fun _ _ _ _ => trivial)⟩⟩ rfl rfl hl.1 rfl (lv_room (Nat.le_of_ble_eq_true rfl)) dX0_contract_2 ⟨Nat.le_of_ble_eq_true rfl, Nat.le_of_ble_eq_true rfl⟩) hS (fun q _ h => hFc q h) hFc (fun u_2 t H1 locs ht hvm hw hB hz1 hk1 hS => ?_)
  obtain ⟨hP1, hD1⟩ := hB
  rw [ht] at hP1
  obtain ⟨hP, hD⟩ := va_join (wr := [(g2, .inr (0, [.ref w2, .ref d2, .int 1, .int 0])), (w2, .inl (cI, 1600, .inl Zi)), (ia, .inl (cI, 40, .inl fA))]) (w1 := [(g, .inr (0, [.ref w, .ref d, .int 1, .int 0])), (w, .inl (cI, 1600, .inl Zi)), (d, .inl (cI, 40, .inl Zi))]) hP hD [0, 1, 2] [3, 4, 5] rfl rfl (by decide) (by decide) hk1 hFc hP1 hD1
  generalize H1 = H at hP hS ⊢
  have hP : va_P (dC, dI) vwCl [(g2, .inr (0, [.ref w2, .ref d2, .int 1, .int 0])), (w2, .inl (cI, 1600, .inl Zi)), (ia, .inl (cI, 40, .inl fA)), (g, .inr (0, [.ref w, .ref d, .int 1, .int 0])), (w, .inl (cI, 1600, .inl Zi)), (d, .inl (cI, 40, .inl Zi))] H := hP
  have hD : va_D A [(g2, .inr (0, [.ref w2, .ref d2, .int 1, .int 0])), (w2, .inl (cI, 1600, .inl Zi)), (ia, .inl (cI, 40, .inl fA)), (g, .inr (0, [.ref w, .ref d, .int 1, .int 0])), (w, .inl (cI, 1600, .inl Zi)), (d, .inl (cI, 40, .inl Zi))] := hD
  refine lv_iconst (v := 0) hx hb dX0_contract_5 (by decide) ?_
  refine lv_istore (lv' := [(4, .int 0), (0, .ref g), (1, .ref g2), (2, .ref ia), (3, .int 1)]) hx hb dX0_contract_6 hl (by decide) rfl (fun ls hl => ?_)
  refine lv_iload hx hb dX0_contract_8 (lv_at hl 0 rfl) ?_
  refine lv_aload_n hx hb dX0_contract_10 rfl (lv_at hl 2 rfl) ?_
  refine va_get (D := (dC, dI)) (ci := 0) (v := .int 1) (C := RX0) (T := TX0) (N := 4) hx hb hts i_0 hown hK hP 0 rfl rfl 2 (by decide) k_0 (fun _ h9 => h9) rfl dX0_contract_11 ?_
  refine lv_icmp_ge (tgt := 71) hx hb dX0_contract_14 (by decide) (fun c_3 => ?_) (fun c_3 => ?_)
  · exact absurd c_3 (by decide)
  refine lv_iload hx hb dX0_contract_17 (lv_at hl 0 rfl) ?_
  refine lv_istore (lv' := [(5, .int 0), (4, .int 0), (0, .ref g), (1, .ref g2), (2, .ref ia), (3, .int 1)]) hx hb dX0_contract_19 hl (by decide) rfl (fun ls hl => ?_)
  refine lv_iload hx hb dX0_contract_21 (lv_at hl 0 rfl) ?_
  refine lv_aload_n hx hb dX0_contract_23 rfl (lv_at hl 3 rfl) ?_
  refine va_get (D := (dC, dI)) (ci := 0) (v := .int 1) (C := RX0) (T := TX0) (N := 4) hx hb hts i_0 hown hK hP 0 rfl rfl 2 (by decide) k_0 (fun _ h9 => h9) rfl dX0_contract_24 ?_
  refine lv_icmp_ge (tgt := 65) hx hb dX0_contract_27 (by decide) (fun c_4 => ?_) (fun c_4 => ?_)
  · exact absurd c_4 (by decide)
  refine lv_aload_n hx hb dX0_contract_30 rfl (lv_at hl 3 rfl) ?_
  refine lv_iload hx hb dX0_contract_31 (lv_at hl 1 rfl) ?_
  refine lv_iload hx hb dX0_contract_33 (lv_at hl 0 rfl) ?_
  have hPc := hP.sub (ws' := [(g2, .inr (0, [.ref w2, .ref d2, .int 1, .int 0])), (w2, .inl (cI, 1600, .inl Zi))]) [0, 1] rfl
  have hDc := hD.sub (ws' := [(g2, .inr (0, [.ref w2, .ref d2, .int 1, .int 0])), (w2, .inl (cI, 1600, .inl Zi))]) [0, 1] (by decide) rfl
  have hFc := va_free (wc := [(g2, .inr (0, [.ref w2, .ref d2, .int 1, .int 0])), (w2, .inl (cI, 1600, .inl Zi))]) hD hS hA [0, 1] rfl
  refine va_calli (va_runV (As := [.int 0, .int 0]) (rest := []) ⟨hx, hb, hml, hown, hts⟩ (c_X0_between l dC dI cI cJ g2 w2 d2 H.size Zi 1 0) (cwV 2 hts gX0_contract_X0_between rfl rfl rfl (by decide +kernel) ⟨Nat.le_of_ble_eq_true rfl, Nat.le_of_ble_eq_true rfl⟩) ⟨fun a U g mk q => by obtain ⟨q0, q1, qP, qK, qD⟩ := q; exact ⟨q0, q1, qP, va_K.moved (u := U) (U := U.calling g mk a) (Vm.Alike.refl U.vm) qK, qD⟩, va_recv hK hPc (ci := 0) (q0 := 0) rfl rfl, fun U hU hW => ⟨rfl, by rw [hU], by rw [hU]; exact hPc, va_K.moved hW.alike hK, hDc.weaken (fun _ _ _ _ => trivial)⟩⟩ rfl rfl hl.1 rfl (lv_room (Nat.le_of_ble_eq_true rfl)) dX0_contract_35 ⟨Nat.le_of_ble_eq_true rfl, Nat.le_of_ble_eq_true rfl⟩) hS (fun q _ h => hFc q h) hFc (fun r_5 u_6 t H1 locs ht hvm hw hB hz1 hk1 hS => ?_)
  obtain ⟨hP1, hD1⟩ := hB
  rw [ht] at hP1
  obtain ⟨hP, hD⟩ := va_join (wr := [(ia, .inl (cI, 40, .inl fA)), (g, .inr (0, [.ref w, .ref d, .int 1, .int 0])), (w, .inl (cI, 1600, .inl Zi)), (d, .inl (cI, 40, .inl Zi))]) (w1 := [(g2, .inr (0, [.ref w2, .ref d2, .int 1, .int 0])), (w2, .inl (cI, 1600, .inl Zi))]) hP hD [0, 1] [2, 3, 4, 5] rfl rfl (by decide) (by decide) hk1 hFc hP1 hD1
  generalize H1 = H at hP hS ⊢
  have hP : va_P (dC, dI) vwCl [(ia, .inl (cI, 40, .inl fA)), (g, .inr (0, [.ref w, .ref d, .int 1, .int 0])), (w, .inl (cI, 1600, .inl Zi)), (d, .inl (cI, 40, .inl Zi)), (g2, .inr (0, [.ref w2, .ref d2, .int 1, .int 0])), (w2, .inl (cI, 1600, .inl Zi))] H := hP
  have hD : va_D A [(ia, .inl (cI, 40, .inl fA)), (g, .inr (0, [.ref w, .ref d, .int 1, .int 0])), (w, .inl (cI, 1600, .inl Zi)), (d, .inl (cI, 40, .inl Zi)), (g2, .inr (0, [.ref w2, .ref d2, .int 1, .int 0])), (w2, .inl (cI, 1600, .inl Zi))] := hD
  obtain rfl : r_5 = 0 := hw
  refine lv_istore (lv' := [(6, .int 0), (5, .int 0), (4, .int 0), (0, .ref g), (1, .ref g2), (2, .ref ia), (3, .int 1)]) hx hb dX0_contract_38 hl (by decide) rfl (fun ls hl => ?_)
  refine lv_iload hx hb dX0_contract_40 (lv_at hl 0 rfl) ?_
  refine lv_if_eq (tgt := 59) hx hb dX0_contract_42 (by decide) (fun c_7 => ?_) (fun c_7 => ?_)
  rotate_left
  · exact absurd (by decide) c_7
  refine lv_iinc (v := 1) (lv' := [(5, .int 1), (6, .int 0), (4, .int 0), (0, .ref g), (1, .ref g2), (2, .ref ia), (3, .int 1)]) hx hb dX0_contract_59 hl (k := 1) rfl (by decide) (by decide) rfl (fun ls hl => ?_)
  refine lv_goto (tgt := 21) hx hb dX0_contract_62 (by decide) ?_
  refine lv_iload hx hb dX0_contract_21 (lv_at hl 0 rfl) ?_
  refine lv_aload_n hx hb dX0_contract_23 rfl (lv_at hl 4 rfl) ?_
  refine va_get (D := (dC, dI)) (ci := 0) (v := .int 1) (C := RX0) (T := TX0) (N := 4) hx hb hts i_0 hown hK hP 4 rfl rfl 2 (by decide) k_0 (fun _ h9 => h9) rfl dX0_contract_24 ?_
  refine lv_icmp_ge (tgt := 65) hx hb dX0_contract_27 (by decide) (fun c_8 => ?_) (fun c_8 => ?_)
  rotate_left
  · exact absurd (by decide) c_8
  refine lv_iinc (v := 1) (lv' := [(4, .int 1), (5, .int 1), (6, .int 0), (0, .ref g), (1, .ref g2), (2, .ref ia), (3, .int 1)]) hx hb dX0_contract_65 hl (k := 2) rfl (by decide) (by decide) rfl (fun ls hl => ?_)
  refine lv_goto (tgt := 8) hx hb dX0_contract_68 (by decide) ?_
  refine lv_iload hx hb dX0_contract_8 (lv_at hl 0 rfl) ?_
  refine lv_aload_n hx hb dX0_contract_10 rfl (lv_at hl 4 rfl) ?_
  refine va_get (D := (dC, dI)) (ci := 0) (v := .int 1) (C := RX0) (T := TX0) (N := 4) hx hb hts i_0 hown hK hP 4 rfl rfl 2 (by decide) k_0 (fun _ h9 => h9) rfl dX0_contract_11 ?_
  refine lv_icmp_ge (tgt := 71) hx hb dX0_contract_14 (by decide) (fun c_9 => ?_) (fun c_9 => ?_)
  rotate_left
  · exact absurd (by decide) c_9
  have hP9 := hP.sub (ws' := [(g, .inr (0, [.ref w, .ref d, .int 1, .int 0])), (w, .inl (cI, 1600, .inl Zi)), (d, .inl (cI, 40, .inl Zi)), (g2, .inr (0, [.ref w2, .ref d2, .int 1, .int 0])), (w2, .inl (cI, 1600, .inl Zi)), (ia, .inl (cI, 40, .inl fA))]) [1, 2, 3, 4, 5, 0] rfl
  have hD9 := hD.sub (ws' := [(g, .inr (0, [.ref w, .ref d, .int 1, .int 0])), (w, .inl (cI, 1600, .inl Zi)), (d, .inl (cI, 40, .inl Zi)), (g2, .inr (0, [.ref w2, .ref d2, .int 1, .int 0])), (w2, .inl (cI, 1600, .inl Zi)), (ia, .inl (cI, 40, .inl fA))]) [1, 2, 3, 4, 5, 0] (by decide) rfl
  exact W.vret hx hb hr (fun t ht hW => ⟨⟨(), rfl, trivial, by rw [ht]; exact hP9, hD9⟩, hS.F ht⟩) hS.2.2 dX0_contract_71
