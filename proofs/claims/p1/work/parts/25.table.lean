set_option maxHeartbeats 4000000 in
set_option maxRecDepth 100000 in
theorem c_X2_append (l : Launch) (dC : Nat → ClassId) (dI : Nat → Nat → Nat) (cI cJ : ClassId) (t tf th tc ia : Nat) (sz : Nat) (fA : Nat → Int32) : Met l yX2_append wsX2_append ({ frames := 1, cells := 0, slots := 0, locals := 40 }) (va_Pc [.ref t, .ref ia, .long 0, .int 1, .int 1, .int 1, .int 0] (pPre dC dI cI cJ sz [(t, .inr (2, [.ref tf, .ref th, .ref tc, .int 0])), (tf, .inl (cI, 160, .inl Zi)), (th, .inl (cI, 1600, .inl Zi)), (tc, .inl (cJ, 40, .inr (.inl Zl))), (ia, .inl (cI, 40, .inl fA))])) (va_Qv (fun _ : Unit => True) (pPost dC dI (va_A [(t, .inr (2, [.ref tf, .ref th, .ref tc, .int 0])), (tf, .inl (cI, 160, .inl Zi)), (th, .inl (cI, 1600, .inl Zi)), (tc, .inl (cJ, 40, .inr (.inl Zl))), (ia, .inl (cI, 40, .inl fA))] sz) [(t, .inr (2, [.ref tf, .ref th, .ref tc, .int 1])), (ia, .inl (cI, 40, .inl fA))]) (va_A [(t, .inr (2, [.ref tf, .ref th, .ref tc, .int 0])), (tf, .inl (cI, 160, .inl Zi)), (th, .inl (cI, 1600, .inl Zi)), (tc, .inl (cJ, 40, .inr (.inl Zl))), (ia, .inl (cI, 40, .inl fA))] sz)) 0 0 (va_A [(t, .inr (2, [.ref tf, .ref th, .ref tc, .int 0])), (tf, .inl (cI, 160, .inl Zi)), (th, .inl (cI, 1600, .inl Zi)), (tc, .inl (cJ, 40, .inr (.inl Zl))), (ia, .inl (cI, 40, .inl fA))] sz) := by
  refine Met.ofW (cc := cX2_append) (maxL := 8) (ret := none) (by decide) rfl ?_
  intro p e s m args below meth c s₁ B hml hv
  obtain ⟨rfl, hsz, hP, hK, hD0⟩ := hv
  have hx := B.exec
  have hb := B.bytes
  have hr := B.returns
  have hts := atoms_spec (ws := wsX2_append) B.pre
  have hown : s.vm.findClass RX2 = some m.cls := findClass_of_methodNamed B.named
  have hlocks := B.notSynchronized
  subst hsz
  have hD := hD0.self (sz := s.heap.size)
  generalize hAe : va_A [(t, .inr (2, [.ref tf, .ref th, .ref tc, .int 0])), (tf, .inl (cI, 160, .inl Zi)), (th, .inl (cI, 1600, .inl Zi)), (tc, .inl (cJ, 40, .inr (.inl Zl))), (ia, .inl (cI, 40, .inl fA))] s.heap.size = A at hD ⊢
  have hA : ∀ q : Nat, s.heap.size ≤ q → A q := fun q h => by rw [← hAe]; exact Or.inr h
  have hS : va_S A s.heap s.heap [] := va_S.rf
  have hP : va_P (dC, dI) vwCl [(t, .inr (2, [.ref tf, .ref th, .ref tc, .int 0])), (tf, .inl (cI, 160, .inl Zi)), (th, .inl (cI, 1600, .inl Zi)), (tc, .inl (cJ, 40, .inr (.inl Zl))), (ia, .inl (cI, 40, .inl fA))] s.heap := hP
  have hl := lv_entry ([.ref t, .ref ia, .long 0, .int 1, .int 1, .int 1, .int 0]) (n := 8) (Nat.le_of_ble_eq_true rfl)
  rw [lg_entry_eq]
  generalize (lg_sl ([.ref t, .ref ia, .long 0, .int 1, .int 1, .int 1, .int 0]) ++ List.replicate (8 - (lg_sl ([.ref t, .ref ia, .long 0, .int 1, .int 1, .int 1, .int 0])).length) Slot.unset).toArray = ls at hl ⊢
  have hl : lv_has ls 8 [(0, .ref t), (1, .ref ia), (2, .long 0), (4, .int 1), (5, .int 1), (6, .int 1), (7, .int 0)] := hl
  have i_2 : ∀ w ∈ wsX20, w ∈ wsX2_append := by decide +kernel
  have k_0 := hts (.fieldLink RX2 22 "CommunityLevels$LevelTable" "size" "I") (by decide +kernel)
  have k_1 := hts (.fieldLink RX2 15 "CommunityLevels$LevelTable" "homes" "[I") (by decide +kernel)
  have k_2 := hts (.methodLink RX2 26 arraycopyName) (by decide +kernel)
  have k_3 := hts (.native arraycopyName) (by decide +kernel)
  have k_4 := hts (.static arraycopyName) (by decide +kernel)
  have k_5 := hts (.initialized "java/lang/System") (by decide +kernel)
  have k_6 := hts (.fieldLink RX2 18 "CommunityLevels$LevelTable" "scores" "[J") (by decide +kernel)
  have k_7 := hts (.fieldLink RX2 9 "CommunityLevels$LevelTable" "facts" "[I") (by decide +kernel)
  refine lv_aload_n hx hb dX2_append_0 rfl (lv_at hl 0 rfl) ?_
  refine va_get (D := (dC, dI)) (ci := 2) (v := .int 0) (C := RX2) (T := TX2) (N := 4) hx hb hts i_2 hown hK hP 0 rfl rfl 3 (by decide) k_0 (fun _ h9 => h9) rfl dX2_append_1 ?_
  refine lv_bipush (v := 40) hx hb dX2_append_4 (by decide) ?_
  refine lv_icmp_ge (tgt := 105) hx hb dX2_append_6 (by decide) (fun c_1 => ?_) (fun c_1 => ?_)
  · exact absurd c_1 (by decide)
  refine lv_aload_n hx hb dX2_append_9 rfl (lv_at hl 1 rfl) ?_
  refine lv_iconst (v := 0) hx hb dX2_append_10 (by decide) ?_
  refine lv_aload_n hx hb dX2_append_11 rfl (lv_at hl 0 rfl) ?_
  refine va_get (D := (dC, dI)) (ci := 2) (v := .ref th) (C := RX2) (T := TX2) (N := 4) hx hb hts i_2 hown hK hP 0 rfl rfl 1 (by decide) k_1 (fun _ h9 => h9) rfl dX2_append_12 ?_
  refine lv_aload_n hx hb dX2_append_15 rfl (lv_at hl 0 rfl) ?_
  refine va_get (D := (dC, dI)) (ci := 2) (v := .int 0) (C := RX2) (T := TX2) (N := 4) hx hb hts i_2 hown hK hP 0 rfl rfl 3 (by decide) k_0 (fun _ h9 => h9) rfl dX2_append_16 ?_
  refine lv_bipush (v := 40) hx hb dX2_append_19 (by decide) ?_
  refine lv_imul hx hb dX2_append_21 ?_
  refine lc_i (v := 0) (by first | rfl | decide) ?_
  refine lv_bipush (v := 40) hx hb dX2_append_22 (by decide) ?_
  refine va_copyi hx hb (by rw [hml]; exact hl.1.symm) hown k_2 k_3 k_4 k_5 hK hP hD hS 4 2 0 0 (ty := .int) rfl rfl rfl rfl rfl (by decide) (by decide) (by decide) (by decide) (by decide) (fun _ _ => rfl) (Nat.le_of_ble_eq_true rfl) (Nat.le_of_ble_eq_true rfl) dX2_append_24 (fun H locs hP hD hS => ?_)
  have hP : va_P (dC, dI) vwCl [(t, .inr (2, [.ref tf, .ref th, .ref tc, .int 0])), (tf, .inl (cI, 160, .inl Zi)), (th, .inl (cI, 1600, .inl ((va_cpy fA Zi 0 0 40)))), (tc, .inl (cJ, 40, .inr (.inl Zl))), (ia, .inl (cI, 40, .inl fA))] H := hP
  have hD : va_D A [(t, .inr (2, [.ref tf, .ref th, .ref tc, .int 0])), (tf, .inl (cI, 160, .inl Zi)), (th, .inl (cI, 1600, .inl ((va_cpy fA Zi 0 0 40)))), (tc, .inl (cJ, 40, .inr (.inl Zl))), (ia, .inl (cI, 40, .inl fA))] := hD
  refine lv_aload_n hx hb dX2_append_27 rfl (lv_at hl 0 rfl) ?_
  refine va_get (D := (dC, dI)) (ci := 2) (v := .ref tc) (C := RX2) (T := TX2) (N := 4) hx hb hts i_2 hown hK hP 0 rfl rfl 2 (by decide) k_6 (fun _ h9 => h9) rfl dX2_append_28 ?_
  refine lv_aload_n hx hb dX2_append_31 rfl (lv_at hl 0 rfl) ?_
  refine va_get (D := (dC, dI)) (ci := 2) (v := .int 0) (C := RX2) (T := TX2) (N := 4) hx hb hts i_2 hown hK hP 0 rfl rfl 3 (by decide) k_0 (fun _ h9 => h9) rfl dX2_append_32 ?_
  refine lv_lload_n hx hb dX2_append_35 rfl (lv_at hl 2 rfl) ?_
  refine va_last hx hb hK hP hD hS 3 1 rfl rfl (vp_c (by decide)) dX2_append_36 (fun H locs hP hD hS => ?_)
  have hP : va_P (dC, dI) vwCl [(t, .inr (2, [.ref tf, .ref th, .ref tc, .int 0])), (tf, .inl (cI, 160, .inl Zi)), (th, .inl (cI, 1600, .inl ((va_cpy fA Zi 0 0 40)))), (tc, .inl (cJ, 40, .inr (.inl (vp_updL Zl 0 0)))), (ia, .inl (cI, 40, .inl fA))] H := hP
  have hD : va_D A [(t, .inr (2, [.ref tf, .ref th, .ref tc, .int 0])), (tf, .inl (cI, 160, .inl Zi)), (th, .inl (cI, 1600, .inl ((va_cpy fA Zi 0 0 40)))), (tc, .inl (cJ, 40, .inr (.inl (vp_updL Zl 0 0)))), (ia, .inl (cI, 40, .inl fA))] := hD
  refine lv_aload_n hx hb dX2_append_37 rfl (lv_at hl 0 rfl) ?_
  refine va_get (D := (dC, dI)) (ci := 2) (v := .ref tf) (C := RX2) (T := TX2) (N := 4) hx hb hts i_2 hown hK hP 0 rfl rfl 0 (by decide) k_7 (fun _ h9 => h9) rfl dX2_append_38 ?_
  refine lv_aload_n hx hb dX2_append_41 rfl (lv_at hl 0 rfl) ?_
  refine va_get (D := (dC, dI)) (ci := 2) (v := .int 0) (C := RX2) (T := TX2) (N := 4) hx hb hts i_2 hown hK hP 0 rfl rfl 3 (by decide) k_0 (fun _ h9 => h9) rfl dX2_append_42 ?_
  refine lv_iconst (v := 4) hx hb dX2_append_45 (by decide) ?_
  refine lv_imul hx hb dX2_append_46 ?_
  refine lc_i (v := 0) (by first | rfl | decide) ?_
  refine lv_iload hx hb dX2_append_47 (lv_at hl 3 rfl) ?_
  refine va_iast hx hb hK hP hD hS 1 0 rfl rfl (vp_c (by decide)) dX2_append_49 (fun H locs hP hD hS => ?_)
  have hP : va_P (dC, dI) vwCl [(t, .inr (2, [.ref tf, .ref th, .ref tc, .int 0])), (tf, .inl (cI, 160, .inl (upd Zi 0 1))), (th, .inl (cI, 1600, .inl ((va_cpy fA Zi 0 0 40)))), (tc, .inl (cJ, 40, .inr (.inl (vp_updL Zl 0 0)))), (ia, .inl (cI, 40, .inl fA))] H := hP
  have hD : va_D A [(t, .inr (2, [.ref tf, .ref th, .ref tc, .int 0])), (tf, .inl (cI, 160, .inl (upd Zi 0 1))), (th, .inl (cI, 1600, .inl ((va_cpy fA Zi 0 0 40)))), (tc, .inl (cJ, 40, .inr (.inl (vp_updL Zl 0 0)))), (ia, .inl (cI, 40, .inl fA))] := hD
  refine lv_aload_n hx hb dX2_append_50 rfl (lv_at hl 0 rfl) ?_
  refine va_get (D := (dC, dI)) (ci := 2) (v := .ref tf) (C := RX2) (T := TX2) (N := 4) hx hb hts i_2 hown hK hP 0 rfl rfl 0 (by decide) k_7 (fun _ h9 => h9) rfl dX2_append_51 ?_
  refine lv_aload_n hx hb dX2_append_54 rfl (lv_at hl 0 rfl) ?_
  refine va_get (D := (dC, dI)) (ci := 2) (v := .int 0) (C := RX2) (T := TX2) (N := 4) hx hb hts i_2 hown hK hP 0 rfl rfl 3 (by decide) k_0 (fun _ h9 => h9) rfl dX2_append_55 ?_
  refine lv_iconst (v := 4) hx hb dX2_append_58 (by decide) ?_
  refine lv_imul hx hb dX2_append_59 ?_
  refine lc_i (v := 0) (by first | rfl | decide) ?_
  refine lv_iconst (v := 1) hx hb dX2_append_60 (by decide) ?_
  refine lv_iadd hx hb dX2_append_61 ?_
  refine lc_i (v := 1) (by first | rfl | decide) ?_
  refine lv_iload hx hb dX2_append_62 (lv_at hl 4 rfl) ?_
  refine va_iast hx hb hK hP hD hS 1 0 rfl rfl (vp_c (by decide)) dX2_append_64 (fun H locs hP hD hS => ?_)
  have hP : va_P (dC, dI) vwCl [(t, .inr (2, [.ref tf, .ref th, .ref tc, .int 0])), (tf, .inl (cI, 160, .inl (upd (upd Zi 0 1) 1 1))), (th, .inl (cI, 1600, .inl ((va_cpy fA Zi 0 0 40)))), (tc, .inl (cJ, 40, .inr (.inl (vp_updL Zl 0 0)))), (ia, .inl (cI, 40, .inl fA))] H := hP
  have hD : va_D A [(t, .inr (2, [.ref tf, .ref th, .ref tc, .int 0])), (tf, .inl (cI, 160, .inl (upd (upd Zi 0 1) 1 1))), (th, .inl (cI, 1600, .inl ((va_cpy fA Zi 0 0 40)))), (tc, .inl (cJ, 40, .inr (.inl (vp_updL Zl 0 0)))), (ia, .inl (cI, 40, .inl fA))] := hD
  refine lv_aload_n hx hb dX2_append_65 rfl (lv_at hl 0 rfl) ?_
  refine va_get (D := (dC, dI)) (ci := 2) (v := .ref tf) (C := RX2) (T := TX2) (N := 4) hx hb hts i_2 hown hK hP 0 rfl rfl 0 (by decide) k_7 (fun _ h9 => h9) rfl dX2_append_66 ?_
  refine lv_aload_n hx hb dX2_append_69 rfl (lv_at hl 0 rfl) ?_
  refine va_get (D := (dC, dI)) (ci := 2) (v := .int 0) (C := RX2) (T := TX2) (N := 4) hx hb hts i_2 hown hK hP 0 rfl rfl 3 (by decide) k_0 (fun _ h9 => h9) rfl dX2_append_70 ?_
  refine lv_iconst (v := 4) hx hb dX2_append_73 (by decide) ?_
  refine lv_imul hx hb dX2_append_74 ?_
  refine lc_i (v := 0) (by first | rfl | decide) ?_
  refine lv_iconst (v := 2) hx hb dX2_append_75 (by decide) ?_
  refine lv_iadd hx hb dX2_append_76 ?_
  refine lc_i (v := 2) (by first | rfl | decide) ?_
  refine lv_iload hx hb dX2_append_77 (lv_at hl 5 rfl) ?_
  refine va_iast hx hb hK hP hD hS 1 0 rfl rfl (vp_c (by decide)) dX2_append_79 (fun H locs hP hD hS => ?_)
  have hP : va_P (dC, dI) vwCl [(t, .inr (2, [.ref tf, .ref th, .ref tc, .int 0])), (tf, .inl (cI, 160, .inl (upd (upd (upd Zi 0 1) 1 1) 2 1))), (th, .inl (cI, 1600, .inl ((va_cpy fA Zi 0 0 40)))), (tc, .inl (cJ, 40, .inr (.inl (vp_updL Zl 0 0)))), (ia, .inl (cI, 40, .inl fA))] H := hP
  have hD : va_D A [(t, .inr (2, [.ref tf, .ref th, .ref tc, .int 0])), (tf, .inl (cI, 160, .inl (upd (upd (upd Zi 0 1) 1 1) 2 1))), (th, .inl (cI, 1600, .inl ((va_cpy fA Zi 0 0 40)))), (tc, .inl (cJ, 40, .inr (.inl (vp_updL Zl 0 0)))), (ia, .inl (cI, 40, .inl fA))] := hD
  refine lv_aload_n hx hb dX2_append_80 rfl (lv_at hl 0 rfl) ?_
  refine va_get (D := (dC, dI)) (ci := 2) (v := .ref tf) (C := RX2) (T := TX2) (N := 4) hx hb hts i_2 hown hK hP 0 rfl rfl 0 (by decide) k_7 (fun _ h9 => h9) rfl dX2_append_81 ?_
  refine lv_aload_n hx hb dX2_append_84 rfl (lv_at hl 0 rfl) ?_
  refine va_get (D := (dC, dI)) (ci := 2) (v := .int 0) (C := RX2) (T := TX2) (N := 4) hx hb hts i_2 hown hK hP 0 rfl rfl 3 (by decide) k_0 (fun _ h9 => h9) rfl dX2_append_85 ?_
  refine lv_iconst (v := 4) hx hb dX2_append_88 (by decide) ?_
  refine lv_imul hx hb dX2_append_89 ?_
  refine lc_i (v := 0) (by first | rfl | decide) ?_
  refine lv_iconst (v := 3) hx hb dX2_append_90 (by decide) ?_
  refine lv_iadd hx hb dX2_append_91 ?_
  refine lc_i (v := 3) (by first | rfl | decide) ?_
  refine lv_iload hx hb dX2_append_92 (lv_at hl 6 rfl) ?_
  refine va_iast hx hb hK hP hD hS 1 0 rfl rfl (vp_c (by decide)) dX2_append_94 (fun H locs hP hD hS => ?_)
  have hP : va_P (dC, dI) vwCl [(t, .inr (2, [.ref tf, .ref th, .ref tc, .int 0])), (tf, .inl (cI, 160, .inl (upd (upd (upd (upd Zi 0 1) 1 1) 2 1) 3 0))), (th, .inl (cI, 1600, .inl ((va_cpy fA Zi 0 0 40)))), (tc, .inl (cJ, 40, .inr (.inl (vp_updL Zl 0 0)))), (ia, .inl (cI, 40, .inl fA))] H := hP
  have hD : va_D A [(t, .inr (2, [.ref tf, .ref th, .ref tc, .int 0])), (tf, .inl (cI, 160, .inl (upd (upd (upd (upd Zi 0 1) 1 1) 2 1) 3 0))), (th, .inl (cI, 1600, .inl ((va_cpy fA Zi 0 0 40)))), (tc, .inl (cJ, 40, .inr (.inl (vp_updL Zl 0 0)))), (ia, .inl (cI, 40, .inl fA))] := hD
  refine lv_aload_n hx hb dX2_append_95 rfl (lv_at hl 0 rfl) ?_
  refine lv_dup hx hb dX2_append_96 rfl ?_
  refine va_get (D := (dC, dI)) (ci := 2) (v := .int 0) (C := RX2) (T := TX2) (N := 4) hx hb hts i_2 hown hK hP 0 rfl rfl 3 (by decide) k_0 (fun _ h9 => h9) rfl dX2_append_97 ?_
  refine lv_iconst (v := 1) hx hb dX2_append_100 (by decide) ?_
  refine lv_iadd hx hb dX2_append_101 ?_
  refine lc_i (v := 1) (by first | rfl | decide) ?_
  refine va_put (D := (dC, dI)) (ci := 2) (v := .int 1) (ty := .int) (C := RX2) (T := TX2) (N := 4) hx hb hts i_2 tyX2 tyX2_ok nmX2 hown hK hP hD hS 0 rfl rfl 3 (by decide) k_0 (fun _ h9 => h9) rfl (by decide +kernel) rfl rfl (Nat.le_of_ble_eq_true rfl) dX2_append_102 (fun H locs hP hD hS => ?_)
  have hP : va_P (dC, dI) vwCl [(t, .inr (2, [.ref tf, .ref th, .ref tc, .int 1])), (tf, .inl (cI, 160, .inl (upd (upd (upd (upd Zi 0 1) 1 1) 2 1) 3 0))), (th, .inl (cI, 1600, .inl ((va_cpy fA Zi 0 0 40)))), (tc, .inl (cJ, 40, .inr (.inl (vp_updL Zl 0 0)))), (ia, .inl (cI, 40, .inl fA))] H := hP
  have hD : va_D A [(t, .inr (2, [.ref tf, .ref th, .ref tc, .int 1])), (tf, .inl (cI, 160, .inl (upd (upd (upd (upd Zi 0 1) 1 1) 2 1) 3 0))), (th, .inl (cI, 1600, .inl ((va_cpy fA Zi 0 0 40)))), (tc, .inl (cJ, 40, .inr (.inl (vp_updL Zl 0 0)))), (ia, .inl (cI, 40, .inl fA))] := hD
  have hP9 := hP.sub (ws' := [(t, .inr (2, [.ref tf, .ref th, .ref tc, .int 1])), (ia, .inl (cI, 40, .inl fA))]) [0, 4] rfl
  have hD9 := hD.sub (ws' := [(t, .inr (2, [.ref tf, .ref th, .ref tc, .int 1])), (ia, .inl (cI, 40, .inl fA))]) [0, 4] (by decide) rfl
  exact W.vret hx hb hr (fun t ht hW => ⟨⟨(), rfl, trivial, by rw [ht]; exact hP9, hD9⟩, hS.F ht⟩) hS.2.2 dX2_append_105
