set_option maxHeartbeats 4000000 in
set_option maxRecDepth 100000 in
theorem c_X1_separate (l : Launch) (dC : Nat → ClassId) (dI : Nat → Nat → Nat) (cI cJ : ClassId) (gr gh gc gd gl gn : Nat) (sz : Nat) (fh : Nat → Int32) : Met l yX1_separate wsX1_separate ({ frames := 0, cells := 0, slots := 0, locals := 0 }) (va_Pc [.ref gr, .int 1] (pPre dC dI cI cJ sz [(gr, .inr (1, [.ref gh, .ref gc, .ref gd, .ref gl, .ref gn])), (gh, .inl (cI, 40, .inl fh))])) (va_Qv (fun _ : Unit => True) (pPost dC dI (va_A [(gr, .inr (1, [.ref gh, .ref gc, .ref gd, .ref gl, .ref gn])), (gh, .inl (cI, 40, .inl fh))] sz) [(gr, .inr (1, [.ref gh, .ref gc, .ref gd, .ref gl, .ref gn])), (gh, .inl (cI, 40, .inl (upd fh 0 0)))]) (va_A [(gr, .inr (1, [.ref gh, .ref gc, .ref gd, .ref gl, .ref gn])), (gh, .inl (cI, 40, .inl fh))] sz)) 0 0 (va_A [(gr, .inr (1, [.ref gh, .ref gc, .ref gd, .ref gl, .ref gn])), (gh, .inl (cI, 40, .inl fh))] sz) := by
  refine Met.ofW (cc := cX1_separate) (maxL := 3) (ret := none) (by decide) rfl ?_
  intro p e s m args below meth c s₁ B hml hv
  obtain ⟨rfl, hsz, hP, hK, hD0⟩ := hv
  have hx := B.exec
  have hb := B.bytes
  have hr := B.returns
  have hts := atoms_spec (ws := wsX1_separate) B.pre
  have hown : s.vm.findClass RX1 = some m.cls := findClass_of_methodNamed B.named
  have hlocks := B.notSynchronized
  subst hsz
  have hD := hD0.self (sz := s.heap.size)
  generalize hAe : va_A [(gr, .inr (1, [.ref gh, .ref gc, .ref gd, .ref gl, .ref gn])), (gh, .inl (cI, 40, .inl fh))] s.heap.size = A at hD ⊢
  have hA : ∀ q : Nat, s.heap.size ≤ q → A q := fun q h => by rw [← hAe]; exact Or.inr h
  have hS : va_S A s.heap s.heap [] := va_S.rf
  have hP : va_P (dC, dI) vwCl [(gr, .inr (1, [.ref gh, .ref gc, .ref gd, .ref gl, .ref gn])), (gh, .inl (cI, 40, .inl fh))] s.heap := hP
  have hl := lv_entry ([.ref gr, .int 1]) (n := 3) (Nat.le_of_ble_eq_true rfl)
  rw [lg_entry_eq]
  generalize (lg_sl ([.ref gr, .int 1]) ++ List.replicate (3 - (lg_sl ([.ref gr, .int 1])).length) Slot.unset).toArray = ls at hl ⊢
  have hl : lv_has ls 3 [(0, .ref gr), (1, .int 1)] := hl
  have i_1 : ∀ w ∈ wsX10, w ∈ wsX1_separate := by decide +kernel
  have k_0 := hts (.fieldLink RX1 9 "CommunityLevels$Groups" "home" "[I") (by decide +kernel)
  refine lv_iconst (v := 0) hx hb dX1_separate_0 (by decide) ?_
  refine lv_istore_n (lv' := [(2, .int 0), (0, .ref gr), (1, .int 1)]) hx hb dX1_separate_1 rfl hl (by decide) rfl (fun ls hl => ?_)
  refine lv_iload_n hx hb dX1_separate_2 rfl (lv_at hl 0 rfl) ?_
  refine lv_iload_n hx hb dX1_separate_3 rfl (lv_at hl 2 rfl) ?_
  refine lv_icmp_ge (tgt := 20) hx hb dX1_separate_4 (by decide) (fun c_1 => ?_) (fun c_1 => ?_)
  · exact absurd c_1 (by decide)
  refine lv_aload_n hx hb dX1_separate_7 rfl (lv_at hl 1 rfl) ?_
  refine va_get (D := (dC, dI)) (ci := 1) (v := .ref gh) (C := RX1) (T := TX1) (N := 5) hx hb hts i_1 hown hK hP 0 rfl rfl 0 (by decide) k_0 (fun _ h9 => h9) rfl dX1_separate_8 ?_
  refine lv_iload_n hx hb dX1_separate_11 rfl (lv_at hl 0 rfl) ?_
  refine lv_iload_n hx hb dX1_separate_12 rfl (lv_at hl 0 rfl) ?_
  refine va_iast hx hb hK hP hD hS 1 0 rfl rfl (vp_c (by decide)) dX1_separate_13 (fun H locs hP hD hS => ?_)
  have hP : va_P (dC, dI) vwCl [(gr, .inr (1, [.ref gh, .ref gc, .ref gd, .ref gl, .ref gn])), (gh, .inl (cI, 40, .inl (upd fh 0 0)))] H := hP
  have hD : va_D A [(gr, .inr (1, [.ref gh, .ref gc, .ref gd, .ref gl, .ref gn])), (gh, .inl (cI, 40, .inl (upd fh 0 0)))] := hD
  refine lv_iinc (v := 1) (lv' := [(2, .int 1), (0, .ref gr), (1, .int 1)]) hx hb dX1_separate_14 hl (k := 0) rfl (by decide) (by decide) rfl (fun ls hl => ?_)
  refine lv_goto (tgt := 2) hx hb dX1_separate_17 (by decide) ?_
  refine lv_iload_n hx hb dX1_separate_2 rfl (lv_at hl 0 rfl) ?_
  refine lv_iload_n hx hb dX1_separate_3 rfl (lv_at hl 2 rfl) ?_
  refine lv_icmp_ge (tgt := 20) hx hb dX1_separate_4 (by decide) (fun c_2 => ?_) (fun c_2 => ?_)
  rotate_left
  · exact absurd (by decide) c_2
  have hP9 := hP.sub (ws' := [(gr, .inr (1, [.ref gh, .ref gc, .ref gd, .ref gl, .ref gn])), (gh, .inl (cI, 40, .inl (upd fh 0 0)))]) [0, 1] rfl
  have hD9 := hD.sub (ws' := [(gr, .inr (1, [.ref gh, .ref gc, .ref gd, .ref gl, .ref gn])), (gh, .inl (cI, 40, .inl (upd fh 0 0)))]) [0, 1] (by decide) rfl
  exact W.vret hx hb hr (fun t ht hW => ⟨⟨(), rfl, trivial, by rw [ht]; exact hP9, hD9⟩, hS.F ht⟩) hS.2.2 dX1_separate_20
set_option maxHeartbeats 4000000 in
set_option maxRecDepth 100000 in
theorem c_X1_tally (l : Launch) (dC : Nat → ClassId) (dI : Nat → Nat → Nat) (cI cJ : ClassId) (gr gh gc gd gl gn g w d : Nat) (sz : Nat) (fh : Nat → Int32) (fc : Nat → Int32) (fd : Nat → Int32) (hz : fh 0 = 0) : Met l yX1_tally wsX1_tally ({ frames := 1, cells := 0, slots := 0, locals := 23 }) (va_Pc [.ref gr, .ref g] (pPre dC dI cI cJ sz [(gr, .inr (1, [.ref gh, .ref gc, .ref gd, .ref gl, .ref gn])), (gh, .inl (cI, 40, .inl fh)), (gc, .inl (cI, 40, .inl fc)), (gd, .inl (cI, 40, .inl fd)), (g, .inr (0, [.ref w, .ref d, .int 1, .int 0])), (d, .inl (cI, 40, .inl Zi))])) (va_Qv (fun _ : Unit => True) (pPost dC dI (va_A [(gr, .inr (1, [.ref gh, .ref gc, .ref gd, .ref gl, .ref gn])), (gh, .inl (cI, 40, .inl fh)), (gc, .inl (cI, 40, .inl fc)), (gd, .inl (cI, 40, .inl fd)), (g, .inr (0, [.ref w, .ref d, .int 1, .int 0])), (d, .inl (cI, 40, .inl Zi))] sz) [(gr, .inr (1, [.ref gh, .ref gc, .ref gd, .ref gl, .ref gn])), (gh, .inl (cI, 40, .inl fh)), (gc, .inl (cI, 40, .inl (upd Zi 0 1))), (gd, .inl (cI, 40, .inl (upd Zi 0 0))), (g, .inr (0, [.ref w, .ref d, .int 1, .int 0])), (d, .inl (cI, 40, .inl Zi))]) (va_A [(gr, .inr (1, [.ref gh, .ref gc, .ref gd, .ref gl, .ref gn])), (gh, .inl (cI, 40, .inl fh)), (gc, .inl (cI, 40, .inl fc)), (gd, .inl (cI, 40, .inl fd)), (g, .inr (0, [.ref w, .ref d, .int 1, .int 0])), (d, .inl (cI, 40, .inl Zi))] sz)) 0 0 (va_A [(gr, .inr (1, [.ref gh, .ref gc, .ref gd, .ref gl, .ref gn])), (gh, .inl (cI, 40, .inl fh)), (gc, .inl (cI, 40, .inl fc)), (gd, .inl (cI, 40, .inl fd)), (g, .inr (0, [.ref w, .ref d, .int 1, .int 0])), (d, .inl (cI, 40, .inl Zi))] sz) := by
  refine Met.ofW (cc := cX1_tally) (maxL := 3) (ret := none) (by decide) rfl ?_
  intro p e s m args below meth c s₁ B hml hv
  obtain ⟨rfl, hsz, hP, hK, hD0⟩ := hv
  have hx := B.exec
  have hb := B.bytes
  have hr := B.returns
  have hts := atoms_spec (ws := wsX1_tally) B.pre
  have hown : s.vm.findClass RX1 = some m.cls := findClass_of_methodNamed B.named
  have hlocks := B.notSynchronized
  subst hsz
  have hD := hD0.self (sz := s.heap.size)
  generalize hAe : va_A [(gr, .inr (1, [.ref gh, .ref gc, .ref gd, .ref gl, .ref gn])), (gh, .inl (cI, 40, .inl fh)), (gc, .inl (cI, 40, .inl fc)), (gd, .inl (cI, 40, .inl fd)), (g, .inr (0, [.ref w, .ref d, .int 1, .int 0])), (d, .inl (cI, 40, .inl Zi))] s.heap.size = A at hD ⊢
  have hA : ∀ q : Nat, s.heap.size ≤ q → A q := fun q h => by rw [← hAe]; exact Or.inr h
  have hS : va_S A s.heap s.heap [] := va_S.rf
  have hP : va_P (dC, dI) vwCl [(gr, .inr (1, [.ref gh, .ref gc, .ref gd, .ref gl, .ref gn])), (gh, .inl (cI, 40, .inl fh)), (gc, .inl (cI, 40, .inl fc)), (gd, .inl (cI, 40, .inl fd)), (g, .inr (0, [.ref w, .ref d, .int 1, .int 0])), (d, .inl (cI, 40, .inl Zi))] s.heap := hP
  have hl := lv_entry ([.ref gr, .ref g]) (n := 3) (Nat.le_of_ble_eq_true rfl)
  rw [lg_entry_eq]
  generalize (lg_sl ([.ref gr, .ref g]) ++ List.replicate (3 - (lg_sl ([.ref gr, .ref g])).length) Slot.unset).toArray = ls at hl ⊢
  have hl : lv_has ls 3 [(0, .ref gr), (1, .ref g)] := hl
  have i_0 : ∀ w ∈ wsX00, w ∈ wsX1_tally := by decide +kernel
  have i_1 : ∀ w ∈ wsX10, w ∈ wsX1_tally := by decide +kernel
  have k_0 := hts (.fieldLink RX1 15 "CommunityLevels$Groups" "count" "[I") (by decide +kernel)
  have k_1 := hts (.fieldLink RX1 18 "CommunityLevels$Groups" "degree" "[I") (by decide +kernel)
  have k_2 := hts (.fieldLink RX1 33 "CommunityLevels$Graph" "size" "I") (by decide +kernel)
  have k_3 := hts (.fieldLink RX1 9 "CommunityLevels$Groups" "home" "[I") (by decide +kernel)
  have k_4 := hts (.fieldLink RX1 39 "CommunityLevels$Graph" "degree" "[I") (by decide +kernel)
  refine lv_aload_n hx hb dX1_tally_0 rfl (lv_at hl 0 rfl) ?_
  refine va_get (D := (dC, dI)) (ci := 1) (v := .ref gc) (C := RX1) (T := TX1) (N := 5) hx hb hts i_1 hown hK hP 0 rfl rfl 1 (by decide) k_0 (fun _ h9 => h9) rfl dX1_tally_1 ?_
  refine lv_iconst (v := 0) hx hb dX1_tally_4 (by decide) ?_
  have hPc := hP.sub (ws' := [(gc, .inl (cI, 40, .inl fc))]) [2] rfl
  have hDc := hD.sub (ws' := [(gc, .inl (cI, 40, .inl fc))]) [2] (by decide) rfl
  have hFc := va_free (wc := [(gc, .inl (cI, 40, .inl fc))]) hD hS hA [2] rfl
  refine va_callv (va_runS (As := [.ref gc, .int 0]) (rest := []) ⟨hx, hb, hml, hown, hts⟩ (c_J7_fill_53178 l dC dI cI cJ gc s.heap.size 40 fc 0 (by decide)) (va_cwS 2 hts gX1_tally_J7_fill_53178 rfl rfl rfl (by decide +kernel) ⟨Nat.le_of_ble_eq_true rfl, Nat.le_of_ble_eq_true rfl⟩) ⟨fun a U g mk q => by obtain ⟨q0, q1, qP, qK, qD⟩ := q; exact ⟨q0, q1, qP, va_K.moved (u := U) (U := U.calling g mk a) (Vm.Alike.refl U.vm) qK, qD⟩, fun U hU hW => ⟨rfl, by rw [hU], by rw [hU]; exact hPc, va_K.moved hW.alike hK, hDc.weaken (fun _ _ _ _ => trivial)⟩⟩ rfl rfl hl.1 rfl (lv_room (Nat.le_of_ble_eq_true rfl)) dX1_tally_5 ⟨Nat.le_of_ble_eq_true rfl, Nat.le_of_ble_eq_true rfl⟩) hS (fun q _ h => hFc q h) hFc (fun u_2 t H1 locs ht hvm hw hB hz1 hk1 hS => ?_)
  obtain ⟨hP1, hD1⟩ := hB
  rw [ht] at hP1
  obtain ⟨hP, hD⟩ := va_join (wr := [(gr, .inr (1, [.ref gh, .ref gc, .ref gd, .ref gl, .ref gn])), (gh, .inl (cI, 40, .inl fh)), (gd, .inl (cI, 40, .inl fd)), (g, .inr (0, [.ref w, .ref d, .int 1, .int 0])), (d, .inl (cI, 40, .inl Zi))]) (w1 := [(gc, .inl (cI, 40, .inl Zi))]) hP hD [2] [0, 1, 3, 4, 5] rfl rfl (by decide) (by decide) hk1 hFc hP1 hD1
  generalize H1 = H at hP hS ⊢
  have hP : va_P (dC, dI) vwCl [(gr, .inr (1, [.ref gh, .ref gc, .ref gd, .ref gl, .ref gn])), (gh, .inl (cI, 40, .inl fh)), (gd, .inl (cI, 40, .inl fd)), (g, .inr (0, [.ref w, .ref d, .int 1, .int 0])), (d, .inl (cI, 40, .inl Zi)), (gc, .inl (cI, 40, .inl Zi))] H := hP
  have hD : va_D A [(gr, .inr (1, [.ref gh, .ref gc, .ref gd, .ref gl, .ref gn])), (gh, .inl (cI, 40, .inl fh)), (gd, .inl (cI, 40, .inl fd)), (g, .inr (0, [.ref w, .ref d, .int 1, .int 0])), (d, .inl (cI, 40, .inl Zi)), (gc, .inl (cI, 40, .inl Zi))] := hD
  refine lv_aload_n hx hb dX1_tally_8 rfl (lv_at hl 0 rfl) ?_
  refine va_get (D := (dC, dI)) (ci := 1) (v := .ref gd) (C := RX1) (T := TX1) (N := 5) hx hb hts i_1 hown hK hP 0 rfl rfl 2 (by decide) k_1 (fun _ h9 => h9) rfl dX1_tally_9 ?_
  refine lv_iconst (v := 0) hx hb dX1_tally_12 (by decide) ?_
  have hPc := hP.sub (ws' := [(gd, .inl (cI, 40, .inl fd))]) [2] rfl
  have hDc := hD.sub (ws' := [(gd, .inl (cI, 40, .inl fd))]) [2] (by decide) rfl
  have hFc := va_free (wc := [(gd, .inl (cI, 40, .inl fd))]) hD hS hA [2] rfl
  refine va_callv (va_runS (As := [.ref gd, .int 0]) (rest := []) ⟨hx, hb, hml, hown, hts⟩ (c_J7_fill_53178 l dC dI cI cJ gd H.size 40 fd 0 (by decide)) (va_cwS 2 hts gX1_tally_J7_fill_53178 rfl rfl rfl (by decide +kernel) ⟨Nat.le_of_ble_eq_true rfl, Nat.le_of_ble_eq_true rfl⟩) ⟨fun a U g mk q => by obtain ⟨q0, q1, qP, qK, qD⟩ := q; exact ⟨q0, q1, qP, va_K.moved (u := U) (U := U.calling g mk a) (Vm.Alike.refl U.vm) qK, qD⟩, fun U hU hW => ⟨rfl, by rw [hU], by rw [hU]; exact hPc, va_K.moved hW.alike hK, hDc.weaken (fun _ _ _ _ => trivial)⟩⟩ rfl rfl hl.1 rfl (lv_room (Nat.le_of_ble_eq_true rfl)) dX1_tally_13 ⟨Nat.le_of_ble_eq_true rfl, Nat.le_of_ble_eq_true rfl⟩) hS (fun q _ h => hFc q h) hFc (fun u_4 t H1 locs ht hvm hw hB hz1 hk1 hS => ?_)
  obtain ⟨hP1, hD1⟩ := hB
  rw [ht] at hP1
  obtain ⟨hP, hD⟩ := va_join (wr := [(gr, .inr (1, [.ref gh, .ref gc, .ref gd, .ref gl, .ref gn])), (gh, .inl (cI, 40, .inl fh)), (g, .inr (0, [.ref w, .ref d, .int 1, .int 0])), (d, .inl (cI, 40, .inl Zi)), (gc, .inl (cI, 40, .inl Zi))]) (w1 := [(gd, .inl (cI, 40, .inl Zi))]) hP hD [2] [0, 1, 3, 4, 5] rfl rfl (by decide) (by decide) hk1 hFc hP1 hD1
  generalize H1 = H at hP hS ⊢
  have hP : va_P (dC, dI) vwCl [(gr, .inr (1, [.ref gh, .ref gc, .ref gd, .ref gl, .ref gn])), (gh, .inl (cI, 40, .inl fh)), (g, .inr (0, [.ref w, .ref d, .int 1, .int 0])), (d, .inl (cI, 40, .inl Zi)), (gc, .inl (cI, 40, .inl Zi)), (gd, .inl (cI, 40, .inl Zi))] H := hP
  have hD : va_D A [(gr, .inr (1, [.ref gh, .ref gc, .ref gd, .ref gl, .ref gn])), (gh, .inl (cI, 40, .inl fh)), (g, .inr (0, [.ref w, .ref d, .int 1, .int 0])), (d, .inl (cI, 40, .inl Zi)), (gc, .inl (cI, 40, .inl Zi)), (gd, .inl (cI, 40, .inl Zi))] := hD
  refine lv_iconst (v := 0) hx hb dX1_tally_16 (by decide) ?_
  refine lv_istore_n (lv' := [(2, .int 0), (0, .ref gr), (1, .ref g)]) hx hb dX1_tally_17 rfl hl (by decide) rfl (fun ls hl => ?_)
  refine lv_iload_n hx hb dX1_tally_18 rfl (lv_at hl 0 rfl) ?_
  refine lv_aload_n hx hb dX1_tally_19 rfl (lv_at hl 2 rfl) ?_
  refine va_get (D := (dC, dI)) (ci := 0) (v := .int 1) (C := RX0) (T := TX0) (N := 4) hx hb hts i_0 hown hK hP 2 rfl rfl 2 (by decide) k_2 (fun _ h9 => h9) rfl dX1_tally_20 ?_
  refine lv_icmp_ge (tgt := 67) hx hb dX1_tally_23 (by decide) (fun c_5 => ?_) (fun c_5 => ?_)
  · exact absurd c_5 (by decide)
  refine lv_aload_n hx hb dX1_tally_26 rfl (lv_at hl 1 rfl) ?_
  refine va_get (D := (dC, dI)) (ci := 1) (v := .ref gc) (C := RX1) (T := TX1) (N := 5) hx hb hts i_1 hown hK hP 0 rfl rfl 1 (by decide) k_0 (fun _ h9 => h9) rfl dX1_tally_27 ?_
  refine lv_aload_n hx hb dX1_tally_30 rfl (lv_at hl 1 rfl) ?_
  refine va_get (D := (dC, dI)) (ci := 1) (v := .ref gh) (C := RX1) (T := TX1) (N := 5) hx hb hts i_1 hown hK hP 0 rfl rfl 0 (by decide) k_3 (fun _ h9 => h9) rfl dX1_tally_31 ?_
  refine lv_iload_n hx hb dX1_tally_34 rfl (lv_at hl 0 rfl) ?_
  refine va_iald hx hb hK hP 1 0 rfl rfl (vp_c (by decide)) dX1_tally_35 ?_
  refine lc_i (v := 0) hz ?_
  refine lv_dup2_11 hx hb dX1_tally_36 rfl rfl ?_
  refine va_iald hx hb hK hP 4 0 rfl rfl (vp_c (by decide)) dX1_tally_37 ?_
  refine lc_i (v := 0) (by first | rfl | decide) ?_
  refine lv_iconst (v := 1) hx hb dX1_tally_38 (by decide) ?_
  refine lv_iadd hx hb dX1_tally_39 ?_
  refine lc_i (v := 1) (by first | rfl | decide) ?_
  refine va_iast hx hb hK hP hD hS 4 0 rfl rfl (vp_c (by decide)) dX1_tally_40 (fun H locs hP hD hS => ?_)
  have hP : va_P (dC, dI) vwCl [(gr, .inr (1, [.ref gh, .ref gc, .ref gd, .ref gl, .ref gn])), (gh, .inl (cI, 40, .inl fh)), (g, .inr (0, [.ref w, .ref d, .int 1, .int 0])), (d, .inl (cI, 40, .inl Zi)), (gc, .inl (cI, 40, .inl (upd Zi 0 1))), (gd, .inl (cI, 40, .inl Zi))] H := hP
  have hD : va_D A [(gr, .inr (1, [.ref gh, .ref gc, .ref gd, .ref gl, .ref gn])), (gh, .inl (cI, 40, .inl fh)), (g, .inr (0, [.ref w, .ref d, .int 1, .int 0])), (d, .inl (cI, 40, .inl Zi)), (gc, .inl (cI, 40, .inl (upd Zi 0 1))), (gd, .inl (cI, 40, .inl Zi))] := hD
  refine lv_aload_n hx hb dX1_tally_41 rfl (lv_at hl 1 rfl) ?_
  refine va_get (D := (dC, dI)) (ci := 1) (v := .ref gd) (C := RX1) (T := TX1) (N := 5) hx hb hts i_1 hown hK hP 0 rfl rfl 2 (by decide) k_1 (fun _ h9 => h9) rfl dX1_tally_42 ?_
  refine lv_aload_n hx hb dX1_tally_45 rfl (lv_at hl 1 rfl) ?_
  refine va_get (D := (dC, dI)) (ci := 1) (v := .ref gh) (C := RX1) (T := TX1) (N := 5) hx hb hts i_1 hown hK hP 0 rfl rfl 0 (by decide) k_3 (fun _ h9 => h9) rfl dX1_tally_46 ?_
  refine lv_iload_n hx hb dX1_tally_49 rfl (lv_at hl 0 rfl) ?_
  refine va_iald hx hb hK hP 1 0 rfl rfl (vp_c (by decide)) dX1_tally_50 ?_
  refine lc_i (v := 0) hz ?_
  refine lv_dup2_11 hx hb dX1_tally_51 rfl rfl ?_
  refine va_iald hx hb hK hP 5 0 rfl rfl (vp_c (by decide)) dX1_tally_52 ?_
  refine lc_i (v := 0) (by first | rfl | decide) ?_
  refine lv_aload_n hx hb dX1_tally_53 rfl (lv_at hl 2 rfl) ?_
  refine va_get (D := (dC, dI)) (ci := 0) (v := .ref d) (C := RX0) (T := TX0) (N := 4) hx hb hts i_0 hown hK hP 2 rfl rfl 1 (by decide) k_4 (fun _ h9 => h9) rfl dX1_tally_54 ?_
  refine lv_iload_n hx hb dX1_tally_57 rfl (lv_at hl 0 rfl) ?_
  refine va_iald hx hb hK hP 3 0 rfl rfl (vp_c (by decide)) dX1_tally_58 ?_
  refine lc_i (v := 0) (by first | rfl | decide) ?_
  refine lv_iadd hx hb dX1_tally_59 ?_
  refine lc_i (v := 0) (by first | rfl | decide) ?_
  refine va_iast hx hb hK hP hD hS 5 0 rfl rfl (vp_c (by decide)) dX1_tally_60 (fun H locs hP hD hS => ?_)
  have hP : va_P (dC, dI) vwCl [(gr, .inr (1, [.ref gh, .ref gc, .ref gd, .ref gl, .ref gn])), (gh, .inl (cI, 40, .inl fh)), (g, .inr (0, [.ref w, .ref d, .int 1, .int 0])), (d, .inl (cI, 40, .inl Zi)), (gc, .inl (cI, 40, .inl (upd Zi 0 1))), (gd, .inl (cI, 40, .inl (upd Zi 0 0)))] H := hP
  have hD : va_D A [(gr, .inr (1, [.ref gh, .ref gc, .ref gd, .ref gl, .ref gn])), (gh, .inl (cI, 40, .inl fh)), (g, .inr (0, [.ref w, .ref d, .int 1, .int 0])), (d, .inl (cI, 40, .inl Zi)), (gc, .inl (cI, 40, .inl (upd Zi 0 1))), (gd, .inl (cI, 40, .inl (upd Zi 0 0)))] := hD
  refine lv_iinc (v := 1) (lv' := [(2, .int 1), (0, .ref gr), (1, .ref g)]) hx hb dX1_tally_61 hl (k := 0) rfl (by decide) (by decide) rfl (fun ls hl => ?_)
  refine lv_goto (tgt := 18) hx hb dX1_tally_64 (by decide) ?_
  refine lv_iload_n hx hb dX1_tally_18 rfl (lv_at hl 0 rfl) ?_
  refine lv_aload_n hx hb dX1_tally_19 rfl (lv_at hl 2 rfl) ?_
  refine va_get (D := (dC, dI)) (ci := 0) (v := .int 1) (C := RX0) (T := TX0) (N := 4) hx hb hts i_0 hown hK hP 2 rfl rfl 2 (by decide) k_2 (fun _ h9 => h9) rfl dX1_tally_20 ?_
  refine lv_icmp_ge (tgt := 67) hx hb dX1_tally_23 (by decide) (fun c_6 => ?_) (fun c_6 => ?_)
  rotate_left
  · exact absurd (by decide) c_6
  have hP9 := hP.sub (ws' := [(gr, .inr (1, [.ref gh, .ref gc, .ref gd, .ref gl, .ref gn])), (gh, .inl (cI, 40, .inl fh)), (gc, .inl (cI, 40, .inl (upd Zi 0 1))), (gd, .inl (cI, 40, .inl (upd Zi 0 0))), (g, .inr (0, [.ref w, .ref d, .int 1, .int 0])), (d, .inl (cI, 40, .inl Zi))]) [0, 1, 4, 5, 2, 3] rfl
  have hD9 := hD.sub (ws' := [(gr, .inr (1, [.ref gh, .ref gc, .ref gd, .ref gl, .ref gn])), (gh, .inl (cI, 40, .inl fh)), (gc, .inl (cI, 40, .inl (upd Zi 0 1))), (gd, .inl (cI, 40, .inl (upd Zi 0 0))), (g, .inr (0, [.ref w, .ref d, .int 1, .int 0])), (d, .inl (cI, 40, .inl Zi))]) [0, 1, 4, 5, 2, 3] (by decide) rfl
  exact W.vret hx hb hr (fun t ht hW => ⟨⟨(), rfl, trivial, by rw [ht]; exact hP9, hD9⟩, hS.F ht⟩) hS.2.2 dX1_tally_67
set_option maxHeartbeats 4000000 in
set_option maxRecDepth 100000 in
theorem c_X1_tie (l : Launch) (dC : Nat → ClassId) (dI : Nat → Nat → Nat) (cI cJ : ClassId) (gr gh gc gd gl gn g w d : Nat) (sz : Nat) (fl : Nat → Int32) : Met l yX1_tie wsX1_tie ({ frames := 1, cells := 0, slots := 0, locals := 23 }) (va_Pc [.ref gr, .ref g, .int 0] (pPre dC dI cI cJ sz [(gr, .inr (1, [.ref gh, .ref gc, .ref gd, .ref gl, .ref gn])), (gl, .inl (cI, 40, .inl fl)), (g, .inr (0, [.ref w, .ref d, .int 1, .int 0]))])) (va_Qv (fun _ : Unit => True) (pPost dC dI (va_A [(gr, .inr (1, [.ref gh, .ref gc, .ref gd, .ref gl, .ref gn])), (gl, .inl (cI, 40, .inl fl)), (g, .inr (0, [.ref w, .ref d, .int 1, .int 0]))] sz) [(gr, .inr (1, [.ref gh, .ref gc, .ref gd, .ref gl, .ref gn])), (gl, .inl (cI, 40, .inl Zi)), (g, .inr (0, [.ref w, .ref d, .int 1, .int 0]))]) (va_A [(gr, .inr (1, [.ref gh, .ref gc, .ref gd, .ref gl, .ref gn])), (gl, .inl (cI, 40, .inl fl)), (g, .inr (0, [.ref w, .ref d, .int 1, .int 0]))] sz)) 0 0 (va_A [(gr, .inr (1, [.ref gh, .ref gc, .ref gd, .ref gl, .ref gn])), (gl, .inl (cI, 40, .inl fl)), (g, .inr (0, [.ref w, .ref d, .int 1, .int 0]))] sz) := by
  refine Met.ofW (cc := cX1_tie) (maxL := 4) (ret := none) (by decide) rfl ?_
  intro p e s m args below meth c s₁ B hml hv
  obtain ⟨rfl, hsz, hP, hK, hD0⟩ := hv
  have hx := B.exec
  have hb := B.bytes
  have hr := B.returns
  have hts := atoms_spec (ws := wsX1_tie) B.pre
  have hown : s.vm.findClass RX1 = some m.cls := findClass_of_methodNamed B.named
  have hlocks := B.notSynchronized
  subst hsz
  have hD := hD0.self (sz := s.heap.size)
  generalize hAe : va_A [(gr, .inr (1, [.ref gh, .ref gc, .ref gd, .ref gl, .ref gn])), (gl, .inl (cI, 40, .inl fl)), (g, .inr (0, [.ref w, .ref d, .int 1, .int 0]))] s.heap.size = A at hD ⊢
  have hA : ∀ q : Nat, s.heap.size ≤ q → A q := fun q h => by rw [← hAe]; exact Or.inr h
  have hS : va_S A s.heap s.heap [] := va_S.rf
  have hP : va_P (dC, dI) vwCl [(gr, .inr (1, [.ref gh, .ref gc, .ref gd, .ref gl, .ref gn])), (gl, .inl (cI, 40, .inl fl)), (g, .inr (0, [.ref w, .ref d, .int 1, .int 0]))] s.heap := hP
  have hl := lv_entry ([.ref gr, .ref g, .int 0]) (n := 4) (Nat.le_of_ble_eq_true rfl)
  rw [lg_entry_eq]
  generalize (lg_sl ([.ref gr, .ref g, .int 0]) ++ List.replicate (4 - (lg_sl ([.ref gr, .ref g, .int 0])).length) Slot.unset).toArray = ls at hl ⊢
  have hl : lv_has ls 4 [(0, .ref gr), (1, .ref g), (2, .int 0)] := hl
  have i_0 : ∀ w ∈ wsX00, w ∈ wsX1_tie := by decide +kernel
  have i_1 : ∀ w ∈ wsX10, w ∈ wsX1_tie := by decide +kernel
  have k_0 := hts (.fieldLink RX1 21 "CommunityLevels$Groups" "link" "[I") (by decide +kernel)
  have k_1 := hts (.fieldLink RX1 33 "CommunityLevels$Graph" "size" "I") (by decide +kernel)
  refine lv_aload_n hx hb dX1_tie_0 rfl (lv_at hl 0 rfl) ?_
  refine va_get (D := (dC, dI)) (ci := 1) (v := .ref gl) (C := RX1) (T := TX1) (N := 5) hx hb hts i_1 hown hK hP 0 rfl rfl 3 (by decide) k_0 (fun _ h9 => h9) rfl dX1_tie_1 ?_
  refine lv_iconst (v := 0) hx hb dX1_tie_4 (by decide) ?_
  have hPc := hP.sub (ws' := [(gl, .inl (cI, 40, .inl fl))]) [1] rfl
  have hDc := hD.sub (ws' := [(gl, .inl (cI, 40, .inl fl))]) [1] (by decide) rfl
  have hFc := va_free (wc := [(gl, .inl (cI, 40, .inl fl))]) hD hS hA [1] rfl
  refine va_callv (va_runS (As := [.ref gl, .int 0]) (rest := []) ⟨hx, hb, hml, hown, hts⟩ (c_J7_fill_53178 l dC dI cI cJ gl s.heap.size 40 fl 0 (by decide)) (va_cwS 2 hts gX1_tie_J7_fill_53178 rfl rfl rfl (by decide +kernel) ⟨Nat.le_of_ble_eq_true rfl, Nat.le_of_ble_eq_true rfl⟩) ⟨fun a U g mk q => by obtain ⟨q0, q1, qP, qK, qD⟩ := q; exact ⟨q0, q1, qP, va_K.moved (u := U) (U := U.calling g mk a) (Vm.Alike.refl U.vm) qK, qD⟩, fun U hU hW => ⟨rfl, by rw [hU], by rw [hU]; exact hPc, va_K.moved hW.alike hK, hDc.weaken (fun _ _ _ _ => trivial)⟩⟩ rfl rfl hl.1 rfl (lv_room (Nat.le_of_ble_eq_true rfl)) dX1_tie_5 ⟨Nat.le_of_ble_eq_true rfl, Nat.le_of_ble_eq_true rfl⟩) hS (fun q _ h => hFc q h) hFc (fun u_2 t H1 locs ht hvm hw hB hz1 hk1 hS => ?_)
  obtain ⟨hP1, hD1⟩ := hB
  rw [ht] at hP1
  obtain ⟨hP, hD⟩ := va_join (wr := [(gr, .inr (1, [.ref gh, .ref gc, .ref gd, .ref gl, .ref gn])), (g, .inr (0, [.ref w, .ref d, .int 1, .int 0]))]) (w1 := [(gl, .inl (cI, 40, .inl Zi))]) hP hD [1] [0, 2] rfl rfl (by decide) (by decide) hk1 hFc hP1 hD1
  generalize H1 = H at hP hS ⊢
  have hP : va_P (dC, dI) vwCl [(gr, .inr (1, [.ref gh, .ref gc, .ref gd, .ref gl, .ref gn])), (g, .inr (0, [.ref w, .ref d, .int 1, .int 0])), (gl, .inl (cI, 40, .inl Zi))] H := hP
  have hD : va_D A [(gr, .inr (1, [.ref gh, .ref gc, .ref gd, .ref gl, .ref gn])), (g, .inr (0, [.ref w, .ref d, .int 1, .int 0])), (gl, .inl (cI, 40, .inl Zi))] := hD
  refine lv_iconst (v := 0) hx hb dX1_tie_8 (by decide) ?_
  refine lv_istore_n (lv' := [(3, .int 0), (0, .ref gr), (1, .ref g), (2, .int 0)]) hx hb dX1_tie_9 rfl hl (by decide) rfl (fun ls hl => ?_)
  refine lv_iload_n hx hb dX1_tie_10 rfl (lv_at hl 0 rfl) ?_
  refine lv_aload_n hx hb dX1_tie_11 rfl (lv_at hl 2 rfl) ?_
  refine va_get (D := (dC, dI)) (ci := 0) (v := .int 1) (C := RX0) (T := TX0) (N := 4) hx hb hts i_0 hown hK hP 1 rfl rfl 2 (by decide) k_1 (fun _ h9 => h9) rfl dX1_tie_12 ?_
  refine lv_icmp_ge (tgt := 49) hx hb dX1_tie_15 (by decide) (fun c_3 => ?_) (fun c_3 => ?_)
  · exact absurd c_3 (by decide)
  refine lv_iload_n hx hb dX1_tie_18 rfl (lv_at hl 0 rfl) ?_
  refine lv_iload_n hx hb dX1_tie_19 rfl (lv_at hl 3 rfl) ?_
  refine lv_icmp_eq (tgt := 43) hx hb dX1_tie_20 (by decide) (fun c_4 => ?_) (fun c_4 => ?_)
  rotate_left
  · exact absurd (by decide) c_4
  refine lv_iinc (v := 1) (lv' := [(3, .int 1), (0, .ref gr), (1, .ref g), (2, .int 0)]) hx hb dX1_tie_43 hl (k := 0) rfl (by decide) (by decide) rfl (fun ls hl => ?_)
  refine lv_goto (tgt := 10) hx hb dX1_tie_46 (by decide) ?_
  refine lv_iload_n hx hb dX1_tie_10 rfl (lv_at hl 0 rfl) ?_
  refine lv_aload_n hx hb dX1_tie_11 rfl (lv_at hl 2 rfl) ?_
  refine va_get (D := (dC, dI)) (ci := 0) (v := .int 1) (C := RX0) (T := TX0) (N := 4) hx hb hts i_0 hown hK hP 1 rfl rfl 2 (by decide) k_1 (fun _ h9 => h9) rfl dX1_tie_12 ?_
  refine lv_icmp_ge (tgt := 49) hx hb dX1_tie_15 (by decide) (fun c_5 => ?_) (fun c_5 => ?_)
  rotate_left
  · exact absurd (by decide) c_5
  have hP9 := hP.sub (ws' := [(gr, .inr (1, [.ref gh, .ref gc, .ref gd, .ref gl, .ref gn])), (gl, .inl (cI, 40, .inl Zi)), (g, .inr (0, [.ref w, .ref d, .int 1, .int 0]))]) [0, 2, 1] rfl
  have hD9 := hD.sub (ws' := [(gr, .inr (1, [.ref gh, .ref gc, .ref gd, .ref gl, .ref gn])), (gl, .inl (cI, 40, .inl Zi)), (g, .inr (0, [.ref w, .ref d, .int 1, .int 0]))]) [0, 2, 1] (by decide) rfl
  exact W.vret hx hb hr (fun t ht hW => ⟨⟨(), rfl, trivial, by rw [ht]; exact hP9, hD9⟩, hS.F ht⟩) hS.2.2 dX1_tie_49
set_option maxHeartbeats 4000000 in
set_option maxRecDepth 100000 in
theorem c_X1_score (l : Launch) (dC : Nat → ClassId) (dI : Nat → Nat → Nat) (cI cJ : ClassId) (gr gh gc gd gl gn g w d : Nat) (sz : Nat) (fh : Nat → Int32) (hz : fh 0 = 0) : Met l yX1_score wsX1_score ({ frames := 1, cells := 0, slots := 0, locals := 22 }) (va_Pc [.ref gr, .ref g] (pPre dC dI cI cJ sz [(gr, .inr (1, [.ref gh, .ref gc, .ref gd, .ref gl, .ref gn])), (gh, .inl (cI, 40, .inl fh)), (gd, .inl (cI, 40, .inl (upd Zi 0 0))), (g, .inr (0, [.ref w, .ref d, .int 1, .int 0])), (w, .inl (cI, 1600, .inl Zi))])) (va_Ql (fun (r : Int64) (_ : Unit) => r = 0) (pPost dC dI (va_A [(gr, .inr (1, [.ref gh, .ref gc, .ref gd, .ref gl, .ref gn])), (gh, .inl (cI, 40, .inl fh)), (gd, .inl (cI, 40, .inl (upd Zi 0 0))), (g, .inr (0, [.ref w, .ref d, .int 1, .int 0])), (w, .inl (cI, 1600, .inl Zi))] sz) [(gr, .inr (1, [.ref gh, .ref gc, .ref gd, .ref gl, .ref gn])), (gh, .inl (cI, 40, .inl fh)), (gd, .inl (cI, 40, .inl (upd Zi 0 0))), (g, .inr (0, [.ref w, .ref d, .int 1, .int 0])), (w, .inl (cI, 1600, .inl Zi))]) (va_A [(gr, .inr (1, [.ref gh, .ref gc, .ref gd, .ref gl, .ref gn])), (gh, .inl (cI, 40, .inl fh)), (gd, .inl (cI, 40, .inl (upd Zi 0 0))), (g, .inr (0, [.ref w, .ref d, .int 1, .int 0])), (w, .inl (cI, 1600, .inl Zi))] sz)) 0 0 (va_A [(gr, .inr (1, [.ref gh, .ref gc, .ref gd, .ref gl, .ref gn])), (gh, .inl (cI, 40, .inl fh)), (gd, .inl (cI, 40, .inl (upd Zi 0 0))), (g, .inr (0, [.ref w, .ref d, .int 1, .int 0])), (w, .inl (cI, 1600, .inl Zi))] sz) := by
  refine Met.ofW (cc := cX1_score) (maxL := 7) (ret := (some .long)) (by decide) rfl ?_
  intro p e s m args below meth c s₁ B hml hv
  obtain ⟨rfl, hsz, hP, hK, hD0⟩ := hv
  have hx := B.exec
  have hb := B.bytes
  have hr := B.returns
  have hts := atoms_spec (ws := wsX1_score) B.pre
  have hown : s.vm.findClass RX1 = some m.cls := findClass_of_methodNamed B.named
  have hlocks := B.notSynchronized
  subst hsz
  have hD := hD0.self (sz := s.heap.size)
  generalize hAe : va_A [(gr, .inr (1, [.ref gh, .ref gc, .ref gd, .ref gl, .ref gn])), (gh, .inl (cI, 40, .inl fh)), (gd, .inl (cI, 40, .inl (upd Zi 0 0))), (g, .inr (0, [.ref w, .ref d, .int 1, .int 0])), (w, .inl (cI, 1600, .inl Zi))] s.heap.size = A at hD ⊢
  have hA : ∀ q : Nat, s.heap.size ≤ q → A q := fun q h => by rw [← hAe]; exact Or.inr h
  have hS : va_S A s.heap s.heap [] := va_S.rf
  have hP : va_P (dC, dI) vwCl [(gr, .inr (1, [.ref gh, .ref gc, .ref gd, .ref gl, .ref gn])), (gh, .inl (cI, 40, .inl fh)), (gd, .inl (cI, 40, .inl (upd Zi 0 0))), (g, .inr (0, [.ref w, .ref d, .int 1, .int 0])), (w, .inl (cI, 1600, .inl Zi))] s.heap := hP
  have hl := lv_entry ([.ref gr, .ref g]) (n := 7) (Nat.le_of_ble_eq_true rfl)
  rw [lg_entry_eq]
  generalize (lg_sl ([.ref gr, .ref g]) ++ List.replicate (7 - (lg_sl ([.ref gr, .ref g])).length) Slot.unset).toArray = ls at hl ⊢
  have hl : lv_has ls 7 [(0, .ref gr), (1, .ref g)] := hl
  have i_0 : ∀ w ∈ wsX00, w ∈ wsX1_score := by decide +kernel
  have i_1 : ∀ w ∈ wsX10, w ∈ wsX1_score := by decide +kernel
  have k_0 := hts (.fieldLink RX1 33 "CommunityLevels$Graph" "size" "I") (by decide +kernel)
  have k_1 := hts (.fieldLink RX1 9 "CommunityLevels$Groups" "home" "[I") (by decide +kernel)
  have k_2 := hts (.constantLong RX1 44 (4)) (by decide +kernel)
  have k_3 := hts (.fieldLink RX1 46 "CommunityLevels$Graph" "total" "I") (by decide +kernel)
  have k_4 := hts (.fieldLink RX1 18 "CommunityLevels$Groups" "degree" "[I") (by decide +kernel)
  refine lv_lconst (v := 0) hx hb dX1_score_0 (by decide) ?_
  refine lv_lstore_n (lv' := [(2, .long 0), (0, .ref gr), (1, .ref g)]) hx hb dX1_score_1 rfl hl (by decide) rfl (fun ls hl => ?_)
  refine lv_iconst (v := 0) hx hb dX1_score_2 (by decide) ?_
  refine lv_istore (lv' := [(4, .int 0), (2, .long 0), (0, .ref gr), (1, .ref g)]) hx hb dX1_score_3 hl (by decide) rfl (fun ls hl => ?_)
  refine lv_iload hx hb dX1_score_5 (lv_at hl 0 rfl) ?_
  refine lv_aload_n hx hb dX1_score_7 rfl (lv_at hl 3 rfl) ?_
  refine va_get (D := (dC, dI)) (ci := 0) (v := .int 1) (C := RX0) (T := TX0) (N := 4) hx hb hts i_0 hown hK hP 3 rfl rfl 2 (by decide) k_0 (fun _ h9 => h9) rfl dX1_score_8 ?_
  refine lv_icmp_ge (tgt := 68) hx hb dX1_score_11 (by decide) (fun c_1 => ?_) (fun c_1 => ?_)
  · exact absurd c_1 (by decide)
  refine lv_iload hx hb dX1_score_14 (lv_at hl 0 rfl) ?_
  refine lv_istore (lv' := [(5, .int 0), (4, .int 0), (2, .long 0), (0, .ref gr), (1, .ref g)]) hx hb dX1_score_16 hl (by decide) rfl (fun ls hl => ?_)
  refine lv_iload hx hb dX1_score_18 (lv_at hl 0 rfl) ?_
  refine lv_aload_n hx hb dX1_score_20 rfl (lv_at hl 4 rfl) ?_
  refine va_get (D := (dC, dI)) (ci := 0) (v := .int 1) (C := RX0) (T := TX0) (N := 4) hx hb hts i_0 hown hK hP 3 rfl rfl 2 (by decide) k_0 (fun _ h9 => h9) rfl dX1_score_21 ?_
  refine lv_icmp_ge (tgt := 62) hx hb dX1_score_24 (by decide) (fun c_2 => ?_) (fun c_2 => ?_)
  · exact absurd c_2 (by decide)
  refine lv_aload_n hx hb dX1_score_27 rfl (lv_at hl 3 rfl) ?_
  refine va_get (D := (dC, dI)) (ci := 1) (v := .ref gh) (C := RX1) (T := TX1) (N := 5) hx hb hts i_1 hown hK hP 0 rfl rfl 0 (by decide) k_1 (fun _ h9 => h9) rfl dX1_score_28 ?_
  refine lv_iload hx hb dX1_score_31 (lv_at hl 1 rfl) ?_
  refine va_iald hx hb hK hP 1 0 rfl rfl (vp_c (by decide)) dX1_score_33 ?_
  refine lc_i (v := 0) hz ?_
  refine lv_aload_n hx hb dX1_score_34 rfl (lv_at hl 3 rfl) ?_
  refine va_get (D := (dC, dI)) (ci := 1) (v := .ref gh) (C := RX1) (T := TX1) (N := 5) hx hb hts i_1 hown hK hP 0 rfl rfl 0 (by decide) k_1 (fun _ h9 => h9) rfl dX1_score_35 ?_
  refine lv_iload hx hb dX1_score_38 (lv_at hl 0 rfl) ?_
  refine va_iald hx hb hK hP 1 0 rfl rfl (vp_c (by decide)) dX1_score_40 ?_
  refine lc_i (v := 0) hz ?_
  refine lv_icmp_ne (tgt := 56) hx hb dX1_score_41 (by decide) (fun c_3 => ?_) (fun c_3 => ?_)
  · exact absurd c_3 (by decide)
  refine lv_lload_n hx hb dX1_score_44 rfl (lv_at hl 2 rfl) ?_
  refine lv_aload_n hx hb dX1_score_45 rfl (lv_at hl 4 rfl) ?_
  refine lv_iload hx hb dX1_score_46 (lv_at hl 1 rfl) ?_
  refine lv_iload hx hb dX1_score_48 (lv_at hl 0 rfl) ?_
  have hPc := hP.sub (ws' := [(g, .inr (0, [.ref w, .ref d, .int 1, .int 0])), (w, .inl (cI, 1600, .inl Zi))]) [3, 4] rfl
  have hDc := hD.sub (ws' := [(g, .inr (0, [.ref w, .ref d, .int 1, .int 0])), (w, .inl (cI, 1600, .inl Zi))]) [3, 4] (by decide) rfl
  have hFc := va_free (wc := [(g, .inr (0, [.ref w, .ref d, .int 1, .int 0])), (w, .inl (cI, 1600, .inl Zi))]) hD hS hA [3, 4] rfl
  refine va_calli (va_runV (As := [.int 0, .int 0]) (rest := [.long 0]) ⟨hx, hb, hml, hown, hts⟩ (c_X0_between l dC dI cI cJ g w d s.heap.size Zi 1 0) (cwV 2 hts gX1_score_X0_between rfl rfl rfl (by decide +kernel) ⟨Nat.le_of_ble_eq_true rfl, Nat.le_of_ble_eq_true rfl⟩) ⟨fun a U g mk q => by obtain ⟨q0, q1, qP, qK, qD⟩ := q; exact ⟨q0, q1, qP, va_K.moved (u := U) (U := U.calling g mk a) (Vm.Alike.refl U.vm) qK, qD⟩, va_recv hK hPc (ci := 0) (q0 := 0) rfl rfl, fun U hU hW => ⟨rfl, by rw [hU], by rw [hU]; exact hPc, va_K.moved hW.alike hK, hDc.weaken (fun _ _ _ _ => trivial)⟩⟩ rfl rfl hl.1 rfl (lv_room (Nat.le_of_ble_eq_true rfl)) dX1_score_50 ⟨Nat.le_of_ble_eq_true rfl, Nat.le_of_ble_eq_true rfl⟩) hS (fun q _ h => hFc q h) hFc (fun r_4 u_5 t H1 locs ht hvm hw hB hz1 hk1 hS => ?_)
  obtain ⟨hP1, hD1⟩ := hB
  rw [ht] at hP1
  obtain ⟨hP, hD⟩ := va_join (wr := [(gr, .inr (1, [.ref gh, .ref gc, .ref gd, .ref gl, .ref gn])), (gh, .inl (cI, 40, .inl fh)), (gd, .inl (cI, 40, .inl (upd Zi 0 0)))]) (w1 := [(g, .inr (0, [.ref w, .ref d, .int 1, .int 0])), (w, .inl (cI, 1600, .inl Zi))]) hP hD [3, 4] [0, 1, 2] rfl rfl (by decide) (by decide) hk1 hFc hP1 hD1
  generalize H1 = H at hP hS ⊢
  have hP : va_P (dC, dI) vwCl [(gr, .inr (1, [.ref gh, .ref gc, .ref gd, .ref gl, .ref gn])), (gh, .inl (cI, 40, .inl fh)), (gd, .inl (cI, 40, .inl (upd Zi 0 0))), (g, .inr (0, [.ref w, .ref d, .int 1, .int 0])), (w, .inl (cI, 1600, .inl Zi))] H := hP
  have hD : va_D A [(gr, .inr (1, [.ref gh, .ref gc, .ref gd, .ref gl, .ref gn])), (gh, .inl (cI, 40, .inl fh)), (gd, .inl (cI, 40, .inl (upd Zi 0 0))), (g, .inr (0, [.ref w, .ref d, .int 1, .int 0])), (w, .inl (cI, 1600, .inl Zi))] := hD
  obtain rfl : r_4 = 0 := hw
  refine lv_i2l (v := 0) hx hb dX1_score_53 (by decide) ?_
  refine lv_ladd hx hb dX1_score_54 ?_
  refine lc_l (v := 0) (by first | rfl | decide) ?_
  refine lv_lstore_n (lv' := [(2, .long 0), (5, .int 0), (4, .int 0), (0, .ref gr), (1, .ref g)]) hx hb dX1_score_55 rfl hl (by decide) rfl (fun ls hl => ?_)
  refine lv_iinc (v := 1) (lv' := [(5, .int 1), (2, .long 0), (4, .int 0), (0, .ref gr), (1, .ref g)]) hx hb dX1_score_56 hl (k := 1) rfl (by decide) (by decide) rfl (fun ls hl => ?_)
  refine lv_goto (tgt := 18) hx hb dX1_score_59 (by decide) ?_
  refine lv_iload hx hb dX1_score_18 (lv_at hl 0 rfl) ?_
  refine lv_aload_n hx hb dX1_score_20 rfl (lv_at hl 4 rfl) ?_
  refine va_get (D := (dC, dI)) (ci := 0) (v := .int 1) (C := RX0) (T := TX0) (N := 4) hx hb hts i_0 hown hK hP 3 rfl rfl 2 (by decide) k_0 (fun _ h9 => h9) rfl dX1_score_21 ?_
  refine lv_icmp_ge (tgt := 62) hx hb dX1_score_24 (by decide) (fun c_6 => ?_) (fun c_6 => ?_)
  rotate_left
  · exact absurd (by decide) c_6
  refine lv_iinc (v := 1) (lv' := [(4, .int 1), (5, .int 1), (2, .long 0), (0, .ref gr), (1, .ref g)]) hx hb dX1_score_62 hl (k := 2) rfl (by decide) (by decide) rfl (fun ls hl => ?_)
  refine lv_goto (tgt := 5) hx hb dX1_score_65 (by decide) ?_
  refine lv_iload hx hb dX1_score_5 (lv_at hl 0 rfl) ?_
  refine lv_aload_n hx hb dX1_score_7 rfl (lv_at hl 4 rfl) ?_
  refine va_get (D := (dC, dI)) (ci := 0) (v := .int 1) (C := RX0) (T := TX0) (N := 4) hx hb hts i_0 hown hK hP 3 rfl rfl 2 (by decide) k_0 (fun _ h9 => h9) rfl dX1_score_8 ?_
  refine lv_icmp_ge (tgt := 68) hx hb dX1_score_11 (by decide) (fun c_7 => ?_) (fun c_7 => ?_)
  rotate_left
  · exact absurd (by decide) c_7
  refine lv_ldc2 (own := RX1) (v := 4) hx hb hown k_2 dX1_score_68 ?_
  refine lv_aload_n hx hb dX1_score_71 rfl (lv_at hl 4 rfl) ?_
  refine va_get (D := (dC, dI)) (ci := 0) (v := .int 0) (C := RX0) (T := TX0) (N := 4) hx hb hts i_0 hown hK hP 3 rfl rfl 3 (by decide) k_3 (fun _ h9 => h9) rfl dX1_score_72 ?_
  refine lv_i2l (v := 0) hx hb dX1_score_75 (by decide) ?_
  refine lv_lmul hx hb dX1_score_76 ?_
  refine lc_l (v := 0) (by first | rfl | decide) ?_
  refine lv_lload_n hx hb dX1_score_77 rfl (lv_at hl 2 rfl) ?_
  refine lv_lmul hx hb dX1_score_78 ?_
  refine lc_l (v := 0) (by first | rfl | decide) ?_
  refine lv_lstore (lv' := [(4, .long 0), (2, .long 0), (0, .ref gr), (1, .ref g)]) hx hb dX1_score_79 hl (by decide) rfl (fun ls hl => ?_)
  refine lv_iconst (v := 0) hx hb dX1_score_81 (by decide) ?_
  refine lv_istore (lv' := [(6, .int 0), (4, .long 0), (2, .long 0), (0, .ref gr), (1, .ref g)]) hx hb dX1_score_82 hl (by decide) rfl (fun ls hl => ?_)
  refine lv_iload hx hb dX1_score_84 (lv_at hl 0 rfl) ?_
  refine lv_aload_n hx hb dX1_score_86 rfl (lv_at hl 4 rfl) ?_
  refine va_get (D := (dC, dI)) (ci := 0) (v := .int 1) (C := RX0) (T := TX0) (N := 4) hx hb hts i_0 hown hK hP 3 rfl rfl 2 (by decide) k_0 (fun _ h9 => h9) rfl dX1_score_87 ?_
  refine lv_icmp_ge (tgt := 121) hx hb dX1_score_90 (by decide) (fun c_8 => ?_) (fun c_8 => ?_)
  · exact absurd c_8 (by decide)
  refine lv_lload hx hb dX1_score_93 (lv_at hl 1 rfl) ?_
  refine lv_aload_n hx hb dX1_score_95 rfl (lv_at hl 3 rfl) ?_
  refine va_get (D := (dC, dI)) (ci := 1) (v := .ref gd) (C := RX1) (T := TX1) (N := 5) hx hb hts i_1 hown hK hP 0 rfl rfl 2 (by decide) k_4 (fun _ h9 => h9) rfl dX1_score_96 ?_
  refine lv_iload hx hb dX1_score_99 (lv_at hl 0 rfl) ?_
  refine va_iald hx hb hK hP 2 0 rfl rfl (vp_c (by decide)) dX1_score_101 ?_
  refine lc_i (v := 0) (by first | rfl | decide) ?_
  refine lv_i2l (v := 0) hx hb dX1_score_102 (by decide) ?_
  refine lv_aload_n hx hb dX1_score_103 rfl (lv_at hl 3 rfl) ?_
  refine va_get (D := (dC, dI)) (ci := 1) (v := .ref gd) (C := RX1) (T := TX1) (N := 5) hx hb hts i_1 hown hK hP 0 rfl rfl 2 (by decide) k_4 (fun _ h9 => h9) rfl dX1_score_104 ?_
  refine lv_iload hx hb dX1_score_107 (lv_at hl 0 rfl) ?_
  refine va_iald hx hb hK hP 2 0 rfl rfl (vp_c (by decide)) dX1_score_109 ?_
  refine lc_i (v := 0) (by first | rfl | decide) ?_
  refine lv_i2l (v := 0) hx hb dX1_score_110 (by decide) ?_
  refine lv_lmul hx hb dX1_score_111 ?_
  refine lc_l (v := 0) (by first | rfl | decide) ?_
  refine lv_lsub hx hb dX1_score_112 ?_
  refine lc_l (v := 0) (by first | rfl | decide) ?_
  refine lv_lstore (lv' := [(4, .long 0), (6, .int 0), (2, .long 0), (0, .ref gr), (1, .ref g)]) hx hb dX1_score_113 hl (by decide) rfl (fun ls hl => ?_)
  refine lv_iinc (v := 1) (lv' := [(6, .int 1), (4, .long 0), (2, .long 0), (0, .ref gr), (1, .ref g)]) hx hb dX1_score_115 hl (k := 1) rfl (by decide) (by decide) rfl (fun ls hl => ?_)
  refine lv_goto (tgt := 84) hx hb dX1_score_118 (by decide) ?_
  refine lv_iload hx hb dX1_score_84 (lv_at hl 0 rfl) ?_
  refine lv_aload_n hx hb dX1_score_86 rfl (lv_at hl 4 rfl) ?_
  refine va_get (D := (dC, dI)) (ci := 0) (v := .int 1) (C := RX0) (T := TX0) (N := 4) hx hb hts i_0 hown hK hP 3 rfl rfl 2 (by decide) k_0 (fun _ h9 => h9) rfl dX1_score_87 ?_
  refine lv_icmp_ge (tgt := 121) hx hb dX1_score_90 (by decide) (fun c_9 => ?_) (fun c_9 => ?_)
  rotate_left
  · exact absurd (by decide) c_9
  refine lv_lload hx hb dX1_score_121 (lv_at hl 1 rfl) ?_
  have hP9 := hP.sub (ws' := [(gr, .inr (1, [.ref gh, .ref gc, .ref gd, .ref gl, .ref gn])), (gh, .inl (cI, 40, .inl fh)), (gd, .inl (cI, 40, .inl (upd Zi 0 0))), (g, .inr (0, [.ref w, .ref d, .int 1, .int 0])), (w, .inl (cI, 1600, .inl Zi))]) [0, 1, 2, 3, 4] rfl
  have hD9 := hD.sub (ws' := [(gr, .inr (1, [.ref gh, .ref gc, .ref gd, .ref gl, .ref gn])), (gh, .inl (cI, 40, .inl fh)), (gd, .inl (cI, 40, .inl (upd Zi 0 0))), (g, .inr (0, [.ref w, .ref d, .int 1, .int 0])), (w, .inl (cI, 1600, .inl Zi))]) [0, 1, 2, 3, 4] (by decide) rfl
  exact W.lret (v := 0) hx hb hr (fun t ht hW => ⟨⟨_, (), rfl, rfl, by rw [ht]; exact hP9, hD9⟩, hS.F ht⟩) hS.2.2 dX1_score_123
set_option maxHeartbeats 4000000 in
set_option maxRecDepth 100000 in
theorem c_X1_gainInto (l : Launch) (dC : Nat → ClassId) (dI : Nat → Nat → Nat) (cI cJ : ClassId) (gr gh gc gd gl gn g w d : Nat) (sz : Nat) (fh : Nat → Int32) (hz : fh 0 = 0) : Met l yX1_gainInto wsX1_gainInto ({ frames := 0, cells := 0, slots := 0, locals := 0 }) (va_Pc [.ref gr, .ref g, .int 0, .int 0] (pPre dC dI cI cJ sz [(gr, .inr (1, [.ref gh, .ref gc, .ref gd, .ref gl, .ref gn])), (gh, .inl (cI, 40, .inl fh)), (g, .inr (0, [.ref w, .ref d, .int 1, .int 0]))])) (va_Ql (fun (r : Int64) (_ : Unit) => r = 0) (pPost dC dI (va_A [(gr, .inr (1, [.ref gh, .ref gc, .ref gd, .ref gl, .ref gn])), (gh, .inl (cI, 40, .inl fh)), (g, .inr (0, [.ref w, .ref d, .int 1, .int 0]))] sz) [(gr, .inr (1, [.ref gh, .ref gc, .ref gd, .ref gl, .ref gn])), (gh, .inl (cI, 40, .inl fh)), (g, .inr (0, [.ref w, .ref d, .int 1, .int 0]))]) (va_A [(gr, .inr (1, [.ref gh, .ref gc, .ref gd, .ref gl, .ref gn])), (gh, .inl (cI, 40, .inl fh)), (g, .inr (0, [.ref w, .ref d, .int 1, .int 0]))] sz)) 0 0 (va_A [(gr, .inr (1, [.ref gh, .ref gc, .ref gd, .ref gl, .ref gn])), (gh, .inl (cI, 40, .inl fh)), (g, .inr (0, [.ref w, .ref d, .int 1, .int 0]))] sz) := by
  refine Met.ofW (cc := cX1_gainInto) (maxL := 11) (ret := (some .long)) (by decide) rfl ?_
  intro p e s m args below meth c s₁ B hml hv
  obtain ⟨rfl, hsz, hP, hK, hD0⟩ := hv
  have hx := B.exec
  have hb := B.bytes
  have hr := B.returns
  have hts := atoms_spec (ws := wsX1_gainInto) B.pre
  have hown : s.vm.findClass RX1 = some m.cls := findClass_of_methodNamed B.named
  have hlocks := B.notSynchronized
  subst hsz
  have hD := hD0.self (sz := s.heap.size)
  generalize hAe : va_A [(gr, .inr (1, [.ref gh, .ref gc, .ref gd, .ref gl, .ref gn])), (gh, .inl (cI, 40, .inl fh)), (g, .inr (0, [.ref w, .ref d, .int 1, .int 0]))] s.heap.size = A at hD ⊢
  have hA : ∀ q : Nat, s.heap.size ≤ q → A q := fun q h => by rw [← hAe]; exact Or.inr h
  have hS : va_S A s.heap s.heap [] := va_S.rf
  have hP : va_P (dC, dI) vwCl [(gr, .inr (1, [.ref gh, .ref gc, .ref gd, .ref gl, .ref gn])), (gh, .inl (cI, 40, .inl fh)), (g, .inr (0, [.ref w, .ref d, .int 1, .int 0]))] s.heap := hP
  have hl := lv_entry ([.ref gr, .ref g, .int 0, .int 0]) (n := 11) (Nat.le_of_ble_eq_true rfl)
  rw [lg_entry_eq]
  generalize (lg_sl ([.ref gr, .ref g, .int 0, .int 0]) ++ List.replicate (11 - (lg_sl ([.ref gr, .ref g, .int 0, .int 0])).length) Slot.unset).toArray = ls at hl ⊢
  have hl : lv_has ls 11 [(0, .ref gr), (1, .ref g), (2, .int 0), (3, .int 0)] := hl
  have i_1 : ∀ w ∈ wsX10, w ∈ wsX1_gainInto := by decide +kernel
  have k_0 := hts (.fieldLink RX1 9 "CommunityLevels$Groups" "home" "[I") (by decide +kernel)
  refine lv_aload_n hx hb dX1_gainInto_0 rfl (lv_at hl 0 rfl) ?_
  refine va_get (D := (dC, dI)) (ci := 1) (v := .ref gh) (C := RX1) (T := TX1) (N := 5) hx hb hts i_1 hown hK hP 0 rfl rfl 0 (by decide) k_0 (fun _ h9 => h9) rfl dX1_gainInto_1 ?_
  refine lv_iload_n hx hb dX1_gainInto_4 rfl (lv_at hl 2 rfl) ?_
  refine va_iald hx hb hK hP 1 0 rfl rfl (vp_c (by decide)) dX1_gainInto_5 ?_
  refine lc_i (v := 0) hz ?_
  refine lv_istore (lv' := [(4, .int 0), (0, .ref gr), (1, .ref g), (2, .int 0), (3, .int 0)]) hx hb dX1_gainInto_6 hl (by decide) rfl (fun ls hl => ?_)
  refine lv_iload_n hx hb dX1_gainInto_8 rfl (lv_at hl 4 rfl) ?_
  refine lv_iload hx hb dX1_gainInto_9 (lv_at hl 0 rfl) ?_
  refine lv_icmp_ne (tgt := 16) hx hb dX1_gainInto_11 (by decide) (fun c_1 => ?_) (fun c_1 => ?_)
  · exact absurd c_1 (by decide)
  refine lv_lconst (v := 0) hx hb dX1_gainInto_14 (by decide) ?_
  have hP9 := hP.sub (ws' := [(gr, .inr (1, [.ref gh, .ref gc, .ref gd, .ref gl, .ref gn])), (gh, .inl (cI, 40, .inl fh)), (g, .inr (0, [.ref w, .ref d, .int 1, .int 0]))]) [0, 1, 2] rfl
  have hD9 := hD.sub (ws' := [(gr, .inr (1, [.ref gh, .ref gc, .ref gd, .ref gl, .ref gn])), (gh, .inl (cI, 40, .inl fh)), (g, .inr (0, [.ref w, .ref d, .int 1, .int 0]))]) [0, 1, 2] (by decide) rfl
  exact W.lret (v := 0) hx hb hr (fun t ht hW => ⟨⟨_, (), rfl, rfl, by rw [ht]; exact hP9, hD9⟩, hS.F ht⟩) hS.2.2 dX1_gainInto_15
set_option maxHeartbeats 4000000 in
set_option maxRecDepth 100000 in
theorem c_X1_choose (l : Launch) (dC : Nat → ClassId) (dI : Nat → Nat → Nat) (cI cJ : ClassId) (gr gh gc gd gl gn g w d : Nat) (sz : Nat) (fh : Nat → Int32) (hz : fh 0 = 0) : Met l yX1_choose wsX1_choose ({ frames := 0, cells := 0, slots := 0, locals := 0 }) (va_Pc [.ref gr, .ref g, .int 0] (pPre dC dI cI cJ sz [(gr, .inr (1, [.ref gh, .ref gc, .ref gd, .ref gl, .ref gn])), (gh, .inl (cI, 40, .inl fh)), (gc, .inl (cI, 40, .inl (upd Zi 0 1))), (g, .inr (0, [.ref w, .ref d, .int 1, .int 0]))])) (va_Qi (fun (r : Int32) (_ : Unit) => r = (-1)) (pPost dC dI (va_A [(gr, .inr (1, [.ref gh, .ref gc, .ref gd, .ref gl, .ref gn])), (gh, .inl (cI, 40, .inl fh)), (gc, .inl (cI, 40, .inl (upd Zi 0 1))), (g, .inr (0, [.ref w, .ref d, .int 1, .int 0]))] sz) [(gr, .inr (1, [.ref gh, .ref gc, .ref gd, .ref gl, .ref gn])), (gh, .inl (cI, 40, .inl fh)), (gc, .inl (cI, 40, .inl (upd Zi 0 1))), (g, .inr (0, [.ref w, .ref d, .int 1, .int 0]))]) (va_A [(gr, .inr (1, [.ref gh, .ref gc, .ref gd, .ref gl, .ref gn])), (gh, .inl (cI, 40, .inl fh)), (gc, .inl (cI, 40, .inl (upd Zi 0 1))), (g, .inr (0, [.ref w, .ref d, .int 1, .int 0]))] sz)) 0 0 (va_A [(gr, .inr (1, [.ref gh, .ref gc, .ref gd, .ref gl, .ref gn])), (gh, .inl (cI, 40, .inl fh)), (gc, .inl (cI, 40, .inl (upd Zi 0 1))), (g, .inr (0, [.ref w, .ref d, .int 1, .int 0]))] sz) := by
  refine Met.ofW (cc := cX1_choose) (maxL := 10) (ret := (some .int)) (by decide) rfl ?_
  intro p e s m args below meth c s₁ B hml hv
  obtain ⟨rfl, hsz, hP, hK, hD0⟩ := hv
  have hx := B.exec
  have hb := B.bytes
  have hr := B.returns
  have hts := atoms_spec (ws := wsX1_choose) B.pre
  have hown : s.vm.findClass RX1 = some m.cls := findClass_of_methodNamed B.named
  have hlocks := B.notSynchronized
  subst hsz
  have hD := hD0.self (sz := s.heap.size)
  generalize hAe : va_A [(gr, .inr (1, [.ref gh, .ref gc, .ref gd, .ref gl, .ref gn])), (gh, .inl (cI, 40, .inl fh)), (gc, .inl (cI, 40, .inl (upd Zi 0 1))), (g, .inr (0, [.ref w, .ref d, .int 1, .int 0]))] s.heap.size = A at hD ⊢
  have hA : ∀ q : Nat, s.heap.size ≤ q → A q := fun q h => by rw [← hAe]; exact Or.inr h
  have hS : va_S A s.heap s.heap [] := va_S.rf
  have hP : va_P (dC, dI) vwCl [(gr, .inr (1, [.ref gh, .ref gc, .ref gd, .ref gl, .ref gn])), (gh, .inl (cI, 40, .inl fh)), (gc, .inl (cI, 40, .inl (upd Zi 0 1))), (g, .inr (0, [.ref w, .ref d, .int 1, .int 0]))] s.heap := hP
  have hl := lv_entry ([.ref gr, .ref g, .int 0]) (n := 10) (Nat.le_of_ble_eq_true rfl)
  rw [lg_entry_eq]
  generalize (lg_sl ([.ref gr, .ref g, .int 0]) ++ List.replicate (10 - (lg_sl ([.ref gr, .ref g, .int 0])).length) Slot.unset).toArray = ls at hl ⊢
  have hl : lv_has ls 10 [(0, .ref gr), (1, .ref g), (2, .int 0)] := hl
  have i_0 : ∀ w ∈ wsX00, w ∈ wsX1_choose := by decide +kernel
  have i_1 : ∀ w ∈ wsX10, w ∈ wsX1_choose := by decide +kernel
  have k_0 := hts (.fieldLink RX1 9 "CommunityLevels$Groups" "home" "[I") (by decide +kernel)
  have k_1 := hts (.fieldLink RX1 33 "CommunityLevels$Graph" "size" "I") (by decide +kernel)
  have k_2 := hts (.fieldLink RX1 15 "CommunityLevels$Groups" "count" "[I") (by decide +kernel)
  refine lv_aload_n hx hb dX1_choose_0 rfl (lv_at hl 0 rfl) ?_
  refine va_get (D := (dC, dI)) (ci := 1) (v := .ref gh) (C := RX1) (T := TX1) (N := 5) hx hb hts i_1 hown hK hP 0 rfl rfl 0 (by decide) k_0 (fun _ h9 => h9) rfl dX1_choose_1 ?_
  refine lv_iload_n hx hb dX1_choose_4 rfl (lv_at hl 2 rfl) ?_
  refine va_iald hx hb hK hP 1 0 rfl rfl (vp_c (by decide)) dX1_choose_5 ?_
  refine lc_i (v := 0) hz ?_
  refine lv_istore_n (lv' := [(3, .int 0), (0, .ref gr), (1, .ref g), (2, .int 0)]) hx hb dX1_choose_6 rfl hl (by decide) rfl (fun ls hl => ?_)
  refine lv_iconst (v := (-1)) hx hb dX1_choose_7 (by decide) ?_
  refine lv_istore (lv' := [(4, .int (-1)), (3, .int 0), (0, .ref gr), (1, .ref g), (2, .int 0)]) hx hb dX1_choose_8 hl (by decide) rfl (fun ls hl => ?_)
  refine lv_lconst (v := 0) hx hb dX1_choose_10 (by decide) ?_
  refine lv_lstore (lv' := [(5, .long 0), (4, .int (-1)), (3, .int 0), (0, .ref gr), (1, .ref g), (2, .int 0)]) hx hb dX1_choose_11 hl (by decide) rfl (fun ls hl => ?_)
  refine lv_iconst (v := 0) hx hb dX1_choose_13 (by decide) ?_
  refine lv_istore (lv' := [(7, .int 0), (5, .long 0), (4, .int (-1)), (3, .int 0), (0, .ref gr), (1, .ref g), (2, .int 0)]) hx hb dX1_choose_14 hl (by decide) rfl (fun ls hl => ?_)
  refine lv_iload hx hb dX1_choose_16 (lv_at hl 0 rfl) ?_
  refine lv_aload_n hx hb dX1_choose_18 rfl (lv_at hl 5 rfl) ?_
  refine va_get (D := (dC, dI)) (ci := 0) (v := .int 1) (C := RX0) (T := TX0) (N := 4) hx hb hts i_0 hown hK hP 3 rfl rfl 2 (by decide) k_1 (fun _ h9 => h9) rfl dX1_choose_19 ?_
  refine lv_icmp_ge (tgt := 77) hx hb dX1_choose_22 (by decide) (fun c_1 => ?_) (fun c_1 => ?_)
  · exact absurd c_1 (by decide)
  refine lv_iload hx hb dX1_choose_25 (lv_at hl 0 rfl) ?_
  refine lv_iload_n hx hb dX1_choose_27 rfl (lv_at hl 3 rfl) ?_
  refine lv_icmp_eq (tgt := 52) hx hb dX1_choose_28 (by decide) (fun c_2 => ?_) (fun c_2 => ?_)
  rotate_left
  · exact absurd (by decide) c_2
  refine lv_lconst (v := 0) hx hb dX1_choose_52 (by decide) ?_
  refine lv_lstore (lv' := [(8, .long 0), (7, .int 0), (5, .long 0), (4, .int (-1)), (3, .int 0), (0, .ref gr), (1, .ref g), (2, .int 0)]) hx hb dX1_choose_53 hl (by decide) rfl (fun ls hl => ?_)
  refine lv_lload hx hb dX1_choose_55 (lv_at hl 0 rfl) ?_
  refine lv_lload hx hb dX1_choose_57 (lv_at hl 2 rfl) ?_
  refine W.lcmp hx hb dX1_choose_59 ?_
  refine lc_i (v := 0) (by first | rfl | decide) ?_
  refine lv_if_le (tgt := 71) hx hb dX1_choose_60 (by decide) (fun c_3 => ?_) (fun c_3 => ?_)
  rotate_left
  · exact absurd (by decide) c_3
  refine lv_iinc (v := 1) (lv' := [(7, .int 1), (8, .long 0), (5, .long 0), (4, .int (-1)), (3, .int 0), (0, .ref gr), (1, .ref g), (2, .int 0)]) hx hb dX1_choose_71 hl (k := 1) rfl (by decide) (by decide) rfl (fun ls hl => ?_)
  refine lv_goto (tgt := 16) hx hb dX1_choose_74 (by decide) ?_
  refine lv_iload hx hb dX1_choose_16 (lv_at hl 0 rfl) ?_
  refine lv_aload_n hx hb dX1_choose_18 rfl (lv_at hl 6 rfl) ?_
  refine va_get (D := (dC, dI)) (ci := 0) (v := .int 1) (C := RX0) (T := TX0) (N := 4) hx hb hts i_0 hown hK hP 3 rfl rfl 2 (by decide) k_1 (fun _ h9 => h9) rfl dX1_choose_19 ?_
  refine lv_icmp_ge (tgt := 77) hx hb dX1_choose_22 (by decide) (fun c_4 => ?_) (fun c_4 => ?_)
  rotate_left
  · exact absurd (by decide) c_4
  refine lv_aload_n hx hb dX1_choose_77 rfl (lv_at hl 5 rfl) ?_
  refine va_get (D := (dC, dI)) (ci := 1) (v := .ref gc) (C := RX1) (T := TX1) (N := 5) hx hb hts i_1 hown hK hP 0 rfl rfl 1 (by decide) k_2 (fun _ h9 => h9) rfl dX1_choose_78 ?_
  refine lv_iload_n hx hb dX1_choose_81 rfl (lv_at hl 4 rfl) ?_
  refine va_iald hx hb hK hP 2 0 rfl rfl (vp_c (by decide)) dX1_choose_82 ?_
  refine lc_i (v := 1) (by first | rfl | decide) ?_
  refine lv_iconst (v := 1) hx hb dX1_choose_83 (by decide) ?_
  refine lv_icmp_le (tgt := 98) hx hb dX1_choose_84 (by decide) (fun c_5 => ?_) (fun c_5 => ?_)
  rotate_left
  · exact absurd (by decide) c_5
  refine lv_iconst (v := (-1)) hx hb dX1_choose_98 (by decide) ?_
  refine lv_istore (lv' := [(7, .int (-1)), (8, .long 0), (5, .long 0), (4, .int (-1)), (3, .int 0), (0, .ref gr), (1, .ref g), (2, .int 0)]) hx hb dX1_choose_99 hl (by decide) rfl (fun ls hl => ?_)
  refine lv_iload hx hb dX1_choose_101 (lv_at hl 0 rfl) ?_
  refine lv_iconst (v := (-1)) hx hb dX1_choose_103 (by decide) ?_
  refine lv_icmp_eq (tgt := 125) hx hb dX1_choose_104 (by decide) (fun c_6 => ?_) (fun c_6 => ?_)
  rotate_left
  · exact absurd (by decide) c_6
  refine lv_iload hx hb dX1_choose_125 (lv_at hl 3 rfl) ?_
  have hP9 := hP.sub (ws' := [(gr, .inr (1, [.ref gh, .ref gc, .ref gd, .ref gl, .ref gn])), (gh, .inl (cI, 40, .inl fh)), (gc, .inl (cI, 40, .inl (upd Zi 0 1))), (g, .inr (0, [.ref w, .ref d, .int 1, .int 0]))]) [0, 1, 2, 3] rfl
  have hD9 := hD.sub (ws' := [(gr, .inr (1, [.ref gh, .ref gc, .ref gd, .ref gl, .ref gn])), (gh, .inl (cI, 40, .inl fh)), (gc, .inl (cI, 40, .inl (upd Zi 0 1))), (g, .inr (0, [.ref w, .ref d, .int 1, .int 0]))]) [0, 1, 2, 3] (by decide) rfl
  exact W.iret (v := (-1)) hx hb hr (fun t ht hW => ⟨⟨_, (), rfl, rfl, by rw [ht]; exact hP9, hD9⟩, hS.F ht⟩) hS.2.2 dX1_choose_127
set_option maxHeartbeats 4000000 in
set_option maxRecDepth 100000 in
theorem c_X1_renumber (l : Launch) (dC : Nat → ClassId) (dI : Nat → Nat → Nat) (cI cJ : ClassId) (gr gh gc gd gl gn : Nat) (sz : Nat) (fh : Nat → Int32) (fn : Nat → Int32) (hz : fh 0 = 0) : Met l yX1_renumber wsX1_renumber ({ frames := 1, cells := 0, slots := 0, locals := 23 }) (va_Pc [.ref gr, .int 1] (pPre dC dI cI cJ sz [(gr, .inr (1, [.ref gh, .ref gc, .ref gd, .ref gl, .ref gn])), (gh, .inl (cI, 40, .inl fh)), (gn, .inl (cI, 40, .inl fn))])) (va_Qi (fun (r : Int32) (_ : Unit) => r = 1) (pPost dC dI (va_A [(gr, .inr (1, [.ref gh, .ref gc, .ref gd, .ref gl, .ref gn])), (gh, .inl (cI, 40, .inl fh)), (gn, .inl (cI, 40, .inl fn))] sz) [(gr, .inr (1, [.ref gh, .ref gc, .ref gd, .ref gl, .ref gn])), (gh, .inl (cI, 40, .inl (upd fh 0 0)))]) (va_A [(gr, .inr (1, [.ref gh, .ref gc, .ref gd, .ref gl, .ref gn])), (gh, .inl (cI, 40, .inl fh)), (gn, .inl (cI, 40, .inl fn))] sz)) 0 0 (va_A [(gr, .inr (1, [.ref gh, .ref gc, .ref gd, .ref gl, .ref gn])), (gh, .inl (cI, 40, .inl fh)), (gn, .inl (cI, 40, .inl fn))] sz) := by
  refine Met.ofW (cc := cX1_renumber) (maxL := 5) (ret := (some .int)) (by decide) rfl ?_
  intro p e s m args below meth c s₁ B hml hv
  obtain ⟨rfl, hsz, hP, hK, hD0⟩ := hv
  have hx := B.exec
  have hb := B.bytes
  have hr := B.returns
  have hts := atoms_spec (ws := wsX1_renumber) B.pre
  have hown : s.vm.findClass RX1 = some m.cls := findClass_of_methodNamed B.named
  have hlocks := B.notSynchronized
  subst hsz
  have hD := hD0.self (sz := s.heap.size)
  generalize hAe : va_A [(gr, .inr (1, [.ref gh, .ref gc, .ref gd, .ref gl, .ref gn])), (gh, .inl (cI, 40, .inl fh)), (gn, .inl (cI, 40, .inl fn))] s.heap.size = A at hD ⊢
  have hA : ∀ q : Nat, s.heap.size ≤ q → A q := fun q h => by rw [← hAe]; exact Or.inr h
  have hS : va_S A s.heap s.heap [] := va_S.rf
  have hP : va_P (dC, dI) vwCl [(gr, .inr (1, [.ref gh, .ref gc, .ref gd, .ref gl, .ref gn])), (gh, .inl (cI, 40, .inl fh)), (gn, .inl (cI, 40, .inl fn))] s.heap := hP
  have hl := lv_entry ([.ref gr, .int 1]) (n := 5) (Nat.le_of_ble_eq_true rfl)
  rw [lg_entry_eq]
  generalize (lg_sl ([.ref gr, .int 1]) ++ List.replicate (5 - (lg_sl ([.ref gr, .int 1])).length) Slot.unset).toArray = ls at hl ⊢
  have hl : lv_has ls 5 [(0, .ref gr), (1, .int 1)] := hl
  have i_1 : ∀ w ∈ wsX10, w ∈ wsX1_renumber := by decide +kernel
  have k_0 := hts (.fieldLink RX1 24 "CommunityLevels$Groups" "number" "[I") (by decide +kernel)
  have k_1 := hts (.fieldLink RX1 9 "CommunityLevels$Groups" "home" "[I") (by decide +kernel)
  refine lv_aload_n hx hb dX1_renumber_0 rfl (lv_at hl 0 rfl) ?_
  refine va_get (D := (dC, dI)) (ci := 1) (v := .ref gn) (C := RX1) (T := TX1) (N := 5) hx hb hts i_1 hown hK hP 0 rfl rfl 4 (by decide) k_0 (fun _ h9 => h9) rfl dX1_renumber_1 ?_
  refine lv_iconst (v := (-1)) hx hb dX1_renumber_4 (by decide) ?_
  have hPc := hP.sub (ws' := [(gn, .inl (cI, 40, .inl fn))]) [2] rfl
  have hDc := hD.sub (ws' := [(gn, .inl (cI, 40, .inl fn))]) [2] (by decide) rfl
  have hFc := va_free (wc := [(gn, .inl (cI, 40, .inl fn))]) hD hS hA [2] rfl
  refine va_callv (va_runS (As := [.ref gn, .int (-1)]) (rest := []) ⟨hx, hb, hml, hown, hts⟩ (c_J7_fill_53178 l dC dI cI cJ gn s.heap.size 40 fn (-1) (by decide)) (va_cwS 2 hts gX1_renumber_J7_fill_53178 rfl rfl rfl (by decide +kernel) ⟨Nat.le_of_ble_eq_true rfl, Nat.le_of_ble_eq_true rfl⟩) ⟨fun a U g mk q => by obtain ⟨q0, q1, qP, qK, qD⟩ := q; exact ⟨q0, q1, qP, va_K.moved (u := U) (U := U.calling g mk a) (Vm.Alike.refl U.vm) qK, qD⟩, fun U hU hW => ⟨rfl, by rw [hU], by rw [hU]; exact hPc, va_K.moved hW.alike hK, hDc.weaken (fun _ _ _ _ => trivial)⟩⟩ rfl rfl hl.1 rfl (lv_room (Nat.le_of_ble_eq_true rfl)) dX1_renumber_5 ⟨Nat.le_of_ble_eq_true rfl, Nat.le_of_ble_eq_true rfl⟩) hS (fun q _ h => hFc q h) hFc (fun u_2 t H1 locs ht hvm hw hB hz1 hk1 hS => ?_)
  obtain ⟨hP1, hD1⟩ := hB
  rw [ht] at hP1
  obtain ⟨hP, hD⟩ := va_join (wr := [(gr, .inr (1, [.ref gh, .ref gc, .ref gd, .ref gl, .ref gn])), (gh, .inl (cI, 40, .inl fh))]) (w1 := [(gn, .inl (cI, 40, .inl ((fun _ => (-1)))))]) hP hD [2] [0, 1] rfl rfl (by decide) (by decide) hk1 hFc hP1 hD1
  generalize H1 = H at hP hS ⊢
  have hP : va_P (dC, dI) vwCl [(gr, .inr (1, [.ref gh, .ref gc, .ref gd, .ref gl, .ref gn])), (gh, .inl (cI, 40, .inl fh)), (gn, .inl (cI, 40, .inl ((fun _ => (-1)))))] H := hP
  have hD : va_D A [(gr, .inr (1, [.ref gh, .ref gc, .ref gd, .ref gl, .ref gn])), (gh, .inl (cI, 40, .inl fh)), (gn, .inl (cI, 40, .inl ((fun _ => (-1)))))] := hD
  refine lv_iconst (v := 0) hx hb dX1_renumber_8 (by decide) ?_
  refine lv_istore_n (lv' := [(2, .int 0), (0, .ref gr), (1, .int 1)]) hx hb dX1_renumber_9 rfl hl (by decide) rfl (fun ls hl => ?_)
  refine lv_iconst (v := 0) hx hb dX1_renumber_10 (by decide) ?_
  refine lv_istore_n (lv' := [(3, .int 0), (2, .int 0), (0, .ref gr), (1, .int 1)]) hx hb dX1_renumber_11 rfl hl (by decide) rfl (fun ls hl => ?_)
  refine lv_iload_n hx hb dX1_renumber_12 rfl (lv_at hl 0 rfl) ?_
  refine lv_iload_n hx hb dX1_renumber_13 rfl (lv_at hl 3 rfl) ?_
  refine lv_icmp_ge (tgt := 66) hx hb dX1_renumber_14 (by decide) (fun c_3 => ?_) (fun c_3 => ?_)
  · exact absurd c_3 (by decide)
  refine lv_aload_n hx hb dX1_renumber_17 rfl (lv_at hl 2 rfl) ?_
  refine va_get (D := (dC, dI)) (ci := 1) (v := .ref gh) (C := RX1) (T := TX1) (N := 5) hx hb hts i_1 hown hK hP 0 rfl rfl 0 (by decide) k_1 (fun _ h9 => h9) rfl dX1_renumber_18 ?_
  refine lv_iload_n hx hb dX1_renumber_21 rfl (lv_at hl 0 rfl) ?_
  refine va_iald hx hb hK hP 1 0 rfl rfl (vp_c (by decide)) dX1_renumber_22 ?_
  refine lc_i (v := 0) hz ?_
  refine lv_istore (lv' := [(4, .int 0), (3, .int 0), (2, .int 0), (0, .ref gr), (1, .int 1)]) hx hb dX1_renumber_23 hl (by decide) rfl (fun ls hl => ?_)
  refine lv_aload_n hx hb dX1_renumber_25 rfl (lv_at hl 3 rfl) ?_
  refine va_get (D := (dC, dI)) (ci := 1) (v := .ref gn) (C := RX1) (T := TX1) (N := 5) hx hb hts i_1 hown hK hP 0 rfl rfl 4 (by decide) k_0 (fun _ h9 => h9) rfl dX1_renumber_26 ?_
  refine lv_iload hx hb dX1_renumber_29 (lv_at hl 0 rfl) ?_
  refine va_iald hx hb hK hP 2 0 rfl rfl (vp_c (by decide)) dX1_renumber_31 ?_
  refine lc_i (v := (-1)) (by first | rfl | decide) ?_
  refine lv_iconst (v := (-1)) hx hb dX1_renumber_32 (by decide) ?_
  refine lv_icmp_ne (tgt := 47) hx hb dX1_renumber_33 (by decide) (fun c_4 => ?_) (fun c_4 => ?_)
  · exact absurd c_4 (by decide)
  refine lv_aload_n hx hb dX1_renumber_36 rfl (lv_at hl 3 rfl) ?_
  refine va_get (D := (dC, dI)) (ci := 1) (v := .ref gn) (C := RX1) (T := TX1) (N := 5) hx hb hts i_1 hown hK hP 0 rfl rfl 4 (by decide) k_0 (fun _ h9 => h9) rfl dX1_renumber_37 ?_
  refine lv_iload hx hb dX1_renumber_40 (lv_at hl 0 rfl) ?_
  refine lv_iload_n hx hb dX1_renumber_42 rfl (lv_at hl 2 rfl) ?_
  refine va_iast hx hb hK hP hD hS 2 0 rfl rfl (vp_c (by decide)) dX1_renumber_43 (fun H locs hP hD hS => ?_)
  have hP : va_P (dC, dI) vwCl [(gr, .inr (1, [.ref gh, .ref gc, .ref gd, .ref gl, .ref gn])), (gh, .inl (cI, 40, .inl fh)), (gn, .inl (cI, 40, .inl (upd ((fun _ => (-1))) 0 0)))] H := hP
  have hD : va_D A [(gr, .inr (1, [.ref gh, .ref gc, .ref gd, .ref gl, .ref gn])), (gh, .inl (cI, 40, .inl fh)), (gn, .inl (cI, 40, .inl (upd ((fun _ => (-1))) 0 0)))] := hD
  refine lv_iinc (v := 1) (lv' := [(2, .int 1), (4, .int 0), (3, .int 0), (0, .ref gr), (1, .int 1)]) hx hb dX1_renumber_44 hl (k := 2) rfl (by decide) (by decide) rfl (fun ls hl => ?_)
  refine lv_aload_n hx hb dX1_renumber_47 rfl (lv_at hl 3 rfl) ?_
  refine va_get (D := (dC, dI)) (ci := 1) (v := .ref gh) (C := RX1) (T := TX1) (N := 5) hx hb hts i_1 hown hK hP 0 rfl rfl 0 (by decide) k_1 (fun _ h9 => h9) rfl dX1_renumber_48 ?_
  refine lv_iload_n hx hb dX1_renumber_51 rfl (lv_at hl 2 rfl) ?_
  refine lv_aload_n hx hb dX1_renumber_52 rfl (lv_at hl 3 rfl) ?_
  refine va_get (D := (dC, dI)) (ci := 1) (v := .ref gn) (C := RX1) (T := TX1) (N := 5) hx hb hts i_1 hown hK hP 0 rfl rfl 4 (by decide) k_0 (fun _ h9 => h9) rfl dX1_renumber_53 ?_
  refine lv_iload hx hb dX1_renumber_56 (lv_at hl 1 rfl) ?_
  refine va_iald hx hb hK hP 2 0 rfl rfl (vp_c (by decide)) dX1_renumber_58 ?_
  refine lc_i (v := 0) (by first | rfl | decide) ?_
  refine va_iast hx hb hK hP hD hS 1 0 rfl rfl (vp_c (by decide)) dX1_renumber_59 (fun H locs hP hD hS => ?_)
  have hP : va_P (dC, dI) vwCl [(gr, .inr (1, [.ref gh, .ref gc, .ref gd, .ref gl, .ref gn])), (gh, .inl (cI, 40, .inl (upd fh 0 0))), (gn, .inl (cI, 40, .inl (upd ((fun _ => (-1))) 0 0)))] H := hP
  have hD : va_D A [(gr, .inr (1, [.ref gh, .ref gc, .ref gd, .ref gl, .ref gn])), (gh, .inl (cI, 40, .inl (upd fh 0 0))), (gn, .inl (cI, 40, .inl (upd ((fun _ => (-1))) 0 0)))] := hD
  refine lv_iinc (v := 1) (lv' := [(3, .int 1), (2, .int 1), (4, .int 0), (0, .ref gr), (1, .int 1)]) hx hb dX1_renumber_60 hl (k := 2) rfl (by decide) (by decide) rfl (fun ls hl => ?_)
  refine lv_goto (tgt := 12) hx hb dX1_renumber_63 (by decide) ?_
  refine lv_iload_n hx hb dX1_renumber_12 rfl (lv_at hl 0 rfl) ?_
  refine lv_iload_n hx hb dX1_renumber_13 rfl (lv_at hl 4 rfl) ?_
  refine lv_icmp_ge (tgt := 66) hx hb dX1_renumber_14 (by decide) (fun c_5 => ?_) (fun c_5 => ?_)
  rotate_left
  · exact absurd (by decide) c_5
  refine lv_iload_n hx hb dX1_renumber_66 rfl (lv_at hl 1 rfl) ?_
  have hP9 := hP.sub (ws' := [(gr, .inr (1, [.ref gh, .ref gc, .ref gd, .ref gl, .ref gn])), (gh, .inl (cI, 40, .inl (upd fh 0 0)))]) [0, 1] rfl
  have hD9 := hD.sub (ws' := [(gr, .inr (1, [.ref gh, .ref gc, .ref gd, .ref gl, .ref gn])), (gh, .inl (cI, 40, .inl (upd fh 0 0)))]) [0, 1] (by decide) rfl
  exact W.iret (v := 1) hx hb hr (fun t ht hW => ⟨⟨_, (), rfl, rfl, by rw [ht]; exact hP9, hD9⟩, hS.F ht⟩) hS.2.2 dX1_renumber_67
