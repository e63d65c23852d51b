theorem ab_0 {n : Int32} (h : n < 0 ∨ 4 < n) : ¬ n = 0 := by
  rintro rfl
  revert h
  decide
theorem ab_1 {n : Int32} (h : n < 0 ∨ 4 < n) : ¬ n = 1 := by
  rintro rfl
  revert h
  decide
set_option maxHeartbeats 4000000 in
set_option maxRecDepth 100000 in
theorem c_X4_requireLevel_bad (l : Launch) (hno : l.stackTraces = false) (dC : Nat → ClassId) (dI : Nat → Nat → Nat) (cI cJ : ClassId) (x g mr tb lo g3 gr wi tf th tc : Nat) (sz : Nat) (n : Int32) : vx_Met l yX4_requireLevel wsX4_requireLevel ({ frames := 6, cells := 1, slots := 6, locals := 82 }) (va_Pc [.ref x, .int n] (pPreX dC dI cI cJ sz [(x, .inr (4, [.ref g, .ref mr, .ref tb, .ref lo, .ref g3, .ref gr, .ref wi])), (tb, .inr (2, [.ref tf, .ref th, .ref tc, .int 0]))])) (va_Qv (fun _ : Unit => False) (fun _ _ => True) (va_A [(x, .inr (4, [.ref g, .ref mr, .ref tb, .ref lo, .ref g3, .ref gr, .ref wi])), (tb, .inr (2, [.ref tf, .ref th, .ref tc, .int 0]))] sz)) (vx_X (fun _ : Unit => True) (fun E _ _ => E = "java/lang/IndexOutOfBoundsException") (va_A [(x, .inr (4, [.ref g, .ref mr, .ref tb, .ref lo, .ref g3, .ref gr, .ref wi])), (tb, .inr (2, [.ref tf, .ref th, .ref tc, .int 0]))] sz)) 1 6 (va_A [(x, .inr (4, [.ref g, .ref mr, .ref tb, .ref lo, .ref g3, .ref gr, .ref wi])), (tb, .inr (2, [.ref tf, .ref th, .ref tc, .int 0]))] sz) := by
  refine vx_ofW (cc := cX4_requireLevel) (maxL := 2) (ret := none) (by decide) rfl ?_
  intro p e s m args below meth c s₁ B hml htab hv
  obtain ⟨rfl, hsz, hP, hK, hD0, hX⟩ := hv
  have hx := B.exec
  have hb := B.bytes
  have hr := B.returns
  have hts := atoms_spec (ws := wsX4_requireLevel) B.pre
  have hown : s.vm.findClass RX4 = some m.cls := findClass_of_methodNamed B.named
  have hlocks := B.notSynchronized
  subst hsz
  have hD := hD0.self (sz := s.heap.size)
  generalize hAe : va_A [(x, .inr (4, [.ref g, .ref mr, .ref tb, .ref lo, .ref g3, .ref gr, .ref wi])), (tb, .inr (2, [.ref tf, .ref th, .ref tc, .int 0]))] s.heap.size = A at hD hX ⊢
  have hA : ∀ q : Nat, s.heap.size ≤ q → A q := fun q h => by rw [← hAe]; exact Or.inr h
  have hS : va_S A s.heap s.heap [] := va_S.rf
  have hP : va_P (dC, dI) vwCl [(x, .inr (4, [.ref g, .ref mr, .ref tb, .ref lo, .ref g3, .ref gr, .ref wi])), (tb, .inr (2, [.ref tf, .ref th, .ref tc, .int 0]))] s.heap := hP
  have hl := lv_entry ([.ref x, .int n]) (n := 2) (Nat.le_of_ble_eq_true rfl)
  rw [lg_entry_eq]
  generalize (lg_sl ([.ref x, .int n]) ++ List.replicate (2 - (lg_sl ([.ref x, .int n])).length) Slot.unset).toArray = ls at hl ⊢
  have hl : lv_has ls 2 [(0, .ref x), (1, .int n)] := hl
  have i_2 : ∀ w ∈ wsX20, w ∈ wsX4_requireLevel := by decide +kernel
  have i_4 : ∀ w ∈ wsX40, w ∈ wsX4_requireLevel := by decide +kernel
  have k_0 := hts (.classLink RX4 144 "java/lang/IndexOutOfBoundsException") (by decide +kernel)
  have k_1 := hts (.initialized "java/lang/IndexOutOfBoundsException") (by decide +kernel)
  have k_2 := hts (.fieldLink RX4 26 "CommunityLevels" "table" "LCommunityLevels$LevelTable;") (by decide +kernel)
  have k_3 := hts (.fieldLink RX4 85 "CommunityLevels$LevelTable" "size" "I") (by decide +kernel)
  refine lv_iload_n hx hb dX4_requireLevel_0 rfl (lv_at hl 1 rfl) ?_
  refine lv_if_lt (tgt := 15) hx hb dX4_requireLevel_1 (by decide) (fun c_1 => ?_) (fun c_1 => ?_)
  · skip
    obtain ⟨sa9, hstr9⟩ := hX.2.2.2.2 (156, "there is no such level") (List.mem_of_getElem? (i := 6) rfl)
    have hat9 : ∀ w ∈ vx_atS RX4 148 "java/lang/IndexOutOfBoundsException" ["java/lang/RuntimeException", "java/lang/Exception"], w.before _ s = true := vx_hat (B := vzB) (fun w h => hts w (List.mem_cons_of_mem _ (List.mem_append_right _ h))) (by decide +kernel) (fun w h => vz_bad w h (hX.2.2.1 w h))
    exact vx_throwS hx hb hno (own := RX4) (cls := "java/lang/IndexOutOfBoundsException") (text := "there is no such level") (names := ["java/lang/RuntimeException", "java/lang/Exception"]) (sa := sa9) hown (by decide +kernel) (by decide +kernel) k_0 k_1 hstr9 hat9 (by decide +kernel) hX.1 hX.2.1 hS (by rw [hml]; exact hl.1) dX4_requireLevel_15 dX4_requireLevel_18 dX4_requireLevel_19 dX4_requireLevel_21 dX4_requireLevel_24 (fun x h => (htab x h).elim) (Nat.le_of_ble_eq_true rfl) (Nat.le_of_ble_eq_true rfl) (Nat.le_of_ble_eq_true rfl) (Nat.le_of_ble_eq_true rfl) hlocks (fun t9 _ hz9 hk9 => ⟨(), trivial, rfl, Nat.le_trans hS.1 hz9, fun q h1 h2 => (hk9 q (Nat.lt_of_lt_of_le h1 hS.1)).trans (hS.2.1 q h1 h2)⟩) hS.2.2 (Nat.le_of_ble_eq_true rfl) (Nat.le_of_ble_eq_true rfl)
  · skip
    refine lv_iload_n hx hb dX4_requireLevel_4 rfl (lv_at hl 1 rfl) ?_
    refine lv_aload_n hx hb dX4_requireLevel_5 rfl (lv_at hl 0 rfl) ?_
    refine va_get (D := (dC, dI)) (ci := 4) (v := .ref tb) (C := RX4) (T := TX4) (N := 7) hx hb hts i_4 hown hK hP 0 rfl rfl 2 (by decide) k_2 (fun _ h9 => h9) rfl dX4_requireLevel_6 ?_
    refine va_get (D := (dC, dI)) (ci := 2) (v := .int 0) (C := RX2) (T := TX2) (N := 4) hx hb hts i_2 hown hK hP 1 rfl rfl 3 (by decide) k_3 (fun _ h9 => h9) rfl dX4_requireLevel_9 ?_
    refine lv_icmp_lt (tgt := 25) hx hb dX4_requireLevel_12 (by decide) (fun c_2 => ?_) (fun c_2 => ?_)
    · exact absurd c_2 c_1
    obtain ⟨sa9, hstr9⟩ := hX.2.2.2.2 (156, "there is no such level") (List.mem_of_getElem? (i := 6) rfl)
    have hat9 : ∀ w ∈ vx_atS RX4 148 "java/lang/IndexOutOfBoundsException" ["java/lang/RuntimeException", "java/lang/Exception"], w.before _ s = true := vx_hat (B := vzB) (fun w h => hts w (List.mem_cons_of_mem _ (List.mem_append_right _ h))) (by decide +kernel) (fun w h => vz_bad w h (hX.2.2.1 w h))
    exact vx_throwS hx hb hno (own := RX4) (cls := "java/lang/IndexOutOfBoundsException") (text := "there is no such level") (names := ["java/lang/RuntimeException", "java/lang/Exception"]) (sa := sa9) hown (by decide +kernel) (by decide +kernel) k_0 k_1 hstr9 hat9 (by decide +kernel) hX.1 hX.2.1 hS (by rw [hml]; exact hl.1) dX4_requireLevel_15 dX4_requireLevel_18 dX4_requireLevel_19 dX4_requireLevel_21 dX4_requireLevel_24 (fun x h => (htab x h).elim) (Nat.le_of_ble_eq_true rfl) (Nat.le_of_ble_eq_true rfl) (Nat.le_of_ble_eq_true rfl) (Nat.le_of_ble_eq_true rfl) hlocks (fun t9 _ hz9 hk9 => ⟨(), trivial, rfl, Nat.le_trans hS.1 hz9, fun q h1 h2 => (hk9 q (Nat.lt_of_lt_of_le h1 hS.1)).trans (hS.2.1 q h1 h2)⟩) hS.2.2 (Nat.le_of_ble_eq_true rfl) (Nat.le_of_ble_eq_true rfl)
set_option maxHeartbeats 4000000 in
set_option maxRecDepth 100000 in
theorem c_X4_requireTold_bad (l : Launch) (hno : l.stackTraces = false) (dC : Nat → ClassId) (dI : Nat → Nat → Nat) (cI cJ : ClassId) (x g mr tb lo g3 gr wi lf lg : Nat) (sz : Nat) (n : Int32) : vx_Met l yX4_requireTold wsX4_requireTold ({ frames := 6, cells := 1, slots := 6, locals := 82 }) (va_Pc [.ref x, .int n] (pPreX dC dI cI cJ sz [(x, .inr (4, [.ref g, .ref mr, .ref tb, .ref lo, .ref g3, .ref gr, .ref wi])), (lo, .inr (3, [.ref lf, .ref lg, .int 0]))])) (va_Qv (fun _ : Unit => False) (fun _ _ => True) (va_A [(x, .inr (4, [.ref g, .ref mr, .ref tb, .ref lo, .ref g3, .ref gr, .ref wi])), (lo, .inr (3, [.ref lf, .ref lg, .int 0]))] sz)) (vx_X (fun _ : Unit => True) (fun E _ _ => E = "java/lang/IndexOutOfBoundsException") (va_A [(x, .inr (4, [.ref g, .ref mr, .ref tb, .ref lo, .ref g3, .ref gr, .ref wi])), (lo, .inr (3, [.ref lf, .ref lg, .int 0]))] sz)) 1 6 (va_A [(x, .inr (4, [.ref g, .ref mr, .ref tb, .ref lo, .ref g3, .ref gr, .ref wi])), (lo, .inr (3, [.ref lf, .ref lg, .int 0]))] sz) := by
  refine vx_ofW (cc := cX4_requireTold) (maxL := 2) (ret := none) (by decide) rfl ?_
  intro p e s m args below meth c s₁ B hml htab hv
  obtain ⟨rfl, hsz, hP, hK, hD0, hX⟩ := hv
  have hx := B.exec
  have hb := B.bytes
  have hr := B.returns
  have hts := atoms_spec (ws := wsX4_requireTold) B.pre
  have hown : s.vm.findClass RX4 = some m.cls := findClass_of_methodNamed B.named
  have hlocks := B.notSynchronized
  subst hsz
  have hD := hD0.self (sz := s.heap.size)
  generalize hAe : va_A [(x, .inr (4, [.ref g, .ref mr, .ref tb, .ref lo, .ref g3, .ref gr, .ref wi])), (lo, .inr (3, [.ref lf, .ref lg, .int 0]))] s.heap.size = A at hD hX ⊢
  have hA : ∀ q : Nat, s.heap.size ≤ q → A q := fun q h => by rw [← hAe]; exact Or.inr h
  have hS : va_S A s.heap s.heap [] := va_S.rf
  have hP : va_P (dC, dI) vwCl [(x, .inr (4, [.ref g, .ref mr, .ref tb, .ref lo, .ref g3, .ref gr, .ref wi])), (lo, .inr (3, [.ref lf, .ref lg, .int 0]))] s.heap := hP
  have hl := lv_entry ([.ref x, .int n]) (n := 2) (Nat.le_of_ble_eq_true rfl)
  rw [lg_entry_eq]
  generalize (lg_sl ([.ref x, .int n]) ++ List.replicate (2 - (lg_sl ([.ref x, .int n])).length) Slot.unset).toArray = ls at hl ⊢
  have hl : lv_has ls 2 [(0, .ref x), (1, .int n)] := hl
  have i_3 : ∀ w ∈ wsX30, w ∈ wsX4_requireTold := by decide +kernel
  have i_4 : ∀ w ∈ wsX40, w ∈ wsX4_requireTold := by decide +kernel
  have k_0 := hts (.classLink RX4 144 "java/lang/IndexOutOfBoundsException") (by decide +kernel)
  have k_1 := hts (.initialized "java/lang/IndexOutOfBoundsException") (by decide +kernel)
  have k_2 := hts (.fieldLink RX4 33 "CommunityLevels" "log" "LCommunityLevels$MoveLog;") (by decide +kernel)
  have k_3 := hts (.fieldLink RX4 107 "CommunityLevels$MoveLog" "size" "I") (by decide +kernel)
  refine lv_iload_n hx hb dX4_requireTold_0 rfl (lv_at hl 1 rfl) ?_
  refine lv_if_lt (tgt := 22) hx hb dX4_requireTold_1 (by decide) (fun c_1 => ?_) (fun c_1 => ?_)
  · skip
    obtain ⟨sa9, hstr9⟩ := hX.2.2.2.2 (158, "there is no such move among the first 400") (List.mem_of_getElem? (i := 7) rfl)
    have hat9 : ∀ w ∈ vx_atS RX4 148 "java/lang/IndexOutOfBoundsException" ["java/lang/RuntimeException", "java/lang/Exception"], w.before _ s = true := vx_hat (B := vzB) (fun w h => hts w (List.mem_cons_of_mem _ (List.mem_append_right _ h))) (by decide +kernel) (fun w h => vz_bad w h (hX.2.2.1 w h))
    exact vx_throwS hx hb hno (own := RX4) (cls := "java/lang/IndexOutOfBoundsException") (text := "there is no such move among the first 400") (names := ["java/lang/RuntimeException", "java/lang/Exception"]) (sa := sa9) hown (by decide +kernel) (by decide +kernel) k_0 k_1 hstr9 hat9 (by decide +kernel) hX.1 hX.2.1 hS (by rw [hml]; exact hl.1) dX4_requireTold_22 dX4_requireTold_25 dX4_requireTold_26 dX4_requireTold_28 dX4_requireTold_31 (fun x h => (htab x h).elim) (Nat.le_of_ble_eq_true rfl) (Nat.le_of_ble_eq_true rfl) (Nat.le_of_ble_eq_true rfl) (Nat.le_of_ble_eq_true rfl) hlocks (fun t9 _ hz9 hk9 => ⟨(), trivial, rfl, Nat.le_trans hS.1 hz9, fun q h1 h2 => (hk9 q (Nat.lt_of_lt_of_le h1 hS.1)).trans (hS.2.1 q h1 h2)⟩) hS.2.2 (Nat.le_of_ble_eq_true rfl) (Nat.le_of_ble_eq_true rfl)
  · skip
    refine lv_iload_n hx hb dX4_requireTold_4 rfl (lv_at hl 1 rfl) ?_
    refine lv_aload_n hx hb dX4_requireTold_5 rfl (lv_at hl 0 rfl) ?_
    refine va_get (D := (dC, dI)) (ci := 4) (v := .ref lo) (C := RX4) (T := TX4) (N := 7) hx hb hts i_4 hown hK hP 0 rfl rfl 3 (by decide) k_2 (fun _ h9 => h9) rfl dX4_requireTold_6 ?_
    refine va_get (D := (dC, dI)) (ci := 3) (v := .int 0) (C := RX3) (T := TX3) (N := 3) hx hb hts i_3 hown hK hP 1 rfl rfl 2 (by decide) k_3 (fun _ h9 => h9) rfl dX4_requireTold_9 ?_
    refine lv_icmp_ge (tgt := 22) hx hb dX4_requireTold_12 (by decide) (fun c_2 => ?_) (fun c_2 => ?_)
    rotate_left
    · exact absurd (Int32.not_lt.mp c_1) c_2
    obtain ⟨sa9, hstr9⟩ := hX.2.2.2.2 (158, "there is no such move among the first 400") (List.mem_of_getElem? (i := 7) rfl)
    have hat9 : ∀ w ∈ vx_atS RX4 148 "java/lang/IndexOutOfBoundsException" ["java/lang/RuntimeException", "java/lang/Exception"], w.before _ s = true := vx_hat (B := vzB) (fun w h => hts w (List.mem_cons_of_mem _ (List.mem_append_right _ h))) (by decide +kernel) (fun w h => vz_bad w h (hX.2.2.1 w h))
    exact vx_throwS hx hb hno (own := RX4) (cls := "java/lang/IndexOutOfBoundsException") (text := "there is no such move among the first 400") (names := ["java/lang/RuntimeException", "java/lang/Exception"]) (sa := sa9) hown (by decide +kernel) (by decide +kernel) k_0 k_1 hstr9 hat9 (by decide +kernel) hX.1 hX.2.1 hS (by rw [hml]; exact hl.1) dX4_requireTold_22 dX4_requireTold_25 dX4_requireTold_26 dX4_requireTold_28 dX4_requireTold_31 (fun x h => (htab x h).elim) (Nat.le_of_ble_eq_true rfl) (Nat.le_of_ble_eq_true rfl) (Nat.le_of_ble_eq_true rfl) (Nat.le_of_ble_eq_true rfl) hlocks (fun t9 _ hz9 hk9 => ⟨(), trivial, rfl, Nat.le_trans hS.1 hz9, fun q h1 h2 => (hk9 q (Nat.lt_of_lt_of_le h1 hS.1)).trans (hS.2.1 q h1 h2)⟩) hS.2.2 (Nat.le_of_ble_eq_true rfl) (Nat.le_of_ble_eq_true rfl)
set_option maxHeartbeats 4000000 in
set_option maxRecDepth 100000 in
theorem c_X1_separate_n (l : Launch) (dC : Nat → ClassId) (dI : Nat → Nat → Nat) (cI cJ : ClassId) (gr gh gc gd gl gn : Nat) (sz : Nat) (fh : Nat → Int32) (k : Nat) (hk : k ≤ 40) : Met l yX1_separate wsX1_separate ({ frames := 0, cells := 0, slots := 0, locals := 0 }) (va_Pc [.ref gr, .int (nI k)] (pPre dC dI cI cJ sz [(gr, .inr (1, [.ref gh, .ref gc, .ref gd, .ref gl, .ref gn])), (gh, .inl (cI, 40, .inl fh))])) (va_Qv (fun _ : Unit => True) (pPost dC dI (va_A [(gr, .inr (1, [.ref gh, .ref gc, .ref gd, .ref gl, .ref gn])), (gh, .inl (cI, 40, .inl fh))] sz) []) (va_A [(gr, .inr (1, [.ref gh, .ref gc, .ref gd, .ref gl, .ref gn])), (gh, .inl (cI, 40, .inl fh))] sz)) 0 0 (va_A [(gr, .inr (1, [.ref gh, .ref gc, .ref gd, .ref gl, .ref gn])), (gh, .inl (cI, 40, .inl fh))] sz) := by
  refine Met.ofW (cc := cX1_separate) (maxL := 3) (ret := none) (by decide) rfl ?_
  intro p e s m args below meth c s₁ B hml hv
  obtain ⟨rfl, hsz, hP, hK, hD0⟩ := hv
  have hx := B.exec
  have hb := B.bytes
  have hr := B.returns
  have hts := atoms_spec (ws := wsX1_separate) B.pre
  have hown : s.vm.findClass RX1 = some m.cls := findClass_of_methodNamed B.named
  have hlocks := B.notSynchronized
  subst hsz
  have hD := hD0.self (sz := s.heap.size)
  generalize hAe : va_A [(gr, .inr (1, [.ref gh, .ref gc, .ref gd, .ref gl, .ref gn])), (gh, .inl (cI, 40, .inl fh))] s.heap.size = A at hD ⊢
  have hA : ∀ q : Nat, s.heap.size ≤ q → A q := fun q h => by rw [← hAe]; exact Or.inr h
  have hS : va_S A s.heap s.heap [] := va_S.rf
  have hP : va_P (dC, dI) vwCl [(gr, .inr (1, [.ref gh, .ref gc, .ref gd, .ref gl, .ref gn])), (gh, .inl (cI, 40, .inl fh))] s.heap := hP
  have hl := lv_entry ([.ref gr, .int (nI k)]) (n := 3) (Nat.le_of_ble_eq_true rfl)
  rw [lg_entry_eq]
  generalize (lg_sl ([.ref gr, .int (nI k)]) ++ List.replicate (3 - (lg_sl ([.ref gr, .int (nI k)])).length) Slot.unset).toArray = ls at hl ⊢
  have hl : lv_has ls 3 [(0, .ref gr), (1, .int (nI k))] := hl
  have i_1 : ∀ w ∈ wsX10, w ∈ wsX1_separate := by decide +kernel
  have k_0 := hts (.fieldLink RX1 9 "CommunityLevels$Groups" "home" "[I") (by decide +kernel)
  refine lv_iconst (v := 0) hx hb dX1_separate_0 (by decide) ?_
  refine lv_istore_n (lv' := [(2, .int 0), (0, .ref gr), (1, .int (nI k))]) hx hb dX1_separate_1 rfl hl (by decide) rfl (fun ls hl => ?_)
  refine lq_loop (α := Nat → Int32) (nL := 3) (fun f9 => [(gr, .inr (1, [.ref gh, .ref gc, .ref gd, .ref gl, .ref gn])), (gh, .inl (cI, 40, .inl f9))]) (fun i f9 => [(2, .int (nI i)), (0, .ref gr), (1, .int (nI k))]) (fun i f9 => True) k fh 0 trivial (Nat.zero_le _) hP hD hS (lv_sub hl [0, 1, 2] rfl) (fun f9 H locs ls hI hP hD hS hl => ?_) (fun i f9 H locs ls hlt hI hP hD hS hl ih => ?_)
  · skip
    have hP : va_P (dC, dI) vwCl [(gr, .inr (1, [.ref gh, .ref gc, .ref gd, .ref gl, .ref gn])), (gh, .inl (cI, 40, .inl f9))] H := hP
    have hD : va_D A [(gr, .inr (1, [.ref gh, .ref gc, .ref gd, .ref gl, .ref gn])), (gh, .inl (cI, 40, .inl f9))] := hD
    have hl : lv_has ls 3 [(2, .int (nI k)), (0, .ref gr), (1, .int (nI k))] := hl
    have hI : True := hI
    refine lv_iload_n hx hb dX1_separate_2 rfl (lv_at hl 0 rfl) ?_
    refine lv_iload_n hx hb dX1_separate_3 rfl (lv_at hl 2 rfl) ?_
    refine lv_icmp_ge (tgt := 20) hx hb dX1_separate_4 (by decide) (fun c_1 => ?_) (fun c_1 => ?_)
    rotate_left
    · exact absurd (nI_le (a := k) (b := k) (Nat.le_refl _) (by omega)) c_1
    have hP9 := hP.sub (ws' := []) [] rfl
    have hD9 := hD.sub (ws' := []) [] (by decide) rfl
    exact W.vret hx hb hr (fun t ht hW => ⟨⟨(), rfl, trivial, by rw [ht]; exact hP9, hD9⟩, hS.F ht⟩) hS.2.2 dX1_separate_20
  · skip
    have hP : va_P (dC, dI) vwCl [(gr, .inr (1, [.ref gh, .ref gc, .ref gd, .ref gl, .ref gn])), (gh, .inl (cI, 40, .inl f9))] H := hP
    have hD : va_D A [(gr, .inr (1, [.ref gh, .ref gc, .ref gd, .ref gl, .ref gn])), (gh, .inl (cI, 40, .inl f9))] := hD
    have hl : lv_has ls 3 [(2, .int (nI i)), (0, .ref gr), (1, .int (nI k))] := hl
    have hI : True := hI
    refine lv_iload_n hx hb dX1_separate_2 rfl (lv_at hl 0 rfl) ?_
    refine lv_iload_n hx hb dX1_separate_3 rfl (lv_at hl 2 rfl) ?_
    refine lv_icmp_ge (tgt := 20) hx hb dX1_separate_4 (by decide) (fun c_2 => ?_) (fun c_2 => ?_)
    · exact absurd c_2 (nI_ge (b := k) hlt (by omega))
    refine lv_aload_n hx hb dX1_separate_7 rfl (lv_at hl 1 rfl) ?_
    refine va_get (D := (dC, dI)) (ci := 1) (v := .ref gh) (C := RX1) (T := TX1) (N := 5) hx hb hts i_1 hown hK hP 0 rfl rfl 0 (by decide) k_0 (fun _ h9 => h9) rfl dX1_separate_8 ?_
    refine lv_iload_n hx hb dX1_separate_11 rfl (lv_at hl 0 rfl) ?_
    refine lv_iload_n hx hb dX1_separate_12 rfl (lv_at hl 0 rfl) ?_
    refine va_iast hx hb hK hP hD hS 1 0 rfl rfl (vp_in_nI (show i < 40 from by omega) (by omega)) dX1_separate_13 (fun H locs hP hD hS => ?_)
    rw [nI_clamp (show i < 2 ^ 31 from by omega)] at hP hD
    have hP : va_P (dC, dI) vwCl [(gr, .inr (1, [.ref gh, .ref gc, .ref gd, .ref gl, .ref gn])), (gh, .inl (cI, 40, .inl (upd f9 i (nI i))))] H := hP
    have hD : va_D A [(gr, .inr (1, [.ref gh, .ref gc, .ref gd, .ref gl, .ref gn])), (gh, .inl (cI, 40, .inl (upd f9 i (nI i))))] := hD
    refine lv_iinc (v := nI (i + 1)) (lv' := [(2, .int (nI (i + 1))), (0, .ref gr), (1, .int (nI k))]) hx hb dX1_separate_14 hl (k := 0) rfl (nI_1 _) (by decide) rfl (fun ls hl => ?_)
    refine lv_goto (tgt := 2) hx hb dX1_separate_17 (by decide) ?_
    exact ih _ H locs ls trivial hP hD hS (lv_sub hl [0, 1, 2] rfl)
set_option maxHeartbeats 4000000 in
set_option maxRecDepth 100000 in
theorem c_X4_nodes (l : Launch) (dC : Nat → ClassId) (dI : Nat → Nat → Nat) (cI cJ : ClassId) (x g mr tb lo g3 gr wi w d mh mc md ml mn tf th tc lf lg : Nat) (sz : Nat) (k : Nat) (hk1 : 1 ≤ k) (hk : k ≤ 40) : Met l yX4_nodes wsX4_nodes ({ frames := 2, cells := 0, slots := 0, locals := 44 }) (va_Pc [.ref x, .int (nI k)] (pPre dC dI cI cJ sz [(x, .inr (4, [.ref g, .ref mr, .ref tb, .ref lo, .ref g3, .ref gr, .ref wi])), (g, .inr (0, [.ref w, .ref d, .int 1, .int 0])), (w, .inl (cI, 1600, .inl Zi)), (d, .inl (cI, 40, .inl Zi)), (mr, .inr (1, [.ref mh, .ref mc, .ref md, .ref ml, .ref mn])), (mh, .inl (cI, 40, .inl Zi)), (tb, .inr (2, [.ref tf, .ref th, .ref tc, .int 0])), (lo, .inr (3, [.ref lf, .ref lg, .int 0]))])) (va_Qv (fun _ : Unit => True) (pPost dC dI (va_A [(x, .inr (4, [.ref g, .ref mr, .ref tb, .ref lo, .ref g3, .ref gr, .ref wi])), (g, .inr (0, [.ref w, .ref d, .int 1, .int 0])), (w, .inl (cI, 1600, .inl Zi)), (d, .inl (cI, 40, .inl Zi)), (mr, .inr (1, [.ref mh, .ref mc, .ref md, .ref ml, .ref mn])), (mh, .inl (cI, 40, .inl Zi)), (tb, .inr (2, [.ref tf, .ref th, .ref tc, .int 0])), (lo, .inr (3, [.ref lf, .ref lg, .int 0]))] sz) []) (va_A [(x, .inr (4, [.ref g, .ref mr, .ref tb, .ref lo, .ref g3, .ref gr, .ref wi])), (g, .inr (0, [.ref w, .ref d, .int 1, .int 0])), (w, .inl (cI, 1600, .inl Zi)), (d, .inl (cI, 40, .inl Zi)), (mr, .inr (1, [.ref mh, .ref mc, .ref md, .ref ml, .ref mn])), (mh, .inl (cI, 40, .inl Zi)), (tb, .inr (2, [.ref tf, .ref th, .ref tc, .int 0])), (lo, .inr (3, [.ref lf, .ref lg, .int 0]))] sz)) 0 0 (va_A [(x, .inr (4, [.ref g, .ref mr, .ref tb, .ref lo, .ref g3, .ref gr, .ref wi])), (g, .inr (0, [.ref w, .ref d, .int 1, .int 0])), (w, .inl (cI, 1600, .inl Zi)), (d, .inl (cI, 40, .inl Zi)), (mr, .inr (1, [.ref mh, .ref mc, .ref md, .ref ml, .ref mn])), (mh, .inl (cI, 40, .inl Zi)), (tb, .inr (2, [.ref tf, .ref th, .ref tc, .int 0])), (lo, .inr (3, [.ref lf, .ref lg, .int 0]))] sz) := by
  refine Met.ofW (cc := cX4_nodes) (maxL := 2) (ret := none) (by decide) rfl ?_
  intro p e s m args below meth c s₁ B hml hv
  obtain ⟨rfl, hsz, hP, hK, hD0⟩ := hv
  have hx := B.exec
  have hb := B.bytes
  have hr := B.returns
  have hts := atoms_spec (ws := wsX4_nodes) B.pre
  have hown : s.vm.findClass RX4 = some m.cls := findClass_of_methodNamed B.named
  have hlocks := B.notSynchronized
  subst hsz
  have hD := hD0.self (sz := s.heap.size)
  generalize hAe : va_A [(x, .inr (4, [.ref g, .ref mr, .ref tb, .ref lo, .ref g3, .ref gr, .ref wi])), (g, .inr (0, [.ref w, .ref d, .int 1, .int 0])), (w, .inl (cI, 1600, .inl Zi)), (d, .inl (cI, 40, .inl Zi)), (mr, .inr (1, [.ref mh, .ref mc, .ref md, .ref ml, .ref mn])), (mh, .inl (cI, 40, .inl Zi)), (tb, .inr (2, [.ref tf, .ref th, .ref tc, .int 0])), (lo, .inr (3, [.ref lf, .ref lg, .int 0]))] s.heap.size = A at hD ⊢
  have hA : ∀ q : Nat, s.heap.size ≤ q → A q := fun q h => by rw [← hAe]; exact Or.inr h
  have hS : va_S A s.heap s.heap [] := va_S.rf
  have hP : va_P (dC, dI) vwCl [(x, .inr (4, [.ref g, .ref mr, .ref tb, .ref lo, .ref g3, .ref gr, .ref wi])), (g, .inr (0, [.ref w, .ref d, .int 1, .int 0])), (w, .inl (cI, 1600, .inl Zi)), (d, .inl (cI, 40, .inl Zi)), (mr, .inr (1, [.ref mh, .ref mc, .ref md, .ref ml, .ref mn])), (mh, .inl (cI, 40, .inl Zi)), (tb, .inr (2, [.ref tf, .ref th, .ref tc, .int 0])), (lo, .inr (3, [.ref lf, .ref lg, .int 0]))] s.heap := hP
  have hl := lv_entry ([.ref x, .int (nI k)]) (n := 2) (Nat.le_of_ble_eq_true rfl)
  rw [lg_entry_eq]
  generalize (lg_sl ([.ref x, .int (nI k)]) ++ List.replicate (2 - (lg_sl ([.ref x, .int (nI k)])).length) Slot.unset).toArray = ls at hl ⊢
  have hl : lv_has ls 2 [(0, .ref x), (1, .int (nI k))] := hl
  have i_4 : ∀ w ∈ wsX40, w ∈ wsX4_nodes := by decide +kernel
  have k_0 := hts (.fieldLink RX4 10 "CommunityLevels" "told" "LCommunityLevels$Graph;") (by decide +kernel)
  have k_1 := hts (.fieldLink RX4 19 "CommunityLevels" "mine" "LCommunityLevels$Groups;") (by decide +kernel)
  refine lv_iload_n hx hb dX4_nodes_0 rfl (lv_at hl 1 rfl) ?_
  refine lv_iconst (v := 1) hx hb dX4_nodes_1 (by decide) ?_
  refine lv_icmp_lt (tgt := 11) hx hb dX4_nodes_2 (by decide) (fun c_1 => ?_) (fun c_1 => ?_)
  · exact absurd c_1 (nI_nlt (a := k) (b := 1) hk1 (by omega))
  refine lv_iload_n hx hb dX4_nodes_5 rfl (lv_at hl 1 rfl) ?_
  refine lv_bipush (v := 40) hx hb dX4_nodes_6 (by decide) ?_
  refine lv_icmp_le (tgt := 21) hx hb dX4_nodes_8 (by decide) (fun c_2 => ?_) (fun c_2 => ?_)
  rotate_left
  · exact absurd (nI_le (a := k) (b := 40) hk (by decide)) c_2
  refine lv_aload_n hx hb dX4_nodes_21 rfl (lv_at hl 0 rfl) ?_
  refine va_get (D := (dC, dI)) (ci := 4) (v := .ref g) (C := RX4) (T := TX4) (N := 7) hx hb hts i_4 hown hK hP 0 rfl rfl 0 (by decide) k_0 (fun _ h9 => h9) rfl dX4_nodes_22 ?_
  refine lv_iload_n hx hb dX4_nodes_25 rfl (lv_at hl 1 rfl) ?_
  have hPc := hP.sub (ws' := [(g, .inr (0, [.ref w, .ref d, .int 1, .int 0])), (w, .inl (cI, 1600, .inl Zi)), (d, .inl (cI, 40, .inl Zi))]) [1, 2, 3] rfl
  have hDc := hD.sub (ws' := [(g, .inr (0, [.ref w, .ref d, .int 1, .int 0])), (w, .inl (cI, 1600, .inl Zi)), (d, .inl (cI, 40, .inl Zi))]) [1, 2, 3] (by decide) rfl
  have hFc := va_free (wc := [(g, .inr (0, [.ref w, .ref d, .int 1, .int 0])), (w, .inl (cI, 1600, .inl Zi)), (d, .inl (cI, 40, .inl Zi))]) hD hS hA [1, 2, 3] rfl
  refine va_callv (va_runV (As := [.int (nI k)]) (rest := []) ⟨hx, hb, hml, hown, hts⟩ (c_X0_empty l dC dI cI cJ g w d s.heap.size Zi Zi 1 0 (nI k)) (cwV 1 hts gX4_nodes_X0_empty rfl rfl rfl (by decide +kernel) ⟨Nat.le_of_ble_eq_true rfl, Nat.le_of_ble_eq_true rfl⟩) ⟨fun a U g mk q => by obtain ⟨q0, q1, qP, qK, qD⟩ := q; exact ⟨q0, q1, qP, va_K.moved (u := U) (U := U.calling g mk a) (Vm.Alike.refl U.vm) qK, qD⟩, va_recv hK hPc (ci := 0) (q0 := 0) rfl rfl, fun U hU hW => ⟨rfl, by rw [hU], by rw [hU]; exact hPc, va_K.moved hW.alike hK, hDc.weaken (fun _ _ _ _ => trivial)⟩⟩ rfl rfl hl.1 rfl (lv_room (Nat.le_of_ble_eq_true rfl)) dX4_nodes_26 ⟨Nat.le_of_ble_eq_true rfl, Nat.le_of_ble_eq_true rfl⟩) hS (fun q _ h => hFc q h) hFc (fun u_4 t H1 locs ht hvm hw hB hz1 hk1 hS => ?_)
  obtain ⟨hP1, hD1⟩ := hB
  rw [ht] at hP1
  obtain ⟨hP, hD⟩ := va_join (wr := [(x, .inr (4, [.ref g, .ref mr, .ref tb, .ref lo, .ref g3, .ref gr, .ref wi])), (mr, .inr (1, [.ref mh, .ref mc, .ref md, .ref ml, .ref mn])), (mh, .inl (cI, 40, .inl Zi)), (tb, .inr (2, [.ref tf, .ref th, .ref tc, .int 0])), (lo, .inr (3, [.ref lf, .ref lg, .int 0]))]) (w1 := [(g, .inr (0, [.ref w, .ref d, .int (nI k), .int 0])), (w, .inl (cI, 1600, .inl Zi)), (d, .inl (cI, 40, .inl Zi))]) hP hD [1, 2, 3] [0, 4, 5, 6, 7] rfl rfl (by decide) (by decide) hk1 hFc hP1 hD1
  generalize H1 = H at hP hS ⊢
  have hP : va_P (dC, dI) vwCl [(x, .inr (4, [.ref g, .ref mr, .ref tb, .ref lo, .ref g3, .ref gr, .ref wi])), (mr, .inr (1, [.ref mh, .ref mc, .ref md, .ref ml, .ref mn])), (mh, .inl (cI, 40, .inl Zi)), (tb, .inr (2, [.ref tf, .ref th, .ref tc, .int 0])), (lo, .inr (3, [.ref lf, .ref lg, .int 0])), (g, .inr (0, [.ref w, .ref d, .int (nI k), .int 0])), (w, .inl (cI, 1600, .inl Zi)), (d, .inl (cI, 40, .inl Zi))] H := hP
  have hD : va_D A [(x, .inr (4, [.ref g, .ref mr, .ref tb, .ref lo, .ref g3, .ref gr, .ref wi])), (mr, .inr (1, [.ref mh, .ref mc, .ref md, .ref ml, .ref mn])), (mh, .inl (cI, 40, .inl Zi)), (tb, .inr (2, [.ref tf, .ref th, .ref tc, .int 0])), (lo, .inr (3, [.ref lf, .ref lg, .int 0])), (g, .inr (0, [.ref w, .ref d, .int (nI k), .int 0])), (w, .inl (cI, 1600, .inl Zi)), (d, .inl (cI, 40, .inl Zi))] := hD
  refine lv_aload_n hx hb dX4_nodes_29 rfl (lv_at hl 0 rfl) ?_
  refine va_get (D := (dC, dI)) (ci := 4) (v := .ref mr) (C := RX4) (T := TX4) (N := 7) hx hb hts i_4 hown hK hP 0 rfl rfl 1 (by decide) k_1 (fun _ h9 => h9) rfl dX4_nodes_30 ?_
  refine lv_iload_n hx hb dX4_nodes_33 rfl (lv_at hl 1 rfl) ?_
  have hPc := hP.sub (ws' := [(mr, .inr (1, [.ref mh, .ref mc, .ref md, .ref ml, .ref mn])), (mh, .inl (cI, 40, .inl Zi))]) [1, 2] rfl
  have hDc := hD.sub (ws' := [(mr, .inr (1, [.ref mh, .ref mc, .ref md, .ref ml, .ref mn])), (mh, .inl (cI, 40, .inl Zi))]) [1, 2] (by decide) rfl
  have hFc := va_free (wc := [(mr, .inr (1, [.ref mh, .ref mc, .ref md, .ref ml, .ref mn])), (mh, .inl (cI, 40, .inl Zi))]) hD hS hA [1, 2] rfl
  refine va_callv (va_runV (As := [.int (nI k)]) (rest := []) ⟨hx, hb, hml, hown, hts⟩ (c_X1_separate_n l dC dI cI cJ mr mh mc md ml mn H.size Zi k hk) (cwV 1 hts gX4_nodes_X1_separate rfl rfl rfl (by decide +kernel) ⟨Nat.le_of_ble_eq_true rfl, Nat.le_of_ble_eq_true rfl⟩) ⟨fun a U g mk q => by obtain ⟨q0, q1, qP, qK, qD⟩ := q; exact ⟨q0, q1, qP, va_K.moved (u := U) (U := U.calling g mk a) (Vm.Alike.refl U.vm) qK, qD⟩, va_recv hK hPc (ci := 1) (q0 := 0) rfl rfl, fun U hU hW => ⟨rfl, by rw [hU], by rw [hU]; exact hPc, va_K.moved hW.alike hK, hDc.weaken (fun _ _ _ _ => trivial)⟩⟩ rfl rfl hl.1 rfl (lv_room (Nat.le_of_ble_eq_true rfl)) dX4_nodes_34 ⟨Nat.le_of_ble_eq_true rfl, Nat.le_of_ble_eq_true rfl⟩) hS (fun q _ h => hFc q h) hFc (fun u_6 t H1 locs ht hvm hw hB hz1 hk1 hS => ?_)
  obtain ⟨hP1, hD1⟩ := hB
  rw [ht] at hP1
  obtain ⟨hP, hD⟩ := va_join (wr := [(x, .inr (4, [.ref g, .ref mr, .ref tb, .ref lo, .ref g3, .ref gr, .ref wi])), (tb, .inr (2, [.ref tf, .ref th, .ref tc, .int 0])), (lo, .inr (3, [.ref lf, .ref lg, .int 0])), (g, .inr (0, [.ref w, .ref d, .int (nI k), .int 0])), (w, .inl (cI, 1600, .inl Zi)), (d, .inl (cI, 40, .inl Zi))]) (w1 := []) hP hD [1, 2] [0, 3, 4, 5, 6, 7] rfl rfl (by decide) (by decide) hk1 hFc hP1 hD1
  generalize H1 = H at hP hS ⊢
  have hP : va_P (dC, dI) vwCl [(x, .inr (4, [.ref g, .ref mr, .ref tb, .ref lo, .ref g3, .ref gr, .ref wi])), (tb, .inr (2, [.ref tf, .ref th, .ref tc, .int 0])), (lo, .inr (3, [.ref lf, .ref lg, .int 0])), (g, .inr (0, [.ref w, .ref d, .int (nI k), .int 0])), (w, .inl (cI, 1600, .inl Zi)), (d, .inl (cI, 40, .inl Zi))] H := hP
  have hD : va_D A [(x, .inr (4, [.ref g, .ref mr, .ref tb, .ref lo, .ref g3, .ref gr, .ref wi])), (tb, .inr (2, [.ref tf, .ref th, .ref tc, .int 0])), (lo, .inr (3, [.ref lf, .ref lg, .int 0])), (g, .inr (0, [.ref w, .ref d, .int (nI k), .int 0])), (w, .inl (cI, 1600, .inl Zi)), (d, .inl (cI, 40, .inl Zi))] := hD
  refine lv_aload_n hx hb dX4_nodes_37 rfl (lv_at hl 0 rfl) ?_
  have hPc := hP.sub (ws' := [(x, .inr (4, [.ref g, .ref mr, .ref tb, .ref lo, .ref g3, .ref gr, .ref wi])), (tb, .inr (2, [.ref tf, .ref th, .ref tc, .int 0])), (lo, .inr (3, [.ref lf, .ref lg, .int 0]))]) [0, 1, 2] rfl
  have hDc := hD.sub (ws' := [(x, .inr (4, [.ref g, .ref mr, .ref tb, .ref lo, .ref g3, .ref gr, .ref wi])), (tb, .inr (2, [.ref tf, .ref th, .ref tc, .int 0])), (lo, .inr (3, [.ref lf, .ref lg, .int 0]))]) [0, 1, 2] (by decide) rfl
  have hFc := va_free (wc := [(x, .inr (4, [.ref g, .ref mr, .ref tb, .ref lo, .ref g3, .ref gr, .ref wi])), (tb, .inr (2, [.ref tf, .ref th, .ref tc, .int 0])), (lo, .inr (3, [.ref lf, .ref lg, .int 0]))]) hD hS hA [0, 1, 2] rfl
  refine va_callv (va_runV (As := []) (rest := []) ⟨hx, hb, hml, hown, hts⟩ (c_X4_forgetRun l dC dI cI cJ x g mr tb lo g3 gr wi tf th tc lf lg H.size) (cwV 0 hts gX4_nodes_X4_forgetRun rfl rfl rfl (by decide +kernel) ⟨Nat.le_of_ble_eq_true rfl, Nat.le_of_ble_eq_true rfl⟩) ⟨fun a U g mk q => by obtain ⟨q0, q1, qP, qK, qD⟩ := q; exact ⟨q0, q1, qP, va_K.moved (u := U) (U := U.calling g mk a) (Vm.Alike.refl U.vm) qK, qD⟩, va_recv hK hPc (ci := 4) (q0 := 0) rfl rfl, fun U hU hW => ⟨rfl, by rw [hU], by rw [hU]; exact hPc, va_K.moved hW.alike hK, hDc.weaken (fun _ _ _ _ => trivial)⟩⟩ rfl rfl hl.1 rfl (lv_room (Nat.le_of_ble_eq_true rfl)) dX4_nodes_38 ⟨Nat.le_of_ble_eq_true rfl, Nat.le_of_ble_eq_true rfl⟩) hS (fun q _ h => hFc q h) hFc (fun u_8 t H1 locs ht hvm hw hB hz1 hk1 hS => ?_)
  obtain ⟨hP1, hD1⟩ := hB
  rw [ht] at hP1
  obtain ⟨hP, hD⟩ := va_join (wr := [(g, .inr (0, [.ref w, .ref d, .int (nI k), .int 0])), (w, .inl (cI, 1600, .inl Zi)), (d, .inl (cI, 40, .inl Zi))]) (w1 := []) hP hD [0, 1, 2] [3, 4, 5] rfl rfl (by decide) (by decide) hk1 hFc hP1 hD1
  generalize H1 = H at hP hS ⊢
  have hP : va_P (dC, dI) vwCl [(g, .inr (0, [.ref w, .ref d, .int (nI k), .int 0])), (w, .inl (cI, 1600, .inl Zi)), (d, .inl (cI, 40, .inl Zi))] H := hP
  have hD : va_D A [(g, .inr (0, [.ref w, .ref d, .int (nI k), .int 0])), (w, .inl (cI, 1600, .inl Zi)), (d, .inl (cI, 40, .inl Zi))] := hD
  have hP9 := hP.sub (ws' := []) [] rfl
  have hD9 := hD.sub (ws' := []) [] (by decide) rfl
  exact W.vret hx hb hr (fun t ht hW => ⟨⟨(), rfl, trivial, by rw [ht]; exact hP9, hD9⟩, hS.F ht⟩) hS.2.2 dX4_nodes_41
set_option maxHeartbeats 4000000 in
set_option maxRecDepth 100000 in
theorem c_X4_nodes_bad (l : Launch) (hno : l.stackTraces = false) (dC : Nat → ClassId) (dI : Nat → Nat → Nat) (cI cJ : ClassId) (x g mr tb lo g3 gr wi : Nat) (sz : Nat) (n : Int32) (hn : n < 1 ∨ 40 < n) : vx_Met l yX4_nodes wsX4_nodes ({ frames := 6, cells := 1, slots := 6, locals := 82 }) (va_Pc [.ref x, .int n] (pPreX dC dI cI cJ sz [(x, .inr (4, [.ref g, .ref mr, .ref tb, .ref lo, .ref g3, .ref gr, .ref wi]))])) (va_Qv (fun _ : Unit => False) (fun _ _ => True) (va_A [(x, .inr (4, [.ref g, .ref mr, .ref tb, .ref lo, .ref g3, .ref gr, .ref wi]))] sz)) (vx_X (fun _ : Unit => True) (fun E _ _ => E = "java/lang/IllegalArgumentException") (va_A [(x, .inr (4, [.ref g, .ref mr, .ref tb, .ref lo, .ref g3, .ref gr, .ref wi]))] sz)) 1 6 (va_A [(x, .inr (4, [.ref g, .ref mr, .ref tb, .ref lo, .ref g3, .ref gr, .ref wi]))] sz) := by
  refine vx_ofW (cc := cX4_nodes) (maxL := 2) (ret := none) (by decide) rfl ?_
  intro p e s m args below meth c s₁ B hml htab hv
  obtain ⟨rfl, hsz, hP, hK, hD0, hX⟩ := hv
  have hx := B.exec
  have hb := B.bytes
  have hr := B.returns
  have hts := atoms_spec (ws := wsX4_nodes) B.pre
  have hown : s.vm.findClass RX4 = some m.cls := findClass_of_methodNamed B.named
  have hlocks := B.notSynchronized
  subst hsz
  have hD := hD0.self (sz := s.heap.size)
  generalize hAe : va_A [(x, .inr (4, [.ref g, .ref mr, .ref tb, .ref lo, .ref g3, .ref gr, .ref wi]))] s.heap.size = A at hD hX ⊢
  have hA : ∀ q : Nat, s.heap.size ≤ q → A q := fun q h => by rw [← hAe]; exact Or.inr h
  have hS : va_S A s.heap s.heap [] := va_S.rf
  have hP : va_P (dC, dI) vwCl [(x, .inr (4, [.ref g, .ref mr, .ref tb, .ref lo, .ref g3, .ref gr, .ref wi]))] s.heap := hP
  have hl := lv_entry ([.ref x, .int n]) (n := 2) (Nat.le_of_ble_eq_true rfl)
  rw [lg_entry_eq]
  generalize (lg_sl ([.ref x, .int n]) ++ List.replicate (2 - (lg_sl ([.ref x, .int n])).length) Slot.unset).toArray = ls at hl ⊢
  have hl : lv_has ls 2 [(0, .ref x), (1, .int n)] := hl
  have k_0 := hts (.classLink RX4 47 "java/lang/IllegalArgumentException") (by decide +kernel)
  have k_1 := hts (.initialized "java/lang/IllegalArgumentException") (by decide +kernel)
  refine lv_iload_n hx hb dX4_nodes_0 rfl (lv_at hl 1 rfl) ?_
  refine lv_iconst (v := 1) hx hb dX4_nodes_1 (by decide) ?_
  refine lv_icmp_lt (tgt := 11) hx hb dX4_nodes_2 (by decide) (fun c_1 => ?_) (fun c_1 => ?_)
  · skip
    obtain ⟨sa9, hstr9⟩ := hX.2.2.2.2 (49, "there are 1 to 40 nodes") (List.mem_of_getElem? (i := 0) rfl)
    have hat9 : ∀ w ∈ vx_atS RX4 51 "java/lang/IllegalArgumentException" ["java/lang/RuntimeException", "java/lang/Exception"], w.before _ s = true := vx_hat (B := vzB) (fun w h => hts w (List.mem_cons_of_mem _ (List.mem_append_right _ h))) (by decide +kernel) (fun w h => vz_bad w h (hX.2.2.1 w h))
    exact vx_throwS hx hb hno (own := RX4) (cls := "java/lang/IllegalArgumentException") (text := "there are 1 to 40 nodes") (names := ["java/lang/RuntimeException", "java/lang/Exception"]) (sa := sa9) hown (by decide +kernel) (by decide +kernel) k_0 k_1 hstr9 hat9 (by decide +kernel) hX.1 hX.2.1 hS (by rw [hml]; exact hl.1) dX4_nodes_11 dX4_nodes_14 dX4_nodes_15 dX4_nodes_17 dX4_nodes_20 (fun x h => (htab x h).elim) (Nat.le_of_ble_eq_true rfl) (Nat.le_of_ble_eq_true rfl) (Nat.le_of_ble_eq_true rfl) (Nat.le_of_ble_eq_true rfl) hlocks (fun t9 _ hz9 hk9 => ⟨(), trivial, rfl, Nat.le_trans hS.1 hz9, fun q h1 h2 => (hk9 q (Nat.lt_of_lt_of_le h1 hS.1)).trans (hS.2.1 q h1 h2)⟩) hS.2.2 (Nat.le_of_ble_eq_true rfl) (Nat.le_of_ble_eq_true rfl)
  · skip
    refine lv_iload_n hx hb dX4_nodes_5 rfl (lv_at hl 1 rfl) ?_
    refine lv_bipush (v := 40) hx hb dX4_nodes_6 (by decide) ?_
    refine lv_icmp_le (tgt := 21) hx hb dX4_nodes_8 (by decide) (fun c_2 => ?_) (fun c_2 => ?_)
    · exact absurd c_2 (Int32.not_le.mpr (hn.resolve_left c_1))
    obtain ⟨sa9, hstr9⟩ := hX.2.2.2.2 (49, "there are 1 to 40 nodes") (List.mem_of_getElem? (i := 0) rfl)
    have hat9 : ∀ w ∈ vx_atS RX4 51 "java/lang/IllegalArgumentException" ["java/lang/RuntimeException", "java/lang/Exception"], w.before _ s = true := vx_hat (B := vzB) (fun w h => hts w (List.mem_cons_of_mem _ (List.mem_append_right _ h))) (by decide +kernel) (fun w h => vz_bad w h (hX.2.2.1 w h))
    exact vx_throwS hx hb hno (own := RX4) (cls := "java/lang/IllegalArgumentException") (text := "there are 1 to 40 nodes") (names := ["java/lang/RuntimeException", "java/lang/Exception"]) (sa := sa9) hown (by decide +kernel) (by decide +kernel) k_0 k_1 hstr9 hat9 (by decide +kernel) hX.1 hX.2.1 hS (by rw [hml]; exact hl.1) dX4_nodes_11 dX4_nodes_14 dX4_nodes_15 dX4_nodes_17 dX4_nodes_20 (fun x h => (htab x h).elim) (Nat.le_of_ble_eq_true rfl) (Nat.le_of_ble_eq_true rfl) (Nat.le_of_ble_eq_true rfl) (Nat.le_of_ble_eq_true rfl) hlocks (fun t9 _ hz9 hk9 => ⟨(), trivial, rfl, Nat.le_trans hS.1 hz9, fun q h1 h2 => (hk9 q (Nat.lt_of_lt_of_le h1 hS.1)).trans (hS.2.1 q h1 h2)⟩) hS.2.2 (Nat.le_of_ble_eq_true rfl) (Nat.le_of_ble_eq_true rfl)
set_option maxHeartbeats 4000000 in
set_option maxRecDepth 100000 in
theorem c_X4_weigh (l : Launch) (dC : Nat → ClassId) (dI : Nat → Nat → Nat) (cI cJ : ClassId) (x g mr tb lo g3 gr wi w d tf th tc lf lg : Nat) (sz : Nat) (w9 : Int32) (hw0 : ¬ w9 < 0) (hw1 : lg_cmp (0 + w9.toInt64) 536870912 < 0) : Met l yX4_weigh wsX4_weigh ({ frames := 1, cells := 0, slots := 0, locals := 23 }) (va_Pc [.ref x, .int 0, .int 0, .int w9] (pPre dC dI cI cJ sz [(x, .inr (4, [.ref g, .ref mr, .ref tb, .ref lo, .ref g3, .ref gr, .ref wi])), (g, .inr (0, [.ref w, .ref d, .int 1, .int 0])), (w, .inl (cI, 1600, .inl Zi)), (d, .inl (cI, 40, .inl Zi)), (tb, .inr (2, [.ref tf, .ref th, .ref tc, .int 0])), (lo, .inr (3, [.ref lf, .ref lg, .int 0]))])) (va_Qi (fun (r : Int32) (_ : Unit) => r = 0) (pPost dC dI (va_A [(x, .inr (4, [.ref g, .ref mr, .ref tb, .ref lo, .ref g3, .ref gr, .ref wi])), (g, .inr (0, [.ref w, .ref d, .int 1, .int 0])), (w, .inl (cI, 1600, .inl Zi)), (d, .inl (cI, 40, .inl Zi)), (tb, .inr (2, [.ref tf, .ref th, .ref tc, .int 0])), (lo, .inr (3, [.ref lf, .ref lg, .int 0]))] sz) []) (va_A [(x, .inr (4, [.ref g, .ref mr, .ref tb, .ref lo, .ref g3, .ref gr, .ref wi])), (g, .inr (0, [.ref w, .ref d, .int 1, .int 0])), (w, .inl (cI, 1600, .inl Zi)), (d, .inl (cI, 40, .inl Zi)), (tb, .inr (2, [.ref tf, .ref th, .ref tc, .int 0])), (lo, .inr (3, [.ref lf, .ref lg, .int 0]))] sz)) 0 0 (va_A [(x, .inr (4, [.ref g, .ref mr, .ref tb, .ref lo, .ref g3, .ref gr, .ref wi])), (g, .inr (0, [.ref w, .ref d, .int 1, .int 0])), (w, .inl (cI, 1600, .inl Zi)), (d, .inl (cI, 40, .inl Zi)), (tb, .inr (2, [.ref tf, .ref th, .ref tc, .int 0])), (lo, .inr (3, [.ref lf, .ref lg, .int 0]))] sz) := by
  refine Met.ofW (cc := cX4_weigh) (maxL := 5) (ret := (some .int)) (by decide) rfl ?_
  intro p e s m args below meth c s₁ B hml hv
  obtain ⟨rfl, hsz, hP, hK, hD0⟩ := hv
  have hx := B.exec
  have hb := B.bytes
  have hr := B.returns
  have hts := atoms_spec (ws := wsX4_weigh) B.pre
  have hown : s.vm.findClass RX4 = some m.cls := findClass_of_methodNamed B.named
  have hlocks := B.notSynchronized
  subst hsz
  have hD := hD0.self (sz := s.heap.size)
  generalize hAe : va_A [(x, .inr (4, [.ref g, .ref mr, .ref tb, .ref lo, .ref g3, .ref gr, .ref wi])), (g, .inr (0, [.ref w, .ref d, .int 1, .int 0])), (w, .inl (cI, 1600, .inl Zi)), (d, .inl (cI, 40, .inl Zi)), (tb, .inr (2, [.ref tf, .ref th, .ref tc, .int 0])), (lo, .inr (3, [.ref lf, .ref lg, .int 0]))] s.heap.size = A at hD ⊢
  have hA : ∀ q : Nat, s.heap.size ≤ q → A q := fun q h => by rw [← hAe]; exact Or.inr h
  have hS : va_S A s.heap s.heap [] := va_S.rf
  have hP : va_P (dC, dI) vwCl [(x, .inr (4, [.ref g, .ref mr, .ref tb, .ref lo, .ref g3, .ref gr, .ref wi])), (g, .inr (0, [.ref w, .ref d, .int 1, .int 0])), (w, .inl (cI, 1600, .inl Zi)), (d, .inl (cI, 40, .inl Zi)), (tb, .inr (2, [.ref tf, .ref th, .ref tc, .int 0])), (lo, .inr (3, [.ref lf, .ref lg, .int 0]))] s.heap := hP
  have hl := lv_entry ([.ref x, .int 0, .int 0, .int w9]) (n := 5) (Nat.le_of_ble_eq_true rfl)
  rw [lg_entry_eq]
  generalize (lg_sl ([.ref x, .int 0, .int 0, .int w9]) ++ List.replicate (5 - (lg_sl ([.ref x, .int 0, .int 0, .int w9])).length) Slot.unset).toArray = ls at hl ⊢
  have hl : lv_has ls 5 [(0, .ref x), (1, .int 0), (2, .int 0), (3, .int w9)] := hl
  have i_0 : ∀ w ∈ wsX00, w ∈ wsX4_weigh := by decide +kernel
  have i_4 : ∀ w ∈ wsX40, w ∈ wsX4_weigh := by decide +kernel
  have k_0 := hts (.fieldLink RX4 10 "CommunityLevels" "told" "LCommunityLevels$Graph;") (by decide +kernel)
  have k_1 := hts (.fieldLink RX4 73 "CommunityLevels$Graph" "total" "I") (by decide +kernel)
  have k_2 := hts (.constantLong RX4 77 (536870912)) (by decide +kernel)
  refine lv_aload_n hx hb dX4_weigh_0 rfl (lv_at hl 0 rfl) ?_
  refine lv_iload_n hx hb dX4_weigh_1 rfl (lv_at hl 1 rfl) ?_
  have hPc := hP.sub (ws' := [(x, .inr (4, [.ref g, .ref mr, .ref tb, .ref lo, .ref g3, .ref gr, .ref wi])), (g, .inr (0, [.ref w, .ref d, .int 1, .int 0]))]) [0, 1] rfl
  have hDc := hD.sub (ws' := [(x, .inr (4, [.ref g, .ref mr, .ref tb, .ref lo, .ref g3, .ref gr, .ref wi])), (g, .inr (0, [.ref w, .ref d, .int 1, .int 0]))]) [0, 1] (by decide) rfl
  have hFc := va_free (wc := [(x, .inr (4, [.ref g, .ref mr, .ref tb, .ref lo, .ref g3, .ref gr, .ref wi])), (g, .inr (0, [.ref w, .ref d, .int 1, .int 0]))]) hD hS hA [0, 1] rfl
  refine va_callv (va_runV (As := [.int 0]) (rest := []) ⟨hx, hb, hml, hown, hts⟩ (c_X4_requireNode l dC dI cI cJ x g mr tb lo g3 gr wi w d s.heap.size) (cwV 1 hts gX4_weigh_X4_requireNode rfl rfl rfl (by decide +kernel) ⟨Nat.le_of_ble_eq_true rfl, Nat.le_of_ble_eq_true rfl⟩) ⟨fun a U g mk q => by obtain ⟨q0, q1, qP, qK, qD⟩ := q; exact ⟨q0, q1, qP, va_K.moved (u := U) (U := U.calling g mk a) (Vm.Alike.refl U.vm) qK, qD⟩, va_recv hK hPc (ci := 4) (q0 := 0) rfl rfl, fun U hU hW => ⟨rfl, by rw [hU], by rw [hU]; exact hPc, va_K.moved hW.alike hK, hDc.weaken (fun _ _ _ _ => trivial)⟩⟩ rfl rfl hl.1 rfl (lv_room (Nat.le_of_ble_eq_true rfl)) dX4_weigh_2 ⟨Nat.le_of_ble_eq_true rfl, Nat.le_of_ble_eq_true rfl⟩) hS (fun q _ h => hFc q h) hFc (fun u_2 t H1 locs ht hvm hw hB hz1 hk1 hS => ?_)
  obtain ⟨hP1, hD1⟩ := hB
  rw [ht] at hP1
  obtain ⟨hP, hD⟩ := va_join (wr := [(w, .inl (cI, 1600, .inl Zi)), (d, .inl (cI, 40, .inl Zi)), (tb, .inr (2, [.ref tf, .ref th, .ref tc, .int 0])), (lo, .inr (3, [.ref lf, .ref lg, .int 0]))]) (w1 := [(x, .inr (4, [.ref g, .ref mr, .ref tb, .ref lo, .ref g3, .ref gr, .ref wi])), (g, .inr (0, [.ref w, .ref d, .int 1, .int 0]))]) hP hD [0, 1] [2, 3, 4, 5] rfl rfl (by decide) (by decide) hk1 hFc hP1 hD1
  generalize H1 = H at hP hS ⊢
  have hP : va_P (dC, dI) vwCl [(w, .inl (cI, 1600, .inl Zi)), (d, .inl (cI, 40, .inl Zi)), (tb, .inr (2, [.ref tf, .ref th, .ref tc, .int 0])), (lo, .inr (3, [.ref lf, .ref lg, .int 0])), (x, .inr (4, [.ref g, .ref mr, .ref tb, .ref lo, .ref g3, .ref gr, .ref wi])), (g, .inr (0, [.ref w, .ref d, .int 1, .int 0]))] H := hP
  have hD : va_D A [(w, .inl (cI, 1600, .inl Zi)), (d, .inl (cI, 40, .inl Zi)), (tb, .inr (2, [.ref tf, .ref th, .ref tc, .int 0])), (lo, .inr (3, [.ref lf, .ref lg, .int 0])), (x, .inr (4, [.ref g, .ref mr, .ref tb, .ref lo, .ref g3, .ref gr, .ref wi])), (g, .inr (0, [.ref w, .ref d, .int 1, .int 0]))] := hD
  refine lv_aload_n hx hb dX4_weigh_5 rfl (lv_at hl 0 rfl) ?_
  refine lv_iload_n hx hb dX4_weigh_6 rfl (lv_at hl 2 rfl) ?_
  have hPc := hP.sub (ws' := [(x, .inr (4, [.ref g, .ref mr, .ref tb, .ref lo, .ref g3, .ref gr, .ref wi])), (g, .inr (0, [.ref w, .ref d, .int 1, .int 0]))]) [4, 5] rfl
  have hDc := hD.sub (ws' := [(x, .inr (4, [.ref g, .ref mr, .ref tb, .ref lo, .ref g3, .ref gr, .ref wi])), (g, .inr (0, [.ref w, .ref d, .int 1, .int 0]))]) [4, 5] (by decide) rfl
  have hFc := va_free (wc := [(x, .inr (4, [.ref g, .ref mr, .ref tb, .ref lo, .ref g3, .ref gr, .ref wi])), (g, .inr (0, [.ref w, .ref d, .int 1, .int 0]))]) hD hS hA [4, 5] rfl
  refine va_callv (va_runV (As := [.int 0]) (rest := []) ⟨hx, hb, hml, hown, hts⟩ (c_X4_requireNode l dC dI cI cJ x g mr tb lo g3 gr wi w d H.size) (cwV 1 hts gX4_weigh_X4_requireNode rfl rfl rfl (by decide +kernel) ⟨Nat.le_of_ble_eq_true rfl, Nat.le_of_ble_eq_true rfl⟩) ⟨fun a U g mk q => by obtain ⟨q0, q1, qP, qK, qD⟩ := q; exact ⟨q0, q1, qP, va_K.moved (u := U) (U := U.calling g mk a) (Vm.Alike.refl U.vm) qK, qD⟩, va_recv hK hPc (ci := 4) (q0 := 0) rfl rfl, fun U hU hW => ⟨rfl, by rw [hU], by rw [hU]; exact hPc, va_K.moved hW.alike hK, hDc.weaken (fun _ _ _ _ => trivial)⟩⟩ rfl rfl hl.1 rfl (lv_room (Nat.le_of_ble_eq_true rfl)) dX4_weigh_7 ⟨Nat.le_of_ble_eq_true rfl, Nat.le_of_ble_eq_true rfl⟩) hS (fun q _ h => hFc q h) hFc (fun u_4 t H1 locs ht hvm hw hB hz1 hk1 hS => ?_)
  obtain ⟨hP1, hD1⟩ := hB
  rw [ht] at hP1
  obtain ⟨hP, hD⟩ := va_join (wr := [(w, .inl (cI, 1600, .inl Zi)), (d, .inl (cI, 40, .inl Zi)), (tb, .inr (2, [.ref tf, .ref th, .ref tc, .int 0])), (lo, .inr (3, [.ref lf, .ref lg, .int 0]))]) (w1 := [(x, .inr (4, [.ref g, .ref mr, .ref tb, .ref lo, .ref g3, .ref gr, .ref wi])), (g, .inr (0, [.ref w, .ref d, .int 1, .int 0]))]) hP hD [4, 5] [0, 1, 2, 3] rfl rfl (by decide) (by decide) hk1 hFc hP1 hD1
  generalize H1 = H at hP hS ⊢
  have hP : va_P (dC, dI) vwCl [(w, .inl (cI, 1600, .inl Zi)), (d, .inl (cI, 40, .inl Zi)), (tb, .inr (2, [.ref tf, .ref th, .ref tc, .int 0])), (lo, .inr (3, [.ref lf, .ref lg, .int 0])), (x, .inr (4, [.ref g, .ref mr, .ref tb, .ref lo, .ref g3, .ref gr, .ref wi])), (g, .inr (0, [.ref w, .ref d, .int 1, .int 0]))] H := hP
  have hD : va_D A [(w, .inl (cI, 1600, .inl Zi)), (d, .inl (cI, 40, .inl Zi)), (tb, .inr (2, [.ref tf, .ref th, .ref tc, .int 0])), (lo, .inr (3, [.ref lf, .ref lg, .int 0])), (x, .inr (4, [.ref g, .ref mr, .ref tb, .ref lo, .ref g3, .ref gr, .ref wi])), (g, .inr (0, [.ref w, .ref d, .int 1, .int 0]))] := hD
  refine lv_iload_n hx hb dX4_weigh_10 rfl (lv_at hl 3 rfl) ?_
  refine lv_if_ge (tgt := 24) hx hb dX4_weigh_11 (by decide) (fun c_5 => ?_) (fun c_5 => ?_)
  rotate_left
  · exact absurd (Int32.not_lt.mp hw0) c_5
  refine lv_aload_n hx hb dX4_weigh_24 rfl (lv_at hl 0 rfl) ?_
  refine va_get (D := (dC, dI)) (ci := 4) (v := .ref g) (C := RX4) (T := TX4) (N := 7) hx hb hts i_4 hown hK hP 4 rfl rfl 0 (by decide) k_0 (fun _ h9 => h9) rfl dX4_weigh_25 ?_
  refine lv_iload_n hx hb dX4_weigh_28 rfl (lv_at hl 1 rfl) ?_
  refine lv_iload_n hx hb dX4_weigh_29 rfl (lv_at hl 2 rfl) ?_
  have hPc := hP.sub (ws' := [(g, .inr (0, [.ref w, .ref d, .int 1, .int 0])), (w, .inl (cI, 1600, .inl Zi))]) [5, 0] rfl
  have hDc := hD.sub (ws' := [(g, .inr (0, [.ref w, .ref d, .int 1, .int 0])), (w, .inl (cI, 1600, .inl Zi))]) [5, 0] (by decide) rfl
  have hFc := va_free (wc := [(g, .inr (0, [.ref w, .ref d, .int 1, .int 0])), (w, .inl (cI, 1600, .inl Zi))]) hD hS hA [5, 0] rfl
  refine va_calli (va_runV (As := [.int 0, .int 0]) (rest := []) ⟨hx, hb, hml, hown, hts⟩ (c_X0_between l dC dI cI cJ g w d H.size Zi 1 0) (cwV 2 hts gX4_weigh_X0_between rfl rfl rfl (by decide +kernel) ⟨Nat.le_of_ble_eq_true rfl, Nat.le_of_ble_eq_true rfl⟩) ⟨fun a U g mk q => by obtain ⟨q0, q1, qP, qK, qD⟩ := q; exact ⟨q0, q1, qP, va_K.moved (u := U) (U := U.calling g mk a) (Vm.Alike.refl U.vm) qK, qD⟩, va_recv hK hPc (ci := 0) (q0 := 0) rfl rfl, fun U hU hW => ⟨rfl, by rw [hU], by rw [hU]; exact hPc, va_K.moved hW.alike hK, hDc.weaken (fun _ _ _ _ => trivial)⟩⟩ rfl rfl hl.1 rfl (lv_room (Nat.le_of_ble_eq_true rfl)) dX4_weigh_30 ⟨Nat.le_of_ble_eq_true rfl, Nat.le_of_ble_eq_true rfl⟩) hS (fun q _ h => hFc q h) hFc (fun r_6 u_7 t H1 locs ht hvm hw hB hz1 hk1 hS => ?_)
  obtain ⟨hP1, hD1⟩ := hB
  rw [ht] at hP1
  obtain ⟨hP, hD⟩ := va_join (wr := [(d, .inl (cI, 40, .inl Zi)), (tb, .inr (2, [.ref tf, .ref th, .ref tc, .int 0])), (lo, .inr (3, [.ref lf, .ref lg, .int 0])), (x, .inr (4, [.ref g, .ref mr, .ref tb, .ref lo, .ref g3, .ref gr, .ref wi]))]) (w1 := [(g, .inr (0, [.ref w, .ref d, .int 1, .int 0])), (w, .inl (cI, 1600, .inl Zi))]) hP hD [5, 0] [1, 2, 3, 4] rfl rfl (by decide) (by decide) hk1 hFc hP1 hD1
  generalize H1 = H at hP hS ⊢
  have hP : va_P (dC, dI) vwCl [(d, .inl (cI, 40, .inl Zi)), (tb, .inr (2, [.ref tf, .ref th, .ref tc, .int 0])), (lo, .inr (3, [.ref lf, .ref lg, .int 0])), (x, .inr (4, [.ref g, .ref mr, .ref tb, .ref lo, .ref g3, .ref gr, .ref wi])), (g, .inr (0, [.ref w, .ref d, .int 1, .int 0])), (w, .inl (cI, 1600, .inl Zi))] H := hP
  have hD : va_D A [(d, .inl (cI, 40, .inl Zi)), (tb, .inr (2, [.ref tf, .ref th, .ref tc, .int 0])), (lo, .inr (3, [.ref lf, .ref lg, .int 0])), (x, .inr (4, [.ref g, .ref mr, .ref tb, .ref lo, .ref g3, .ref gr, .ref wi])), (g, .inr (0, [.ref w, .ref d, .int 1, .int 0])), (w, .inl (cI, 1600, .inl Zi))] := hD
  obtain rfl : r_6 = 0 := hw
  refine lv_istore (lv' := [(4, .int 0), (0, .ref x), (1, .int 0), (2, .int 0), (3, .int w9)]) hx hb dX4_weigh_33 hl (by decide) rfl (fun ls hl => ?_)
  refine lv_aload_n hx hb dX4_weigh_35 rfl (lv_at hl 1 rfl) ?_
  refine va_get (D := (dC, dI)) (ci := 4) (v := .ref g) (C := RX4) (T := TX4) (N := 7) hx hb hts i_4 hown hK hP 3 rfl rfl 0 (by decide) k_0 (fun _ h9 => h9) rfl dX4_weigh_36 ?_
  refine va_get (D := (dC, dI)) (ci := 0) (v := .int 0) (C := RX0) (T := TX0) (N := 4) hx hb hts i_0 hown hK hP 4 rfl rfl 3 (by decide) k_1 (fun _ h9 => h9) rfl dX4_weigh_39 ?_
  refine lv_i2l (v := 0) hx hb dX4_weigh_42 (by decide) ?_
  refine lv_iload hx hb dX4_weigh_43 (lv_at hl 0 rfl) ?_
  refine lv_i2l (v := 0) hx hb dX4_weigh_45 (by decide) ?_
  refine lv_lsub hx hb dX4_weigh_46 ?_
  refine lc_l (v := 0) (by first | rfl | decide) ?_
  refine lv_iload_n hx hb dX4_weigh_47 rfl (lv_at hl 4 rfl) ?_
  refine lv_i2l (v := w9.toInt64) hx hb dX4_weigh_48 rfl ?_
  refine lv_ladd hx hb dX4_weigh_49 ?_
  refine lv_ldc2 (own := RX4) (v := 536870912) hx hb hown k_2 dX4_weigh_50 ?_
  refine W.lcmp hx hb dX4_weigh_53 ?_
  refine lv_if_lt (tgt := 67) hx hb dX4_weigh_54 (by decide) (fun c_8 => ?_) (fun c_8 => ?_)
  rotate_left
  · exact absurd hw1 c_8
  refine lv_aload_n hx hb dX4_weigh_67 rfl (lv_at hl 1 rfl) ?_
  refine va_get (D := (dC, dI)) (ci := 4) (v := .ref g) (C := RX4) (T := TX4) (N := 7) hx hb hts i_4 hown hK hP 3 rfl rfl 0 (by decide) k_0 (fun _ h9 => h9) rfl dX4_weigh_68 ?_
  refine lv_iload_n hx hb dX4_weigh_71 rfl (lv_at hl 2 rfl) ?_
  refine lv_iload_n hx hb dX4_weigh_72 rfl (lv_at hl 3 rfl) ?_
  refine lv_iload_n hx hb dX4_weigh_73 rfl (lv_at hl 4 rfl) ?_
  refine lv_iload hx hb dX4_weigh_74 (lv_at hl 0 rfl) ?_
  refine lv_isub hx hb dX4_weigh_76 ?_
  have hPc := hP.sub (ws' := [(g, .inr (0, [.ref w, .ref d, .int 1, .int 0])), (w, .inl (cI, 1600, .inl Zi)), (d, .inl (cI, 40, .inl Zi))]) [4, 5, 0] rfl
  have hDc := hD.sub (ws' := [(g, .inr (0, [.ref w, .ref d, .int 1, .int 0])), (w, .inl (cI, 1600, .inl Zi)), (d, .inl (cI, 40, .inl Zi))]) [4, 5, 0] (by decide) rfl
  have hFc := va_free (wc := [(g, .inr (0, [.ref w, .ref d, .int 1, .int 0])), (w, .inl (cI, 1600, .inl Zi)), (d, .inl (cI, 40, .inl Zi))]) hD hS hA [4, 5, 0] rfl
  refine va_callv (va_runV (As := [.int 0, .int 0, .int (w9 - 0)]) (rest := []) ⟨hx, hb, hml, hown, hts⟩ (c_X0_add l dC dI cI cJ g w d H.size (w9 - 0)) (cwV 3 hts gX4_weigh_X0_add rfl rfl rfl (by decide +kernel) ⟨Nat.le_of_ble_eq_true rfl, Nat.le_of_ble_eq_true rfl⟩) ⟨fun a U g mk q => by obtain ⟨q0, q1, qP, qK, qD⟩ := q; exact ⟨q0, q1, qP, va_K.moved (u := U) (U := U.calling g mk a) (Vm.Alike.refl U.vm) qK, qD⟩, va_recv hK hPc (ci := 0) (q0 := 0) rfl rfl, fun U hU hW => ⟨rfl, by rw [hU], by rw [hU]; exact hPc, va_K.moved hW.alike hK, hDc.weaken (fun _ _ _ _ => trivial)⟩⟩ rfl rfl hl.1 rfl (lv_room (Nat.le_of_ble_eq_true rfl)) dX4_weigh_77 ⟨Nat.le_of_ble_eq_true rfl, Nat.le_of_ble_eq_true rfl⟩) hS (fun q _ h => hFc q h) hFc (fun u_10 t H1 locs ht hvm hw hB hz1 hk1 hS => ?_)
  obtain ⟨hP1, hD1⟩ := hB
  rw [ht] at hP1
  obtain ⟨hP, hD⟩ := va_join (wr := [(tb, .inr (2, [.ref tf, .ref th, .ref tc, .int 0])), (lo, .inr (3, [.ref lf, .ref lg, .int 0])), (x, .inr (4, [.ref g, .ref mr, .ref tb, .ref lo, .ref g3, .ref gr, .ref wi]))]) (w1 := []) hP hD [4, 5, 0] [1, 2, 3] rfl rfl (by decide) (by decide) hk1 hFc hP1 hD1
  generalize H1 = H at hP hS ⊢
  have hP : va_P (dC, dI) vwCl [(tb, .inr (2, [.ref tf, .ref th, .ref tc, .int 0])), (lo, .inr (3, [.ref lf, .ref lg, .int 0])), (x, .inr (4, [.ref g, .ref mr, .ref tb, .ref lo, .ref g3, .ref gr, .ref wi]))] H := hP
  have hD : va_D A [(tb, .inr (2, [.ref tf, .ref th, .ref tc, .int 0])), (lo, .inr (3, [.ref lf, .ref lg, .int 0])), (x, .inr (4, [.ref g, .ref mr, .ref tb, .ref lo, .ref g3, .ref gr, .ref wi]))] := hD
  refine lv_aload_n hx hb dX4_weigh_80 rfl (lv_at hl 1 rfl) ?_
  have hPc := hP.sub (ws' := [(x, .inr (4, [.ref g, .ref mr, .ref tb, .ref lo, .ref g3, .ref gr, .ref wi])), (tb, .inr (2, [.ref tf, .ref th, .ref tc, .int 0])), (lo, .inr (3, [.ref lf, .ref lg, .int 0]))]) [2, 0, 1] rfl
  have hDc := hD.sub (ws' := [(x, .inr (4, [.ref g, .ref mr, .ref tb, .ref lo, .ref g3, .ref gr, .ref wi])), (tb, .inr (2, [.ref tf, .ref th, .ref tc, .int 0])), (lo, .inr (3, [.ref lf, .ref lg, .int 0]))]) [2, 0, 1] (by decide) rfl
  have hFc := va_free (wc := [(x, .inr (4, [.ref g, .ref mr, .ref tb, .ref lo, .ref g3, .ref gr, .ref wi])), (tb, .inr (2, [.ref tf, .ref th, .ref tc, .int 0])), (lo, .inr (3, [.ref lf, .ref lg, .int 0]))]) hD hS hA [2, 0, 1] rfl
  refine va_callv (va_runV (As := []) (rest := []) ⟨hx, hb, hml, hown, hts⟩ (c_X4_forgetRun l dC dI cI cJ x g mr tb lo g3 gr wi tf th tc lf lg H.size) (cwV 0 hts gX4_weigh_X4_forgetRun rfl rfl rfl (by decide +kernel) ⟨Nat.le_of_ble_eq_true rfl, Nat.le_of_ble_eq_true rfl⟩) ⟨fun a U g mk q => by obtain ⟨q0, q1, qP, qK, qD⟩ := q; exact ⟨q0, q1, qP, va_K.moved (u := U) (U := U.calling g mk a) (Vm.Alike.refl U.vm) qK, qD⟩, va_recv hK hPc (ci := 4) (q0 := 0) rfl rfl, fun U hU hW => ⟨rfl, by rw [hU], by rw [hU]; exact hPc, va_K.moved hW.alike hK, hDc.weaken (fun _ _ _ _ => trivial)⟩⟩ rfl rfl hl.1 rfl (lv_room (Nat.le_of_ble_eq_true rfl)) dX4_weigh_81 ⟨Nat.le_of_ble_eq_true rfl, Nat.le_of_ble_eq_true rfl⟩) hS (fun q _ h => hFc q h) hFc (fun u_12 t H1 locs ht hvm hw hB hz1 hk1 hS => ?_)
  obtain ⟨hP1, hD1⟩ := hB
  rw [ht] at hP1
  obtain ⟨hP, hD⟩ := va_join (wr := []) (w1 := []) hP hD [2, 0, 1] [] rfl rfl (by decide) (by decide) hk1 hFc hP1 hD1
  generalize H1 = H at hP hS ⊢
  have hP : va_P (dC, dI) vwCl [] H := hP
  have hD : va_D A [] := hD
  refine lv_iload hx hb dX4_weigh_84 (lv_at hl 0 rfl) ?_
  have hP9 := hP.sub (ws' := []) [] rfl
  have hD9 := hD.sub (ws' := []) [] (by decide) rfl
  exact W.iret (v := 0) hx hb hr (fun t ht hW => ⟨⟨_, (), rfl, rfl, by rw [ht]; exact hP9, hD9⟩, hS.F ht⟩) hS.2.2 dX4_weigh_86
set_option maxHeartbeats 4000000 in
set_option maxRecDepth 100000 in
theorem c_X4_weigh_b1 (l : Launch) (hno : l.stackTraces = false) (dC : Nat → ClassId) (dI : Nat → Nat → Nat) (cI cJ : ClassId) (x g mr tb lo g3 gr wi w d : Nat) (sz : Nat) (n : Int32) (b9 : Int32) (w9 : Int32) (hn : n < 0 ∨ 1 ≤ n) : vx_Met l yX4_weigh wsX4_weigh ({ frames := 7, cells := 1, slots := 6, locals := 103 }) (va_Pc [.ref x, .int n, .int b9, .int w9] (pPreX dC dI cI cJ sz [(x, .inr (4, [.ref g, .ref mr, .ref tb, .ref lo, .ref g3, .ref gr, .ref wi])), (g, .inr (0, [.ref w, .ref d, .int 1, .int 0]))])) (va_Qi (fun (_ : Int32) (_ : Unit) => False) (fun _ _ => True) (va_A [(x, .inr (4, [.ref g, .ref mr, .ref tb, .ref lo, .ref g3, .ref gr, .ref wi])), (g, .inr (0, [.ref w, .ref d, .int 1, .int 0]))] sz)) (vx_X (fun _ : Unit => True) (fun E _ _ => E = "java/lang/IndexOutOfBoundsException") (va_A [(x, .inr (4, [.ref g, .ref mr, .ref tb, .ref lo, .ref g3, .ref gr, .ref wi])), (g, .inr (0, [.ref w, .ref d, .int 1, .int 0]))] sz)) 1 6 (va_A [(x, .inr (4, [.ref g, .ref mr, .ref tb, .ref lo, .ref g3, .ref gr, .ref wi])), (g, .inr (0, [.ref w, .ref d, .int 1, .int 0]))] sz) := by
  refine vx_ofW (cc := cX4_weigh) (maxL := 5) (ret := (some .int)) (by decide) rfl ?_
  intro p e s m args below meth c s₁ B hml htab hv
  obtain ⟨rfl, hsz, hP, hK, hD0, hX⟩ := hv
  have hx := B.exec
  have hb := B.bytes
  have hr := B.returns
  have hts := atoms_spec (ws := wsX4_weigh) B.pre
  have hown : s.vm.findClass RX4 = some m.cls := findClass_of_methodNamed B.named
  have hlocks := B.notSynchronized
  subst hsz
  have hD := hD0.self (sz := s.heap.size)
  generalize hAe : va_A [(x, .inr (4, [.ref g, .ref mr, .ref tb, .ref lo, .ref g3, .ref gr, .ref wi])), (g, .inr (0, [.ref w, .ref d, .int 1, .int 0]))] s.heap.size = A at hD hX ⊢
  have hA : ∀ q : Nat, s.heap.size ≤ q → A q := fun q h => by rw [← hAe]; exact Or.inr h
  have hS : va_S A s.heap s.heap [] := va_S.rf
  have hP : va_P (dC, dI) vwCl [(x, .inr (4, [.ref g, .ref mr, .ref tb, .ref lo, .ref g3, .ref gr, .ref wi])), (g, .inr (0, [.ref w, .ref d, .int 1, .int 0]))] s.heap := hP
  have hl := lv_entry ([.ref x, .int n, .int b9, .int w9]) (n := 5) (Nat.le_of_ble_eq_true rfl)
  rw [lg_entry_eq]
  generalize (lg_sl ([.ref x, .int n, .int b9, .int w9]) ++ List.replicate (5 - (lg_sl ([.ref x, .int n, .int b9, .int w9])).length) Slot.unset).toArray = ls at hl ⊢
  have hl : lv_has ls 5 [(0, .ref x), (1, .int n), (2, .int b9), (3, .int w9)] := hl
  refine lv_aload_n hx hb dX4_weigh_0 rfl (lv_at hl 0 rfl) ?_
  refine lv_iload_n hx hb dX4_weigh_1 rfl (lv_at hl 1 rfl) ?_
  have hPc := hP.sub (ws' := [(x, .inr (4, [.ref g, .ref mr, .ref tb, .ref lo, .ref g3, .ref gr, .ref wi])), (g, .inr (0, [.ref w, .ref d, .int 1, .int 0]))]) [0, 1] rfl
  have hDc := hD.sub (ws' := [(x, .inr (4, [.ref g, .ref mr, .ref tb, .ref lo, .ref g3, .ref gr, .ref wi])), (g, .inr (0, [.ref w, .ref d, .int 1, .int 0]))]) [0, 1] (by decide) rfl
  have hFc := va_free (wc := [(x, .inr (4, [.ref g, .ref mr, .ref tb, .ref lo, .ref g3, .ref gr, .ref wi])), (g, .inr (0, [.ref w, .ref d, .int 1, .int 0]))]) hD hS hA [0, 1] rfl
  refine vx_callv (vx_runV (As := [.int n]) (rest := []) ⟨hx, hb, hml, hown, hts⟩ (c_X4_requireNode_bad l hno dC dI cI cJ x g mr tb lo g3 gr wi w d s.heap.size n hn) (cwV 1 hts gX4_weigh_X4_requireNode rfl rfl rfl (by decide +kernel) ⟨Nat.le_of_ble_eq_true rfl, Nat.le_of_ble_eq_true rfl⟩) ⟨fun a U g mk q => by obtain ⟨q0, q1, qP, qK, qD, qX⟩ := q; exact ⟨q0, q1, qP, va_K.moved (u := U) (U := U.calling g mk a) (Vm.Alike.refl U.vm) qK, qD, qX.moved (State.WarmedH.refl U)⟩, va_recv hK hPc (ci := 4) (q0 := 0) rfl rfl, fun U hU hW => ⟨rfl, by rw [hU], by rw [hU]; exact hPc, va_K.moved hW.alike hK, hDc.weaken (fun _ _ _ _ => trivial), by rw [hU]; exact ((hX.kept hS.2.1).narrow hFc).moved hW⟩⟩ rfl rfl hl.1 rfl (lv_room (Nat.le_of_ble_eq_true rfl)) dX4_weigh_2 ⟨Nat.le_of_ble_eq_true rfl, Nat.le_of_ble_eq_true rfl⟩) hS (fun q _ h => hFc q h) hFc (fun q _ h => hFc q h) (fun E9 ce9 q9 u9 t H1 locs ht hvm hw hB hz1 hk1 hS hce hcv hcl => ?_) (fun u_2 t H1 locs ht hvm hw hB hz1 hk1 hS => ?_)
  · skip
    refine vx_out (fun x h => (htab x h).elim) hlocks hce hcv hcl (fun t9 ht9 _ => ⟨(), trivial, hB, hS.F ht9⟩) hS.2.2 (Nat.le_of_ble_eq_true rfl) (Nat.le_of_ble_eq_true rfl)
  · exact hw.elim
set_option maxHeartbeats 4000000 in
set_option maxRecDepth 100000 in
theorem c_X4_weigh_b2 (l : Launch) (hno : l.stackTraces = false) (dC : Nat → ClassId) (dI : Nat → Nat → Nat) (cI cJ : ClassId) (x g mr tb lo g3 gr wi w d : Nat) (sz : Nat) (n : Int32) (w9 : Int32) (hn : n < 0 ∨ 1 ≤ n) : vx_Met l yX4_weigh wsX4_weigh ({ frames := 7, cells := 1, slots := 6, locals := 103 }) (va_Pc [.ref x, .int 0, .int n, .int w9] (pPreX dC dI cI cJ sz [(x, .inr (4, [.ref g, .ref mr, .ref tb, .ref lo, .ref g3, .ref gr, .ref wi])), (g, .inr (0, [.ref w, .ref d, .int 1, .int 0]))])) (va_Qi (fun (_ : Int32) (_ : Unit) => False) (fun _ _ => True) (va_A [(x, .inr (4, [.ref g, .ref mr, .ref tb, .ref lo, .ref g3, .ref gr, .ref wi])), (g, .inr (0, [.ref w, .ref d, .int 1, .int 0]))] sz)) (vx_X (fun _ : Unit => True) (fun E _ _ => E = "java/lang/IndexOutOfBoundsException") (va_A [(x, .inr (4, [.ref g, .ref mr, .ref tb, .ref lo, .ref g3, .ref gr, .ref wi])), (g, .inr (0, [.ref w, .ref d, .int 1, .int 0]))] sz)) 1 6 (va_A [(x, .inr (4, [.ref g, .ref mr, .ref tb, .ref lo, .ref g3, .ref gr, .ref wi])), (g, .inr (0, [.ref w, .ref d, .int 1, .int 0]))] sz) := by
  refine vx_ofW (cc := cX4_weigh) (maxL := 5) (ret := (some .int)) (by decide) rfl ?_
  intro p e s m args below meth c s₁ B hml htab hv
  obtain ⟨rfl, hsz, hP, hK, hD0, hX⟩ := hv
  have hx := B.exec
  have hb := B.bytes
  have hr := B.returns
  have hts := atoms_spec (ws := wsX4_weigh) B.pre
  have hown : s.vm.findClass RX4 = some m.cls := findClass_of_methodNamed B.named
  have hlocks := B.notSynchronized
  subst hsz
  have hD := hD0.self (sz := s.heap.size)
  generalize hAe : va_A [(x, .inr (4, [.ref g, .ref mr, .ref tb, .ref lo, .ref g3, .ref gr, .ref wi])), (g, .inr (0, [.ref w, .ref d, .int 1, .int 0]))] s.heap.size = A at hD hX ⊢
  have hA : ∀ q : Nat, s.heap.size ≤ q → A q := fun q h => by rw [← hAe]; exact Or.inr h
  have hS : va_S A s.heap s.heap [] := va_S.rf
  have hP : va_P (dC, dI) vwCl [(x, .inr (4, [.ref g, .ref mr, .ref tb, .ref lo, .ref g3, .ref gr, .ref wi])), (g, .inr (0, [.ref w, .ref d, .int 1, .int 0]))] s.heap := hP
  have hl := lv_entry ([.ref x, .int 0, .int n, .int w9]) (n := 5) (Nat.le_of_ble_eq_true rfl)
  rw [lg_entry_eq]
  generalize (lg_sl ([.ref x, .int 0, .int n, .int w9]) ++ List.replicate (5 - (lg_sl ([.ref x, .int 0, .int n, .int w9])).length) Slot.unset).toArray = ls at hl ⊢
  have hl : lv_has ls 5 [(0, .ref x), (1, .int 0), (2, .int n), (3, .int w9)] := hl
  refine lv_aload_n hx hb dX4_weigh_0 rfl (lv_at hl 0 rfl) ?_
  refine lv_iload_n hx hb dX4_weigh_1 rfl (lv_at hl 1 rfl) ?_
  have hPc := hP.sub (ws' := [(x, .inr (4, [.ref g, .ref mr, .ref tb, .ref lo, .ref g3, .ref gr, .ref wi])), (g, .inr (0, [.ref w, .ref d, .int 1, .int 0]))]) [0, 1] rfl
  have hDc := hD.sub (ws' := [(x, .inr (4, [.ref g, .ref mr, .ref tb, .ref lo, .ref g3, .ref gr, .ref wi])), (g, .inr (0, [.ref w, .ref d, .int 1, .int 0]))]) [0, 1] (by decide) rfl
  have hFc := va_free (wc := [(x, .inr (4, [.ref g, .ref mr, .ref tb, .ref lo, .ref g3, .ref gr, .ref wi])), (g, .inr (0, [.ref w, .ref d, .int 1, .int 0]))]) hD hS hA [0, 1] rfl
  refine va_callv (va_runV (As := [.int 0]) (rest := []) ⟨hx, hb, hml, hown, hts⟩ (c_X4_requireNode l dC dI cI cJ x g mr tb lo g3 gr wi w d s.heap.size) (cwV 1 hts gX4_weigh_X4_requireNode rfl rfl rfl (by decide +kernel) ⟨Nat.le_of_ble_eq_true rfl, Nat.le_of_ble_eq_true rfl⟩) ⟨fun a U g mk q => by obtain ⟨q0, q1, qP, qK, qD⟩ := q; exact ⟨q0, q1, qP, va_K.moved (u := U) (U := U.calling g mk a) (Vm.Alike.refl U.vm) qK, qD⟩, va_recv hK hPc (ci := 4) (q0 := 0) rfl rfl, fun U hU hW => ⟨rfl, by rw [hU], by rw [hU]; exact hPc, va_K.moved hW.alike hK, hDc.weaken (fun _ _ _ _ => trivial)⟩⟩ rfl rfl hl.1 rfl (lv_room (Nat.le_of_ble_eq_true rfl)) dX4_weigh_2 ⟨Nat.le_of_ble_eq_true rfl, Nat.le_of_ble_eq_true rfl⟩) hS (fun q _ h => hFc q h) hFc (fun u_2 t H1 locs ht hvm hw hB hz1 hk1 hS => ?_)
  obtain ⟨hP1, hD1⟩ := hB
  rw [ht] at hP1
  obtain ⟨hP, hD⟩ := va_join (wr := []) (w1 := [(x, .inr (4, [.ref g, .ref mr, .ref tb, .ref lo, .ref g3, .ref gr, .ref wi])), (g, .inr (0, [.ref w, .ref d, .int 1, .int 0]))]) hP hD [0, 1] [] rfl rfl (by decide) (by decide) hk1 hFc hP1 hD1
  generalize H1 = H at hP hS ⊢
  have hP : va_P (dC, dI) vwCl [(x, .inr (4, [.ref g, .ref mr, .ref tb, .ref lo, .ref g3, .ref gr, .ref wi])), (g, .inr (0, [.ref w, .ref d, .int 1, .int 0]))] H := hP
  have hD : va_D A [(x, .inr (4, [.ref g, .ref mr, .ref tb, .ref lo, .ref g3, .ref gr, .ref wi])), (g, .inr (0, [.ref w, .ref d, .int 1, .int 0]))] := hD
  refine lv_aload_n hx hb dX4_weigh_5 rfl (lv_at hl 0 rfl) ?_
  refine lv_iload_n hx hb dX4_weigh_6 rfl (lv_at hl 2 rfl) ?_
  have hPc := hP.sub (ws' := [(x, .inr (4, [.ref g, .ref mr, .ref tb, .ref lo, .ref g3, .ref gr, .ref wi])), (g, .inr (0, [.ref w, .ref d, .int 1, .int 0]))]) [0, 1] rfl
  have hDc := hD.sub (ws' := [(x, .inr (4, [.ref g, .ref mr, .ref tb, .ref lo, .ref g3, .ref gr, .ref wi])), (g, .inr (0, [.ref w, .ref d, .int 1, .int 0]))]) [0, 1] (by decide) rfl
  have hFc := va_free (wc := [(x, .inr (4, [.ref g, .ref mr, .ref tb, .ref lo, .ref g3, .ref gr, .ref wi])), (g, .inr (0, [.ref w, .ref d, .int 1, .int 0]))]) hD hS hA [0, 1] rfl
  refine vx_callv (vx_runV (As := [.int n]) (rest := []) ⟨hx, hb, hml, hown, hts⟩ (c_X4_requireNode_bad l hno dC dI cI cJ x g mr tb lo g3 gr wi w d H.size n hn) (cwV 1 hts gX4_weigh_X4_requireNode rfl rfl rfl (by decide +kernel) ⟨Nat.le_of_ble_eq_true rfl, Nat.le_of_ble_eq_true rfl⟩) ⟨fun a U g mk q => by obtain ⟨q0, q1, qP, qK, qD, qX⟩ := q; exact ⟨q0, q1, qP, va_K.moved (u := U) (U := U.calling g mk a) (Vm.Alike.refl U.vm) qK, qD, qX.moved (State.WarmedH.refl U)⟩, va_recv hK hPc (ci := 4) (q0 := 0) rfl rfl, fun U hU hW => ⟨rfl, by rw [hU], by rw [hU]; exact hPc, va_K.moved hW.alike hK, hDc.weaken (fun _ _ _ _ => trivial), by rw [hU]; exact ((hX.kept hS.2.1).narrow hFc).moved hW⟩⟩ rfl rfl hl.1 rfl (lv_room (Nat.le_of_ble_eq_true rfl)) dX4_weigh_7 ⟨Nat.le_of_ble_eq_true rfl, Nat.le_of_ble_eq_true rfl⟩) hS (fun q _ h => hFc q h) hFc (fun q _ h => hFc q h) (fun E9 ce9 q9 u9 t H1 locs ht hvm hw hB hz1 hk1 hS hce hcv hcl => ?_) (fun u_4 t H1 locs ht hvm hw hB hz1 hk1 hS => ?_)
  · skip
    refine vx_out (fun x h => (htab x h).elim) hlocks hce hcv hcl (fun t9 ht9 _ => ⟨(), trivial, hB, hS.F ht9⟩) hS.2.2 (Nat.le_of_ble_eq_true rfl) (Nat.le_of_ble_eq_true rfl)
  · exact hw.elim
set_option maxHeartbeats 4000000 in
set_option maxRecDepth 100000 in
theorem c_X4_weigh_b3 (l : Launch) (hno : l.stackTraces = false) (dC : Nat → ClassId) (dI : Nat → Nat → Nat) (cI cJ : ClassId) (x g mr tb lo g3 gr wi w d : Nat) (sz : Nat) (w9 : Int32) (hwn : w9 < 0) : vx_Met l yX4_weigh wsX4_weigh ({ frames := 6, cells := 1, slots := 6, locals := 82 }) (va_Pc [.ref x, .int 0, .int 0, .int w9] (pPreX dC dI cI cJ sz [(x, .inr (4, [.ref g, .ref mr, .ref tb, .ref lo, .ref g3, .ref gr, .ref wi])), (g, .inr (0, [.ref w, .ref d, .int 1, .int 0]))])) (va_Qi (fun (_ : Int32) (_ : Unit) => False) (fun _ _ => True) (va_A [(x, .inr (4, [.ref g, .ref mr, .ref tb, .ref lo, .ref g3, .ref gr, .ref wi])), (g, .inr (0, [.ref w, .ref d, .int 1, .int 0]))] sz)) (vx_X (fun _ : Unit => True) (fun E _ _ => E = "java/lang/IllegalArgumentException") (va_A [(x, .inr (4, [.ref g, .ref mr, .ref tb, .ref lo, .ref g3, .ref gr, .ref wi])), (g, .inr (0, [.ref w, .ref d, .int 1, .int 0]))] sz)) 1 6 (va_A [(x, .inr (4, [.ref g, .ref mr, .ref tb, .ref lo, .ref g3, .ref gr, .ref wi])), (g, .inr (0, [.ref w, .ref d, .int 1, .int 0]))] sz) := by
  refine vx_ofW (cc := cX4_weigh) (maxL := 5) (ret := (some .int)) (by decide) rfl ?_
  intro p e s m args below meth c s₁ B hml htab hv
  obtain ⟨rfl, hsz, hP, hK, hD0, hX⟩ := hv
  have hx := B.exec
  have hb := B.bytes
  have hr := B.returns
  have hts := atoms_spec (ws := wsX4_weigh) B.pre
  have hown : s.vm.findClass RX4 = some m.cls := findClass_of_methodNamed B.named
  have hlocks := B.notSynchronized
  subst hsz
  have hD := hD0.self (sz := s.heap.size)
  generalize hAe : va_A [(x, .inr (4, [.ref g, .ref mr, .ref tb, .ref lo, .ref g3, .ref gr, .ref wi])), (g, .inr (0, [.ref w, .ref d, .int 1, .int 0]))] s.heap.size = A at hD hX ⊢
  have hA : ∀ q : Nat, s.heap.size ≤ q → A q := fun q h => by rw [← hAe]; exact Or.inr h
  have hS : va_S A s.heap s.heap [] := va_S.rf
  have hP : va_P (dC, dI) vwCl [(x, .inr (4, [.ref g, .ref mr, .ref tb, .ref lo, .ref g3, .ref gr, .ref wi])), (g, .inr (0, [.ref w, .ref d, .int 1, .int 0]))] s.heap := hP
  have hl := lv_entry ([.ref x, .int 0, .int 0, .int w9]) (n := 5) (Nat.le_of_ble_eq_true rfl)
  rw [lg_entry_eq]
  generalize (lg_sl ([.ref x, .int 0, .int 0, .int w9]) ++ List.replicate (5 - (lg_sl ([.ref x, .int 0, .int 0, .int w9])).length) Slot.unset).toArray = ls at hl ⊢
  have hl : lv_has ls 5 [(0, .ref x), (1, .int 0), (2, .int 0), (3, .int w9)] := hl
  have k_0 := hts (.classLink RX4 47 "java/lang/IllegalArgumentException") (by decide +kernel)
  have k_1 := hts (.initialized "java/lang/IllegalArgumentException") (by decide +kernel)
  refine lv_aload_n hx hb dX4_weigh_0 rfl (lv_at hl 0 rfl) ?_
  refine lv_iload_n hx hb dX4_weigh_1 rfl (lv_at hl 1 rfl) ?_
  have hPc := hP.sub (ws' := [(x, .inr (4, [.ref g, .ref mr, .ref tb, .ref lo, .ref g3, .ref gr, .ref wi])), (g, .inr (0, [.ref w, .ref d, .int 1, .int 0]))]) [0, 1] rfl
  have hDc := hD.sub (ws' := [(x, .inr (4, [.ref g, .ref mr, .ref tb, .ref lo, .ref g3, .ref gr, .ref wi])), (g, .inr (0, [.ref w, .ref d, .int 1, .int 0]))]) [0, 1] (by decide) rfl
  have hFc := va_free (wc := [(x, .inr (4, [.ref g, .ref mr, .ref tb, .ref lo, .ref g3, .ref gr, .ref wi])), (g, .inr (0, [.ref w, .ref d, .int 1, .int 0]))]) hD hS hA [0, 1] rfl
  refine va_callv (va_runV (As := [.int 0]) (rest := []) ⟨hx, hb, hml, hown, hts⟩ (c_X4_requireNode l dC dI cI cJ x g mr tb lo g3 gr wi w d s.heap.size) (cwV 1 hts gX4_weigh_X4_requireNode rfl rfl rfl (by decide +kernel) ⟨Nat.le_of_ble_eq_true rfl, Nat.le_of_ble_eq_true rfl⟩) ⟨fun a U g mk q => by obtain ⟨q0, q1, qP, qK, qD⟩ := q; exact ⟨q0, q1, qP, va_K.moved (u := U) (U := U.calling g mk a) (Vm.Alike.refl U.vm) qK, qD⟩, va_recv hK hPc (ci := 4) (q0 := 0) rfl rfl, fun U hU hW => ⟨rfl, by rw [hU], by rw [hU]; exact hPc, va_K.moved hW.alike hK, hDc.weaken (fun _ _ _ _ => trivial)⟩⟩ rfl rfl hl.1 rfl (lv_room (Nat.le_of_ble_eq_true rfl)) dX4_weigh_2 ⟨Nat.le_of_ble_eq_true rfl, Nat.le_of_ble_eq_true rfl⟩) hS (fun q _ h => hFc q h) hFc (fun u_2 t H1 locs ht hvm hw hB hz1 hk1 hS => ?_)
  obtain ⟨hP1, hD1⟩ := hB
  rw [ht] at hP1
  obtain ⟨hP, hD⟩ := va_join (wr := []) (w1 := [(x, .inr (4, [.ref g, .ref mr, .ref tb, .ref lo, .ref g3, .ref gr, .ref wi])), (g, .inr (0, [.ref w, .ref d, .int 1, .int 0]))]) hP hD [0, 1] [] rfl rfl (by decide) (by decide) hk1 hFc hP1 hD1
  generalize H1 = H at hP hS ⊢
  have hP : va_P (dC, dI) vwCl [(x, .inr (4, [.ref g, .ref mr, .ref tb, .ref lo, .ref g3, .ref gr, .ref wi])), (g, .inr (0, [.ref w, .ref d, .int 1, .int 0]))] H := hP
  have hD : va_D A [(x, .inr (4, [.ref g, .ref mr, .ref tb, .ref lo, .ref g3, .ref gr, .ref wi])), (g, .inr (0, [.ref w, .ref d, .int 1, .int 0]))] := hD
  refine lv_aload_n hx hb dX4_weigh_5 rfl (lv_at hl 0 rfl) ?_
  refine lv_iload_n hx hb dX4_weigh_6 rfl (lv_at hl 2 rfl) ?_
  have hPc := hP.sub (ws' := [(x, .inr (4, [.ref g, .ref mr, .ref tb, .ref lo, .ref g3, .ref gr, .ref wi])), (g, .inr (0, [.ref w, .ref d, .int 1, .int 0]))]) [0, 1] rfl
  have hDc := hD.sub (ws' := [(x, .inr (4, [.ref g, .ref mr, .ref tb, .ref lo, .ref g3, .ref gr, .ref wi])), (g, .inr (0, [.ref w, .ref d, .int 1, .int 0]))]) [0, 1] (by decide) rfl
  have hFc := va_free (wc := [(x, .inr (4, [.ref g, .ref mr, .ref tb, .ref lo, .ref g3, .ref gr, .ref wi])), (g, .inr (0, [.ref w, .ref d, .int 1, .int 0]))]) hD hS hA [0, 1] rfl
  refine va_callv (va_runV (As := [.int 0]) (rest := []) ⟨hx, hb, hml, hown, hts⟩ (c_X4_requireNode l dC dI cI cJ x g mr tb lo g3 gr wi w d H.size) (cwV 1 hts gX4_weigh_X4_requireNode rfl rfl rfl (by decide +kernel) ⟨Nat.le_of_ble_eq_true rfl, Nat.le_of_ble_eq_true rfl⟩) ⟨fun a U g mk q => by obtain ⟨q0, q1, qP, qK, qD⟩ := q; exact ⟨q0, q1, qP, va_K.moved (u := U) (U := U.calling g mk a) (Vm.Alike.refl U.vm) qK, qD⟩, va_recv hK hPc (ci := 4) (q0 := 0) rfl rfl, fun U hU hW => ⟨rfl, by rw [hU], by rw [hU]; exact hPc, va_K.moved hW.alike hK, hDc.weaken (fun _ _ _ _ => trivial)⟩⟩ rfl rfl hl.1 rfl (lv_room (Nat.le_of_ble_eq_true rfl)) dX4_weigh_7 ⟨Nat.le_of_ble_eq_true rfl, Nat.le_of_ble_eq_true rfl⟩) hS (fun q _ h => hFc q h) hFc (fun u_4 t H1 locs ht hvm hw hB hz1 hk1 hS => ?_)
  obtain ⟨hP1, hD1⟩ := hB
  rw [ht] at hP1
  obtain ⟨hP, hD⟩ := va_join (wr := []) (w1 := [(x, .inr (4, [.ref g, .ref mr, .ref tb, .ref lo, .ref g3, .ref gr, .ref wi])), (g, .inr (0, [.ref w, .ref d, .int 1, .int 0]))]) hP hD [0, 1] [] rfl rfl (by decide) (by decide) hk1 hFc hP1 hD1
  generalize H1 = H at hP hS ⊢
  have hP : va_P (dC, dI) vwCl [(x, .inr (4, [.ref g, .ref mr, .ref tb, .ref lo, .ref g3, .ref gr, .ref wi])), (g, .inr (0, [.ref w, .ref d, .int 1, .int 0]))] H := hP
  have hD : va_D A [(x, .inr (4, [.ref g, .ref mr, .ref tb, .ref lo, .ref g3, .ref gr, .ref wi])), (g, .inr (0, [.ref w, .ref d, .int 1, .int 0]))] := hD
  refine lv_iload_n hx hb dX4_weigh_10 rfl (lv_at hl 3 rfl) ?_
  refine lv_if_ge (tgt := 24) hx hb dX4_weigh_11 (by decide) (fun c_5 => ?_) (fun c_5 => ?_)
  · exact absurd c_5 (Int32.not_le.mpr hwn)
  obtain ⟨sa9, hstr9⟩ := hX.2.2.2.2 (67, "a weight is not below 0") (List.mem_of_getElem? (i := 1) rfl)
  have hat9 : ∀ w ∈ vx_atS RX4 51 "java/lang/IllegalArgumentException" ["java/lang/RuntimeException", "java/lang/Exception"], w.before _ s = true := vx_hat (B := vzB) (fun w h => hts w (List.mem_cons_of_mem _ (List.mem_append_left _ (List.mem_append_right _ h)))) (by decide +kernel) (fun w h => vz_bad w h (hX.2.2.1 w h))
  exact vx_throwS hx hb hno (own := RX4) (cls := "java/lang/IllegalArgumentException") (text := "a weight is not below 0") (names := ["java/lang/RuntimeException", "java/lang/Exception"]) (sa := sa9) hown (by decide +kernel) (by decide +kernel) k_0 k_1 hstr9 hat9 (by decide +kernel) hX.1 hX.2.1 hS (by rw [hml]; exact hl.1) dX4_weigh_14 dX4_weigh_17 dX4_weigh_18 dX4_weigh_20 dX4_weigh_23 (fun x h => (htab x h).elim) (Nat.le_of_ble_eq_true rfl) (Nat.le_of_ble_eq_true rfl) (Nat.le_of_ble_eq_true rfl) (Nat.le_of_ble_eq_true rfl) hlocks (fun t9 _ hz9 hk9 => ⟨(), trivial, rfl, Nat.le_trans hS.1 hz9, fun q h1 h2 => (hk9 q (Nat.lt_of_lt_of_le h1 hS.1)).trans (hS.2.1 q h1 h2)⟩) hS.2.2 (Nat.le_of_ble_eq_true rfl) (Nat.le_of_ble_eq_true rfl)
set_option maxHeartbeats 4000000 in
set_option maxRecDepth 100000 in
theorem c_X4_weigh_b4 (l : Launch) (hno : l.stackTraces = false) (dC : Nat → ClassId) (dI : Nat → Nat → Nat) (cI cJ : ClassId) (x g mr tb lo g3 gr wi w d : Nat) (sz : Nat) (w9 : Int32) (hw0 : ¬ w9 < 0) (hw2 : ¬ lg_cmp (0 + w9.toInt64) 536870912 < 0) : vx_Met l yX4_weigh wsX4_weigh ({ frames := 6, cells := 1, slots := 6, locals := 82 }) (va_Pc [.ref x, .int 0, .int 0, .int w9] (pPreX dC dI cI cJ sz [(x, .inr (4, [.ref g, .ref mr, .ref tb, .ref lo, .ref g3, .ref gr, .ref wi])), (g, .inr (0, [.ref w, .ref d, .int 1, .int 0])), (w, .inl (cI, 1600, .inl Zi))])) (va_Qi (fun (_ : Int32) (_ : Unit) => False) (fun _ _ => True) (va_A [(x, .inr (4, [.ref g, .ref mr, .ref tb, .ref lo, .ref g3, .ref gr, .ref wi])), (g, .inr (0, [.ref w, .ref d, .int 1, .int 0])), (w, .inl (cI, 1600, .inl Zi))] sz)) (vx_X (fun _ : Unit => True) (fun E _ _ => E = "java/lang/IllegalArgumentException") (va_A [(x, .inr (4, [.ref g, .ref mr, .ref tb, .ref lo, .ref g3, .ref gr, .ref wi])), (g, .inr (0, [.ref w, .ref d, .int 1, .int 0])), (w, .inl (cI, 1600, .inl Zi))] sz)) 1 6 (va_A [(x, .inr (4, [.ref g, .ref mr, .ref tb, .ref lo, .ref g3, .ref gr, .ref wi])), (g, .inr (0, [.ref w, .ref d, .int 1, .int 0])), (w, .inl (cI, 1600, .inl Zi))] sz) := by
  refine vx_ofW (cc := cX4_weigh) (maxL := 5) (ret := (some .int)) (by decide) rfl ?_
  intro p e s m args below meth c s₁ B hml htab hv
  obtain ⟨rfl, hsz, hP, hK, hD0, hX⟩ := hv
  have hx := B.exec
  have hb := B.bytes
  have hr := B.returns
  have hts := atoms_spec (ws := wsX4_weigh) B.pre
  have hown : s.vm.findClass RX4 = some m.cls := findClass_of_methodNamed B.named
  have hlocks := B.notSynchronized
  subst hsz
  have hD := hD0.self (sz := s.heap.size)
  generalize hAe : va_A [(x, .inr (4, [.ref g, .ref mr, .ref tb, .ref lo, .ref g3, .ref gr, .ref wi])), (g, .inr (0, [.ref w, .ref d, .int 1, .int 0])), (w, .inl (cI, 1600, .inl Zi))] s.heap.size = A at hD hX ⊢
  have hA : ∀ q : Nat, s.heap.size ≤ q → A q := fun q h => by rw [← hAe]; exact Or.inr h
  have hS : va_S A s.heap s.heap [] := va_S.rf
  have hP : va_P (dC, dI) vwCl [(x, .inr (4, [.ref g, .ref mr, .ref tb, .ref lo, .ref g3, .ref gr, .ref wi])), (g, .inr (0, [.ref w, .ref d, .int 1, .int 0])), (w, .inl (cI, 1600, .inl Zi))] s.heap := hP
  have hl := lv_entry ([.ref x, .int 0, .int 0, .int w9]) (n := 5) (Nat.le_of_ble_eq_true rfl)
  rw [lg_entry_eq]
  generalize (lg_sl ([.ref x, .int 0, .int 0, .int w9]) ++ List.replicate (5 - (lg_sl ([.ref x, .int 0, .int 0, .int w9])).length) Slot.unset).toArray = ls at hl ⊢
  have hl : lv_has ls 5 [(0, .ref x), (1, .int 0), (2, .int 0), (3, .int w9)] := hl
  have i_0 : ∀ w ∈ wsX00, w ∈ wsX4_weigh := by decide +kernel
  have i_4 : ∀ w ∈ wsX40, w ∈ wsX4_weigh := by decide +kernel
  have k_0 := hts (.fieldLink RX4 10 "CommunityLevels" "told" "LCommunityLevels$Graph;") (by decide +kernel)
  have k_1 := hts (.fieldLink RX4 73 "CommunityLevels$Graph" "total" "I") (by decide +kernel)
  have k_2 := hts (.constantLong RX4 77 (536870912)) (by decide +kernel)
  have k_3 := hts (.classLink RX4 47 "java/lang/IllegalArgumentException") (by decide +kernel)
  have k_4 := hts (.initialized "java/lang/IllegalArgumentException") (by decide +kernel)
  refine lv_aload_n hx hb dX4_weigh_0 rfl (lv_at hl 0 rfl) ?_
  refine lv_iload_n hx hb dX4_weigh_1 rfl (lv_at hl 1 rfl) ?_
  have hPc := hP.sub (ws' := [(x, .inr (4, [.ref g, .ref mr, .ref tb, .ref lo, .ref g3, .ref gr, .ref wi])), (g, .inr (0, [.ref w, .ref d, .int 1, .int 0]))]) [0, 1] rfl
  have hDc := hD.sub (ws' := [(x, .inr (4, [.ref g, .ref mr, .ref tb, .ref lo, .ref g3, .ref gr, .ref wi])), (g, .inr (0, [.ref w, .ref d, .int 1, .int 0]))]) [0, 1] (by decide) rfl
  have hFc := va_free (wc := [(x, .inr (4, [.ref g, .ref mr, .ref tb, .ref lo, .ref g3, .ref gr, .ref wi])), (g, .inr (0, [.ref w, .ref d, .int 1, .int 0]))]) hD hS hA [0, 1] rfl
  refine va_callv (va_runV (As := [.int 0]) (rest := []) ⟨hx, hb, hml, hown, hts⟩ (c_X4_requireNode l dC dI cI cJ x g mr tb lo g3 gr wi w d s.heap.size) (cwV 1 hts gX4_weigh_X4_requireNode rfl rfl rfl (by decide +kernel) ⟨Nat.le_of_ble_eq_true rfl, Nat.le_of_ble_eq_true rfl⟩) ⟨fun a U g mk q => by obtain ⟨q0, q1, qP, qK, qD⟩ := q; exact ⟨q0, q1, qP, va_K.moved (u := U) (U := U.calling g mk a) (Vm.Alike.refl U.vm) qK, qD⟩, va_recv hK hPc (ci := 4) (q0 := 0) rfl rfl, fun U hU hW => ⟨rfl, by rw [hU], by rw [hU]; exact hPc, va_K.moved hW.alike hK, hDc.weaken (fun _ _ _ _ => trivial)⟩⟩ rfl rfl hl.1 rfl (lv_room (Nat.le_of_ble_eq_true rfl)) dX4_weigh_2 ⟨Nat.le_of_ble_eq_true rfl, Nat.le_of_ble_eq_true rfl⟩) hS (fun q _ h => hFc q h) hFc (fun u_2 t H1 locs ht hvm hw hB hz1 hk1 hS => ?_)
  obtain ⟨hP1, hD1⟩ := hB
  rw [ht] at hP1
  obtain ⟨hP, hD⟩ := va_join (wr := [(w, .inl (cI, 1600, .inl Zi))]) (w1 := [(x, .inr (4, [.ref g, .ref mr, .ref tb, .ref lo, .ref g3, .ref gr, .ref wi])), (g, .inr (0, [.ref w, .ref d, .int 1, .int 0]))]) hP hD [0, 1] [2] rfl rfl (by decide) (by decide) hk1 hFc hP1 hD1
  generalize H1 = H at hP hS ⊢
  have hP : va_P (dC, dI) vwCl [(w, .inl (cI, 1600, .inl Zi)), (x, .inr (4, [.ref g, .ref mr, .ref tb, .ref lo, .ref g3, .ref gr, .ref wi])), (g, .inr (0, [.ref w, .ref d, .int 1, .int 0]))] H := hP
  have hD : va_D A [(w, .inl (cI, 1600, .inl Zi)), (x, .inr (4, [.ref g, .ref mr, .ref tb, .ref lo, .ref g3, .ref gr, .ref wi])), (g, .inr (0, [.ref w, .ref d, .int 1, .int 0]))] := hD
  refine lv_aload_n hx hb dX4_weigh_5 rfl (lv_at hl 0 rfl) ?_
  refine lv_iload_n hx hb dX4_weigh_6 rfl (lv_at hl 2 rfl) ?_
  have hPc := hP.sub (ws' := [(x, .inr (4, [.ref g, .ref mr, .ref tb, .ref lo, .ref g3, .ref gr, .ref wi])), (g, .inr (0, [.ref w, .ref d, .int 1, .int 0]))]) [1, 2] rfl
  have hDc := hD.sub (ws' := [(x, .inr (4, [.ref g, .ref mr, .ref tb, .ref lo, .ref g3, .ref gr, .ref wi])), (g, .inr (0, [.ref w, .ref d, .int 1, .int 0]))]) [1, 2] (by decide) rfl
  have hFc := va_free (wc := [(x, .inr (4, [.ref g, .ref mr, .ref tb, .ref lo, .ref g3, .ref gr, .ref wi])), (g, .inr (0, [.ref w, .ref d, .int 1, .int 0]))]) hD hS hA [1, 2] rfl
  refine va_callv (va_runV (As := [.int 0]) (rest := []) ⟨hx, hb, hml, hown, hts⟩ (c_X4_requireNode l dC dI cI cJ x g mr tb lo g3 gr wi w d H.size) (cwV 1 hts gX4_weigh_X4_requireNode rfl rfl rfl (by decide +kernel) ⟨Nat.le_of_ble_eq_true rfl, Nat.le_of_ble_eq_true rfl⟩) ⟨fun a U g mk q => by obtain ⟨q0, q1, qP, qK, qD⟩ := q; exact ⟨q0, q1, qP, va_K.moved (u := U) (U := U.calling g mk a) (Vm.Alike.refl U.vm) qK, qD⟩, va_recv hK hPc (ci := 4) (q0 := 0) rfl rfl, fun U hU hW => ⟨rfl, by rw [hU], by rw [hU]; exact hPc, va_K.moved hW.alike hK, hDc.weaken (fun _ _ _ _ => trivial)⟩⟩ rfl rfl hl.1 rfl (lv_room (Nat.le_of_ble_eq_true rfl)) dX4_weigh_7 ⟨Nat.le_of_ble_eq_true rfl, Nat.le_of_ble_eq_true rfl⟩) hS (fun q _ h => hFc q h) hFc (fun u_4 t H1 locs ht hvm hw hB hz1 hk1 hS => ?_)
  obtain ⟨hP1, hD1⟩ := hB
  rw [ht] at hP1
  obtain ⟨hP, hD⟩ := va_join (wr := [(w, .inl (cI, 1600, .inl Zi))]) (w1 := [(x, .inr (4, [.ref g, .ref mr, .ref tb, .ref lo, .ref g3, .ref gr, .ref wi])), (g, .inr (0, [.ref w, .ref d, .int 1, .int 0]))]) hP hD [1, 2] [0] rfl rfl (by decide) (by decide) hk1 hFc hP1 hD1
  generalize H1 = H at hP hS ⊢
  have hP : va_P (dC, dI) vwCl [(w, .inl (cI, 1600, .inl Zi)), (x, .inr (4, [.ref g, .ref mr, .ref tb, .ref lo, .ref g3, .ref gr, .ref wi])), (g, .inr (0, [.ref w, .ref d, .int 1, .int 0]))] H := hP
  have hD : va_D A [(w, .inl (cI, 1600, .inl Zi)), (x, .inr (4, [.ref g, .ref mr, .ref tb, .ref lo, .ref g3, .ref gr, .ref wi])), (g, .inr (0, [.ref w, .ref d, .int 1, .int 0]))] := hD
  refine lv_iload_n hx hb dX4_weigh_10 rfl (lv_at hl 3 rfl) ?_
  refine lv_if_ge (tgt := 24) hx hb dX4_weigh_11 (by decide) (fun c_5 => ?_) (fun c_5 => ?_)
  rotate_left
  · exact absurd (Int32.not_lt.mp hw0) c_5
  refine lv_aload_n hx hb dX4_weigh_24 rfl (lv_at hl 0 rfl) ?_
  refine va_get (D := (dC, dI)) (ci := 4) (v := .ref g) (C := RX4) (T := TX4) (N := 7) hx hb hts i_4 hown hK hP 1 rfl rfl 0 (by decide) k_0 (fun _ h9 => h9) rfl dX4_weigh_25 ?_
  refine lv_iload_n hx hb dX4_weigh_28 rfl (lv_at hl 1 rfl) ?_
  refine lv_iload_n hx hb dX4_weigh_29 rfl (lv_at hl 2 rfl) ?_
  have hPc := hP.sub (ws' := [(g, .inr (0, [.ref w, .ref d, .int 1, .int 0])), (w, .inl (cI, 1600, .inl Zi))]) [2, 0] rfl
  have hDc := hD.sub (ws' := [(g, .inr (0, [.ref w, .ref d, .int 1, .int 0])), (w, .inl (cI, 1600, .inl Zi))]) [2, 0] (by decide) rfl
  have hFc := va_free (wc := [(g, .inr (0, [.ref w, .ref d, .int 1, .int 0])), (w, .inl (cI, 1600, .inl Zi))]) hD hS hA [2, 0] rfl
  refine va_calli (va_runV (As := [.int 0, .int 0]) (rest := []) ⟨hx, hb, hml, hown, hts⟩ (c_X0_between l dC dI cI cJ g w d H.size Zi 1 0) (cwV 2 hts gX4_weigh_X0_between rfl rfl rfl (by decide +kernel) ⟨Nat.le_of_ble_eq_true rfl, Nat.le_of_ble_eq_true rfl⟩) ⟨fun a U g mk q => by obtain ⟨q0, q1, qP, qK, qD⟩ := q; exact ⟨q0, q1, qP, va_K.moved (u := U) (U := U.calling g mk a) (Vm.Alike.refl U.vm) qK, qD⟩, va_recv hK hPc (ci := 0) (q0 := 0) rfl rfl, fun U hU hW => ⟨rfl, by rw [hU], by rw [hU]; exact hPc, va_K.moved hW.alike hK, hDc.weaken (fun _ _ _ _ => trivial)⟩⟩ rfl rfl hl.1 rfl (lv_room (Nat.le_of_ble_eq_true rfl)) dX4_weigh_30 ⟨Nat.le_of_ble_eq_true rfl, Nat.le_of_ble_eq_true rfl⟩) hS (fun q _ h => hFc q h) hFc (fun r_6 u_7 t H1 locs ht hvm hw hB hz1 hk1 hS => ?_)
  obtain ⟨hP1, hD1⟩ := hB
  rw [ht] at hP1
  obtain ⟨hP, hD⟩ := va_join (wr := [(x, .inr (4, [.ref g, .ref mr, .ref tb, .ref lo, .ref g3, .ref gr, .ref wi]))]) (w1 := [(g, .inr (0, [.ref w, .ref d, .int 1, .int 0])), (w, .inl (cI, 1600, .inl Zi))]) hP hD [2, 0] [1] rfl rfl (by decide) (by decide) hk1 hFc hP1 hD1
  generalize H1 = H at hP hS ⊢
  have hP : va_P (dC, dI) vwCl [(x, .inr (4, [.ref g, .ref mr, .ref tb, .ref lo, .ref g3, .ref gr, .ref wi])), (g, .inr (0, [.ref w, .ref d, .int 1, .int 0])), (w, .inl (cI, 1600, .inl Zi))] H := hP
  have hD : va_D A [(x, .inr (4, [.ref g, .ref mr, .ref tb, .ref lo, .ref g3, .ref gr, .ref wi])), (g, .inr (0, [.ref w, .ref d, .int 1, .int 0])), (w, .inl (cI, 1600, .inl Zi))] := hD
  obtain rfl : r_6 = 0 := hw
  refine lv_istore (lv' := [(4, .int 0), (0, .ref x), (1, .int 0), (2, .int 0), (3, .int w9)]) hx hb dX4_weigh_33 hl (by decide) rfl (fun ls hl => ?_)
  refine lv_aload_n hx hb dX4_weigh_35 rfl (lv_at hl 1 rfl) ?_
  refine va_get (D := (dC, dI)) (ci := 4) (v := .ref g) (C := RX4) (T := TX4) (N := 7) hx hb hts i_4 hown hK hP 0 rfl rfl 0 (by decide) k_0 (fun _ h9 => h9) rfl dX4_weigh_36 ?_
  refine va_get (D := (dC, dI)) (ci := 0) (v := .int 0) (C := RX0) (T := TX0) (N := 4) hx hb hts i_0 hown hK hP 1 rfl rfl 3 (by decide) k_1 (fun _ h9 => h9) rfl dX4_weigh_39 ?_
  refine lv_i2l (v := 0) hx hb dX4_weigh_42 (by decide) ?_
  refine lv_iload hx hb dX4_weigh_43 (lv_at hl 0 rfl) ?_
  refine lv_i2l (v := 0) hx hb dX4_weigh_45 (by decide) ?_
  refine lv_lsub hx hb dX4_weigh_46 ?_
  refine lc_l (v := 0) (by first | rfl | decide) ?_
  refine lv_iload_n hx hb dX4_weigh_47 rfl (lv_at hl 4 rfl) ?_
  refine lv_i2l (v := w9.toInt64) hx hb dX4_weigh_48 rfl ?_
  refine lv_ladd hx hb dX4_weigh_49 ?_
  refine lv_ldc2 (own := RX4) (v := 536870912) hx hb hown k_2 dX4_weigh_50 ?_
  refine W.lcmp hx hb dX4_weigh_53 ?_
  refine lv_if_lt (tgt := 67) hx hb dX4_weigh_54 (by decide) (fun c_8 => ?_) (fun c_8 => ?_)
  · exact absurd c_8 hw2
  obtain ⟨sa9, hstr9⟩ := hX.2.2.2.2 (79, "the sum of all weights is below 2^29") (List.mem_of_getElem? (i := 2) rfl)
  have hat9 : ∀ w ∈ vx_atS RX4 51 "java/lang/IllegalArgumentException" ["java/lang/RuntimeException", "java/lang/Exception"], w.before _ s = true := vx_hat (B := vzB) (fun w h => hts w (List.mem_cons_of_mem _ (List.mem_append_left _ (List.mem_append_right _ h)))) (by decide +kernel) (fun w h => vz_bad w h (hX.2.2.1 w h))
  exact vx_throwS hx hb hno (own := RX4) (cls := "java/lang/IllegalArgumentException") (text := "the sum of all weights is below 2^29") (names := ["java/lang/RuntimeException", "java/lang/Exception"]) (sa := sa9) hown (by decide +kernel) (by decide +kernel) k_3 k_4 hstr9 hat9 (by decide +kernel) hX.1 hX.2.1 hS (by rw [hml]; exact hl.1) dX4_weigh_57 dX4_weigh_60 dX4_weigh_61 dX4_weigh_63 dX4_weigh_66 (fun x h => (htab x h).elim) (Nat.le_of_ble_eq_true rfl) (Nat.le_of_ble_eq_true rfl) (Nat.le_of_ble_eq_true rfl) (Nat.le_of_ble_eq_true rfl) hlocks (fun t9 _ hz9 hk9 => ⟨(), trivial, rfl, Nat.le_trans hS.1 hz9, fun q h1 h2 => (hk9 q (Nat.lt_of_lt_of_le h1 hS.1)).trans (hS.2.1 q h1 h2)⟩) hS.2.2 (Nat.le_of_ble_eq_true rfl) (Nat.le_of_ble_eq_true rfl)
set_option maxHeartbeats 4000000 in
set_option maxRecDepth 100000 in
theorem c_X4_level_bad (l : Launch) (hno : l.stackTraces = false) (dC : Nat → ClassId) (dI : Nat → Nat → Nat) (cI cJ : ClassId) (x g mr tb lo g3 gr wi tf th tc : Nat) (sz : Nat) (n : Int32) (n1 : Int32) : vx_Met l yX4_level wsX4_level ({ frames := 7, cells := 1, slots := 6, locals := 103 }) (va_Pc [.ref x, .int n, .int n1] (pPreX dC dI cI cJ sz [(x, .inr (4, [.ref g, .ref mr, .ref tb, .ref lo, .ref g3, .ref gr, .ref wi])), (tb, .inr (2, [.ref tf, .ref th, .ref tc, .int 0]))])) (va_Qi (fun (_ : Int32) (_ : Unit) => False) (fun _ _ => True) (va_A [(x, .inr (4, [.ref g, .ref mr, .ref tb, .ref lo, .ref g3, .ref gr, .ref wi])), (tb, .inr (2, [.ref tf, .ref th, .ref tc, .int 0]))] sz)) (vx_X (fun _ : Unit => True) (fun E _ _ => E = "java/lang/IndexOutOfBoundsException") (va_A [(x, .inr (4, [.ref g, .ref mr, .ref tb, .ref lo, .ref g3, .ref gr, .ref wi])), (tb, .inr (2, [.ref tf, .ref th, .ref tc, .int 0]))] sz)) 1 6 (va_A [(x, .inr (4, [.ref g, .ref mr, .ref tb, .ref lo, .ref g3, .ref gr, .ref wi])), (tb, .inr (2, [.ref tf, .ref th, .ref tc, .int 0]))] sz) := by
  refine vx_ofW (cc := cX4_level) (maxL := 3) (ret := (some .int)) (by decide) rfl ?_
  intro p e s m args below meth c s₁ B hml htab hv
  obtain ⟨rfl, hsz, hP, hK, hD0, hX⟩ := hv
  have hx := B.exec
  have hb := B.bytes
  have hr := B.returns
  have hts := atoms_spec (ws := wsX4_level) B.pre
  have hown : s.vm.findClass RX4 = some m.cls := findClass_of_methodNamed B.named
  have hlocks := B.notSynchronized
  subst hsz
  have hD := hD0.self (sz := s.heap.size)
  generalize hAe : va_A [(x, .inr (4, [.ref g, .ref mr, .ref tb, .ref lo, .ref g3, .ref gr, .ref wi])), (tb, .inr (2, [.ref tf, .ref th, .ref tc, .int 0]))] s.heap.size = A at hD hX ⊢
  have hA : ∀ q : Nat, s.heap.size ≤ q → A q := fun q h => by rw [← hAe]; exact Or.inr h
  have hS : va_S A s.heap s.heap [] := va_S.rf
  have hP : va_P (dC, dI) vwCl [(x, .inr (4, [.ref g, .ref mr, .ref tb, .ref lo, .ref g3, .ref gr, .ref wi])), (tb, .inr (2, [.ref tf, .ref th, .ref tc, .int 0]))] s.heap := hP
  have hl := lv_entry ([.ref x, .int n, .int n1]) (n := 3) (Nat.le_of_ble_eq_true rfl)
  rw [lg_entry_eq]
  generalize (lg_sl ([.ref x, .int n, .int n1]) ++ List.replicate (3 - (lg_sl ([.ref x, .int n, .int n1])).length) Slot.unset).toArray = ls at hl ⊢
  have hl : lv_has ls 3 [(0, .ref x), (1, .int n), (2, .int n1)] := hl
  refine lv_aload_n hx hb dX4_level_0 rfl (lv_at hl 0 rfl) ?_
  refine lv_iload_n hx hb dX4_level_1 rfl (lv_at hl 1 rfl) ?_
  have hPc := hP.sub (ws' := [(x, .inr (4, [.ref g, .ref mr, .ref tb, .ref lo, .ref g3, .ref gr, .ref wi])), (tb, .inr (2, [.ref tf, .ref th, .ref tc, .int 0]))]) [0, 1] rfl
  have hDc := hD.sub (ws' := [(x, .inr (4, [.ref g, .ref mr, .ref tb, .ref lo, .ref g3, .ref gr, .ref wi])), (tb, .inr (2, [.ref tf, .ref th, .ref tc, .int 0]))]) [0, 1] (by decide) rfl
  have hFc := va_free (wc := [(x, .inr (4, [.ref g, .ref mr, .ref tb, .ref lo, .ref g3, .ref gr, .ref wi])), (tb, .inr (2, [.ref tf, .ref th, .ref tc, .int 0]))]) hD hS hA [0, 1] rfl
  refine vx_callv (vx_runV (As := [.int n]) (rest := []) ⟨hx, hb, hml, hown, hts⟩ (c_X4_requireLevel_bad l hno dC dI cI cJ x g mr tb lo g3 gr wi tf th tc s.heap.size n) (cwV 1 hts gX4_level_X4_requireLevel rfl rfl rfl (by decide +kernel) ⟨Nat.le_of_ble_eq_true rfl, Nat.le_of_ble_eq_true rfl⟩) ⟨fun a U g mk q => by obtain ⟨q0, q1, qP, qK, qD, qX⟩ := q; exact ⟨q0, q1, qP, va_K.moved (u := U) (U := U.calling g mk a) (Vm.Alike.refl U.vm) qK, qD, qX.moved (State.WarmedH.refl U)⟩, va_recv hK hPc (ci := 4) (q0 := 0) rfl rfl, fun U hU hW => ⟨rfl, by rw [hU], by rw [hU]; exact hPc, va_K.moved hW.alike hK, hDc.weaken (fun _ _ _ _ => trivial), by rw [hU]; exact ((hX.kept hS.2.1).narrow hFc).moved hW⟩⟩ rfl rfl hl.1 rfl (lv_room (Nat.le_of_ble_eq_true rfl)) dX4_level_2 ⟨Nat.le_of_ble_eq_true rfl, Nat.le_of_ble_eq_true rfl⟩) hS (fun q _ h => hFc q h) hFc (fun q _ h => hFc q h) (fun E9 ce9 q9 u9 t H1 locs ht hvm hw hB hz1 hk1 hS hce hcv hcl => ?_) (fun u_2 t H1 locs ht hvm hw hB hz1 hk1 hS => ?_)
  · skip
    refine vx_out (fun x h => (htab x h).elim) hlocks hce hcv hcl (fun t9 ht9 _ => ⟨(), trivial, hB, hS.F ht9⟩) hS.2.2 (Nat.le_of_ble_eq_true rfl) (Nat.le_of_ble_eq_true rfl)
  · exact hw.elim
set_option maxHeartbeats 4000000 in
set_option maxRecDepth 100000 in
theorem c_X4_community_bad (l : Launch) (hno : l.stackTraces = false) (dC : Nat → ClassId) (dI : Nat → Nat → Nat) (cI cJ : ClassId) (x g mr tb lo g3 gr wi tf th tc : Nat) (sz : Nat) (n : Int32) (n1 : Int32) : vx_Met l yX4_community wsX4_community ({ frames := 7, cells := 1, slots := 6, locals := 103 }) (va_Pc [.ref x, .int n, .int n1] (pPreX dC dI cI cJ sz [(x, .inr (4, [.ref g, .ref mr, .ref tb, .ref lo, .ref g3, .ref gr, .ref wi])), (tb, .inr (2, [.ref tf, .ref th, .ref tc, .int 0]))])) (va_Qi (fun (_ : Int32) (_ : Unit) => False) (fun _ _ => True) (va_A [(x, .inr (4, [.ref g, .ref mr, .ref tb, .ref lo, .ref g3, .ref gr, .ref wi])), (tb, .inr (2, [.ref tf, .ref th, .ref tc, .int 0]))] sz)) (vx_X (fun _ : Unit => True) (fun E _ _ => E = "java/lang/IndexOutOfBoundsException") (va_A [(x, .inr (4, [.ref g, .ref mr, .ref tb, .ref lo, .ref g3, .ref gr, .ref wi])), (tb, .inr (2, [.ref tf, .ref th, .ref tc, .int 0]))] sz)) 1 6 (va_A [(x, .inr (4, [.ref g, .ref mr, .ref tb, .ref lo, .ref g3, .ref gr, .ref wi])), (tb, .inr (2, [.ref tf, .ref th, .ref tc, .int 0]))] sz) := by
  refine vx_ofW (cc := cX4_community) (maxL := 3) (ret := (some .int)) (by decide) rfl ?_
  intro p e s m args below meth c s₁ B hml htab hv
  obtain ⟨rfl, hsz, hP, hK, hD0, hX⟩ := hv
  have hx := B.exec
  have hb := B.bytes
  have hr := B.returns
  have hts := atoms_spec (ws := wsX4_community) B.pre
  have hown : s.vm.findClass RX4 = some m.cls := findClass_of_methodNamed B.named
  have hlocks := B.notSynchronized
  subst hsz
  have hD := hD0.self (sz := s.heap.size)
  generalize hAe : va_A [(x, .inr (4, [.ref g, .ref mr, .ref tb, .ref lo, .ref g3, .ref gr, .ref wi])), (tb, .inr (2, [.ref tf, .ref th, .ref tc, .int 0]))] s.heap.size = A at hD hX ⊢
  have hA : ∀ q : Nat, s.heap.size ≤ q → A q := fun q h => by rw [← hAe]; exact Or.inr h
  have hS : va_S A s.heap s.heap [] := va_S.rf
  have hP : va_P (dC, dI) vwCl [(x, .inr (4, [.ref g, .ref mr, .ref tb, .ref lo, .ref g3, .ref gr, .ref wi])), (tb, .inr (2, [.ref tf, .ref th, .ref tc, .int 0]))] s.heap := hP
  have hl := lv_entry ([.ref x, .int n, .int n1]) (n := 3) (Nat.le_of_ble_eq_true rfl)
  rw [lg_entry_eq]
  generalize (lg_sl ([.ref x, .int n, .int n1]) ++ List.replicate (3 - (lg_sl ([.ref x, .int n, .int n1])).length) Slot.unset).toArray = ls at hl ⊢
  have hl : lv_has ls 3 [(0, .ref x), (1, .int n), (2, .int n1)] := hl
  refine lv_aload_n hx hb dX4_community_0 rfl (lv_at hl 0 rfl) ?_
  refine lv_iload_n hx hb dX4_community_1 rfl (lv_at hl 1 rfl) ?_
  have hPc := hP.sub (ws' := [(x, .inr (4, [.ref g, .ref mr, .ref tb, .ref lo, .ref g3, .ref gr, .ref wi])), (tb, .inr (2, [.ref tf, .ref th, .ref tc, .int 0]))]) [0, 1] rfl
  have hDc := hD.sub (ws' := [(x, .inr (4, [.ref g, .ref mr, .ref tb, .ref lo, .ref g3, .ref gr, .ref wi])), (tb, .inr (2, [.ref tf, .ref th, .ref tc, .int 0]))]) [0, 1] (by decide) rfl
  have hFc := va_free (wc := [(x, .inr (4, [.ref g, .ref mr, .ref tb, .ref lo, .ref g3, .ref gr, .ref wi])), (tb, .inr (2, [.ref tf, .ref th, .ref tc, .int 0]))]) hD hS hA [0, 1] rfl
  refine vx_callv (vx_runV (As := [.int n]) (rest := []) ⟨hx, hb, hml, hown, hts⟩ (c_X4_requireLevel_bad l hno dC dI cI cJ x g mr tb lo g3 gr wi tf th tc s.heap.size n) (cwV 1 hts gX4_community_X4_requireLevel rfl rfl rfl (by decide +kernel) ⟨Nat.le_of_ble_eq_true rfl, Nat.le_of_ble_eq_true rfl⟩) ⟨fun a U g mk q => by obtain ⟨q0, q1, qP, qK, qD, qX⟩ := q; exact ⟨q0, q1, qP, va_K.moved (u := U) (U := U.calling g mk a) (Vm.Alike.refl U.vm) qK, qD, qX.moved (State.WarmedH.refl U)⟩, va_recv hK hPc (ci := 4) (q0 := 0) rfl rfl, fun U hU hW => ⟨rfl, by rw [hU], by rw [hU]; exact hPc, va_K.moved hW.alike hK, hDc.weaken (fun _ _ _ _ => trivial), by rw [hU]; exact ((hX.kept hS.2.1).narrow hFc).moved hW⟩⟩ rfl rfl hl.1 rfl (lv_room (Nat.le_of_ble_eq_true rfl)) dX4_community_2 ⟨Nat.le_of_ble_eq_true rfl, Nat.le_of_ble_eq_true rfl⟩) hS (fun q _ h => hFc q h) hFc (fun q _ h => hFc q h) (fun E9 ce9 q9 u9 t H1 locs ht hvm hw hB hz1 hk1 hS hce hcv hcl => ?_) (fun u_2 t H1 locs ht hvm hw hB hz1 hk1 hS => ?_)
  · skip
    refine vx_out (fun x h => (htab x h).elim) hlocks hce hcv hcl (fun t9 ht9 _ => ⟨(), trivial, hB, hS.F ht9⟩) hS.2.2 (Nat.le_of_ble_eq_true rfl) (Nat.le_of_ble_eq_true rfl)
  · exact hw.elim
set_option maxHeartbeats 4000000 in
set_option maxRecDepth 100000 in
theorem c_X4_modularity_bad (l : Launch) (hno : l.stackTraces = false) (dC : Nat → ClassId) (dI : Nat → Nat → Nat) (cI cJ : ClassId) (x g mr tb lo g3 gr wi tf th tc : Nat) (sz : Nat) (n : Int32) : vx_Met l yX4_modularity wsX4_modularity ({ frames := 7, cells := 1, slots := 6, locals := 103 }) (va_Pc [.ref x, .int n] (pPreX dC dI cI cJ sz [(x, .inr (4, [.ref g, .ref mr, .ref tb, .ref lo, .ref g3, .ref gr, .ref wi])), (tb, .inr (2, [.ref tf, .ref th, .ref tc, .int 0]))])) (va_Ql (fun (_ : Int64) (_ : Unit) => False) (fun _ _ => True) (va_A [(x, .inr (4, [.ref g, .ref mr, .ref tb, .ref lo, .ref g3, .ref gr, .ref wi])), (tb, .inr (2, [.ref tf, .ref th, .ref tc, .int 0]))] sz)) (vx_X (fun _ : Unit => True) (fun E _ _ => E = "java/lang/IndexOutOfBoundsException") (va_A [(x, .inr (4, [.ref g, .ref mr, .ref tb, .ref lo, .ref g3, .ref gr, .ref wi])), (tb, .inr (2, [.ref tf, .ref th, .ref tc, .int 0]))] sz)) 1 6 (va_A [(x, .inr (4, [.ref g, .ref mr, .ref tb, .ref lo, .ref g3, .ref gr, .ref wi])), (tb, .inr (2, [.ref tf, .ref th, .ref tc, .int 0]))] sz) := by
  refine vx_ofW (cc := cX4_modularity) (maxL := 2) (ret := (some .long)) (by decide) rfl ?_
  intro p e s m args below meth c s₁ B hml htab hv
  obtain ⟨rfl, hsz, hP, hK, hD0, hX⟩ := hv
  have hx := B.exec
  have hb := B.bytes
  have hr := B.returns
  have hts := atoms_spec (ws := wsX4_modularity) B.pre
  have hown : s.vm.findClass RX4 = some m.cls := findClass_of_methodNamed B.named
  have hlocks := B.notSynchronized
  subst hsz
  have hD := hD0.self (sz := s.heap.size)
  generalize hAe : va_A [(x, .inr (4, [.ref g, .ref mr, .ref tb, .ref lo, .ref g3, .ref gr, .ref wi])), (tb, .inr (2, [.ref tf, .ref th, .ref tc, .int 0]))] s.heap.size = A at hD hX ⊢
  have hA : ∀ q : Nat, s.heap.size ≤ q → A q := fun q h => by rw [← hAe]; exact Or.inr h
  have hS : va_S A s.heap s.heap [] := va_S.rf
  have hP : va_P (dC, dI) vwCl [(x, .inr (4, [.ref g, .ref mr, .ref tb, .ref lo, .ref g3, .ref gr, .ref wi])), (tb, .inr (2, [.ref tf, .ref th, .ref tc, .int 0]))] s.heap := hP
  have hl := lv_entry ([.ref x, .int n]) (n := 2) (Nat.le_of_ble_eq_true rfl)
  rw [lg_entry_eq]
  generalize (lg_sl ([.ref x, .int n]) ++ List.replicate (2 - (lg_sl ([.ref x, .int n])).length) Slot.unset).toArray = ls at hl ⊢
  have hl : lv_has ls 2 [(0, .ref x), (1, .int n)] := hl
  refine lv_aload_n hx hb dX4_modularity_0 rfl (lv_at hl 0 rfl) ?_
  refine lv_iload_n hx hb dX4_modularity_1 rfl (lv_at hl 1 rfl) ?_
  have hPc := hP.sub (ws' := [(x, .inr (4, [.ref g, .ref mr, .ref tb, .ref lo, .ref g3, .ref gr, .ref wi])), (tb, .inr (2, [.ref tf, .ref th, .ref tc, .int 0]))]) [0, 1] rfl
  have hDc := hD.sub (ws' := [(x, .inr (4, [.ref g, .ref mr, .ref tb, .ref lo, .ref g3, .ref gr, .ref wi])), (tb, .inr (2, [.ref tf, .ref th, .ref tc, .int 0]))]) [0, 1] (by decide) rfl
  have hFc := va_free (wc := [(x, .inr (4, [.ref g, .ref mr, .ref tb, .ref lo, .ref g3, .ref gr, .ref wi])), (tb, .inr (2, [.ref tf, .ref th, .ref tc, .int 0]))]) hD hS hA [0, 1] rfl
  refine vx_callv (vx_runV (As := [.int n]) (rest := []) ⟨hx, hb, hml, hown, hts⟩ (c_X4_requireLevel_bad l hno dC dI cI cJ x g mr tb lo g3 gr wi tf th tc s.heap.size n) (cwV 1 hts gX4_modularity_X4_requireLevel rfl rfl rfl (by decide +kernel) ⟨Nat.le_of_ble_eq_true rfl, Nat.le_of_ble_eq_true rfl⟩) ⟨fun a U g mk q => by obtain ⟨q0, q1, qP, qK, qD, qX⟩ := q; exact ⟨q0, q1, qP, va_K.moved (u := U) (U := U.calling g mk a) (Vm.Alike.refl U.vm) qK, qD, qX.moved (State.WarmedH.refl U)⟩, va_recv hK hPc (ci := 4) (q0 := 0) rfl rfl, fun U hU hW => ⟨rfl, by rw [hU], by rw [hU]; exact hPc, va_K.moved hW.alike hK, hDc.weaken (fun _ _ _ _ => trivial), by rw [hU]; exact ((hX.kept hS.2.1).narrow hFc).moved hW⟩⟩ rfl rfl hl.1 rfl (lv_room (Nat.le_of_ble_eq_true rfl)) dX4_modularity_2 ⟨Nat.le_of_ble_eq_true rfl, Nat.le_of_ble_eq_true rfl⟩) hS (fun q _ h => hFc q h) hFc (fun q _ h => hFc q h) (fun E9 ce9 q9 u9 t H1 locs ht hvm hw hB hz1 hk1 hS hce hcv hcl => ?_) (fun u_2 t H1 locs ht hvm hw hB hz1 hk1 hS => ?_)
  · skip
    refine vx_out (fun x h => (htab x h).elim) hlocks hce hcv hcl (fun t9 ht9 _ => ⟨(), trivial, hB, hS.F ht9⟩) hS.2.2 (Nat.le_of_ble_eq_true rfl) (Nat.le_of_ble_eq_true rfl)
  · exact hw.elim
set_option maxHeartbeats 4000000 in
set_option maxRecDepth 100000 in
theorem c_X4_move_bad (l : Launch) (hno : l.stackTraces = false) (dC : Nat → ClassId) (dI : Nat → Nat → Nat) (cI cJ : ClassId) (x g mr tb lo g3 gr wi lf lg : Nat) (sz : Nat) (n : Int32) (n1 : Int32) : vx_Met l yX4_move wsX4_move ({ frames := 7, cells := 1, slots := 6, locals := 103 }) (va_Pc [.ref x, .int n, .int n1] (pPreX dC dI cI cJ sz [(x, .inr (4, [.ref g, .ref mr, .ref tb, .ref lo, .ref g3, .ref gr, .ref wi])), (lo, .inr (3, [.ref lf, .ref lg, .int 0]))])) (va_Qi (fun (_ : Int32) (_ : Unit) => False) (fun _ _ => True) (va_A [(x, .inr (4, [.ref g, .ref mr, .ref tb, .ref lo, .ref g3, .ref gr, .ref wi])), (lo, .inr (3, [.ref lf, .ref lg, .int 0]))] sz)) (vx_X (fun _ : Unit => True) (fun E _ _ => E = "java/lang/IndexOutOfBoundsException") (va_A [(x, .inr (4, [.ref g, .ref mr, .ref tb, .ref lo, .ref g3, .ref gr, .ref wi])), (lo, .inr (3, [.ref lf, .ref lg, .int 0]))] sz)) 1 6 (va_A [(x, .inr (4, [.ref g, .ref mr, .ref tb, .ref lo, .ref g3, .ref gr, .ref wi])), (lo, .inr (3, [.ref lf, .ref lg, .int 0]))] sz) := by
  refine vx_ofW (cc := cX4_move) (maxL := 3) (ret := (some .int)) (by decide) rfl ?_
  intro p e s m args below meth c s₁ B hml htab hv
  obtain ⟨rfl, hsz, hP, hK, hD0, hX⟩ := hv
  have hx := B.exec
  have hb := B.bytes
  have hr := B.returns
  have hts := atoms_spec (ws := wsX4_move) B.pre
  have hown : s.vm.findClass RX4 = some m.cls := findClass_of_methodNamed B.named
  have hlocks := B.notSynchronized
  subst hsz
  have hD := hD0.self (sz := s.heap.size)
  generalize hAe : va_A [(x, .inr (4, [.ref g, .ref mr, .ref tb, .ref lo, .ref g3, .ref gr, .ref wi])), (lo, .inr (3, [.ref lf, .ref lg, .int 0]))] s.heap.size = A at hD hX ⊢
  have hA : ∀ q : Nat, s.heap.size ≤ q → A q := fun q h => by rw [← hAe]; exact Or.inr h
  have hS : va_S A s.heap s.heap [] := va_S.rf
  have hP : va_P (dC, dI) vwCl [(x, .inr (4, [.ref g, .ref mr, .ref tb, .ref lo, .ref g3, .ref gr, .ref wi])), (lo, .inr (3, [.ref lf, .ref lg, .int 0]))] s.heap := hP
  have hl := lv_entry ([.ref x, .int n, .int n1]) (n := 3) (Nat.le_of_ble_eq_true rfl)
  rw [lg_entry_eq]
  generalize (lg_sl ([.ref x, .int n, .int n1]) ++ List.replicate (3 - (lg_sl ([.ref x, .int n, .int n1])).length) Slot.unset).toArray = ls at hl ⊢
  have hl : lv_has ls 3 [(0, .ref x), (1, .int n), (2, .int n1)] := hl
  refine lv_aload_n hx hb dX4_move_0 rfl (lv_at hl 0 rfl) ?_
  refine lv_iload_n hx hb dX4_move_1 rfl (lv_at hl 1 rfl) ?_
  have hPc := hP.sub (ws' := [(x, .inr (4, [.ref g, .ref mr, .ref tb, .ref lo, .ref g3, .ref gr, .ref wi])), (lo, .inr (3, [.ref lf, .ref lg, .int 0]))]) [0, 1] rfl
  have hDc := hD.sub (ws' := [(x, .inr (4, [.ref g, .ref mr, .ref tb, .ref lo, .ref g3, .ref gr, .ref wi])), (lo, .inr (3, [.ref lf, .ref lg, .int 0]))]) [0, 1] (by decide) rfl
  have hFc := va_free (wc := [(x, .inr (4, [.ref g, .ref mr, .ref tb, .ref lo, .ref g3, .ref gr, .ref wi])), (lo, .inr (3, [.ref lf, .ref lg, .int 0]))]) hD hS hA [0, 1] rfl
  refine vx_callv (vx_runV (As := [.int n]) (rest := []) ⟨hx, hb, hml, hown, hts⟩ (c_X4_requireTold_bad l hno dC dI cI cJ x g mr tb lo g3 gr wi lf lg s.heap.size n) (cwV 1 hts gX4_move_X4_requireTold rfl rfl rfl (by decide +kernel) ⟨Nat.le_of_ble_eq_true rfl, Nat.le_of_ble_eq_true rfl⟩) ⟨fun a U g mk q => by obtain ⟨q0, q1, qP, qK, qD, qX⟩ := q; exact ⟨q0, q1, qP, va_K.moved (u := U) (U := U.calling g mk a) (Vm.Alike.refl U.vm) qK, qD, qX.moved (State.WarmedH.refl U)⟩, va_recv hK hPc (ci := 4) (q0 := 0) rfl rfl, fun U hU hW => ⟨rfl, by rw [hU], by rw [hU]; exact hPc, va_K.moved hW.alike hK, hDc.weaken (fun _ _ _ _ => trivial), by rw [hU]; exact ((hX.kept hS.2.1).narrow hFc).moved hW⟩⟩ rfl rfl hl.1 rfl (lv_room (Nat.le_of_ble_eq_true rfl)) dX4_move_2 ⟨Nat.le_of_ble_eq_true rfl, Nat.le_of_ble_eq_true rfl⟩) hS (fun q _ h => hFc q h) hFc (fun q _ h => hFc q h) (fun E9 ce9 q9 u9 t H1 locs ht hvm hw hB hz1 hk1 hS hce hcv hcl => ?_) (fun u_2 t H1 locs ht hvm hw hB hz1 hk1 hS => ?_)
  · skip
    refine vx_out (fun x h => (htab x h).elim) hlocks hce hcv hcl (fun t9 ht9 _ => ⟨(), trivial, hB, hS.F ht9⟩) hS.2.2 (Nat.le_of_ble_eq_true rfl) (Nat.le_of_ble_eq_true rfl)
  · exact hw.elim
set_option maxHeartbeats 4000000 in
set_option maxRecDepth 100000 in
theorem c_X4_gained_bad (l : Launch) (hno : l.stackTraces = false) (dC : Nat → ClassId) (dI : Nat → Nat → Nat) (cI cJ : ClassId) (x g mr tb lo g3 gr wi lf lg : Nat) (sz : Nat) (n : Int32) : vx_Met l yX4_gained wsX4_gained ({ frames := 7, cells := 1, slots := 6, locals := 103 }) (va_Pc [.ref x, .int n] (pPreX dC dI cI cJ sz [(x, .inr (4, [.ref g, .ref mr, .ref tb, .ref lo, .ref g3, .ref gr, .ref wi])), (lo, .inr (3, [.ref lf, .ref lg, .int 0]))])) (va_Ql (fun (_ : Int64) (_ : Unit) => False) (fun _ _ => True) (va_A [(x, .inr (4, [.ref g, .ref mr, .ref tb, .ref lo, .ref g3, .ref gr, .ref wi])), (lo, .inr (3, [.ref lf, .ref lg, .int 0]))] sz)) (vx_X (fun _ : Unit => True) (fun E _ _ => E = "java/lang/IndexOutOfBoundsException") (va_A [(x, .inr (4, [.ref g, .ref mr, .ref tb, .ref lo, .ref g3, .ref gr, .ref wi])), (lo, .inr (3, [.ref lf, .ref lg, .int 0]))] sz)) 1 6 (va_A [(x, .inr (4, [.ref g, .ref mr, .ref tb, .ref lo, .ref g3, .ref gr, .ref wi])), (lo, .inr (3, [.ref lf, .ref lg, .int 0]))] sz) := by
  refine vx_ofW (cc := cX4_gained) (maxL := 2) (ret := (some .long)) (by decide) rfl ?_
  intro p e s m args below meth c s₁ B hml htab hv
  obtain ⟨rfl, hsz, hP, hK, hD0, hX⟩ := hv
  have hx := B.exec
  have hb := B.bytes
  have hr := B.returns
  have hts := atoms_spec (ws := wsX4_gained) B.pre
  have hown : s.vm.findClass RX4 = some m.cls := findClass_of_methodNamed B.named
  have hlocks := B.notSynchronized
  subst hsz
  have hD := hD0.self (sz := s.heap.size)
  generalize hAe : va_A [(x, .inr (4, [.ref g, .ref mr, .ref tb, .ref lo, .ref g3, .ref gr, .ref wi])), (lo, .inr (3, [.ref lf, .ref lg, .int 0]))] s.heap.size = A at hD hX ⊢
  have hA : ∀ q : Nat, s.heap.size ≤ q → A q := fun q h => by rw [← hAe]; exact Or.inr h
  have hS : va_S A s.heap s.heap [] := va_S.rf
  have hP : va_P (dC, dI) vwCl [(x, .inr (4, [.ref g, .ref mr, .ref tb, .ref lo, .ref g3, .ref gr, .ref wi])), (lo, .inr (3, [.ref lf, .ref lg, .int 0]))] s.heap := hP
  have hl := lv_entry ([.ref x, .int n]) (n := 2) (Nat.le_of_ble_eq_true rfl)
  rw [lg_entry_eq]
  generalize (lg_sl ([.ref x, .int n]) ++ List.replicate (2 - (lg_sl ([.ref x, .int n])).length) Slot.unset).toArray = ls at hl ⊢
  have hl : lv_has ls 2 [(0, .ref x), (1, .int n)] := hl
  refine lv_aload_n hx hb dX4_gained_0 rfl (lv_at hl 0 rfl) ?_
  refine lv_iload_n hx hb dX4_gained_1 rfl (lv_at hl 1 rfl) ?_
  have hPc := hP.sub (ws' := [(x, .inr (4, [.ref g, .ref mr, .ref tb, .ref lo, .ref g3, .ref gr, .ref wi])), (lo, .inr (3, [.ref lf, .ref lg, .int 0]))]) [0, 1] rfl
  have hDc := hD.sub (ws' := [(x, .inr (4, [.ref g, .ref mr, .ref tb, .ref lo, .ref g3, .ref gr, .ref wi])), (lo, .inr (3, [.ref lf, .ref lg, .int 0]))]) [0, 1] (by decide) rfl
  have hFc := va_free (wc := [(x, .inr (4, [.ref g, .ref mr, .ref tb, .ref lo, .ref g3, .ref gr, .ref wi])), (lo, .inr (3, [.ref lf, .ref lg, .int 0]))]) hD hS hA [0, 1] rfl
  refine vx_callv (vx_runV (As := [.int n]) (rest := []) ⟨hx, hb, hml, hown, hts⟩ (c_X4_requireTold_bad l hno dC dI cI cJ x g mr tb lo g3 gr wi lf lg s.heap.size n) (cwV 1 hts gX4_gained_X4_requireTold rfl rfl rfl (by decide +kernel) ⟨Nat.le_of_ble_eq_true rfl, Nat.le_of_ble_eq_true rfl⟩) ⟨fun a U g mk q => by obtain ⟨q0, q1, qP, qK, qD, qX⟩ := q; exact ⟨q0, q1, qP, va_K.moved (u := U) (U := U.calling g mk a) (Vm.Alike.refl U.vm) qK, qD, qX.moved (State.WarmedH.refl U)⟩, va_recv hK hPc (ci := 4) (q0 := 0) rfl rfl, fun U hU hW => ⟨rfl, by rw [hU], by rw [hU]; exact hPc, va_K.moved hW.alike hK, hDc.weaken (fun _ _ _ _ => trivial), by rw [hU]; exact ((hX.kept hS.2.1).narrow hFc).moved hW⟩⟩ rfl rfl hl.1 rfl (lv_room (Nat.le_of_ble_eq_true rfl)) dX4_gained_2 ⟨Nat.le_of_ble_eq_true rfl, Nat.le_of_ble_eq_true rfl⟩) hS (fun q _ h => hFc q h) hFc (fun q _ h => hFc q h) (fun E9 ce9 q9 u9 t H1 locs ht hvm hw hB hz1 hk1 hS hce hcv hcl => ?_) (fun u_2 t H1 locs ht hvm hw hB hz1 hk1 hS => ?_)
  · skip
    refine vx_out (fun x h => (htab x h).elim) hlocks hce hcv hcl (fun t9 ht9 _ => ⟨(), trivial, hB, hS.F ht9⟩) hS.2.2 (Nat.le_of_ble_eq_true rfl) (Nat.le_of_ble_eq_true rfl)
  · exact hw.elim
set_option maxHeartbeats 4000000 in
set_option maxRecDepth 100000 in
theorem c_X4_take_bad (l : Launch) (hno : l.stackTraces = false) (dC : Nat → ClassId) (dI : Nat → Nat → Nat) (cI cJ : ClassId) (x g mr tb lo g3 gr wi tf th tc : Nat) (sz : Nat) (n : Int32) : vx_Met l yX4_take wsX4_take ({ frames := 7, cells := 1, slots := 6, locals := 103 }) (va_Pc [.ref x, .int n] (pPreX dC dI cI cJ sz [(x, .inr (4, [.ref g, .ref mr, .ref tb, .ref lo, .ref g3, .ref gr, .ref wi])), (tb, .inr (2, [.ref tf, .ref th, .ref tc, .int 0]))])) (va_Qv (fun _ : Unit => False) (fun _ _ => True) (va_A [(x, .inr (4, [.ref g, .ref mr, .ref tb, .ref lo, .ref g3, .ref gr, .ref wi])), (tb, .inr (2, [.ref tf, .ref th, .ref tc, .int 0]))] sz)) (vx_X (fun _ : Unit => True) (fun E _ _ => E = "java/lang/IndexOutOfBoundsException") (va_A [(x, .inr (4, [.ref g, .ref mr, .ref tb, .ref lo, .ref g3, .ref gr, .ref wi])), (tb, .inr (2, [.ref tf, .ref th, .ref tc, .int 0]))] sz)) 1 6 (va_A [(x, .inr (4, [.ref g, .ref mr, .ref tb, .ref lo, .ref g3, .ref gr, .ref wi])), (tb, .inr (2, [.ref tf, .ref th, .ref tc, .int 0]))] sz) := by
  refine vx_ofW (cc := cX4_take) (maxL := 2) (ret := none) (by decide) rfl ?_
  intro p e s m args below meth c s₁ B hml htab hv
  obtain ⟨rfl, hsz, hP, hK, hD0, hX⟩ := hv
  have hx := B.exec
  have hb := B.bytes
  have hr := B.returns
  have hts := atoms_spec (ws := wsX4_take) B.pre
  have hown : s.vm.findClass RX4 = some m.cls := findClass_of_methodNamed B.named
  have hlocks := B.notSynchronized
  subst hsz
  have hD := hD0.self (sz := s.heap.size)
  generalize hAe : va_A [(x, .inr (4, [.ref g, .ref mr, .ref tb, .ref lo, .ref g3, .ref gr, .ref wi])), (tb, .inr (2, [.ref tf, .ref th, .ref tc, .int 0]))] s.heap.size = A at hD hX ⊢
  have hA : ∀ q : Nat, s.heap.size ≤ q → A q := fun q h => by rw [← hAe]; exact Or.inr h
  have hS : va_S A s.heap s.heap [] := va_S.rf
  have hP : va_P (dC, dI) vwCl [(x, .inr (4, [.ref g, .ref mr, .ref tb, .ref lo, .ref g3, .ref gr, .ref wi])), (tb, .inr (2, [.ref tf, .ref th, .ref tc, .int 0]))] s.heap := hP
  have hl := lv_entry ([.ref x, .int n]) (n := 2) (Nat.le_of_ble_eq_true rfl)
  rw [lg_entry_eq]
  generalize (lg_sl ([.ref x, .int n]) ++ List.replicate (2 - (lg_sl ([.ref x, .int n])).length) Slot.unset).toArray = ls at hl ⊢
  have hl : lv_has ls 2 [(0, .ref x), (1, .int n)] := hl
  refine lv_aload_n hx hb dX4_take_0 rfl (lv_at hl 0 rfl) ?_
  refine lv_iload_n hx hb dX4_take_1 rfl (lv_at hl 1 rfl) ?_
  have hPc := hP.sub (ws' := [(x, .inr (4, [.ref g, .ref mr, .ref tb, .ref lo, .ref g3, .ref gr, .ref wi])), (tb, .inr (2, [.ref tf, .ref th, .ref tc, .int 0]))]) [0, 1] rfl
  have hDc := hD.sub (ws' := [(x, .inr (4, [.ref g, .ref mr, .ref tb, .ref lo, .ref g3, .ref gr, .ref wi])), (tb, .inr (2, [.ref tf, .ref th, .ref tc, .int 0]))]) [0, 1] (by decide) rfl
  have hFc := va_free (wc := [(x, .inr (4, [.ref g, .ref mr, .ref tb, .ref lo, .ref g3, .ref gr, .ref wi])), (tb, .inr (2, [.ref tf, .ref th, .ref tc, .int 0]))]) hD hS hA [0, 1] rfl
  refine vx_callv (vx_runV (As := [.int n]) (rest := []) ⟨hx, hb, hml, hown, hts⟩ (c_X4_requireLevel_bad l hno dC dI cI cJ x g mr tb lo g3 gr wi tf th tc s.heap.size n) (cwV 1 hts gX4_take_X4_requireLevel rfl rfl rfl (by decide +kernel) ⟨Nat.le_of_ble_eq_true rfl, Nat.le_of_ble_eq_true rfl⟩) ⟨fun a U g mk q => by obtain ⟨q0, q1, qP, qK, qD, qX⟩ := q; exact ⟨q0, q1, qP, va_K.moved (u := U) (U := U.calling g mk a) (Vm.Alike.refl U.vm) qK, qD, qX.moved (State.WarmedH.refl U)⟩, va_recv hK hPc (ci := 4) (q0 := 0) rfl rfl, fun U hU hW => ⟨rfl, by rw [hU], by rw [hU]; exact hPc, va_K.moved hW.alike hK, hDc.weaken (fun _ _ _ _ => trivial), by rw [hU]; exact ((hX.kept hS.2.1).narrow hFc).moved hW⟩⟩ rfl rfl hl.1 rfl (lv_room (Nat.le_of_ble_eq_true rfl)) dX4_take_2 ⟨Nat.le_of_ble_eq_true rfl, Nat.le_of_ble_eq_true rfl⟩) hS (fun q _ h => hFc q h) hFc (fun q _ h => hFc q h) (fun E9 ce9 q9 u9 t H1 locs ht hvm hw hB hz1 hk1 hS hce hcv hcl => ?_) (fun u_2 t H1 locs ht hvm hw hB hz1 hk1 hS => ?_)
  · skip
    refine vx_out (fun x h => (htab x h).elim) hlocks hce hcv hcl (fun t9 ht9 _ => ⟨(), trivial, hB, hS.F ht9⟩) hS.2.2 (Nat.le_of_ble_eq_true rfl) (Nat.le_of_ble_eq_true rfl)
  · exact hw.elim
set_option maxHeartbeats 4000000 in
set_option maxRecDepth 100000 in
theorem c_X4_place (l : Launch) (dC : Nat → ClassId) (dI : Nat → Nat → Nat) (cI cJ : ClassId) (x g mr tb lo g3 gr wi w d mh mc md ml mn : Nat) (sz : Nat) : Met l yX4_place wsX4_place ({ frames := 1, cells := 0, slots := 0, locals := 21 }) (va_Pc [.ref x, .int 0, .int 0] (pPre dC dI cI cJ sz [(x, .inr (4, [.ref g, .ref mr, .ref tb, .ref lo, .ref g3, .ref gr, .ref wi])), (g, .inr (0, [.ref w, .ref d, .int 1, .int 0])), (mr, .inr (1, [.ref mh, .ref mc, .ref md, .ref ml, .ref mn])), (mh, .inl (cI, 40, .inl Zi))])) (va_Qi (fun (r : Int32) (_ : Unit) => r = 0) (pPost dC dI (va_A [(x, .inr (4, [.ref g, .ref mr, .ref tb, .ref lo, .ref g3, .ref gr, .ref wi])), (g, .inr (0, [.ref w, .ref d, .int 1, .int 0])), (mr, .inr (1, [.ref mh, .ref mc, .ref md, .ref ml, .ref mn])), (mh, .inl (cI, 40, .inl Zi))] sz) []) (va_A [(x, .inr (4, [.ref g, .ref mr, .ref tb, .ref lo, .ref g3, .ref gr, .ref wi])), (g, .inr (0, [.ref w, .ref d, .int 1, .int 0])), (mr, .inr (1, [.ref mh, .ref mc, .ref md, .ref ml, .ref mn])), (mh, .inl (cI, 40, .inl Zi))] sz)) 0 0 (va_A [(x, .inr (4, [.ref g, .ref mr, .ref tb, .ref lo, .ref g3, .ref gr, .ref wi])), (g, .inr (0, [.ref w, .ref d, .int 1, .int 0])), (mr, .inr (1, [.ref mh, .ref mc, .ref md, .ref ml, .ref mn])), (mh, .inl (cI, 40, .inl Zi))] sz) := by
  refine Met.ofW (cc := cX4_place) (maxL := 4) (ret := (some .int)) (by decide) rfl ?_
  intro p e s m args below meth c s₁ B hml hv
  obtain ⟨rfl, hsz, hP, hK, hD0⟩ := hv
  have hx := B.exec
  have hb := B.bytes
  have hr := B.returns
  have hts := atoms_spec (ws := wsX4_place) B.pre
  have hown : s.vm.findClass RX4 = some m.cls := findClass_of_methodNamed B.named
  have hlocks := B.notSynchronized
  subst hsz
  have hD := hD0.self (sz := s.heap.size)
  generalize hAe : va_A [(x, .inr (4, [.ref g, .ref mr, .ref tb, .ref lo, .ref g3, .ref gr, .ref wi])), (g, .inr (0, [.ref w, .ref d, .int 1, .int 0])), (mr, .inr (1, [.ref mh, .ref mc, .ref md, .ref ml, .ref mn])), (mh, .inl (cI, 40, .inl Zi))] s.heap.size = A at hD ⊢
  have hA : ∀ q : Nat, s.heap.size ≤ q → A q := fun q h => by rw [← hAe]; exact Or.inr h
  have hS : va_S A s.heap s.heap [] := va_S.rf
  have hP : va_P (dC, dI) vwCl [(x, .inr (4, [.ref g, .ref mr, .ref tb, .ref lo, .ref g3, .ref gr, .ref wi])), (g, .inr (0, [.ref w, .ref d, .int 1, .int 0])), (mr, .inr (1, [.ref mh, .ref mc, .ref md, .ref ml, .ref mn])), (mh, .inl (cI, 40, .inl Zi))] s.heap := hP
  have hl := lv_entry ([.ref x, .int 0, .int 0]) (n := 4) (Nat.le_of_ble_eq_true rfl)
  rw [lg_entry_eq]
  generalize (lg_sl ([.ref x, .int 0, .int 0]) ++ List.replicate (4 - (lg_sl ([.ref x, .int 0, .int 0])).length) Slot.unset).toArray = ls at hl ⊢
  have hl : lv_has ls 4 [(0, .ref x), (1, .int 0), (2, .int 0)] := hl
  have i_1 : ∀ w ∈ wsX10, w ∈ wsX4_place := by decide +kernel
  have i_4 : ∀ w ∈ wsX40, w ∈ wsX4_place := by decide +kernel
  have k_0 := hts (.fieldLink RX4 19 "CommunityLevels" "mine" "LCommunityLevels$Groups;") (by decide +kernel)
  have k_1 := hts (.fieldLink RX4 118 "CommunityLevels$Groups" "home" "[I") (by decide +kernel)
  refine lv_aload_n hx hb dX4_place_0 rfl (lv_at hl 0 rfl) ?_
  refine lv_iload_n hx hb dX4_place_1 rfl (lv_at hl 1 rfl) ?_
  have hPc := hP.sub (ws' := [(x, .inr (4, [.ref g, .ref mr, .ref tb, .ref lo, .ref g3, .ref gr, .ref wi])), (g, .inr (0, [.ref w, .ref d, .int 1, .int 0]))]) [0, 1] rfl
  have hDc := hD.sub (ws' := [(x, .inr (4, [.ref g, .ref mr, .ref tb, .ref lo, .ref g3, .ref gr, .ref wi])), (g, .inr (0, [.ref w, .ref d, .int 1, .int 0]))]) [0, 1] (by decide) rfl
  have hFc := va_free (wc := [(x, .inr (4, [.ref g, .ref mr, .ref tb, .ref lo, .ref g3, .ref gr, .ref wi])), (g, .inr (0, [.ref w, .ref d, .int 1, .int 0]))]) hD hS hA [0, 1] rfl
  refine va_callv (va_runV (As := [.int 0]) (rest := []) ⟨hx, hb, hml, hown, hts⟩ (c_X4_requireNode l dC dI cI cJ x g mr tb lo g3 gr wi w d s.heap.size) (cwV 1 hts gX4_place_X4_requireNode rfl rfl rfl (by decide +kernel) ⟨Nat.le_of_ble_eq_true rfl, Nat.le_of_ble_eq_true rfl⟩) ⟨fun a U g mk q => by obtain ⟨q0, q1, qP, qK, qD⟩ := q; exact ⟨q0, q1, qP, va_K.moved (u := U) (U := U.calling g mk a) (Vm.Alike.refl U.vm) qK, qD⟩, va_recv hK hPc (ci := 4) (q0 := 0) rfl rfl, fun U hU hW => ⟨rfl, by rw [hU], by rw [hU]; exact hPc, va_K.moved hW.alike hK, hDc.weaken (fun _ _ _ _ => trivial)⟩⟩ rfl rfl hl.1 rfl (lv_room (Nat.le_of_ble_eq_true rfl)) dX4_place_2 ⟨Nat.le_of_ble_eq_true rfl, Nat.le_of_ble_eq_true rfl⟩) hS (fun q _ h => hFc q h) hFc (fun u_2 t H1 locs ht hvm hw hB hz1 hk1 hS => ?_)
  obtain ⟨hP1, hD1⟩ := hB
  rw [ht] at hP1
  obtain ⟨hP, hD⟩ := va_join (wr := [(mr, .inr (1, [.ref mh, .ref mc, .ref md, .ref ml, .ref mn])), (mh, .inl (cI, 40, .inl Zi))]) (w1 := [(x, .inr (4, [.ref g, .ref mr, .ref tb, .ref lo, .ref g3, .ref gr, .ref wi])), (g, .inr (0, [.ref w, .ref d, .int 1, .int 0]))]) hP hD [0, 1] [2, 3] rfl rfl (by decide) (by decide) hk1 hFc hP1 hD1
  generalize H1 = H at hP hS ⊢
  have hP : va_P (dC, dI) vwCl [(mr, .inr (1, [.ref mh, .ref mc, .ref md, .ref ml, .ref mn])), (mh, .inl (cI, 40, .inl Zi)), (x, .inr (4, [.ref g, .ref mr, .ref tb, .ref lo, .ref g3, .ref gr, .ref wi])), (g, .inr (0, [.ref w, .ref d, .int 1, .int 0]))] H := hP
  have hD : va_D A [(mr, .inr (1, [.ref mh, .ref mc, .ref md, .ref ml, .ref mn])), (mh, .inl (cI, 40, .inl Zi)), (x, .inr (4, [.ref g, .ref mr, .ref tb, .ref lo, .ref g3, .ref gr, .ref wi])), (g, .inr (0, [.ref w, .ref d, .int 1, .int 0]))] := hD
  refine lv_aload_n hx hb dX4_place_5 rfl (lv_at hl 0 rfl) ?_
  refine lv_iload_n hx hb dX4_place_6 rfl (lv_at hl 2 rfl) ?_
  have hPc := hP.sub (ws' := [(x, .inr (4, [.ref g, .ref mr, .ref tb, .ref lo, .ref g3, .ref gr, .ref wi])), (g, .inr (0, [.ref w, .ref d, .int 1, .int 0]))]) [2, 3] rfl
  have hDc := hD.sub (ws' := [(x, .inr (4, [.ref g, .ref mr, .ref tb, .ref lo, .ref g3, .ref gr, .ref wi])), (g, .inr (0, [.ref w, .ref d, .int 1, .int 0]))]) [2, 3] (by decide) rfl
  have hFc := va_free (wc := [(x, .inr (4, [.ref g, .ref mr, .ref tb, .ref lo, .ref g3, .ref gr, .ref wi])), (g, .inr (0, [.ref w, .ref d, .int 1, .int 0]))]) hD hS hA [2, 3] rfl
  refine va_callv (va_runV (As := [.int 0]) (rest := []) ⟨hx, hb, hml, hown, hts⟩ (c_X4_requireCommunity l dC dI cI cJ x g mr tb lo g3 gr wi w d H.size) (cwV 1 hts gX4_place_X4_requireCommunity rfl rfl rfl (by decide +kernel) ⟨Nat.le_of_ble_eq_true rfl, Nat.le_of_ble_eq_true rfl⟩) ⟨fun a U g mk q => by obtain ⟨q0, q1, qP, qK, qD⟩ := q; exact ⟨q0, q1, qP, va_K.moved (u := U) (U := U.calling g mk a) (Vm.Alike.refl U.vm) qK, qD⟩, va_recv hK hPc (ci := 4) (q0 := 0) rfl rfl, fun U hU hW => ⟨rfl, by rw [hU], by rw [hU]; exact hPc, va_K.moved hW.alike hK, hDc.weaken (fun _ _ _ _ => trivial)⟩⟩ rfl rfl hl.1 rfl (lv_room (Nat.le_of_ble_eq_true rfl)) dX4_place_7 ⟨Nat.le_of_ble_eq_true rfl, Nat.le_of_ble_eq_true rfl⟩) hS (fun q _ h => hFc q h) hFc (fun u_4 t H1 locs ht hvm hw hB hz1 hk1 hS => ?_)
  obtain ⟨hP1, hD1⟩ := hB
  rw [ht] at hP1
  obtain ⟨hP, hD⟩ := va_join (wr := [(mr, .inr (1, [.ref mh, .ref mc, .ref md, .ref ml, .ref mn])), (mh, .inl (cI, 40, .inl Zi))]) (w1 := [(x, .inr (4, [.ref g, .ref mr, .ref tb, .ref lo, .ref g3, .ref gr, .ref wi])), (g, .inr (0, [.ref w, .ref d, .int 1, .int 0]))]) hP hD [2, 3] [0, 1] rfl rfl (by decide) (by decide) hk1 hFc hP1 hD1
  generalize H1 = H at hP hS ⊢
  have hP : va_P (dC, dI) vwCl [(mr, .inr (1, [.ref mh, .ref mc, .ref md, .ref ml, .ref mn])), (mh, .inl (cI, 40, .inl Zi)), (x, .inr (4, [.ref g, .ref mr, .ref tb, .ref lo, .ref g3, .ref gr, .ref wi])), (g, .inr (0, [.ref w, .ref d, .int 1, .int 0]))] H := hP
  have hD : va_D A [(mr, .inr (1, [.ref mh, .ref mc, .ref md, .ref ml, .ref mn])), (mh, .inl (cI, 40, .inl Zi)), (x, .inr (4, [.ref g, .ref mr, .ref tb, .ref lo, .ref g3, .ref gr, .ref wi])), (g, .inr (0, [.ref w, .ref d, .int 1, .int 0]))] := hD
  refine lv_aload_n hx hb dX4_place_10 rfl (lv_at hl 0 rfl) ?_
  refine va_get (D := (dC, dI)) (ci := 4) (v := .ref mr) (C := RX4) (T := TX4) (N := 7) hx hb hts i_4 hown hK hP 2 rfl rfl 1 (by decide) k_0 (fun _ h9 => h9) rfl dX4_place_11 ?_
  refine va_get (D := (dC, dI)) (ci := 1) (v := .ref mh) (C := RX1) (T := TX1) (N := 5) hx hb hts i_1 hown hK hP 0 rfl rfl 0 (by decide) k_1 (fun _ h9 => h9) rfl dX4_place_14 ?_
  refine lv_iload_n hx hb dX4_place_17 rfl (lv_at hl 1 rfl) ?_
  refine va_iald hx hb hK hP 1 0 rfl rfl (vp_c (by decide)) dX4_place_18 ?_
  refine lc_i (v := 0) (by first | rfl | decide) ?_
  refine lv_istore_n (lv' := [(3, .int 0), (0, .ref x), (1, .int 0), (2, .int 0)]) hx hb dX4_place_19 rfl hl (by decide) rfl (fun ls hl => ?_)
  refine lv_aload_n hx hb dX4_place_20 rfl (lv_at hl 1 rfl) ?_
  refine va_get (D := (dC, dI)) (ci := 4) (v := .ref mr) (C := RX4) (T := TX4) (N := 7) hx hb hts i_4 hown hK hP 2 rfl rfl 1 (by decide) k_0 (fun _ h9 => h9) rfl dX4_place_21 ?_
  refine va_get (D := (dC, dI)) (ci := 1) (v := .ref mh) (C := RX1) (T := TX1) (N := 5) hx hb hts i_1 hown hK hP 0 rfl rfl 0 (by decide) k_1 (fun _ h9 => h9) rfl dX4_place_24 ?_
  refine lv_iload_n hx hb dX4_place_27 rfl (lv_at hl 2 rfl) ?_
  refine lv_iload_n hx hb dX4_place_28 rfl (lv_at hl 3 rfl) ?_
  refine va_iast hx hb hK hP hD hS 1 0 rfl rfl (vp_c (by decide)) dX4_place_29 (fun H locs hP hD hS => ?_)
  have hP : va_P (dC, dI) vwCl [(mr, .inr (1, [.ref mh, .ref mc, .ref md, .ref ml, .ref mn])), (mh, .inl (cI, 40, .inl (upd Zi 0 0))), (x, .inr (4, [.ref g, .ref mr, .ref tb, .ref lo, .ref g3, .ref gr, .ref wi])), (g, .inr (0, [.ref w, .ref d, .int 1, .int 0]))] H := hP
  have hD : va_D A [(mr, .inr (1, [.ref mh, .ref mc, .ref md, .ref ml, .ref mn])), (mh, .inl (cI, 40, .inl (upd Zi 0 0))), (x, .inr (4, [.ref g, .ref mr, .ref tb, .ref lo, .ref g3, .ref gr, .ref wi])), (g, .inr (0, [.ref w, .ref d, .int 1, .int 0]))] := hD
  refine lv_iload_n hx hb dX4_place_30 rfl (lv_at hl 0 rfl) ?_
  have hP9 := hP.sub (ws' := []) [] rfl
  have hD9 := hD.sub (ws' := []) [] (by decide) rfl
  exact W.iret (v := 0) hx hb hr (fun t ht hW => ⟨⟨_, (), rfl, rfl, by rw [ht]; exact hP9, hD9⟩, hS.F ht⟩) hS.2.2 dX4_place_31
set_option maxHeartbeats 4000000 in
set_option maxRecDepth 100000 in
theorem c_X4_gain (l : Launch) (dC : Nat → ClassId) (dI : Nat → Nat → Nat) (cI cJ : ClassId) (x g mr tb lo g3 gr wi w d mh mc md ml mn : Nat) (sz : Nat) : Met l yX4_gain wsX4_gain ({ frames := 2, cells := 0, slots := 0, locals := 46 }) (va_Pc [.ref x, .int 0, .int 0] (pPre dC dI cI cJ sz [(x, .inr (4, [.ref g, .ref mr, .ref tb, .ref lo, .ref g3, .ref gr, .ref wi])), (g, .inr (0, [.ref w, .ref d, .int 1, .int 0])), (d, .inl (cI, 40, .inl Zi)), (mr, .inr (1, [.ref mh, .ref mc, .ref md, .ref ml, .ref mn])), (mh, .inl (cI, 40, .inl Zi)), (mc, .inl (cI, 40, .inl Zi)), (md, .inl (cI, 40, .inl Zi)), (ml, .inl (cI, 40, .inl Zi))])) (va_Ql (fun (r : Int64) (_ : Unit) => r = 0) (pPost dC dI (va_A [(x, .inr (4, [.ref g, .ref mr, .ref tb, .ref lo, .ref g3, .ref gr, .ref wi])), (g, .inr (0, [.ref w, .ref d, .int 1, .int 0])), (d, .inl (cI, 40, .inl Zi)), (mr, .inr (1, [.ref mh, .ref mc, .ref md, .ref ml, .ref mn])), (mh, .inl (cI, 40, .inl Zi)), (mc, .inl (cI, 40, .inl Zi)), (md, .inl (cI, 40, .inl Zi)), (ml, .inl (cI, 40, .inl Zi))] sz) []) (va_A [(x, .inr (4, [.ref g, .ref mr, .ref tb, .ref lo, .ref g3, .ref gr, .ref wi])), (g, .inr (0, [.ref w, .ref d, .int 1, .int 0])), (d, .inl (cI, 40, .inl Zi)), (mr, .inr (1, [.ref mh, .ref mc, .ref md, .ref ml, .ref mn])), (mh, .inl (cI, 40, .inl Zi)), (mc, .inl (cI, 40, .inl Zi)), (md, .inl (cI, 40, .inl Zi)), (ml, .inl (cI, 40, .inl Zi))] sz)) 0 0 (va_A [(x, .inr (4, [.ref g, .ref mr, .ref tb, .ref lo, .ref g3, .ref gr, .ref wi])), (g, .inr (0, [.ref w, .ref d, .int 1, .int 0])), (d, .inl (cI, 40, .inl Zi)), (mr, .inr (1, [.ref mh, .ref mc, .ref md, .ref ml, .ref mn])), (mh, .inl (cI, 40, .inl Zi)), (mc, .inl (cI, 40, .inl Zi)), (md, .inl (cI, 40, .inl Zi)), (ml, .inl (cI, 40, .inl Zi))] sz) := by
  refine Met.ofW (cc := cX4_gain) (maxL := 3) (ret := (some .long)) (by decide) rfl ?_
  intro p e s m args below meth c s₁ B hml hv
  obtain ⟨rfl, hsz, hP, hK, hD0⟩ := hv
  have hx := B.exec
  have hb := B.bytes
  have hr := B.returns
  have hts := atoms_spec (ws := wsX4_gain) B.pre
  have hown : s.vm.findClass RX4 = some m.cls := findClass_of_methodNamed B.named
  have hlocks := B.notSynchronized
  subst hsz
  have hD := hD0.self (sz := s.heap.size)
  generalize hAe : va_A [(x, .inr (4, [.ref g, .ref mr, .ref tb, .ref lo, .ref g3, .ref gr, .ref wi])), (g, .inr (0, [.ref w, .ref d, .int 1, .int 0])), (d, .inl (cI, 40, .inl Zi)), (mr, .inr (1, [.ref mh, .ref mc, .ref md, .ref ml, .ref mn])), (mh, .inl (cI, 40, .inl Zi)), (mc, .inl (cI, 40, .inl Zi)), (md, .inl (cI, 40, .inl Zi)), (ml, .inl (cI, 40, .inl Zi))] s.heap.size = A at hD ⊢
  have hA : ∀ q : Nat, s.heap.size ≤ q → A q := fun q h => by rw [← hAe]; exact Or.inr h
  have hS : va_S A s.heap s.heap [] := va_S.rf
  have hP : va_P (dC, dI) vwCl [(x, .inr (4, [.ref g, .ref mr, .ref tb, .ref lo, .ref g3, .ref gr, .ref wi])), (g, .inr (0, [.ref w, .ref d, .int 1, .int 0])), (d, .inl (cI, 40, .inl Zi)), (mr, .inr (1, [.ref mh, .ref mc, .ref md, .ref ml, .ref mn])), (mh, .inl (cI, 40, .inl Zi)), (mc, .inl (cI, 40, .inl Zi)), (md, .inl (cI, 40, .inl Zi)), (ml, .inl (cI, 40, .inl Zi))] s.heap := hP
  have hl := lv_entry ([.ref x, .int 0, .int 0]) (n := 3) (Nat.le_of_ble_eq_true rfl)
  rw [lg_entry_eq]
  generalize (lg_sl ([.ref x, .int 0, .int 0]) ++ List.replicate (3 - (lg_sl ([.ref x, .int 0, .int 0])).length) Slot.unset).toArray = ls at hl ⊢
  have hl : lv_has ls 3 [(0, .ref x), (1, .int 0), (2, .int 0)] := hl
  have i_4 : ∀ w ∈ wsX40, w ∈ wsX4_gain := by decide +kernel
  have k_0 := hts (.fieldLink RX4 19 "CommunityLevels" "mine" "LCommunityLevels$Groups;") (by decide +kernel)
  have k_1 := hts (.fieldLink RX4 10 "CommunityLevels" "told" "LCommunityLevels$Graph;") (by decide +kernel)
  refine lv_aload_n hx hb dX4_gain_0 rfl (lv_at hl 0 rfl) ?_
  refine lv_iload_n hx hb dX4_gain_1 rfl (lv_at hl 1 rfl) ?_
  have hPc := hP.sub (ws' := [(x, .inr (4, [.ref g, .ref mr, .ref tb, .ref lo, .ref g3, .ref gr, .ref wi])), (g, .inr (0, [.ref w, .ref d, .int 1, .int 0]))]) [0, 1] rfl
  have hDc := hD.sub (ws' := [(x, .inr (4, [.ref g, .ref mr, .ref tb, .ref lo, .ref g3, .ref gr, .ref wi])), (g, .inr (0, [.ref w, .ref d, .int 1, .int 0]))]) [0, 1] (by decide) rfl
  have hFc := va_free (wc := [(x, .inr (4, [.ref g, .ref mr, .ref tb, .ref lo, .ref g3, .ref gr, .ref wi])), (g, .inr (0, [.ref w, .ref d, .int 1, .int 0]))]) hD hS hA [0, 1] rfl
  refine va_callv (va_runV (As := [.int 0]) (rest := []) ⟨hx, hb, hml, hown, hts⟩ (c_X4_requireNode l dC dI cI cJ x g mr tb lo g3 gr wi w d s.heap.size) (cwV 1 hts gX4_gain_X4_requireNode rfl rfl rfl (by decide +kernel) ⟨Nat.le_of_ble_eq_true rfl, Nat.le_of_ble_eq_true rfl⟩) ⟨fun a U g mk q => by obtain ⟨q0, q1, qP, qK, qD⟩ := q; exact ⟨q0, q1, qP, va_K.moved (u := U) (U := U.calling g mk a) (Vm.Alike.refl U.vm) qK, qD⟩, va_recv hK hPc (ci := 4) (q0 := 0) rfl rfl, fun U hU hW => ⟨rfl, by rw [hU], by rw [hU]; exact hPc, va_K.moved hW.alike hK, hDc.weaken (fun _ _ _ _ => trivial)⟩⟩ rfl rfl hl.1 rfl (lv_room (Nat.le_of_ble_eq_true rfl)) dX4_gain_2 ⟨Nat.le_of_ble_eq_true rfl, Nat.le_of_ble_eq_true rfl⟩) hS (fun q _ h => hFc q h) hFc (fun u_2 t H1 locs ht hvm hw hB hz1 hk1 hS => ?_)
  obtain ⟨hP1, hD1⟩ := hB
  rw [ht] at hP1
  obtain ⟨hP, hD⟩ := va_join (wr := [(d, .inl (cI, 40, .inl Zi)), (mr, .inr (1, [.ref mh, .ref mc, .ref md, .ref ml, .ref mn])), (mh, .inl (cI, 40, .inl Zi)), (mc, .inl (cI, 40, .inl Zi)), (md, .inl (cI, 40, .inl Zi)), (ml, .inl (cI, 40, .inl Zi))]) (w1 := [(x, .inr (4, [.ref g, .ref mr, .ref tb, .ref lo, .ref g3, .ref gr, .ref wi])), (g, .inr (0, [.ref w, .ref d, .int 1, .int 0]))]) hP hD [0, 1] [2, 3, 4, 5, 6, 7] rfl rfl (by decide) (by decide) hk1 hFc hP1 hD1
  generalize H1 = H at hP hS ⊢
  have hP : va_P (dC, dI) vwCl [(d, .inl (cI, 40, .inl Zi)), (mr, .inr (1, [.ref mh, .ref mc, .ref md, .ref ml, .ref mn])), (mh, .inl (cI, 40, .inl Zi)), (mc, .inl (cI, 40, .inl Zi)), (md, .inl (cI, 40, .inl Zi)), (ml, .inl (cI, 40, .inl Zi)), (x, .inr (4, [.ref g, .ref mr, .ref tb, .ref lo, .ref g3, .ref gr, .ref wi])), (g, .inr (0, [.ref w, .ref d, .int 1, .int 0]))] H := hP
  have hD : va_D A [(d, .inl (cI, 40, .inl Zi)), (mr, .inr (1, [.ref mh, .ref mc, .ref md, .ref ml, .ref mn])), (mh, .inl (cI, 40, .inl Zi)), (mc, .inl (cI, 40, .inl Zi)), (md, .inl (cI, 40, .inl Zi)), (ml, .inl (cI, 40, .inl Zi)), (x, .inr (4, [.ref g, .ref mr, .ref tb, .ref lo, .ref g3, .ref gr, .ref wi])), (g, .inr (0, [.ref w, .ref d, .int 1, .int 0]))] := hD
  refine lv_aload_n hx hb dX4_gain_5 rfl (lv_at hl 0 rfl) ?_
  refine lv_iload_n hx hb dX4_gain_6 rfl (lv_at hl 2 rfl) ?_
  have hPc := hP.sub (ws' := [(x, .inr (4, [.ref g, .ref mr, .ref tb, .ref lo, .ref g3, .ref gr, .ref wi])), (g, .inr (0, [.ref w, .ref d, .int 1, .int 0]))]) [6, 7] rfl
  have hDc := hD.sub (ws' := [(x, .inr (4, [.ref g, .ref mr, .ref tb, .ref lo, .ref g3, .ref gr, .ref wi])), (g, .inr (0, [.ref w, .ref d, .int 1, .int 0]))]) [6, 7] (by decide) rfl
  have hFc := va_free (wc := [(x, .inr (4, [.ref g, .ref mr, .ref tb, .ref lo, .ref g3, .ref gr, .ref wi])), (g, .inr (0, [.ref w, .ref d, .int 1, .int 0]))]) hD hS hA [6, 7] rfl
  refine va_callv (va_runV (As := [.int 0]) (rest := []) ⟨hx, hb, hml, hown, hts⟩ (c_X4_requireCommunity l dC dI cI cJ x g mr tb lo g3 gr wi w d H.size) (cwV 1 hts gX4_gain_X4_requireCommunity rfl rfl rfl (by decide +kernel) ⟨Nat.le_of_ble_eq_true rfl, Nat.le_of_ble_eq_true rfl⟩) ⟨fun a U g mk q => by obtain ⟨q0, q1, qP, qK, qD⟩ := q; exact ⟨q0, q1, qP, va_K.moved (u := U) (U := U.calling g mk a) (Vm.Alike.refl U.vm) qK, qD⟩, va_recv hK hPc (ci := 4) (q0 := 0) rfl rfl, fun U hU hW => ⟨rfl, by rw [hU], by rw [hU]; exact hPc, va_K.moved hW.alike hK, hDc.weaken (fun _ _ _ _ => trivial)⟩⟩ rfl rfl hl.1 rfl (lv_room (Nat.le_of_ble_eq_true rfl)) dX4_gain_7 ⟨Nat.le_of_ble_eq_true rfl, Nat.le_of_ble_eq_true rfl⟩) hS (fun q _ h => hFc q h) hFc (fun u_4 t H1 locs ht hvm hw hB hz1 hk1 hS => ?_)
  obtain ⟨hP1, hD1⟩ := hB
  rw [ht] at hP1
  obtain ⟨hP, hD⟩ := va_join (wr := [(d, .inl (cI, 40, .inl Zi)), (mr, .inr (1, [.ref mh, .ref mc, .ref md, .ref ml, .ref mn])), (mh, .inl (cI, 40, .inl Zi)), (mc, .inl (cI, 40, .inl Zi)), (md, .inl (cI, 40, .inl Zi)), (ml, .inl (cI, 40, .inl Zi))]) (w1 := [(x, .inr (4, [.ref g, .ref mr, .ref tb, .ref lo, .ref g3, .ref gr, .ref wi])), (g, .inr (0, [.ref w, .ref d, .int 1, .int 0]))]) hP hD [6, 7] [0, 1, 2, 3, 4, 5] rfl rfl (by decide) (by decide) hk1 hFc hP1 hD1
  generalize H1 = H at hP hS ⊢
  have hP : va_P (dC, dI) vwCl [(d, .inl (cI, 40, .inl Zi)), (mr, .inr (1, [.ref mh, .ref mc, .ref md, .ref ml, .ref mn])), (mh, .inl (cI, 40, .inl Zi)), (mc, .inl (cI, 40, .inl Zi)), (md, .inl (cI, 40, .inl Zi)), (ml, .inl (cI, 40, .inl Zi)), (x, .inr (4, [.ref g, .ref mr, .ref tb, .ref lo, .ref g3, .ref gr, .ref wi])), (g, .inr (0, [.ref w, .ref d, .int 1, .int 0]))] H := hP
  have hD : va_D A [(d, .inl (cI, 40, .inl Zi)), (mr, .inr (1, [.ref mh, .ref mc, .ref md, .ref ml, .ref mn])), (mh, .inl (cI, 40, .inl Zi)), (mc, .inl (cI, 40, .inl Zi)), (md, .inl (cI, 40, .inl Zi)), (ml, .inl (cI, 40, .inl Zi)), (x, .inr (4, [.ref g, .ref mr, .ref tb, .ref lo, .ref g3, .ref gr, .ref wi])), (g, .inr (0, [.ref w, .ref d, .int 1, .int 0]))] := hD
  refine lv_aload_n hx hb dX4_gain_10 rfl (lv_at hl 0 rfl) ?_
  refine va_get (D := (dC, dI)) (ci := 4) (v := .ref mr) (C := RX4) (T := TX4) (N := 7) hx hb hts i_4 hown hK hP 6 rfl rfl 1 (by decide) k_0 (fun _ h9 => h9) rfl dX4_gain_11 ?_
  refine lv_aload_n hx hb dX4_gain_14 rfl (lv_at hl 0 rfl) ?_
  refine va_get (D := (dC, dI)) (ci := 4) (v := .ref g) (C := RX4) (T := TX4) (N := 7) hx hb hts i_4 hown hK hP 6 rfl rfl 0 (by decide) k_1 (fun _ h9 => h9) rfl dX4_gain_15 ?_
  have hPc := hP.sub (ws' := [(mr, .inr (1, [.ref mh, .ref mc, .ref md, .ref ml, .ref mn])), (mh, .inl (cI, 40, .inl Zi)), (mc, .inl (cI, 40, .inl Zi)), (md, .inl (cI, 40, .inl Zi)), (g, .inr (0, [.ref w, .ref d, .int 1, .int 0])), (d, .inl (cI, 40, .inl Zi))]) [1, 2, 3, 4, 7, 0] rfl
  have hDc := hD.sub (ws' := [(mr, .inr (1, [.ref mh, .ref mc, .ref md, .ref ml, .ref mn])), (mh, .inl (cI, 40, .inl Zi)), (mc, .inl (cI, 40, .inl Zi)), (md, .inl (cI, 40, .inl Zi)), (g, .inr (0, [.ref w, .ref d, .int 1, .int 0])), (d, .inl (cI, 40, .inl Zi))]) [1, 2, 3, 4, 7, 0] (by decide) rfl
  have hFc := va_free (wc := [(mr, .inr (1, [.ref mh, .ref mc, .ref md, .ref ml, .ref mn])), (mh, .inl (cI, 40, .inl Zi)), (mc, .inl (cI, 40, .inl Zi)), (md, .inl (cI, 40, .inl Zi)), (g, .inr (0, [.ref w, .ref d, .int 1, .int 0])), (d, .inl (cI, 40, .inl Zi))]) hD hS hA [1, 2, 3, 4, 7, 0] rfl
  refine va_callv (va_runV (As := [.ref g]) (rest := []) ⟨hx, hb, hml, hown, hts⟩ (c_X1_tally l dC dI cI cJ mr mh mc md ml mn g w d H.size Zi Zi Zi (by first | rfl | exact hz | decide)) (cwV 1 hts gX4_gain_X1_tally rfl rfl rfl (by decide +kernel) ⟨Nat.le_of_ble_eq_true rfl, Nat.le_of_ble_eq_true rfl⟩) ⟨fun a U g mk q => by obtain ⟨q0, q1, qP, qK, qD⟩ := q; exact ⟨q0, q1, qP, va_K.moved (u := U) (U := U.calling g mk a) (Vm.Alike.refl U.vm) qK, qD⟩, va_recv hK hPc (ci := 1) (q0 := 0) rfl rfl, fun U hU hW => ⟨rfl, by rw [hU], by rw [hU]; exact hPc, va_K.moved hW.alike hK, hDc.weaken (fun _ _ _ _ => trivial)⟩⟩ rfl rfl hl.1 rfl (lv_room (Nat.le_of_ble_eq_true rfl)) dX4_gain_18 ⟨Nat.le_of_ble_eq_true rfl, Nat.le_of_ble_eq_true rfl⟩) hS (fun q _ h => hFc q h) hFc (fun u_6 t H1 locs ht hvm hw hB hz1 hk1 hS => ?_)
  obtain ⟨hP1, hD1⟩ := hB
  rw [ht] at hP1
  obtain ⟨hP, hD⟩ := va_join (wr := [(ml, .inl (cI, 40, .inl Zi)), (x, .inr (4, [.ref g, .ref mr, .ref tb, .ref lo, .ref g3, .ref gr, .ref wi]))]) (w1 := [(mr, .inr (1, [.ref mh, .ref mc, .ref md, .ref ml, .ref mn])), (mh, .inl (cI, 40, .inl Zi)), (mc, .inl (cI, 40, .inl (upd Zi 0 1))), (md, .inl (cI, 40, .inl (upd Zi 0 0))), (g, .inr (0, [.ref w, .ref d, .int 1, .int 0])), (d, .inl (cI, 40, .inl Zi))]) hP hD [1, 2, 3, 4, 7, 0] [5, 6] rfl rfl (by decide) (by decide) hk1 hFc hP1 hD1
  generalize H1 = H at hP hS ⊢
  have hP : va_P (dC, dI) vwCl [(ml, .inl (cI, 40, .inl Zi)), (x, .inr (4, [.ref g, .ref mr, .ref tb, .ref lo, .ref g3, .ref gr, .ref wi])), (mr, .inr (1, [.ref mh, .ref mc, .ref md, .ref ml, .ref mn])), (mh, .inl (cI, 40, .inl Zi)), (mc, .inl (cI, 40, .inl (upd Zi 0 1))), (md, .inl (cI, 40, .inl (upd Zi 0 0))), (g, .inr (0, [.ref w, .ref d, .int 1, .int 0])), (d, .inl (cI, 40, .inl Zi))] H := hP
  have hD : va_D A [(ml, .inl (cI, 40, .inl Zi)), (x, .inr (4, [.ref g, .ref mr, .ref tb, .ref lo, .ref g3, .ref gr, .ref wi])), (mr, .inr (1, [.ref mh, .ref mc, .ref md, .ref ml, .ref mn])), (mh, .inl (cI, 40, .inl Zi)), (mc, .inl (cI, 40, .inl (upd Zi 0 1))), (md, .inl (cI, 40, .inl (upd Zi 0 0))), (g, .inr (0, [.ref w, .ref d, .int 1, .int 0])), (d, .inl (cI, 40, .inl Zi))] := hD
  refine lv_aload_n hx hb dX4_gain_21 rfl (lv_at hl 0 rfl) ?_
  refine va_get (D := (dC, dI)) (ci := 4) (v := .ref mr) (C := RX4) (T := TX4) (N := 7) hx hb hts i_4 hown hK hP 1 rfl rfl 1 (by decide) k_0 (fun _ h9 => h9) rfl dX4_gain_22 ?_
  refine lv_aload_n hx hb dX4_gain_25 rfl (lv_at hl 0 rfl) ?_
  refine va_get (D := (dC, dI)) (ci := 4) (v := .ref g) (C := RX4) (T := TX4) (N := 7) hx hb hts i_4 hown hK hP 1 rfl rfl 0 (by decide) k_1 (fun _ h9 => h9) rfl dX4_gain_26 ?_
  refine lv_iload_n hx hb dX4_gain_29 rfl (lv_at hl 1 rfl) ?_
  have hPc := hP.sub (ws' := [(mr, .inr (1, [.ref mh, .ref mc, .ref md, .ref ml, .ref mn])), (ml, .inl (cI, 40, .inl Zi)), (g, .inr (0, [.ref w, .ref d, .int 1, .int 0]))]) [2, 0, 6] rfl
  have hDc := hD.sub (ws' := [(mr, .inr (1, [.ref mh, .ref mc, .ref md, .ref ml, .ref mn])), (ml, .inl (cI, 40, .inl Zi)), (g, .inr (0, [.ref w, .ref d, .int 1, .int 0]))]) [2, 0, 6] (by decide) rfl
  have hFc := va_free (wc := [(mr, .inr (1, [.ref mh, .ref mc, .ref md, .ref ml, .ref mn])), (ml, .inl (cI, 40, .inl Zi)), (g, .inr (0, [.ref w, .ref d, .int 1, .int 0]))]) hD hS hA [2, 0, 6] rfl
  refine va_callv (va_runV (As := [.ref g, .int 0]) (rest := []) ⟨hx, hb, hml, hown, hts⟩ (c_X1_tie l dC dI cI cJ mr mh mc md ml mn g w d H.size Zi) (cwV 2 hts gX4_gain_X1_tie rfl rfl rfl (by decide +kernel) ⟨Nat.le_of_ble_eq_true rfl, Nat.le_of_ble_eq_true rfl⟩) ⟨fun a U g mk q => by obtain ⟨q0, q1, qP, qK, qD⟩ := q; exact ⟨q0, q1, qP, va_K.moved (u := U) (U := U.calling g mk a) (Vm.Alike.refl U.vm) qK, qD⟩, va_recv hK hPc (ci := 1) (q0 := 0) rfl rfl, fun U hU hW => ⟨rfl, by rw [hU], by rw [hU]; exact hPc, va_K.moved hW.alike hK, hDc.weaken (fun _ _ _ _ => trivial)⟩⟩ rfl rfl hl.1 rfl (lv_room (Nat.le_of_ble_eq_true rfl)) dX4_gain_30 ⟨Nat.le_of_ble_eq_true rfl, Nat.le_of_ble_eq_true rfl⟩) hS (fun q _ h => hFc q h) hFc (fun u_8 t H1 locs ht hvm hw hB hz1 hk1 hS => ?_)
  obtain ⟨hP1, hD1⟩ := hB
  rw [ht] at hP1
  obtain ⟨hP, hD⟩ := va_join (wr := [(x, .inr (4, [.ref g, .ref mr, .ref tb, .ref lo, .ref g3, .ref gr, .ref wi])), (mh, .inl (cI, 40, .inl Zi)), (mc, .inl (cI, 40, .inl (upd Zi 0 1))), (md, .inl (cI, 40, .inl (upd Zi 0 0))), (d, .inl (cI, 40, .inl Zi))]) (w1 := [(mr, .inr (1, [.ref mh, .ref mc, .ref md, .ref ml, .ref mn])), (ml, .inl (cI, 40, .inl Zi)), (g, .inr (0, [.ref w, .ref d, .int 1, .int 0]))]) hP hD [2, 0, 6] [1, 3, 4, 5, 7] rfl rfl (by decide) (by decide) hk1 hFc hP1 hD1
  generalize H1 = H at hP hS ⊢
  have hP : va_P (dC, dI) vwCl [(x, .inr (4, [.ref g, .ref mr, .ref tb, .ref lo, .ref g3, .ref gr, .ref wi])), (mh, .inl (cI, 40, .inl Zi)), (mc, .inl (cI, 40, .inl (upd Zi 0 1))), (md, .inl (cI, 40, .inl (upd Zi 0 0))), (d, .inl (cI, 40, .inl Zi)), (mr, .inr (1, [.ref mh, .ref mc, .ref md, .ref ml, .ref mn])), (ml, .inl (cI, 40, .inl Zi)), (g, .inr (0, [.ref w, .ref d, .int 1, .int 0]))] H := hP
  have hD : va_D A [(x, .inr (4, [.ref g, .ref mr, .ref tb, .ref lo, .ref g3, .ref gr, .ref wi])), (mh, .inl (cI, 40, .inl Zi)), (mc, .inl (cI, 40, .inl (upd Zi 0 1))), (md, .inl (cI, 40, .inl (upd Zi 0 0))), (d, .inl (cI, 40, .inl Zi)), (mr, .inr (1, [.ref mh, .ref mc, .ref md, .ref ml, .ref mn])), (ml, .inl (cI, 40, .inl Zi)), (g, .inr (0, [.ref w, .ref d, .int 1, .int 0]))] := hD
  refine lv_aload_n hx hb dX4_gain_33 rfl (lv_at hl 0 rfl) ?_
  refine va_get (D := (dC, dI)) (ci := 4) (v := .ref mr) (C := RX4) (T := TX4) (N := 7) hx hb hts i_4 hown hK hP 0 rfl rfl 1 (by decide) k_0 (fun _ h9 => h9) rfl dX4_gain_34 ?_
  refine lv_aload_n hx hb dX4_gain_37 rfl (lv_at hl 0 rfl) ?_
  refine va_get (D := (dC, dI)) (ci := 4) (v := .ref g) (C := RX4) (T := TX4) (N := 7) hx hb hts i_4 hown hK hP 0 rfl rfl 0 (by decide) k_1 (fun _ h9 => h9) rfl dX4_gain_38 ?_
  refine lv_iload_n hx hb dX4_gain_41 rfl (lv_at hl 1 rfl) ?_
  refine lv_iload_n hx hb dX4_gain_42 rfl (lv_at hl 2 rfl) ?_
  have hPc := hP.sub (ws' := [(mr, .inr (1, [.ref mh, .ref mc, .ref md, .ref ml, .ref mn])), (mh, .inl (cI, 40, .inl Zi)), (g, .inr (0, [.ref w, .ref d, .int 1, .int 0]))]) [5, 1, 7] rfl
  have hDc := hD.sub (ws' := [(mr, .inr (1, [.ref mh, .ref mc, .ref md, .ref ml, .ref mn])), (mh, .inl (cI, 40, .inl Zi)), (g, .inr (0, [.ref w, .ref d, .int 1, .int 0]))]) [5, 1, 7] (by decide) rfl
  have hFc := va_free (wc := [(mr, .inr (1, [.ref mh, .ref mc, .ref md, .ref ml, .ref mn])), (mh, .inl (cI, 40, .inl Zi)), (g, .inr (0, [.ref w, .ref d, .int 1, .int 0]))]) hD hS hA [5, 1, 7] rfl
  refine va_calll (va_runV (As := [.ref g, .int 0, .int 0]) (rest := []) ⟨hx, hb, hml, hown, hts⟩ (c_X1_gainInto l dC dI cI cJ mr mh mc md ml mn g w d H.size Zi (by first | rfl | exact hz | decide)) (cwV 3 hts gX4_gain_X1_gainInto rfl rfl rfl (by decide +kernel) ⟨Nat.le_of_ble_eq_true rfl, Nat.le_of_ble_eq_true rfl⟩) ⟨fun a U g mk q => by obtain ⟨q0, q1, qP, qK, qD⟩ := q; exact ⟨q0, q1, qP, va_K.moved (u := U) (U := U.calling g mk a) (Vm.Alike.refl U.vm) qK, qD⟩, va_recv hK hPc (ci := 1) (q0 := 0) rfl rfl, fun U hU hW => ⟨rfl, by rw [hU], by rw [hU]; exact hPc, va_K.moved hW.alike hK, hDc.weaken (fun _ _ _ _ => trivial)⟩⟩ rfl rfl hl.1 rfl (lv_room (Nat.le_of_ble_eq_true rfl)) dX4_gain_43 ⟨Nat.le_of_ble_eq_true rfl, Nat.le_of_ble_eq_true rfl⟩) hS (fun q _ h => hFc q h) hFc (fun r_9 u_10 t H1 locs ht hvm hw hB hz1 hk1 hS => ?_)
  obtain ⟨hP1, hD1⟩ := hB
  rw [ht] at hP1
  obtain ⟨hP, hD⟩ := va_join (wr := [(x, .inr (4, [.ref g, .ref mr, .ref tb, .ref lo, .ref g3, .ref gr, .ref wi])), (mc, .inl (cI, 40, .inl (upd Zi 0 1))), (md, .inl (cI, 40, .inl (upd Zi 0 0))), (d, .inl (cI, 40, .inl Zi)), (ml, .inl (cI, 40, .inl Zi))]) (w1 := [(mr, .inr (1, [.ref mh, .ref mc, .ref md, .ref ml, .ref mn])), (mh, .inl (cI, 40, .inl Zi)), (g, .inr (0, [.ref w, .ref d, .int 1, .int 0]))]) hP hD [5, 1, 7] [0, 2, 3, 4, 6] rfl rfl (by decide) (by decide) hk1 hFc hP1 hD1
  generalize H1 = H at hP hS ⊢
  have hP : va_P (dC, dI) vwCl [(x, .inr (4, [.ref g, .ref mr, .ref tb, .ref lo, .ref g3, .ref gr, .ref wi])), (mc, .inl (cI, 40, .inl (upd Zi 0 1))), (md, .inl (cI, 40, .inl (upd Zi 0 0))), (d, .inl (cI, 40, .inl Zi)), (ml, .inl (cI, 40, .inl Zi)), (mr, .inr (1, [.ref mh, .ref mc, .ref md, .ref ml, .ref mn])), (mh, .inl (cI, 40, .inl Zi)), (g, .inr (0, [.ref w, .ref d, .int 1, .int 0]))] H := hP
  have hD : va_D A [(x, .inr (4, [.ref g, .ref mr, .ref tb, .ref lo, .ref g3, .ref gr, .ref wi])), (mc, .inl (cI, 40, .inl (upd Zi 0 1))), (md, .inl (cI, 40, .inl (upd Zi 0 0))), (d, .inl (cI, 40, .inl Zi)), (ml, .inl (cI, 40, .inl Zi)), (mr, .inr (1, [.ref mh, .ref mc, .ref md, .ref ml, .ref mn])), (mh, .inl (cI, 40, .inl Zi)), (g, .inr (0, [.ref w, .ref d, .int 1, .int 0]))] := hD
  obtain rfl : r_9 = 0 := hw
  have hP9 := hP.sub (ws' := []) [] rfl
  have hD9 := hD.sub (ws' := []) [] (by decide) rfl
  exact W.lret (v := 0) hx hb hr (fun t ht hW => ⟨⟨_, (), rfl, rfl, by rw [ht]; exact hP9, hD9⟩, hS.F ht⟩) hS.2.2 dX4_gain_46
set_option maxHeartbeats 4000000 in
set_option maxRecDepth 100000 in
theorem c_X4_place_b1 (l : Launch) (hno : l.stackTraces = false) (dC : Nat → ClassId) (dI : Nat → Nat → Nat) (cI cJ : ClassId) (x g mr tb lo g3 gr wi w d : Nat) (sz : Nat) (n : Int32) (n1 : Int32) (hn : n < 0 ∨ 1 ≤ n) : vx_Met l yX4_place wsX4_place ({ frames := 7, cells := 1, slots := 6, locals := 103 }) (va_Pc [.ref x, .int n, .int n1] (pPreX dC dI cI cJ sz [(x, .inr (4, [.ref g, .ref mr, .ref tb, .ref lo, .ref g3, .ref gr, .ref wi])), (g, .inr (0, [.ref w, .ref d, .int 1, .int 0]))])) (va_Qi (fun (_ : Int32) (_ : Unit) => False) (fun _ _ => True) (va_A [(x, .inr (4, [.ref g, .ref mr, .ref tb, .ref lo, .ref g3, .ref gr, .ref wi])), (g, .inr (0, [.ref w, .ref d, .int 1, .int 0]))] sz)) (vx_X (fun _ : Unit => True) (fun E _ _ => E = "java/lang/IndexOutOfBoundsException") (va_A [(x, .inr (4, [.ref g, .ref mr, .ref tb, .ref lo, .ref g3, .ref gr, .ref wi])), (g, .inr (0, [.ref w, .ref d, .int 1, .int 0]))] sz)) 1 6 (va_A [(x, .inr (4, [.ref g, .ref mr, .ref tb, .ref lo, .ref g3, .ref gr, .ref wi])), (g, .inr (0, [.ref w, .ref d, .int 1, .int 0]))] sz) := by
  refine vx_ofW (cc := cX4_place) (maxL := 4) (ret := (some .int)) (by decide) rfl ?_
  intro p e s m args below meth c s₁ B hml htab hv
  obtain ⟨rfl, hsz, hP, hK, hD0, hX⟩ := hv
  have hx := B.exec
  have hb := B.bytes
  have hr := B.returns
  have hts := atoms_spec (ws := wsX4_place) B.pre
  have hown : s.vm.findClass RX4 = some m.cls := findClass_of_methodNamed B.named
  have hlocks := B.notSynchronized
  subst hsz
  have hD := hD0.self (sz := s.heap.size)
  generalize hAe : va_A [(x, .inr (4, [.ref g, .ref mr, .ref tb, .ref lo, .ref g3, .ref gr, .ref wi])), (g, .inr (0, [.ref w, .ref d, .int 1, .int 0]))] s.heap.size = A at hD hX ⊢
  have hA : ∀ q : Nat, s.heap.size ≤ q → A q := fun q h => by rw [← hAe]; exact Or.inr h
  have hS : va_S A s.heap s.heap [] := va_S.rf
  have hP : va_P (dC, dI) vwCl [(x, .inr (4, [.ref g, .ref mr, .ref tb, .ref lo, .ref g3, .ref gr, .ref wi])), (g, .inr (0, [.ref w, .ref d, .int 1, .int 0]))] s.heap := hP
  have hl := lv_entry ([.ref x, .int n, .int n1]) (n := 4) (Nat.le_of_ble_eq_true rfl)
  rw [lg_entry_eq]
  generalize (lg_sl ([.ref x, .int n, .int n1]) ++ List.replicate (4 - (lg_sl ([.ref x, .int n, .int n1])).length) Slot.unset).toArray = ls at hl ⊢
  have hl : lv_has ls 4 [(0, .ref x), (1, .int n), (2, .int n1)] := hl
  refine lv_aload_n hx hb dX4_place_0 rfl (lv_at hl 0 rfl) ?_
  refine lv_iload_n hx hb dX4_place_1 rfl (lv_at hl 1 rfl) ?_
  have hPc := hP.sub (ws' := [(x, .inr (4, [.ref g, .ref mr, .ref tb, .ref lo, .ref g3, .ref gr, .ref wi])), (g, .inr (0, [.ref w, .ref d, .int 1, .int 0]))]) [0, 1] rfl
  have hDc := hD.sub (ws' := [(x, .inr (4, [.ref g, .ref mr, .ref tb, .ref lo, .ref g3, .ref gr, .ref wi])), (g, .inr (0, [.ref w, .ref d, .int 1, .int 0]))]) [0, 1] (by decide) rfl
  have hFc := va_free (wc := [(x, .inr (4, [.ref g, .ref mr, .ref tb, .ref lo, .ref g3, .ref gr, .ref wi])), (g, .inr (0, [.ref w, .ref d, .int 1, .int 0]))]) hD hS hA [0, 1] rfl
  refine vx_callv (vx_runV (As := [.int n]) (rest := []) ⟨hx, hb, hml, hown, hts⟩ (c_X4_requireNode_bad l hno dC dI cI cJ x g mr tb lo g3 gr wi w d s.heap.size n hn) (cwV 1 hts gX4_place_X4_requireNode rfl rfl rfl (by decide +kernel) ⟨Nat.le_of_ble_eq_true rfl, Nat.le_of_ble_eq_true rfl⟩) ⟨fun a U g mk q => by obtain ⟨q0, q1, qP, qK, qD, qX⟩ := q; exact ⟨q0, q1, qP, va_K.moved (u := U) (U := U.calling g mk a) (Vm.Alike.refl U.vm) qK, qD, qX.moved (State.WarmedH.refl U)⟩, va_recv hK hPc (ci := 4) (q0 := 0) rfl rfl, fun U hU hW => ⟨rfl, by rw [hU], by rw [hU]; exact hPc, va_K.moved hW.alike hK, hDc.weaken (fun _ _ _ _ => trivial), by rw [hU]; exact ((hX.kept hS.2.1).narrow hFc).moved hW⟩⟩ rfl rfl hl.1 rfl (lv_room (Nat.le_of_ble_eq_true rfl)) dX4_place_2 ⟨Nat.le_of_ble_eq_true rfl, Nat.le_of_ble_eq_true rfl⟩) hS (fun q _ h => hFc q h) hFc (fun q _ h => hFc q h) (fun E9 ce9 q9 u9 t H1 locs ht hvm hw hB hz1 hk1 hS hce hcv hcl => ?_) (fun u_2 t H1 locs ht hvm hw hB hz1 hk1 hS => ?_)
  · skip
    refine vx_out (fun x h => (htab x h).elim) hlocks hce hcv hcl (fun t9 ht9 _ => ⟨(), trivial, hB, hS.F ht9⟩) hS.2.2 (Nat.le_of_ble_eq_true rfl) (Nat.le_of_ble_eq_true rfl)
  · exact hw.elim
set_option maxHeartbeats 4000000 in
set_option maxRecDepth 100000 in
theorem c_X4_place_b2 (l : Launch) (hno : l.stackTraces = false) (dC : Nat → ClassId) (dI : Nat → Nat → Nat) (cI cJ : ClassId) (x g mr tb lo g3 gr wi w d : Nat) (sz : Nat) (n : Int32) (hn : n < 0 ∨ 1 ≤ n) : vx_Met l yX4_place wsX4_place ({ frames := 7, cells := 1, slots := 6, locals := 103 }) (va_Pc [.ref x, .int 0, .int n] (pPreX dC dI cI cJ sz [(x, .inr (4, [.ref g, .ref mr, .ref tb, .ref lo, .ref g3, .ref gr, .ref wi])), (g, .inr (0, [.ref w, .ref d, .int 1, .int 0]))])) (va_Qi (fun (_ : Int32) (_ : Unit) => False) (fun _ _ => True) (va_A [(x, .inr (4, [.ref g, .ref mr, .ref tb, .ref lo, .ref g3, .ref gr, .ref wi])), (g, .inr (0, [.ref w, .ref d, .int 1, .int 0]))] sz)) (vx_X (fun _ : Unit => True) (fun E _ _ => E = "java/lang/IndexOutOfBoundsException") (va_A [(x, .inr (4, [.ref g, .ref mr, .ref tb, .ref lo, .ref g3, .ref gr, .ref wi])), (g, .inr (0, [.ref w, .ref d, .int 1, .int 0]))] sz)) 1 6 (va_A [(x, .inr (4, [.ref g, .ref mr, .ref tb, .ref lo, .ref g3, .ref gr, .ref wi])), (g, .inr (0, [.ref w, .ref d, .int 1, .int 0]))] sz) := by
  refine vx_ofW (cc := cX4_place) (maxL := 4) (ret := (some .int)) (by decide) rfl ?_
  intro p e s m args below meth c s₁ B hml htab hv
  obtain ⟨rfl, hsz, hP, hK, hD0, hX⟩ := hv
  have hx := B.exec
  have hb := B.bytes
  have hr := B.returns
  have hts := atoms_spec (ws := wsX4_place) B.pre
  have hown : s.vm.findClass RX4 = some m.cls := findClass_of_methodNamed B.named
  have hlocks := B.notSynchronized
  subst hsz
  have hD := hD0.self (sz := s.heap.size)
  generalize hAe : va_A [(x, .inr (4, [.ref g, .ref mr, .ref tb, .ref lo, .ref g3, .ref gr, .ref wi])), (g, .inr (0, [.ref w, .ref d, .int 1, .int 0]))] s.heap.size = A at hD hX ⊢
  have hA : ∀ q : Nat, s.heap.size ≤ q → A q := fun q h => by rw [← hAe]; exact Or.inr h
  have hS : va_S A s.heap s.heap [] := va_S.rf
  have hP : va_P (dC, dI) vwCl [(x, .inr (4, [.ref g, .ref mr, .ref tb, .ref lo, .ref g3, .ref gr, .ref wi])), (g, .inr (0, [.ref w, .ref d, .int 1, .int 0]))] s.heap := hP
  have hl := lv_entry ([.ref x, .int 0, .int n]) (n := 4) (Nat.le_of_ble_eq_true rfl)
  rw [lg_entry_eq]
  generalize (lg_sl ([.ref x, .int 0, .int n]) ++ List.replicate (4 - (lg_sl ([.ref x, .int 0, .int n])).length) Slot.unset).toArray = ls at hl ⊢
  have hl : lv_has ls 4 [(0, .ref x), (1, .int 0), (2, .int n)] := hl
  refine lv_aload_n hx hb dX4_place_0 rfl (lv_at hl 0 rfl) ?_
  refine lv_iload_n hx hb dX4_place_1 rfl (lv_at hl 1 rfl) ?_
  have hPc := hP.sub (ws' := [(x, .inr (4, [.ref g, .ref mr, .ref tb, .ref lo, .ref g3, .ref gr, .ref wi])), (g, .inr (0, [.ref w, .ref d, .int 1, .int 0]))]) [0, 1] rfl
  have hDc := hD.sub (ws' := [(x, .inr (4, [.ref g, .ref mr, .ref tb, .ref lo, .ref g3, .ref gr, .ref wi])), (g, .inr (0, [.ref w, .ref d, .int 1, .int 0]))]) [0, 1] (by decide) rfl
  have hFc := va_free (wc := [(x, .inr (4, [.ref g, .ref mr, .ref tb, .ref lo, .ref g3, .ref gr, .ref wi])), (g, .inr (0, [.ref w, .ref d, .int 1, .int 0]))]) hD hS hA [0, 1] rfl
  refine va_callv (va_runV (As := [.int 0]) (rest := []) ⟨hx, hb, hml, hown, hts⟩ (c_X4_requireNode l dC dI cI cJ x g mr tb lo g3 gr wi w d s.heap.size) (cwV 1 hts gX4_place_X4_requireNode rfl rfl rfl (by decide +kernel) ⟨Nat.le_of_ble_eq_true rfl, Nat.le_of_ble_eq_true rfl⟩) ⟨fun a U g mk q => by obtain ⟨q0, q1, qP, qK, qD⟩ := q; exact ⟨q0, q1, qP, va_K.moved (u := U) (U := U.calling g mk a) (Vm.Alike.refl U.vm) qK, qD⟩, va_recv hK hPc (ci := 4) (q0 := 0) rfl rfl, fun U hU hW => ⟨rfl, by rw [hU], by rw [hU]; exact hPc, va_K.moved hW.alike hK, hDc.weaken (fun _ _ _ _ => trivial)⟩⟩ rfl rfl hl.1 rfl (lv_room (Nat.le_of_ble_eq_true rfl)) dX4_place_2 ⟨Nat.le_of_ble_eq_true rfl, Nat.le_of_ble_eq_true rfl⟩) hS (fun q _ h => hFc q h) hFc (fun u_2 t H1 locs ht hvm hw hB hz1 hk1 hS => ?_)
  obtain ⟨hP1, hD1⟩ := hB
  rw [ht] at hP1
  obtain ⟨hP, hD⟩ := va_join (wr := []) (w1 := [(x, .inr (4, [.ref g, .ref mr, .ref tb, .ref lo, .ref g3, .ref gr, .ref wi])), (g, .inr (0, [.ref w, .ref d, .int 1, .int 0]))]) hP hD [0, 1] [] rfl rfl (by decide) (by decide) hk1 hFc hP1 hD1
  generalize H1 = H at hP hS ⊢
  have hP : va_P (dC, dI) vwCl [(x, .inr (4, [.ref g, .ref mr, .ref tb, .ref lo, .ref g3, .ref gr, .ref wi])), (g, .inr (0, [.ref w, .ref d, .int 1, .int 0]))] H := hP
  have hD : va_D A [(x, .inr (4, [.ref g, .ref mr, .ref tb, .ref lo, .ref g3, .ref gr, .ref wi])), (g, .inr (0, [.ref w, .ref d, .int 1, .int 0]))] := hD
  refine lv_aload_n hx hb dX4_place_5 rfl (lv_at hl 0 rfl) ?_
  refine lv_iload_n hx hb dX4_place_6 rfl (lv_at hl 2 rfl) ?_
  have hPc := hP.sub (ws' := [(x, .inr (4, [.ref g, .ref mr, .ref tb, .ref lo, .ref g3, .ref gr, .ref wi])), (g, .inr (0, [.ref w, .ref d, .int 1, .int 0]))]) [0, 1] rfl
  have hDc := hD.sub (ws' := [(x, .inr (4, [.ref g, .ref mr, .ref tb, .ref lo, .ref g3, .ref gr, .ref wi])), (g, .inr (0, [.ref w, .ref d, .int 1, .int 0]))]) [0, 1] (by decide) rfl
  have hFc := va_free (wc := [(x, .inr (4, [.ref g, .ref mr, .ref tb, .ref lo, .ref g3, .ref gr, .ref wi])), (g, .inr (0, [.ref w, .ref d, .int 1, .int 0]))]) hD hS hA [0, 1] rfl
  refine vx_callv (vx_runV (As := [.int n]) (rest := []) ⟨hx, hb, hml, hown, hts⟩ (c_X4_requireCommunity_bad l hno dC dI cI cJ x g mr tb lo g3 gr wi w d H.size n hn) (cwV 1 hts gX4_place_X4_requireCommunity rfl rfl rfl (by decide +kernel) ⟨Nat.le_of_ble_eq_true rfl, Nat.le_of_ble_eq_true rfl⟩) ⟨fun a U g mk q => by obtain ⟨q0, q1, qP, qK, qD, qX⟩ := q; exact ⟨q0, q1, qP, va_K.moved (u := U) (U := U.calling g mk a) (Vm.Alike.refl U.vm) qK, qD, qX.moved (State.WarmedH.refl U)⟩, va_recv hK hPc (ci := 4) (q0 := 0) rfl rfl, fun U hU hW => ⟨rfl, by rw [hU], by rw [hU]; exact hPc, va_K.moved hW.alike hK, hDc.weaken (fun _ _ _ _ => trivial), by rw [hU]; exact ((hX.kept hS.2.1).narrow hFc).moved hW⟩⟩ rfl rfl hl.1 rfl (lv_room (Nat.le_of_ble_eq_true rfl)) dX4_place_7 ⟨Nat.le_of_ble_eq_true rfl, Nat.le_of_ble_eq_true rfl⟩) hS (fun q _ h => hFc q h) hFc (fun q _ h => hFc q h) (fun E9 ce9 q9 u9 t H1 locs ht hvm hw hB hz1 hk1 hS hce hcv hcl => ?_) (fun u_4 t H1 locs ht hvm hw hB hz1 hk1 hS => ?_)
  · skip
    refine vx_out (fun x h => (htab x h).elim) hlocks hce hcv hcl (fun t9 ht9 _ => ⟨(), trivial, hB, hS.F ht9⟩) hS.2.2 (Nat.le_of_ble_eq_true rfl) (Nat.le_of_ble_eq_true rfl)
  · exact hw.elim
set_option maxHeartbeats 4000000 in
set_option maxRecDepth 100000 in
theorem c_X4_gain_b1 (l : Launch) (hno : l.stackTraces = false) (dC : Nat → ClassId) (dI : Nat → Nat → Nat) (cI cJ : ClassId) (x g mr tb lo g3 gr wi w d : Nat) (sz : Nat) (n : Int32) (n1 : Int32) (hn : n < 0 ∨ 1 ≤ n) : vx_Met l yX4_gain wsX4_gain ({ frames := 7, cells := 1, slots := 6, locals := 103 }) (va_Pc [.ref x, .int n, .int n1] (pPreX dC dI cI cJ sz [(x, .inr (4, [.ref g, .ref mr, .ref tb, .ref lo, .ref g3, .ref gr, .ref wi])), (g, .inr (0, [.ref w, .ref d, .int 1, .int 0]))])) (va_Ql (fun (_ : Int64) (_ : Unit) => False) (fun _ _ => True) (va_A [(x, .inr (4, [.ref g, .ref mr, .ref tb, .ref lo, .ref g3, .ref gr, .ref wi])), (g, .inr (0, [.ref w, .ref d, .int 1, .int 0]))] sz)) (vx_X (fun _ : Unit => True) (fun E _ _ => E = "java/lang/IndexOutOfBoundsException") (va_A [(x, .inr (4, [.ref g, .ref mr, .ref tb, .ref lo, .ref g3, .ref gr, .ref wi])), (g, .inr (0, [.ref w, .ref d, .int 1, .int 0]))] sz)) 1 6 (va_A [(x, .inr (4, [.ref g, .ref mr, .ref tb, .ref lo, .ref g3, .ref gr, .ref wi])), (g, .inr (0, [.ref w, .ref d, .int 1, .int 0]))] sz) := by
  refine vx_ofW (cc := cX4_gain) (maxL := 3) (ret := (some .long)) (by decide) rfl ?_
  intro p e s m args below meth c s₁ B hml htab hv
  obtain ⟨rfl, hsz, hP, hK, hD0, hX⟩ := hv
  have hx := B.exec
  have hb := B.bytes
  have hr := B.returns
  have hts := atoms_spec (ws := wsX4_gain) B.pre
  have hown : s.vm.findClass RX4 = some m.cls := findClass_of_methodNamed B.named
  have hlocks := B.notSynchronized
  subst hsz
  have hD := hD0.self (sz := s.heap.size)
  generalize hAe : va_A [(x, .inr (4, [.ref g, .ref mr, .ref tb, .ref lo, .ref g3, .ref gr, .ref wi])), (g, .inr (0, [.ref w, .ref d, .int 1, .int 0]))] s.heap.size = A at hD hX ⊢
  have hA : ∀ q : Nat, s.heap.size ≤ q → A q := fun q h => by rw [← hAe]; exact Or.inr h
  have hS : va_S A s.heap s.heap [] := va_S.rf
  have hP : va_P (dC, dI) vwCl [(x, .inr (4, [.ref g, .ref mr, .ref tb, .ref lo, .ref g3, .ref gr, .ref wi])), (g, .inr (0, [.ref w, .ref d, .int 1, .int 0]))] s.heap := hP
  have hl := lv_entry ([.ref x, .int n, .int n1]) (n := 3) (Nat.le_of_ble_eq_true rfl)
  rw [lg_entry_eq]
  generalize (lg_sl ([.ref x, .int n, .int n1]) ++ List.replicate (3 - (lg_sl ([.ref x, .int n, .int n1])).length) Slot.unset).toArray = ls at hl ⊢
  have hl : lv_has ls 3 [(0, .ref x), (1, .int n), (2, .int n1)] := hl
  refine lv_aload_n hx hb dX4_gain_0 rfl (lv_at hl 0 rfl) ?_
  refine lv_iload_n hx hb dX4_gain_1 rfl (lv_at hl 1 rfl) ?_
  have hPc := hP.sub (ws' := [(x, .inr (4, [.ref g, .ref mr, .ref tb, .ref lo, .ref g3, .ref gr, .ref wi])), (g, .inr (0, [.ref w, .ref d, .int 1, .int 0]))]) [0, 1] rfl
  have hDc := hD.sub (ws' := [(x, .inr (4, [.ref g, .ref mr, .ref tb, .ref lo, .ref g3, .ref gr, .ref wi])), (g, .inr (0, [.ref w, .ref d, .int 1, .int 0]))]) [0, 1] (by decide) rfl
  have hFc := va_free (wc := [(x, .inr (4, [.ref g, .ref mr, .ref tb, .ref lo, .ref g3, .ref gr, .ref wi])), (g, .inr (0, [.ref w, .ref d, .int 1, .int 0]))]) hD hS hA [0, 1] rfl
  refine vx_callv (vx_runV (As := [.int n]) (rest := []) ⟨hx, hb, hml, hown, hts⟩ (c_X4_requireNode_bad l hno dC dI cI cJ x g mr tb lo g3 gr wi w d s.heap.size n hn) (cwV 1 hts gX4_gain_X4_requireNode rfl rfl rfl (by decide +kernel) ⟨Nat.le_of_ble_eq_true rfl, Nat.le_of_ble_eq_true rfl⟩) ⟨fun a U g mk q => by obtain ⟨q0, q1, qP, qK, qD, qX⟩ := q; exact ⟨q0, q1, qP, va_K.moved (u := U) (U := U.calling g mk a) (Vm.Alike.refl U.vm) qK, qD, qX.moved (State.WarmedH.refl U)⟩, va_recv hK hPc (ci := 4) (q0 := 0) rfl rfl, fun U hU hW => ⟨rfl, by rw [hU], by rw [hU]; exact hPc, va_K.moved hW.alike hK, hDc.weaken (fun _ _ _ _ => trivial), by rw [hU]; exact ((hX.kept hS.2.1).narrow hFc).moved hW⟩⟩ rfl rfl hl.1 rfl (lv_room (Nat.le_of_ble_eq_true rfl)) dX4_gain_2 ⟨Nat.le_of_ble_eq_true rfl, Nat.le_of_ble_eq_true rfl⟩) hS (fun q _ h => hFc q h) hFc (fun q _ h => hFc q h) (fun E9 ce9 q9 u9 t H1 locs ht hvm hw hB hz1 hk1 hS hce hcv hcl => ?_) (fun u_2 t H1 locs ht hvm hw hB hz1 hk1 hS => ?_)
  · skip
    refine vx_out (fun x h => (htab x h).elim) hlocks hce hcv hcl (fun t9 ht9 _ => ⟨(), trivial, hB, hS.F ht9⟩) hS.2.2 (Nat.le_of_ble_eq_true rfl) (Nat.le_of_ble_eq_true rfl)
  · exact hw.elim
set_option maxHeartbeats 4000000 in
set_option maxRecDepth 100000 in
theorem c_X4_gain_b2 (l : Launch) (hno : l.stackTraces = false) (dC : Nat → ClassId) (dI : Nat → Nat → Nat) (cI cJ : ClassId) (x g mr tb lo g3 gr wi w d : Nat) (sz : Nat) (n : Int32) (hn : n < 0 ∨ 1 ≤ n) : vx_Met l yX4_gain wsX4_gain ({ frames := 7, cells := 1, slots := 6, locals := 103 }) (va_Pc [.ref x, .int 0, .int n] (pPreX dC dI cI cJ sz [(x, .inr (4, [.ref g, .ref mr, .ref tb, .ref lo, .ref g3, .ref gr, .ref wi])), (g, .inr (0, [.ref w, .ref d, .int 1, .int 0]))])) (va_Ql (fun (_ : Int64) (_ : Unit) => False) (fun _ _ => True) (va_A [(x, .inr (4, [.ref g, .ref mr, .ref tb, .ref lo, .ref g3, .ref gr, .ref wi])), (g, .inr (0, [.ref w, .ref d, .int 1, .int 0]))] sz)) (vx_X (fun _ : Unit => True) (fun E _ _ => E = "java/lang/IndexOutOfBoundsException") (va_A [(x, .inr (4, [.ref g, .ref mr, .ref tb, .ref lo, .ref g3, .ref gr, .ref wi])), (g, .inr (0, [.ref w, .ref d, .int 1, .int 0]))] sz)) 1 6 (va_A [(x, .inr (4, [.ref g, .ref mr, .ref tb, .ref lo, .ref g3, .ref gr, .ref wi])), (g, .inr (0, [.ref w, .ref d, .int 1, .int 0]))] sz) := by
  refine vx_ofW (cc := cX4_gain) (maxL := 3) (ret := (some .long)) (by decide) rfl ?_
  intro p e s m args below meth c s₁ B hml htab hv
  obtain ⟨rfl, hsz, hP, hK, hD0, hX⟩ := hv
  have hx := B.exec
  have hb := B.bytes
  have hr := B.returns
  have hts := atoms_spec (ws := wsX4_gain) B.pre
  have hown : s.vm.findClass RX4 = some m.cls := findClass_of_methodNamed B.named
  have hlocks := B.notSynchronized
  subst hsz
  have hD := hD0.self (sz := s.heap.size)
  generalize hAe : va_A [(x, .inr (4, [.ref g, .ref mr, .ref tb, .ref lo, .ref g3, .ref gr, .ref wi])), (g, .inr (0, [.ref w, .ref d, .int 1, .int 0]))] s.heap.size = A at hD hX ⊢
  have hA : ∀ q : Nat, s.heap.size ≤ q → A q := fun q h => by rw [← hAe]; exact Or.inr h
  have hS : va_S A s.heap s.heap [] := va_S.rf
  have hP : va_P (dC, dI) vwCl [(x, .inr (4, [.ref g, .ref mr, .ref tb, .ref lo, .ref g3, .ref gr, .ref wi])), (g, .inr (0, [.ref w, .ref d, .int 1, .int 0]))] s.heap := hP
  have hl := lv_entry ([.ref x, .int 0, .int n]) (n := 3) (Nat.le_of_ble_eq_true rfl)
  rw [lg_entry_eq]
  generalize (lg_sl ([.ref x, .int 0, .int n]) ++ List.replicate (3 - (lg_sl ([.ref x, .int 0, .int n])).length) Slot.unset).toArray = ls at hl ⊢
  have hl : lv_has ls 3 [(0, .ref x), (1, .int 0), (2, .int n)] := hl
  refine lv_aload_n hx hb dX4_gain_0 rfl (lv_at hl 0 rfl) ?_
  refine lv_iload_n hx hb dX4_gain_1 rfl (lv_at hl 1 rfl) ?_
  have hPc := hP.sub (ws' := [(x, .inr (4, [.ref g, .ref mr, .ref tb, .ref lo, .ref g3, .ref gr, .ref wi])), (g, .inr (0, [.ref w, .ref d, .int 1, .int 0]))]) [0, 1] rfl
  have hDc := hD.sub (ws' := [(x, .inr (4, [.ref g, .ref mr, .ref tb, .ref lo, .ref g3, .ref gr, .ref wi])), (g, .inr (0, [.ref w, .ref d, .int 1, .int 0]))]) [0, 1] (by decide) rfl
  have hFc := va_free (wc := [(x, .inr (4, [.ref g, .ref mr, .ref tb, .ref lo, .ref g3, .ref gr, .ref wi])), (g, .inr (0, [.ref w, .ref d, .int 1, .int 0]))]) hD hS hA [0, 1] rfl
  refine va_callv (va_runV (As := [.int 0]) (rest := []) ⟨hx, hb, hml, hown, hts⟩ (c_X4_requireNode l dC dI cI cJ x g mr tb lo g3 gr wi w d s.heap.size) (cwV 1 hts gX4_gain_X4_requireNode rfl rfl rfl (by decide +kernel) ⟨Nat.le_of_ble_eq_true rfl, Nat.le_of_ble_eq_true rfl⟩) ⟨fun a U g mk q => by obtain ⟨q0, q1, qP, qK, qD⟩ := q; exact ⟨q0, q1, qP, va_K.moved (u := U) (U := U.calling g mk a) (Vm.Alike.refl U.vm) qK, qD⟩, va_recv hK hPc (ci := 4) (q0 := 0) rfl rfl, fun U hU hW => ⟨rfl, by rw [hU], by rw [hU]; exact hPc, va_K.moved hW.alike hK, hDc.weaken (fun _ _ _ _ => trivial)⟩⟩ rfl rfl hl.1 rfl (lv_room (Nat.le_of_ble_eq_true rfl)) dX4_gain_2 ⟨Nat.le_of_ble_eq_true rfl, Nat.le_of_ble_eq_true rfl⟩) hS (fun q _ h => hFc q h) hFc (fun u_2 t H1 locs ht hvm hw hB hz1 hk1 hS => ?_)
  obtain ⟨hP1, hD1⟩ := hB
  rw [ht] at hP1
  obtain ⟨hP, hD⟩ := va_join (wr := []) (w1 := [(x, .inr (4, [.ref g, .ref mr, .ref tb, .ref lo, .ref g3, .ref gr, .ref wi])), (g, .inr (0, [.ref w, .ref d, .int 1, .int 0]))]) hP hD [0, 1] [] rfl rfl (by decide) (by decide) hk1 hFc hP1 hD1
  generalize H1 = H at hP hS ⊢
  have hP : va_P (dC, dI) vwCl [(x, .inr (4, [.ref g, .ref mr, .ref tb, .ref lo, .ref g3, .ref gr, .ref wi])), (g, .inr (0, [.ref w, .ref d, .int 1, .int 0]))] H := hP
  have hD : va_D A [(x, .inr (4, [.ref g, .ref mr, .ref tb, .ref lo, .ref g3, .ref gr, .ref wi])), (g, .inr (0, [.ref w, .ref d, .int 1, .int 0]))] := hD
  refine lv_aload_n hx hb dX4_gain_5 rfl (lv_at hl 0 rfl) ?_
  refine lv_iload_n hx hb dX4_gain_6 rfl (lv_at hl 2 rfl) ?_
  have hPc := hP.sub (ws' := [(x, .inr (4, [.ref g, .ref mr, .ref tb, .ref lo, .ref g3, .ref gr, .ref wi])), (g, .inr (0, [.ref w, .ref d, .int 1, .int 0]))]) [0, 1] rfl
  have hDc := hD.sub (ws' := [(x, .inr (4, [.ref g, .ref mr, .ref tb, .ref lo, .ref g3, .ref gr, .ref wi])), (g, .inr (0, [.ref w, .ref d, .int 1, .int 0]))]) [0, 1] (by decide) rfl
  have hFc := va_free (wc := [(x, .inr (4, [.ref g, .ref mr, .ref tb, .ref lo, .ref g3, .ref gr, .ref wi])), (g, .inr (0, [.ref w, .ref d, .int 1, .int 0]))]) hD hS hA [0, 1] rfl
  refine vx_callv (vx_runV (As := [.int n]) (rest := []) ⟨hx, hb, hml, hown, hts⟩ (c_X4_requireCommunity_bad l hno dC dI cI cJ x g mr tb lo g3 gr wi w d H.size n hn) (cwV 1 hts gX4_gain_X4_requireCommunity rfl rfl rfl (by decide +kernel) ⟨Nat.le_of_ble_eq_true rfl, Nat.le_of_ble_eq_true rfl⟩) ⟨fun a U g mk q => by obtain ⟨q0, q1, qP, qK, qD, qX⟩ := q; exact ⟨q0, q1, qP, va_K.moved (u := U) (U := U.calling g mk a) (Vm.Alike.refl U.vm) qK, qD, qX.moved (State.WarmedH.refl U)⟩, va_recv hK hPc (ci := 4) (q0 := 0) rfl rfl, fun U hU hW => ⟨rfl, by rw [hU], by rw [hU]; exact hPc, va_K.moved hW.alike hK, hDc.weaken (fun _ _ _ _ => trivial), by rw [hU]; exact ((hX.kept hS.2.1).narrow hFc).moved hW⟩⟩ rfl rfl hl.1 rfl (lv_room (Nat.le_of_ble_eq_true rfl)) dX4_gain_7 ⟨Nat.le_of_ble_eq_true rfl, Nat.le_of_ble_eq_true rfl⟩) hS (fun q _ h => hFc q h) hFc (fun q _ h => hFc q h) (fun E9 ce9 q9 u9 t H1 locs ht hvm hw hB hz1 hk1 hS hce hcv hcl => ?_) (fun u_4 t H1 locs ht hvm hw hB hz1 hk1 hS => ?_)
  · skip
    refine vx_out (fun x h => (htab x h).elim) hlocks hce hcv hcl (fun t9 ht9 _ => ⟨(), trivial, hB, hS.F ht9⟩) hS.2.2 (Nat.le_of_ble_eq_true rfl) (Nat.le_of_ble_eq_true rfl)
  · exact hw.elim
set_option maxHeartbeats 4000000 in
set_option maxRecDepth 100000 in
theorem c_X4_about_0 (l : Launch) (dC : Nat → ClassId) (dI : Nat → Nat → Nat) (cI cJ : ClassId) (x g mr tb lo g3 gr wi w d : Nat) (sz : Nat) (n : Int32) : Met l yX4_about wsX4_about ({ frames := 0, cells := 0, slots := 0, locals := 0 }) (va_Pc [.ref x, .int 0, .int n] (pPre dC dI cI cJ sz [(x, .inr (4, [.ref g, .ref mr, .ref tb, .ref lo, .ref g3, .ref gr, .ref wi])), (g, .inr (0, [.ref w, .ref d, .int 1, .int 0]))])) (va_Qi (fun (r : Int32) (_ : Unit) => r = 1) (pPost dC dI (va_A [(x, .inr (4, [.ref g, .ref mr, .ref tb, .ref lo, .ref g3, .ref gr, .ref wi])), (g, .inr (0, [.ref w, .ref d, .int 1, .int 0]))] sz) []) (va_A [(x, .inr (4, [.ref g, .ref mr, .ref tb, .ref lo, .ref g3, .ref gr, .ref wi])), (g, .inr (0, [.ref w, .ref d, .int 1, .int 0]))] sz)) 0 0 (va_A [(x, .inr (4, [.ref g, .ref mr, .ref tb, .ref lo, .ref g3, .ref gr, .ref wi])), (g, .inr (0, [.ref w, .ref d, .int 1, .int 0]))] sz) := by
  refine Met.ofW (cc := cX4_about) (maxL := 3) (ret := (some .int)) (by decide) rfl ?_
  intro p e s m args below meth c s₁ B hml hv
  obtain ⟨rfl, hsz, hP, hK, hD0⟩ := hv
  have hx := B.exec
  have hb := B.bytes
  have hr := B.returns
  have hts := atoms_spec (ws := wsX4_about) B.pre
  have hown : s.vm.findClass RX4 = some m.cls := findClass_of_methodNamed B.named
  have hlocks := B.notSynchronized
  subst hsz
  have hD := hD0.self (sz := s.heap.size)
  generalize hAe : va_A [(x, .inr (4, [.ref g, .ref mr, .ref tb, .ref lo, .ref g3, .ref gr, .ref wi])), (g, .inr (0, [.ref w, .ref d, .int 1, .int 0]))] s.heap.size = A at hD ⊢
  have hA : ∀ q : Nat, s.heap.size ≤ q → A q := fun q h => by rw [← hAe]; exact Or.inr h
  have hS : va_S A s.heap s.heap [] := va_S.rf
  have hP : va_P (dC, dI) vwCl [(x, .inr (4, [.ref g, .ref mr, .ref tb, .ref lo, .ref g3, .ref gr, .ref wi])), (g, .inr (0, [.ref w, .ref d, .int 1, .int 0]))] s.heap := hP
  have hl := lv_entry ([.ref x, .int 0, .int n]) (n := 3) (Nat.le_of_ble_eq_true rfl)
  rw [lg_entry_eq]
  generalize (lg_sl ([.ref x, .int 0, .int n]) ++ List.replicate (3 - (lg_sl ([.ref x, .int 0, .int n])).length) Slot.unset).toArray = ls at hl ⊢
  have hl : lv_has ls 3 [(0, .ref x), (1, .int 0), (2, .int n)] := hl
  have i_0 : ∀ w ∈ wsX00, w ∈ wsX4_about := by decide +kernel
  have i_4 : ∀ w ∈ wsX40, w ∈ wsX4_about := by decide +kernel
  have k_0 := hts (.fieldLink RX4 10 "CommunityLevels" "told" "LCommunityLevels$Graph;") (by decide +kernel)
  have k_1 := hts (.fieldLink RX4 121 "CommunityLevels$Graph" "size" "I") (by decide +kernel)
  refine lv_iload_n hx hb dX4_about_0 rfl (lv_at hl 1 rfl) ?_
  refine lv_if_ne (tgt := 12) hx hb dX4_about_1 (by decide) (fun c_1 => ?_) (fun c_1 => ?_)
  · exact absurd c_1 (by decide)
  refine lv_aload_n hx hb dX4_about_4 rfl (lv_at hl 0 rfl) ?_
  refine va_get (D := (dC, dI)) (ci := 4) (v := .ref g) (C := RX4) (T := TX4) (N := 7) hx hb hts i_4 hown hK hP 0 rfl rfl 0 (by decide) k_0 (fun _ h9 => h9) rfl dX4_about_5 ?_
  refine va_get (D := (dC, dI)) (ci := 0) (v := .int 1) (C := RX0) (T := TX0) (N := 4) hx hb hts i_0 hown hK hP 1 rfl rfl 2 (by decide) k_1 (fun _ h9 => h9) rfl dX4_about_8 ?_
  have hP9 := hP.sub (ws' := []) [] rfl
  have hD9 := hD.sub (ws' := []) [] (by decide) rfl
  exact W.iret (v := 1) hx hb hr (fun t ht hW => ⟨⟨_, (), rfl, rfl, by rw [ht]; exact hP9, hD9⟩, hS.F ht⟩) hS.2.2 dX4_about_11
set_option maxHeartbeats 4000000 in
set_option maxRecDepth 100000 in
theorem c_X4_about_1 (l : Launch) (dC : Nat → ClassId) (dI : Nat → Nat → Nat) (cI cJ : ClassId) (x g mr tb lo g3 gr wi w d : Nat) (sz : Nat) (n : Int32) : Met l yX4_about wsX4_about ({ frames := 0, cells := 0, slots := 0, locals := 0 }) (va_Pc [.ref x, .int 1, .int n] (pPre dC dI cI cJ sz [(x, .inr (4, [.ref g, .ref mr, .ref tb, .ref lo, .ref g3, .ref gr, .ref wi])), (g, .inr (0, [.ref w, .ref d, .int 1, .int 0]))])) (va_Qi (fun (r : Int32) (_ : Unit) => r = 0) (pPost dC dI (va_A [(x, .inr (4, [.ref g, .ref mr, .ref tb, .ref lo, .ref g3, .ref gr, .ref wi])), (g, .inr (0, [.ref w, .ref d, .int 1, .int 0]))] sz) []) (va_A [(x, .inr (4, [.ref g, .ref mr, .ref tb, .ref lo, .ref g3, .ref gr, .ref wi])), (g, .inr (0, [.ref w, .ref d, .int 1, .int 0]))] sz)) 0 0 (va_A [(x, .inr (4, [.ref g, .ref mr, .ref tb, .ref lo, .ref g3, .ref gr, .ref wi])), (g, .inr (0, [.ref w, .ref d, .int 1, .int 0]))] sz) := by
  refine Met.ofW (cc := cX4_about) (maxL := 3) (ret := (some .int)) (by decide) rfl ?_
  intro p e s m args below meth c s₁ B hml hv
  obtain ⟨rfl, hsz, hP, hK, hD0⟩ := hv
  have hx := B.exec
  have hb := B.bytes
  have hr := B.returns
  have hts := atoms_spec (ws := wsX4_about) B.pre
  have hown : s.vm.findClass RX4 = some m.cls := findClass_of_methodNamed B.named
  have hlocks := B.notSynchronized
  subst hsz
  have hD := hD0.self (sz := s.heap.size)
  generalize hAe : va_A [(x, .inr (4, [.ref g, .ref mr, .ref tb, .ref lo, .ref g3, .ref gr, .ref wi])), (g, .inr (0, [.ref w, .ref d, .int 1, .int 0]))] s.heap.size = A at hD ⊢
  have hA : ∀ q : Nat, s.heap.size ≤ q → A q := fun q h => by rw [← hAe]; exact Or.inr h
  have hS : va_S A s.heap s.heap [] := va_S.rf
  have hP : va_P (dC, dI) vwCl [(x, .inr (4, [.ref g, .ref mr, .ref tb, .ref lo, .ref g3, .ref gr, .ref wi])), (g, .inr (0, [.ref w, .ref d, .int 1, .int 0]))] s.heap := hP
  have hl := lv_entry ([.ref x, .int 1, .int n]) (n := 3) (Nat.le_of_ble_eq_true rfl)
  rw [lg_entry_eq]
  generalize (lg_sl ([.ref x, .int 1, .int n]) ++ List.replicate (3 - (lg_sl ([.ref x, .int 1, .int n])).length) Slot.unset).toArray = ls at hl ⊢
  have hl : lv_has ls 3 [(0, .ref x), (1, .int 1), (2, .int n)] := hl
  have i_0 : ∀ w ∈ wsX00, w ∈ wsX4_about := by decide +kernel
  have i_4 : ∀ w ∈ wsX40, w ∈ wsX4_about := by decide +kernel
  have k_0 := hts (.fieldLink RX4 10 "CommunityLevels" "told" "LCommunityLevels$Graph;") (by decide +kernel)
  have k_1 := hts (.fieldLink RX4 73 "CommunityLevels$Graph" "total" "I") (by decide +kernel)
  refine lv_iload_n hx hb dX4_about_0 rfl (lv_at hl 1 rfl) ?_
  refine lv_if_ne (tgt := 12) hx hb dX4_about_1 (by decide) (fun c_1 => ?_) (fun c_1 => ?_)
  rotate_left
  · exact absurd c_1 (by decide)
  refine lv_iload_n hx hb dX4_about_12 rfl (lv_at hl 1 rfl) ?_
  refine lv_iconst (v := 1) hx hb dX4_about_13 (by decide) ?_
  refine lv_icmp_ne (tgt := 25) hx hb dX4_about_14 (by decide) (fun c_2 => ?_) (fun c_2 => ?_)
  · exact absurd c_2 (by decide)
  refine lv_aload_n hx hb dX4_about_17 rfl (lv_at hl 0 rfl) ?_
  refine va_get (D := (dC, dI)) (ci := 4) (v := .ref g) (C := RX4) (T := TX4) (N := 7) hx hb hts i_4 hown hK hP 0 rfl rfl 0 (by decide) k_0 (fun _ h9 => h9) rfl dX4_about_18 ?_
  refine va_get (D := (dC, dI)) (ci := 0) (v := .int 0) (C := RX0) (T := TX0) (N := 4) hx hb hts i_0 hown hK hP 1 rfl rfl 3 (by decide) k_1 (fun _ h9 => h9) rfl dX4_about_21 ?_
  have hP9 := hP.sub (ws' := []) [] rfl
  have hD9 := hD.sub (ws' := []) [] (by decide) rfl
  exact W.iret (v := 0) hx hb hr (fun t ht hW => ⟨⟨_, (), rfl, rfl, by rw [ht]; exact hP9, hD9⟩, hS.F ht⟩) hS.2.2 dX4_about_24
set_option maxHeartbeats 4000000 in
set_option maxRecDepth 100000 in
theorem c_X4_about_2 (l : Launch) (dC : Nat → ClassId) (dI : Nat → Nat → Nat) (cI cJ : ClassId) (x g mr tb lo g3 gr wi w d : Nat) (sz : Nat) : Met l yX4_about wsX4_about ({ frames := 1, cells := 0, slots := 0, locals := 21 }) (va_Pc [.ref x, .int 2, .int 0] (pPre dC dI cI cJ sz [(x, .inr (4, [.ref g, .ref mr, .ref tb, .ref lo, .ref g3, .ref gr, .ref wi])), (g, .inr (0, [.ref w, .ref d, .int 1, .int 0])), (d, .inl (cI, 40, .inl Zi))])) (va_Qi (fun (r : Int32) (_ : Unit) => r = 0) (pPost dC dI (va_A [(x, .inr (4, [.ref g, .ref mr, .ref tb, .ref lo, .ref g3, .ref gr, .ref wi])), (g, .inr (0, [.ref w, .ref d, .int 1, .int 0])), (d, .inl (cI, 40, .inl Zi))] sz) []) (va_A [(x, .inr (4, [.ref g, .ref mr, .ref tb, .ref lo, .ref g3, .ref gr, .ref wi])), (g, .inr (0, [.ref w, .ref d, .int 1, .int 0])), (d, .inl (cI, 40, .inl Zi))] sz)) 0 0 (va_A [(x, .inr (4, [.ref g, .ref mr, .ref tb, .ref lo, .ref g3, .ref gr, .ref wi])), (g, .inr (0, [.ref w, .ref d, .int 1, .int 0])), (d, .inl (cI, 40, .inl Zi))] sz) := by
  refine Met.ofW (cc := cX4_about) (maxL := 3) (ret := (some .int)) (by decide) rfl ?_
  intro p e s m args below meth c s₁ B hml hv
  obtain ⟨rfl, hsz, hP, hK, hD0⟩ := hv
  have hx := B.exec
  have hb := B.bytes
  have hr := B.returns
  have hts := atoms_spec (ws := wsX4_about) B.pre
  have hown : s.vm.findClass RX4 = some m.cls := findClass_of_methodNamed B.named
  have hlocks := B.notSynchronized
  subst hsz
  have hD := hD0.self (sz := s.heap.size)
  generalize hAe : va_A [(x, .inr (4, [.ref g, .ref mr, .ref tb, .ref lo, .ref g3, .ref gr, .ref wi])), (g, .inr (0, [.ref w, .ref d, .int 1, .int 0])), (d, .inl (cI, 40, .inl Zi))] s.heap.size = A at hD ⊢
  have hA : ∀ q : Nat, s.heap.size ≤ q → A q := fun q h => by rw [← hAe]; exact Or.inr h
  have hS : va_S A s.heap s.heap [] := va_S.rf
  have hP : va_P (dC, dI) vwCl [(x, .inr (4, [.ref g, .ref mr, .ref tb, .ref lo, .ref g3, .ref gr, .ref wi])), (g, .inr (0, [.ref w, .ref d, .int 1, .int 0])), (d, .inl (cI, 40, .inl Zi))] s.heap := hP
  have hl := lv_entry ([.ref x, .int 2, .int 0]) (n := 3) (Nat.le_of_ble_eq_true rfl)
  rw [lg_entry_eq]
  generalize (lg_sl ([.ref x, .int 2, .int 0]) ++ List.replicate (3 - (lg_sl ([.ref x, .int 2, .int 0])).length) Slot.unset).toArray = ls at hl ⊢
  have hl : lv_has ls 3 [(0, .ref x), (1, .int 2), (2, .int 0)] := hl
  have i_0 : ∀ w ∈ wsX00, w ∈ wsX4_about := by decide +kernel
  have i_4 : ∀ w ∈ wsX40, w ∈ wsX4_about := by decide +kernel
  have k_0 := hts (.fieldLink RX4 10 "CommunityLevels" "told" "LCommunityLevels$Graph;") (by decide +kernel)
  have k_1 := hts (.fieldLink RX4 149 "CommunityLevels$Graph" "degree" "[I") (by decide +kernel)
  refine lv_iload_n hx hb dX4_about_0 rfl (lv_at hl 1 rfl) ?_
  refine lv_if_ne (tgt := 12) hx hb dX4_about_1 (by decide) (fun c_1 => ?_) (fun c_1 => ?_)
  rotate_left
  · exact absurd c_1 (by decide)
  refine lv_iload_n hx hb dX4_about_12 rfl (lv_at hl 1 rfl) ?_
  refine lv_iconst (v := 1) hx hb dX4_about_13 (by decide) ?_
  refine lv_icmp_ne (tgt := 25) hx hb dX4_about_14 (by decide) (fun c_2 => ?_) (fun c_2 => ?_)
  rotate_left
  · exact absurd c_2 (by decide)
  refine lv_iload_n hx hb dX4_about_25 rfl (lv_at hl 1 rfl) ?_
  refine lv_if_lt (tgt := 34) hx hb dX4_about_26 (by decide) (fun c_3 => ?_) (fun c_3 => ?_)
  · exact absurd c_3 (by decide)
  refine lv_iload_n hx hb dX4_about_29 rfl (lv_at hl 1 rfl) ?_
  refine lv_iconst (v := 4) hx hb dX4_about_30 (by decide) ?_
  refine lv_icmp_le (tgt := 44) hx hb dX4_about_31 (by decide) (fun c_4 => ?_) (fun c_4 => ?_)
  rotate_left
  · exact absurd (by decide) c_4
  refine lv_aload_n hx hb dX4_about_44 rfl (lv_at hl 0 rfl) ?_
  refine lv_iload_n hx hb dX4_about_45 rfl (lv_at hl 2 rfl) ?_
  have hPc := hP.sub (ws' := [(x, .inr (4, [.ref g, .ref mr, .ref tb, .ref lo, .ref g3, .ref gr, .ref wi])), (g, .inr (0, [.ref w, .ref d, .int 1, .int 0]))]) [0, 1] rfl
  have hDc := hD.sub (ws' := [(x, .inr (4, [.ref g, .ref mr, .ref tb, .ref lo, .ref g3, .ref gr, .ref wi])), (g, .inr (0, [.ref w, .ref d, .int 1, .int 0]))]) [0, 1] (by decide) rfl
  have hFc := va_free (wc := [(x, .inr (4, [.ref g, .ref mr, .ref tb, .ref lo, .ref g3, .ref gr, .ref wi])), (g, .inr (0, [.ref w, .ref d, .int 1, .int 0]))]) hD hS hA [0, 1] rfl
  refine va_callv (va_runV (As := [.int 0]) (rest := []) ⟨hx, hb, hml, hown, hts⟩ (c_X4_requireNode l dC dI cI cJ x g mr tb lo g3 gr wi w d s.heap.size) (cwV 1 hts gX4_about_X4_requireNode rfl rfl rfl (by decide +kernel) ⟨Nat.le_of_ble_eq_true rfl, Nat.le_of_ble_eq_true rfl⟩) ⟨fun a U g mk q => by obtain ⟨q0, q1, qP, qK, qD⟩ := q; exact ⟨q0, q1, qP, va_K.moved (u := U) (U := U.calling g mk a) (Vm.Alike.refl U.vm) qK, qD⟩, va_recv hK hPc (ci := 4) (q0 := 0) rfl rfl, fun U hU hW => ⟨rfl, by rw [hU], by rw [hU]; exact hPc, va_K.moved hW.alike hK, hDc.weaken (fun _ _ _ _ => trivial)⟩⟩ rfl rfl hl.1 rfl (lv_room (Nat.le_of_ble_eq_true rfl)) dX4_about_46 ⟨Nat.le_of_ble_eq_true rfl, Nat.le_of_ble_eq_true rfl⟩) hS (fun q _ h => hFc q h) hFc (fun u_6 t H1 locs ht hvm hw hB hz1 hk1 hS => ?_)
  obtain ⟨hP1, hD1⟩ := hB
  rw [ht] at hP1
  obtain ⟨hP, hD⟩ := va_join (wr := [(d, .inl (cI, 40, .inl Zi))]) (w1 := [(x, .inr (4, [.ref g, .ref mr, .ref tb, .ref lo, .ref g3, .ref gr, .ref wi])), (g, .inr (0, [.ref w, .ref d, .int 1, .int 0]))]) hP hD [0, 1] [2] rfl rfl (by decide) (by decide) hk1 hFc hP1 hD1
  generalize H1 = H at hP hS ⊢
  have hP : va_P (dC, dI) vwCl [(d, .inl (cI, 40, .inl Zi)), (x, .inr (4, [.ref g, .ref mr, .ref tb, .ref lo, .ref g3, .ref gr, .ref wi])), (g, .inr (0, [.ref w, .ref d, .int 1, .int 0]))] H := hP
  have hD : va_D A [(d, .inl (cI, 40, .inl Zi)), (x, .inr (4, [.ref g, .ref mr, .ref tb, .ref lo, .ref g3, .ref gr, .ref wi])), (g, .inr (0, [.ref w, .ref d, .int 1, .int 0]))] := hD
  refine lv_iload_n hx hb dX4_about_49 rfl (lv_at hl 1 rfl) ?_
  refine lv_iconst (v := 2) hx hb dX4_about_50 (by decide) ?_
  refine lv_icmp_ne (tgt := 64) hx hb dX4_about_51 (by decide) (fun c_7 => ?_) (fun c_7 => ?_)
  · exact absurd c_7 (by decide)
  refine lv_aload_n hx hb dX4_about_54 rfl (lv_at hl 0 rfl) ?_
  refine va_get (D := (dC, dI)) (ci := 4) (v := .ref g) (C := RX4) (T := TX4) (N := 7) hx hb hts i_4 hown hK hP 1 rfl rfl 0 (by decide) k_0 (fun _ h9 => h9) rfl dX4_about_55 ?_
  refine va_get (D := (dC, dI)) (ci := 0) (v := .ref d) (C := RX0) (T := TX0) (N := 4) hx hb hts i_0 hown hK hP 2 rfl rfl 1 (by decide) k_1 (fun _ h9 => h9) rfl dX4_about_58 ?_
  refine lv_iload_n hx hb dX4_about_61 rfl (lv_at hl 2 rfl) ?_
  refine va_iald hx hb hK hP 0 0 rfl rfl (vp_c (by decide)) dX4_about_62 ?_
  refine lc_i (v := 0) (by first | rfl | decide) ?_
  have hP9 := hP.sub (ws' := []) [] rfl
  have hD9 := hD.sub (ws' := []) [] (by decide) rfl
  exact W.iret (v := 0) hx hb hr (fun t ht hW => ⟨⟨_, (), rfl, rfl, by rw [ht]; exact hP9, hD9⟩, hS.F ht⟩) hS.2.2 dX4_about_63
set_option maxHeartbeats 4000000 in
set_option maxRecDepth 100000 in
theorem c_X4_about_3 (l : Launch) (dC : Nat → ClassId) (dI : Nat → Nat → Nat) (cI cJ : ClassId) (x g mr tb lo g3 gr wi w d : Nat) (sz : Nat) : Met l yX4_about wsX4_about ({ frames := 1, cells := 0, slots := 0, locals := 22 }) (va_Pc [.ref x, .int 3, .int 0] (pPre dC dI cI cJ sz [(x, .inr (4, [.ref g, .ref mr, .ref tb, .ref lo, .ref g3, .ref gr, .ref wi])), (g, .inr (0, [.ref w, .ref d, .int 1, .int 0])), (w, .inl (cI, 1600, .inl Zi))])) (va_Qi (fun (r : Int32) (_ : Unit) => r = 0) (pPost dC dI (va_A [(x, .inr (4, [.ref g, .ref mr, .ref tb, .ref lo, .ref g3, .ref gr, .ref wi])), (g, .inr (0, [.ref w, .ref d, .int 1, .int 0])), (w, .inl (cI, 1600, .inl Zi))] sz) []) (va_A [(x, .inr (4, [.ref g, .ref mr, .ref tb, .ref lo, .ref g3, .ref gr, .ref wi])), (g, .inr (0, [.ref w, .ref d, .int 1, .int 0])), (w, .inl (cI, 1600, .inl Zi))] sz)) 0 0 (va_A [(x, .inr (4, [.ref g, .ref mr, .ref tb, .ref lo, .ref g3, .ref gr, .ref wi])), (g, .inr (0, [.ref w, .ref d, .int 1, .int 0])), (w, .inl (cI, 1600, .inl Zi))] sz) := by
  refine Met.ofW (cc := cX4_about) (maxL := 3) (ret := (some .int)) (by decide) rfl ?_
  intro p e s m args below meth c s₁ B hml hv
  obtain ⟨rfl, hsz, hP, hK, hD0⟩ := hv
  have hx := B.exec
  have hb := B.bytes
  have hr := B.returns
  have hts := atoms_spec (ws := wsX4_about) B.pre
  have hown : s.vm.findClass RX4 = some m.cls := findClass_of_methodNamed B.named
  have hlocks := B.notSynchronized
  subst hsz
  have hD := hD0.self (sz := s.heap.size)
  generalize hAe : va_A [(x, .inr (4, [.ref g, .ref mr, .ref tb, .ref lo, .ref g3, .ref gr, .ref wi])), (g, .inr (0, [.ref w, .ref d, .int 1, .int 0])), (w, .inl (cI, 1600, .inl Zi))] s.heap.size = A at hD ⊢
  have hA : ∀ q : Nat, s.heap.size ≤ q → A q := fun q h => by rw [← hAe]; exact Or.inr h
  have hS : va_S A s.heap s.heap [] := va_S.rf
  have hP : va_P (dC, dI) vwCl [(x, .inr (4, [.ref g, .ref mr, .ref tb, .ref lo, .ref g3, .ref gr, .ref wi])), (g, .inr (0, [.ref w, .ref d, .int 1, .int 0])), (w, .inl (cI, 1600, .inl Zi))] s.heap := hP
  have hl := lv_entry ([.ref x, .int 3, .int 0]) (n := 3) (Nat.le_of_ble_eq_true rfl)
  rw [lg_entry_eq]
  generalize (lg_sl ([.ref x, .int 3, .int 0]) ++ List.replicate (3 - (lg_sl ([.ref x, .int 3, .int 0])).length) Slot.unset).toArray = ls at hl ⊢
  have hl : lv_has ls 3 [(0, .ref x), (1, .int 3), (2, .int 0)] := hl
  have i_4 : ∀ w ∈ wsX40, w ∈ wsX4_about := by decide +kernel
  have k_0 := hts (.fieldLink RX4 10 "CommunityLevels" "told" "LCommunityLevels$Graph;") (by decide +kernel)
  refine lv_iload_n hx hb dX4_about_0 rfl (lv_at hl 1 rfl) ?_
  refine lv_if_ne (tgt := 12) hx hb dX4_about_1 (by decide) (fun c_1 => ?_) (fun c_1 => ?_)
  rotate_left
  · exact absurd c_1 (by decide)
  refine lv_iload_n hx hb dX4_about_12 rfl (lv_at hl 1 rfl) ?_
  refine lv_iconst (v := 1) hx hb dX4_about_13 (by decide) ?_
  refine lv_icmp_ne (tgt := 25) hx hb dX4_about_14 (by decide) (fun c_2 => ?_) (fun c_2 => ?_)
  rotate_left
  · exact absurd c_2 (by decide)
  refine lv_iload_n hx hb dX4_about_25 rfl (lv_at hl 1 rfl) ?_
  refine lv_if_lt (tgt := 34) hx hb dX4_about_26 (by decide) (fun c_3 => ?_) (fun c_3 => ?_)
  · exact absurd c_3 (by decide)
  refine lv_iload_n hx hb dX4_about_29 rfl (lv_at hl 1 rfl) ?_
  refine lv_iconst (v := 4) hx hb dX4_about_30 (by decide) ?_
  refine lv_icmp_le (tgt := 44) hx hb dX4_about_31 (by decide) (fun c_4 => ?_) (fun c_4 => ?_)
  rotate_left
  · exact absurd (by decide) c_4
  refine lv_aload_n hx hb dX4_about_44 rfl (lv_at hl 0 rfl) ?_
  refine lv_iload_n hx hb dX4_about_45 rfl (lv_at hl 2 rfl) ?_
  have hPc := hP.sub (ws' := [(x, .inr (4, [.ref g, .ref mr, .ref tb, .ref lo, .ref g3, .ref gr, .ref wi])), (g, .inr (0, [.ref w, .ref d, .int 1, .int 0]))]) [0, 1] rfl
  have hDc := hD.sub (ws' := [(x, .inr (4, [.ref g, .ref mr, .ref tb, .ref lo, .ref g3, .ref gr, .ref wi])), (g, .inr (0, [.ref w, .ref d, .int 1, .int 0]))]) [0, 1] (by decide) rfl
  have hFc := va_free (wc := [(x, .inr (4, [.ref g, .ref mr, .ref tb, .ref lo, .ref g3, .ref gr, .ref wi])), (g, .inr (0, [.ref w, .ref d, .int 1, .int 0]))]) hD hS hA [0, 1] rfl
  refine va_callv (va_runV (As := [.int 0]) (rest := []) ⟨hx, hb, hml, hown, hts⟩ (c_X4_requireNode l dC dI cI cJ x g mr tb lo g3 gr wi w d s.heap.size) (cwV 1 hts gX4_about_X4_requireNode rfl rfl rfl (by decide +kernel) ⟨Nat.le_of_ble_eq_true rfl, Nat.le_of_ble_eq_true rfl⟩) ⟨fun a U g mk q => by obtain ⟨q0, q1, qP, qK, qD⟩ := q; exact ⟨q0, q1, qP, va_K.moved (u := U) (U := U.calling g mk a) (Vm.Alike.refl U.vm) qK, qD⟩, va_recv hK hPc (ci := 4) (q0 := 0) rfl rfl, fun U hU hW => ⟨rfl, by rw [hU], by rw [hU]; exact hPc, va_K.moved hW.alike hK, hDc.weaken (fun _ _ _ _ => trivial)⟩⟩ rfl rfl hl.1 rfl (lv_room (Nat.le_of_ble_eq_true rfl)) dX4_about_46 ⟨Nat.le_of_ble_eq_true rfl, Nat.le_of_ble_eq_true rfl⟩) hS (fun q _ h => hFc q h) hFc (fun u_6 t H1 locs ht hvm hw hB hz1 hk1 hS => ?_)
  obtain ⟨hP1, hD1⟩ := hB
  rw [ht] at hP1
  obtain ⟨hP, hD⟩ := va_join (wr := [(w, .inl (cI, 1600, .inl Zi))]) (w1 := [(x, .inr (4, [.ref g, .ref mr, .ref tb, .ref lo, .ref g3, .ref gr, .ref wi])), (g, .inr (0, [.ref w, .ref d, .int 1, .int 0]))]) hP hD [0, 1] [2] rfl rfl (by decide) (by decide) hk1 hFc hP1 hD1
  generalize H1 = H at hP hS ⊢
  have hP : va_P (dC, dI) vwCl [(w, .inl (cI, 1600, .inl Zi)), (x, .inr (4, [.ref g, .ref mr, .ref tb, .ref lo, .ref g3, .ref gr, .ref wi])), (g, .inr (0, [.ref w, .ref d, .int 1, .int 0]))] H := hP
  have hD : va_D A [(w, .inl (cI, 1600, .inl Zi)), (x, .inr (4, [.ref g, .ref mr, .ref tb, .ref lo, .ref g3, .ref gr, .ref wi])), (g, .inr (0, [.ref w, .ref d, .int 1, .int 0]))] := hD
  refine lv_iload_n hx hb dX4_about_49 rfl (lv_at hl 1 rfl) ?_
  refine lv_iconst (v := 2) hx hb dX4_about_50 (by decide) ?_
  refine lv_icmp_ne (tgt := 64) hx hb dX4_about_51 (by decide) (fun c_7 => ?_) (fun c_7 => ?_)
  rotate_left
  · exact absurd c_7 (by decide)
  refine lv_iload_n hx hb dX4_about_64 rfl (lv_at hl 1 rfl) ?_
  refine lv_iconst (v := 3) hx hb dX4_about_65 (by decide) ?_
  refine lv_icmp_ne (tgt := 81) hx hb dX4_about_66 (by decide) (fun c_8 => ?_) (fun c_8 => ?_)
  · exact absurd c_8 (by decide)
  refine lv_aload_n hx hb dX4_about_69 rfl (lv_at hl 0 rfl) ?_
  refine va_get (D := (dC, dI)) (ci := 4) (v := .ref g) (C := RX4) (T := TX4) (N := 7) hx hb hts i_4 hown hK hP 1 rfl rfl 0 (by decide) k_0 (fun _ h9 => h9) rfl dX4_about_70 ?_
  refine lv_iload_n hx hb dX4_about_73 rfl (lv_at hl 2 rfl) ?_
  refine lv_iload_n hx hb dX4_about_74 rfl (lv_at hl 2 rfl) ?_
  have hPc := hP.sub (ws' := [(g, .inr (0, [.ref w, .ref d, .int 1, .int 0])), (w, .inl (cI, 1600, .inl Zi))]) [2, 0] rfl
  have hDc := hD.sub (ws' := [(g, .inr (0, [.ref w, .ref d, .int 1, .int 0])), (w, .inl (cI, 1600, .inl Zi))]) [2, 0] (by decide) rfl
  have hFc := va_free (wc := [(g, .inr (0, [.ref w, .ref d, .int 1, .int 0])), (w, .inl (cI, 1600, .inl Zi))]) hD hS hA [2, 0] rfl
  refine va_calli (va_runV (As := [.int 0, .int 0]) (rest := []) ⟨hx, hb, hml, hown, hts⟩ (c_X0_between l dC dI cI cJ g w d H.size Zi 1 0) (cwV 2 hts gX4_about_X0_between rfl rfl rfl (by decide +kernel) ⟨Nat.le_of_ble_eq_true rfl, Nat.le_of_ble_eq_true rfl⟩) ⟨fun a U g mk q => by obtain ⟨q0, q1, qP, qK, qD⟩ := q; exact ⟨q0, q1, qP, va_K.moved (u := U) (U := U.calling g mk a) (Vm.Alike.refl U.vm) qK, qD⟩, va_recv hK hPc (ci := 0) (q0 := 0) rfl rfl, fun U hU hW => ⟨rfl, by rw [hU], by rw [hU]; exact hPc, va_K.moved hW.alike hK, hDc.weaken (fun _ _ _ _ => trivial)⟩⟩ rfl rfl hl.1 rfl (lv_room (Nat.le_of_ble_eq_true rfl)) dX4_about_75 ⟨Nat.le_of_ble_eq_true rfl, Nat.le_of_ble_eq_true rfl⟩) hS (fun q _ h => hFc q h) hFc (fun r_9 u_10 t H1 locs ht hvm hw hB hz1 hk1 hS => ?_)
  obtain ⟨hP1, hD1⟩ := hB
  rw [ht] at hP1
  obtain ⟨hP, hD⟩ := va_join (wr := [(x, .inr (4, [.ref g, .ref mr, .ref tb, .ref lo, .ref g3, .ref gr, .ref wi]))]) (w1 := [(g, .inr (0, [.ref w, .ref d, .int 1, .int 0])), (w, .inl (cI, 1600, .inl Zi))]) hP hD [2, 0] [1] rfl rfl (by decide) (by decide) hk1 hFc hP1 hD1
  generalize H1 = H at hP hS ⊢
  have hP : va_P (dC, dI) vwCl [(x, .inr (4, [.ref g, .ref mr, .ref tb, .ref lo, .ref g3, .ref gr, .ref wi])), (g, .inr (0, [.ref w, .ref d, .int 1, .int 0])), (w, .inl (cI, 1600, .inl Zi))] H := hP
  have hD : va_D A [(x, .inr (4, [.ref g, .ref mr, .ref tb, .ref lo, .ref g3, .ref gr, .ref wi])), (g, .inr (0, [.ref w, .ref d, .int 1, .int 0])), (w, .inl (cI, 1600, .inl Zi))] := hD
  obtain rfl : r_9 = 0 := hw
  refine lv_goto (tgt := 90) hx hb dX4_about_78 (by decide) ?_
  have hP9 := hP.sub (ws' := []) [] rfl
  have hD9 := hD.sub (ws' := []) [] (by decide) rfl
  exact W.iret (v := 0) hx hb hr (fun t ht hW => ⟨⟨_, (), rfl, rfl, by rw [ht]; exact hP9, hD9⟩, hS.F ht⟩) hS.2.2 dX4_about_90
set_option maxHeartbeats 4000000 in
set_option maxRecDepth 100000 in
theorem c_X4_about_4 (l : Launch) (dC : Nat → ClassId) (dI : Nat → Nat → Nat) (cI cJ : ClassId) (x g mr tb lo g3 gr wi w d mh mc md ml mn : Nat) (sz : Nat) : Met l yX4_about wsX4_about ({ frames := 1, cells := 0, slots := 0, locals := 21 }) (va_Pc [.ref x, .int 4, .int 0] (pPre dC dI cI cJ sz [(x, .inr (4, [.ref g, .ref mr, .ref tb, .ref lo, .ref g3, .ref gr, .ref wi])), (g, .inr (0, [.ref w, .ref d, .int 1, .int 0])), (mr, .inr (1, [.ref mh, .ref mc, .ref md, .ref ml, .ref mn])), (mh, .inl (cI, 40, .inl Zi))])) (va_Qi (fun (r : Int32) (_ : Unit) => r = 0) (pPost dC dI (va_A [(x, .inr (4, [.ref g, .ref mr, .ref tb, .ref lo, .ref g3, .ref gr, .ref wi])), (g, .inr (0, [.ref w, .ref d, .int 1, .int 0])), (mr, .inr (1, [.ref mh, .ref mc, .ref md, .ref ml, .ref mn])), (mh, .inl (cI, 40, .inl Zi))] sz) []) (va_A [(x, .inr (4, [.ref g, .ref mr, .ref tb, .ref lo, .ref g3, .ref gr, .ref wi])), (g, .inr (0, [.ref w, .ref d, .int 1, .int 0])), (mr, .inr (1, [.ref mh, .ref mc, .ref md, .ref ml, .ref mn])), (mh, .inl (cI, 40, .inl Zi))] sz)) 0 0 (va_A [(x, .inr (4, [.ref g, .ref mr, .ref tb, .ref lo, .ref g3, .ref gr, .ref wi])), (g, .inr (0, [.ref w, .ref d, .int 1, .int 0])), (mr, .inr (1, [.ref mh, .ref mc, .ref md, .ref ml, .ref mn])), (mh, .inl (cI, 40, .inl Zi))] sz) := by
  refine Met.ofW (cc := cX4_about) (maxL := 3) (ret := (some .int)) (by decide) rfl ?_
  intro p e s m args below meth c s₁ B hml hv
  obtain ⟨rfl, hsz, hP, hK, hD0⟩ := hv
  have hx := B.exec
  have hb := B.bytes
  have hr := B.returns
  have hts := atoms_spec (ws := wsX4_about) B.pre
  have hown : s.vm.findClass RX4 = some m.cls := findClass_of_methodNamed B.named
  have hlocks := B.notSynchronized
  subst hsz
  have hD := hD0.self (sz := s.heap.size)
  generalize hAe : va_A [(x, .inr (4, [.ref g, .ref mr, .ref tb, .ref lo, .ref g3, .ref gr, .ref wi])), (g, .inr (0, [.ref w, .ref d, .int 1, .int 0])), (mr, .inr (1, [.ref mh, .ref mc, .ref md, .ref ml, .ref mn])), (mh, .inl (cI, 40, .inl Zi))] s.heap.size = A at hD ⊢
  have hA : ∀ q : Nat, s.heap.size ≤ q → A q := fun q h => by rw [← hAe]; exact Or.inr h
  have hS : va_S A s.heap s.heap [] := va_S.rf
  have hP : va_P (dC, dI) vwCl [(x, .inr (4, [.ref g, .ref mr, .ref tb, .ref lo, .ref g3, .ref gr, .ref wi])), (g, .inr (0, [.ref w, .ref d, .int 1, .int 0])), (mr, .inr (1, [.ref mh, .ref mc, .ref md, .ref ml, .ref mn])), (mh, .inl (cI, 40, .inl Zi))] s.heap := hP
  have hl := lv_entry ([.ref x, .int 4, .int 0]) (n := 3) (Nat.le_of_ble_eq_true rfl)
  rw [lg_entry_eq]
  generalize (lg_sl ([.ref x, .int 4, .int 0]) ++ List.replicate (3 - (lg_sl ([.ref x, .int 4, .int 0])).length) Slot.unset).toArray = ls at hl ⊢
  have hl : lv_has ls 3 [(0, .ref x), (1, .int 4), (2, .int 0)] := hl
  have i_1 : ∀ w ∈ wsX10, w ∈ wsX4_about := by decide +kernel
  have i_4 : ∀ w ∈ wsX40, w ∈ wsX4_about := by decide +kernel
  have k_0 := hts (.fieldLink RX4 19 "CommunityLevels" "mine" "LCommunityLevels$Groups;") (by decide +kernel)
  have k_1 := hts (.fieldLink RX4 118 "CommunityLevels$Groups" "home" "[I") (by decide +kernel)
  refine lv_iload_n hx hb dX4_about_0 rfl (lv_at hl 1 rfl) ?_
  refine lv_if_ne (tgt := 12) hx hb dX4_about_1 (by decide) (fun c_1 => ?_) (fun c_1 => ?_)
  rotate_left
  · exact absurd c_1 (by decide)
  refine lv_iload_n hx hb dX4_about_12 rfl (lv_at hl 1 rfl) ?_
  refine lv_iconst (v := 1) hx hb dX4_about_13 (by decide) ?_
  refine lv_icmp_ne (tgt := 25) hx hb dX4_about_14 (by decide) (fun c_2 => ?_) (fun c_2 => ?_)
  rotate_left
  · exact absurd c_2 (by decide)
  refine lv_iload_n hx hb dX4_about_25 rfl (lv_at hl 1 rfl) ?_
  refine lv_if_lt (tgt := 34) hx hb dX4_about_26 (by decide) (fun c_3 => ?_) (fun c_3 => ?_)
  · exact absurd c_3 (by decide)
  refine lv_iload_n hx hb dX4_about_29 rfl (lv_at hl 1 rfl) ?_
  refine lv_iconst (v := 4) hx hb dX4_about_30 (by decide) ?_
  refine lv_icmp_le (tgt := 44) hx hb dX4_about_31 (by decide) (fun c_4 => ?_) (fun c_4 => ?_)
  rotate_left
  · exact absurd (by decide) c_4
  refine lv_aload_n hx hb dX4_about_44 rfl (lv_at hl 0 rfl) ?_
  refine lv_iload_n hx hb dX4_about_45 rfl (lv_at hl 2 rfl) ?_
  have hPc := hP.sub (ws' := [(x, .inr (4, [.ref g, .ref mr, .ref tb, .ref lo, .ref g3, .ref gr, .ref wi])), (g, .inr (0, [.ref w, .ref d, .int 1, .int 0]))]) [0, 1] rfl
  have hDc := hD.sub (ws' := [(x, .inr (4, [.ref g, .ref mr, .ref tb, .ref lo, .ref g3, .ref gr, .ref wi])), (g, .inr (0, [.ref w, .ref d, .int 1, .int 0]))]) [0, 1] (by decide) rfl
  have hFc := va_free (wc := [(x, .inr (4, [.ref g, .ref mr, .ref tb, .ref lo, .ref g3, .ref gr, .ref wi])), (g, .inr (0, [.ref w, .ref d, .int 1, .int 0]))]) hD hS hA [0, 1] rfl
  refine va_callv (va_runV (As := [.int 0]) (rest := []) ⟨hx, hb, hml, hown, hts⟩ (c_X4_requireNode l dC dI cI cJ x g mr tb lo g3 gr wi w d s.heap.size) (cwV 1 hts gX4_about_X4_requireNode rfl rfl rfl (by decide +kernel) ⟨Nat.le_of_ble_eq_true rfl, Nat.le_of_ble_eq_true rfl⟩) ⟨fun a U g mk q => by obtain ⟨q0, q1, qP, qK, qD⟩ := q; exact ⟨q0, q1, qP, va_K.moved (u := U) (U := U.calling g mk a) (Vm.Alike.refl U.vm) qK, qD⟩, va_recv hK hPc (ci := 4) (q0 := 0) rfl rfl, fun U hU hW => ⟨rfl, by rw [hU], by rw [hU]; exact hPc, va_K.moved hW.alike hK, hDc.weaken (fun _ _ _ _ => trivial)⟩⟩ rfl rfl hl.1 rfl (lv_room (Nat.le_of_ble_eq_true rfl)) dX4_about_46 ⟨Nat.le_of_ble_eq_true rfl, Nat.le_of_ble_eq_true rfl⟩) hS (fun q _ h => hFc q h) hFc (fun u_6 t H1 locs ht hvm hw hB hz1 hk1 hS => ?_)
  obtain ⟨hP1, hD1⟩ := hB
  rw [ht] at hP1
  obtain ⟨hP, hD⟩ := va_join (wr := [(mr, .inr (1, [.ref mh, .ref mc, .ref md, .ref ml, .ref mn])), (mh, .inl (cI, 40, .inl Zi))]) (w1 := [(x, .inr (4, [.ref g, .ref mr, .ref tb, .ref lo, .ref g3, .ref gr, .ref wi])), (g, .inr (0, [.ref w, .ref d, .int 1, .int 0]))]) hP hD [0, 1] [2, 3] rfl rfl (by decide) (by decide) hk1 hFc hP1 hD1
  generalize H1 = H at hP hS ⊢
  have hP : va_P (dC, dI) vwCl [(mr, .inr (1, [.ref mh, .ref mc, .ref md, .ref ml, .ref mn])), (mh, .inl (cI, 40, .inl Zi)), (x, .inr (4, [.ref g, .ref mr, .ref tb, .ref lo, .ref g3, .ref gr, .ref wi])), (g, .inr (0, [.ref w, .ref d, .int 1, .int 0]))] H := hP
  have hD : va_D A [(mr, .inr (1, [.ref mh, .ref mc, .ref md, .ref ml, .ref mn])), (mh, .inl (cI, 40, .inl Zi)), (x, .inr (4, [.ref g, .ref mr, .ref tb, .ref lo, .ref g3, .ref gr, .ref wi])), (g, .inr (0, [.ref w, .ref d, .int 1, .int 0]))] := hD
  refine lv_iload_n hx hb dX4_about_49 rfl (lv_at hl 1 rfl) ?_
  refine lv_iconst (v := 2) hx hb dX4_about_50 (by decide) ?_
  refine lv_icmp_ne (tgt := 64) hx hb dX4_about_51 (by decide) (fun c_7 => ?_) (fun c_7 => ?_)
  rotate_left
  · exact absurd c_7 (by decide)
  refine lv_iload_n hx hb dX4_about_64 rfl (lv_at hl 1 rfl) ?_
  refine lv_iconst (v := 3) hx hb dX4_about_65 (by decide) ?_
  refine lv_icmp_ne (tgt := 81) hx hb dX4_about_66 (by decide) (fun c_8 => ?_) (fun c_8 => ?_)
  rotate_left
  · exact absurd c_8 (by decide)
  refine lv_aload_n hx hb dX4_about_81 rfl (lv_at hl 0 rfl) ?_
  refine va_get (D := (dC, dI)) (ci := 4) (v := .ref mr) (C := RX4) (T := TX4) (N := 7) hx hb hts i_4 hown hK hP 2 rfl rfl 1 (by decide) k_0 (fun _ h9 => h9) rfl dX4_about_82 ?_
  refine va_get (D := (dC, dI)) (ci := 1) (v := .ref mh) (C := RX1) (T := TX1) (N := 5) hx hb hts i_1 hown hK hP 0 rfl rfl 0 (by decide) k_1 (fun _ h9 => h9) rfl dX4_about_85 ?_
  refine lv_iload_n hx hb dX4_about_88 rfl (lv_at hl 2 rfl) ?_
  refine va_iald hx hb hK hP 1 0 rfl rfl (vp_c (by decide)) dX4_about_89 ?_
  refine lc_i (v := 0) (by first | rfl | decide) ?_
  have hP9 := hP.sub (ws' := []) [] rfl
  have hD9 := hD.sub (ws' := []) [] (by decide) rfl
  exact W.iret (v := 0) hx hb hr (fun t ht hW => ⟨⟨_, (), rfl, rfl, by rw [ht]; exact hP9, hD9⟩, hS.F ht⟩) hS.2.2 dX4_about_90
set_option maxHeartbeats 4000000 in
set_option maxRecDepth 100000 in
theorem c_X4_about_bad (l : Launch) (hno : l.stackTraces = false) (dC : Nat → ClassId) (dI : Nat → Nat → Nat) (cI cJ : ClassId) (x g mr tb lo g3 gr wi : Nat) (sz : Nat) (n : Int32) (n1 : Int32) (hn : n < 0 ∨ 4 < n) : vx_Met l yX4_about wsX4_about ({ frames := 6, cells := 1, slots := 6, locals := 82 }) (va_Pc [.ref x, .int n, .int n1] (pPreX dC dI cI cJ sz [(x, .inr (4, [.ref g, .ref mr, .ref tb, .ref lo, .ref g3, .ref gr, .ref wi]))])) (va_Qi (fun (_ : Int32) (_ : Unit) => False) (fun _ _ => True) (va_A [(x, .inr (4, [.ref g, .ref mr, .ref tb, .ref lo, .ref g3, .ref gr, .ref wi]))] sz)) (vx_X (fun _ : Unit => True) (fun E _ _ => E = "java/lang/IndexOutOfBoundsException") (va_A [(x, .inr (4, [.ref g, .ref mr, .ref tb, .ref lo, .ref g3, .ref gr, .ref wi]))] sz)) 1 6 (va_A [(x, .inr (4, [.ref g, .ref mr, .ref tb, .ref lo, .ref g3, .ref gr, .ref wi]))] sz) := by
  refine vx_ofW (cc := cX4_about) (maxL := 3) (ret := (some .int)) (by decide) rfl ?_
  intro p e s m args below meth c s₁ B hml htab hv
  obtain ⟨rfl, hsz, hP, hK, hD0, hX⟩ := hv
  have hx := B.exec
  have hb := B.bytes
  have hr := B.returns
  have hts := atoms_spec (ws := wsX4_about) B.pre
  have hown : s.vm.findClass RX4 = some m.cls := findClass_of_methodNamed B.named
  have hlocks := B.notSynchronized
  subst hsz
  have hD := hD0.self (sz := s.heap.size)
  generalize hAe : va_A [(x, .inr (4, [.ref g, .ref mr, .ref tb, .ref lo, .ref g3, .ref gr, .ref wi]))] s.heap.size = A at hD hX ⊢
  have hA : ∀ q : Nat, s.heap.size ≤ q → A q := fun q h => by rw [← hAe]; exact Or.inr h
  have hS : va_S A s.heap s.heap [] := va_S.rf
  have hP : va_P (dC, dI) vwCl [(x, .inr (4, [.ref g, .ref mr, .ref tb, .ref lo, .ref g3, .ref gr, .ref wi]))] s.heap := hP
  have hl := lv_entry ([.ref x, .int n, .int n1]) (n := 3) (Nat.le_of_ble_eq_true rfl)
  rw [lg_entry_eq]
  generalize (lg_sl ([.ref x, .int n, .int n1]) ++ List.replicate (3 - (lg_sl ([.ref x, .int n, .int n1])).length) Slot.unset).toArray = ls at hl ⊢
  have hl : lv_has ls 3 [(0, .ref x), (1, .int n), (2, .int n1)] := hl
  have k_0 := hts (.classLink RX4 144 "java/lang/IndexOutOfBoundsException") (by decide +kernel)
  have k_1 := hts (.initialized "java/lang/IndexOutOfBoundsException") (by decide +kernel)
  refine lv_iload_n hx hb dX4_about_0 rfl (lv_at hl 1 rfl) ?_
  refine lv_if_ne (tgt := 12) hx hb dX4_about_1 (by decide) (fun c_1 => ?_) (fun c_1 => ?_)
  rotate_left
  · exact absurd c_1 (ab_0 hn)
  refine lv_iload_n hx hb dX4_about_12 rfl (lv_at hl 1 rfl) ?_
  refine lv_iconst (v := 1) hx hb dX4_about_13 (by decide) ?_
  refine lv_icmp_ne (tgt := 25) hx hb dX4_about_14 (by decide) (fun c_2 => ?_) (fun c_2 => ?_)
  rotate_left
  · exact absurd c_2 (ab_1 hn)
  refine lv_iload_n hx hb dX4_about_25 rfl (lv_at hl 1 rfl) ?_
  refine lv_if_lt (tgt := 34) hx hb dX4_about_26 (by decide) (fun c_3 => ?_) (fun c_3 => ?_)
  · skip
    obtain ⟨sa9, hstr9⟩ := hX.2.2.2.2 (146, "what is 0 .. 4") (List.mem_of_getElem? (i := 3) rfl)
    have hat9 : ∀ w ∈ vx_atS RX4 148 "java/lang/IndexOutOfBoundsException" ["java/lang/RuntimeException", "java/lang/Exception"], w.before _ s = true := vx_hat (B := vzB) (fun w h => hts w (List.mem_cons_of_mem _ (List.mem_append_right _ h))) (by decide +kernel) (fun w h => vz_bad w h (hX.2.2.1 w h))
    exact vx_throwS hx hb hno (own := RX4) (cls := "java/lang/IndexOutOfBoundsException") (text := "what is 0 .. 4") (names := ["java/lang/RuntimeException", "java/lang/Exception"]) (sa := sa9) hown (by decide +kernel) (by decide +kernel) k_0 k_1 hstr9 hat9 (by decide +kernel) hX.1 hX.2.1 hS (by rw [hml]; exact hl.1) dX4_about_34 dX4_about_37 dX4_about_38 dX4_about_40 dX4_about_43 (fun x h => (htab x h).elim) (Nat.le_of_ble_eq_true rfl) (Nat.le_of_ble_eq_true rfl) (Nat.le_of_ble_eq_true rfl) (Nat.le_of_ble_eq_true rfl) hlocks (fun t9 _ hz9 hk9 => ⟨(), trivial, rfl, Nat.le_trans hS.1 hz9, fun q h1 h2 => (hk9 q (Nat.lt_of_lt_of_le h1 hS.1)).trans (hS.2.1 q h1 h2)⟩) hS.2.2 (Nat.le_of_ble_eq_true rfl) (Nat.le_of_ble_eq_true rfl)
  · skip
    refine lv_iload_n hx hb dX4_about_29 rfl (lv_at hl 1 rfl) ?_
    refine lv_iconst (v := 4) hx hb dX4_about_30 (by decide) ?_
    refine lv_icmp_le (tgt := 44) hx hb dX4_about_31 (by decide) (fun c_4 => ?_) (fun c_4 => ?_)
    · exact absurd c_4 (Int32.not_le.mpr (hn.resolve_left c_3))
    obtain ⟨sa9, hstr9⟩ := hX.2.2.2.2 (146, "what is 0 .. 4") (List.mem_of_getElem? (i := 3) rfl)
    have hat9 : ∀ w ∈ vx_atS RX4 148 "java/lang/IndexOutOfBoundsException" ["java/lang/RuntimeException", "java/lang/Exception"], w.before _ s = true := vx_hat (B := vzB) (fun w h => hts w (List.mem_cons_of_mem _ (List.mem_append_right _ h))) (by decide +kernel) (fun w h => vz_bad w h (hX.2.2.1 w h))
    exact vx_throwS hx hb hno (own := RX4) (cls := "java/lang/IndexOutOfBoundsException") (text := "what is 0 .. 4") (names := ["java/lang/RuntimeException", "java/lang/Exception"]) (sa := sa9) hown (by decide +kernel) (by decide +kernel) k_0 k_1 hstr9 hat9 (by decide +kernel) hX.1 hX.2.1 hS (by rw [hml]; exact hl.1) dX4_about_34 dX4_about_37 dX4_about_38 dX4_about_40 dX4_about_43 (fun x h => (htab x h).elim) (Nat.le_of_ble_eq_true rfl) (Nat.le_of_ble_eq_true rfl) (Nat.le_of_ble_eq_true rfl) (Nat.le_of_ble_eq_true rfl) hlocks (fun t9 _ hz9 hk9 => ⟨(), trivial, rfl, Nat.le_trans hS.1 hz9, fun q h1 h2 => (hk9 q (Nat.lt_of_lt_of_le h1 hS.1)).trans (hS.2.1 q h1 h2)⟩) hS.2.2 (Nat.le_of_ble_eq_true rfl) (Nat.le_of_ble_eq_true rfl)
set_option maxHeartbeats 4000000 in
set_option maxRecDepth 100000 in
theorem c_X4_about_b2 (l : Launch) (hno : l.stackTraces = false) (dC : Nat → ClassId) (dI : Nat → Nat → Nat) (cI cJ : ClassId) (x g mr tb lo g3 gr wi w d : Nat) (sz : Nat) (n : Int32) (hn : n < 0 ∨ 1 ≤ n) : vx_Met l yX4_about wsX4_about ({ frames := 7, cells := 1, slots := 6, locals := 103 }) (va_Pc [.ref x, .int 2, .int n] (pPreX dC dI cI cJ sz [(x, .inr (4, [.ref g, .ref mr, .ref tb, .ref lo, .ref g3, .ref gr, .ref wi])), (g, .inr (0, [.ref w, .ref d, .int 1, .int 0]))])) (va_Qi (fun (_ : Int32) (_ : Unit) => False) (fun _ _ => True) (va_A [(x, .inr (4, [.ref g, .ref mr, .ref tb, .ref lo, .ref g3, .ref gr, .ref wi])), (g, .inr (0, [.ref w, .ref d, .int 1, .int 0]))] sz)) (vx_X (fun _ : Unit => True) (fun E _ _ => E = "java/lang/IndexOutOfBoundsException") (va_A [(x, .inr (4, [.ref g, .ref mr, .ref tb, .ref lo, .ref g3, .ref gr, .ref wi])), (g, .inr (0, [.ref w, .ref d, .int 1, .int 0]))] sz)) 1 6 (va_A [(x, .inr (4, [.ref g, .ref mr, .ref tb, .ref lo, .ref g3, .ref gr, .ref wi])), (g, .inr (0, [.ref w, .ref d, .int 1, .int 0]))] sz) := by
  refine vx_ofW (cc := cX4_about) (maxL := 3) (ret := (some .int)) (by decide) rfl ?_
  intro p e s m args below meth c s₁ B hml htab hv
  obtain ⟨rfl, hsz, hP, hK, hD0, hX⟩ := hv
  have hx := B.exec
  have hb := B.bytes
  have hr := B.returns
  have hts := atoms_spec (ws := wsX4_about) B.pre
  have hown : s.vm.findClass RX4 = some m.cls := findClass_of_methodNamed B.named
  have hlocks := B.notSynchronized
  subst hsz
  have hD := hD0.self (sz := s.heap.size)
  generalize hAe : va_A [(x, .inr (4, [.ref g, .ref mr, .ref tb, .ref lo, .ref g3, .ref gr, .ref wi])), (g, .inr (0, [.ref w, .ref d, .int 1, .int 0]))] s.heap.size = A at hD hX ⊢
  have hA : ∀ q : Nat, s.heap.size ≤ q → A q := fun q h => by rw [← hAe]; exact Or.inr h
  have hS : va_S A s.heap s.heap [] := va_S.rf
  have hP : va_P (dC, dI) vwCl [(x, .inr (4, [.ref g, .ref mr, .ref tb, .ref lo, .ref g3, .ref gr, .ref wi])), (g, .inr (0, [.ref w, .ref d, .int 1, .int 0]))] s.heap := hP
  have hl := lv_entry ([.ref x, .int 2, .int n]) (n := 3) (Nat.le_of_ble_eq_true rfl)
  rw [lg_entry_eq]
  generalize (lg_sl ([.ref x, .int 2, .int n]) ++ List.replicate (3 - (lg_sl ([.ref x, .int 2, .int n])).length) Slot.unset).toArray = ls at hl ⊢
  have hl : lv_has ls 3 [(0, .ref x), (1, .int 2), (2, .int n)] := hl
  refine lv_iload_n hx hb dX4_about_0 rfl (lv_at hl 1 rfl) ?_
  refine lv_if_ne (tgt := 12) hx hb dX4_about_1 (by decide) (fun c_1 => ?_) (fun c_1 => ?_)
  rotate_left
  · exact absurd c_1 (by decide)
  refine lv_iload_n hx hb dX4_about_12 rfl (lv_at hl 1 rfl) ?_
  refine lv_iconst (v := 1) hx hb dX4_about_13 (by decide) ?_
  refine lv_icmp_ne (tgt := 25) hx hb dX4_about_14 (by decide) (fun c_2 => ?_) (fun c_2 => ?_)
  rotate_left
  · exact absurd c_2 (by decide)
  refine lv_iload_n hx hb dX4_about_25 rfl (lv_at hl 1 rfl) ?_
  refine lv_if_lt (tgt := 34) hx hb dX4_about_26 (by decide) (fun c_3 => ?_) (fun c_3 => ?_)
  · exact absurd c_3 (by decide)
  refine lv_iload_n hx hb dX4_about_29 rfl (lv_at hl 1 rfl) ?_
  refine lv_iconst (v := 4) hx hb dX4_about_30 (by decide) ?_
  refine lv_icmp_le (tgt := 44) hx hb dX4_about_31 (by decide) (fun c_4 => ?_) (fun c_4 => ?_)
  rotate_left
  · exact absurd (by decide) c_4
  refine lv_aload_n hx hb dX4_about_44 rfl (lv_at hl 0 rfl) ?_
  refine lv_iload_n hx hb dX4_about_45 rfl (lv_at hl 2 rfl) ?_
  have hPc := hP.sub (ws' := [(x, .inr (4, [.ref g, .ref mr, .ref tb, .ref lo, .ref g3, .ref gr, .ref wi])), (g, .inr (0, [.ref w, .ref d, .int 1, .int 0]))]) [0, 1] rfl
  have hDc := hD.sub (ws' := [(x, .inr (4, [.ref g, .ref mr, .ref tb, .ref lo, .ref g3, .ref gr, .ref wi])), (g, .inr (0, [.ref w, .ref d, .int 1, .int 0]))]) [0, 1] (by decide) rfl
  have hFc := va_free (wc := [(x, .inr (4, [.ref g, .ref mr, .ref tb, .ref lo, .ref g3, .ref gr, .ref wi])), (g, .inr (0, [.ref w, .ref d, .int 1, .int 0]))]) hD hS hA [0, 1] rfl
  refine vx_callv (vx_runV (As := [.int n]) (rest := []) ⟨hx, hb, hml, hown, hts⟩ (c_X4_requireNode_bad l hno dC dI cI cJ x g mr tb lo g3 gr wi w d s.heap.size n hn) (cwV 1 hts gX4_about_X4_requireNode rfl rfl rfl (by decide +kernel) ⟨Nat.le_of_ble_eq_true rfl, Nat.le_of_ble_eq_true rfl⟩) ⟨fun a U g mk q => by obtain ⟨q0, q1, qP, qK, qD, qX⟩ := q; exact ⟨q0, q1, qP, va_K.moved (u := U) (U := U.calling g mk a) (Vm.Alike.refl U.vm) qK, qD, qX.moved (State.WarmedH.refl U)⟩, va_recv hK hPc (ci := 4) (q0 := 0) rfl rfl, fun U hU hW => ⟨rfl, by rw [hU], by rw [hU]; exact hPc, va_K.moved hW.alike hK, hDc.weaken (fun _ _ _ _ => trivial), by rw [hU]; exact ((hX.kept hS.2.1).narrow hFc).moved hW⟩⟩ rfl rfl hl.1 rfl (lv_room (Nat.le_of_ble_eq_true rfl)) dX4_about_46 ⟨Nat.le_of_ble_eq_true rfl, Nat.le_of_ble_eq_true rfl⟩) hS (fun q _ h => hFc q h) hFc (fun q _ h => hFc q h) (fun E9 ce9 q9 u9 t H1 locs ht hvm hw hB hz1 hk1 hS hce hcv hcl => ?_) (fun u_6 t H1 locs ht hvm hw hB hz1 hk1 hS => ?_)
  · skip
    refine vx_out (fun x h => (htab x h).elim) hlocks hce hcv hcl (fun t9 ht9 _ => ⟨(), trivial, hB, hS.F ht9⟩) hS.2.2 (Nat.le_of_ble_eq_true rfl) (Nat.le_of_ble_eq_true rfl)
  · exact hw.elim
set_option maxHeartbeats 4000000 in
set_option maxRecDepth 100000 in
theorem c_X4_about_b3 (l : Launch) (hno : l.stackTraces = false) (dC : Nat → ClassId) (dI : Nat → Nat → Nat) (cI cJ : ClassId) (x g mr tb lo g3 gr wi w d : Nat) (sz : Nat) (n : Int32) (hn : n < 0 ∨ 1 ≤ n) : vx_Met l yX4_about wsX4_about ({ frames := 7, cells := 1, slots := 6, locals := 103 }) (va_Pc [.ref x, .int 3, .int n] (pPreX dC dI cI cJ sz [(x, .inr (4, [.ref g, .ref mr, .ref tb, .ref lo, .ref g3, .ref gr, .ref wi])), (g, .inr (0, [.ref w, .ref d, .int 1, .int 0]))])) (va_Qi (fun (_ : Int32) (_ : Unit) => False) (fun _ _ => True) (va_A [(x, .inr (4, [.ref g, .ref mr, .ref tb, .ref lo, .ref g3, .ref gr, .ref wi])), (g, .inr (0, [.ref w, .ref d, .int 1, .int 0]))] sz)) (vx_X (fun _ : Unit => True) (fun E _ _ => E = "java/lang/IndexOutOfBoundsException") (va_A [(x, .inr (4, [.ref g, .ref mr, .ref tb, .ref lo, .ref g3, .ref gr, .ref wi])), (g, .inr (0, [.ref w, .ref d, .int 1, .int 0]))] sz)) 1 6 (va_A [(x, .inr (4, [.ref g, .ref mr, .ref tb, .ref lo, .ref g3, .ref gr, .ref wi])), (g, .inr (0, [.ref w, .ref d, .int 1, .int 0]))] sz) := by
  refine vx_ofW (cc := cX4_about) (maxL := 3) (ret := (some .int)) (by decide) rfl ?_
  intro p e s m args below meth c s₁ B hml htab hv
  obtain ⟨rfl, hsz, hP, hK, hD0, hX⟩ := hv
  have hx := B.exec
  have hb := B.bytes
  have hr := B.returns
  have hts := atoms_spec (ws := wsX4_about) B.pre
  have hown : s.vm.findClass RX4 = some m.cls := findClass_of_methodNamed B.named
  have hlocks := B.notSynchronized
  subst hsz
  have hD := hD0.self (sz := s.heap.size)
  generalize hAe : va_A [(x, .inr (4, [.ref g, .ref mr, .ref tb, .ref lo, .ref g3, .ref gr, .ref wi])), (g, .inr (0, [.ref w, .ref d, .int 1, .int 0]))] s.heap.size = A at hD hX ⊢
  have hA : ∀ q : Nat, s.heap.size ≤ q → A q := fun q h => by rw [← hAe]; exact Or.inr h
  have hS : va_S A s.heap s.heap [] := va_S.rf
  have hP : va_P (dC, dI) vwCl [(x, .inr (4, [.ref g, .ref mr, .ref tb, .ref lo, .ref g3, .ref gr, .ref wi])), (g, .inr (0, [.ref w, .ref d, .int 1, .int 0]))] s.heap := hP
  have hl := lv_entry ([.ref x, .int 3, .int n]) (n := 3) (Nat.le_of_ble_eq_true rfl)
  rw [lg_entry_eq]
  generalize (lg_sl ([.ref x, .int 3, .int n]) ++ List.replicate (3 - (lg_sl ([.ref x, .int 3, .int n])).length) Slot.unset).toArray = ls at hl ⊢
  have hl : lv_has ls 3 [(0, .ref x), (1, .int 3), (2, .int n)] := hl
  refine lv_iload_n hx hb dX4_about_0 rfl (lv_at hl 1 rfl) ?_
  refine lv_if_ne (tgt := 12) hx hb dX4_about_1 (by decide) (fun c_1 => ?_) (fun c_1 => ?_)
  rotate_left
  · exact absurd c_1 (by decide)
  refine lv_iload_n hx hb dX4_about_12 rfl (lv_at hl 1 rfl) ?_
  refine lv_iconst (v := 1) hx hb dX4_about_13 (by decide) ?_
  refine lv_icmp_ne (tgt := 25) hx hb dX4_about_14 (by decide) (fun c_2 => ?_) (fun c_2 => ?_)
  rotate_left
  · exact absurd c_2 (by decide)
  refine lv_iload_n hx hb dX4_about_25 rfl (lv_at hl 1 rfl) ?_
  refine lv_if_lt (tgt := 34) hx hb dX4_about_26 (by decide) (fun c_3 => ?_) (fun c_3 => ?_)
  · exact absurd c_3 (by decide)
  refine lv_iload_n hx hb dX4_about_29 rfl (lv_at hl 1 rfl) ?_
  refine lv_iconst (v := 4) hx hb dX4_about_30 (by decide) ?_
  refine lv_icmp_le (tgt := 44) hx hb dX4_about_31 (by decide) (fun c_4 => ?_) (fun c_4 => ?_)
  rotate_left
  · exact absurd (by decide) c_4
  refine lv_aload_n hx hb dX4_about_44 rfl (lv_at hl 0 rfl) ?_
  refine lv_iload_n hx hb dX4_about_45 rfl (lv_at hl 2 rfl) ?_
  have hPc := hP.sub (ws' := [(x, .inr (4, [.ref g, .ref mr, .ref tb, .ref lo, .ref g3, .ref gr, .ref wi])), (g, .inr (0, [.ref w, .ref d, .int 1, .int 0]))]) [0, 1] rfl
  have hDc := hD.sub (ws' := [(x, .inr (4, [.ref g, .ref mr, .ref tb, .ref lo, .ref g3, .ref gr, .ref wi])), (g, .inr (0, [.ref w, .ref d, .int 1, .int 0]))]) [0, 1] (by decide) rfl
  have hFc := va_free (wc := [(x, .inr (4, [.ref g, .ref mr, .ref tb, .ref lo, .ref g3, .ref gr, .ref wi])), (g, .inr (0, [.ref w, .ref d, .int 1, .int 0]))]) hD hS hA [0, 1] rfl
  refine vx_callv (vx_runV (As := [.int n]) (rest := []) ⟨hx, hb, hml, hown, hts⟩ (c_X4_requireNode_bad l hno dC dI cI cJ x g mr tb lo g3 gr wi w d s.heap.size n hn) (cwV 1 hts gX4_about_X4_requireNode rfl rfl rfl (by decide +kernel) ⟨Nat.le_of_ble_eq_true rfl, Nat.le_of_ble_eq_true rfl⟩) ⟨fun a U g mk q => by obtain ⟨q0, q1, qP, qK, qD, qX⟩ := q; exact ⟨q0, q1, qP, va_K.moved (u := U) (U := U.calling g mk a) (Vm.Alike.refl U.vm) qK, qD, qX.moved (State.WarmedH.refl U)⟩, va_recv hK hPc (ci := 4) (q0 := 0) rfl rfl, fun U hU hW => ⟨rfl, by rw [hU], by rw [hU]; exact hPc, va_K.moved hW.alike hK, hDc.weaken (fun _ _ _ _ => trivial), by rw [hU]; exact ((hX.kept hS.2.1).narrow hFc).moved hW⟩⟩ rfl rfl hl.1 rfl (lv_room (Nat.le_of_ble_eq_true rfl)) dX4_about_46 ⟨Nat.le_of_ble_eq_true rfl, Nat.le_of_ble_eq_true rfl⟩) hS (fun q _ h => hFc q h) hFc (fun q _ h => hFc q h) (fun E9 ce9 q9 u9 t H1 locs ht hvm hw hB hz1 hk1 hS hce hcv hcl => ?_) (fun u_6 t H1 locs ht hvm hw hB hz1 hk1 hS => ?_)
  · skip
    refine vx_out (fun x h => (htab x h).elim) hlocks hce hcv hcl (fun t9 ht9 _ => ⟨(), trivial, hB, hS.F ht9⟩) hS.2.2 (Nat.le_of_ble_eq_true rfl) (Nat.le_of_ble_eq_true rfl)
  · exact hw.elim
set_option maxHeartbeats 4000000 in
set_option maxRecDepth 100000 in
theorem c_X4_about_b4 (l : Launch) (hno : l.stackTraces = false) (dC : Nat → ClassId) (dI : Nat → Nat → Nat) (cI cJ : ClassId) (x g mr tb lo g3 gr wi w d : Nat) (sz : Nat) (n : Int32) (hn : n < 0 ∨ 1 ≤ n) : vx_Met l yX4_about wsX4_about ({ frames := 7, cells := 1, slots := 6, locals := 103 }) (va_Pc [.ref x, .int 4, .int n] (pPreX dC dI cI cJ sz [(x, .inr (4, [.ref g, .ref mr, .ref tb, .ref lo, .ref g3, .ref gr, .ref wi])), (g, .inr (0, [.ref w, .ref d, .int 1, .int 0]))])) (va_Qi (fun (_ : Int32) (_ : Unit) => False) (fun _ _ => True) (va_A [(x, .inr (4, [.ref g, .ref mr, .ref tb, .ref lo, .ref g3, .ref gr, .ref wi])), (g, .inr (0, [.ref w, .ref d, .int 1, .int 0]))] sz)) (vx_X (fun _ : Unit => True) (fun E _ _ => E = "java/lang/IndexOutOfBoundsException") (va_A [(x, .inr (4, [.ref g, .ref mr, .ref tb, .ref lo, .ref g3, .ref gr, .ref wi])), (g, .inr (0, [.ref w, .ref d, .int 1, .int 0]))] sz)) 1 6 (va_A [(x, .inr (4, [.ref g, .ref mr, .ref tb, .ref lo, .ref g3, .ref gr, .ref wi])), (g, .inr (0, [.ref w, .ref d, .int 1, .int 0]))] sz) := by
  refine vx_ofW (cc := cX4_about) (maxL := 3) (ret := (some .int)) (by decide) rfl ?_
  intro p e s m args below meth c s₁ B hml htab hv
  obtain ⟨rfl, hsz, hP, hK, hD0, hX⟩ := hv
  have hx := B.exec
  have hb := B.bytes
  have hr := B.returns
  have hts := atoms_spec (ws := wsX4_about) B.pre
  have hown : s.vm.findClass RX4 = some m.cls := findClass_of_methodNamed B.named
  have hlocks := B.notSynchronized
  subst hsz
  have hD := hD0.self (sz := s.heap.size)
  generalize hAe : va_A [(x, .inr (4, [.ref g, .ref mr, .ref tb, .ref lo, .ref g3, .ref gr, .ref wi])), (g, .inr (0, [.ref w, .ref d, .int 1, .int 0]))] s.heap.size = A at hD hX ⊢
  have hA : ∀ q : Nat, s.heap.size ≤ q → A q := fun q h => by rw [← hAe]; exact Or.inr h
  have hS : va_S A s.heap s.heap [] := va_S.rf
  have hP : va_P (dC, dI) vwCl [(x, .inr (4, [.ref g, .ref mr, .ref tb, .ref lo, .ref g3, .ref gr, .ref wi])), (g, .inr (0, [.ref w, .ref d, .int 1, .int 0]))] s.heap := hP
  have hl := lv_entry ([.ref x, .int 4, .int n]) (n := 3) (Nat.le_of_ble_eq_true rfl)
  rw [lg_entry_eq]
  generalize (lg_sl ([.ref x, .int 4, .int n]) ++ List.replicate (3 - (lg_sl ([.ref x, .int 4, .int n])).length) Slot.unset).toArray = ls at hl ⊢
  have hl : lv_has ls 3 [(0, .ref x), (1, .int 4), (2, .int n)] := hl
  refine lv_iload_n hx hb dX4_about_0 rfl (lv_at hl 1 rfl) ?_
  refine lv_if_ne (tgt := 12) hx hb dX4_about_1 (by decide) (fun c_1 => ?_) (fun c_1 => ?_)
  rotate_left
  · exact absurd c_1 (by decide)
  refine lv_iload_n hx hb dX4_about_12 rfl (lv_at hl 1 rfl) ?_
  refine lv_iconst (v := 1) hx hb dX4_about_13 (by decide) ?_
  refine lv_icmp_ne (tgt := 25) hx hb dX4_about_14 (by decide) (fun c_2 => ?_) (fun c_2 => ?_)
  rotate_left
  · exact absurd c_2 (by decide)
  refine lv_iload_n hx hb dX4_about_25 rfl (lv_at hl 1 rfl) ?_
  refine lv_if_lt (tgt := 34) hx hb dX4_about_26 (by decide) (fun c_3 => ?_) (fun c_3 => ?_)
  · exact absurd c_3 (by decide)
  refine lv_iload_n hx hb dX4_about_29 rfl (lv_at hl 1 rfl) ?_
  refine lv_iconst (v := 4) hx hb dX4_about_30 (by decide) ?_
  refine lv_icmp_le (tgt := 44) hx hb dX4_about_31 (by decide) (fun c_4 => ?_) (fun c_4 => ?_)
  rotate_left
  · exact absurd (by decide) c_4
  refine lv_aload_n hx hb dX4_about_44 rfl (lv_at hl 0 rfl) ?_
  refine lv_iload_n hx hb dX4_about_45 rfl (lv_at hl 2 rfl) ?_
  have hPc := hP.sub (ws' := [(x, .inr (4, [.ref g, .ref mr, .ref tb, .ref lo, .ref g3, .ref gr, .ref wi])), (g, .inr (0, [.ref w, .ref d, .int 1, .int 0]))]) [0, 1] rfl
  have hDc := hD.sub (ws' := [(x, .inr (4, [.ref g, .ref mr, .ref tb, .ref lo, .ref g3, .ref gr, .ref wi])), (g, .inr (0, [.ref w, .ref d, .int 1, .int 0]))]) [0, 1] (by decide) rfl
  have hFc := va_free (wc := [(x, .inr (4, [.ref g, .ref mr, .ref tb, .ref lo, .ref g3, .ref gr, .ref wi])), (g, .inr (0, [.ref w, .ref d, .int 1, .int 0]))]) hD hS hA [0, 1] rfl
  refine vx_callv (vx_runV (As := [.int n]) (rest := []) ⟨hx, hb, hml, hown, hts⟩ (c_X4_requireNode_bad l hno dC dI cI cJ x g mr tb lo g3 gr wi w d s.heap.size n hn) (cwV 1 hts gX4_about_X4_requireNode rfl rfl rfl (by decide +kernel) ⟨Nat.le_of_ble_eq_true rfl, Nat.le_of_ble_eq_true rfl⟩) ⟨fun a U g mk q => by obtain ⟨q0, q1, qP, qK, qD, qX⟩ := q; exact ⟨q0, q1, qP, va_K.moved (u := U) (U := U.calling g mk a) (Vm.Alike.refl U.vm) qK, qD, qX.moved (State.WarmedH.refl U)⟩, va_recv hK hPc (ci := 4) (q0 := 0) rfl rfl, fun U hU hW => ⟨rfl, by rw [hU], by rw [hU]; exact hPc, va_K.moved hW.alike hK, hDc.weaken (fun _ _ _ _ => trivial), by rw [hU]; exact ((hX.kept hS.2.1).narrow hFc).moved hW⟩⟩ rfl rfl hl.1 rfl (lv_room (Nat.le_of_ble_eq_true rfl)) dX4_about_46 ⟨Nat.le_of_ble_eq_true rfl, Nat.le_of_ble_eq_true rfl⟩) hS (fun q _ h => hFc q h) hFc (fun q _ h => hFc q h) (fun E9 ce9 q9 u9 t H1 locs ht hvm hw hB hz1 hk1 hS hce hcv hcl => ?_) (fun u_6 t H1 locs ht hvm hw hB hz1 hk1 hS => ?_)
  · skip
    refine vx_out (fun x h => (htab x h).elim) hlocks hce hcv hcl (fun t9 ht9 _ => ⟨(), trivial, hB, hS.F ht9⟩) hS.2.2 (Nat.le_of_ble_eq_true rfl) (Nat.le_of_ble_eq_true rfl)
  · exact hw.elim
