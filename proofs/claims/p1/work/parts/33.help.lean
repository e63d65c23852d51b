theorem va_P0 {D : va_G} {cl : List vw_C} {H : Heap} : va_P D cl [] H := fun k q h => by simp at h
theorem va_D0 {A : Nat → Prop} : va_D A [] := ⟨fun i j p q h => by simp at h, fun k q h => by simp at h⟩
set_option maxHeartbeats 4000000 in
set_option maxRecDepth 100000 in
theorem c_L_nodes_ok (l : Launch) (dC : Nat → ClassId) (dI : Nat → Nat → Nat) (cI cJ : ClassId) (x g mr tb lo g3 gr wi w d mh mc md ml mn tf th tc lf lg : Nat) (sz : Nat) (k : Nat) (hk1 : 1 ≤ k) (hk : k ≤ 40) : Met l yL_nodes wsL_nodes ({ frames := 3, cells := 0, slots := 0, locals := 65 }) (va_Pc [.ref x, .int (nI k)] (pPre dC dI cI cJ sz [(x, .inr (4, [.ref g, .ref mr, .ref tb, .ref lo, .ref g3, .ref gr, .ref wi])), (g, .inr (0, [.ref w, .ref d, .int 1, .int 0])), (w, .inl (cI, 1600, .inl Zi)), (d, .inl (cI, 40, .inl Zi)), (mr, .inr (1, [.ref mh, .ref mc, .ref md, .ref ml, .ref mn])), (mh, .inl (cI, 40, .inl Zi)), (tb, .inr (2, [.ref tf, .ref th, .ref tc, .int 0])), (lo, .inr (3, [.ref lf, .ref lg, .int 0]))])) (va_Qi (fun (r : Int32) (_ : Unit) => r = 0) (pPost dC dI (va_A [(x, .inr (4, [.ref g, .ref mr, .ref tb, .ref lo, .ref g3, .ref gr, .ref wi])), (g, .inr (0, [.ref w, .ref d, .int 1, .int 0])), (w, .inl (cI, 1600, .inl Zi)), (d, .inl (cI, 40, .inl Zi)), (mr, .inr (1, [.ref mh, .ref mc, .ref md, .ref ml, .ref mn])), (mh, .inl (cI, 40, .inl Zi)), (tb, .inr (2, [.ref tf, .ref th, .ref tc, .int 0])), (lo, .inr (3, [.ref lf, .ref lg, .int 0]))] sz) []) (va_A [(x, .inr (4, [.ref g, .ref mr, .ref tb, .ref lo, .ref g3, .ref gr, .ref wi])), (g, .inr (0, [.ref w, .ref d, .int 1, .int 0])), (w, .inl (cI, 1600, .inl Zi)), (d, .inl (cI, 40, .inl Zi)), (mr, .inr (1, [.ref mh, .ref mc, .ref md, .ref ml, .ref mn])), (mh, .inl (cI, 40, .inl Zi)), (tb, .inr (2, [.ref tf, .ref th, .ref tc, .int 0])), (lo, .inr (3, [.ref lf, .ref lg, .int 0]))] sz)) 0 0 (va_A [(x, .inr (4, [.ref g, .ref mr, .ref tb, .ref lo, .ref g3, .ref gr, .ref wi])), (g, .inr (0, [.ref w, .ref d, .int 1, .int 0])), (w, .inl (cI, 1600, .inl Zi)), (d, .inl (cI, 40, .inl Zi)), (mr, .inr (1, [.ref mh, .ref mc, .ref md, .ref ml, .ref mn])), (mh, .inl (cI, 40, .inl Zi)), (tb, .inr (2, [.ref tf, .ref th, .ref tc, .int 0])), (lo, .inr (3, [.ref lf, .ref lg, .int 0]))] sz) := by
  refine va_MetW (cc := cL_nodes) (maxL := 3) (ret := (some .int)) (hh := [(0, 5, 8, 13)]) (by decide) rfl ?_
  intro p e s m args below meth c s₁ B hml hv
  obtain ⟨rfl, hsz, hP, hK, hD0⟩ := hv
  have hx := B.exec
  have hb := B.bytes
  have hr := B.returns
  have hts := atoms_spec (ws := wsL_nodes) B.pre
  have hown : s.vm.findClass RL = some m.cls := findClass_of_methodNamed B.named
  have hlocks := B.notSynchronized
  subst hsz
  have hD := hD0.self (sz := s.heap.size)
  generalize hAe : va_A [(x, .inr (4, [.ref g, .ref mr, .ref tb, .ref lo, .ref g3, .ref gr, .ref wi])), (g, .inr (0, [.ref w, .ref d, .int 1, .int 0])), (w, .inl (cI, 1600, .inl Zi)), (d, .inl (cI, 40, .inl Zi)), (mr, .inr (1, [.ref mh, .ref mc, .ref md, .ref ml, .ref mn])), (mh, .inl (cI, 40, .inl Zi)), (tb, .inr (2, [.ref tf, .ref th, .ref tc, .int 0])), (lo, .inr (3, [.ref lf, .ref lg, .int 0]))] s.heap.size = A at hD ⊢
  have hA : ∀ q : Nat, s.heap.size ≤ q → A q := fun q h => by rw [← hAe]; exact Or.inr h
  have hS : va_S A s.heap s.heap [] := va_S.rf
  have hP : va_P (dC, dI) vwCl [(x, .inr (4, [.ref g, .ref mr, .ref tb, .ref lo, .ref g3, .ref gr, .ref wi])), (g, .inr (0, [.ref w, .ref d, .int 1, .int 0])), (w, .inl (cI, 1600, .inl Zi)), (d, .inl (cI, 40, .inl Zi)), (mr, .inr (1, [.ref mh, .ref mc, .ref md, .ref ml, .ref mn])), (mh, .inl (cI, 40, .inl Zi)), (tb, .inr (2, [.ref tf, .ref th, .ref tc, .int 0])), (lo, .inr (3, [.ref lf, .ref lg, .int 0]))] s.heap := hP
  have hl := lv_entry ([.ref x, .int (nI k)]) (n := 3) (Nat.le_of_ble_eq_true rfl)
  rw [lg_entry_eq]
  generalize (lg_sl ([.ref x, .int (nI k)]) ++ List.replicate (3 - (lg_sl ([.ref x, .int (nI k)])).length) Slot.unset).toArray = ls at hl ⊢
  have hl : lv_has ls 3 [(0, .ref x), (1, .int (nI k))] := hl
  have htab := vx_table (x := yL_nodes) B (hts _ List.mem_cons_self)
  refine lv_aload_n hx hb dL_nodes_0 rfl (lv_at hl 0 rfl) ?_
  refine lv_iload_n hx hb dL_nodes_1 rfl (lv_at hl 1 rfl) ?_
  have hPc := hP.sub (ws' := [(x, .inr (4, [.ref g, .ref mr, .ref tb, .ref lo, .ref g3, .ref gr, .ref wi])), (g, .inr (0, [.ref w, .ref d, .int 1, .int 0])), (w, .inl (cI, 1600, .inl Zi)), (d, .inl (cI, 40, .inl Zi)), (mr, .inr (1, [.ref mh, .ref mc, .ref md, .ref ml, .ref mn])), (mh, .inl (cI, 40, .inl Zi)), (tb, .inr (2, [.ref tf, .ref th, .ref tc, .int 0])), (lo, .inr (3, [.ref lf, .ref lg, .int 0]))]) [0, 1, 2, 3, 4, 5, 6, 7] rfl
  have hDc := hD.sub (ws' := [(x, .inr (4, [.ref g, .ref mr, .ref tb, .ref lo, .ref g3, .ref gr, .ref wi])), (g, .inr (0, [.ref w, .ref d, .int 1, .int 0])), (w, .inl (cI, 1600, .inl Zi)), (d, .inl (cI, 40, .inl Zi)), (mr, .inr (1, [.ref mh, .ref mc, .ref md, .ref ml, .ref mn])), (mh, .inl (cI, 40, .inl Zi)), (tb, .inr (2, [.ref tf, .ref th, .ref tc, .int 0])), (lo, .inr (3, [.ref lf, .ref lg, .int 0]))]) [0, 1, 2, 3, 4, 5, 6, 7] (by decide) rfl
  have hFc := va_free (wc := [(x, .inr (4, [.ref g, .ref mr, .ref tb, .ref lo, .ref g3, .ref gr, .ref wi])), (g, .inr (0, [.ref w, .ref d, .int 1, .int 0])), (w, .inl (cI, 1600, .inl Zi)), (d, .inl (cI, 40, .inl Zi)), (mr, .inr (1, [.ref mh, .ref mc, .ref md, .ref ml, .ref mn])), (mh, .inl (cI, 40, .inl Zi)), (tb, .inr (2, [.ref tf, .ref th, .ref tc, .int 0])), (lo, .inr (3, [.ref lf, .ref lg, .int 0]))]) hD hS hA [0, 1, 2, 3, 4, 5, 6, 7] rfl
  refine va_callv (va_runV (As := [.int (nI k)]) (rest := []) ⟨hx, hb, hml, hown, hts⟩ (c_X4_nodes l dC dI cI cJ x g mr tb lo g3 gr wi w d mh mc md ml mn tf th tc lf lg s.heap.size k hk1 hk) (cwV 1 hts gL_nodes_X4_nodes rfl rfl rfl (by decide +kernel) ⟨Nat.le_of_ble_eq_true rfl, Nat.le_of_ble_eq_true rfl⟩) ⟨fun a U g mk q => by obtain ⟨q0, q1, qP, qK, qD⟩ := q; exact ⟨q0, q1, qP, va_K.moved (u := U) (U := U.calling g mk a) (Vm.Alike.refl U.vm) qK, qD⟩, va_recv hK hPc (ci := 4) (q0 := 0) rfl rfl, fun U hU hW => ⟨rfl, by rw [hU], by rw [hU]; exact hPc, va_K.moved hW.alike hK, hDc.weaken (fun _ _ _ _ => trivial)⟩⟩ rfl rfl hl.1 rfl (lv_room (Nat.le_of_ble_eq_true rfl)) dL_nodes_2 ⟨Nat.le_of_ble_eq_true rfl, Nat.le_of_ble_eq_true rfl⟩) hS (fun q _ h => hFc q h) hFc (fun u_2 t H1 locs ht hvm hw hB hz1 hk1 hS => ?_)
  obtain ⟨hP1, hD1⟩ := hB
  rw [ht] at hP1
  obtain ⟨hP, hD⟩ := va_join (wr := []) (w1 := []) hP hD [0, 1, 2, 3, 4, 5, 6, 7] [] rfl rfl (by decide) (by decide) hk1 hFc hP1 hD1
  generalize H1 = H at hP hS ⊢
  have hP : va_P (dC, dI) vwCl [] H := hP
  have hD : va_D A [] := hD
  refine lv_goto (tgt := 11) hx hb dL_nodes_5 (by decide) ?_
  refine lv_iconst (v := 0) hx hb dL_nodes_11 (by decide) ?_
  have hP9 := hP.sub (ws' := []) [] rfl
  have hD9 := hD.sub (ws' := []) [] (by decide) rfl
  exact W.iret (v := 0) hx hb hr (fun t ht hW => ⟨⟨_, (), rfl, rfl, by rw [ht]; exact hP9, hD9⟩, hS.F ht⟩) hS.2.2 dL_nodes_12
set_option maxHeartbeats 4000000 in
set_option maxRecDepth 100000 in
theorem c_L_nodes_bad (l : Launch) (hno : l.stackTraces = false) (dC : Nat → ClassId) (dI : Nat → Nat → Nat) (cI cJ : ClassId) (x g mr tb lo g3 gr wi : Nat) (sz : Nat) (n : Int32) (hn : n < 1 ∨ 40 < n) : Met l yL_nodes wsL_nodes ({ frames := 7, cells := 1, slots := 6, locals := 103 }) (va_Pc [.ref x, .int n] (pPreX dC dI cI cJ sz [(x, .inr (4, [.ref g, .ref mr, .ref tb, .ref lo, .ref g3, .ref gr, .ref wi]))])) (va_Qi (fun (r : Int32) (_ : Unit) => r = 1) (pPost dC dI (va_A [(x, .inr (4, [.ref g, .ref mr, .ref tb, .ref lo, .ref g3, .ref gr, .ref wi]))] sz) []) (va_A [(x, .inr (4, [.ref g, .ref mr, .ref tb, .ref lo, .ref g3, .ref gr, .ref wi]))] sz)) 1 6 (va_A [(x, .inr (4, [.ref g, .ref mr, .ref tb, .ref lo, .ref g3, .ref gr, .ref wi]))] sz) := by
  refine va_MetW (cc := cL_nodes) (maxL := 3) (ret := (some .int)) (hh := [(0, 5, 8, 13)]) (by decide) rfl ?_
  intro p e s m args below meth c s₁ B hml hv
  obtain ⟨rfl, hsz, hP, hK, hD0, hX⟩ := hv
  have hx := B.exec
  have hb := B.bytes
  have hr := B.returns
  have hts := atoms_spec (ws := wsL_nodes) B.pre
  have hown : s.vm.findClass RL = some m.cls := findClass_of_methodNamed B.named
  have hlocks := B.notSynchronized
  subst hsz
  have hD := hD0.self (sz := s.heap.size)
  generalize hAe : va_A [(x, .inr (4, [.ref g, .ref mr, .ref tb, .ref lo, .ref g3, .ref gr, .ref wi]))] s.heap.size = A at hD hX ⊢
  have hA : ∀ q : Nat, s.heap.size ≤ q → A q := fun q h => by rw [← hAe]; exact Or.inr h
  have hS : va_S A s.heap s.heap [] := va_S.rf
  have hP : va_P (dC, dI) vwCl [(x, .inr (4, [.ref g, .ref mr, .ref tb, .ref lo, .ref g3, .ref gr, .ref wi]))] s.heap := hP
  have hl := lv_entry ([.ref x, .int n]) (n := 3) (Nat.le_of_ble_eq_true rfl)
  rw [lg_entry_eq]
  generalize (lg_sl ([.ref x, .int n]) ++ List.replicate (3 - (lg_sl ([.ref x, .int n])).length) Slot.unset).toArray = ls at hl ⊢
  have hl : lv_has ls 3 [(0, .ref x), (1, .int n)] := hl
  have htab := vx_table (x := yL_nodes) B (hts _ List.mem_cons_self)
  have k_0 := hts (.classLink RL 13 "java/lang/IllegalArgumentException") (by decide +kernel)
  refine lv_aload_n hx hb dL_nodes_0 rfl (lv_at hl 0 rfl) ?_
  refine lv_iload_n hx hb dL_nodes_1 rfl (lv_at hl 1 rfl) ?_
  have hPc := hP.sub (ws' := [(x, .inr (4, [.ref g, .ref mr, .ref tb, .ref lo, .ref g3, .ref gr, .ref wi]))]) [0] rfl
  have hDc := hD.sub (ws' := [(x, .inr (4, [.ref g, .ref mr, .ref tb, .ref lo, .ref g3, .ref gr, .ref wi]))]) [0] (by decide) rfl
  have hFc := va_free (wc := [(x, .inr (4, [.ref g, .ref mr, .ref tb, .ref lo, .ref g3, .ref gr, .ref wi]))]) hD hS hA [0] rfl
  refine vx_callv (vx_runV (As := [.int n]) (rest := []) ⟨hx, hb, hml, hown, hts⟩ (c_X4_nodes_bad l hno dC dI cI cJ x g mr tb lo g3 gr wi s.heap.size n hn) (cwV 1 hts gL_nodes_X4_nodes rfl rfl rfl (by decide +kernel) ⟨Nat.le_of_ble_eq_true rfl, Nat.le_of_ble_eq_true rfl⟩) ⟨fun a U g mk q => by obtain ⟨q0, q1, qP, qK, qD, qX⟩ := q; exact ⟨q0, q1, qP, va_K.moved (u := U) (U := U.calling g mk a) (Vm.Alike.refl U.vm) qK, qD, qX.moved (State.WarmedH.refl U)⟩, va_recv hK hPc (ci := 4) (q0 := 0) rfl rfl, fun U hU hW => ⟨rfl, by rw [hU], by rw [hU]; exact hPc, va_K.moved hW.alike hK, hDc.weaken (fun _ _ _ _ => trivial), by rw [hU]; exact ((hX.kept hS.2.1).narrow hFc).moved hW⟩⟩ rfl rfl hl.1 rfl (lv_room (Nat.le_of_ble_eq_true rfl)) dL_nodes_2 ⟨Nat.le_of_ble_eq_true rfl, Nat.le_of_ble_eq_true rfl⟩) hS (fun q _ h => hFc q h) hFc (fun q _ h => hFc q h) (fun E9 ce9 q9 u9 t H1 locs ht hvm hw hB hz1 hk1 hS hce hcv hcl => ?_) (fun u_2 t H1 locs ht hvm hw hB hz1 hk1 hS => ?_)
  · skip
    obtain rfl := hB
    refine vx_catch (own := RL) (name := "java/lang/IllegalArgumentException") hown [] ⟨0, 5, 8, 13⟩ [] (htab.trans rfl) (fun z hz => absurd hz List.not_mem_nil) (by decide) (by decide) k_0 (vz_bad _ (List.mem_of_getElem? (i := 3) rfl) (hX.2.2.1 _ (List.mem_of_getElem? (i := 3) rfl))) hce hcv hcl ?_
    have hP : va_P (dC, dI) vwCl [] H1 := va_P0
    have hD : va_D A [] := va_D0
    generalize H1 = H at hP hS ⊢
    refine lv_astore_n (lv' := [(2, .ref q9), (0, .ref x), (1, .int n)]) hx hb dL_nodes_8 rfl hl (by decide) rfl (fun ls hl => ?_)
    refine lv_iconst (v := 1) hx hb dL_nodes_9 (by decide) ?_
    refine W.widen (k := 1) (n := 6) (by decide) (by decide) ?_
    have hP9 := hP.sub (ws' := []) [] rfl
    have hD9 := hD.sub (ws' := []) [] (by decide) rfl
    exact W.iret (v := 1) hx hb hr (fun t ht hW => ⟨⟨_, (), rfl, rfl, by rw [ht]; exact hP9, hD9⟩, hS.F ht⟩) hS.2.2 dL_nodes_10
  · exact hw.elim
set_option maxHeartbeats 4000000 in
set_option maxRecDepth 100000 in
theorem c_L_weigh_ok (l : Launch) (dC : Nat → ClassId) (dI : Nat → Nat → Nat) (cI cJ : ClassId) (x g mr tb lo g3 gr wi w d tf th tc lf lg o9 : Nat) (sz : Nat) (w9 : Int32) (hw0 : ¬ w9 < 0) (hw1 : lg_cmp (0 + w9.toInt64) 536870912 < 0) : Met l yL_weigh wsL_weigh ({ frames := 2, cells := 0, slots := 0, locals := 47 }) (va_Pc [.ref x, .int 0, .int 0, .int w9, .ref o9] (pPre dC dI cI cJ sz [(x, .inr (4, [.ref g, .ref mr, .ref tb, .ref lo, .ref g3, .ref gr, .ref wi])), (g, .inr (0, [.ref w, .ref d, .int 1, .int 0])), (w, .inl (cI, 1600, .inl Zi)), (d, .inl (cI, 40, .inl Zi)), (tb, .inr (2, [.ref tf, .ref th, .ref tc, .int 0])), (lo, .inr (3, [.ref lf, .ref lg, .int 0])), (o9, .inl (cJ, 1, .inr (.inl Zl)))])) (va_Qi (fun (r : Int32) (_ : Unit) => r = 0) (pPost dC dI (va_A [(x, .inr (4, [.ref g, .ref mr, .ref tb, .ref lo, .ref g3, .ref gr, .ref wi])), (g, .inr (0, [.ref w, .ref d, .int 1, .int 0])), (w, .inl (cI, 1600, .inl Zi)), (d, .inl (cI, 40, .inl Zi)), (tb, .inr (2, [.ref tf, .ref th, .ref tc, .int 0])), (lo, .inr (3, [.ref lf, .ref lg, .int 0])), (o9, .inl (cJ, 1, .inr (.inl Zl)))] sz) [(o9, .inl (cJ, 1, .inr (.inl (vp_updL Zl 0 0))))]) (va_A [(x, .inr (4, [.ref g, .ref mr, .ref tb, .ref lo, .ref g3, .ref gr, .ref wi])), (g, .inr (0, [.ref w, .ref d, .int 1, .int 0])), (w, .inl (cI, 1600, .inl Zi)), (d, .inl (cI, 40, .inl Zi)), (tb, .inr (2, [.ref tf, .ref th, .ref tc, .int 0])), (lo, .inr (3, [.ref lf, .ref lg, .int 0])), (o9, .inl (cJ, 1, .inr (.inl Zl)))] sz)) 0 0 (va_A [(x, .inr (4, [.ref g, .ref mr, .ref tb, .ref lo, .ref g3, .ref gr, .ref wi])), (g, .inr (0, [.ref w, .ref d, .int 1, .int 0])), (w, .inl (cI, 1600, .inl Zi)), (d, .inl (cI, 40, .inl Zi)), (tb, .inr (2, [.ref tf, .ref th, .ref tc, .int 0])), (lo, .inr (3, [.ref lf, .ref lg, .int 0])), (o9, .inl (cJ, 1, .inr (.inl Zl)))] sz) := by
  refine va_MetW (cc := cL_weigh) (maxL := 6) (ret := (some .int)) (hh := [(0, 12, 15, 19), (0, 12, 19, 13)]) (by decide) rfl ?_
  intro p e s m args below meth c s₁ B hml hv
  obtain ⟨rfl, hsz, hP, hK, hD0⟩ := hv
  have hx := B.exec
  have hb := B.bytes
  have hr := B.returns
  have hts := atoms_spec (ws := wsL_weigh) B.pre
  have hown : s.vm.findClass RL = some m.cls := findClass_of_methodNamed B.named
  have hlocks := B.notSynchronized
  subst hsz
  have hD := hD0.self (sz := s.heap.size)
  generalize hAe : va_A [(x, .inr (4, [.ref g, .ref mr, .ref tb, .ref lo, .ref g3, .ref gr, .ref wi])), (g, .inr (0, [.ref w, .ref d, .int 1, .int 0])), (w, .inl (cI, 1600, .inl Zi)), (d, .inl (cI, 40, .inl Zi)), (tb, .inr (2, [.ref tf, .ref th, .ref tc, .int 0])), (lo, .inr (3, [.ref lf, .ref lg, .int 0])), (o9, .inl (cJ, 1, .inr (.inl Zl)))] s.heap.size = A at hD ⊢
  have hA : ∀ q : Nat, s.heap.size ≤ q → A q := fun q h => by rw [← hAe]; exact Or.inr h
  have hS : va_S A s.heap s.heap [] := va_S.rf
  have hP : va_P (dC, dI) vwCl [(x, .inr (4, [.ref g, .ref mr, .ref tb, .ref lo, .ref g3, .ref gr, .ref wi])), (g, .inr (0, [.ref w, .ref d, .int 1, .int 0])), (w, .inl (cI, 1600, .inl Zi)), (d, .inl (cI, 40, .inl Zi)), (tb, .inr (2, [.ref tf, .ref th, .ref tc, .int 0])), (lo, .inr (3, [.ref lf, .ref lg, .int 0])), (o9, .inl (cJ, 1, .inr (.inl Zl)))] s.heap := hP
  have hl := lv_entry ([.ref x, .int 0, .int 0, .int w9, .ref o9]) (n := 6) (Nat.le_of_ble_eq_true rfl)
  rw [lg_entry_eq]
  generalize (lg_sl ([.ref x, .int 0, .int 0, .int w9, .ref o9]) ++ List.replicate (6 - (lg_sl ([.ref x, .int 0, .int 0, .int w9, .ref o9])).length) Slot.unset).toArray = ls at hl ⊢
  have hl : lv_has ls 6 [(0, .ref x), (1, .int 0), (2, .int 0), (3, .int w9), (4, .ref o9)] := hl
  have htab := vx_table (x := yL_weigh) B (hts _ List.mem_cons_self)
  refine lv_aload hx hb dL_weigh_0 (lv_at hl 4 rfl) ?_
  refine lv_iconst (v := 0) hx hb dL_weigh_2 (by decide) ?_
  refine lv_aload_n hx hb dL_weigh_3 rfl (lv_at hl 0 rfl) ?_
  refine lv_iload_n hx hb dL_weigh_4 rfl (lv_at hl 1 rfl) ?_
  refine lv_iload_n hx hb dL_weigh_5 rfl (lv_at hl 2 rfl) ?_
  refine lv_iload_n hx hb dL_weigh_6 rfl (lv_at hl 3 rfl) ?_
  have hPc := hP.sub (ws' := [(x, .inr (4, [.ref g, .ref mr, .ref tb, .ref lo, .ref g3, .ref gr, .ref wi])), (g, .inr (0, [.ref w, .ref d, .int 1, .int 0])), (w, .inl (cI, 1600, .inl Zi)), (d, .inl (cI, 40, .inl Zi)), (tb, .inr (2, [.ref tf, .ref th, .ref tc, .int 0])), (lo, .inr (3, [.ref lf, .ref lg, .int 0]))]) [0, 1, 2, 3, 4, 5] rfl
  have hDc := hD.sub (ws' := [(x, .inr (4, [.ref g, .ref mr, .ref tb, .ref lo, .ref g3, .ref gr, .ref wi])), (g, .inr (0, [.ref w, .ref d, .int 1, .int 0])), (w, .inl (cI, 1600, .inl Zi)), (d, .inl (cI, 40, .inl Zi)), (tb, .inr (2, [.ref tf, .ref th, .ref tc, .int 0])), (lo, .inr (3, [.ref lf, .ref lg, .int 0]))]) [0, 1, 2, 3, 4, 5] (by decide) rfl
  have hFc := va_free (wc := [(x, .inr (4, [.ref g, .ref mr, .ref tb, .ref lo, .ref g3, .ref gr, .ref wi])), (g, .inr (0, [.ref w, .ref d, .int 1, .int 0])), (w, .inl (cI, 1600, .inl Zi)), (d, .inl (cI, 40, .inl Zi)), (tb, .inr (2, [.ref tf, .ref th, .ref tc, .int 0])), (lo, .inr (3, [.ref lf, .ref lg, .int 0]))]) hD hS hA [0, 1, 2, 3, 4, 5] rfl
  refine va_calli (va_runV (As := [.int 0, .int 0, .int w9]) (rest := [.int 0, .ref o9]) ⟨hx, hb, hml, hown, hts⟩ (c_X4_weigh l dC dI cI cJ x g mr tb lo g3 gr wi w d tf th tc lf lg s.heap.size w9 hw0 hw1) (cwV 3 hts gL_weigh_X4_weigh rfl rfl rfl (by decide +kernel) ⟨Nat.le_of_ble_eq_true rfl, Nat.le_of_ble_eq_true rfl⟩) ⟨fun a U g mk q => by obtain ⟨q0, q1, qP, qK, qD⟩ := q; exact ⟨q0, q1, qP, va_K.moved (u := U) (U := U.calling g mk a) (Vm.Alike.refl U.vm) qK, qD⟩, va_recv hK hPc (ci := 4) (q0 := 0) rfl rfl, fun U hU hW => ⟨rfl, by rw [hU], by rw [hU]; exact hPc, va_K.moved hW.alike hK, hDc.weaken (fun _ _ _ _ => trivial)⟩⟩ rfl rfl hl.1 rfl (lv_room (Nat.le_of_ble_eq_true rfl)) dL_weigh_7 ⟨Nat.le_of_ble_eq_true rfl, Nat.le_of_ble_eq_true rfl⟩) hS (fun q _ h => hFc q h) hFc (fun r_1 u_2 t H1 locs ht hvm hw hB hz1 hk1 hS => ?_)
  obtain ⟨hP1, hD1⟩ := hB
  rw [ht] at hP1
  obtain ⟨hP, hD⟩ := va_join (wr := [(o9, .inl (cJ, 1, .inr (.inl Zl)))]) (w1 := []) hP hD [0, 1, 2, 3, 4, 5] [6] rfl rfl (by decide) (by decide) hk1 hFc hP1 hD1
  generalize H1 = H at hP hS ⊢
  have hP : va_P (dC, dI) vwCl [(o9, .inl (cJ, 1, .inr (.inl Zl)))] H := hP
  have hD : va_D A [(o9, .inl (cJ, 1, .inr (.inl Zl)))] := hD
  obtain rfl : r_1 = 0 := hw
  refine lv_i2l (v := 0) hx hb dL_weigh_10 (by decide) ?_
  refine va_last hx hb hK hP hD hS 0 1 rfl rfl (vp_c (by decide)) dL_weigh_11 (fun H locs hP hD hS => ?_)
  have hP : va_P (dC, dI) vwCl [(o9, .inl (cJ, 1, .inr (.inl (vp_updL Zl 0 0))))] H := hP
  have hD : va_D A [(o9, .inl (cJ, 1, .inr (.inl (vp_updL Zl 0 0))))] := hD
  refine lv_goto (tgt := 23) hx hb dL_weigh_12 (by decide) ?_
  refine lv_iconst (v := 0) hx hb dL_weigh_23 (by decide) ?_
  have hP9 := hP.sub (ws' := [(o9, .inl (cJ, 1, .inr (.inl (vp_updL Zl 0 0))))]) [0] rfl
  have hD9 := hD.sub (ws' := [(o9, .inl (cJ, 1, .inr (.inl (vp_updL Zl 0 0))))]) [0] (by decide) rfl
  exact W.iret (v := 0) hx hb hr (fun t ht hW => ⟨⟨_, (), rfl, rfl, by rw [ht]; exact hP9, hD9⟩, hS.F ht⟩) hS.2.2 dL_weigh_24
set_option maxHeartbeats 4000000 in
set_option maxRecDepth 100000 in
theorem c_L_weigh_b1 (l : Launch) (hno : l.stackTraces = false) (dC : Nat → ClassId) (dI : Nat → Nat → Nat) (cI cJ : ClassId) (x g mr tb lo g3 gr wi w d o9 : Nat) (sz : Nat) (n : Int32) (b9 : Int32) (w9 : Int32) (hn : n < 0 ∨ 1 ≤ n) : Met l yL_weigh wsL_weigh ({ frames := 8, cells := 1, slots := 6, locals := 127 }) (va_Pc [.ref x, .int n, .int b9, .int w9, .ref o9] (pPreX dC dI cI cJ sz [(x, .inr (4, [.ref g, .ref mr, .ref tb, .ref lo, .ref g3, .ref gr, .ref wi])), (g, .inr (0, [.ref w, .ref d, .int 1, .int 0])), (o9, .inl (cJ, 1, .inr (.inl Zl)))])) (va_Qi (fun (r : Int32) (_ : Unit) => r = 1) (pPost dC dI (va_A [(x, .inr (4, [.ref g, .ref mr, .ref tb, .ref lo, .ref g3, .ref gr, .ref wi])), (g, .inr (0, [.ref w, .ref d, .int 1, .int 0])), (o9, .inl (cJ, 1, .inr (.inl Zl)))] sz) []) (va_A [(x, .inr (4, [.ref g, .ref mr, .ref tb, .ref lo, .ref g3, .ref gr, .ref wi])), (g, .inr (0, [.ref w, .ref d, .int 1, .int 0])), (o9, .inl (cJ, 1, .inr (.inl Zl)))] sz)) 1 6 (va_A [(x, .inr (4, [.ref g, .ref mr, .ref tb, .ref lo, .ref g3, .ref gr, .ref wi])), (g, .inr (0, [.ref w, .ref d, .int 1, .int 0])), (o9, .inl (cJ, 1, .inr (.inl Zl)))] sz) := by
  refine va_MetW (cc := cL_weigh) (maxL := 6) (ret := (some .int)) (hh := [(0, 12, 15, 19), (0, 12, 19, 13)]) (by decide) rfl ?_
  intro p e s m args below meth c s₁ B hml hv
  obtain ⟨rfl, hsz, hP, hK, hD0, hX⟩ := hv
  have hx := B.exec
  have hb := B.bytes
  have hr := B.returns
  have hts := atoms_spec (ws := wsL_weigh) B.pre
  have hown : s.vm.findClass RL = some m.cls := findClass_of_methodNamed B.named
  have hlocks := B.notSynchronized
  subst hsz
  have hD := hD0.self (sz := s.heap.size)
  generalize hAe : va_A [(x, .inr (4, [.ref g, .ref mr, .ref tb, .ref lo, .ref g3, .ref gr, .ref wi])), (g, .inr (0, [.ref w, .ref d, .int 1, .int 0])), (o9, .inl (cJ, 1, .inr (.inl Zl)))] s.heap.size = A at hD hX ⊢
  have hA : ∀ q : Nat, s.heap.size ≤ q → A q := fun q h => by rw [← hAe]; exact Or.inr h
  have hS : va_S A s.heap s.heap [] := va_S.rf
  have hP : va_P (dC, dI) vwCl [(x, .inr (4, [.ref g, .ref mr, .ref tb, .ref lo, .ref g3, .ref gr, .ref wi])), (g, .inr (0, [.ref w, .ref d, .int 1, .int 0])), (o9, .inl (cJ, 1, .inr (.inl Zl)))] s.heap := hP
  have hl := lv_entry ([.ref x, .int n, .int b9, .int w9, .ref o9]) (n := 6) (Nat.le_of_ble_eq_true rfl)
  rw [lg_entry_eq]
  generalize (lg_sl ([.ref x, .int n, .int b9, .int w9, .ref o9]) ++ List.replicate (6 - (lg_sl ([.ref x, .int n, .int b9, .int w9, .ref o9])).length) Slot.unset).toArray = ls at hl ⊢
  have hl : lv_has ls 6 [(0, .ref x), (1, .int n), (2, .int b9), (3, .int w9), (4, .ref o9)] := hl
  have htab := vx_table (x := yL_weigh) B (hts _ List.mem_cons_self)
  have k_0 := hts (.classLink RL 19 "java/lang/IndexOutOfBoundsException") (by decide +kernel)
  have k_1 := hts (.classLink RL 13 "java/lang/IllegalArgumentException") (by decide +kernel)
  refine lv_aload hx hb dL_weigh_0 (lv_at hl 4 rfl) ?_
  refine lv_iconst (v := 0) hx hb dL_weigh_2 (by decide) ?_
  refine lv_aload_n hx hb dL_weigh_3 rfl (lv_at hl 0 rfl) ?_
  refine lv_iload_n hx hb dL_weigh_4 rfl (lv_at hl 1 rfl) ?_
  refine lv_iload_n hx hb dL_weigh_5 rfl (lv_at hl 2 rfl) ?_
  refine lv_iload_n hx hb dL_weigh_6 rfl (lv_at hl 3 rfl) ?_
  have hPc := hP.sub (ws' := [(x, .inr (4, [.ref g, .ref mr, .ref tb, .ref lo, .ref g3, .ref gr, .ref wi])), (g, .inr (0, [.ref w, .ref d, .int 1, .int 0]))]) [0, 1] rfl
  have hDc := hD.sub (ws' := [(x, .inr (4, [.ref g, .ref mr, .ref tb, .ref lo, .ref g3, .ref gr, .ref wi])), (g, .inr (0, [.ref w, .ref d, .int 1, .int 0]))]) [0, 1] (by decide) rfl
  have hFc := va_free (wc := [(x, .inr (4, [.ref g, .ref mr, .ref tb, .ref lo, .ref g3, .ref gr, .ref wi])), (g, .inr (0, [.ref w, .ref d, .int 1, .int 0]))]) hD hS hA [0, 1] rfl
  refine vx_calli (vx_runV (As := [.int n, .int b9, .int w9]) (rest := [.int 0, .ref o9]) ⟨hx, hb, hml, hown, hts⟩ (c_X4_weigh_b1 l hno dC dI cI cJ x g mr tb lo g3 gr wi w d s.heap.size n b9 w9 hn) (cwV 3 hts gL_weigh_X4_weigh rfl rfl rfl (by decide +kernel) ⟨Nat.le_of_ble_eq_true rfl, Nat.le_of_ble_eq_true rfl⟩) ⟨fun a U g mk q => by obtain ⟨q0, q1, qP, qK, qD, qX⟩ := q; exact ⟨q0, q1, qP, va_K.moved (u := U) (U := U.calling g mk a) (Vm.Alike.refl U.vm) qK, qD, qX.moved (State.WarmedH.refl U)⟩, va_recv hK hPc (ci := 4) (q0 := 0) rfl rfl, fun U hU hW => ⟨rfl, by rw [hU], by rw [hU]; exact hPc, va_K.moved hW.alike hK, hDc.weaken (fun _ _ _ _ => trivial), by rw [hU]; exact ((hX.kept hS.2.1).narrow hFc).moved hW⟩⟩ rfl rfl hl.1 rfl (lv_room (Nat.le_of_ble_eq_true rfl)) dL_weigh_7 ⟨Nat.le_of_ble_eq_true rfl, Nat.le_of_ble_eq_true rfl⟩) hS (fun q _ h => hFc q h) hFc (fun q _ h => hFc q h) (fun E9 ce9 q9 u9 t H1 locs ht hvm hw hB hz1 hk1 hS hce hcv hcl => ?_) (fun r_1 u_2 t H1 locs ht hvm hw hB hz1 hk1 hS => ?_)
  · skip
    obtain rfl := hB
    refine vx_catch (own := RL) (name := "java/lang/IndexOutOfBoundsException") hown [] ⟨0, 12, 15, 19⟩ [⟨0, 12, 19, 13⟩] (htab.trans rfl) (fun z hz => absurd hz List.not_mem_nil) (by decide) (by decide) k_0 (vz_bad _ (List.mem_of_getElem? (i := 4) rfl) (hX.2.2.1 _ (List.mem_of_getElem? (i := 4) rfl))) hce hcv hcl ?_
    have hP : va_P (dC, dI) vwCl [] H1 := va_P0
    have hD : va_D A [] := va_D0
    generalize H1 = H at hP hS ⊢
    refine lv_astore (lv' := [(5, .ref q9), (0, .ref x), (1, .int n), (2, .int b9), (3, .int w9), (4, .ref o9)]) hx hb dL_weigh_15 hl (by decide) rfl (fun ls hl => ?_)
    refine lv_iconst (v := 1) hx hb dL_weigh_17 (by decide) ?_
    refine W.widen (k := 1) (n := 6) (by decide) (by decide) ?_
    have hP9 := hP.sub (ws' := []) [] rfl
    have hD9 := hD.sub (ws' := []) [] (by decide) rfl
    exact W.iret (v := 1) hx hb hr (fun t ht hW => ⟨⟨_, (), rfl, rfl, by rw [ht]; exact hP9, hD9⟩, hS.F ht⟩) hS.2.2 dL_weigh_18
  · exact hw.elim
set_option maxHeartbeats 4000000 in
set_option maxRecDepth 100000 in
theorem c_L_weigh_b2 (l : Launch) (hno : l.stackTraces = false) (dC : Nat → ClassId) (dI : Nat → Nat → Nat) (cI cJ : ClassId) (x g mr tb lo g3 gr wi w d o9 : Nat) (sz : Nat) (n : Int32) (w9 : Int32) (hn : n < 0 ∨ 1 ≤ n) : Met l yL_weigh wsL_weigh ({ frames := 8, cells := 1, slots := 6, locals := 127 }) (va_Pc [.ref x, .int 0, .int n, .int w9, .ref o9] (pPreX dC dI cI cJ sz [(x, .inr (4, [.ref g, .ref mr, .ref tb, .ref lo, .ref g3, .ref gr, .ref wi])), (g, .inr (0, [.ref w, .ref d, .int 1, .int 0])), (o9, .inl (cJ, 1, .inr (.inl Zl)))])) (va_Qi (fun (r : Int32) (_ : Unit) => r = 1) (pPost dC dI (va_A [(x, .inr (4, [.ref g, .ref mr, .ref tb, .ref lo, .ref g3, .ref gr, .ref wi])), (g, .inr (0, [.ref w, .ref d, .int 1, .int 0])), (o9, .inl (cJ, 1, .inr (.inl Zl)))] sz) []) (va_A [(x, .inr (4, [.ref g, .ref mr, .ref tb, .ref lo, .ref g3, .ref gr, .ref wi])), (g, .inr (0, [.ref w, .ref d, .int 1, .int 0])), (o9, .inl (cJ, 1, .inr (.inl Zl)))] sz)) 1 6 (va_A [(x, .inr (4, [.ref g, .ref mr, .ref tb, .ref lo, .ref g3, .ref gr, .ref wi])), (g, .inr (0, [.ref w, .ref d, .int 1, .int 0])), (o9, .inl (cJ, 1, .inr (.inl Zl)))] sz) := by
  refine va_MetW (cc := cL_weigh) (maxL := 6) (ret := (some .int)) (hh := [(0, 12, 15, 19), (0, 12, 19, 13)]) (by decide) rfl ?_
  intro p e s m args below meth c s₁ B hml hv
  obtain ⟨rfl, hsz, hP, hK, hD0, hX⟩ := hv
  have hx := B.exec
  have hb := B.bytes
  have hr := B.returns
  have hts := atoms_spec (ws := wsL_weigh) B.pre
  have hown : s.vm.findClass RL = some m.cls := findClass_of_methodNamed B.named
  have hlocks := B.notSynchronized
  subst hsz
  have hD := hD0.self (sz := s.heap.size)
  generalize hAe : va_A [(x, .inr (4, [.ref g, .ref mr, .ref tb, .ref lo, .ref g3, .ref gr, .ref wi])), (g, .inr (0, [.ref w, .ref d, .int 1, .int 0])), (o9, .inl (cJ, 1, .inr (.inl Zl)))] s.heap.size = A at hD hX ⊢
  have hA : ∀ q : Nat, s.heap.size ≤ q → A q := fun q h => by rw [← hAe]; exact Or.inr h
  have hS : va_S A s.heap s.heap [] := va_S.rf
  have hP : va_P (dC, dI) vwCl [(x, .inr (4, [.ref g, .ref mr, .ref tb, .ref lo, .ref g3, .ref gr, .ref wi])), (g, .inr (0, [.ref w, .ref d, .int 1, .int 0])), (o9, .inl (cJ, 1, .inr (.inl Zl)))] s.heap := hP
  have hl := lv_entry ([.ref x, .int 0, .int n, .int w9, .ref o9]) (n := 6) (Nat.le_of_ble_eq_true rfl)
  rw [lg_entry_eq]
  generalize (lg_sl ([.ref x, .int 0, .int n, .int w9, .ref o9]) ++ List.replicate (6 - (lg_sl ([.ref x, .int 0, .int n, .int w9, .ref o9])).length) Slot.unset).toArray = ls at hl ⊢
  have hl : lv_has ls 6 [(0, .ref x), (1, .int 0), (2, .int n), (3, .int w9), (4, .ref o9)] := hl
  have htab := vx_table (x := yL_weigh) B (hts _ List.mem_cons_self)
  have k_0 := hts (.classLink RL 19 "java/lang/IndexOutOfBoundsException") (by decide +kernel)
  have k_1 := hts (.classLink RL 13 "java/lang/IllegalArgumentException") (by decide +kernel)
  refine lv_aload hx hb dL_weigh_0 (lv_at hl 4 rfl) ?_
  refine lv_iconst (v := 0) hx hb dL_weigh_2 (by decide) ?_
  refine lv_aload_n hx hb dL_weigh_3 rfl (lv_at hl 0 rfl) ?_
  refine lv_iload_n hx hb dL_weigh_4 rfl (lv_at hl 1 rfl) ?_
  refine lv_iload_n hx hb dL_weigh_5 rfl (lv_at hl 2 rfl) ?_
  refine lv_iload_n hx hb dL_weigh_6 rfl (lv_at hl 3 rfl) ?_
  have hPc := hP.sub (ws' := [(x, .inr (4, [.ref g, .ref mr, .ref tb, .ref lo, .ref g3, .ref gr, .ref wi])), (g, .inr (0, [.ref w, .ref d, .int 1, .int 0]))]) [0, 1] rfl
  have hDc := hD.sub (ws' := [(x, .inr (4, [.ref g, .ref mr, .ref tb, .ref lo, .ref g3, .ref gr, .ref wi])), (g, .inr (0, [.ref w, .ref d, .int 1, .int 0]))]) [0, 1] (by decide) rfl
  have hFc := va_free (wc := [(x, .inr (4, [.ref g, .ref mr, .ref tb, .ref lo, .ref g3, .ref gr, .ref wi])), (g, .inr (0, [.ref w, .ref d, .int 1, .int 0]))]) hD hS hA [0, 1] rfl
  refine vx_calli (vx_runV (As := [.int 0, .int n, .int w9]) (rest := [.int 0, .ref o9]) ⟨hx, hb, hml, hown, hts⟩ (c_X4_weigh_b2 l hno dC dI cI cJ x g mr tb lo g3 gr wi w d s.heap.size n w9 hn) (cwV 3 hts gL_weigh_X4_weigh rfl rfl rfl (by decide +kernel) ⟨Nat.le_of_ble_eq_true rfl, Nat.le_of_ble_eq_true rfl⟩) ⟨fun a U g mk q => by obtain ⟨q0, q1, qP, qK, qD, qX⟩ := q; exact ⟨q0, q1, qP, va_K.moved (u := U) (U := U.calling g mk a) (Vm.Alike.refl U.vm) qK, qD, qX.moved (State.WarmedH.refl U)⟩, va_recv hK hPc (ci := 4) (q0 := 0) rfl rfl, fun U hU hW => ⟨rfl, by rw [hU], by rw [hU]; exact hPc, va_K.moved hW.alike hK, hDc.weaken (fun _ _ _ _ => trivial), by rw [hU]; exact ((hX.kept hS.2.1).narrow hFc).moved hW⟩⟩ rfl rfl hl.1 rfl (lv_room (Nat.le_of_ble_eq_true rfl)) dL_weigh_7 ⟨Nat.le_of_ble_eq_true rfl, Nat.le_of_ble_eq_true rfl⟩) hS (fun q _ h => hFc q h) hFc (fun q _ h => hFc q h) (fun E9 ce9 q9 u9 t H1 locs ht hvm hw hB hz1 hk1 hS hce hcv hcl => ?_) (fun r_1 u_2 t H1 locs ht hvm hw hB hz1 hk1 hS => ?_)
  · skip
    obtain rfl := hB
    refine vx_catch (own := RL) (name := "java/lang/IndexOutOfBoundsException") hown [] ⟨0, 12, 15, 19⟩ [⟨0, 12, 19, 13⟩] (htab.trans rfl) (fun z hz => absurd hz List.not_mem_nil) (by decide) (by decide) k_0 (vz_bad _ (List.mem_of_getElem? (i := 4) rfl) (hX.2.2.1 _ (List.mem_of_getElem? (i := 4) rfl))) hce hcv hcl ?_
    have hP : va_P (dC, dI) vwCl [] H1 := va_P0
    have hD : va_D A [] := va_D0
    generalize H1 = H at hP hS ⊢
    refine lv_astore (lv' := [(5, .ref q9), (0, .ref x), (1, .int 0), (2, .int n), (3, .int w9), (4, .ref o9)]) hx hb dL_weigh_15 hl (by decide) rfl (fun ls hl => ?_)
    refine lv_iconst (v := 1) hx hb dL_weigh_17 (by decide) ?_
    refine W.widen (k := 1) (n := 6) (by decide) (by decide) ?_
    have hP9 := hP.sub (ws' := []) [] rfl
    have hD9 := hD.sub (ws' := []) [] (by decide) rfl
    exact W.iret (v := 1) hx hb hr (fun t ht hW => ⟨⟨_, (), rfl, rfl, by rw [ht]; exact hP9, hD9⟩, hS.F ht⟩) hS.2.2 dL_weigh_18
  · exact hw.elim
set_option maxHeartbeats 4000000 in
set_option maxRecDepth 100000 in
theorem c_L_weigh_b3 (l : Launch) (hno : l.stackTraces = false) (dC : Nat → ClassId) (dI : Nat → Nat → Nat) (cI cJ : ClassId) (x g mr tb lo g3 gr wi w d o9 : Nat) (sz : Nat) (w9 : Int32) (hwn : w9 < 0) : Met l yL_weigh wsL_weigh ({ frames := 7, cells := 1, slots := 6, locals := 106 }) (va_Pc [.ref x, .int 0, .int 0, .int w9, .ref o9] (pPreX dC dI cI cJ sz [(x, .inr (4, [.ref g, .ref mr, .ref tb, .ref lo, .ref g3, .ref gr, .ref wi])), (g, .inr (0, [.ref w, .ref d, .int 1, .int 0])), (o9, .inl (cJ, 1, .inr (.inl Zl)))])) (va_Qi (fun (r : Int32) (_ : Unit) => r = 2) (pPost dC dI (va_A [(x, .inr (4, [.ref g, .ref mr, .ref tb, .ref lo, .ref g3, .ref gr, .ref wi])), (g, .inr (0, [.ref w, .ref d, .int 1, .int 0])), (o9, .inl (cJ, 1, .inr (.inl Zl)))] sz) []) (va_A [(x, .inr (4, [.ref g, .ref mr, .ref tb, .ref lo, .ref g3, .ref gr, .ref wi])), (g, .inr (0, [.ref w, .ref d, .int 1, .int 0])), (o9, .inl (cJ, 1, .inr (.inl Zl)))] sz)) 1 6 (va_A [(x, .inr (4, [.ref g, .ref mr, .ref tb, .ref lo, .ref g3, .ref gr, .ref wi])), (g, .inr (0, [.ref w, .ref d, .int 1, .int 0])), (o9, .inl (cJ, 1, .inr (.inl Zl)))] sz) := by
  refine va_MetW (cc := cL_weigh) (maxL := 6) (ret := (some .int)) (hh := [(0, 12, 15, 19), (0, 12, 19, 13)]) (by decide) rfl ?_
  intro p e s m args below meth c s₁ B hml hv
  obtain ⟨rfl, hsz, hP, hK, hD0, hX⟩ := hv
  have hx := B.exec
  have hb := B.bytes
  have hr := B.returns
  have hts := atoms_spec (ws := wsL_weigh) B.pre
  have hown : s.vm.findClass RL = some m.cls := findClass_of_methodNamed B.named
  have hlocks := B.notSynchronized
  subst hsz
  have hD := hD0.self (sz := s.heap.size)
  generalize hAe : va_A [(x, .inr (4, [.ref g, .ref mr, .ref tb, .ref lo, .ref g3, .ref gr, .ref wi])), (g, .inr (0, [.ref w, .ref d, .int 1, .int 0])), (o9, .inl (cJ, 1, .inr (.inl Zl)))] s.heap.size = A at hD hX ⊢
  have hA : ∀ q : Nat, s.heap.size ≤ q → A q := fun q h => by rw [← hAe]; exact Or.inr h
  have hS : va_S A s.heap s.heap [] := va_S.rf
  have hP : va_P (dC, dI) vwCl [(x, .inr (4, [.ref g, .ref mr, .ref tb, .ref lo, .ref g3, .ref gr, .ref wi])), (g, .inr (0, [.ref w, .ref d, .int 1, .int 0])), (o9, .inl (cJ, 1, .inr (.inl Zl)))] s.heap := hP
  have hl := lv_entry ([.ref x, .int 0, .int 0, .int w9, .ref o9]) (n := 6) (Nat.le_of_ble_eq_true rfl)
  rw [lg_entry_eq]
  generalize (lg_sl ([.ref x, .int 0, .int 0, .int w9, .ref o9]) ++ List.replicate (6 - (lg_sl ([.ref x, .int 0, .int 0, .int w9, .ref o9])).length) Slot.unset).toArray = ls at hl ⊢
  have hl : lv_has ls 6 [(0, .ref x), (1, .int 0), (2, .int 0), (3, .int w9), (4, .ref o9)] := hl
  have htab := vx_table (x := yL_weigh) B (hts _ List.mem_cons_self)
  have k_0 := hts (.classLink RL 19 "java/lang/IndexOutOfBoundsException") (by decide +kernel)
  have k_1 := hts (.classLink RL 13 "java/lang/IllegalArgumentException") (by decide +kernel)
  refine lv_aload hx hb dL_weigh_0 (lv_at hl 4 rfl) ?_
  refine lv_iconst (v := 0) hx hb dL_weigh_2 (by decide) ?_
  refine lv_aload_n hx hb dL_weigh_3 rfl (lv_at hl 0 rfl) ?_
  refine lv_iload_n hx hb dL_weigh_4 rfl (lv_at hl 1 rfl) ?_
  refine lv_iload_n hx hb dL_weigh_5 rfl (lv_at hl 2 rfl) ?_
  refine lv_iload_n hx hb dL_weigh_6 rfl (lv_at hl 3 rfl) ?_
  have hPc := hP.sub (ws' := [(x, .inr (4, [.ref g, .ref mr, .ref tb, .ref lo, .ref g3, .ref gr, .ref wi])), (g, .inr (0, [.ref w, .ref d, .int 1, .int 0]))]) [0, 1] rfl
  have hDc := hD.sub (ws' := [(x, .inr (4, [.ref g, .ref mr, .ref tb, .ref lo, .ref g3, .ref gr, .ref wi])), (g, .inr (0, [.ref w, .ref d, .int 1, .int 0]))]) [0, 1] (by decide) rfl
  have hFc := va_free (wc := [(x, .inr (4, [.ref g, .ref mr, .ref tb, .ref lo, .ref g3, .ref gr, .ref wi])), (g, .inr (0, [.ref w, .ref d, .int 1, .int 0]))]) hD hS hA [0, 1] rfl
  refine vx_calli (vx_runV (As := [.int 0, .int 0, .int w9]) (rest := [.int 0, .ref o9]) ⟨hx, hb, hml, hown, hts⟩ (c_X4_weigh_b3 l hno dC dI cI cJ x g mr tb lo g3 gr wi w d s.heap.size w9 hwn) (cwV 3 hts gL_weigh_X4_weigh rfl rfl rfl (by decide +kernel) ⟨Nat.le_of_ble_eq_true rfl, Nat.le_of_ble_eq_true rfl⟩) ⟨fun a U g mk q => by obtain ⟨q0, q1, qP, qK, qD, qX⟩ := q; exact ⟨q0, q1, qP, va_K.moved (u := U) (U := U.calling g mk a) (Vm.Alike.refl U.vm) qK, qD, qX.moved (State.WarmedH.refl U)⟩, va_recv hK hPc (ci := 4) (q0 := 0) rfl rfl, fun U hU hW => ⟨rfl, by rw [hU], by rw [hU]; exact hPc, va_K.moved hW.alike hK, hDc.weaken (fun _ _ _ _ => trivial), by rw [hU]; exact ((hX.kept hS.2.1).narrow hFc).moved hW⟩⟩ rfl rfl hl.1 rfl (lv_room (Nat.le_of_ble_eq_true rfl)) dL_weigh_7 ⟨Nat.le_of_ble_eq_true rfl, Nat.le_of_ble_eq_true rfl⟩) hS (fun q _ h => hFc q h) hFc (fun q _ h => hFc q h) (fun E9 ce9 q9 u9 t H1 locs ht hvm hw hB hz1 hk1 hS hce hcv hcl => ?_) (fun r_1 u_2 t H1 locs ht hvm hw hB hz1 hk1 hS => ?_)
  · skip
    obtain rfl := hB
    refine vx_catch (own := RL) (name := "java/lang/IllegalArgumentException") hown [⟨0, 12, 15, 19⟩] ⟨0, 12, 19, 13⟩ [] (htab.trans rfl) (fun z hz => by rw [List.mem_singleton] at hz; subst hz; exact Or.inr ⟨by decide, _, k_0, hX.2.2.2.1⟩) (by decide) (by decide) k_1 (vz_bad _ (List.mem_of_getElem? (i := 3) rfl) (hX.2.2.1 _ (List.mem_of_getElem? (i := 3) rfl))) hce hcv hcl ?_
    have hP : va_P (dC, dI) vwCl [] H1 := va_P0
    have hD : va_D A [] := va_D0
    generalize H1 = H at hP hS ⊢
    refine lv_astore (lv' := [(5, .ref q9), (0, .ref x), (1, .int 0), (2, .int 0), (3, .int w9), (4, .ref o9)]) hx hb dL_weigh_19 hl (by decide) rfl (fun ls hl => ?_)
    refine lv_iconst (v := 2) hx hb dL_weigh_21 (by decide) ?_
    refine W.widen (k := 1) (n := 6) (by decide) (by decide) ?_
    have hP9 := hP.sub (ws' := []) [] rfl
    have hD9 := hD.sub (ws' := []) [] (by decide) rfl
    exact W.iret (v := 2) hx hb hr (fun t ht hW => ⟨⟨_, (), rfl, rfl, by rw [ht]; exact hP9, hD9⟩, hS.F ht⟩) hS.2.2 dL_weigh_22
  · exact hw.elim
set_option maxHeartbeats 4000000 in
set_option maxRecDepth 100000 in
theorem c_L_weigh_b4 (l : Launch) (hno : l.stackTraces = false) (dC : Nat → ClassId) (dI : Nat → Nat → Nat) (cI cJ : ClassId) (x g mr tb lo g3 gr wi w d o9 : Nat) (sz : Nat) (w9 : Int32) (hw0 : ¬ w9 < 0) (hw2 : ¬ lg_cmp (0 + w9.toInt64) 536870912 < 0) : Met l yL_weigh wsL_weigh ({ frames := 7, cells := 1, slots := 6, locals := 106 }) (va_Pc [.ref x, .int 0, .int 0, .int w9, .ref o9] (pPreX dC dI cI cJ sz [(x, .inr (4, [.ref g, .ref mr, .ref tb, .ref lo, .ref g3, .ref gr, .ref wi])), (g, .inr (0, [.ref w, .ref d, .int 1, .int 0])), (w, .inl (cI, 1600, .inl Zi)), (o9, .inl (cJ, 1, .inr (.inl Zl)))])) (va_Qi (fun (r : Int32) (_ : Unit) => r = 2) (pPost dC dI (va_A [(x, .inr (4, [.ref g, .ref mr, .ref tb, .ref lo, .ref g3, .ref gr, .ref wi])), (g, .inr (0, [.ref w, .ref d, .int 1, .int 0])), (w, .inl (cI, 1600, .inl Zi)), (o9, .inl (cJ, 1, .inr (.inl Zl)))] sz) []) (va_A [(x, .inr (4, [.ref g, .ref mr, .ref tb, .ref lo, .ref g3, .ref gr, .ref wi])), (g, .inr (0, [.ref w, .ref d, .int 1, .int 0])), (w, .inl (cI, 1600, .inl Zi)), (o9, .inl (cJ, 1, .inr (.inl Zl)))] sz)) 1 6 (va_A [(x, .inr (4, [.ref g, .ref mr, .ref tb, .ref lo, .ref g3, .ref gr, .ref wi])), (g, .inr (0, [.ref w, .ref d, .int 1, .int 0])), (w, .inl (cI, 1600, .inl Zi)), (o9, .inl (cJ, 1, .inr (.inl Zl)))] sz) := by
  refine va_MetW (cc := cL_weigh) (maxL := 6) (ret := (some .int)) (hh := [(0, 12, 15, 19), (0, 12, 19, 13)]) (by decide) rfl ?_
  intro p e s m args below meth c s₁ B hml hv
  obtain ⟨rfl, hsz, hP, hK, hD0, hX⟩ := hv
  have hx := B.exec
  have hb := B.bytes
  have hr := B.returns
  have hts := atoms_spec (ws := wsL_weigh) B.pre
  have hown : s.vm.findClass RL = some m.cls := findClass_of_methodNamed B.named
  have hlocks := B.notSynchronized
  subst hsz
  have hD := hD0.self (sz := s.heap.size)
  generalize hAe : va_A [(x, .inr (4, [.ref g, .ref mr, .ref tb, .ref lo, .ref g3, .ref gr, .ref wi])), (g, .inr (0, [.ref w, .ref d, .int 1, .int 0])), (w, .inl (cI, 1600, .inl Zi)), (o9, .inl (cJ, 1, .inr (.inl Zl)))] s.heap.size = A at hD hX ⊢
  have hA : ∀ q : Nat, s.heap.size ≤ q → A q := fun q h => by rw [← hAe]; exact Or.inr h
  have hS : va_S A s.heap s.heap [] := va_S.rf
  have hP : va_P (dC, dI) vwCl [(x, .inr (4, [.ref g, .ref mr, .ref tb, .ref lo, .ref g3, .ref gr, .ref wi])), (g, .inr (0, [.ref w, .ref d, .int 1, .int 0])), (w, .inl (cI, 1600, .inl Zi)), (o9, .inl (cJ, 1, .inr (.inl Zl)))] s.heap := hP
  have hl := lv_entry ([.ref x, .int 0, .int 0, .int w9, .ref o9]) (n := 6) (Nat.le_of_ble_eq_true rfl)
  rw [lg_entry_eq]
  generalize (lg_sl ([.ref x, .int 0, .int 0, .int w9, .ref o9]) ++ List.replicate (6 - (lg_sl ([.ref x, .int 0, .int 0, .int w9, .ref o9])).length) Slot.unset).toArray = ls at hl ⊢
  have hl : lv_has ls 6 [(0, .ref x), (1, .int 0), (2, .int 0), (3, .int w9), (4, .ref o9)] := hl
  have htab := vx_table (x := yL_weigh) B (hts _ List.mem_cons_self)
  have k_0 := hts (.classLink RL 19 "java/lang/IndexOutOfBoundsException") (by decide +kernel)
  have k_1 := hts (.classLink RL 13 "java/lang/IllegalArgumentException") (by decide +kernel)
  refine lv_aload hx hb dL_weigh_0 (lv_at hl 4 rfl) ?_
  refine lv_iconst (v := 0) hx hb dL_weigh_2 (by decide) ?_
  refine lv_aload_n hx hb dL_weigh_3 rfl (lv_at hl 0 rfl) ?_
  refine lv_iload_n hx hb dL_weigh_4 rfl (lv_at hl 1 rfl) ?_
  refine lv_iload_n hx hb dL_weigh_5 rfl (lv_at hl 2 rfl) ?_
  refine lv_iload_n hx hb dL_weigh_6 rfl (lv_at hl 3 rfl) ?_
  have hPc := hP.sub (ws' := [(x, .inr (4, [.ref g, .ref mr, .ref tb, .ref lo, .ref g3, .ref gr, .ref wi])), (g, .inr (0, [.ref w, .ref d, .int 1, .int 0])), (w, .inl (cI, 1600, .inl Zi))]) [0, 1, 2] rfl
  have hDc := hD.sub (ws' := [(x, .inr (4, [.ref g, .ref mr, .ref tb, .ref lo, .ref g3, .ref gr, .ref wi])), (g, .inr (0, [.ref w, .ref d, .int 1, .int 0])), (w, .inl (cI, 1600, .inl Zi))]) [0, 1, 2] (by decide) rfl
  have hFc := va_free (wc := [(x, .inr (4, [.ref g, .ref mr, .ref tb, .ref lo, .ref g3, .ref gr, .ref wi])), (g, .inr (0, [.ref w, .ref d, .int 1, .int 0])), (w, .inl (cI, 1600, .inl Zi))]) hD hS hA [0, 1, 2] rfl
  refine vx_calli (vx_runV (As := [.int 0, .int 0, .int w9]) (rest := [.int 0, .ref o9]) ⟨hx, hb, hml, hown, hts⟩ (c_X4_weigh_b4 l hno dC dI cI cJ x g mr tb lo g3 gr wi w d s.heap.size w9 hw0 hw2) (cwV 3 hts gL_weigh_X4_weigh rfl rfl rfl (by decide +kernel) ⟨Nat.le_of_ble_eq_true rfl, Nat.le_of_ble_eq_true rfl⟩) ⟨fun a U g mk q => by obtain ⟨q0, q1, qP, qK, qD, qX⟩ := q; exact ⟨q0, q1, qP, va_K.moved (u := U) (U := U.calling g mk a) (Vm.Alike.refl U.vm) qK, qD, qX.moved (State.WarmedH.refl U)⟩, va_recv hK hPc (ci := 4) (q0 := 0) rfl rfl, fun U hU hW => ⟨rfl, by rw [hU], by rw [hU]; exact hPc, va_K.moved hW.alike hK, hDc.weaken (fun _ _ _ _ => trivial), by rw [hU]; exact ((hX.kept hS.2.1).narrow hFc).moved hW⟩⟩ rfl rfl hl.1 rfl (lv_room (Nat.le_of_ble_eq_true rfl)) dL_weigh_7 ⟨Nat.le_of_ble_eq_true rfl, Nat.le_of_ble_eq_true rfl⟩) hS (fun q _ h => hFc q h) hFc (fun q _ h => hFc q h) (fun E9 ce9 q9 u9 t H1 locs ht hvm hw hB hz1 hk1 hS hce hcv hcl => ?_) (fun r_1 u_2 t H1 locs ht hvm hw hB hz1 hk1 hS => ?_)
  · skip
    obtain rfl := hB
    refine vx_catch (own := RL) (name := "java/lang/IllegalArgumentException") hown [⟨0, 12, 15, 19⟩] ⟨0, 12, 19, 13⟩ [] (htab.trans rfl) (fun z hz => by rw [List.mem_singleton] at hz; subst hz; exact Or.inr ⟨by decide, _, k_0, hX.2.2.2.1⟩) (by decide) (by decide) k_1 (vz_bad _ (List.mem_of_getElem? (i := 3) rfl) (hX.2.2.1 _ (List.mem_of_getElem? (i := 3) rfl))) hce hcv hcl ?_
    have hP : va_P (dC, dI) vwCl [] H1 := va_P0
    have hD : va_D A [] := va_D0
    generalize H1 = H at hP hS ⊢
    refine lv_astore (lv' := [(5, .ref q9), (0, .ref x), (1, .int 0), (2, .int 0), (3, .int w9), (4, .ref o9)]) hx hb dL_weigh_19 hl (by decide) rfl (fun ls hl => ?_)
    refine lv_iconst (v := 2) hx hb dL_weigh_21 (by decide) ?_
    refine W.widen (k := 1) (n := 6) (by decide) (by decide) ?_
    have hP9 := hP.sub (ws' := []) [] rfl
    have hD9 := hD.sub (ws' := []) [] (by decide) rfl
    exact W.iret (v := 2) hx hb hr (fun t ht hW => ⟨⟨_, (), rfl, rfl, by rw [ht]; exact hP9, hD9⟩, hS.F ht⟩) hS.2.2 dL_weigh_22
  · exact hw.elim
set_option maxHeartbeats 4000000 in
set_option maxRecDepth 100000 in
theorem c_L_level_bad (l : Launch) (hno : l.stackTraces = false) (dC : Nat → ClassId) (dI : Nat → Nat → Nat) (cI cJ : ClassId) (x g mr tb lo g3 gr wi tf th tc o9 : Nat) (sz : Nat) (n : Int32) (n1 : Int32) : Met l yL_level wsL_level ({ frames := 8, cells := 1, slots := 6, locals := 125 }) (va_Pc [.ref x, .int n, .int n1, .ref o9] (pPreX dC dI cI cJ sz [(x, .inr (4, [.ref g, .ref mr, .ref tb, .ref lo, .ref g3, .ref gr, .ref wi])), (tb, .inr (2, [.ref tf, .ref th, .ref tc, .int 0])), (o9, .inl (cJ, 1, .inr (.inl Zl)))])) (va_Qi (fun (r : Int32) (_ : Unit) => r = 1) (pPost dC dI (va_A [(x, .inr (4, [.ref g, .ref mr, .ref tb, .ref lo, .ref g3, .ref gr, .ref wi])), (tb, .inr (2, [.ref tf, .ref th, .ref tc, .int 0])), (o9, .inl (cJ, 1, .inr (.inl Zl)))] sz) []) (va_A [(x, .inr (4, [.ref g, .ref mr, .ref tb, .ref lo, .ref g3, .ref gr, .ref wi])), (tb, .inr (2, [.ref tf, .ref th, .ref tc, .int 0])), (o9, .inl (cJ, 1, .inr (.inl Zl)))] sz)) 1 6 (va_A [(x, .inr (4, [.ref g, .ref mr, .ref tb, .ref lo, .ref g3, .ref gr, .ref wi])), (tb, .inr (2, [.ref tf, .ref th, .ref tc, .int 0])), (o9, .inl (cJ, 1, .inr (.inl Zl)))] sz) := by
  refine va_MetW (cc := cL_level) (maxL := 5) (ret := (some .int)) (hh := [(0, 10, 13, 19)]) (by decide) rfl ?_
  intro p e s m args below meth c s₁ B hml hv
  obtain ⟨rfl, hsz, hP, hK, hD0, hX⟩ := hv
  have hx := B.exec
  have hb := B.bytes
  have hr := B.returns
  have hts := atoms_spec (ws := wsL_level) B.pre
  have hown : s.vm.findClass RL = some m.cls := findClass_of_methodNamed B.named
  have hlocks := B.notSynchronized
  subst hsz
  have hD := hD0.self (sz := s.heap.size)
  generalize hAe : va_A [(x, .inr (4, [.ref g, .ref mr, .ref tb, .ref lo, .ref g3, .ref gr, .ref wi])), (tb, .inr (2, [.ref tf, .ref th, .ref tc, .int 0])), (o9, .inl (cJ, 1, .inr (.inl Zl)))] s.heap.size = A at hD hX ⊢
  have hA : ∀ q : Nat, s.heap.size ≤ q → A q := fun q h => by rw [← hAe]; exact Or.inr h
  have hS : va_S A s.heap s.heap [] := va_S.rf
  have hP : va_P (dC, dI) vwCl [(x, .inr (4, [.ref g, .ref mr, .ref tb, .ref lo, .ref g3, .ref gr, .ref wi])), (tb, .inr (2, [.ref tf, .ref th, .ref tc, .int 0])), (o9, .inl (cJ, 1, .inr (.inl Zl)))] s.heap := hP
  have hl := lv_entry ([.ref x, .int n, .int n1, .ref o9]) (n := 5) (Nat.le_of_ble_eq_true rfl)
  rw [lg_entry_eq]
  generalize (lg_sl ([.ref x, .int n, .int n1, .ref o9]) ++ List.replicate (5 - (lg_sl ([.ref x, .int n, .int n1, .ref o9])).length) Slot.unset).toArray = ls at hl ⊢
  have hl : lv_has ls 5 [(0, .ref x), (1, .int n), (2, .int n1), (3, .ref o9)] := hl
  have htab := vx_table (x := yL_level) B (hts _ List.mem_cons_self)
  have k_0 := hts (.classLink RL 19 "java/lang/IndexOutOfBoundsException") (by decide +kernel)
  refine lv_aload_n hx hb dL_level_0 rfl (lv_at hl 3 rfl) ?_
  refine lv_iconst (v := 0) hx hb dL_level_1 (by decide) ?_
  refine lv_aload_n hx hb dL_level_2 rfl (lv_at hl 0 rfl) ?_
  refine lv_iload_n hx hb dL_level_3 rfl (lv_at hl 1 rfl) ?_
  refine lv_iload_n hx hb dL_level_4 rfl (lv_at hl 2 rfl) ?_
  have hPc := hP.sub (ws' := [(x, .inr (4, [.ref g, .ref mr, .ref tb, .ref lo, .ref g3, .ref gr, .ref wi])), (tb, .inr (2, [.ref tf, .ref th, .ref tc, .int 0]))]) [0, 1] rfl
  have hDc := hD.sub (ws' := [(x, .inr (4, [.ref g, .ref mr, .ref tb, .ref lo, .ref g3, .ref gr, .ref wi])), (tb, .inr (2, [.ref tf, .ref th, .ref tc, .int 0]))]) [0, 1] (by decide) rfl
  have hFc := va_free (wc := [(x, .inr (4, [.ref g, .ref mr, .ref tb, .ref lo, .ref g3, .ref gr, .ref wi])), (tb, .inr (2, [.ref tf, .ref th, .ref tc, .int 0]))]) hD hS hA [0, 1] rfl
  refine vx_calli (vx_runV (As := [.int n, .int n1]) (rest := [.int 0, .ref o9]) ⟨hx, hb, hml, hown, hts⟩ (c_X4_level_bad l hno dC dI cI cJ x g mr tb lo g3 gr wi tf th tc s.heap.size n n1) (cwV 2 hts gL_level_X4_level rfl rfl rfl (by decide +kernel) ⟨Nat.le_of_ble_eq_true rfl, Nat.le_of_ble_eq_true rfl⟩) ⟨fun a U g mk q => by obtain ⟨q0, q1, qP, qK, qD, qX⟩ := q; exact ⟨q0, q1, qP, va_K.moved (u := U) (U := U.calling g mk a) (Vm.Alike.refl U.vm) qK, qD, qX.moved (State.WarmedH.refl U)⟩, va_recv hK hPc (ci := 4) (q0 := 0) rfl rfl, fun U hU hW => ⟨rfl, by rw [hU], by rw [hU]; exact hPc, va_K.moved hW.alike hK, hDc.weaken (fun _ _ _ _ => trivial), by rw [hU]; exact ((hX.kept hS.2.1).narrow hFc).moved hW⟩⟩ rfl rfl hl.1 rfl (lv_room (Nat.le_of_ble_eq_true rfl)) dL_level_5 ⟨Nat.le_of_ble_eq_true rfl, Nat.le_of_ble_eq_true rfl⟩) hS (fun q _ h => hFc q h) hFc (fun q _ h => hFc q h) (fun E9 ce9 q9 u9 t H1 locs ht hvm hw hB hz1 hk1 hS hce hcv hcl => ?_) (fun r_1 u_2 t H1 locs ht hvm hw hB hz1 hk1 hS => ?_)
  · skip
    obtain rfl := hB
    refine vx_catch (own := RL) (name := "java/lang/IndexOutOfBoundsException") hown [] ⟨0, 10, 13, 19⟩ [] (htab.trans rfl) (fun z hz => absurd hz List.not_mem_nil) (by decide) (by decide) k_0 (vz_bad _ (List.mem_of_getElem? (i := 4) rfl) (hX.2.2.1 _ (List.mem_of_getElem? (i := 4) rfl))) hce hcv hcl ?_
    have hP : va_P (dC, dI) vwCl [] H1 := va_P0
    have hD : va_D A [] := va_D0
    generalize H1 = H at hP hS ⊢
    refine lv_astore (lv' := [(4, .ref q9), (0, .ref x), (1, .int n), (2, .int n1), (3, .ref o9)]) hx hb dL_level_13 hl (by decide) rfl (fun ls hl => ?_)
    refine lv_iconst (v := 1) hx hb dL_level_15 (by decide) ?_
    refine W.widen (k := 1) (n := 6) (by decide) (by decide) ?_
    have hP9 := hP.sub (ws' := []) [] rfl
    have hD9 := hD.sub (ws' := []) [] (by decide) rfl
    exact W.iret (v := 1) hx hb hr (fun t ht hW => ⟨⟨_, (), rfl, rfl, by rw [ht]; exact hP9, hD9⟩, hS.F ht⟩) hS.2.2 dL_level_16
  · exact hw.elim
set_option maxHeartbeats 4000000 in
set_option maxRecDepth 100000 in
theorem c_L_community_bad (l : Launch) (hno : l.stackTraces = false) (dC : Nat → ClassId) (dI : Nat → Nat → Nat) (cI cJ : ClassId) (x g mr tb lo g3 gr wi tf th tc o9 : Nat) (sz : Nat) (n : Int32) (n1 : Int32) : Met l yL_community wsL_community ({ frames := 8, cells := 1, slots := 6, locals := 125 }) (va_Pc [.ref x, .int n, .int n1, .ref o9] (pPreX dC dI cI cJ sz [(x, .inr (4, [.ref g, .ref mr, .ref tb, .ref lo, .ref g3, .ref gr, .ref wi])), (tb, .inr (2, [.ref tf, .ref th, .ref tc, .int 0])), (o9, .inl (cJ, 1, .inr (.inl Zl)))])) (va_Qi (fun (r : Int32) (_ : Unit) => r = 1) (pPost dC dI (va_A [(x, .inr (4, [.ref g, .ref mr, .ref tb, .ref lo, .ref g3, .ref gr, .ref wi])), (tb, .inr (2, [.ref tf, .ref th, .ref tc, .int 0])), (o9, .inl (cJ, 1, .inr (.inl Zl)))] sz) []) (va_A [(x, .inr (4, [.ref g, .ref mr, .ref tb, .ref lo, .ref g3, .ref gr, .ref wi])), (tb, .inr (2, [.ref tf, .ref th, .ref tc, .int 0])), (o9, .inl (cJ, 1, .inr (.inl Zl)))] sz)) 1 6 (va_A [(x, .inr (4, [.ref g, .ref mr, .ref tb, .ref lo, .ref g3, .ref gr, .ref wi])), (tb, .inr (2, [.ref tf, .ref th, .ref tc, .int 0])), (o9, .inl (cJ, 1, .inr (.inl Zl)))] sz) := by
  refine va_MetW (cc := cL_community) (maxL := 5) (ret := (some .int)) (hh := [(0, 10, 13, 19)]) (by decide) rfl ?_
  intro p e s m args below meth c s₁ B hml hv
  obtain ⟨rfl, hsz, hP, hK, hD0, hX⟩ := hv
  have hx := B.exec
  have hb := B.bytes
  have hr := B.returns
  have hts := atoms_spec (ws := wsL_community) B.pre
  have hown : s.vm.findClass RL = some m.cls := findClass_of_methodNamed B.named
  have hlocks := B.notSynchronized
  subst hsz
  have hD := hD0.self (sz := s.heap.size)
  generalize hAe : va_A [(x, .inr (4, [.ref g, .ref mr, .ref tb, .ref lo, .ref g3, .ref gr, .ref wi])), (tb, .inr (2, [.ref tf, .ref th, .ref tc, .int 0])), (o9, .inl (cJ, 1, .inr (.inl Zl)))] s.heap.size = A at hD hX ⊢
  have hA : ∀ q : Nat, s.heap.size ≤ q → A q := fun q h => by rw [← hAe]; exact Or.inr h
  have hS : va_S A s.heap s.heap [] := va_S.rf
  have hP : va_P (dC, dI) vwCl [(x, .inr (4, [.ref g, .ref mr, .ref tb, .ref lo, .ref g3, .ref gr, .ref wi])), (tb, .inr (2, [.ref tf, .ref th, .ref tc, .int 0])), (o9, .inl (cJ, 1, .inr (.inl Zl)))] s.heap := hP
  have hl := lv_entry ([.ref x, .int n, .int n1, .ref o9]) (n := 5) (Nat.le_of_ble_eq_true rfl)
  rw [lg_entry_eq]
  generalize (lg_sl ([.ref x, .int n, .int n1, .ref o9]) ++ List.replicate (5 - (lg_sl ([.ref x, .int n, .int n1, .ref o9])).length) Slot.unset).toArray = ls at hl ⊢
  have hl : lv_has ls 5 [(0, .ref x), (1, .int n), (2, .int n1), (3, .ref o9)] := hl
  have htab := vx_table (x := yL_community) B (hts _ List.mem_cons_self)
  have k_0 := hts (.classLink RL 19 "java/lang/IndexOutOfBoundsException") (by decide +kernel)
  refine lv_aload_n hx hb dL_community_0 rfl (lv_at hl 3 rfl) ?_
  refine lv_iconst (v := 0) hx hb dL_community_1 (by decide) ?_
  refine lv_aload_n hx hb dL_community_2 rfl (lv_at hl 0 rfl) ?_
  refine lv_iload_n hx hb dL_community_3 rfl (lv_at hl 1 rfl) ?_
  refine lv_iload_n hx hb dL_community_4 rfl (lv_at hl 2 rfl) ?_
  have hPc := hP.sub (ws' := [(x, .inr (4, [.ref g, .ref mr, .ref tb, .ref lo, .ref g3, .ref gr, .ref wi])), (tb, .inr (2, [.ref tf, .ref th, .ref tc, .int 0]))]) [0, 1] rfl
  have hDc := hD.sub (ws' := [(x, .inr (4, [.ref g, .ref mr, .ref tb, .ref lo, .ref g3, .ref gr, .ref wi])), (tb, .inr (2, [.ref tf, .ref th, .ref tc, .int 0]))]) [0, 1] (by decide) rfl
  have hFc := va_free (wc := [(x, .inr (4, [.ref g, .ref mr, .ref tb, .ref lo, .ref g3, .ref gr, .ref wi])), (tb, .inr (2, [.ref tf, .ref th, .ref tc, .int 0]))]) hD hS hA [0, 1] rfl
  refine vx_calli (vx_runV (As := [.int n, .int n1]) (rest := [.int 0, .ref o9]) ⟨hx, hb, hml, hown, hts⟩ (c_X4_community_bad l hno dC dI cI cJ x g mr tb lo g3 gr wi tf th tc s.heap.size n n1) (cwV 2 hts gL_community_X4_community rfl rfl rfl (by decide +kernel) ⟨Nat.le_of_ble_eq_true rfl, Nat.le_of_ble_eq_true rfl⟩) ⟨fun a U g mk q => by obtain ⟨q0, q1, qP, qK, qD, qX⟩ := q; exact ⟨q0, q1, qP, va_K.moved (u := U) (U := U.calling g mk a) (Vm.Alike.refl U.vm) qK, qD, qX.moved (State.WarmedH.refl U)⟩, va_recv hK hPc (ci := 4) (q0 := 0) rfl rfl, fun U hU hW => ⟨rfl, by rw [hU], by rw [hU]; exact hPc, va_K.moved hW.alike hK, hDc.weaken (fun _ _ _ _ => trivial), by rw [hU]; exact ((hX.kept hS.2.1).narrow hFc).moved hW⟩⟩ rfl rfl hl.1 rfl (lv_room (Nat.le_of_ble_eq_true rfl)) dL_community_5 ⟨Nat.le_of_ble_eq_true rfl, Nat.le_of_ble_eq_true rfl⟩) hS (fun q _ h => hFc q h) hFc (fun q _ h => hFc q h) (fun E9 ce9 q9 u9 t H1 locs ht hvm hw hB hz1 hk1 hS hce hcv hcl => ?_) (fun r_1 u_2 t H1 locs ht hvm hw hB hz1 hk1 hS => ?_)
  · skip
    obtain rfl := hB
    refine vx_catch (own := RL) (name := "java/lang/IndexOutOfBoundsException") hown [] ⟨0, 10, 13, 19⟩ [] (htab.trans rfl) (fun z hz => absurd hz List.not_mem_nil) (by decide) (by decide) k_0 (vz_bad _ (List.mem_of_getElem? (i := 4) rfl) (hX.2.2.1 _ (List.mem_of_getElem? (i := 4) rfl))) hce hcv hcl ?_
    have hP : va_P (dC, dI) vwCl [] H1 := va_P0
    have hD : va_D A [] := va_D0
    generalize H1 = H at hP hS ⊢
    refine lv_astore (lv' := [(4, .ref q9), (0, .ref x), (1, .int n), (2, .int n1), (3, .ref o9)]) hx hb dL_community_13 hl (by decide) rfl (fun ls hl => ?_)
    refine lv_iconst (v := 1) hx hb dL_community_15 (by decide) ?_
    refine W.widen (k := 1) (n := 6) (by decide) (by decide) ?_
    have hP9 := hP.sub (ws' := []) [] rfl
    have hD9 := hD.sub (ws' := []) [] (by decide) rfl
    exact W.iret (v := 1) hx hb hr (fun t ht hW => ⟨⟨_, (), rfl, rfl, by rw [ht]; exact hP9, hD9⟩, hS.F ht⟩) hS.2.2 dL_community_16
  · exact hw.elim
set_option maxHeartbeats 4000000 in
set_option maxRecDepth 100000 in
theorem c_L_modularity_bad (l : Launch) (hno : l.stackTraces = false) (dC : Nat → ClassId) (dI : Nat → Nat → Nat) (cI cJ : ClassId) (x g mr tb lo g3 gr wi tf th tc o9 : Nat) (sz : Nat) (n : Int32) : Met l yL_modularity wsL_modularity ({ frames := 8, cells := 1, slots := 6, locals := 124 }) (va_Pc [.ref x, .int n, .ref o9] (pPreX dC dI cI cJ sz [(x, .inr (4, [.ref g, .ref mr, .ref tb, .ref lo, .ref g3, .ref gr, .ref wi])), (tb, .inr (2, [.ref tf, .ref th, .ref tc, .int 0])), (o9, .inl (cJ, 1, .inr (.inl Zl)))])) (va_Qi (fun (r : Int32) (_ : Unit) => r = 1) (pPost dC dI (va_A [(x, .inr (4, [.ref g, .ref mr, .ref tb, .ref lo, .ref g3, .ref gr, .ref wi])), (tb, .inr (2, [.ref tf, .ref th, .ref tc, .int 0])), (o9, .inl (cJ, 1, .inr (.inl Zl)))] sz) []) (va_A [(x, .inr (4, [.ref g, .ref mr, .ref tb, .ref lo, .ref g3, .ref gr, .ref wi])), (tb, .inr (2, [.ref tf, .ref th, .ref tc, .int 0])), (o9, .inl (cJ, 1, .inr (.inl Zl)))] sz)) 1 6 (va_A [(x, .inr (4, [.ref g, .ref mr, .ref tb, .ref lo, .ref g3, .ref gr, .ref wi])), (tb, .inr (2, [.ref tf, .ref th, .ref tc, .int 0])), (o9, .inl (cJ, 1, .inr (.inl Zl)))] sz) := by
  refine va_MetW (cc := cL_modularity) (maxL := 4) (ret := (some .int)) (hh := [(0, 8, 11, 19)]) (by decide) rfl ?_
  intro p e s m args below meth c s₁ B hml hv
  obtain ⟨rfl, hsz, hP, hK, hD0, hX⟩ := hv
  have hx := B.exec
  have hb := B.bytes
  have hr := B.returns
  have hts := atoms_spec (ws := wsL_modularity) B.pre
  have hown : s.vm.findClass RL = some m.cls := findClass_of_methodNamed B.named
  have hlocks := B.notSynchronized
  subst hsz
  have hD := hD0.self (sz := s.heap.size)
  generalize hAe : va_A [(x, .inr (4, [.ref g, .ref mr, .ref tb, .ref lo, .ref g3, .ref gr, .ref wi])), (tb, .inr (2, [.ref tf, .ref th, .ref tc, .int 0])), (o9, .inl (cJ, 1, .inr (.inl Zl)))] s.heap.size = A at hD hX ⊢
  have hA : ∀ q : Nat, s.heap.size ≤ q → A q := fun q h => by rw [← hAe]; exact Or.inr h
  have hS : va_S A s.heap s.heap [] := va_S.rf
  have hP : va_P (dC, dI) vwCl [(x, .inr (4, [.ref g, .ref mr, .ref tb, .ref lo, .ref g3, .ref gr, .ref wi])), (tb, .inr (2, [.ref tf, .ref th, .ref tc, .int 0])), (o9, .inl (cJ, 1, .inr (.inl Zl)))] s.heap := hP
  have hl := lv_entry ([.ref x, .int n, .ref o9]) (n := 4) (Nat.le_of_ble_eq_true rfl)
  rw [lg_entry_eq]
  generalize (lg_sl ([.ref x, .int n, .ref o9]) ++ List.replicate (4 - (lg_sl ([.ref x, .int n, .ref o9])).length) Slot.unset).toArray = ls at hl ⊢
  have hl : lv_has ls 4 [(0, .ref x), (1, .int n), (2, .ref o9)] := hl
  have htab := vx_table (x := yL_modularity) B (hts _ List.mem_cons_self)
  have k_0 := hts (.classLink RL 19 "java/lang/IndexOutOfBoundsException") (by decide +kernel)
  refine lv_aload_n hx hb dL_modularity_0 rfl (lv_at hl 2 rfl) ?_
  refine lv_iconst (v := 0) hx hb dL_modularity_1 (by decide) ?_
  refine lv_aload_n hx hb dL_modularity_2 rfl (lv_at hl 0 rfl) ?_
  refine lv_iload_n hx hb dL_modularity_3 rfl (lv_at hl 1 rfl) ?_
  have hPc := hP.sub (ws' := [(x, .inr (4, [.ref g, .ref mr, .ref tb, .ref lo, .ref g3, .ref gr, .ref wi])), (tb, .inr (2, [.ref tf, .ref th, .ref tc, .int 0]))]) [0, 1] rfl
  have hDc := hD.sub (ws' := [(x, .inr (4, [.ref g, .ref mr, .ref tb, .ref lo, .ref g3, .ref gr, .ref wi])), (tb, .inr (2, [.ref tf, .ref th, .ref tc, .int 0]))]) [0, 1] (by decide) rfl
  have hFc := va_free (wc := [(x, .inr (4, [.ref g, .ref mr, .ref tb, .ref lo, .ref g3, .ref gr, .ref wi])), (tb, .inr (2, [.ref tf, .ref th, .ref tc, .int 0]))]) hD hS hA [0, 1] rfl
  refine vx_calll (vx_runV (As := [.int n]) (rest := [.int 0, .ref o9]) ⟨hx, hb, hml, hown, hts⟩ (c_X4_modularity_bad l hno dC dI cI cJ x g mr tb lo g3 gr wi tf th tc s.heap.size n) (cwV 1 hts gL_modularity_X4_modularity rfl rfl rfl (by decide +kernel) ⟨Nat.le_of_ble_eq_true rfl, Nat.le_of_ble_eq_true rfl⟩) ⟨fun a U g mk q => by obtain ⟨q0, q1, qP, qK, qD, qX⟩ := q; exact ⟨q0, q1, qP, va_K.moved (u := U) (U := U.calling g mk a) (Vm.Alike.refl U.vm) qK, qD, qX.moved (State.WarmedH.refl U)⟩, va_recv hK hPc (ci := 4) (q0 := 0) rfl rfl, fun U hU hW => ⟨rfl, by rw [hU], by rw [hU]; exact hPc, va_K.moved hW.alike hK, hDc.weaken (fun _ _ _ _ => trivial), by rw [hU]; exact ((hX.kept hS.2.1).narrow hFc).moved hW⟩⟩ rfl rfl hl.1 rfl (lv_room (Nat.le_of_ble_eq_true rfl)) dL_modularity_4 ⟨Nat.le_of_ble_eq_true rfl, Nat.le_of_ble_eq_true rfl⟩) hS (fun q _ h => hFc q h) hFc (fun q _ h => hFc q h) (fun E9 ce9 q9 u9 t H1 locs ht hvm hw hB hz1 hk1 hS hce hcv hcl => ?_) (fun r_1 u_2 t H1 locs ht hvm hw hB hz1 hk1 hS => ?_)
  · skip
    obtain rfl := hB
    refine vx_catch (own := RL) (name := "java/lang/IndexOutOfBoundsException") hown [] ⟨0, 8, 11, 19⟩ [] (htab.trans rfl) (fun z hz => absurd hz List.not_mem_nil) (by decide) (by decide) k_0 (vz_bad _ (List.mem_of_getElem? (i := 4) rfl) (hX.2.2.1 _ (List.mem_of_getElem? (i := 4) rfl))) hce hcv hcl ?_
    have hP : va_P (dC, dI) vwCl [] H1 := va_P0
    have hD : va_D A [] := va_D0
    generalize H1 = H at hP hS ⊢
    refine lv_astore_n (lv' := [(3, .ref q9), (0, .ref x), (1, .int n), (2, .ref o9)]) hx hb dL_modularity_11 rfl hl (by decide) rfl (fun ls hl => ?_)
    refine lv_iconst (v := 1) hx hb dL_modularity_12 (by decide) ?_
    refine W.widen (k := 1) (n := 6) (by decide) (by decide) ?_
    have hP9 := hP.sub (ws' := []) [] rfl
    have hD9 := hD.sub (ws' := []) [] (by decide) rfl
    exact W.iret (v := 1) hx hb hr (fun t ht hW => ⟨⟨_, (), rfl, rfl, by rw [ht]; exact hP9, hD9⟩, hS.F ht⟩) hS.2.2 dL_modularity_13
  · exact hw.elim
set_option maxHeartbeats 4000000 in
set_option maxRecDepth 100000 in
theorem c_L_move_bad (l : Launch) (hno : l.stackTraces = false) (dC : Nat → ClassId) (dI : Nat → Nat → Nat) (cI cJ : ClassId) (x g mr tb lo g3 gr wi lf lg o9 : Nat) (sz : Nat) (n : Int32) (n1 : Int32) : Met l yL_move wsL_move ({ frames := 8, cells := 1, slots := 6, locals := 125 }) (va_Pc [.ref x, .int n, .int n1, .ref o9] (pPreX dC dI cI cJ sz [(x, .inr (4, [.ref g, .ref mr, .ref tb, .ref lo, .ref g3, .ref gr, .ref wi])), (lo, .inr (3, [.ref lf, .ref lg, .int 0])), (o9, .inl (cJ, 1, .inr (.inl Zl)))])) (va_Qi (fun (r : Int32) (_ : Unit) => r = 1) (pPost dC dI (va_A [(x, .inr (4, [.ref g, .ref mr, .ref tb, .ref lo, .ref g3, .ref gr, .ref wi])), (lo, .inr (3, [.ref lf, .ref lg, .int 0])), (o9, .inl (cJ, 1, .inr (.inl Zl)))] sz) []) (va_A [(x, .inr (4, [.ref g, .ref mr, .ref tb, .ref lo, .ref g3, .ref gr, .ref wi])), (lo, .inr (3, [.ref lf, .ref lg, .int 0])), (o9, .inl (cJ, 1, .inr (.inl Zl)))] sz)) 1 6 (va_A [(x, .inr (4, [.ref g, .ref mr, .ref tb, .ref lo, .ref g3, .ref gr, .ref wi])), (lo, .inr (3, [.ref lf, .ref lg, .int 0])), (o9, .inl (cJ, 1, .inr (.inl Zl)))] sz) := by
  refine va_MetW (cc := cL_move) (maxL := 5) (ret := (some .int)) (hh := [(0, 10, 13, 19)]) (by decide) rfl ?_
  intro p e s m args below meth c s₁ B hml hv
  obtain ⟨rfl, hsz, hP, hK, hD0, hX⟩ := hv
  have hx := B.exec
  have hb := B.bytes
  have hr := B.returns
  have hts := atoms_spec (ws := wsL_move) B.pre
  have hown : s.vm.findClass RL = some m.cls := findClass_of_methodNamed B.named
  have hlocks := B.notSynchronized
  subst hsz
  have hD := hD0.self (sz := s.heap.size)
  generalize hAe : va_A [(x, .inr (4, [.ref g, .ref mr, .ref tb, .ref lo, .ref g3, .ref gr, .ref wi])), (lo, .inr (3, [.ref lf, .ref lg, .int 0])), (o9, .inl (cJ, 1, .inr (.inl Zl)))] s.heap.size = A at hD hX ⊢
  have hA : ∀ q : Nat, s.heap.size ≤ q → A q := fun q h => by rw [← hAe]; exact Or.inr h
  have hS : va_S A s.heap s.heap [] := va_S.rf
  have hP : va_P (dC, dI) vwCl [(x, .inr (4, [.ref g, .ref mr, .ref tb, .ref lo, .ref g3, .ref gr, .ref wi])), (lo, .inr (3, [.ref lf, .ref lg, .int 0])), (o9, .inl (cJ, 1, .inr (.inl Zl)))] s.heap := hP
  have hl := lv_entry ([.ref x, .int n, .int n1, .ref o9]) (n := 5) (Nat.le_of_ble_eq_true rfl)
  rw [lg_entry_eq]
  generalize (lg_sl ([.ref x, .int n, .int n1, .ref o9]) ++ List.replicate (5 - (lg_sl ([.ref x, .int n, .int n1, .ref o9])).length) Slot.unset).toArray = ls at hl ⊢
  have hl : lv_has ls 5 [(0, .ref x), (1, .int n), (2, .int n1), (3, .ref o9)] := hl
  have htab := vx_table (x := yL_move) B (hts _ List.mem_cons_self)
  have k_0 := hts (.classLink RL 19 "java/lang/IndexOutOfBoundsException") (by decide +kernel)
  refine lv_aload_n hx hb dL_move_0 rfl (lv_at hl 3 rfl) ?_
  refine lv_iconst (v := 0) hx hb dL_move_1 (by decide) ?_
  refine lv_aload_n hx hb dL_move_2 rfl (lv_at hl 0 rfl) ?_
  refine lv_iload_n hx hb dL_move_3 rfl (lv_at hl 1 rfl) ?_
  refine lv_iload_n hx hb dL_move_4 rfl (lv_at hl 2 rfl) ?_
  have hPc := hP.sub (ws' := [(x, .inr (4, [.ref g, .ref mr, .ref tb, .ref lo, .ref g3, .ref gr, .ref wi])), (lo, .inr (3, [.ref lf, .ref lg, .int 0]))]) [0, 1] rfl
  have hDc := hD.sub (ws' := [(x, .inr (4, [.ref g, .ref mr, .ref tb, .ref lo, .ref g3, .ref gr, .ref wi])), (lo, .inr (3, [.ref lf, .ref lg, .int 0]))]) [0, 1] (by decide) rfl
  have hFc := va_free (wc := [(x, .inr (4, [.ref g, .ref mr, .ref tb, .ref lo, .ref g3, .ref gr, .ref wi])), (lo, .inr (3, [.ref lf, .ref lg, .int 0]))]) hD hS hA [0, 1] rfl
  refine vx_calli (vx_runV (As := [.int n, .int n1]) (rest := [.int 0, .ref o9]) ⟨hx, hb, hml, hown, hts⟩ (c_X4_move_bad l hno dC dI cI cJ x g mr tb lo g3 gr wi lf lg s.heap.size n n1) (cwV 2 hts gL_move_X4_move rfl rfl rfl (by decide +kernel) ⟨Nat.le_of_ble_eq_true rfl, Nat.le_of_ble_eq_true rfl⟩) ⟨fun a U g mk q => by obtain ⟨q0, q1, qP, qK, qD, qX⟩ := q; exact ⟨q0, q1, qP, va_K.moved (u := U) (U := U.calling g mk a) (Vm.Alike.refl U.vm) qK, qD, qX.moved (State.WarmedH.refl U)⟩, va_recv hK hPc (ci := 4) (q0 := 0) rfl rfl, fun U hU hW => ⟨rfl, by rw [hU], by rw [hU]; exact hPc, va_K.moved hW.alike hK, hDc.weaken (fun _ _ _ _ => trivial), by rw [hU]; exact ((hX.kept hS.2.1).narrow hFc).moved hW⟩⟩ rfl rfl hl.1 rfl (lv_room (Nat.le_of_ble_eq_true rfl)) dL_move_5 ⟨Nat.le_of_ble_eq_true rfl, Nat.le_of_ble_eq_true rfl⟩) hS (fun q _ h => hFc q h) hFc (fun q _ h => hFc q h) (fun E9 ce9 q9 u9 t H1 locs ht hvm hw hB hz1 hk1 hS hce hcv hcl => ?_) (fun r_1 u_2 t H1 locs ht hvm hw hB hz1 hk1 hS => ?_)
  · skip
    obtain rfl := hB
    refine vx_catch (own := RL) (name := "java/lang/IndexOutOfBoundsException") hown [] ⟨0, 10, 13, 19⟩ [] (htab.trans rfl) (fun z hz => absurd hz List.not_mem_nil) (by decide) (by decide) k_0 (vz_bad _ (List.mem_of_getElem? (i := 4) rfl) (hX.2.2.1 _ (List.mem_of_getElem? (i := 4) rfl))) hce hcv hcl ?_
    have hP : va_P (dC, dI) vwCl [] H1 := va_P0
    have hD : va_D A [] := va_D0
    generalize H1 = H at hP hS ⊢
    refine lv_astore (lv' := [(4, .ref q9), (0, .ref x), (1, .int n), (2, .int n1), (3, .ref o9)]) hx hb dL_move_13 hl (by decide) rfl (fun ls hl => ?_)
    refine lv_iconst (v := 1) hx hb dL_move_15 (by decide) ?_
    refine W.widen (k := 1) (n := 6) (by decide) (by decide) ?_
    have hP9 := hP.sub (ws' := []) [] rfl
    have hD9 := hD.sub (ws' := []) [] (by decide) rfl
    exact W.iret (v := 1) hx hb hr (fun t ht hW => ⟨⟨_, (), rfl, rfl, by rw [ht]; exact hP9, hD9⟩, hS.F ht⟩) hS.2.2 dL_move_16
  · exact hw.elim
set_option maxHeartbeats 4000000 in
set_option maxRecDepth 100000 in
theorem c_L_gained_bad (l : Launch) (hno : l.stackTraces = false) (dC : Nat → ClassId) (dI : Nat → Nat → Nat) (cI cJ : ClassId) (x g mr tb lo g3 gr wi lf lg o9 : Nat) (sz : Nat) (n : Int32) : Met l yL_gained wsL_gained ({ frames := 8, cells := 1, slots := 6, locals := 124 }) (va_Pc [.ref x, .int n, .ref o9] (pPreX dC dI cI cJ sz [(x, .inr (4, [.ref g, .ref mr, .ref tb, .ref lo, .ref g3, .ref gr, .ref wi])), (lo, .inr (3, [.ref lf, .ref lg, .int 0])), (o9, .inl (cJ, 1, .inr (.inl Zl)))])) (va_Qi (fun (r : Int32) (_ : Unit) => r = 1) (pPost dC dI (va_A [(x, .inr (4, [.ref g, .ref mr, .ref tb, .ref lo, .ref g3, .ref gr, .ref wi])), (lo, .inr (3, [.ref lf, .ref lg, .int 0])), (o9, .inl (cJ, 1, .inr (.inl Zl)))] sz) []) (va_A [(x, .inr (4, [.ref g, .ref mr, .ref tb, .ref lo, .ref g3, .ref gr, .ref wi])), (lo, .inr (3, [.ref lf, .ref lg, .int 0])), (o9, .inl (cJ, 1, .inr (.inl Zl)))] sz)) 1 6 (va_A [(x, .inr (4, [.ref g, .ref mr, .ref tb, .ref lo, .ref g3, .ref gr, .ref wi])), (lo, .inr (3, [.ref lf, .ref lg, .int 0])), (o9, .inl (cJ, 1, .inr (.inl Zl)))] sz) := by
  refine va_MetW (cc := cL_gained) (maxL := 4) (ret := (some .int)) (hh := [(0, 8, 11, 19)]) (by decide) rfl ?_
  intro p e s m args below meth c s₁ B hml hv
  obtain ⟨rfl, hsz, hP, hK, hD0, hX⟩ := hv
  have hx := B.exec
  have hb := B.bytes
  have hr := B.returns
  have hts := atoms_spec (ws := wsL_gained) B.pre
  have hown : s.vm.findClass RL = some m.cls := findClass_of_methodNamed B.named
  have hlocks := B.notSynchronized
  subst hsz
  have hD := hD0.self (sz := s.heap.size)
  generalize hAe : va_A [(x, .inr (4, [.ref g, .ref mr, .ref tb, .ref lo, .ref g3, .ref gr, .ref wi])), (lo, .inr (3, [.ref lf, .ref lg, .int 0])), (o9, .inl (cJ, 1, .inr (.inl Zl)))] s.heap.size = A at hD hX ⊢
  have hA : ∀ q : Nat, s.heap.size ≤ q → A q := fun q h => by rw [← hAe]; exact Or.inr h
  have hS : va_S A s.heap s.heap [] := va_S.rf
  have hP : va_P (dC, dI) vwCl [(x, .inr (4, [.ref g, .ref mr, .ref tb, .ref lo, .ref g3, .ref gr, .ref wi])), (lo, .inr (3, [.ref lf, .ref lg, .int 0])), (o9, .inl (cJ, 1, .inr (.inl Zl)))] s.heap := hP
  have hl := lv_entry ([.ref x, .int n, .ref o9]) (n := 4) (Nat.le_of_ble_eq_true rfl)
  rw [lg_entry_eq]
  generalize (lg_sl ([.ref x, .int n, .ref o9]) ++ List.replicate (4 - (lg_sl ([.ref x, .int n, .ref o9])).length) Slot.unset).toArray = ls at hl ⊢
  have hl : lv_has ls 4 [(0, .ref x), (1, .int n), (2, .ref o9)] := hl
  have htab := vx_table (x := yL_gained) B (hts _ List.mem_cons_self)
  have k_0 := hts (.classLink RL 19 "java/lang/IndexOutOfBoundsException") (by decide +kernel)
  refine lv_aload_n hx hb dL_gained_0 rfl (lv_at hl 2 rfl) ?_
  refine lv_iconst (v := 0) hx hb dL_gained_1 (by decide) ?_
  refine lv_aload_n hx hb dL_gained_2 rfl (lv_at hl 0 rfl) ?_
  refine lv_iload_n hx hb dL_gained_3 rfl (lv_at hl 1 rfl) ?_
  have hPc := hP.sub (ws' := [(x, .inr (4, [.ref g, .ref mr, .ref tb, .ref lo, .ref g3, .ref gr, .ref wi])), (lo, .inr (3, [.ref lf, .ref lg, .int 0]))]) [0, 1] rfl
  have hDc := hD.sub (ws' := [(x, .inr (4, [.ref g, .ref mr, .ref tb, .ref lo, .ref g3, .ref gr, .ref wi])), (lo, .inr (3, [.ref lf, .ref lg, .int 0]))]) [0, 1] (by decide) rfl
  have hFc := va_free (wc := [(x, .inr (4, [.ref g, .ref mr, .ref tb, .ref lo, .ref g3, .ref gr, .ref wi])), (lo, .inr (3, [.ref lf, .ref lg, .int 0]))]) hD hS hA [0, 1] rfl
  refine vx_calll (vx_runV (As := [.int n]) (rest := [.int 0, .ref o9]) ⟨hx, hb, hml, hown, hts⟩ (c_X4_gained_bad l hno dC dI cI cJ x g mr tb lo g3 gr wi lf lg s.heap.size n) (cwV 1 hts gL_gained_X4_gained rfl rfl rfl (by decide +kernel) ⟨Nat.le_of_ble_eq_true rfl, Nat.le_of_ble_eq_true rfl⟩) ⟨fun a U g mk q => by obtain ⟨q0, q1, qP, qK, qD, qX⟩ := q; exact ⟨q0, q1, qP, va_K.moved (u := U) (U := U.calling g mk a) (Vm.Alike.refl U.vm) qK, qD, qX.moved (State.WarmedH.refl U)⟩, va_recv hK hPc (ci := 4) (q0 := 0) rfl rfl, fun U hU hW => ⟨rfl, by rw [hU], by rw [hU]; exact hPc, va_K.moved hW.alike hK, hDc.weaken (fun _ _ _ _ => trivial), by rw [hU]; exact ((hX.kept hS.2.1).narrow hFc).moved hW⟩⟩ rfl rfl hl.1 rfl (lv_room (Nat.le_of_ble_eq_true rfl)) dL_gained_4 ⟨Nat.le_of_ble_eq_true rfl, Nat.le_of_ble_eq_true rfl⟩) hS (fun q _ h => hFc q h) hFc (fun q _ h => hFc q h) (fun E9 ce9 q9 u9 t H1 locs ht hvm hw hB hz1 hk1 hS hce hcv hcl => ?_) (fun r_1 u_2 t H1 locs ht hvm hw hB hz1 hk1 hS => ?_)
  · skip
    obtain rfl := hB
    refine vx_catch (own := RL) (name := "java/lang/IndexOutOfBoundsException") hown [] ⟨0, 8, 11, 19⟩ [] (htab.trans rfl) (fun z hz => absurd hz List.not_mem_nil) (by decide) (by decide) k_0 (vz_bad _ (List.mem_of_getElem? (i := 4) rfl) (hX.2.2.1 _ (List.mem_of_getElem? (i := 4) rfl))) hce hcv hcl ?_
    have hP : va_P (dC, dI) vwCl [] H1 := va_P0
    have hD : va_D A [] := va_D0
    generalize H1 = H at hP hS ⊢
    refine lv_astore_n (lv' := [(3, .ref q9), (0, .ref x), (1, .int n), (2, .ref o9)]) hx hb dL_gained_11 rfl hl (by decide) rfl (fun ls hl => ?_)
    refine lv_iconst (v := 1) hx hb dL_gained_12 (by decide) ?_
    refine W.widen (k := 1) (n := 6) (by decide) (by decide) ?_
    have hP9 := hP.sub (ws' := []) [] rfl
    have hD9 := hD.sub (ws' := []) [] (by decide) rfl
    exact W.iret (v := 1) hx hb hr (fun t ht hW => ⟨⟨_, (), rfl, rfl, by rw [ht]; exact hP9, hD9⟩, hS.F ht⟩) hS.2.2 dL_gained_13
  · exact hw.elim
set_option maxHeartbeats 4000000 in
set_option maxRecDepth 100000 in
theorem c_L_take_bad (l : Launch) (hno : l.stackTraces = false) (dC : Nat → ClassId) (dI : Nat → Nat → Nat) (cI cJ : ClassId) (x g mr tb lo g3 gr wi tf th tc : Nat) (sz : Nat) (n : Int32) : Met l yL_take wsL_take ({ frames := 8, cells := 1, slots := 6, locals := 124 }) (va_Pc [.ref x, .int n] (pPreX dC dI cI cJ sz [(x, .inr (4, [.ref g, .ref mr, .ref tb, .ref lo, .ref g3, .ref gr, .ref wi])), (tb, .inr (2, [.ref tf, .ref th, .ref tc, .int 0]))])) (va_Qi (fun (r : Int32) (_ : Unit) => r = 1) (pPost dC dI (va_A [(x, .inr (4, [.ref g, .ref mr, .ref tb, .ref lo, .ref g3, .ref gr, .ref wi])), (tb, .inr (2, [.ref tf, .ref th, .ref tc, .int 0]))] sz) []) (va_A [(x, .inr (4, [.ref g, .ref mr, .ref tb, .ref lo, .ref g3, .ref gr, .ref wi])), (tb, .inr (2, [.ref tf, .ref th, .ref tc, .int 0]))] sz)) 1 6 (va_A [(x, .inr (4, [.ref g, .ref mr, .ref tb, .ref lo, .ref g3, .ref gr, .ref wi])), (tb, .inr (2, [.ref tf, .ref th, .ref tc, .int 0]))] sz) := by
  refine va_MetW (cc := cL_take) (maxL := 3) (ret := (some .int)) (hh := [(0, 5, 8, 19)]) (by decide) rfl ?_
  intro p e s m args below meth c s₁ B hml hv
  obtain ⟨rfl, hsz, hP, hK, hD0, hX⟩ := hv
  have hx := B.exec
  have hb := B.bytes
  have hr := B.returns
  have hts := atoms_spec (ws := wsL_take) B.pre
  have hown : s.vm.findClass RL = some m.cls := findClass_of_methodNamed B.named
  have hlocks := B.notSynchronized
  subst hsz
  have hD := hD0.self (sz := s.heap.size)
  generalize hAe : va_A [(x, .inr (4, [.ref g, .ref mr, .ref tb, .ref lo, .ref g3, .ref gr, .ref wi])), (tb, .inr (2, [.ref tf, .ref th, .ref tc, .int 0]))] s.heap.size = A at hD hX ⊢
  have hA : ∀ q : Nat, s.heap.size ≤ q → A q := fun q h => by rw [← hAe]; exact Or.inr h
  have hS : va_S A s.heap s.heap [] := va_S.rf
  have hP : va_P (dC, dI) vwCl [(x, .inr (4, [.ref g, .ref mr, .ref tb, .ref lo, .ref g3, .ref gr, .ref wi])), (tb, .inr (2, [.ref tf, .ref th, .ref tc, .int 0]))] s.heap := hP
  have hl := lv_entry ([.ref x, .int n]) (n := 3) (Nat.le_of_ble_eq_true rfl)
  rw [lg_entry_eq]
  generalize (lg_sl ([.ref x, .int n]) ++ List.replicate (3 - (lg_sl ([.ref x, .int n])).length) Slot.unset).toArray = ls at hl ⊢
  have hl : lv_has ls 3 [(0, .ref x), (1, .int n)] := hl
  have htab := vx_table (x := yL_take) B (hts _ List.mem_cons_self)
  have k_0 := hts (.classLink RL 19 "java/lang/IndexOutOfBoundsException") (by decide +kernel)
  refine lv_aload_n hx hb dL_take_0 rfl (lv_at hl 0 rfl) ?_
  refine lv_iload_n hx hb dL_take_1 rfl (lv_at hl 1 rfl) ?_
  have hPc := hP.sub (ws' := [(x, .inr (4, [.ref g, .ref mr, .ref tb, .ref lo, .ref g3, .ref gr, .ref wi])), (tb, .inr (2, [.ref tf, .ref th, .ref tc, .int 0]))]) [0, 1] rfl
  have hDc := hD.sub (ws' := [(x, .inr (4, [.ref g, .ref mr, .ref tb, .ref lo, .ref g3, .ref gr, .ref wi])), (tb, .inr (2, [.ref tf, .ref th, .ref tc, .int 0]))]) [0, 1] (by decide) rfl
  have hFc := va_free (wc := [(x, .inr (4, [.ref g, .ref mr, .ref tb, .ref lo, .ref g3, .ref gr, .ref wi])), (tb, .inr (2, [.ref tf, .ref th, .ref tc, .int 0]))]) hD hS hA [0, 1] rfl
  refine vx_callv (vx_runV (As := [.int n]) (rest := []) ⟨hx, hb, hml, hown, hts⟩ (c_X4_take_bad l hno dC dI cI cJ x g mr tb lo g3 gr wi tf th tc s.heap.size n) (cwV 1 hts gL_take_X4_take rfl rfl rfl (by decide +kernel) ⟨Nat.le_of_ble_eq_true rfl, Nat.le_of_ble_eq_true rfl⟩) ⟨fun a U g mk q => by obtain ⟨q0, q1, qP, qK, qD, qX⟩ := q; exact ⟨q0, q1, qP, va_K.moved (u := U) (U := U.calling g mk a) (Vm.Alike.refl U.vm) qK, qD, qX.moved (State.WarmedH.refl U)⟩, va_recv hK hPc (ci := 4) (q0 := 0) rfl rfl, fun U hU hW => ⟨rfl, by rw [hU], by rw [hU]; exact hPc, va_K.moved hW.alike hK, hDc.weaken (fun _ _ _ _ => trivial), by rw [hU]; exact ((hX.kept hS.2.1).narrow hFc).moved hW⟩⟩ rfl rfl hl.1 rfl (lv_room (Nat.le_of_ble_eq_true rfl)) dL_take_2 ⟨Nat.le_of_ble_eq_true rfl, Nat.le_of_ble_eq_true rfl⟩) hS (fun q _ h => hFc q h) hFc (fun q _ h => hFc q h) (fun E9 ce9 q9 u9 t H1 locs ht hvm hw hB hz1 hk1 hS hce hcv hcl => ?_) (fun u_2 t H1 locs ht hvm hw hB hz1 hk1 hS => ?_)
  · skip
    obtain rfl := hB
    refine vx_catch (own := RL) (name := "java/lang/IndexOutOfBoundsException") hown [] ⟨0, 5, 8, 19⟩ [] (htab.trans rfl) (fun z hz => absurd hz List.not_mem_nil) (by decide) (by decide) k_0 (vz_bad _ (List.mem_of_getElem? (i := 4) rfl) (hX.2.2.1 _ (List.mem_of_getElem? (i := 4) rfl))) hce hcv hcl ?_
    have hP : va_P (dC, dI) vwCl [] H1 := va_P0
    have hD : va_D A [] := va_D0
    generalize H1 = H at hP hS ⊢
    refine lv_astore_n (lv' := [(2, .ref q9), (0, .ref x), (1, .int n)]) hx hb dL_take_8 rfl hl (by decide) rfl (fun ls hl => ?_)
    refine lv_iconst (v := 1) hx hb dL_take_9 (by decide) ?_
    refine W.widen (k := 1) (n := 6) (by decide) (by decide) ?_
    have hP9 := hP.sub (ws' := []) [] rfl
    have hD9 := hD.sub (ws' := []) [] (by decide) rfl
    exact W.iret (v := 1) hx hb hr (fun t ht hW => ⟨⟨_, (), rfl, rfl, by rw [ht]; exact hP9, hD9⟩, hS.F ht⟩) hS.2.2 dL_take_10
  · exact hw.elim
set_option maxHeartbeats 4000000 in
set_option maxRecDepth 100000 in
theorem c_L_place_ok (l : Launch) (dC : Nat → ClassId) (dI : Nat → Nat → Nat) (cI cJ : ClassId) (x g mr tb lo g3 gr wi w d mh mc md ml mn o9 : Nat) (sz : Nat) : Met l yL_place wsL_place ({ frames := 2, cells := 0, slots := 0, locals := 44 }) (va_Pc [.ref x, .int 0, .int 0, .ref o9] (pPre dC dI cI cJ sz [(x, .inr (4, [.ref g, .ref mr, .ref tb, .ref lo, .ref g3, .ref gr, .ref wi])), (g, .inr (0, [.ref w, .ref d, .int 1, .int 0])), (mr, .inr (1, [.ref mh, .ref mc, .ref md, .ref ml, .ref mn])), (mh, .inl (cI, 40, .inl Zi)), (o9, .inl (cJ, 1, .inr (.inl Zl)))])) (va_Qi (fun (r : Int32) (_ : Unit) => r = 0) (pPost dC dI (va_A [(x, .inr (4, [.ref g, .ref mr, .ref tb, .ref lo, .ref g3, .ref gr, .ref wi])), (g, .inr (0, [.ref w, .ref d, .int 1, .int 0])), (mr, .inr (1, [.ref mh, .ref mc, .ref md, .ref ml, .ref mn])), (mh, .inl (cI, 40, .inl Zi)), (o9, .inl (cJ, 1, .inr (.inl Zl)))] sz) [(o9, .inl (cJ, 1, .inr (.inl (vp_updL Zl 0 0))))]) (va_A [(x, .inr (4, [.ref g, .ref mr, .ref tb, .ref lo, .ref g3, .ref gr, .ref wi])), (g, .inr (0, [.ref w, .ref d, .int 1, .int 0])), (mr, .inr (1, [.ref mh, .ref mc, .ref md, .ref ml, .ref mn])), (mh, .inl (cI, 40, .inl Zi)), (o9, .inl (cJ, 1, .inr (.inl Zl)))] sz)) 0 0 (va_A [(x, .inr (4, [.ref g, .ref mr, .ref tb, .ref lo, .ref g3, .ref gr, .ref wi])), (g, .inr (0, [.ref w, .ref d, .int 1, .int 0])), (mr, .inr (1, [.ref mh, .ref mc, .ref md, .ref ml, .ref mn])), (mh, .inl (cI, 40, .inl Zi)), (o9, .inl (cJ, 1, .inr (.inl Zl)))] sz) := by
  refine va_MetW (cc := cL_place) (maxL := 5) (ret := (some .int)) (hh := [(0, 10, 13, 19)]) (by decide) rfl ?_
  intro p e s m args below meth c s₁ B hml hv
  obtain ⟨rfl, hsz, hP, hK, hD0⟩ := hv
  have hx := B.exec
  have hb := B.bytes
  have hr := B.returns
  have hts := atoms_spec (ws := wsL_place) B.pre
  have hown : s.vm.findClass RL = some m.cls := findClass_of_methodNamed B.named
  have hlocks := B.notSynchronized
  subst hsz
  have hD := hD0.self (sz := s.heap.size)
  generalize hAe : va_A [(x, .inr (4, [.ref g, .ref mr, .ref tb, .ref lo, .ref g3, .ref gr, .ref wi])), (g, .inr (0, [.ref w, .ref d, .int 1, .int 0])), (mr, .inr (1, [.ref mh, .ref mc, .ref md, .ref ml, .ref mn])), (mh, .inl (cI, 40, .inl Zi)), (o9, .inl (cJ, 1, .inr (.inl Zl)))] s.heap.size = A at hD ⊢
  have hA : ∀ q : Nat, s.heap.size ≤ q → A q := fun q h => by rw [← hAe]; exact Or.inr h
  have hS : va_S A s.heap s.heap [] := va_S.rf
  have hP : va_P (dC, dI) vwCl [(x, .inr (4, [.ref g, .ref mr, .ref tb, .ref lo, .ref g3, .ref gr, .ref wi])), (g, .inr (0, [.ref w, .ref d, .int 1, .int 0])), (mr, .inr (1, [.ref mh, .ref mc, .ref md, .ref ml, .ref mn])), (mh, .inl (cI, 40, .inl Zi)), (o9, .inl (cJ, 1, .inr (.inl Zl)))] s.heap := hP
  have hl := lv_entry ([.ref x, .int 0, .int 0, .ref o9]) (n := 5) (Nat.le_of_ble_eq_true rfl)
  rw [lg_entry_eq]
  generalize (lg_sl ([.ref x, .int 0, .int 0, .ref o9]) ++ List.replicate (5 - (lg_sl ([.ref x, .int 0, .int 0, .ref o9])).length) Slot.unset).toArray = ls at hl ⊢
  have hl : lv_has ls 5 [(0, .ref x), (1, .int 0), (2, .int 0), (3, .ref o9)] := hl
  have htab := vx_table (x := yL_place) B (hts _ List.mem_cons_self)
  refine lv_aload_n hx hb dL_place_0 rfl (lv_at hl 3 rfl) ?_
  refine lv_iconst (v := 0) hx hb dL_place_1 (by decide) ?_
  refine lv_aload_n hx hb dL_place_2 rfl (lv_at hl 0 rfl) ?_
  refine lv_iload_n hx hb dL_place_3 rfl (lv_at hl 1 rfl) ?_
  refine lv_iload_n hx hb dL_place_4 rfl (lv_at hl 2 rfl) ?_
  have hPc := hP.sub (ws' := [(x, .inr (4, [.ref g, .ref mr, .ref tb, .ref lo, .ref g3, .ref gr, .ref wi])), (g, .inr (0, [.ref w, .ref d, .int 1, .int 0])), (mr, .inr (1, [.ref mh, .ref mc, .ref md, .ref ml, .ref mn])), (mh, .inl (cI, 40, .inl Zi))]) [0, 1, 2, 3] rfl
  have hDc := hD.sub (ws' := [(x, .inr (4, [.ref g, .ref mr, .ref tb, .ref lo, .ref g3, .ref gr, .ref wi])), (g, .inr (0, [.ref w, .ref d, .int 1, .int 0])), (mr, .inr (1, [.ref mh, .ref mc, .ref md, .ref ml, .ref mn])), (mh, .inl (cI, 40, .inl Zi))]) [0, 1, 2, 3] (by decide) rfl
  have hFc := va_free (wc := [(x, .inr (4, [.ref g, .ref mr, .ref tb, .ref lo, .ref g3, .ref gr, .ref wi])), (g, .inr (0, [.ref w, .ref d, .int 1, .int 0])), (mr, .inr (1, [.ref mh, .ref mc, .ref md, .ref ml, .ref mn])), (mh, .inl (cI, 40, .inl Zi))]) hD hS hA [0, 1, 2, 3] rfl
  refine va_calli (va_runV (As := [.int 0, .int 0]) (rest := [.int 0, .ref o9]) ⟨hx, hb, hml, hown, hts⟩ (c_X4_place l dC dI cI cJ x g mr tb lo g3 gr wi w d mh mc md ml mn s.heap.size) (cwV 2 hts gL_place_X4_place rfl rfl rfl (by decide +kernel) ⟨Nat.le_of_ble_eq_true rfl, Nat.le_of_ble_eq_true rfl⟩) ⟨fun a U g mk q => by obtain ⟨q0, q1, qP, qK, qD⟩ := q; exact ⟨q0, q1, qP, va_K.moved (u := U) (U := U.calling g mk a) (Vm.Alike.refl U.vm) qK, qD⟩, va_recv hK hPc (ci := 4) (q0 := 0) rfl rfl, fun U hU hW => ⟨rfl, by rw [hU], by rw [hU]; exact hPc, va_K.moved hW.alike hK, hDc.weaken (fun _ _ _ _ => trivial)⟩⟩ rfl rfl hl.1 rfl (lv_room (Nat.le_of_ble_eq_true rfl)) dL_place_5 ⟨Nat.le_of_ble_eq_true rfl, Nat.le_of_ble_eq_true rfl⟩) hS (fun q _ h => hFc q h) hFc (fun r_1 u_2 t H1 locs ht hvm hw hB hz1 hk1 hS => ?_)
  obtain ⟨hP1, hD1⟩ := hB
  rw [ht] at hP1
  obtain ⟨hP, hD⟩ := va_join (wr := [(o9, .inl (cJ, 1, .inr (.inl Zl)))]) (w1 := []) hP hD [0, 1, 2, 3] [4] rfl rfl (by decide) (by decide) hk1 hFc hP1 hD1
  generalize H1 = H at hP hS ⊢
  have hP : va_P (dC, dI) vwCl [(o9, .inl (cJ, 1, .inr (.inl Zl)))] H := hP
  have hD : va_D A [(o9, .inl (cJ, 1, .inr (.inl Zl)))] := hD
  obtain rfl : r_1 = 0 := hw
  refine lv_i2l (v := 0) hx hb dL_place_8 (by decide) ?_
  refine va_last hx hb hK hP hD hS 0 1 rfl rfl (vp_c (by decide)) dL_place_9 (fun H locs hP hD hS => ?_)
  have hP : va_P (dC, dI) vwCl [(o9, .inl (cJ, 1, .inr (.inl (vp_updL Zl 0 0))))] H := hP
  have hD : va_D A [(o9, .inl (cJ, 1, .inr (.inl (vp_updL Zl 0 0))))] := hD
  refine lv_goto (tgt := 17) hx hb dL_place_10 (by decide) ?_
  refine lv_iconst (v := 0) hx hb dL_place_17 (by decide) ?_
  have hP9 := hP.sub (ws' := [(o9, .inl (cJ, 1, .inr (.inl (vp_updL Zl 0 0))))]) [0] rfl
  have hD9 := hD.sub (ws' := [(o9, .inl (cJ, 1, .inr (.inl (vp_updL Zl 0 0))))]) [0] (by decide) rfl
  exact W.iret (v := 0) hx hb hr (fun t ht hW => ⟨⟨_, (), rfl, rfl, by rw [ht]; exact hP9, hD9⟩, hS.F ht⟩) hS.2.2 dL_place_18
set_option maxHeartbeats 4000000 in
set_option maxRecDepth 100000 in
theorem c_L_place_b1 (l : Launch) (hno : l.stackTraces = false) (dC : Nat → ClassId) (dI : Nat → Nat → Nat) (cI cJ : ClassId) (x g mr tb lo g3 gr wi w d o9 : Nat) (sz : Nat) (n : Int32) (n1 : Int32) (hn : n < 0 ∨ 1 ≤ n) : Met l yL_place wsL_place ({ frames := 8, cells := 1, slots := 6, locals := 126 }) (va_Pc [.ref x, .int n, .int n1, .ref o9] (pPreX dC dI cI cJ sz [(x, .inr (4, [.ref g, .ref mr, .ref tb, .ref lo, .ref g3, .ref gr, .ref wi])), (g, .inr (0, [.ref w, .ref d, .int 1, .int 0])), (o9, .inl (cJ, 1, .inr (.inl Zl)))])) (va_Qi (fun (r : Int32) (_ : Unit) => r = 1) (pPost dC dI (va_A [(x, .inr (4, [.ref g, .ref mr, .ref tb, .ref lo, .ref g3, .ref gr, .ref wi])), (g, .inr (0, [.ref w, .ref d, .int 1, .int 0])), (o9, .inl (cJ, 1, .inr (.inl Zl)))] sz) []) (va_A [(x, .inr (4, [.ref g, .ref mr, .ref tb, .ref lo, .ref g3, .ref gr, .ref wi])), (g, .inr (0, [.ref w, .ref d, .int 1, .int 0])), (o9, .inl (cJ, 1, .inr (.inl Zl)))] sz)) 1 6 (va_A [(x, .inr (4, [.ref g, .ref mr, .ref tb, .ref lo, .ref g3, .ref gr, .ref wi])), (g, .inr (0, [.ref w, .ref d, .int 1, .int 0])), (o9, .inl (cJ, 1, .inr (.inl Zl)))] sz) := by
  refine va_MetW (cc := cL_place) (maxL := 5) (ret := (some .int)) (hh := [(0, 10, 13, 19)]) (by decide) rfl ?_
  intro p e s m args below meth c s₁ B hml hv
  obtain ⟨rfl, hsz, hP, hK, hD0, hX⟩ := hv
  have hx := B.exec
  have hb := B.bytes
  have hr := B.returns
  have hts := atoms_spec (ws := wsL_place) B.pre
  have hown : s.vm.findClass RL = some m.cls := findClass_of_methodNamed B.named
  have hlocks := B.notSynchronized
  subst hsz
  have hD := hD0.self (sz := s.heap.size)
  generalize hAe : va_A [(x, .inr (4, [.ref g, .ref mr, .ref tb, .ref lo, .ref g3, .ref gr, .ref wi])), (g, .inr (0, [.ref w, .ref d, .int 1, .int 0])), (o9, .inl (cJ, 1, .inr (.inl Zl)))] s.heap.size = A at hD hX ⊢
  have hA : ∀ q : Nat, s.heap.size ≤ q → A q := fun q h => by rw [← hAe]; exact Or.inr h
  have hS : va_S A s.heap s.heap [] := va_S.rf
  have hP : va_P (dC, dI) vwCl [(x, .inr (4, [.ref g, .ref mr, .ref tb, .ref lo, .ref g3, .ref gr, .ref wi])), (g, .inr (0, [.ref w, .ref d, .int 1, .int 0])), (o9, .inl (cJ, 1, .inr (.inl Zl)))] s.heap := hP
  have hl := lv_entry ([.ref x, .int n, .int n1, .ref o9]) (n := 5) (Nat.le_of_ble_eq_true rfl)
  rw [lg_entry_eq]
  generalize (lg_sl ([.ref x, .int n, .int n1, .ref o9]) ++ List.replicate (5 - (lg_sl ([.ref x, .int n, .int n1, .ref o9])).length) Slot.unset).toArray = ls at hl ⊢
  have hl : lv_has ls 5 [(0, .ref x), (1, .int n), (2, .int n1), (3, .ref o9)] := hl
  have htab := vx_table (x := yL_place) B (hts _ List.mem_cons_self)
  have k_0 := hts (.classLink RL 19 "java/lang/IndexOutOfBoundsException") (by decide +kernel)
  refine lv_aload_n hx hb dL_place_0 rfl (lv_at hl 3 rfl) ?_
  refine lv_iconst (v := 0) hx hb dL_place_1 (by decide) ?_
  refine lv_aload_n hx hb dL_place_2 rfl (lv_at hl 0 rfl) ?_
  refine lv_iload_n hx hb dL_place_3 rfl (lv_at hl 1 rfl) ?_
  refine lv_iload_n hx hb dL_place_4 rfl (lv_at hl 2 rfl) ?_
  have hPc := hP.sub (ws' := [(x, .inr (4, [.ref g, .ref mr, .ref tb, .ref lo, .ref g3, .ref gr, .ref wi])), (g, .inr (0, [.ref w, .ref d, .int 1, .int 0]))]) [0, 1] rfl
  have hDc := hD.sub (ws' := [(x, .inr (4, [.ref g, .ref mr, .ref tb, .ref lo, .ref g3, .ref gr, .ref wi])), (g, .inr (0, [.ref w, .ref d, .int 1, .int 0]))]) [0, 1] (by decide) rfl
  have hFc := va_free (wc := [(x, .inr (4, [.ref g, .ref mr, .ref tb, .ref lo, .ref g3, .ref gr, .ref wi])), (g, .inr (0, [.ref w, .ref d, .int 1, .int 0]))]) hD hS hA [0, 1] rfl
  refine vx_calli (vx_runV (As := [.int n, .int n1]) (rest := [.int 0, .ref o9]) ⟨hx, hb, hml, hown, hts⟩ (c_X4_place_b1 l hno dC dI cI cJ x g mr tb lo g3 gr wi w d s.heap.size n n1 hn) (cwV 2 hts gL_place_X4_place rfl rfl rfl (by decide +kernel) ⟨Nat.le_of_ble_eq_true rfl, Nat.le_of_ble_eq_true rfl⟩) ⟨fun a U g mk q => by obtain ⟨q0, q1, qP, qK, qD, qX⟩ := q; exact ⟨q0, q1, qP, va_K.moved (u := U) (U := U.calling g mk a) (Vm.Alike.refl U.vm) qK, qD, qX.moved (State.WarmedH.refl U)⟩, va_recv hK hPc (ci := 4) (q0 := 0) rfl rfl, fun U hU hW => ⟨rfl, by rw [hU], by rw [hU]; exact hPc, va_K.moved hW.alike hK, hDc.weaken (fun _ _ _ _ => trivial), by rw [hU]; exact ((hX.kept hS.2.1).narrow hFc).moved hW⟩⟩ rfl rfl hl.1 rfl (lv_room (Nat.le_of_ble_eq_true rfl)) dL_place_5 ⟨Nat.le_of_ble_eq_true rfl, Nat.le_of_ble_eq_true rfl⟩) hS (fun q _ h => hFc q h) hFc (fun q _ h => hFc q h) (fun E9 ce9 q9 u9 t H1 locs ht hvm hw hB hz1 hk1 hS hce hcv hcl => ?_) (fun r_1 u_2 t H1 locs ht hvm hw hB hz1 hk1 hS => ?_)
  · skip
    obtain rfl := hB
    refine vx_catch (own := RL) (name := "java/lang/IndexOutOfBoundsException") hown [] ⟨0, 10, 13, 19⟩ [] (htab.trans rfl) (fun z hz => absurd hz List.not_mem_nil) (by decide) (by decide) k_0 (vz_bad _ (List.mem_of_getElem? (i := 4) rfl) (hX.2.2.1 _ (List.mem_of_getElem? (i := 4) rfl))) hce hcv hcl ?_
    have hP : va_P (dC, dI) vwCl [] H1 := va_P0
    have hD : va_D A [] := va_D0
    generalize H1 = H at hP hS ⊢
    refine lv_astore (lv' := [(4, .ref q9), (0, .ref x), (1, .int n), (2, .int n1), (3, .ref o9)]) hx hb dL_place_13 hl (by decide) rfl (fun ls hl => ?_)
    refine lv_iconst (v := 1) hx hb dL_place_15 (by decide) ?_
    refine W.widen (k := 1) (n := 6) (by decide) (by decide) ?_
    have hP9 := hP.sub (ws' := []) [] rfl
    have hD9 := hD.sub (ws' := []) [] (by decide) rfl
    exact W.iret (v := 1) hx hb hr (fun t ht hW => ⟨⟨_, (), rfl, rfl, by rw [ht]; exact hP9, hD9⟩, hS.F ht⟩) hS.2.2 dL_place_16
  · exact hw.elim
set_option maxHeartbeats 4000000 in
set_option maxRecDepth 100000 in
theorem c_L_place_b2 (l : Launch) (hno : l.stackTraces = false) (dC : Nat → ClassId) (dI : Nat → Nat → Nat) (cI cJ : ClassId) (x g mr tb lo g3 gr wi w d o9 : Nat) (sz : Nat) (n : Int32) (hn : n < 0 ∨ 1 ≤ n) : Met l yL_place wsL_place ({ frames := 8, cells := 1, slots := 6, locals := 126 }) (va_Pc [.ref x, .int 0, .int n, .ref o9] (pPreX dC dI cI cJ sz [(x, .inr (4, [.ref g, .ref mr, .ref tb, .ref lo, .ref g3, .ref gr, .ref wi])), (g, .inr (0, [.ref w, .ref d, .int 1, .int 0])), (o9, .inl (cJ, 1, .inr (.inl Zl)))])) (va_Qi (fun (r : Int32) (_ : Unit) => r = 1) (pPost dC dI (va_A [(x, .inr (4, [.ref g, .ref mr, .ref tb, .ref lo, .ref g3, .ref gr, .ref wi])), (g, .inr (0, [.ref w, .ref d, .int 1, .int 0])), (o9, .inl (cJ, 1, .inr (.inl Zl)))] sz) []) (va_A [(x, .inr (4, [.ref g, .ref mr, .ref tb, .ref lo, .ref g3, .ref gr, .ref wi])), (g, .inr (0, [.ref w, .ref d, .int 1, .int 0])), (o9, .inl (cJ, 1, .inr (.inl Zl)))] sz)) 1 6 (va_A [(x, .inr (4, [.ref g, .ref mr, .ref tb, .ref lo, .ref g3, .ref gr, .ref wi])), (g, .inr (0, [.ref w, .ref d, .int 1, .int 0])), (o9, .inl (cJ, 1, .inr (.inl Zl)))] sz) := by
  refine va_MetW (cc := cL_place) (maxL := 5) (ret := (some .int)) (hh := [(0, 10, 13, 19)]) (by decide) rfl ?_
  intro p e s m args below meth c s₁ B hml hv
  obtain ⟨rfl, hsz, hP, hK, hD0, hX⟩ := hv
  have hx := B.exec
  have hb := B.bytes
  have hr := B.returns
  have hts := atoms_spec (ws := wsL_place) B.pre
  have hown : s.vm.findClass RL = some m.cls := findClass_of_methodNamed B.named
  have hlocks := B.notSynchronized
  subst hsz
  have hD := hD0.self (sz := s.heap.size)
  generalize hAe : va_A [(x, .inr (4, [.ref g, .ref mr, .ref tb, .ref lo, .ref g3, .ref gr, .ref wi])), (g, .inr (0, [.ref w, .ref d, .int 1, .int 0])), (o9, .inl (cJ, 1, .inr (.inl Zl)))] s.heap.size = A at hD hX ⊢
  have hA : ∀ q : Nat, s.heap.size ≤ q → A q := fun q h => by rw [← hAe]; exact Or.inr h
  have hS : va_S A s.heap s.heap [] := va_S.rf
  have hP : va_P (dC, dI) vwCl [(x, .inr (4, [.ref g, .ref mr, .ref tb, .ref lo, .ref g3, .ref gr, .ref wi])), (g, .inr (0, [.ref w, .ref d, .int 1, .int 0])), (o9, .inl (cJ, 1, .inr (.inl Zl)))] s.heap := hP
  have hl := lv_entry ([.ref x, .int 0, .int n, .ref o9]) (n := 5) (Nat.le_of_ble_eq_true rfl)
  rw [lg_entry_eq]
  generalize (lg_sl ([.ref x, .int 0, .int n, .ref o9]) ++ List.replicate (5 - (lg_sl ([.ref x, .int 0, .int n, .ref o9])).length) Slot.unset).toArray = ls at hl ⊢
  have hl : lv_has ls 5 [(0, .ref x), (1, .int 0), (2, .int n), (3, .ref o9)] := hl
  have htab := vx_table (x := yL_place) B (hts _ List.mem_cons_self)
  have k_0 := hts (.classLink RL 19 "java/lang/IndexOutOfBoundsException") (by decide +kernel)
  refine lv_aload_n hx hb dL_place_0 rfl (lv_at hl 3 rfl) ?_
  refine lv_iconst (v := 0) hx hb dL_place_1 (by decide) ?_
  refine lv_aload_n hx hb dL_place_2 rfl (lv_at hl 0 rfl) ?_
  refine lv_iload_n hx hb dL_place_3 rfl (lv_at hl 1 rfl) ?_
  refine lv_iload_n hx hb dL_place_4 rfl (lv_at hl 2 rfl) ?_
  have hPc := hP.sub (ws' := [(x, .inr (4, [.ref g, .ref mr, .ref tb, .ref lo, .ref g3, .ref gr, .ref wi])), (g, .inr (0, [.ref w, .ref d, .int 1, .int 0]))]) [0, 1] rfl
  have hDc := hD.sub (ws' := [(x, .inr (4, [.ref g, .ref mr, .ref tb, .ref lo, .ref g3, .ref gr, .ref wi])), (g, .inr (0, [.ref w, .ref d, .int 1, .int 0]))]) [0, 1] (by decide) rfl
  have hFc := va_free (wc := [(x, .inr (4, [.ref g, .ref mr, .ref tb, .ref lo, .ref g3, .ref gr, .ref wi])), (g, .inr (0, [.ref w, .ref d, .int 1, .int 0]))]) hD hS hA [0, 1] rfl
  refine vx_calli (vx_runV (As := [.int 0, .int n]) (rest := [.int 0, .ref o9]) ⟨hx, hb, hml, hown, hts⟩ (c_X4_place_b2 l hno dC dI cI cJ x g mr tb lo g3 gr wi w d s.heap.size n hn) (cwV 2 hts gL_place_X4_place rfl rfl rfl (by decide +kernel) ⟨Nat.le_of_ble_eq_true rfl, Nat.le_of_ble_eq_true rfl⟩) ⟨fun a U g mk q => by obtain ⟨q0, q1, qP, qK, qD, qX⟩ := q; exact ⟨q0, q1, qP, va_K.moved (u := U) (U := U.calling g mk a) (Vm.Alike.refl U.vm) qK, qD, qX.moved (State.WarmedH.refl U)⟩, va_recv hK hPc (ci := 4) (q0 := 0) rfl rfl, fun U hU hW => ⟨rfl, by rw [hU], by rw [hU]; exact hPc, va_K.moved hW.alike hK, hDc.weaken (fun _ _ _ _ => trivial), by rw [hU]; exact ((hX.kept hS.2.1).narrow hFc).moved hW⟩⟩ rfl rfl hl.1 rfl (lv_room (Nat.le_of_ble_eq_true rfl)) dL_place_5 ⟨Nat.le_of_ble_eq_true rfl, Nat.le_of_ble_eq_true rfl⟩) hS (fun q _ h => hFc q h) hFc (fun q _ h => hFc q h) (fun E9 ce9 q9 u9 t H1 locs ht hvm hw hB hz1 hk1 hS hce hcv hcl => ?_) (fun r_1 u_2 t H1 locs ht hvm hw hB hz1 hk1 hS => ?_)
  · skip
    obtain rfl := hB
    refine vx_catch (own := RL) (name := "java/lang/IndexOutOfBoundsException") hown [] ⟨0, 10, 13, 19⟩ [] (htab.trans rfl) (fun z hz => absurd hz List.not_mem_nil) (by decide) (by decide) k_0 (vz_bad _ (List.mem_of_getElem? (i := 4) rfl) (hX.2.2.1 _ (List.mem_of_getElem? (i := 4) rfl))) hce hcv hcl ?_
    have hP : va_P (dC, dI) vwCl [] H1 := va_P0
    have hD : va_D A [] := va_D0
    generalize H1 = H at hP hS ⊢
    refine lv_astore (lv' := [(4, .ref q9), (0, .ref x), (1, .int 0), (2, .int n), (3, .ref o9)]) hx hb dL_place_13 hl (by decide) rfl (fun ls hl => ?_)
    refine lv_iconst (v := 1) hx hb dL_place_15 (by decide) ?_
    refine W.widen (k := 1) (n := 6) (by decide) (by decide) ?_
    have hP9 := hP.sub (ws' := []) [] rfl
    have hD9 := hD.sub (ws' := []) [] (by decide) rfl
    exact W.iret (v := 1) hx hb hr (fun t ht hW => ⟨⟨_, (), rfl, rfl, by rw [ht]; exact hP9, hD9⟩, hS.F ht⟩) hS.2.2 dL_place_16
  · exact hw.elim
set_option maxHeartbeats 4000000 in
set_option maxRecDepth 100000 in
theorem c_L_gain_ok (l : Launch) (dC : Nat → ClassId) (dI : Nat → Nat → Nat) (cI cJ : ClassId) (x g mr tb lo g3 gr wi w d mh mc md ml mn o9 : Nat) (sz : Nat) : Met l yL_gain wsL_gain ({ frames := 3, cells := 0, slots := 0, locals := 68 }) (va_Pc [.ref x, .int 0, .int 0, .ref o9] (pPre dC dI cI cJ sz [(x, .inr (4, [.ref g, .ref mr, .ref tb, .ref lo, .ref g3, .ref gr, .ref wi])), (g, .inr (0, [.ref w, .ref d, .int 1, .int 0])), (d, .inl (cI, 40, .inl Zi)), (mr, .inr (1, [.ref mh, .ref mc, .ref md, .ref ml, .ref mn])), (mh, .inl (cI, 40, .inl Zi)), (mc, .inl (cI, 40, .inl Zi)), (md, .inl (cI, 40, .inl Zi)), (ml, .inl (cI, 40, .inl Zi)), (o9, .inl (cJ, 1, .inr (.inl Zl)))])) (va_Qi (fun (r : Int32) (_ : Unit) => r = 0) (pPost dC dI (va_A [(x, .inr (4, [.ref g, .ref mr, .ref tb, .ref lo, .ref g3, .ref gr, .ref wi])), (g, .inr (0, [.ref w, .ref d, .int 1, .int 0])), (d, .inl (cI, 40, .inl Zi)), (mr, .inr (1, [.ref mh, .ref mc, .ref md, .ref ml, .ref mn])), (mh, .inl (cI, 40, .inl Zi)), (mc, .inl (cI, 40, .inl Zi)), (md, .inl (cI, 40, .inl Zi)), (ml, .inl (cI, 40, .inl Zi)), (o9, .inl (cJ, 1, .inr (.inl Zl)))] sz) [(o9, .inl (cJ, 1, .inr (.inl (vp_updL Zl 0 0))))]) (va_A [(x, .inr (4, [.ref g, .ref mr, .ref tb, .ref lo, .ref g3, .ref gr, .ref wi])), (g, .inr (0, [.ref w, .ref d, .int 1, .int 0])), (d, .inl (cI, 40, .inl Zi)), (mr, .inr (1, [.ref mh, .ref mc, .ref md, .ref ml, .ref mn])), (mh, .inl (cI, 40, .inl Zi)), (mc, .inl (cI, 40, .inl Zi)), (md, .inl (cI, 40, .inl Zi)), (ml, .inl (cI, 40, .inl Zi)), (o9, .inl (cJ, 1, .inr (.inl Zl)))] sz)) 0 0 (va_A [(x, .inr (4, [.ref g, .ref mr, .ref tb, .ref lo, .ref g3, .ref gr, .ref wi])), (g, .inr (0, [.ref w, .ref d, .int 1, .int 0])), (d, .inl (cI, 40, .inl Zi)), (mr, .inr (1, [.ref mh, .ref mc, .ref md, .ref ml, .ref mn])), (mh, .inl (cI, 40, .inl Zi)), (mc, .inl (cI, 40, .inl Zi)), (md, .inl (cI, 40, .inl Zi)), (ml, .inl (cI, 40, .inl Zi)), (o9, .inl (cJ, 1, .inr (.inl Zl)))] sz) := by
  refine va_MetW (cc := cL_gain) (maxL := 5) (ret := (some .int)) (hh := [(0, 9, 12, 19)]) (by decide) rfl ?_
  intro p e s m args below meth c s₁ B hml hv
  obtain ⟨rfl, hsz, hP, hK, hD0⟩ := hv
  have hx := B.exec
  have hb := B.bytes
  have hr := B.returns
  have hts := atoms_spec (ws := wsL_gain) B.pre
  have hown : s.vm.findClass RL = some m.cls := findClass_of_methodNamed B.named
  have hlocks := B.notSynchronized
  subst hsz
  have hD := hD0.self (sz := s.heap.size)
  generalize hAe : va_A [(x, .inr (4, [.ref g, .ref mr, .ref tb, .ref lo, .ref g3, .ref gr, .ref wi])), (g, .inr (0, [.ref w, .ref d, .int 1, .int 0])), (d, .inl (cI, 40, .inl Zi)), (mr, .inr (1, [.ref mh, .ref mc, .ref md, .ref ml, .ref mn])), (mh, .inl (cI, 40, .inl Zi)), (mc, .inl (cI, 40, .inl Zi)), (md, .inl (cI, 40, .inl Zi)), (ml, .inl (cI, 40, .inl Zi)), (o9, .inl (cJ, 1, .inr (.inl Zl)))] s.heap.size = A at hD ⊢
  have hA : ∀ q : Nat, s.heap.size ≤ q → A q := fun q h => by rw [← hAe]; exact Or.inr h
  have hS : va_S A s.heap s.heap [] := va_S.rf
  have hP : va_P (dC, dI) vwCl [(x, .inr (4, [.ref g, .ref mr, .ref tb, .ref lo, .ref g3, .ref gr, .ref wi])), (g, .inr (0, [.ref w, .ref d, .int 1, .int 0])), (d, .inl (cI, 40, .inl Zi)), (mr, .inr (1, [.ref mh, .ref mc, .ref md, .ref ml, .ref mn])), (mh, .inl (cI, 40, .inl Zi)), (mc, .inl (cI, 40, .inl Zi)), (md, .inl (cI, 40, .inl Zi)), (ml, .inl (cI, 40, .inl Zi)), (o9, .inl (cJ, 1, .inr (.inl Zl)))] s.heap := hP
  have hl := lv_entry ([.ref x, .int 0, .int 0, .ref o9]) (n := 5) (Nat.le_of_ble_eq_true rfl)
  rw [lg_entry_eq]
  generalize (lg_sl ([.ref x, .int 0, .int 0, .ref o9]) ++ List.replicate (5 - (lg_sl ([.ref x, .int 0, .int 0, .ref o9])).length) Slot.unset).toArray = ls at hl ⊢
  have hl : lv_has ls 5 [(0, .ref x), (1, .int 0), (2, .int 0), (3, .ref o9)] := hl
  have htab := vx_table (x := yL_gain) B (hts _ List.mem_cons_self)
  refine lv_aload_n hx hb dL_gain_0 rfl (lv_at hl 3 rfl) ?_
  refine lv_iconst (v := 0) hx hb dL_gain_1 (by decide) ?_
  refine lv_aload_n hx hb dL_gain_2 rfl (lv_at hl 0 rfl) ?_
  refine lv_iload_n hx hb dL_gain_3 rfl (lv_at hl 1 rfl) ?_
  refine lv_iload_n hx hb dL_gain_4 rfl (lv_at hl 2 rfl) ?_
  have hPc := hP.sub (ws' := [(x, .inr (4, [.ref g, .ref mr, .ref tb, .ref lo, .ref g3, .ref gr, .ref wi])), (g, .inr (0, [.ref w, .ref d, .int 1, .int 0])), (d, .inl (cI, 40, .inl Zi)), (mr, .inr (1, [.ref mh, .ref mc, .ref md, .ref ml, .ref mn])), (mh, .inl (cI, 40, .inl Zi)), (mc, .inl (cI, 40, .inl Zi)), (md, .inl (cI, 40, .inl Zi)), (ml, .inl (cI, 40, .inl Zi))]) [0, 1, 2, 3, 4, 5, 6, 7] rfl
  have hDc := hD.sub (ws' := [(x, .inr (4, [.ref g, .ref mr, .ref tb, .ref lo, .ref g3, .ref gr, .ref wi])), (g, .inr (0, [.ref w, .ref d, .int 1, .int 0])), (d, .inl (cI, 40, .inl Zi)), (mr, .inr (1, [.ref mh, .ref mc, .ref md, .ref ml, .ref mn])), (mh, .inl (cI, 40, .inl Zi)), (mc, .inl (cI, 40, .inl Zi)), (md, .inl (cI, 40, .inl Zi)), (ml, .inl (cI, 40, .inl Zi))]) [0, 1, 2, 3, 4, 5, 6, 7] (by decide) rfl
  have hFc := va_free (wc := [(x, .inr (4, [.ref g, .ref mr, .ref tb, .ref lo, .ref g3, .ref gr, .ref wi])), (g, .inr (0, [.ref w, .ref d, .int 1, .int 0])), (d, .inl (cI, 40, .inl Zi)), (mr, .inr (1, [.ref mh, .ref mc, .ref md, .ref ml, .ref mn])), (mh, .inl (cI, 40, .inl Zi)), (mc, .inl (cI, 40, .inl Zi)), (md, .inl (cI, 40, .inl Zi)), (ml, .inl (cI, 40, .inl Zi))]) hD hS hA [0, 1, 2, 3, 4, 5, 6, 7] rfl
  refine va_calll (va_runV (As := [.int 0, .int 0]) (rest := [.int 0, .ref o9]) ⟨hx, hb, hml, hown, hts⟩ (c_X4_gain l dC dI cI cJ x g mr tb lo g3 gr wi w d mh mc md ml mn s.heap.size) (cwV 2 hts gL_gain_X4_gain rfl rfl rfl (by decide +kernel) ⟨Nat.le_of_ble_eq_true rfl, Nat.le_of_ble_eq_true rfl⟩) ⟨fun a U g mk q => by obtain ⟨q0, q1, qP, qK, qD⟩ := q; exact ⟨q0, q1, qP, va_K.moved (u := U) (U := U.calling g mk a) (Vm.Alike.refl U.vm) qK, qD⟩, va_recv hK hPc (ci := 4) (q0 := 0) rfl rfl, fun U hU hW => ⟨rfl, by rw [hU], by rw [hU]; exact hPc, va_K.moved hW.alike hK, hDc.weaken (fun _ _ _ _ => trivial)⟩⟩ rfl rfl hl.1 rfl (lv_room (Nat.le_of_ble_eq_true rfl)) dL_gain_5 ⟨Nat.le_of_ble_eq_true rfl, Nat.le_of_ble_eq_true rfl⟩) hS (fun q _ h => hFc q h) hFc (fun r_1 u_2 t H1 locs ht hvm hw hB hz1 hk1 hS => ?_)
  obtain ⟨hP1, hD1⟩ := hB
  rw [ht] at hP1
  obtain ⟨hP, hD⟩ := va_join (wr := [(o9, .inl (cJ, 1, .inr (.inl Zl)))]) (w1 := []) hP hD [0, 1, 2, 3, 4, 5, 6, 7] [8] rfl rfl (by decide) (by decide) hk1 hFc hP1 hD1
  generalize H1 = H at hP hS ⊢
  have hP : va_P (dC, dI) vwCl [(o9, .inl (cJ, 1, .inr (.inl Zl)))] H := hP
  have hD : va_D A [(o9, .inl (cJ, 1, .inr (.inl Zl)))] := hD
  obtain rfl : r_1 = 0 := hw
  refine va_last hx hb hK hP hD hS 0 1 rfl rfl (vp_c (by decide)) dL_gain_8 (fun H locs hP hD hS => ?_)
  have hP : va_P (dC, dI) vwCl [(o9, .inl (cJ, 1, .inr (.inl (vp_updL Zl 0 0))))] H := hP
  have hD : va_D A [(o9, .inl (cJ, 1, .inr (.inl (vp_updL Zl 0 0))))] := hD
  refine lv_goto (tgt := 16) hx hb dL_gain_9 (by decide) ?_
  refine lv_iconst (v := 0) hx hb dL_gain_16 (by decide) ?_
  have hP9 := hP.sub (ws' := [(o9, .inl (cJ, 1, .inr (.inl (vp_updL Zl 0 0))))]) [0] rfl
  have hD9 := hD.sub (ws' := [(o9, .inl (cJ, 1, .inr (.inl (vp_updL Zl 0 0))))]) [0] (by decide) rfl
  exact W.iret (v := 0) hx hb hr (fun t ht hW => ⟨⟨_, (), rfl, rfl, by rw [ht]; exact hP9, hD9⟩, hS.F ht⟩) hS.2.2 dL_gain_17
set_option maxHeartbeats 4000000 in
set_option maxRecDepth 100000 in
theorem c_L_gain_b1 (l : Launch) (hno : l.stackTraces = false) (dC : Nat → ClassId) (dI : Nat → Nat → Nat) (cI cJ : ClassId) (x g mr tb lo g3 gr wi w d o9 : Nat) (sz : Nat) (n : Int32) (n1 : Int32) (hn : n < 0 ∨ 1 ≤ n) : Met l yL_gain wsL_gain ({ frames := 8, cells := 1, slots := 6, locals := 125 }) (va_Pc [.ref x, .int n, .int n1, .ref o9] (pPreX dC dI cI cJ sz [(x, .inr (4, [.ref g, .ref mr, .ref tb, .ref lo, .ref g3, .ref gr, .ref wi])), (g, .inr (0, [.ref w, .ref d, .int 1, .int 0])), (o9, .inl (cJ, 1, .inr (.inl Zl)))])) (va_Qi (fun (r : Int32) (_ : Unit) => r = 1) (pPost dC dI (va_A [(x, .inr (4, [.ref g, .ref mr, .ref tb, .ref lo, .ref g3, .ref gr, .ref wi])), (g, .inr (0, [.ref w, .ref d, .int 1, .int 0])), (o9, .inl (cJ, 1, .inr (.inl Zl)))] sz) []) (va_A [(x, .inr (4, [.ref g, .ref mr, .ref tb, .ref lo, .ref g3, .ref gr, .ref wi])), (g, .inr (0, [.ref w, .ref d, .int 1, .int 0])), (o9, .inl (cJ, 1, .inr (.inl Zl)))] sz)) 1 6 (va_A [(x, .inr (4, [.ref g, .ref mr, .ref tb, .ref lo, .ref g3, .ref gr, .ref wi])), (g, .inr (0, [.ref w, .ref d, .int 1, .int 0])), (o9, .inl (cJ, 1, .inr (.inl Zl)))] sz) := by
  refine va_MetW (cc := cL_gain) (maxL := 5) (ret := (some .int)) (hh := [(0, 9, 12, 19)]) (by decide) rfl ?_
  intro p e s m args below meth c s₁ B hml hv
  obtain ⟨rfl, hsz, hP, hK, hD0, hX⟩ := hv
  have hx := B.exec
  have hb := B.bytes
  have hr := B.returns
  have hts := atoms_spec (ws := wsL_gain) B.pre
  have hown : s.vm.findClass RL = some m.cls := findClass_of_methodNamed B.named
  have hlocks := B.notSynchronized
  subst hsz
  have hD := hD0.self (sz := s.heap.size)
  generalize hAe : va_A [(x, .inr (4, [.ref g, .ref mr, .ref tb, .ref lo, .ref g3, .ref gr, .ref wi])), (g, .inr (0, [.ref w, .ref d, .int 1, .int 0])), (o9, .inl (cJ, 1, .inr (.inl Zl)))] s.heap.size = A at hD hX ⊢
  have hA : ∀ q : Nat, s.heap.size ≤ q → A q := fun q h => by rw [← hAe]; exact Or.inr h
  have hS : va_S A s.heap s.heap [] := va_S.rf
  have hP : va_P (dC, dI) vwCl [(x, .inr (4, [.ref g, .ref mr, .ref tb, .ref lo, .ref g3, .ref gr, .ref wi])), (g, .inr (0, [.ref w, .ref d, .int 1, .int 0])), (o9, .inl (cJ, 1, .inr (.inl Zl)))] s.heap := hP
  have hl := lv_entry ([.ref x, .int n, .int n1, .ref o9]) (n := 5) (Nat.le_of_ble_eq_true rfl)
  rw [lg_entry_eq]
  generalize (lg_sl ([.ref x, .int n, .int n1, .ref o9]) ++ List.replicate (5 - (lg_sl ([.ref x, .int n, .int n1, .ref o9])).length) Slot.unset).toArray = ls at hl ⊢
  have hl : lv_has ls 5 [(0, .ref x), (1, .int n), (2, .int n1), (3, .ref o9)] := hl
  have htab := vx_table (x := yL_gain) B (hts _ List.mem_cons_self)
  have k_0 := hts (.classLink RL 19 "java/lang/IndexOutOfBoundsException") (by decide +kernel)
  refine lv_aload_n hx hb dL_gain_0 rfl (lv_at hl 3 rfl) ?_
  refine lv_iconst (v := 0) hx hb dL_gain_1 (by decide) ?_
  refine lv_aload_n hx hb dL_gain_2 rfl (lv_at hl 0 rfl) ?_
  refine lv_iload_n hx hb dL_gain_3 rfl (lv_at hl 1 rfl) ?_
  refine lv_iload_n hx hb dL_gain_4 rfl (lv_at hl 2 rfl) ?_
  have hPc := hP.sub (ws' := [(x, .inr (4, [.ref g, .ref mr, .ref tb, .ref lo, .ref g3, .ref gr, .ref wi])), (g, .inr (0, [.ref w, .ref d, .int 1, .int 0]))]) [0, 1] rfl
  have hDc := hD.sub (ws' := [(x, .inr (4, [.ref g, .ref mr, .ref tb, .ref lo, .ref g3, .ref gr, .ref wi])), (g, .inr (0, [.ref w, .ref d, .int 1, .int 0]))]) [0, 1] (by decide) rfl
  have hFc := va_free (wc := [(x, .inr (4, [.ref g, .ref mr, .ref tb, .ref lo, .ref g3, .ref gr, .ref wi])), (g, .inr (0, [.ref w, .ref d, .int 1, .int 0]))]) hD hS hA [0, 1] rfl
  refine vx_calll (vx_runV (As := [.int n, .int n1]) (rest := [.int 0, .ref o9]) ⟨hx, hb, hml, hown, hts⟩ (c_X4_gain_b1 l hno dC dI cI cJ x g mr tb lo g3 gr wi w d s.heap.size n n1 hn) (cwV 2 hts gL_gain_X4_gain rfl rfl rfl (by decide +kernel) ⟨Nat.le_of_ble_eq_true rfl, Nat.le_of_ble_eq_true rfl⟩) ⟨fun a U g mk q => by obtain ⟨q0, q1, qP, qK, qD, qX⟩ := q; exact ⟨q0, q1, qP, va_K.moved (u := U) (U := U.calling g mk a) (Vm.Alike.refl U.vm) qK, qD, qX.moved (State.WarmedH.refl U)⟩, va_recv hK hPc (ci := 4) (q0 := 0) rfl rfl, fun U hU hW => ⟨rfl, by rw [hU], by rw [hU]; exact hPc, va_K.moved hW.alike hK, hDc.weaken (fun _ _ _ _ => trivial), by rw [hU]; exact ((hX.kept hS.2.1).narrow hFc).moved hW⟩⟩ rfl rfl hl.1 rfl (lv_room (Nat.le_of_ble_eq_true rfl)) dL_gain_5 ⟨Nat.le_of_ble_eq_true rfl, Nat.le_of_ble_eq_true rfl⟩) hS (fun q _ h => hFc q h) hFc (fun q _ h => hFc q h) (fun E9 ce9 q9 u9 t H1 locs ht hvm hw hB hz1 hk1 hS hce hcv hcl => ?_) (fun r_1 u_2 t H1 locs ht hvm hw hB hz1 hk1 hS => ?_)
  · skip
    obtain rfl := hB
    refine vx_catch (own := RL) (name := "java/lang/IndexOutOfBoundsException") hown [] ⟨0, 9, 12, 19⟩ [] (htab.trans rfl) (fun z hz => absurd hz List.not_mem_nil) (by decide) (by decide) k_0 (vz_bad _ (List.mem_of_getElem? (i := 4) rfl) (hX.2.2.1 _ (List.mem_of_getElem? (i := 4) rfl))) hce hcv hcl ?_
    have hP : va_P (dC, dI) vwCl [] H1 := va_P0
    have hD : va_D A [] := va_D0
    generalize H1 = H at hP hS ⊢
    refine lv_astore (lv' := [(4, .ref q9), (0, .ref x), (1, .int n), (2, .int n1), (3, .ref o9)]) hx hb dL_gain_12 hl (by decide) rfl (fun ls hl => ?_)
    refine lv_iconst (v := 1) hx hb dL_gain_14 (by decide) ?_
    refine W.widen (k := 1) (n := 6) (by decide) (by decide) ?_
    have hP9 := hP.sub (ws' := []) [] rfl
    have hD9 := hD.sub (ws' := []) [] (by decide) rfl
    exact W.iret (v := 1) hx hb hr (fun t ht hW => ⟨⟨_, (), rfl, rfl, by rw [ht]; exact hP9, hD9⟩, hS.F ht⟩) hS.2.2 dL_gain_15
  · exact hw.elim
set_option maxHeartbeats 4000000 in
set_option maxRecDepth 100000 in
theorem c_L_gain_b2 (l : Launch) (hno : l.stackTraces = false) (dC : Nat → ClassId) (dI : Nat → Nat → Nat) (cI cJ : ClassId) (x g mr tb lo g3 gr wi w d o9 : Nat) (sz : Nat) (n : Int32) (hn : n < 0 ∨ 1 ≤ n) : Met l yL_gain wsL_gain ({ frames := 8, cells := 1, slots := 6, locals := 125 }) (va_Pc [.ref x, .int 0, .int n, .ref o9] (pPreX dC dI cI cJ sz [(x, .inr (4, [.ref g, .ref mr, .ref tb, .ref lo, .ref g3, .ref gr, .ref wi])), (g, .inr (0, [.ref w, .ref d, .int 1, .int 0])), (o9, .inl (cJ, 1, .inr (.inl Zl)))])) (va_Qi (fun (r : Int32) (_ : Unit) => r = 1) (pPost dC dI (va_A [(x, .inr (4, [.ref g, .ref mr, .ref tb, .ref lo, .ref g3, .ref gr, .ref wi])), (g, .inr (0, [.ref w, .ref d, .int 1, .int 0])), (o9, .inl (cJ, 1, .inr (.inl Zl)))] sz) []) (va_A [(x, .inr (4, [.ref g, .ref mr, .ref tb, .ref lo, .ref g3, .ref gr, .ref wi])), (g, .inr (0, [.ref w, .ref d, .int 1, .int 0])), (o9, .inl (cJ, 1, .inr (.inl Zl)))] sz)) 1 6 (va_A [(x, .inr (4, [.ref g, .ref mr, .ref tb, .ref lo, .ref g3, .ref gr, .ref wi])), (g, .inr (0, [.ref w, .ref d, .int 1, .int 0])), (o9, .inl (cJ, 1, .inr (.inl Zl)))] sz) := by
  refine va_MetW (cc := cL_gain) (maxL := 5) (ret := (some .int)) (hh := [(0, 9, 12, 19)]) (by decide) rfl ?_
  intro p e s m args below meth c s₁ B hml hv
  obtain ⟨rfl, hsz, hP, hK, hD0, hX⟩ := hv
  have hx := B.exec
  have hb := B.bytes
  have hr := B.returns
  have hts := atoms_spec (ws := wsL_gain) B.pre
  have hown : s.vm.findClass RL = some m.cls := findClass_of_methodNamed B.named
  have hlocks := B.notSynchronized
  subst hsz
  have hD := hD0.self (sz := s.heap.size)
  generalize hAe : va_A [(x, .inr (4, [.ref g, .ref mr, .ref tb, .ref lo, .ref g3, .ref gr, .ref wi])), (g, .inr (0, [.ref w, .ref d, .int 1, .int 0])), (o9, .inl (cJ, 1, .inr (.inl Zl)))] s.heap.size = A at hD hX ⊢
  have hA : ∀ q : Nat, s.heap.size ≤ q → A q := fun q h => by rw [← hAe]; exact Or.inr h
  have hS : va_S A s.heap s.heap [] := va_S.rf
  have hP : va_P (dC, dI) vwCl [(x, .inr (4, [.ref g, .ref mr, .ref tb, .ref lo, .ref g3, .ref gr, .ref wi])), (g, .inr (0, [.ref w, .ref d, .int 1, .int 0])), (o9, .inl (cJ, 1, .inr (.inl Zl)))] s.heap := hP
  have hl := lv_entry ([.ref x, .int 0, .int n, .ref o9]) (n := 5) (Nat.le_of_ble_eq_true rfl)
  rw [lg_entry_eq]
  generalize (lg_sl ([.ref x, .int 0, .int n, .ref o9]) ++ List.replicate (5 - (lg_sl ([.ref x, .int 0, .int n, .ref o9])).length) Slot.unset).toArray = ls at hl ⊢
  have hl : lv_has ls 5 [(0, .ref x), (1, .int 0), (2, .int n), (3, .ref o9)] := hl
  have htab := vx_table (x := yL_gain) B (hts _ List.mem_cons_self)
  have k_0 := hts (.classLink RL 19 "java/lang/IndexOutOfBoundsException") (by decide +kernel)
  refine lv_aload_n hx hb dL_gain_0 rfl (lv_at hl 3 rfl) ?_
  refine lv_iconst (v := 0) hx hb dL_gain_1 (by decide) ?_
  refine lv_aload_n hx hb dL_gain_2 rfl (lv_at hl 0 rfl) ?_
  refine lv_iload_n hx hb dL_gain_3 rfl (lv_at hl 1 rfl) ?_
  refine lv_iload_n hx hb dL_gain_4 rfl (lv_at hl 2 rfl) ?_
  have hPc := hP.sub (ws' := [(x, .inr (4, [.ref g, .ref mr, .ref tb, .ref lo, .ref g3, .ref gr, .ref wi])), (g, .inr (0, [.ref w, .ref d, .int 1, .int 0]))]) [0, 1] rfl
  have hDc := hD.sub (ws' := [(x, .inr (4, [.ref g, .ref mr, .ref tb, .ref lo, .ref g3, .ref gr, .ref wi])), (g, .inr (0, [.ref w, .ref d, .int 1, .int 0]))]) [0, 1] (by decide) rfl
  have hFc := va_free (wc := [(x, .inr (4, [.ref g, .ref mr, .ref tb, .ref lo, .ref g3, .ref gr, .ref wi])), (g, .inr (0, [.ref w, .ref d, .int 1, .int 0]))]) hD hS hA [0, 1] rfl
  refine vx_calll (vx_runV (As := [.int 0, .int n]) (rest := [.int 0, .ref o9]) ⟨hx, hb, hml, hown, hts⟩ (c_X4_gain_b2 l hno dC dI cI cJ x g mr tb lo g3 gr wi w d s.heap.size n hn) (cwV 2 hts gL_gain_X4_gain rfl rfl rfl (by decide +kernel) ⟨Nat.le_of_ble_eq_true rfl, Nat.le_of_ble_eq_true rfl⟩) ⟨fun a U g mk q => by obtain ⟨q0, q1, qP, qK, qD, qX⟩ := q; exact ⟨q0, q1, qP, va_K.moved (u := U) (U := U.calling g mk a) (Vm.Alike.refl U.vm) qK, qD, qX.moved (State.WarmedH.refl U)⟩, va_recv hK hPc (ci := 4) (q0 := 0) rfl rfl, fun U hU hW => ⟨rfl, by rw [hU], by rw [hU]; exact hPc, va_K.moved hW.alike hK, hDc.weaken (fun _ _ _ _ => trivial), by rw [hU]; exact ((hX.kept hS.2.1).narrow hFc).moved hW⟩⟩ rfl rfl hl.1 rfl (lv_room (Nat.le_of_ble_eq_true rfl)) dL_gain_5 ⟨Nat.le_of_ble_eq_true rfl, Nat.le_of_ble_eq_true rfl⟩) hS (fun q _ h => hFc q h) hFc (fun q _ h => hFc q h) (fun E9 ce9 q9 u9 t H1 locs ht hvm hw hB hz1 hk1 hS hce hcv hcl => ?_) (fun r_1 u_2 t H1 locs ht hvm hw hB hz1 hk1 hS => ?_)
  · skip
    obtain rfl := hB
    refine vx_catch (own := RL) (name := "java/lang/IndexOutOfBoundsException") hown [] ⟨0, 9, 12, 19⟩ [] (htab.trans rfl) (fun z hz => absurd hz List.not_mem_nil) (by decide) (by decide) k_0 (vz_bad _ (List.mem_of_getElem? (i := 4) rfl) (hX.2.2.1 _ (List.mem_of_getElem? (i := 4) rfl))) hce hcv hcl ?_
    have hP : va_P (dC, dI) vwCl [] H1 := va_P0
    have hD : va_D A [] := va_D0
    generalize H1 = H at hP hS ⊢
    refine lv_astore (lv' := [(4, .ref q9), (0, .ref x), (1, .int 0), (2, .int n), (3, .ref o9)]) hx hb dL_gain_12 hl (by decide) rfl (fun ls hl => ?_)
    refine lv_iconst (v := 1) hx hb dL_gain_14 (by decide) ?_
    refine W.widen (k := 1) (n := 6) (by decide) (by decide) ?_
    have hP9 := hP.sub (ws' := []) [] rfl
    have hD9 := hD.sub (ws' := []) [] (by decide) rfl
    exact W.iret (v := 1) hx hb hr (fun t ht hW => ⟨⟨_, (), rfl, rfl, by rw [ht]; exact hP9, hD9⟩, hS.F ht⟩) hS.2.2 dL_gain_15
  · exact hw.elim
set_option maxHeartbeats 4000000 in
set_option maxRecDepth 100000 in
theorem c_L_about_0 (l : Launch) (dC : Nat → ClassId) (dI : Nat → Nat → Nat) (cI cJ : ClassId) (x g mr tb lo g3 gr wi w d o9 : Nat) (sz : Nat) (n : Int32) : Met l yL_about wsL_about ({ frames := 1, cells := 0, slots := 0, locals := 22 }) (va_Pc [.ref x, .int 0, .int n, .ref o9] (pPre dC dI cI cJ sz [(x, .inr (4, [.ref g, .ref mr, .ref tb, .ref lo, .ref g3, .ref gr, .ref wi])), (g, .inr (0, [.ref w, .ref d, .int 1, .int 0])), (o9, .inl (cJ, 1, .inr (.inl Zl)))])) (va_Qi (fun (r : Int32) (_ : Unit) => r = 0) (pPost dC dI (va_A [(x, .inr (4, [.ref g, .ref mr, .ref tb, .ref lo, .ref g3, .ref gr, .ref wi])), (g, .inr (0, [.ref w, .ref d, .int 1, .int 0])), (o9, .inl (cJ, 1, .inr (.inl Zl)))] sz) [(o9, .inl (cJ, 1, .inr (.inl (vp_updL Zl 0 1))))]) (va_A [(x, .inr (4, [.ref g, .ref mr, .ref tb, .ref lo, .ref g3, .ref gr, .ref wi])), (g, .inr (0, [.ref w, .ref d, .int 1, .int 0])), (o9, .inl (cJ, 1, .inr (.inl Zl)))] sz)) 0 0 (va_A [(x, .inr (4, [.ref g, .ref mr, .ref tb, .ref lo, .ref g3, .ref gr, .ref wi])), (g, .inr (0, [.ref w, .ref d, .int 1, .int 0])), (o9, .inl (cJ, 1, .inr (.inl Zl)))] sz) := by
  refine va_MetW (cc := cL_about) (maxL := 5) (ret := (some .int)) (hh := [(0, 10, 13, 19)]) (by decide) rfl ?_
  intro p e s m args below meth c s₁ B hml hv
  obtain ⟨rfl, hsz, hP, hK, hD0⟩ := hv
  have hx := B.exec
  have hb := B.bytes
  have hr := B.returns
  have hts := atoms_spec (ws := wsL_about) B.pre
  have hown : s.vm.findClass RL = some m.cls := findClass_of_methodNamed B.named
  have hlocks := B.notSynchronized
  subst hsz
  have hD := hD0.self (sz := s.heap.size)
  generalize hAe : va_A [(x, .inr (4, [.ref g, .ref mr, .ref tb, .ref lo, .ref g3, .ref gr, .ref wi])), (g, .inr (0, [.ref w, .ref d, .int 1, .int 0])), (o9, .inl (cJ, 1, .inr (.inl Zl)))] s.heap.size = A at hD ⊢
  have hA : ∀ q : Nat, s.heap.size ≤ q → A q := fun q h => by rw [← hAe]; exact Or.inr h
  have hS : va_S A s.heap s.heap [] := va_S.rf
  have hP : va_P (dC, dI) vwCl [(x, .inr (4, [.ref g, .ref mr, .ref tb, .ref lo, .ref g3, .ref gr, .ref wi])), (g, .inr (0, [.ref w, .ref d, .int 1, .int 0])), (o9, .inl (cJ, 1, .inr (.inl Zl)))] s.heap := hP
  have hl := lv_entry ([.ref x, .int 0, .int n, .ref o9]) (n := 5) (Nat.le_of_ble_eq_true rfl)
  rw [lg_entry_eq]
  generalize (lg_sl ([.ref x, .int 0, .int n, .ref o9]) ++ List.replicate (5 - (lg_sl ([.ref x, .int 0, .int n, .ref o9])).length) Slot.unset).toArray = ls at hl ⊢
  have hl : lv_has ls 5 [(0, .ref x), (1, .int 0), (2, .int n), (3, .ref o9)] := hl
  have htab := vx_table (x := yL_about) B (hts _ List.mem_cons_self)
  refine lv_aload_n hx hb dL_about_0 rfl (lv_at hl 3 rfl) ?_
  refine lv_iconst (v := 0) hx hb dL_about_1 (by decide) ?_
  refine lv_aload_n hx hb dL_about_2 rfl (lv_at hl 0 rfl) ?_
  refine lv_iload_n hx hb dL_about_3 rfl (lv_at hl 1 rfl) ?_
  refine lv_iload_n hx hb dL_about_4 rfl (lv_at hl 2 rfl) ?_
  have hPc := hP.sub (ws' := [(x, .inr (4, [.ref g, .ref mr, .ref tb, .ref lo, .ref g3, .ref gr, .ref wi])), (g, .inr (0, [.ref w, .ref d, .int 1, .int 0]))]) [0, 1] rfl
  have hDc := hD.sub (ws' := [(x, .inr (4, [.ref g, .ref mr, .ref tb, .ref lo, .ref g3, .ref gr, .ref wi])), (g, .inr (0, [.ref w, .ref d, .int 1, .int 0]))]) [0, 1] (by decide) rfl
  have hFc := va_free (wc := [(x, .inr (4, [.ref g, .ref mr, .ref tb, .ref lo, .ref g3, .ref gr, .ref wi])), (g, .inr (0, [.ref w, .ref d, .int 1, .int 0]))]) hD hS hA [0, 1] rfl
  refine va_calli (va_runV (As := [.int 0, .int n]) (rest := [.int 0, .ref o9]) ⟨hx, hb, hml, hown, hts⟩ (c_X4_about_0 l dC dI cI cJ x g mr tb lo g3 gr wi w d s.heap.size n) (cwV 2 hts gL_about_X4_about rfl rfl rfl (by decide +kernel) ⟨Nat.le_of_ble_eq_true rfl, Nat.le_of_ble_eq_true rfl⟩) ⟨fun a U g mk q => by obtain ⟨q0, q1, qP, qK, qD⟩ := q; exact ⟨q0, q1, qP, va_K.moved (u := U) (U := U.calling g mk a) (Vm.Alike.refl U.vm) qK, qD⟩, va_recv hK hPc (ci := 4) (q0 := 0) rfl rfl, fun U hU hW => ⟨rfl, by rw [hU], by rw [hU]; exact hPc, va_K.moved hW.alike hK, hDc.weaken (fun _ _ _ _ => trivial)⟩⟩ rfl rfl hl.1 rfl (lv_room (Nat.le_of_ble_eq_true rfl)) dL_about_5 ⟨Nat.le_of_ble_eq_true rfl, Nat.le_of_ble_eq_true rfl⟩) hS (fun q _ h => hFc q h) hFc (fun r_1 u_2 t H1 locs ht hvm hw hB hz1 hk1 hS => ?_)
  obtain ⟨hP1, hD1⟩ := hB
  rw [ht] at hP1
  obtain ⟨hP, hD⟩ := va_join (wr := [(o9, .inl (cJ, 1, .inr (.inl Zl)))]) (w1 := []) hP hD [0, 1] [2] rfl rfl (by decide) (by decide) hk1 hFc hP1 hD1
  generalize H1 = H at hP hS ⊢
  have hP : va_P (dC, dI) vwCl [(o9, .inl (cJ, 1, .inr (.inl Zl)))] H := hP
  have hD : va_D A [(o9, .inl (cJ, 1, .inr (.inl Zl)))] := hD
  obtain rfl : r_1 = 1 := hw
  refine lv_i2l (v := 1) hx hb dL_about_8 (by decide) ?_
  refine va_last hx hb hK hP hD hS 0 1 rfl rfl (vp_c (by decide)) dL_about_9 (fun H locs hP hD hS => ?_)
  have hP : va_P (dC, dI) vwCl [(o9, .inl (cJ, 1, .inr (.inl (vp_updL Zl 0 1))))] H := hP
  have hD : va_D A [(o9, .inl (cJ, 1, .inr (.inl (vp_updL Zl 0 1))))] := hD
  refine lv_goto (tgt := 17) hx hb dL_about_10 (by decide) ?_
  refine lv_iconst (v := 0) hx hb dL_about_17 (by decide) ?_
  have hP9 := hP.sub (ws' := [(o9, .inl (cJ, 1, .inr (.inl (vp_updL Zl 0 1))))]) [0] rfl
  have hD9 := hD.sub (ws' := [(o9, .inl (cJ, 1, .inr (.inl (vp_updL Zl 0 1))))]) [0] (by decide) rfl
  exact W.iret (v := 0) hx hb hr (fun t ht hW => ⟨⟨_, (), rfl, rfl, by rw [ht]; exact hP9, hD9⟩, hS.F ht⟩) hS.2.2 dL_about_18
set_option maxHeartbeats 4000000 in
set_option maxRecDepth 100000 in
theorem c_L_about_1 (l : Launch) (dC : Nat → ClassId) (dI : Nat → Nat → Nat) (cI cJ : ClassId) (x g mr tb lo g3 gr wi w d o9 : Nat) (sz : Nat) (n : Int32) : Met l yL_about wsL_about ({ frames := 1, cells := 0, slots := 0, locals := 22 }) (va_Pc [.ref x, .int 1, .int n, .ref o9] (pPre dC dI cI cJ sz [(x, .inr (4, [.ref g, .ref mr, .ref tb, .ref lo, .ref g3, .ref gr, .ref wi])), (g, .inr (0, [.ref w, .ref d, .int 1, .int 0])), (o9, .inl (cJ, 1, .inr (.inl Zl)))])) (va_Qi (fun (r : Int32) (_ : Unit) => r = 0) (pPost dC dI (va_A [(x, .inr (4, [.ref g, .ref mr, .ref tb, .ref lo, .ref g3, .ref gr, .ref wi])), (g, .inr (0, [.ref w, .ref d, .int 1, .int 0])), (o9, .inl (cJ, 1, .inr (.inl Zl)))] sz) [(o9, .inl (cJ, 1, .inr (.inl (vp_updL Zl 0 0))))]) (va_A [(x, .inr (4, [.ref g, .ref mr, .ref tb, .ref lo, .ref g3, .ref gr, .ref wi])), (g, .inr (0, [.ref w, .ref d, .int 1, .int 0])), (o9, .inl (cJ, 1, .inr (.inl Zl)))] sz)) 0 0 (va_A [(x, .inr (4, [.ref g, .ref mr, .ref tb, .ref lo, .ref g3, .ref gr, .ref wi])), (g, .inr (0, [.ref w, .ref d, .int 1, .int 0])), (o9, .inl (cJ, 1, .inr (.inl Zl)))] sz) := by
  refine va_MetW (cc := cL_about) (maxL := 5) (ret := (some .int)) (hh := [(0, 10, 13, 19)]) (by decide) rfl ?_
  intro p e s m args below meth c s₁ B hml hv
  obtain ⟨rfl, hsz, hP, hK, hD0⟩ := hv
  have hx := B.exec
  have hb := B.bytes
  have hr := B.returns
  have hts := atoms_spec (ws := wsL_about) B.pre
  have hown : s.vm.findClass RL = some m.cls := findClass_of_methodNamed B.named
  have hlocks := B.notSynchronized
  subst hsz
  have hD := hD0.self (sz := s.heap.size)
  generalize hAe : va_A [(x, .inr (4, [.ref g, .ref mr, .ref tb, .ref lo, .ref g3, .ref gr, .ref wi])), (g, .inr (0, [.ref w, .ref d, .int 1, .int 0])), (o9, .inl (cJ, 1, .inr (.inl Zl)))] s.heap.size = A at hD ⊢
  have hA : ∀ q : Nat, s.heap.size ≤ q → A q := fun q h => by rw [← hAe]; exact Or.inr h
  have hS : va_S A s.heap s.heap [] := va_S.rf
  have hP : va_P (dC, dI) vwCl [(x, .inr (4, [.ref g, .ref mr, .ref tb, .ref lo, .ref g3, .ref gr, .ref wi])), (g, .inr (0, [.ref w, .ref d, .int 1, .int 0])), (o9, .inl (cJ, 1, .inr (.inl Zl)))] s.heap := hP
  have hl := lv_entry ([.ref x, .int 1, .int n, .ref o9]) (n := 5) (Nat.le_of_ble_eq_true rfl)
  rw [lg_entry_eq]
  generalize (lg_sl ([.ref x, .int 1, .int n, .ref o9]) ++ List.replicate (5 - (lg_sl ([.ref x, .int 1, .int n, .ref o9])).length) Slot.unset).toArray = ls at hl ⊢
  have hl : lv_has ls 5 [(0, .ref x), (1, .int 1), (2, .int n), (3, .ref o9)] := hl
  have htab := vx_table (x := yL_about) B (hts _ List.mem_cons_self)
  refine lv_aload_n hx hb dL_about_0 rfl (lv_at hl 3 rfl) ?_
  refine lv_iconst (v := 0) hx hb dL_about_1 (by decide) ?_
  refine lv_aload_n hx hb dL_about_2 rfl (lv_at hl 0 rfl) ?_
  refine lv_iload_n hx hb dL_about_3 rfl (lv_at hl 1 rfl) ?_
  refine lv_iload_n hx hb dL_about_4 rfl (lv_at hl 2 rfl) ?_
  have hPc := hP.sub (ws' := [(x, .inr (4, [.ref g, .ref mr, .ref tb, .ref lo, .ref g3, .ref gr, .ref wi])), (g, .inr (0, [.ref w, .ref d, .int 1, .int 0]))]) [0, 1] rfl
  have hDc := hD.sub (ws' := [(x, .inr (4, [.ref g, .ref mr, .ref tb, .ref lo, .ref g3, .ref gr, .ref wi])), (g, .inr (0, [.ref w, .ref d, .int 1, .int 0]))]) [0, 1] (by decide) rfl
  have hFc := va_free (wc := [(x, .inr (4, [.ref g, .ref mr, .ref tb, .ref lo, .ref g3, .ref gr, .ref wi])), (g, .inr (0, [.ref w, .ref d, .int 1, .int 0]))]) hD hS hA [0, 1] rfl
  refine va_calli (va_runV (As := [.int 1, .int n]) (rest := [.int 0, .ref o9]) ⟨hx, hb, hml, hown, hts⟩ (c_X4_about_1 l dC dI cI cJ x g mr tb lo g3 gr wi w d s.heap.size n) (cwV 2 hts gL_about_X4_about rfl rfl rfl (by decide +kernel) ⟨Nat.le_of_ble_eq_true rfl, Nat.le_of_ble_eq_true rfl⟩) ⟨fun a U g mk q => by obtain ⟨q0, q1, qP, qK, qD⟩ := q; exact ⟨q0, q1, qP, va_K.moved (u := U) (U := U.calling g mk a) (Vm.Alike.refl U.vm) qK, qD⟩, va_recv hK hPc (ci := 4) (q0 := 0) rfl rfl, fun U hU hW => ⟨rfl, by rw [hU], by rw [hU]; exact hPc, va_K.moved hW.alike hK, hDc.weaken (fun _ _ _ _ => trivial)⟩⟩ rfl rfl hl.1 rfl (lv_room (Nat.le_of_ble_eq_true rfl)) dL_about_5 ⟨Nat.le_of_ble_eq_true rfl, Nat.le_of_ble_eq_true rfl⟩) hS (fun q _ h => hFc q h) hFc (fun r_1 u_2 t H1 locs ht hvm hw hB hz1 hk1 hS => ?_)
  obtain ⟨hP1, hD1⟩ := hB
  rw [ht] at hP1
  obtain ⟨hP, hD⟩ := va_join (wr := [(o9, .inl (cJ, 1, .inr (.inl Zl)))]) (w1 := []) hP hD [0, 1] [2] rfl rfl (by decide) (by decide) hk1 hFc hP1 hD1
  generalize H1 = H at hP hS ⊢
  have hP : va_P (dC, dI) vwCl [(o9, .inl (cJ, 1, .inr (.inl Zl)))] H := hP
  have hD : va_D A [(o9, .inl (cJ, 1, .inr (.inl Zl)))] := hD
  obtain rfl : r_1 = 0 := hw
  refine lv_i2l (v := 0) hx hb dL_about_8 (by decide) ?_
  refine va_last hx hb hK hP hD hS 0 1 rfl rfl (vp_c (by decide)) dL_about_9 (fun H locs hP hD hS => ?_)
  have hP : va_P (dC, dI) vwCl [(o9, .inl (cJ, 1, .inr (.inl (vp_updL Zl 0 0))))] H := hP
  have hD : va_D A [(o9, .inl (cJ, 1, .inr (.inl (vp_updL Zl 0 0))))] := hD
  refine lv_goto (tgt := 17) hx hb dL_about_10 (by decide) ?_
  refine lv_iconst (v := 0) hx hb dL_about_17 (by decide) ?_
  have hP9 := hP.sub (ws' := [(o9, .inl (cJ, 1, .inr (.inl (vp_updL Zl 0 0))))]) [0] rfl
  have hD9 := hD.sub (ws' := [(o9, .inl (cJ, 1, .inr (.inl (vp_updL Zl 0 0))))]) [0] (by decide) rfl
  exact W.iret (v := 0) hx hb hr (fun t ht hW => ⟨⟨_, (), rfl, rfl, by rw [ht]; exact hP9, hD9⟩, hS.F ht⟩) hS.2.2 dL_about_18
set_option maxHeartbeats 4000000 in
set_option maxRecDepth 100000 in
theorem c_L_about_2 (l : Launch) (dC : Nat → ClassId) (dI : Nat → Nat → Nat) (cI cJ : ClassId) (x g mr tb lo g3 gr wi w d o9 : Nat) (sz : Nat) : Met l yL_about wsL_about ({ frames := 2, cells := 0, slots := 0, locals := 43 }) (va_Pc [.ref x, .int 2, .int 0, .ref o9] (pPre dC dI cI cJ sz [(x, .inr (4, [.ref g, .ref mr, .ref tb, .ref lo, .ref g3, .ref gr, .ref wi])), (g, .inr (0, [.ref w, .ref d, .int 1, .int 0])), (d, .inl (cI, 40, .inl Zi)), (o9, .inl (cJ, 1, .inr (.inl Zl)))])) (va_Qi (fun (r : Int32) (_ : Unit) => r = 0) (pPost dC dI (va_A [(x, .inr (4, [.ref g, .ref mr, .ref tb, .ref lo, .ref g3, .ref gr, .ref wi])), (g, .inr (0, [.ref w, .ref d, .int 1, .int 0])), (d, .inl (cI, 40, .inl Zi)), (o9, .inl (cJ, 1, .inr (.inl Zl)))] sz) [(o9, .inl (cJ, 1, .inr (.inl (vp_updL Zl 0 0))))]) (va_A [(x, .inr (4, [.ref g, .ref mr, .ref tb, .ref lo, .ref g3, .ref gr, .ref wi])), (g, .inr (0, [.ref w, .ref d, .int 1, .int 0])), (d, .inl (cI, 40, .inl Zi)), (o9, .inl (cJ, 1, .inr (.inl Zl)))] sz)) 0 0 (va_A [(x, .inr (4, [.ref g, .ref mr, .ref tb, .ref lo, .ref g3, .ref gr, .ref wi])), (g, .inr (0, [.ref w, .ref d, .int 1, .int 0])), (d, .inl (cI, 40, .inl Zi)), (o9, .inl (cJ, 1, .inr (.inl Zl)))] sz) := by
  refine va_MetW (cc := cL_about) (maxL := 5) (ret := (some .int)) (hh := [(0, 10, 13, 19)]) (by decide) rfl ?_
  intro p e s m args below meth c s₁ B hml hv
  obtain ⟨rfl, hsz, hP, hK, hD0⟩ := hv
  have hx := B.exec
  have hb := B.bytes
  have hr := B.returns
  have hts := atoms_spec (ws := wsL_about) B.pre
  have hown : s.vm.findClass RL = some m.cls := findClass_of_methodNamed B.named
  have hlocks := B.notSynchronized
  subst hsz
  have hD := hD0.self (sz := s.heap.size)
  generalize hAe : va_A [(x, .inr (4, [.ref g, .ref mr, .ref tb, .ref lo, .ref g3, .ref gr, .ref wi])), (g, .inr (0, [.ref w, .ref d, .int 1, .int 0])), (d, .inl (cI, 40, .inl Zi)), (o9, .inl (cJ, 1, .inr (.inl Zl)))] s.heap.size = A at hD ⊢
  have hA : ∀ q : Nat, s.heap.size ≤ q → A q := fun q h => by rw [← hAe]; exact Or.inr h
  have hS : va_S A s.heap s.heap [] := va_S.rf
  have hP : va_P (dC, dI) vwCl [(x, .inr (4, [.ref g, .ref mr, .ref tb, .ref lo, .ref g3, .ref gr, .ref wi])), (g, .inr (0, [.ref w, .ref d, .int 1, .int 0])), (d, .inl (cI, 40, .inl Zi)), (o9, .inl (cJ, 1, .inr (.inl Zl)))] s.heap := hP
  have hl := lv_entry ([.ref x, .int 2, .int 0, .ref o9]) (n := 5) (Nat.le_of_ble_eq_true rfl)
  rw [lg_entry_eq]
  generalize (lg_sl ([.ref x, .int 2, .int 0, .ref o9]) ++ List.replicate (5 - (lg_sl ([.ref x, .int 2, .int 0, .ref o9])).length) Slot.unset).toArray = ls at hl ⊢
  have hl : lv_has ls 5 [(0, .ref x), (1, .int 2), (2, .int 0), (3, .ref o9)] := hl
  have htab := vx_table (x := yL_about) B (hts _ List.mem_cons_self)
  refine lv_aload_n hx hb dL_about_0 rfl (lv_at hl 3 rfl) ?_
  refine lv_iconst (v := 0) hx hb dL_about_1 (by decide) ?_
  refine lv_aload_n hx hb dL_about_2 rfl (lv_at hl 0 rfl) ?_
  refine lv_iload_n hx hb dL_about_3 rfl (lv_at hl 1 rfl) ?_
  refine lv_iload_n hx hb dL_about_4 rfl (lv_at hl 2 rfl) ?_
  have hPc := hP.sub (ws' := [(x, .inr (4, [.ref g, .ref mr, .ref tb, .ref lo, .ref g3, .ref gr, .ref wi])), (g, .inr (0, [.ref w, .ref d, .int 1, .int 0])), (d, .inl (cI, 40, .inl Zi))]) [0, 1, 2] rfl
  have hDc := hD.sub (ws' := [(x, .inr (4, [.ref g, .ref mr, .ref tb, .ref lo, .ref g3, .ref gr, .ref wi])), (g, .inr (0, [.ref w, .ref d, .int 1, .int 0])), (d, .inl (cI, 40, .inl Zi))]) [0, 1, 2] (by decide) rfl
  have hFc := va_free (wc := [(x, .inr (4, [.ref g, .ref mr, .ref tb, .ref lo, .ref g3, .ref gr, .ref wi])), (g, .inr (0, [.ref w, .ref d, .int 1, .int 0])), (d, .inl (cI, 40, .inl Zi))]) hD hS hA [0, 1, 2] rfl
  refine va_calli (va_runV (As := [.int 2, .int 0]) (rest := [.int 0, .ref o9]) ⟨hx, hb, hml, hown, hts⟩ (c_X4_about_2 l dC dI cI cJ x g mr tb lo g3 gr wi w d s.heap.size) (cwV 2 hts gL_about_X4_about rfl rfl rfl (by decide +kernel) ⟨Nat.le_of_ble_eq_true rfl, Nat.le_of_ble_eq_true rfl⟩) ⟨fun a U g mk q => by obtain ⟨q0, q1, qP, qK, qD⟩ := q; exact ⟨q0, q1, qP, va_K.moved (u := U) (U := U.calling g mk a) (Vm.Alike.refl U.vm) qK, qD⟩, va_recv hK hPc (ci := 4) (q0 := 0) rfl rfl, fun U hU hW => ⟨rfl, by rw [hU], by rw [hU]; exact hPc, va_K.moved hW.alike hK, hDc.weaken (fun _ _ _ _ => trivial)⟩⟩ rfl rfl hl.1 rfl (lv_room (Nat.le_of_ble_eq_true rfl)) dL_about_5 ⟨Nat.le_of_ble_eq_true rfl, Nat.le_of_ble_eq_true rfl⟩) hS (fun q _ h => hFc q h) hFc (fun r_1 u_2 t H1 locs ht hvm hw hB hz1 hk1 hS => ?_)
  obtain ⟨hP1, hD1⟩ := hB
  rw [ht] at hP1
  obtain ⟨hP, hD⟩ := va_join (wr := [(o9, .inl (cJ, 1, .inr (.inl Zl)))]) (w1 := []) hP hD [0, 1, 2] [3] rfl rfl (by decide) (by decide) hk1 hFc hP1 hD1
  generalize H1 = H at hP hS ⊢
  have hP : va_P (dC, dI) vwCl [(o9, .inl (cJ, 1, .inr (.inl Zl)))] H := hP
  have hD : va_D A [(o9, .inl (cJ, 1, .inr (.inl Zl)))] := hD
  obtain rfl : r_1 = 0 := hw
  refine lv_i2l (v := 0) hx hb dL_about_8 (by decide) ?_
  refine va_last hx hb hK hP hD hS 0 1 rfl rfl (vp_c (by decide)) dL_about_9 (fun H locs hP hD hS => ?_)
  have hP : va_P (dC, dI) vwCl [(o9, .inl (cJ, 1, .inr (.inl (vp_updL Zl 0 0))))] H := hP
  have hD : va_D A [(o9, .inl (cJ, 1, .inr (.inl (vp_updL Zl 0 0))))] := hD
  refine lv_goto (tgt := 17) hx hb dL_about_10 (by decide) ?_
  refine lv_iconst (v := 0) hx hb dL_about_17 (by decide) ?_
  have hP9 := hP.sub (ws' := [(o9, .inl (cJ, 1, .inr (.inl (vp_updL Zl 0 0))))]) [0] rfl
  have hD9 := hD.sub (ws' := [(o9, .inl (cJ, 1, .inr (.inl (vp_updL Zl 0 0))))]) [0] (by decide) rfl
  exact W.iret (v := 0) hx hb hr (fun t ht hW => ⟨⟨_, (), rfl, rfl, by rw [ht]; exact hP9, hD9⟩, hS.F ht⟩) hS.2.2 dL_about_18
set_option maxHeartbeats 4000000 in
set_option maxRecDepth 100000 in
theorem c_L_about_3 (l : Launch) (dC : Nat → ClassId) (dI : Nat → Nat → Nat) (cI cJ : ClassId) (x g mr tb lo g3 gr wi w d o9 : Nat) (sz : Nat) : Met l yL_about wsL_about ({ frames := 2, cells := 0, slots := 0, locals := 44 }) (va_Pc [.ref x, .int 3, .int 0, .ref o9] (pPre dC dI cI cJ sz [(x, .inr (4, [.ref g, .ref mr, .ref tb, .ref lo, .ref g3, .ref gr, .ref wi])), (g, .inr (0, [.ref w, .ref d, .int 1, .int 0])), (w, .inl (cI, 1600, .inl Zi)), (o9, .inl (cJ, 1, .inr (.inl Zl)))])) (va_Qi (fun (r : Int32) (_ : Unit) => r = 0) (pPost dC dI (va_A [(x, .inr (4, [.ref g, .ref mr, .ref tb, .ref lo, .ref g3, .ref gr, .ref wi])), (g, .inr (0, [.ref w, .ref d, .int 1, .int 0])), (w, .inl (cI, 1600, .inl Zi)), (o9, .inl (cJ, 1, .inr (.inl Zl)))] sz) [(o9, .inl (cJ, 1, .inr (.inl (vp_updL Zl 0 0))))]) (va_A [(x, .inr (4, [.ref g, .ref mr, .ref tb, .ref lo, .ref g3, .ref gr, .ref wi])), (g, .inr (0, [.ref w, .ref d, .int 1, .int 0])), (w, .inl (cI, 1600, .inl Zi)), (o9, .inl (cJ, 1, .inr (.inl Zl)))] sz)) 0 0 (va_A [(x, .inr (4, [.ref g, .ref mr, .ref tb, .ref lo, .ref g3, .ref gr, .ref wi])), (g, .inr (0, [.ref w, .ref d, .int 1, .int 0])), (w, .inl (cI, 1600, .inl Zi)), (o9, .inl (cJ, 1, .inr (.inl Zl)))] sz) := by
  refine va_MetW (cc := cL_about) (maxL := 5) (ret := (some .int)) (hh := [(0, 10, 13, 19)]) (by decide) rfl ?_
  intro p e s m args below meth c s₁ B hml hv
  obtain ⟨rfl, hsz, hP, hK, hD0⟩ := hv
  have hx := B.exec
  have hb := B.bytes
  have hr := B.returns
  have hts := atoms_spec (ws := wsL_about) B.pre
  have hown : s.vm.findClass RL = some m.cls := findClass_of_methodNamed B.named
  have hlocks := B.notSynchronized
  subst hsz
  have hD := hD0.self (sz := s.heap.size)
  generalize hAe : va_A [(x, .inr (4, [.ref g, .ref mr, .ref tb, .ref lo, .ref g3, .ref gr, .ref wi])), (g, .inr (0, [.ref w, .ref d, .int 1, .int 0])), (w, .inl (cI, 1600, .inl Zi)), (o9, .inl (cJ, 1, .inr (.inl Zl)))] s.heap.size = A at hD ⊢
  have hA : ∀ q : Nat, s.heap.size ≤ q → A q := fun q h => by rw [← hAe]; exact Or.inr h
  have hS : va_S A s.heap s.heap [] := va_S.rf
  have hP : va_P (dC, dI) vwCl [(x, .inr (4, [.ref g, .ref mr, .ref tb, .ref lo, .ref g3, .ref gr, .ref wi])), (g, .inr (0, [.ref w, .ref d, .int 1, .int 0])), (w, .inl (cI, 1600, .inl Zi)), (o9, .inl (cJ, 1, .inr (.inl Zl)))] s.heap := hP
  have hl := lv_entry ([.ref x, .int 3, .int 0, .ref o9]) (n := 5) (Nat.le_of_ble_eq_true rfl)
  rw [lg_entry_eq]
  generalize (lg_sl ([.ref x, .int 3, .int 0, .ref o9]) ++ List.replicate (5 - (lg_sl ([.ref x, .int 3, .int 0, .ref o9])).length) Slot.unset).toArray = ls at hl ⊢
  have hl : lv_has ls 5 [(0, .ref x), (1, .int 3), (2, .int 0), (3, .ref o9)] := hl
  have htab := vx_table (x := yL_about) B (hts _ List.mem_cons_self)
  refine lv_aload_n hx hb dL_about_0 rfl (lv_at hl 3 rfl) ?_
  refine lv_iconst (v := 0) hx hb dL_about_1 (by decide) ?_
  refine lv_aload_n hx hb dL_about_2 rfl (lv_at hl 0 rfl) ?_
  refine lv_iload_n hx hb dL_about_3 rfl (lv_at hl 1 rfl) ?_
  refine lv_iload_n hx hb dL_about_4 rfl (lv_at hl 2 rfl) ?_
  have hPc := hP.sub (ws' := [(x, .inr (4, [.ref g, .ref mr, .ref tb, .ref lo, .ref g3, .ref gr, .ref wi])), (g, .inr (0, [.ref w, .ref d, .int 1, .int 0])), (w, .inl (cI, 1600, .inl Zi))]) [0, 1, 2] rfl
  have hDc := hD.sub (ws' := [(x, .inr (4, [.ref g, .ref mr, .ref tb, .ref lo, .ref g3, .ref gr, .ref wi])), (g, .inr (0, [.ref w, .ref d, .int 1, .int 0])), (w, .inl (cI, 1600, .inl Zi))]) [0, 1, 2] (by decide) rfl
  have hFc := va_free (wc := [(x, .inr (4, [.ref g, .ref mr, .ref tb, .ref lo, .ref g3, .ref gr, .ref wi])), (g, .inr (0, [.ref w, .ref d, .int 1, .int 0])), (w, .inl (cI, 1600, .inl Zi))]) hD hS hA [0, 1, 2] rfl
  refine va_calli (va_runV (As := [.int 3, .int 0]) (rest := [.int 0, .ref o9]) ⟨hx, hb, hml, hown, hts⟩ (c_X4_about_3 l dC dI cI cJ x g mr tb lo g3 gr wi w d s.heap.size) (cwV 2 hts gL_about_X4_about rfl rfl rfl (by decide +kernel) ⟨Nat.le_of_ble_eq_true rfl, Nat.le_of_ble_eq_true rfl⟩) ⟨fun a U g mk q => by obtain ⟨q0, q1, qP, qK, qD⟩ := q; exact ⟨q0, q1, qP, va_K.moved (u := U) (U := U.calling g mk a) (Vm.Alike.refl U.vm) qK, qD⟩, va_recv hK hPc (ci := 4) (q0 := 0) rfl rfl, fun U hU hW => ⟨rfl, by rw [hU], by rw [hU]; exact hPc, va_K.moved hW.alike hK, hDc.weaken (fun _ _ _ _ => trivial)⟩⟩ rfl rfl hl.1 rfl (lv_room (Nat.le_of_ble_eq_true rfl)) dL_about_5 ⟨Nat.le_of_ble_eq_true rfl, Nat.le_of_ble_eq_true rfl⟩) hS (fun q _ h => hFc q h) hFc (fun r_1 u_2 t H1 locs ht hvm hw hB hz1 hk1 hS => ?_)
  obtain ⟨hP1, hD1⟩ := hB
  rw [ht] at hP1
  obtain ⟨hP, hD⟩ := va_join (wr := [(o9, .inl (cJ, 1, .inr (.inl Zl)))]) (w1 := []) hP hD [0, 1, 2] [3] rfl rfl (by decide) (by decide) hk1 hFc hP1 hD1
  generalize H1 = H at hP hS ⊢
  have hP : va_P (dC, dI) vwCl [(o9, .inl (cJ, 1, .inr (.inl Zl)))] H := hP
  have hD : va_D A [(o9, .inl (cJ, 1, .inr (.inl Zl)))] := hD
  obtain rfl : r_1 = 0 := hw
  refine lv_i2l (v := 0) hx hb dL_about_8 (by decide) ?_
  refine va_last hx hb hK hP hD hS 0 1 rfl rfl (vp_c (by decide)) dL_about_9 (fun H locs hP hD hS => ?_)
  have hP : va_P (dC, dI) vwCl [(o9, .inl (cJ, 1, .inr (.inl (vp_updL Zl 0 0))))] H := hP
  have hD : va_D A [(o9, .inl (cJ, 1, .inr (.inl (vp_updL Zl 0 0))))] := hD
  refine lv_goto (tgt := 17) hx hb dL_about_10 (by decide) ?_
  refine lv_iconst (v := 0) hx hb dL_about_17 (by decide) ?_
  have hP9 := hP.sub (ws' := [(o9, .inl (cJ, 1, .inr (.inl (vp_updL Zl 0 0))))]) [0] rfl
  have hD9 := hD.sub (ws' := [(o9, .inl (cJ, 1, .inr (.inl (vp_updL Zl 0 0))))]) [0] (by decide) rfl
  exact W.iret (v := 0) hx hb hr (fun t ht hW => ⟨⟨_, (), rfl, rfl, by rw [ht]; exact hP9, hD9⟩, hS.F ht⟩) hS.2.2 dL_about_18
set_option maxHeartbeats 4000000 in
set_option maxRecDepth 100000 in
theorem c_L_about_4 (l : Launch) (dC : Nat → ClassId) (dI : Nat → Nat → Nat) (cI cJ : ClassId) (x g mr tb lo g3 gr wi w d mh mc md ml mn o9 : Nat) (sz : Nat) : Met l yL_about wsL_about ({ frames := 2, cells := 0, slots := 0, locals := 43 }) (va_Pc [.ref x, .int 4, .int 0, .ref o9] (pPre dC dI cI cJ sz [(x, .inr (4, [.ref g, .ref mr, .ref tb, .ref lo, .ref g3, .ref gr, .ref wi])), (g, .inr (0, [.ref w, .ref d, .int 1, .int 0])), (mr, .inr (1, [.ref mh, .ref mc, .ref md, .ref ml, .ref mn])), (mh, .inl (cI, 40, .inl Zi)), (o9, .inl (cJ, 1, .inr (.inl Zl)))])) (va_Qi (fun (r : Int32) (_ : Unit) => r = 0) (pPost dC dI (va_A [(x, .inr (4, [.ref g, .ref mr, .ref tb, .ref lo, .ref g3, .ref gr, .ref wi])), (g, .inr (0, [.ref w, .ref d, .int 1, .int 0])), (mr, .inr (1, [.ref mh, .ref mc, .ref md, .ref ml, .ref mn])), (mh, .inl (cI, 40, .inl Zi)), (o9, .inl (cJ, 1, .inr (.inl Zl)))] sz) [(o9, .inl (cJ, 1, .inr (.inl (vp_updL Zl 0 0))))]) (va_A [(x, .inr (4, [.ref g, .ref mr, .ref tb, .ref lo, .ref g3, .ref gr, .ref wi])), (g, .inr (0, [.ref w, .ref d, .int 1, .int 0])), (mr, .inr (1, [.ref mh, .ref mc, .ref md, .ref ml, .ref mn])), (mh, .inl (cI, 40, .inl Zi)), (o9, .inl (cJ, 1, .inr (.inl Zl)))] sz)) 0 0 (va_A [(x, .inr (4, [.ref g, .ref mr, .ref tb, .ref lo, .ref g3, .ref gr, .ref wi])), (g, .inr (0, [.ref w, .ref d, .int 1, .int 0])), (mr, .inr (1, [.ref mh, .ref mc, .ref md, .ref ml, .ref mn])), (mh, .inl (cI, 40, .inl Zi)), (o9, .inl (cJ, 1, .inr (.inl Zl)))] sz) := by
  refine va_MetW (cc := cL_about) (maxL := 5) (ret := (some .int)) (hh := [(0, 10, 13, 19)]) (by decide) rfl ?_
  intro p e s m args below meth c s₁ B hml hv
  obtain ⟨rfl, hsz, hP, hK, hD0⟩ := hv
  have hx := B.exec
  have hb := B.bytes
  have hr := B.returns
  have hts := atoms_spec (ws := wsL_about) B.pre
  have hown : s.vm.findClass RL = some m.cls := findClass_of_methodNamed B.named
  have hlocks := B.notSynchronized
  subst hsz
  have hD := hD0.self (sz := s.heap.size)
  generalize hAe : va_A [(x, .inr (4, [.ref g, .ref mr, .ref tb, .ref lo, .ref g3, .ref gr, .ref wi])), (g, .inr (0, [.ref w, .ref d, .int 1, .int 0])), (mr, .inr (1, [.ref mh, .ref mc, .ref md, .ref ml, .ref mn])), (mh, .inl (cI, 40, .inl Zi)), (o9, .inl (cJ, 1, .inr (.inl Zl)))] s.heap.size = A at hD ⊢
  have hA : ∀ q : Nat, s.heap.size ≤ q → A q := fun q h => by rw [← hAe]; exact Or.inr h
  have hS : va_S A s.heap s.heap [] := va_S.rf
  have hP : va_P (dC, dI) vwCl [(x, .inr (4, [.ref g, .ref mr, .ref tb, .ref lo, .ref g3, .ref gr, .ref wi])), (g, .inr (0, [.ref w, .ref d, .int 1, .int 0])), (mr, .inr (1, [.ref mh, .ref mc, .ref md, .ref ml, .ref mn])), (mh, .inl (cI, 40, .inl Zi)), (o9, .inl (cJ, 1, .inr (.inl Zl)))] s.heap := hP
  have hl := lv_entry ([.ref x, .int 4, .int 0, .ref o9]) (n := 5) (Nat.le_of_ble_eq_true rfl)
  rw [lg_entry_eq]
  generalize (lg_sl ([.ref x, .int 4, .int 0, .ref o9]) ++ List.replicate (5 - (lg_sl ([.ref x, .int 4, .int 0, .ref o9])).length) Slot.unset).toArray = ls at hl ⊢
  have hl : lv_has ls 5 [(0, .ref x), (1, .int 4), (2, .int 0), (3, .ref o9)] := hl
  have htab := vx_table (x := yL_about) B (hts _ List.mem_cons_self)
  refine lv_aload_n hx hb dL_about_0 rfl (lv_at hl 3 rfl) ?_
  refine lv_iconst (v := 0) hx hb dL_about_1 (by decide) ?_
  refine lv_aload_n hx hb dL_about_2 rfl (lv_at hl 0 rfl) ?_
  refine lv_iload_n hx hb dL_about_3 rfl (lv_at hl 1 rfl) ?_
  refine lv_iload_n hx hb dL_about_4 rfl (lv_at hl 2 rfl) ?_
  have hPc := hP.sub (ws' := [(x, .inr (4, [.ref g, .ref mr, .ref tb, .ref lo, .ref g3, .ref gr, .ref wi])), (g, .inr (0, [.ref w, .ref d, .int 1, .int 0])), (mr, .inr (1, [.ref mh, .ref mc, .ref md, .ref ml, .ref mn])), (mh, .inl (cI, 40, .inl Zi))]) [0, 1, 2, 3] rfl
  have hDc := hD.sub (ws' := [(x, .inr (4, [.ref g, .ref mr, .ref tb, .ref lo, .ref g3, .ref gr, .ref wi])), (g, .inr (0, [.ref w, .ref d, .int 1, .int 0])), (mr, .inr (1, [.ref mh, .ref mc, .ref md, .ref ml, .ref mn])), (mh, .inl (cI, 40, .inl Zi))]) [0, 1, 2, 3] (by decide) rfl
  have hFc := va_free (wc := [(x, .inr (4, [.ref g, .ref mr, .ref tb, .ref lo, .ref g3, .ref gr, .ref wi])), (g, .inr (0, [.ref w, .ref d, .int 1, .int 0])), (mr, .inr (1, [.ref mh, .ref mc, .ref md, .ref ml, .ref mn])), (mh, .inl (cI, 40, .inl Zi))]) hD hS hA [0, 1, 2, 3] rfl
  refine va_calli (va_runV (As := [.int 4, .int 0]) (rest := [.int 0, .ref o9]) ⟨hx, hb, hml, hown, hts⟩ (c_X4_about_4 l dC dI cI cJ x g mr tb lo g3 gr wi w d mh mc md ml mn s.heap.size) (cwV 2 hts gL_about_X4_about rfl rfl rfl (by decide +kernel) ⟨Nat.le_of_ble_eq_true rfl, Nat.le_of_ble_eq_true rfl⟩) ⟨fun a U g mk q => by obtain ⟨q0, q1, qP, qK, qD⟩ := q; exact ⟨q0, q1, qP, va_K.moved (u := U) (U := U.calling g mk a) (Vm.Alike.refl U.vm) qK, qD⟩, va_recv hK hPc (ci := 4) (q0 := 0) rfl rfl, fun U hU hW => ⟨rfl, by rw [hU], by rw [hU]; exact hPc, va_K.moved hW.alike hK, hDc.weaken (fun _ _ _ _ => trivial)⟩⟩ rfl rfl hl.1 rfl (lv_room (Nat.le_of_ble_eq_true rfl)) dL_about_5 ⟨Nat.le_of_ble_eq_true rfl, Nat.le_of_ble_eq_true rfl⟩) hS (fun q _ h => hFc q h) hFc (fun r_1 u_2 t H1 locs ht hvm hw hB hz1 hk1 hS => ?_)
  obtain ⟨hP1, hD1⟩ := hB
  rw [ht] at hP1
  obtain ⟨hP, hD⟩ := va_join (wr := [(o9, .inl (cJ, 1, .inr (.inl Zl)))]) (w1 := []) hP hD [0, 1, 2, 3] [4] rfl rfl (by decide) (by decide) hk1 hFc hP1 hD1
  generalize H1 = H at hP hS ⊢
  have hP : va_P (dC, dI) vwCl [(o9, .inl (cJ, 1, .inr (.inl Zl)))] H := hP
  have hD : va_D A [(o9, .inl (cJ, 1, .inr (.inl Zl)))] := hD
  obtain rfl : r_1 = 0 := hw
  refine lv_i2l (v := 0) hx hb dL_about_8 (by decide) ?_
  refine va_last hx hb hK hP hD hS 0 1 rfl rfl (vp_c (by decide)) dL_about_9 (fun H locs hP hD hS => ?_)
  have hP : va_P (dC, dI) vwCl [(o9, .inl (cJ, 1, .inr (.inl (vp_updL Zl 0 0))))] H := hP
  have hD : va_D A [(o9, .inl (cJ, 1, .inr (.inl (vp_updL Zl 0 0))))] := hD
  refine lv_goto (tgt := 17) hx hb dL_about_10 (by decide) ?_
  refine lv_iconst (v := 0) hx hb dL_about_17 (by decide) ?_
  have hP9 := hP.sub (ws' := [(o9, .inl (cJ, 1, .inr (.inl (vp_updL Zl 0 0))))]) [0] rfl
  have hD9 := hD.sub (ws' := [(o9, .inl (cJ, 1, .inr (.inl (vp_updL Zl 0 0))))]) [0] (by decide) rfl
  exact W.iret (v := 0) hx hb hr (fun t ht hW => ⟨⟨_, (), rfl, rfl, by rw [ht]; exact hP9, hD9⟩, hS.F ht⟩) hS.2.2 dL_about_18
set_option maxHeartbeats 4000000 in
set_option maxRecDepth 100000 in
theorem c_L_about_bad (l : Launch) (hno : l.stackTraces = false) (dC : Nat → ClassId) (dI : Nat → Nat → Nat) (cI cJ : ClassId) (x g mr tb lo g3 gr wi o9 : Nat) (sz : Nat) (n : Int32) (n1 : Int32) (hn : n < 0 ∨ 4 < n) : Met l yL_about wsL_about ({ frames := 7, cells := 1, slots := 6, locals := 104 }) (va_Pc [.ref x, .int n, .int n1, .ref o9] (pPreX dC dI cI cJ sz [(x, .inr (4, [.ref g, .ref mr, .ref tb, .ref lo, .ref g3, .ref gr, .ref wi])), (o9, .inl (cJ, 1, .inr (.inl Zl)))])) (va_Qi (fun (r : Int32) (_ : Unit) => r = 1) (pPost dC dI (va_A [(x, .inr (4, [.ref g, .ref mr, .ref tb, .ref lo, .ref g3, .ref gr, .ref wi])), (o9, .inl (cJ, 1, .inr (.inl Zl)))] sz) []) (va_A [(x, .inr (4, [.ref g, .ref mr, .ref tb, .ref lo, .ref g3, .ref gr, .ref wi])), (o9, .inl (cJ, 1, .inr (.inl Zl)))] sz)) 1 6 (va_A [(x, .inr (4, [.ref g, .ref mr, .ref tb, .ref lo, .ref g3, .ref gr, .ref wi])), (o9, .inl (cJ, 1, .inr (.inl Zl)))] sz) := by
  refine va_MetW (cc := cL_about) (maxL := 5) (ret := (some .int)) (hh := [(0, 10, 13, 19)]) (by decide) rfl ?_
  intro p e s m args below meth c s₁ B hml hv
  obtain ⟨rfl, hsz, hP, hK, hD0, hX⟩ := hv
  have hx := B.exec
  have hb := B.bytes
  have hr := B.returns
  have hts := atoms_spec (ws := wsL_about) B.pre
  have hown : s.vm.findClass RL = some m.cls := findClass_of_methodNamed B.named
  have hlocks := B.notSynchronized
  subst hsz
  have hD := hD0.self (sz := s.heap.size)
  generalize hAe : va_A [(x, .inr (4, [.ref g, .ref mr, .ref tb, .ref lo, .ref g3, .ref gr, .ref wi])), (o9, .inl (cJ, 1, .inr (.inl Zl)))] s.heap.size = A at hD hX ⊢
  have hA : ∀ q : Nat, s.heap.size ≤ q → A q := fun q h => by rw [← hAe]; exact Or.inr h
  have hS : va_S A s.heap s.heap [] := va_S.rf
  have hP : va_P (dC, dI) vwCl [(x, .inr (4, [.ref g, .ref mr, .ref tb, .ref lo, .ref g3, .ref gr, .ref wi])), (o9, .inl (cJ, 1, .inr (.inl Zl)))] s.heap := hP
  have hl := lv_entry ([.ref x, .int n, .int n1, .ref o9]) (n := 5) (Nat.le_of_ble_eq_true rfl)
  rw [lg_entry_eq]
  generalize (lg_sl ([.ref x, .int n, .int n1, .ref o9]) ++ List.replicate (5 - (lg_sl ([.ref x, .int n, .int n1, .ref o9])).length) Slot.unset).toArray = ls at hl ⊢
  have hl : lv_has ls 5 [(0, .ref x), (1, .int n), (2, .int n1), (3, .ref o9)] := hl
  have htab := vx_table (x := yL_about) B (hts _ List.mem_cons_self)
  have k_0 := hts (.classLink RL 19 "java/lang/IndexOutOfBoundsException") (by decide +kernel)
  refine lv_aload_n hx hb dL_about_0 rfl (lv_at hl 3 rfl) ?_
  refine lv_iconst (v := 0) hx hb dL_about_1 (by decide) ?_
  refine lv_aload_n hx hb dL_about_2 rfl (lv_at hl 0 rfl) ?_
  refine lv_iload_n hx hb dL_about_3 rfl (lv_at hl 1 rfl) ?_
  refine lv_iload_n hx hb dL_about_4 rfl (lv_at hl 2 rfl) ?_
  have hPc := hP.sub (ws' := [(x, .inr (4, [.ref g, .ref mr, .ref tb, .ref lo, .ref g3, .ref gr, .ref wi]))]) [0] rfl
  have hDc := hD.sub (ws' := [(x, .inr (4, [.ref g, .ref mr, .ref tb, .ref lo, .ref g3, .ref gr, .ref wi]))]) [0] (by decide) rfl
  have hFc := va_free (wc := [(x, .inr (4, [.ref g, .ref mr, .ref tb, .ref lo, .ref g3, .ref gr, .ref wi]))]) hD hS hA [0] rfl
  refine vx_calli (vx_runV (As := [.int n, .int n1]) (rest := [.int 0, .ref o9]) ⟨hx, hb, hml, hown, hts⟩ (c_X4_about_bad l hno dC dI cI cJ x g mr tb lo g3 gr wi s.heap.size n n1 hn) (cwV 2 hts gL_about_X4_about rfl rfl rfl (by decide +kernel) ⟨Nat.le_of_ble_eq_true rfl, Nat.le_of_ble_eq_true rfl⟩) ⟨fun a U g mk q => by obtain ⟨q0, q1, qP, qK, qD, qX⟩ := q; exact ⟨q0, q1, qP, va_K.moved (u := U) (U := U.calling g mk a) (Vm.Alike.refl U.vm) qK, qD, qX.moved (State.WarmedH.refl U)⟩, va_recv hK hPc (ci := 4) (q0 := 0) rfl rfl, fun U hU hW => ⟨rfl, by rw [hU], by rw [hU]; exact hPc, va_K.moved hW.alike hK, hDc.weaken (fun _ _ _ _ => trivial), by rw [hU]; exact ((hX.kept hS.2.1).narrow hFc).moved hW⟩⟩ rfl rfl hl.1 rfl (lv_room (Nat.le_of_ble_eq_true rfl)) dL_about_5 ⟨Nat.le_of_ble_eq_true rfl, Nat.le_of_ble_eq_true rfl⟩) hS (fun q _ h => hFc q h) hFc (fun q _ h => hFc q h) (fun E9 ce9 q9 u9 t H1 locs ht hvm hw hB hz1 hk1 hS hce hcv hcl => ?_) (fun r_1 u_2 t H1 locs ht hvm hw hB hz1 hk1 hS => ?_)
  · skip
    obtain rfl := hB
    refine vx_catch (own := RL) (name := "java/lang/IndexOutOfBoundsException") hown [] ⟨0, 10, 13, 19⟩ [] (htab.trans rfl) (fun z hz => absurd hz List.not_mem_nil) (by decide) (by decide) k_0 (vz_bad _ (List.mem_of_getElem? (i := 4) rfl) (hX.2.2.1 _ (List.mem_of_getElem? (i := 4) rfl))) hce hcv hcl ?_
    have hP : va_P (dC, dI) vwCl [] H1 := va_P0
    have hD : va_D A [] := va_D0
    generalize H1 = H at hP hS ⊢
    refine lv_astore (lv' := [(4, .ref q9), (0, .ref x), (1, .int n), (2, .int n1), (3, .ref o9)]) hx hb dL_about_13 hl (by decide) rfl (fun ls hl => ?_)
    refine lv_iconst (v := 1) hx hb dL_about_15 (by decide) ?_
    refine W.widen (k := 1) (n := 6) (by decide) (by decide) ?_
    have hP9 := hP.sub (ws' := []) [] rfl
    have hD9 := hD.sub (ws' := []) [] (by decide) rfl
    exact W.iret (v := 1) hx hb hr (fun t ht hW => ⟨⟨_, (), rfl, rfl, by rw [ht]; exact hP9, hD9⟩, hS.F ht⟩) hS.2.2 dL_about_16
  · exact hw.elim
set_option maxHeartbeats 4000000 in
set_option maxRecDepth 100000 in
theorem c_L_about_b2 (l : Launch) (hno : l.stackTraces = false) (dC : Nat → ClassId) (dI : Nat → Nat → Nat) (cI cJ : ClassId) (x g mr tb lo g3 gr wi w d o9 : Nat) (sz : Nat) (n : Int32) (hn : n < 0 ∨ 1 ≤ n) : Met l yL_about wsL_about ({ frames := 8, cells := 1, slots := 6, locals := 125 }) (va_Pc [.ref x, .int 2, .int n, .ref o9] (pPreX dC dI cI cJ sz [(x, .inr (4, [.ref g, .ref mr, .ref tb, .ref lo, .ref g3, .ref gr, .ref wi])), (g, .inr (0, [.ref w, .ref d, .int 1, .int 0])), (o9, .inl (cJ, 1, .inr (.inl Zl)))])) (va_Qi (fun (r : Int32) (_ : Unit) => r = 1) (pPost dC dI (va_A [(x, .inr (4, [.ref g, .ref mr, .ref tb, .ref lo, .ref g3, .ref gr, .ref wi])), (g, .inr (0, [.ref w, .ref d, .int 1, .int 0])), (o9, .inl (cJ, 1, .inr (.inl Zl)))] sz) []) (va_A [(x, .inr (4, [.ref g, .ref mr, .ref tb, .ref lo, .ref g3, .ref gr, .ref wi])), (g, .inr (0, [.ref w, .ref d, .int 1, .int 0])), (o9, .inl (cJ, 1, .inr (.inl Zl)))] sz)) 1 6 (va_A [(x, .inr (4, [.ref g, .ref mr, .ref tb, .ref lo, .ref g3, .ref gr, .ref wi])), (g, .inr (0, [.ref w, .ref d, .int 1, .int 0])), (o9, .inl (cJ, 1, .inr (.inl Zl)))] sz) := by
  refine va_MetW (cc := cL_about) (maxL := 5) (ret := (some .int)) (hh := [(0, 10, 13, 19)]) (by decide) rfl ?_
  intro p e s m args below meth c s₁ B hml hv
  obtain ⟨rfl, hsz, hP, hK, hD0, hX⟩ := hv
  have hx := B.exec
  have hb := B.bytes
  have hr := B.returns
  have hts := atoms_spec (ws := wsL_about) B.pre
  have hown : s.vm.findClass RL = some m.cls := findClass_of_methodNamed B.named
  have hlocks := B.notSynchronized
  subst hsz
  have hD := hD0.self (sz := s.heap.size)
  generalize hAe : va_A [(x, .inr (4, [.ref g, .ref mr, .ref tb, .ref lo, .ref g3, .ref gr, .ref wi])), (g, .inr (0, [.ref w, .ref d, .int 1, .int 0])), (o9, .inl (cJ, 1, .inr (.inl Zl)))] s.heap.size = A at hD hX ⊢
  have hA : ∀ q : Nat, s.heap.size ≤ q → A q := fun q h => by rw [← hAe]; exact Or.inr h
  have hS : va_S A s.heap s.heap [] := va_S.rf
  have hP : va_P (dC, dI) vwCl [(x, .inr (4, [.ref g, .ref mr, .ref tb, .ref lo, .ref g3, .ref gr, .ref wi])), (g, .inr (0, [.ref w, .ref d, .int 1, .int 0])), (o9, .inl (cJ, 1, .inr (.inl Zl)))] s.heap := hP
  have hl := lv_entry ([.ref x, .int 2, .int n, .ref o9]) (n := 5) (Nat.le_of_ble_eq_true rfl)
  rw [lg_entry_eq]
  generalize (lg_sl ([.ref x, .int 2, .int n, .ref o9]) ++ List.replicate (5 - (lg_sl ([.ref x, .int 2, .int n, .ref o9])).length) Slot.unset).toArray = ls at hl ⊢
  have hl : lv_has ls 5 [(0, .ref x), (1, .int 2), (2, .int n), (3, .ref o9)] := hl
  have htab := vx_table (x := yL_about) B (hts _ List.mem_cons_self)
  have k_0 := hts (.classLink RL 19 "java/lang/IndexOutOfBoundsException") (by decide +kernel)
  refine lv_aload_n hx hb dL_about_0 rfl (lv_at hl 3 rfl) ?_
  refine lv_iconst (v := 0) hx hb dL_about_1 (by decide) ?_
  refine lv_aload_n hx hb dL_about_2 rfl (lv_at hl 0 rfl) ?_
  refine lv_iload_n hx hb dL_about_3 rfl (lv_at hl 1 rfl) ?_
  refine lv_iload_n hx hb dL_about_4 rfl (lv_at hl 2 rfl) ?_
  have hPc := hP.sub (ws' := [(x, .inr (4, [.ref g, .ref mr, .ref tb, .ref lo, .ref g3, .ref gr, .ref wi])), (g, .inr (0, [.ref w, .ref d, .int 1, .int 0]))]) [0, 1] rfl
  have hDc := hD.sub (ws' := [(x, .inr (4, [.ref g, .ref mr, .ref tb, .ref lo, .ref g3, .ref gr, .ref wi])), (g, .inr (0, [.ref w, .ref d, .int 1, .int 0]))]) [0, 1] (by decide) rfl
  have hFc := va_free (wc := [(x, .inr (4, [.ref g, .ref mr, .ref tb, .ref lo, .ref g3, .ref gr, .ref wi])), (g, .inr (0, [.ref w, .ref d, .int 1, .int 0]))]) hD hS hA [0, 1] rfl
  refine vx_calli (vx_runV (As := [.int 2, .int n]) (rest := [.int 0, .ref o9]) ⟨hx, hb, hml, hown, hts⟩ (c_X4_about_b2 l hno dC dI cI cJ x g mr tb lo g3 gr wi w d s.heap.size n hn) (cwV 2 hts gL_about_X4_about rfl rfl rfl (by decide +kernel) ⟨Nat.le_of_ble_eq_true rfl, Nat.le_of_ble_eq_true rfl⟩) ⟨fun a U g mk q => by obtain ⟨q0, q1, qP, qK, qD, qX⟩ := q; exact ⟨q0, q1, qP, va_K.moved (u := U) (U := U.calling g mk a) (Vm.Alike.refl U.vm) qK, qD, qX.moved (State.WarmedH.refl U)⟩, va_recv hK hPc (ci := 4) (q0 := 0) rfl rfl, fun U hU hW => ⟨rfl, by rw [hU], by rw [hU]; exact hPc, va_K.moved hW.alike hK, hDc.weaken (fun _ _ _ _ => trivial), by rw [hU]; exact ((hX.kept hS.2.1).narrow hFc).moved hW⟩⟩ rfl rfl hl.1 rfl (lv_room (Nat.le_of_ble_eq_true rfl)) dL_about_5 ⟨Nat.le_of_ble_eq_true rfl, Nat.le_of_ble_eq_true rfl⟩) hS (fun q _ h => hFc q h) hFc (fun q _ h => hFc q h) (fun E9 ce9 q9 u9 t H1 locs ht hvm hw hB hz1 hk1 hS hce hcv hcl => ?_) (fun r_1 u_2 t H1 locs ht hvm hw hB hz1 hk1 hS => ?_)
  · skip
    obtain rfl := hB
    refine vx_catch (own := RL) (name := "java/lang/IndexOutOfBoundsException") hown [] ⟨0, 10, 13, 19⟩ [] (htab.trans rfl) (fun z hz => absurd hz List.not_mem_nil) (by decide) (by decide) k_0 (vz_bad _ (List.mem_of_getElem? (i := 4) rfl) (hX.2.2.1 _ (List.mem_of_getElem? (i := 4) rfl))) hce hcv hcl ?_
    have hP : va_P (dC, dI) vwCl [] H1 := va_P0
    have hD : va_D A [] := va_D0
    generalize H1 = H at hP hS ⊢
    refine lv_astore (lv' := [(4, .ref q9), (0, .ref x), (1, .int 2), (2, .int n), (3, .ref o9)]) hx hb dL_about_13 hl (by decide) rfl (fun ls hl => ?_)
    refine lv_iconst (v := 1) hx hb dL_about_15 (by decide) ?_
    refine W.widen (k := 1) (n := 6) (by decide) (by decide) ?_
    have hP9 := hP.sub (ws' := []) [] rfl
    have hD9 := hD.sub (ws' := []) [] (by decide) rfl
    exact W.iret (v := 1) hx hb hr (fun t ht hW => ⟨⟨_, (), rfl, rfl, by rw [ht]; exact hP9, hD9⟩, hS.F ht⟩) hS.2.2 dL_about_16
  · exact hw.elim
set_option maxHeartbeats 4000000 in
set_option maxRecDepth 100000 in
theorem c_L_about_b3 (l : Launch) (hno : l.stackTraces = false) (dC : Nat → ClassId) (dI : Nat → Nat → Nat) (cI cJ : ClassId) (x g mr tb lo g3 gr wi w d o9 : Nat) (sz : Nat) (n : Int32) (hn : n < 0 ∨ 1 ≤ n) : Met l yL_about wsL_about ({ frames := 8, cells := 1, slots := 6, locals := 125 }) (va_Pc [.ref x, .int 3, .int n, .ref o9] (pPreX dC dI cI cJ sz [(x, .inr (4, [.ref g, .ref mr, .ref tb, .ref lo, .ref g3, .ref gr, .ref wi])), (g, .inr (0, [.ref w, .ref d, .int 1, .int 0])), (o9, .inl (cJ, 1, .inr (.inl Zl)))])) (va_Qi (fun (r : Int32) (_ : Unit) => r = 1) (pPost dC dI (va_A [(x, .inr (4, [.ref g, .ref mr, .ref tb, .ref lo, .ref g3, .ref gr, .ref wi])), (g, .inr (0, [.ref w, .ref d, .int 1, .int 0])), (o9, .inl (cJ, 1, .inr (.inl Zl)))] sz) []) (va_A [(x, .inr (4, [.ref g, .ref mr, .ref tb, .ref lo, .ref g3, .ref gr, .ref wi])), (g, .inr (0, [.ref w, .ref d, .int 1, .int 0])), (o9, .inl (cJ, 1, .inr (.inl Zl)))] sz)) 1 6 (va_A [(x, .inr (4, [.ref g, .ref mr, .ref tb, .ref lo, .ref g3, .ref gr, .ref wi])), (g, .inr (0, [.ref w, .ref d, .int 1, .int 0])), (o9, .inl (cJ, 1, .inr (.inl Zl)))] sz) := by
  refine va_MetW (cc := cL_about) (maxL := 5) (ret := (some .int)) (hh := [(0, 10, 13, 19)]) (by decide) rfl ?_
  intro p e s m args below meth c s₁ B hml hv
  obtain ⟨rfl, hsz, hP, hK, hD0, hX⟩ := hv
  have hx := B.exec
  have hb := B.bytes
  have hr := B.returns
  have hts := atoms_spec (ws := wsL_about) B.pre
  have hown : s.vm.findClass RL = some m.cls := findClass_of_methodNamed B.named
  have hlocks := B.notSynchronized
  subst hsz
  have hD := hD0.self (sz := s.heap.size)
  generalize hAe : va_A [(x, .inr (4, [.ref g, .ref mr, .ref tb, .ref lo, .ref g3, .ref gr, .ref wi])), (g, .inr (0, [.ref w, .ref d, .int 1, .int 0])), (o9, .inl (cJ, 1, .inr (.inl Zl)))] s.heap.size = A at hD hX ⊢
  have hA : ∀ q : Nat, s.heap.size ≤ q → A q := fun q h => by rw [← hAe]; exact Or.inr h
  have hS : va_S A s.heap s.heap [] := va_S.rf
  have hP : va_P (dC, dI) vwCl [(x, .inr (4, [.ref g, .ref mr, .ref tb, .ref lo, .ref g3, .ref gr, .ref wi])), (g, .inr (0, [.ref w, .ref d, .int 1, .int 0])), (o9, .inl (cJ, 1, .inr (.inl Zl)))] s.heap := hP
  have hl := lv_entry ([.ref x, .int 3, .int n, .ref o9]) (n := 5) (Nat.le_of_ble_eq_true rfl)
  rw [lg_entry_eq]
  generalize (lg_sl ([.ref x, .int 3, .int n, .ref o9]) ++ List.replicate (5 - (lg_sl ([.ref x, .int 3, .int n, .ref o9])).length) Slot.unset).toArray = ls at hl ⊢
  have hl : lv_has ls 5 [(0, .ref x), (1, .int 3), (2, .int n), (3, .ref o9)] := hl
  have htab := vx_table (x := yL_about) B (hts _ List.mem_cons_self)
  have k_0 := hts (.classLink RL 19 "java/lang/IndexOutOfBoundsException") (by decide +kernel)
  refine lv_aload_n hx hb dL_about_0 rfl (lv_at hl 3 rfl) ?_
  refine lv_iconst (v := 0) hx hb dL_about_1 (by decide) ?_
  refine lv_aload_n hx hb dL_about_2 rfl (lv_at hl 0 rfl) ?_
  refine lv_iload_n hx hb dL_about_3 rfl (lv_at hl 1 rfl) ?_
  refine lv_iload_n hx hb dL_about_4 rfl (lv_at hl 2 rfl) ?_
  have hPc := hP.sub (ws' := [(x, .inr (4, [.ref g, .ref mr, .ref tb, .ref lo, .ref g3, .ref gr, .ref wi])), (g, .inr (0, [.ref w, .ref d, .int 1, .int 0]))]) [0, 1] rfl
  have hDc := hD.sub (ws' := [(x, .inr (4, [.ref g, .ref mr, .ref tb, .ref lo, .ref g3, .ref gr, .ref wi])), (g, .inr (0, [.ref w, .ref d, .int 1, .int 0]))]) [0, 1] (by decide) rfl
  have hFc := va_free (wc := [(x, .inr (4, [.ref g, .ref mr, .ref tb, .ref lo, .ref g3, .ref gr, .ref wi])), (g, .inr (0, [.ref w, .ref d, .int 1, .int 0]))]) hD hS hA [0, 1] rfl
  refine vx_calli (vx_runV (As := [.int 3, .int n]) (rest := [.int 0, .ref o9]) ⟨hx, hb, hml, hown, hts⟩ (c_X4_about_b3 l hno dC dI cI cJ x g mr tb lo g3 gr wi w d s.heap.size n hn) (cwV 2 hts gL_about_X4_about rfl rfl rfl (by decide +kernel) ⟨Nat.le_of_ble_eq_true rfl, Nat.le_of_ble_eq_true rfl⟩) ⟨fun a U g mk q => by obtain ⟨q0, q1, qP, qK, qD, qX⟩ := q; exact ⟨q0, q1, qP, va_K.moved (u := U) (U := U.calling g mk a) (Vm.Alike.refl U.vm) qK, qD, qX.moved (State.WarmedH.refl U)⟩, va_recv hK hPc (ci := 4) (q0 := 0) rfl rfl, fun U hU hW => ⟨rfl, by rw [hU], by rw [hU]; exact hPc, va_K.moved hW.alike hK, hDc.weaken (fun _ _ _ _ => trivial), by rw [hU]; exact ((hX.kept hS.2.1).narrow hFc).moved hW⟩⟩ rfl rfl hl.1 rfl (lv_room (Nat.le_of_ble_eq_true rfl)) dL_about_5 ⟨Nat.le_of_ble_eq_true rfl, Nat.le_of_ble_eq_true rfl⟩) hS (fun q _ h => hFc q h) hFc (fun q _ h => hFc q h) (fun E9 ce9 q9 u9 t H1 locs ht hvm hw hB hz1 hk1 hS hce hcv hcl => ?_) (fun r_1 u_2 t H1 locs ht hvm hw hB hz1 hk1 hS => ?_)
  · skip
    obtain rfl := hB
    refine vx_catch (own := RL) (name := "java/lang/IndexOutOfBoundsException") hown [] ⟨0, 10, 13, 19⟩ [] (htab.trans rfl) (fun z hz => absurd hz List.not_mem_nil) (by decide) (by decide) k_0 (vz_bad _ (List.mem_of_getElem? (i := 4) rfl) (hX.2.2.1 _ (List.mem_of_getElem? (i := 4) rfl))) hce hcv hcl ?_
    have hP : va_P (dC, dI) vwCl [] H1 := va_P0
    have hD : va_D A [] := va_D0
    generalize H1 = H at hP hS ⊢
    refine lv_astore (lv' := [(4, .ref q9), (0, .ref x), (1, .int 3), (2, .int n), (3, .ref o9)]) hx hb dL_about_13 hl (by decide) rfl (fun ls hl => ?_)
    refine lv_iconst (v := 1) hx hb dL_about_15 (by decide) ?_
    refine W.widen (k := 1) (n := 6) (by decide) (by decide) ?_
    have hP9 := hP.sub (ws' := []) [] rfl
    have hD9 := hD.sub (ws' := []) [] (by decide) rfl
    exact W.iret (v := 1) hx hb hr (fun t ht hW => ⟨⟨_, (), rfl, rfl, by rw [ht]; exact hP9, hD9⟩, hS.F ht⟩) hS.2.2 dL_about_16
  · exact hw.elim
set_option maxHeartbeats 4000000 in
set_option maxRecDepth 100000 in
theorem c_L_about_b4 (l : Launch) (hno : l.stackTraces = false) (dC : Nat → ClassId) (dI : Nat → Nat → Nat) (cI cJ : ClassId) (x g mr tb lo g3 gr wi w d o9 : Nat) (sz : Nat) (n : Int32) (hn : n < 0 ∨ 1 ≤ n) : Met l yL_about wsL_about ({ frames := 8, cells := 1, slots := 6, locals := 125 }) (va_Pc [.ref x, .int 4, .int n, .ref o9] (pPreX dC dI cI cJ sz [(x, .inr (4, [.ref g, .ref mr, .ref tb, .ref lo, .ref g3, .ref gr, .ref wi])), (g, .inr (0, [.ref w, .ref d, .int 1, .int 0])), (o9, .inl (cJ, 1, .inr (.inl Zl)))])) (va_Qi (fun (r : Int32) (_ : Unit) => r = 1) (pPost dC dI (va_A [(x, .inr (4, [.ref g, .ref mr, .ref tb, .ref lo, .ref g3, .ref gr, .ref wi])), (g, .inr (0, [.ref w, .ref d, .int 1, .int 0])), (o9, .inl (cJ, 1, .inr (.inl Zl)))] sz) []) (va_A [(x, .inr (4, [.ref g, .ref mr, .ref tb, .ref lo, .ref g3, .ref gr, .ref wi])), (g, .inr (0, [.ref w, .ref d, .int 1, .int 0])), (o9, .inl (cJ, 1, .inr (.inl Zl)))] sz)) 1 6 (va_A [(x, .inr (4, [.ref g, .ref mr, .ref tb, .ref lo, .ref g3, .ref gr, .ref wi])), (g, .inr (0, [.ref w, .ref d, .int 1, .int 0])), (o9, .inl (cJ, 1, .inr (.inl Zl)))] sz) := by
  refine va_MetW (cc := cL_about) (maxL := 5) (ret := (some .int)) (hh := [(0, 10, 13, 19)]) (by decide) rfl ?_
  intro p e s m args below meth c s₁ B hml hv
  obtain ⟨rfl, hsz, hP, hK, hD0, hX⟩ := hv
  have hx := B.exec
  have hb := B.bytes
  have hr := B.returns
  have hts := atoms_spec (ws := wsL_about) B.pre
  have hown : s.vm.findClass RL = some m.cls := findClass_of_methodNamed B.named
  have hlocks := B.notSynchronized
  subst hsz
  have hD := hD0.self (sz := s.heap.size)
  generalize hAe : va_A [(x, .inr (4, [.ref g, .ref mr, .ref tb, .ref lo, .ref g3, .ref gr, .ref wi])), (g, .inr (0, [.ref w, .ref d, .int 1, .int 0])), (o9, .inl (cJ, 1, .inr (.inl Zl)))] s.heap.size = A at hD hX ⊢
  have hA : ∀ q : Nat, s.heap.size ≤ q → A q := fun q h => by rw [← hAe]; exact Or.inr h
  have hS : va_S A s.heap s.heap [] := va_S.rf
  have hP : va_P (dC, dI) vwCl [(x, .inr (4, [.ref g, .ref mr, .ref tb, .ref lo, .ref g3, .ref gr, .ref wi])), (g, .inr (0, [.ref w, .ref d, .int 1, .int 0])), (o9, .inl (cJ, 1, .inr (.inl Zl)))] s.heap := hP
  have hl := lv_entry ([.ref x, .int 4, .int n, .ref o9]) (n := 5) (Nat.le_of_ble_eq_true rfl)
  rw [lg_entry_eq]
  generalize (lg_sl ([.ref x, .int 4, .int n, .ref o9]) ++ List.replicate (5 - (lg_sl ([.ref x, .int 4, .int n, .ref o9])).length) Slot.unset).toArray = ls at hl ⊢
  have hl : lv_has ls 5 [(0, .ref x), (1, .int 4), (2, .int n), (3, .ref o9)] := hl
  have htab := vx_table (x := yL_about) B (hts _ List.mem_cons_self)
  have k_0 := hts (.classLink RL 19 "java/lang/IndexOutOfBoundsException") (by decide +kernel)
  refine lv_aload_n hx hb dL_about_0 rfl (lv_at hl 3 rfl) ?_
  refine lv_iconst (v := 0) hx hb dL_about_1 (by decide) ?_
  refine lv_aload_n hx hb dL_about_2 rfl (lv_at hl 0 rfl) ?_
  refine lv_iload_n hx hb dL_about_3 rfl (lv_at hl 1 rfl) ?_
  refine lv_iload_n hx hb dL_about_4 rfl (lv_at hl 2 rfl) ?_
  have hPc := hP.sub (ws' := [(x, .inr (4, [.ref g, .ref mr, .ref tb, .ref lo, .ref g3, .ref gr, .ref wi])), (g, .inr (0, [.ref w, .ref d, .int 1, .int 0]))]) [0, 1] rfl
  have hDc := hD.sub (ws' := [(x, .inr (4, [.ref g, .ref mr, .ref tb, .ref lo, .ref g3, .ref gr, .ref wi])), (g, .inr (0, [.ref w, .ref d, .int 1, .int 0]))]) [0, 1] (by decide) rfl
  have hFc := va_free (wc := [(x, .inr (4, [.ref g, .ref mr, .ref tb, .ref lo, .ref g3, .ref gr, .ref wi])), (g, .inr (0, [.ref w, .ref d, .int 1, .int 0]))]) hD hS hA [0, 1] rfl
  refine vx_calli (vx_runV (As := [.int 4, .int n]) (rest := [.int 0, .ref o9]) ⟨hx, hb, hml, hown, hts⟩ (c_X4_about_b4 l hno dC dI cI cJ x g mr tb lo g3 gr wi w d s.heap.size n hn) (cwV 2 hts gL_about_X4_about rfl rfl rfl (by decide +kernel) ⟨Nat.le_of_ble_eq_true rfl, Nat.le_of_ble_eq_true rfl⟩) ⟨fun a U g mk q => by obtain ⟨q0, q1, qP, qK, qD, qX⟩ := q; exact ⟨q0, q1, qP, va_K.moved (u := U) (U := U.calling g mk a) (Vm.Alike.refl U.vm) qK, qD, qX.moved (State.WarmedH.refl U)⟩, va_recv hK hPc (ci := 4) (q0 := 0) rfl rfl, fun U hU hW => ⟨rfl, by rw [hU], by rw [hU]; exact hPc, va_K.moved hW.alike hK, hDc.weaken (fun _ _ _ _ => trivial), by rw [hU]; exact ((hX.kept hS.2.1).narrow hFc).moved hW⟩⟩ rfl rfl hl.1 rfl (lv_room (Nat.le_of_ble_eq_true rfl)) dL_about_5 ⟨Nat.le_of_ble_eq_true rfl, Nat.le_of_ble_eq_true rfl⟩) hS (fun q _ h => hFc q h) hFc (fun q _ h => hFc q h) (fun E9 ce9 q9 u9 t H1 locs ht hvm hw hB hz1 hk1 hS hce hcv hcl => ?_) (fun r_1 u_2 t H1 locs ht hvm hw hB hz1 hk1 hS => ?_)
  · skip
    obtain rfl := hB
    refine vx_catch (own := RL) (name := "java/lang/IndexOutOfBoundsException") hown [] ⟨0, 10, 13, 19⟩ [] (htab.trans rfl) (fun z hz => absurd hz List.not_mem_nil) (by decide) (by decide) k_0 (vz_bad _ (List.mem_of_getElem? (i := 4) rfl) (hX.2.2.1 _ (List.mem_of_getElem? (i := 4) rfl))) hce hcv hcl ?_
    have hP : va_P (dC, dI) vwCl [] H1 := va_P0
    have hD : va_D A [] := va_D0
    generalize H1 = H at hP hS ⊢
    refine lv_astore (lv' := [(4, .ref q9), (0, .ref x), (1, .int 4), (2, .int n), (3, .ref o9)]) hx hb dL_about_13 hl (by decide) rfl (fun ls hl => ?_)
    refine lv_iconst (v := 1) hx hb dL_about_15 (by decide) ?_
    refine W.widen (k := 1) (n := 6) (by decide) (by decide) ?_
    have hP9 := hP.sub (ws' := []) [] rfl
    have hD9 := hD.sub (ws' := []) [] (by decide) rfl
    exact W.iret (v := 1) hx hb hr (fun t ht hW => ⟨⟨_, (), rfl, rfl, by rw [ht]; exact hP9, hD9⟩, hS.F ht⟩) hS.2.2 dL_about_16
  · exact hw.elim
