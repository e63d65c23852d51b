set_option maxHeartbeats 4000000 in
set_option maxRecDepth 100000 in
theorem c_J7_fill_53178 (l : Launch) (dC : Nat → ClassId) (dI : Nat → Nat → Nat) (cI cJ : ClassId) (a : Nat) (sz : Nat) (n : Nat) (f : Nat → Int32) (v : Int32) (hn : n < 2 ^ 31) : Met l yJ7_fill_53178 wsJ7_fill_53178 ({ frames := 0, cells := 0, slots := 0, locals := 0 }) (va_Pc [.ref a, .int v] (pPre dC dI cI cJ sz [(a, .inl (cI, n, .inl f))])) (va_Qv (fun _ : Unit => True) (pPost dC dI (va_A [(a, .inl (cI, n, .inl f))] sz) [(a, .inl (cI, n, .inl ((fun _ => v))))]) (va_A [(a, .inl (cI, n, .inl f))] sz)) 0 0 (va_A [(a, .inl (cI, n, .inl f))] sz) := by
  refine Met.ofW (cc := cJ7_fill_53178) (maxL := 4) (ret := none) (by decide) rfl ?_
  intro p e s m args below meth c s₁ B hml hv
  obtain ⟨rfl, hsz, hP, hK, hD0⟩ := hv
  have hx := B.exec
  have hb := B.bytes
  have hr := B.returns
  have hts := atoms_spec (ws := wsJ7_fill_53178) B.pre
  have hown : s.vm.findClass RJ7 = some m.cls := findClass_of_methodNamed B.named
  have hlocks := B.notSynchronized
  subst hsz
  have hD := hD0.self (sz := s.heap.size)
  generalize hAe : va_A [(a, .inl (cI, n, .inl f))] s.heap.size = A at hD ⊢
  have hA : ∀ q : Nat, s.heap.size ≤ q → A q := fun q h => by rw [← hAe]; exact Or.inr h
  have hS : va_S A s.heap s.heap [] := va_S.rf
  have hP : va_P (dC, dI) vwCl [(a, .inl (cI, n, .inl f))] s.heap := hP
  have hl := lv_entry ([.ref a, .int v]) (n := 4) (Nat.le_of_ble_eq_true rfl)
  rw [lg_entry_eq]
  generalize (lg_sl ([.ref a, .int v]) ++ List.replicate (4 - (lg_sl ([.ref a, .int v])).length) Slot.unset).toArray = ls at hl ⊢
  have hl : lv_has ls 4 [(0, .ref a), (1, .int v)] := hl
  refine lv_iconst (v := 0) hx hb dJ7_fill_53178_0 (by decide) ?_
  refine lv_istore_n (lv' := [(2, .int 0), (0, .ref a), (1, .int v)]) hx hb dJ7_fill_53178_1 rfl hl (by decide) rfl (fun ls hl => ?_)
  refine lv_aload_n hx hb dJ7_fill_53178_2 rfl (lv_at hl 1 rfl) ?_
  refine va_alen hx hb hK hP 0 0 rfl rfl (v := nI n) rfl dJ7_fill_53178_3 ?_
  refine lv_istore_n (lv' := [(3, .int (nI n)), (2, .int 0), (0, .ref a), (1, .int v)]) hx hb dJ7_fill_53178_4 rfl hl (by decide) rfl (fun ls hl => ?_)
  refine lq_loop (α := Nat → Int32) (nL := 4) (fun f9 => [(a, .inl (cI, n, .inl f9))]) (fun i f9 => [(3, .int (nI n)), (2, .int (nI i)), (0, .ref a), (1, .int v)]) (fun i f9 => ∀ j, j < i → f9 j = v) n f 0 (fun j hj => absurd hj (Nat.not_lt_zero j)) (Nat.zero_le _) hP hD hS (lv_sub hl [0, 1, 2, 3] rfl) (fun f9 H locs ls hI hP hD hS hl => ?_) (fun i f9 H locs ls hlt hI hP hD hS hl ih => ?_)
  · skip
    have hP : va_P (dC, dI) vwCl [(a, .inl (cI, n, .inl f9))] H := hP
    have hD : va_D A [(a, .inl (cI, n, .inl f9))] := hD
    have hl : lv_has ls 4 [(3, .int (nI n)), (2, .int (nI n)), (0, .ref a), (1, .int v)] := hl
    have hI : ∀ j, j < n → f9 j = v := hI
    refine lv_iload_n hx hb dJ7_fill_53178_5 rfl (lv_at hl 1 rfl) ?_
    refine lv_iload_n hx hb dJ7_fill_53178_6 rfl (lv_at hl 0 rfl) ?_
    refine lv_icmp_ge (tgt := 20) hx hb dJ7_fill_53178_7 (by decide) (fun c_1 => ?_) (fun c_1 => ?_)
    rotate_left
    · exact absurd (nI_le (a := n) (b := n) (Nat.le_refl _) hn) c_1
    have hP9 : va_P (dC, dI) vwCl [(a, .inl (cI, n, .inl (fun _ => v)))] H := fun k q hq => by
      match k, hq with
      | 0, hq => cases hq; exact ar_eq hI (hP 0 _ rfl)
      | k + 1, hq => simp at hq
    have hD9 : va_D A [(a, .inl (cI, n, .inl (fun _ => v)))] := hD.set (p := 0) rfl
    exact W.vret hx hb hr (fun t ht hW => ⟨⟨(), rfl, trivial, by rw [ht]; exact hP9, hD9⟩, hS.F ht⟩) hS.2.2 dJ7_fill_53178_20
  · skip
    have hP : va_P (dC, dI) vwCl [(a, .inl (cI, n, .inl f9))] H := hP
    have hD : va_D A [(a, .inl (cI, n, .inl f9))] := hD
    have hl : lv_has ls 4 [(3, .int (nI n)), (2, .int (nI i)), (0, .ref a), (1, .int v)] := hl
    have hI : ∀ j, j < i → f9 j = v := hI
    refine lv_iload_n hx hb dJ7_fill_53178_5 rfl (lv_at hl 1 rfl) ?_
    refine lv_iload_n hx hb dJ7_fill_53178_6 rfl (lv_at hl 0 rfl) ?_
    refine lv_icmp_ge (tgt := 20) hx hb dJ7_fill_53178_7 (by decide) (fun c_2 => ?_) (fun c_2 => ?_)
    · exact absurd c_2 (nI_ge (b := n) hlt hn)
    refine lv_aload_n hx hb dJ7_fill_53178_10 rfl (lv_at hl 2 rfl) ?_
    refine lv_iload_n hx hb dJ7_fill_53178_11 rfl (lv_at hl 1 rfl) ?_
    refine lv_iload_n hx hb dJ7_fill_53178_12 rfl (lv_at hl 3 rfl) ?_
    refine va_iast hx hb hK hP hD hS 0 0 rfl rfl (vp_in_nI (show i < n from by omega) (by omega)) dJ7_fill_53178_13 (fun H locs hP hD hS => ?_)
    rw [nI_clamp (show i < 2 ^ 31 from by omega)] at hP hD
    have hP : va_P (dC, dI) vwCl [(a, .inl (cI, n, .inl (upd f9 i v)))] H := hP
    have hD : va_D A [(a, .inl (cI, n, .inl (upd f9 i v)))] := hD
    refine lv_iinc (v := nI (i + 1)) (lv' := [(2, .int (nI (i + 1))), (3, .int (nI n)), (0, .ref a), (1, .int v)]) hx hb dJ7_fill_53178_14 hl (k := 1) rfl (nI_1 _) (by decide) rfl (fun ls hl => ?_)
    refine lv_goto (tgt := 5) hx hb dJ7_fill_53178_17 (by decide) ?_
    exact ih (upd f9 i v) H locs ls (fl_inv hI) hP hD hS (lv_sub hl [1, 0, 2, 3] rfl)
