set_option maxHeartbeats 4000000 in
set_option maxRecDepth 100000 in
/-- THE LAW, from its entry -/
theorem whole_start {p : Program} {e : Env} {s : State} {m : MethodId} {below : List Frame} {meth : Method} {c : Code} (l : Launch) (hno : l.stackTraces = false) {b L : Nat} {xs : Nat → Int32} (hL : L ≤ 4) (C0 : lw_At p s m meth c b L xs) : W p l e room_1 s m #[Value.ref b] below meth c s.heap [] 0 0 (lw_Z below #[Value.ref b] s) (entryFrame m ([Value.ref b] : List Value).toArray 8) := by
  obtain ⟨hx, hb, hr, hml, hown, hts0, hXs, hbl, hlocks, hgv⟩ := id C0
  have hts : ∀ w ∈ wsL_law, w.before #[Value.ref b] s = true := fun w h => hts0 w (wsL_law_in w h)
  obtain ⟨A, hAe⟩ : ∃ A : Nat → Prop, A = fun q => s.heap.size ≤ q := ⟨_, rfl⟩
  have hA : ∀ q, s.heap.size ≤ q → A q := fun q h => by rw [hAe]; exact h
  have hA2 : ∀ q, A q → s.heap.size ≤ q := fun q h => by rw [hAe] at h; exact h
  have hbA : ¬ A b := fun h => absurd (hA2 b h) (Nat.not_le.mpr hbl)
  obtain ⟨c0, iS0, hKn0⟩ := u_known (C := RX0) (T := TX0) (N := 4) (n := 4) hts inlX0 (hts (.instantiable RX0 4) (by decide +kernel))
  obtain ⟨c1, iS1, hKn1⟩ := u_known (C := RX1) (T := TX1) (N := 5) (n := 5) hts inlX1 (hts (.instantiable RX1 5) (by decide +kernel))
  obtain ⟨c2, iS2, hKn2⟩ := u_known (C := RX2) (T := TX2) (N := 4) (n := 4) hts inlX2 (hts (.instantiable RX2 4) (by decide +kernel))
  obtain ⟨c3, iS3, hKn3⟩ := u_known (C := RX3) (T := TX3) (N := 3) (n := 3) hts inlX3 (hts (.instantiable RX3 3) (by decide +kernel))
  obtain ⟨c4, iS4, hKn4⟩ := u_known (C := RX4) (T := TX4) (N := 7) (n := 7) hts inlX4 (hts (.instantiable RX4 7) (by decide +kernel))
  obtain ⟨c5, iS5, hKn5⟩ := u_known (C := RX5) (T := TX5) (N := 17) (n := 17) hts inlX5 (hts (.instantiable RX5 17) (by decide +kernel))
  obtain ⟨dC, dI, hKc⟩ : ∃ (dC : Nat → ClassId) (dI : Nat → Nat → Nat), ∀ (k : Nat) (q : vw_C), vwCl[k]? = some q → u_Kn s q.1 q.2.1 q.2.2 (dC k) (dI k) := by
    refine ⟨fun k => if k = 0 then c0 else if k = 1 then c1 else if k = 2 then c2 else if k = 3 then c3 else if k = 4 then c4 else c5, fun k => if k = 0 then iS0 else if k = 1 then iS1 else if k = 2 then iS2 else if k = 3 then iS3 else if k = 4 then iS4 else iS5, ?_⟩
    intro k q hq
    match k, hq with
    | 0, hq => cases hq; exact hKn0
    | 1, hq => cases hq; exact hKn1
    | 2, hq => cases hq; exact hKn2
    | 3, hq => cases hq; exact hKn3
    | 4, hq => cases hq; exact hKn4
    | 5, hq => cases hq; exact hKn5
    | k + 6, hq => simp [vwCl] at hq
  obtain ⟨cI, kI, compI, hI1, hI2, hI3⟩ := Cond.arrayClass_spec (hts (.arrayClass .int) (by decide +kernel))
  obtain ⟨cJ, kJ, compJ, hJ1, hJ2, hJ3⟩ := Cond.arrayClass_spec (hts (.arrayClass .long) (by decide +kernel))
  have hK : va_K (dC, dI) vwCl [(cI, .int), (cJ, .long)] s := ⟨hKc, fun k q h => by
    match k, h with
    | 0, h => cases h; exact ⟨fun n z => ⟨fun k h => (by cases h), kI, hI2, compI, hI3⟩, hI1⟩
    | 1, h => cases h; exact ⟨fun n z => ⟨fun k h => (by cases h), kJ, hJ2, compJ, hJ3⟩, hJ1⟩
    | k + 2, h => simp at h⟩
  have hX : vz A s s.heap := law_vz hts0 hgv (fun a h q => absurd (hA2 a q) (Nat.not_le.mpr h))
  have hP : va_P (dC, dI) vwCl [] s.heap := va_P0
  have hD : va_D A [] := va_D0
  have hS : va_S A s.heap s.heap [] := va_S.rf
  have hl := lv_entry ([.ref b]) (n := 8) (Nat.le_of_ble_eq_true rfl)
  rw [lg_entry_eq]
  generalize (lg_sl ([.ref b]) ++ List.replicate (8 - (lg_sl ([.ref b])).length) Slot.unset).toArray = ls at hl ⊢
  have hl : lv_has ls 8 [(0, .ref b)] := hl
  have k_0 := hts (.classLink RL 8 RX4) (by decide +kernel)
  have k_1 := hts (.instantiable RX4 7) (by decide +kernel)
  have k_2 := hts (.initialized RX4) (by decide +kernel)
  have k_3 := hts (.methodLink RL 51 yX4_init) (by decide +kernel)
  have k_4 := hts (.instanceMethod yX4_init) (by decide +kernel)
  have k_5 := hts (.classLink RL 52 RX5) (by decide +kernel)
  have k_6 := hts (.instantiable RX5 17) (by decide +kernel)
  have k_7 := hts (.initialized RX5) (by decide +kernel)
  have k_8 := hts (.methodLink RL 54 yX5_init) (by decide +kernel)
  have k_9 := hts (.instanceMethod yX5_init) (by decide +kernel)
  have k_10 := hts (.arrayClass .long) (by decide +kernel)
  refine va_new (ci := 4) (fs := [.null, .null, .null, .null, .null, .null, .null]) (C := RX4) (T := TX4) (N := 7) hx hb hts inlX4 tyX4 tyX4_ok hown k_0 k_1 k_2 hK hP hD hS hA rfl (by decide) (Nat.le_of_ble_eq_true rfl) (Nat.le_of_ble_eq_true rfl) dL_law_0 (fun q_1 H hP hD hS => ?_)
  refine W.widen (k := 1) (n := 7) (by decide) (by decide) ?_
  have hP : va_P (dC, dI) vwCl [(q_1, .inr (4, [.null, .null, .null, .null, .null, .null, .null]))] H := hP
  have hD : va_D A [(q_1, .inr (4, [.null, .null, .null, .null, .null, .null, .null]))] := hD
  refine lv_dup hx hb dL_law_3 rfl ?_
  have hPc := hP.sub (ws' := [(q_1, .inr (4, [.null, .null, .null, .null, .null, .null, .null]))]) [0] rfl
  have hDc := hD.sub (ws' := [(q_1, .inr (4, [.null, .null, .null, .null, .null, .null, .null]))]) [0] (by decide) rfl
  have hFc := va_free (wc := [(q_1, .inr (4, [.null, .null, .null, .null, .null, .null, .null]))]) hD hS hA [0] rfl
  refine va_callv (va_runI (As := []) (rest := [.ref q_1]) ⟨hx, hb, hml, hown, hts⟩ (c_X4_init l dC dI cI cJ q_1 H.size) (cwI 0 hts gL_law_X4_init rfl rfl rfl k_2 k_3 k_4 rfl (by decide +kernel) ⟨Nat.le_of_ble_eq_true rfl, Nat.le_of_ble_eq_true rfl⟩) ⟨fun a U g mk q => by obtain ⟨q0, q1, qP, qK, qD⟩ := q; exact ⟨q0, q1, qP, va_K.moved (u := U) (U := U.calling g mk a) (Vm.Alike.refl U.vm) qK, qD⟩, fun U hU hW => ⟨rfl, by rw [hU], by rw [hU]; exact hPc, va_K.moved hW.alike hK, hDc.weaken (fun _ _ _ _ => trivial)⟩⟩ rfl rfl hl.1 rfl (lv_room (Nat.le_of_ble_eq_true rfl)) dL_law_4 ⟨Nat.le_of_ble_eq_true rfl, Nat.le_of_ble_eq_true rfl⟩) hS (fun q _ h => hFc q h) hFc (fun u_3 t H1 locs ht hvm hw hB hz1 hk1 hS => ?_)
  obtain ⟨hP1, hD1⟩ := hB
  rw [ht] at hP1
  obtain ⟨hP, hD⟩ := va_join (wr := []) (w1 := [(q_1, .inr (4, [.ref (u_3 0), .ref (u_3 3), .ref (u_3 9), .ref (u_3 13), .ref (u_3 16), .ref (u_3 19), .ref (u_3 25)])), ((u_3 0), .inr (0, [.ref (u_3 1), .ref (u_3 2), .int 1, .int 0])), ((u_3 1), .inl (cI, 1600, .inl Zi)), ((u_3 2), .inl (cI, 40, .inl Zi)), ((u_3 3), .inr (1, [.ref (u_3 4), .ref (u_3 5), .ref (u_3 6), .ref (u_3 7), .ref (u_3 8)])), ((u_3 4), .inl (cI, 40, .inl Zi)), ((u_3 5), .inl (cI, 40, .inl Zi)), ((u_3 6), .inl (cI, 40, .inl Zi)), ((u_3 7), .inl (cI, 40, .inl Zi)), ((u_3 8), .inl (cI, 40, .inl Zi)), ((u_3 9), .inr (2, [.ref (u_3 10), .ref (u_3 11), .ref (u_3 12), .int 0])), ((u_3 10), .inl (cI, 160, .inl Zi)), ((u_3 11), .inl (cI, 1600, .inl Zi)), ((u_3 12), .inl (cJ, 40, .inr (.inl Zl))), ((u_3 13), .inr (3, [.ref (u_3 14), .ref (u_3 15), .int 0])), ((u_3 14), .inl (cI, 1600, .inl Zi)), ((u_3 15), .inl (cJ, 400, .inr (.inl Zl))), ((u_3 16), .inr (0, [.ref (u_3 17), .ref (u_3 18), .int 1, .int 0])), ((u_3 17), .inl (cI, 1600, .inl Zi)), ((u_3 18), .inl (cI, 40, .inl Zi)), ((u_3 19), .inr (1, [.ref (u_3 20), .ref (u_3 21), .ref (u_3 22), .ref (u_3 23), .ref (u_3 24)])), ((u_3 20), .inl (cI, 40, .inl Zi)), ((u_3 21), .inl (cI, 40, .inl Zi)), ((u_3 22), .inl (cI, 40, .inl Zi)), ((u_3 23), .inl (cI, 40, .inl Zi)), ((u_3 24), .inl (cI, 40, .inl Zi)), ((u_3 25), .inl (cI, 40, .inl Zi))]) hP hD [0] [] rfl rfl (by decide) (by decide) hk1 hFc hP1 hD1
  generalize H1 = H at hP hS ⊢
  have hP : va_P (dC, dI) vwCl [(q_1, .inr (4, [.ref (u_3 0), .ref (u_3 3), .ref (u_3 9), .ref (u_3 13), .ref (u_3 16), .ref (u_3 19), .ref (u_3 25)])), ((u_3 0), .inr (0, [.ref (u_3 1), .ref (u_3 2), .int 1, .int 0])), ((u_3 1), .inl (cI, 1600, .inl Zi)), ((u_3 2), .inl (cI, 40, .inl Zi)), ((u_3 3), .inr (1, [.ref (u_3 4), .ref (u_3 5), .ref (u_3 6), .ref (u_3 7), .ref (u_3 8)])), ((u_3 4), .inl (cI, 40, .inl Zi)), ((u_3 5), .inl (cI, 40, .inl Zi)), ((u_3 6), .inl (cI, 40, .inl Zi)), ((u_3 7), .inl (cI, 40, .inl Zi)), ((u_3 8), .inl (cI, 40, .inl Zi)), ((u_3 9), .inr (2, [.ref (u_3 10), .ref (u_3 11), .ref (u_3 12), .int 0])), ((u_3 10), .inl (cI, 160, .inl Zi)), ((u_3 11), .inl (cI, 1600, .inl Zi)), ((u_3 12), .inl (cJ, 40, .inr (.inl Zl))), ((u_3 13), .inr (3, [.ref (u_3 14), .ref (u_3 15), .int 0])), ((u_3 14), .inl (cI, 1600, .inl Zi)), ((u_3 15), .inl (cJ, 400, .inr (.inl Zl))), ((u_3 16), .inr (0, [.ref (u_3 17), .ref (u_3 18), .int 1, .int 0])), ((u_3 17), .inl (cI, 1600, .inl Zi)), ((u_3 18), .inl (cI, 40, .inl Zi)), ((u_3 19), .inr (1, [.ref (u_3 20), .ref (u_3 21), .ref (u_3 22), .ref (u_3 23), .ref (u_3 24)])), ((u_3 20), .inl (cI, 40, .inl Zi)), ((u_3 21), .inl (cI, 40, .inl Zi)), ((u_3 22), .inl (cI, 40, .inl Zi)), ((u_3 23), .inl (cI, 40, .inl Zi)), ((u_3 24), .inl (cI, 40, .inl Zi)), ((u_3 25), .inl (cI, 40, .inl Zi))] H := hP
  have hD : va_D A [(q_1, .inr (4, [.ref (u_3 0), .ref (u_3 3), .ref (u_3 9), .ref (u_3 13), .ref (u_3 16), .ref (u_3 19), .ref (u_3 25)])), ((u_3 0), .inr (0, [.ref (u_3 1), .ref (u_3 2), .int 1, .int 0])), ((u_3 1), .inl (cI, 1600, .inl Zi)), ((u_3 2), .inl (cI, 40, .inl Zi)), ((u_3 3), .inr (1, [.ref (u_3 4), .ref (u_3 5), .ref (u_3 6), .ref (u_3 7), .ref (u_3 8)])), ((u_3 4), .inl (cI, 40, .inl Zi)), ((u_3 5), .inl (cI, 40, .inl Zi)), ((u_3 6), .inl (cI, 40, .inl Zi)), ((u_3 7), .inl (cI, 40, .inl Zi)), ((u_3 8), .inl (cI, 40, .inl Zi)), ((u_3 9), .inr (2, [.ref (u_3 10), .ref (u_3 11), .ref (u_3 12), .int 0])), ((u_3 10), .inl (cI, 160, .inl Zi)), ((u_3 11), .inl (cI, 1600, .inl Zi)), ((u_3 12), .inl (cJ, 40, .inr (.inl Zl))), ((u_3 13), .inr (3, [.ref (u_3 14), .ref (u_3 15), .int 0])), ((u_3 14), .inl (cI, 1600, .inl Zi)), ((u_3 15), .inl (cJ, 400, .inr (.inl Zl))), ((u_3 16), .inr (0, [.ref (u_3 17), .ref (u_3 18), .int 1, .int 0])), ((u_3 17), .inl (cI, 1600, .inl Zi)), ((u_3 18), .inl (cI, 40, .inl Zi)), ((u_3 19), .inr (1, [.ref (u_3 20), .ref (u_3 21), .ref (u_3 22), .ref (u_3 23), .ref (u_3 24)])), ((u_3 20), .inl (cI, 40, .inl Zi)), ((u_3 21), .inl (cI, 40, .inl Zi)), ((u_3 22), .inl (cI, 40, .inl Zi)), ((u_3 23), .inl (cI, 40, .inl Zi)), ((u_3 24), .inl (cI, 40, .inl Zi)), ((u_3 25), .inl (cI, 40, .inl Zi))] := hD
  refine W.widen (k := 27) (n := 7552) (by decide) (by decide) ?_
  refine lv_astore_n (lv' := [(1, .ref q_1), (0, .ref b)]) hx hb dL_law_7 rfl hl (by decide) rfl (fun ls hl => ?_)
  refine va_new (ci := 5) (fs := [.int 0, .null, .null, .int 0, .null, .null, .null, .int 0, .null, .null, .null, .int 0, .null, .null, .int 0, .null, .long 0]) (C := RX5) (T := TX5) (N := 17) hx hb hts inlX5 tyX5 tyX5_ok hown k_5 k_6 k_7 hK hP hD hS hA rfl (by decide) (Nat.le_of_ble_eq_true rfl) (Nat.le_of_ble_eq_true rfl) dL_law_8 (fun q_4 H hP hD hS => ?_)
  refine W.widen (k := 28) (n := 7569) (by decide) (by decide) ?_
  have hP : va_P (dC, dI) vwCl [(q_1, .inr (4, [.ref (u_3 0), .ref (u_3 3), .ref (u_3 9), .ref (u_3 13), .ref (u_3 16), .ref (u_3 19), .ref (u_3 25)])), ((u_3 0), .inr (0, [.ref (u_3 1), .ref (u_3 2), .int 1, .int 0])), ((u_3 1), .inl (cI, 1600, .inl Zi)), ((u_3 2), .inl (cI, 40, .inl Zi)), ((u_3 3), .inr (1, [.ref (u_3 4), .ref (u_3 5), .ref (u_3 6), .ref (u_3 7), .ref (u_3 8)])), ((u_3 4), .inl (cI, 40, .inl Zi)), ((u_3 5), .inl (cI, 40, .inl Zi)), ((u_3 6), .inl (cI, 40, .inl Zi)), ((u_3 7), .inl (cI, 40, .inl Zi)), ((u_3 8), .inl (cI, 40, .inl Zi)), ((u_3 9), .inr (2, [.ref (u_3 10), .ref (u_3 11), .ref (u_3 12), .int 0])), ((u_3 10), .inl (cI, 160, .inl Zi)), ((u_3 11), .inl (cI, 1600, .inl Zi)), ((u_3 12), .inl (cJ, 40, .inr (.inl Zl))), ((u_3 13), .inr (3, [.ref (u_3 14), .ref (u_3 15), .int 0])), ((u_3 14), .inl (cI, 1600, .inl Zi)), ((u_3 15), .inl (cJ, 400, .inr (.inl Zl))), ((u_3 16), .inr (0, [.ref (u_3 17), .ref (u_3 18), .int 1, .int 0])), ((u_3 17), .inl (cI, 1600, .inl Zi)), ((u_3 18), .inl (cI, 40, .inl Zi)), ((u_3 19), .inr (1, [.ref (u_3 20), .ref (u_3 21), .ref (u_3 22), .ref (u_3 23), .ref (u_3 24)])), ((u_3 20), .inl (cI, 40, .inl Zi)), ((u_3 21), .inl (cI, 40, .inl Zi)), ((u_3 22), .inl (cI, 40, .inl Zi)), ((u_3 23), .inl (cI, 40, .inl Zi)), ((u_3 24), .inl (cI, 40, .inl Zi)), ((u_3 25), .inl (cI, 40, .inl Zi)), (q_4, .inr (5, [.int 0, .null, .null, .int 0, .null, .null, .null, .int 0, .null, .null, .null, .int 0, .null, .null, .int 0, .null, .long 0]))] H := hP
  have hD : va_D A [(q_1, .inr (4, [.ref (u_3 0), .ref (u_3 3), .ref (u_3 9), .ref (u_3 13), .ref (u_3 16), .ref (u_3 19), .ref (u_3 25)])), ((u_3 0), .inr (0, [.ref (u_3 1), .ref (u_3 2), .int 1, .int 0])), ((u_3 1), .inl (cI, 1600, .inl Zi)), ((u_3 2), .inl (cI, 40, .inl Zi)), ((u_3 3), .inr (1, [.ref (u_3 4), .ref (u_3 5), .ref (u_3 6), .ref (u_3 7), .ref (u_3 8)])), ((u_3 4), .inl (cI, 40, .inl Zi)), ((u_3 5), .inl (cI, 40, .inl Zi)), ((u_3 6), .inl (cI, 40, .inl Zi)), ((u_3 7), .inl (cI, 40, .inl Zi)), ((u_3 8), .inl (cI, 40, .inl Zi)), ((u_3 9), .inr (2, [.ref (u_3 10), .ref (u_3 11), .ref (u_3 12), .int 0])), ((u_3 10), .inl (cI, 160, .inl Zi)), ((u_3 11), .inl (cI, 1600, .inl Zi)), ((u_3 12), .inl (cJ, 40, .inr (.inl Zl))), ((u_3 13), .inr (3, [.ref (u_3 14), .ref (u_3 15), .int 0])), ((u_3 14), .inl (cI, 1600, .inl Zi)), ((u_3 15), .inl (cJ, 400, .inr (.inl Zl))), ((u_3 16), .inr (0, [.ref (u_3 17), .ref (u_3 18), .int 1, .int 0])), ((u_3 17), .inl (cI, 1600, .inl Zi)), ((u_3 18), .inl (cI, 40, .inl Zi)), ((u_3 19), .inr (1, [.ref (u_3 20), .ref (u_3 21), .ref (u_3 22), .ref (u_3 23), .ref (u_3 24)])), ((u_3 20), .inl (cI, 40, .inl Zi)), ((u_3 21), .inl (cI, 40, .inl Zi)), ((u_3 22), .inl (cI, 40, .inl Zi)), ((u_3 23), .inl (cI, 40, .inl Zi)), ((u_3 24), .inl (cI, 40, .inl Zi)), ((u_3 25), .inl (cI, 40, .inl Zi)), (q_4, .inr (5, [.int 0, .null, .null, .int 0, .null, .null, .null, .int 0, .null, .null, .null, .int 0, .null, .null, .int 0, .null, .long 0]))] := hD
  refine lv_dup hx hb dL_law_11 rfl ?_
  have hPc := hP.sub (ws' := [(q_4, .inr (5, [.int 0, .null, .null, .int 0, .null, .null, .null, .int 0, .null, .null, .null, .int 0, .null, .null, .int 0, .null, .long 0]))]) [27] rfl
  have hDc := hD.sub (ws' := [(q_4, .inr (5, [.int 0, .null, .null, .int 0, .null, .null, .null, .int 0, .null, .null, .null, .int 0, .null, .null, .int 0, .null, .long 0]))]) [27] (by decide) rfl
  have hFc := va_free (wc := [(q_4, .inr (5, [.int 0, .null, .null, .int 0, .null, .null, .null, .int 0, .null, .null, .null, .int 0, .null, .null, .int 0, .null, .long 0]))]) hD hS hA [27] rfl
  refine va_callv (va_runI (As := []) (rest := [.ref q_4]) ⟨hx, hb, hml, hown, hts⟩ (c_X5_init l dC dI cI cJ q_4 H.size) (cwI 0 hts gL_law_X5_init rfl rfl rfl k_7 k_8 k_9 rfl (by decide +kernel) ⟨Nat.le_of_ble_eq_true rfl, Nat.le_of_ble_eq_true rfl⟩) ⟨fun a U g mk q => by obtain ⟨q0, q1, qP, qK, qD⟩ := q; exact ⟨q0, q1, qP, va_K.moved (u := U) (U := U.calling g mk a) (Vm.Alike.refl U.vm) qK, qD⟩, fun U hU hW => ⟨rfl, by rw [hU], by rw [hU]; exact hPc, va_K.moved hW.alike hK, hDc.weaken (fun _ _ _ _ => trivial)⟩⟩ rfl rfl hl.1 rfl (lv_room (Nat.le_of_ble_eq_true rfl)) dL_law_12 ⟨Nat.le_of_ble_eq_true rfl, Nat.le_of_ble_eq_true rfl⟩) hS (fun q _ h => hFc q h) hFc (fun u_6 t H1 locs ht hvm hw hB hz1 hk1 hS => ?_)
  obtain ⟨hP1, hD1⟩ := hB
  rw [ht] at hP1
  obtain ⟨hP, hD⟩ := va_join (wr := [(q_1, .inr (4, [.ref (u_3 0), .ref (u_3 3), .ref (u_3 9), .ref (u_3 13), .ref (u_3 16), .ref (u_3 19), .ref (u_3 25)])), ((u_3 0), .inr (0, [.ref (u_3 1), .ref (u_3 2), .int 1, .int 0])), ((u_3 1), .inl (cI, 1600, .inl Zi)), ((u_3 2), .inl (cI, 40, .inl Zi)), ((u_3 3), .inr (1, [.ref (u_3 4), .ref (u_3 5), .ref (u_3 6), .ref (u_3 7), .ref (u_3 8)])), ((u_3 4), .inl (cI, 40, .inl Zi)), ((u_3 5), .inl (cI, 40, .inl Zi)), ((u_3 6), .inl (cI, 40, .inl Zi)), ((u_3 7), .inl (cI, 40, .inl Zi)), ((u_3 8), .inl (cI, 40, .inl Zi)), ((u_3 9), .inr (2, [.ref (u_3 10), .ref (u_3 11), .ref (u_3 12), .int 0])), ((u_3 10), .inl (cI, 160, .inl Zi)), ((u_3 11), .inl (cI, 1600, .inl Zi)), ((u_3 12), .inl (cJ, 40, .inr (.inl Zl))), ((u_3 13), .inr (3, [.ref (u_3 14), .ref (u_3 15), .int 0])), ((u_3 14), .inl (cI, 1600, .inl Zi)), ((u_3 15), .inl (cJ, 400, .inr (.inl Zl))), ((u_3 16), .inr (0, [.ref (u_3 17), .ref (u_3 18), .int 1, .int 0])), ((u_3 17), .inl (cI, 1600, .inl Zi)), ((u_3 18), .inl (cI, 40, .inl Zi)), ((u_3 19), .inr (1, [.ref (u_3 20), .ref (u_3 21), .ref (u_3 22), .ref (u_3 23), .ref (u_3 24)])), ((u_3 20), .inl (cI, 40, .inl Zi)), ((u_3 21), .inl (cI, 40, .inl Zi)), ((u_3 22), .inl (cI, 40, .inl Zi)), ((u_3 23), .inl (cI, 40, .inl Zi)), ((u_3 24), .inl (cI, 40, .inl Zi)), ((u_3 25), .inl (cI, 40, .inl Zi))]) (w1 := [(q_4, .inr (5, [.int 1, .ref (u_6 0), .ref (u_6 1), .int 0, .ref (u_6 2), .ref (u_6 3), .ref (u_6 4), .int 0, .ref (u_6 5), .ref (u_6 6), .ref (u_6 7), .int 0, .ref (u_6 8), .ref (u_6 9), .int 0, .ref (u_6 10), .long 0])), ((u_6 0), .inl (cI, 1600, .inl Zi)), ((u_6 1), .inl (cI, 40, .inl (upd Zi 0 0))), ((u_6 2), .inl (cJ, 1600, .inr (.inl Zl))), ((u_6 3), .inl (cI, 40, .inl Zi)), ((u_6 4), .inl (cJ, 1600, .inr (.inl Zl))), ((u_6 5), .inl (cI, 164, .inl Zi)), ((u_6 6), .inl (cJ, 41, .inr (.inl Zl))), ((u_6 7), .inl (cI, 1640, .inl Zi)), ((u_6 8), .inl (cI, 1600, .inl Zi)), ((u_6 9), .inl (cJ, 400, .inr (.inl Zl))), ((u_6 10), .inl (cJ, 40, .inr (.inl Zl)))]) hP hD [27] [0, 1, 2, 3, 4, 5, 6, 7, 8, 9, 10, 11, 12, 13, 14, 15, 16, 17, 18, 19, 20, 21, 22, 23, 24, 25, 26] rfl rfl (by decide) (by decide) hk1 hFc hP1 hD1
  generalize H1 = H at hP hS ⊢
  have hP : va_P (dC, dI) vwCl [(q_1, .inr (4, [.ref (u_3 0), .ref (u_3 3), .ref (u_3 9), .ref (u_3 13), .ref (u_3 16), .ref (u_3 19), .ref (u_3 25)])), ((u_3 0), .inr (0, [.ref (u_3 1), .ref (u_3 2), .int 1, .int 0])), ((u_3 1), .inl (cI, 1600, .inl Zi)), ((u_3 2), .inl (cI, 40, .inl Zi)), ((u_3 3), .inr (1, [.ref (u_3 4), .ref (u_3 5), .ref (u_3 6), .ref (u_3 7), .ref (u_3 8)])), ((u_3 4), .inl (cI, 40, .inl Zi)), ((u_3 5), .inl (cI, 40, .inl Zi)), ((u_3 6), .inl (cI, 40, .inl Zi)), ((u_3 7), .inl (cI, 40, .inl Zi)), ((u_3 8), .inl (cI, 40, .inl Zi)), ((u_3 9), .inr (2, [.ref (u_3 10), .ref (u_3 11), .ref (u_3 12), .int 0])), ((u_3 10), .inl (cI, 160, .inl Zi)), ((u_3 11), .inl (cI, 1600, .inl Zi)), ((u_3 12), .inl (cJ, 40, .inr (.inl Zl))), ((u_3 13), .inr (3, [.ref (u_3 14), .ref (u_3 15), .int 0])), ((u_3 14), .inl (cI, 1600, .inl Zi)), ((u_3 15), .inl (cJ, 400, .inr (.inl Zl))), ((u_3 16), .inr (0, [.ref (u_3 17), .ref (u_3 18), .int 1, .int 0])), ((u_3 17), .inl (cI, 1600, .inl Zi)), ((u_3 18), .inl (cI, 40, .inl Zi)), ((u_3 19), .inr (1, [.ref (u_3 20), .ref (u_3 21), .ref (u_3 22), .ref (u_3 23), .ref (u_3 24)])), ((u_3 20), .inl (cI, 40, .inl Zi)), ((u_3 21), .inl (cI, 40, .inl Zi)), ((u_3 22), .inl (cI, 40, .inl Zi)), ((u_3 23), .inl (cI, 40, .inl Zi)), ((u_3 24), .inl (cI, 40, .inl Zi)), ((u_3 25), .inl (cI, 40, .inl Zi)), (q_4, .inr (5, [.int 1, .ref (u_6 0), .ref (u_6 1), .int 0, .ref (u_6 2), .ref (u_6 3), .ref (u_6 4), .int 0, .ref (u_6 5), .ref (u_6 6), .ref (u_6 7), .int 0, .ref (u_6 8), .ref (u_6 9), .int 0, .ref (u_6 10), .long 0])), ((u_6 0), .inl (cI, 1600, .inl Zi)), ((u_6 1), .inl (cI, 40, .inl (upd Zi 0 0))), ((u_6 2), .inl (cJ, 1600, .inr (.inl Zl))), ((u_6 3), .inl (cI, 40, .inl Zi)), ((u_6 4), .inl (cJ, 1600, .inr (.inl Zl))), ((u_6 5), .inl (cI, 164, .inl Zi)), ((u_6 6), .inl (cJ, 41, .inr (.inl Zl))), ((u_6 7), .inl (cI, 1640, .inl Zi)), ((u_6 8), .inl (cI, 1600, .inl Zi)), ((u_6 9), .inl (cJ, 400, .inr (.inl Zl))), ((u_6 10), .inl (cJ, 40, .inr (.inl Zl)))] H := hP
  have hD : va_D A [(q_1, .inr (4, [.ref (u_3 0), .ref (u_3 3), .ref (u_3 9), .ref (u_3 13), .ref (u_3 16), .ref (u_3 19), .ref (u_3 25)])), ((u_3 0), .inr (0, [.ref (u_3 1), .ref (u_3 2), .int 1, .int 0])), ((u_3 1), .inl (cI, 1600, .inl Zi)), ((u_3 2), .inl (cI, 40, .inl Zi)), ((u_3 3), .inr (1, [.ref (u_3 4), .ref (u_3 5), .ref (u_3 6), .ref (u_3 7), .ref (u_3 8)])), ((u_3 4), .inl (cI, 40, .inl Zi)), ((u_3 5), .inl (cI, 40, .inl Zi)), ((u_3 6), .inl (cI, 40, .inl Zi)), ((u_3 7), .inl (cI, 40, .inl Zi)), ((u_3 8), .inl (cI, 40, .inl Zi)), ((u_3 9), .inr (2, [.ref (u_3 10), .ref (u_3 11), .ref (u_3 12), .int 0])), ((u_3 10), .inl (cI, 160, .inl Zi)), ((u_3 11), .inl (cI, 1600, .inl Zi)), ((u_3 12), .inl (cJ, 40, .inr (.inl Zl))), ((u_3 13), .inr (3, [.ref (u_3 14), .ref (u_3 15), .int 0])), ((u_3 14), .inl (cI, 1600, .inl Zi)), ((u_3 15), .inl (cJ, 400, .inr (.inl Zl))), ((u_3 16), .inr (0, [.ref (u_3 17), .ref (u_3 18), .int 1, .int 0])), ((u_3 17), .inl (cI, 1600, .inl Zi)), ((u_3 18), .inl (cI, 40, .inl Zi)), ((u_3 19), .inr (1, [.ref (u_3 20), .ref (u_3 21), .ref (u_3 22), .ref (u_3 23), .ref (u_3 24)])), ((u_3 20), .inl (cI, 40, .inl Zi)), ((u_3 21), .inl (cI, 40, .inl Zi)), ((u_3 22), .inl (cI, 40, .inl Zi)), ((u_3 23), .inl (cI, 40, .inl Zi)), ((u_3 24), .inl (cI, 40, .inl Zi)), ((u_3 25), .inl (cI, 40, .inl Zi)), (q_4, .inr (5, [.int 1, .ref (u_6 0), .ref (u_6 1), .int 0, .ref (u_6 2), .ref (u_6 3), .ref (u_6 4), .int 0, .ref (u_6 5), .ref (u_6 6), .ref (u_6 7), .int 0, .ref (u_6 8), .ref (u_6 9), .int 0, .ref (u_6 10), .long 0])), ((u_6 0), .inl (cI, 1600, .inl Zi)), ((u_6 1), .inl (cI, 40, .inl (upd Zi 0 0))), ((u_6 2), .inl (cJ, 1600, .inr (.inl Zl))), ((u_6 3), .inl (cI, 40, .inl Zi)), ((u_6 4), .inl (cJ, 1600, .inr (.inl Zl))), ((u_6 5), .inl (cI, 164, .inl Zi)), ((u_6 6), .inl (cJ, 41, .inr (.inl Zl))), ((u_6 7), .inl (cI, 1640, .inl Zi)), ((u_6 8), .inl (cI, 1600, .inl Zi)), ((u_6 9), .inl (cJ, 400, .inr (.inl Zl))), ((u_6 10), .inl (cJ, 40, .inr (.inl Zl)))] := hD
  refine W.widen (k := 39) (n := 16334) (by decide) (by decide) ?_
  refine lv_astore_n (lv' := [(2, .ref q_4), (1, .ref q_1), (0, .ref b)]) hx hb dL_law_15 rfl hl (by decide) rfl (fun ls hl => ?_)
  refine lv_iconst (v := 1) hx hb dL_law_16 (by decide) ?_
  refine vn_J (N' := 1) hx hb k_10 hK hP hD hS hA (by decide) (by decide) (by decide) (Nat.le_of_ble_eq_true rfl) (Nat.le_of_ble_eq_true rfl) dL_law_17 (fun q_7 H hP hD hS => ?_)
  refine W.widen (k := 40) (n := 16335) (by decide) (by decide) ?_
  have hP : va_P (dC, dI) vwCl [(q_1, .inr (4, [.ref (u_3 0), .ref (u_3 3), .ref (u_3 9), .ref (u_3 13), .ref (u_3 16), .ref (u_3 19), .ref (u_3 25)])), ((u_3 0), .inr (0, [.ref (u_3 1), .ref (u_3 2), .int 1, .int 0])), ((u_3 1), .inl (cI, 1600, .inl Zi)), ((u_3 2), .inl (cI, 40, .inl Zi)), ((u_3 3), .inr (1, [.ref (u_3 4), .ref (u_3 5), .ref (u_3 6), .ref (u_3 7), .ref (u_3 8)])), ((u_3 4), .inl (cI, 40, .inl Zi)), ((u_3 5), .inl (cI, 40, .inl Zi)), ((u_3 6), .inl (cI, 40, .inl Zi)), ((u_3 7), .inl (cI, 40, .inl Zi)), ((u_3 8), .inl (cI, 40, .inl Zi)), ((u_3 9), .inr (2, [.ref (u_3 10), .ref (u_3 11), .ref (u_3 12), .int 0])), ((u_3 10), .inl (cI, 160, .inl Zi)), ((u_3 11), .inl (cI, 1600, .inl Zi)), ((u_3 12), .inl (cJ, 40, .inr (.inl Zl))), ((u_3 13), .inr (3, [.ref (u_3 14), .ref (u_3 15), .int 0])), ((u_3 14), .inl (cI, 1600, .inl Zi)), ((u_3 15), .inl (cJ, 400, .inr (.inl Zl))), ((u_3 16), .inr (0, [.ref (u_3 17), .ref (u_3 18), .int 1, .int 0])), ((u_3 17), .inl (cI, 1600, .inl Zi)), ((u_3 18), .inl (cI, 40, .inl Zi)), ((u_3 19), .inr (1, [.ref (u_3 20), .ref (u_3 21), .ref (u_3 22), .ref (u_3 23), .ref (u_3 24)])), ((u_3 20), .inl (cI, 40, .inl Zi)), ((u_3 21), .inl (cI, 40, .inl Zi)), ((u_3 22), .inl (cI, 40, .inl Zi)), ((u_3 23), .inl (cI, 40, .inl Zi)), ((u_3 24), .inl (cI, 40, .inl Zi)), ((u_3 25), .inl (cI, 40, .inl Zi)), (q_4, .inr (5, [.int 1, .ref (u_6 0), .ref (u_6 1), .int 0, .ref (u_6 2), .ref (u_6 3), .ref (u_6 4), .int 0, .ref (u_6 5), .ref (u_6 6), .ref (u_6 7), .int 0, .ref (u_6 8), .ref (u_6 9), .int 0, .ref (u_6 10), .long 0])), ((u_6 0), .inl (cI, 1600, .inl Zi)), ((u_6 1), .inl (cI, 40, .inl (upd Zi 0 0))), ((u_6 2), .inl (cJ, 1600, .inr (.inl Zl))), ((u_6 3), .inl (cI, 40, .inl Zi)), ((u_6 4), .inl (cJ, 1600, .inr (.inl Zl))), ((u_6 5), .inl (cI, 164, .inl Zi)), ((u_6 6), .inl (cJ, 41, .inr (.inl Zl))), ((u_6 7), .inl (cI, 1640, .inl Zi)), ((u_6 8), .inl (cI, 1600, .inl Zi)), ((u_6 9), .inl (cJ, 400, .inr (.inl Zl))), ((u_6 10), .inl (cJ, 40, .inr (.inl Zl))), (q_7, .inl (cJ, 1, .inr (.inl Zl)))] H := hP
  have hD : va_D A [(q_1, .inr (4, [.ref (u_3 0), .ref (u_3 3), .ref (u_3 9), .ref (u_3 13), .ref (u_3 16), .ref (u_3 19), .ref (u_3 25)])), ((u_3 0), .inr (0, [.ref (u_3 1), .ref (u_3 2), .int 1, .int 0])), ((u_3 1), .inl (cI, 1600, .inl Zi)), ((u_3 2), .inl (cI, 40, .inl Zi)), ((u_3 3), .inr (1, [.ref (u_3 4), .ref (u_3 5), .ref (u_3 6), .ref (u_3 7), .ref (u_3 8)])), ((u_3 4), .inl (cI, 40, .inl Zi)), ((u_3 5), .inl (cI, 40, .inl Zi)), ((u_3 6), .inl (cI, 40, .inl Zi)), ((u_3 7), .inl (cI, 40, .inl Zi)), ((u_3 8), .inl (cI, 40, .inl Zi)), ((u_3 9), .inr (2, [.ref (u_3 10), .ref (u_3 11), .ref (u_3 12), .int 0])), ((u_3 10), .inl (cI, 160, .inl Zi)), ((u_3 11), .inl (cI, 1600, .inl Zi)), ((u_3 12), .inl (cJ, 40, .inr (.inl Zl))), ((u_3 13), .inr (3, [.ref (u_3 14), .ref (u_3 15), .int 0])), ((u_3 14), .inl (cI, 1600, .inl Zi)), ((u_3 15), .inl (cJ, 400, .inr (.inl Zl))), ((u_3 16), .inr (0, [.ref (u_3 17), .ref (u_3 18), .int 1, .int 0])), ((u_3 17), .inl (cI, 1600, .inl Zi)), ((u_3 18), .inl (cI, 40, .inl Zi)), ((u_3 19), .inr (1, [.ref (u_3 20), .ref (u_3 21), .ref (u_3 22), .ref (u_3 23), .ref (u_3 24)])), ((u_3 20), .inl (cI, 40, .inl Zi)), ((u_3 21), .inl (cI, 40, .inl Zi)), ((u_3 22), .inl (cI, 40, .inl Zi)), ((u_3 23), .inl (cI, 40, .inl Zi)), ((u_3 24), .inl (cI, 40, .inl Zi)), ((u_3 25), .inl (cI, 40, .inl Zi)), (q_4, .inr (5, [.int 1, .ref (u_6 0), .ref (u_6 1), .int 0, .ref (u_6 2), .ref (u_6 3), .ref (u_6 4), .int 0, .ref (u_6 5), .ref (u_6 6), .ref (u_6 7), .int 0, .ref (u_6 8), .ref (u_6 9), .int 0, .ref (u_6 10), .long 0])), ((u_6 0), .inl (cI, 1600, .inl Zi)), ((u_6 1), .inl (cI, 40, .inl (upd Zi 0 0))), ((u_6 2), .inl (cJ, 1600, .inr (.inl Zl))), ((u_6 3), .inl (cI, 40, .inl Zi)), ((u_6 4), .inl (cJ, 1600, .inr (.inl Zl))), ((u_6 5), .inl (cI, 164, .inl Zi)), ((u_6 6), .inl (cJ, 41, .inr (.inl Zl))), ((u_6 7), .inl (cI, 1640, .inl Zi)), ((u_6 8), .inl (cI, 1600, .inl Zi)), ((u_6 9), .inl (cJ, 400, .inr (.inl Zl))), ((u_6 10), .inl (cJ, 40, .inr (.inl Zl))), (q_7, .inl (cJ, 1, .inr (.inl Zl)))] := hD
  refine lv_astore_n (lv' := [(3, .ref q_7), (2, .ref q_4), (1, .ref q_1), (0, .ref b)]) hx hb dL_law_19 rfl hl (by decide) rfl (fun ls hl => ?_)
  refine lv_iconst (v := 0) hx hb dL_law_20 (by decide) ?_
  refine lv_istore (lv' := [(4, .int 0), (3, .ref q_7), (2, .ref q_4), (1, .ref q_1), (0, .ref b)]) hx hb dL_law_21 hl (by decide) rfl (fun ls hl => ?_)
  rcases (show L = 4 ∨ L = 0 ∨ L = 1 ∨ L = 2 ∨ L = 3 by omega) with rfl | rfl | rfl | rfl | rfl
  · skip
    refine lv_iload hx hb dL_law_23 (lv_at hl 0 rfl) ?_
    refine lv_aload_n hx hb dL_law_25 rfl (lv_at hl 4 rfl) ?_
    refine va_slen hx hb hXs hbl hbA hS dL_law_26 ?_
    refine lc_i (v := 4) (by first | rfl | decide) ?_
    refine lv_iconst (v := 4) hx hb dL_law_27 (by decide) ?_
    refine lv_isub hx hb dL_law_28 ?_
    refine lc_i (v := 0) (by first | rfl | decide) ?_
    refine lv_icmp_gt (tgt := 840) hx hb dL_law_29 (by decide) (fun c_8 => ?_) (fun c_8 => ?_)
    · exact absurd c_8 (by decide)
    refine lv_aload_n hx hb dL_law_32 rfl (lv_at hl 4 rfl) ?_
    refine lv_iload hx hb dL_law_33 (lv_at hl 0 rfl) ?_
    refine va_sld hx hb hXs hbl hbA hS (vp_c (by decide)) dL_law_35 ?_
    refine lc_i (v := xs 0) (by first | rfl | decide) ?_
    refine lv_bipush (v := 15) hx hb dL_law_36 (by decide) ?_
    refine lv_iand hx hb dL_law_38 ?_
    obtain ⟨j, hj, ej⟩ := pk_andE (xs 0) (m := 15) 4 (by decide)
    have hj : j < 16 := hj
    refine lc_i (v := nI j) ej ?_
    rcases (show j = 0 ∨ j = 1 ∨ j = 2 ∨ j = 3 ∨ j = 4 ∨ j = 5 ∨ j = 6 ∨ j = 7 ∨ j = 8 ∨ j = 9 ∨ j = 10 ∨ j = 11 ∨ j = 12 ∨ j = 13 ∨ j = 14 ∨ j = 15 by omega) with rfl | rfl | rfl | rfl | rfl | rfl | rfl | rfl | rfl | rfl | rfl | rfl | rfl | rfl | rfl | rfl
    · refine lv_tableIn (tgt := 112) (off := 73) hx hb dL_law_39 (by decide) (by decide) rfl (by decide) ?_
      exact law_0 hno C0 hA hA2 hbA hX hK (hP.sub [0, 1, 2, 3, 4, 5, 6, 7, 8, 9, 10, 11, 12, 13, 14, 15, 16, 17, 18, 19, 20, 21, 22, 23, 24, 25, 26, 27, 28, 29, 30, 31, 32, 33, 34, 35, 36, 37, 38, 39] rfl) (hD.sub [0, 1, 2, 3, 4, 5, 6, 7, 8, 9, 10, 11, 12, 13, 14, 15, 16, 17, 18, 19, 20, 21, 22, 23, 24, 25, 26, 27, 28, 29, 30, 31, 32, 33, 34, 35, 36, 37, 38, 39] (by decide) rfl) hS (lv_sub hl [0, 1, 2, 3, 4] rfl)
    · refine lv_tableIn (tgt := 148) (off := 109) hx hb dL_law_39 (by decide) (by decide) rfl (by decide) ?_
      exact law_1 hno C0 hA hA2 hbA hX hK (hP.sub [0, 1, 2, 3, 4, 5, 6, 7, 8, 9, 10, 11, 12, 13, 14, 15, 16, 17, 18, 19, 20, 21, 22, 23, 24, 25, 26, 27, 28, 29, 30, 31, 32, 33, 34, 35, 36, 37, 38, 39] rfl) (hD.sub [0, 1, 2, 3, 4, 5, 6, 7, 8, 9, 10, 11, 12, 13, 14, 15, 16, 17, 18, 19, 20, 21, 22, 23, 24, 25, 26, 27, 28, 29, 30, 31, 32, 33, 34, 35, 36, 37, 38, 39] (by decide) rfl) hS (lv_sub hl [0, 1, 2, 3, 4] rfl)
    · refine lv_tableIn (tgt := 228) (off := 189) hx hb dL_law_39 (by decide) (by decide) rfl (by decide) ?_
      exact law_2 hno C0 hA hA2 hbA hX hK (hP.sub [0, 1, 2, 3, 4, 5, 6, 7, 8, 9, 10, 11, 12, 13, 14, 15, 16, 17, 18, 19, 20, 21, 22, 23, 24, 25, 26, 27, 28, 29, 30, 31, 32, 33, 34, 35, 36, 37, 38, 39] rfl) (hD.sub [0, 1, 2, 3, 4, 5, 6, 7, 8, 9, 10, 11, 12, 13, 14, 15, 16, 17, 18, 19, 20, 21, 22, 23, 24, 25, 26, 27, 28, 29, 30, 31, 32, 33, 34, 35, 36, 37, 38, 39] (by decide) rfl) hS (lv_sub hl [0, 1, 2, 3, 4] rfl)
    · refine lv_tableIn (tgt := 241) (off := 202) hx hb dL_law_39 (by decide) (by decide) rfl (by decide) ?_
      exact law_3 hno C0 hA hA2 hbA hX hK (hP.sub [0, 1, 2, 3, 4, 5, 6, 7, 8, 9, 10, 11, 12, 13, 14, 15, 16, 17, 18, 19, 20, 21, 22, 23, 24, 25, 26, 27, 28, 29, 30, 31, 32, 33, 34, 35, 36, 37, 38, 39] rfl) (hD.sub [0, 1, 2, 3, 4, 5, 6, 7, 8, 9, 10, 11, 12, 13, 14, 15, 16, 17, 18, 19, 20, 21, 22, 23, 24, 25, 26, 27, 28, 29, 30, 31, 32, 33, 34, 35, 36, 37, 38, 39] (by decide) rfl) hS (lv_sub hl [0, 1, 2, 3, 4] rfl)
    · refine lv_tableIn (tgt := 254) (off := 215) hx hb dL_law_39 (by decide) (by decide) rfl (by decide) ?_
      exact law_4 hno C0 hA hA2 hbA hX hK (hP.sub [0, 1, 2, 3, 4, 5, 6, 7, 8, 9, 10, 11, 12, 13, 14, 15, 16, 17, 18, 19, 20, 21, 22, 23, 24, 25, 26, 27, 28, 29, 30, 31, 32, 33, 34, 35, 36, 37, 38, 39] rfl) (hD.sub [0, 1, 2, 3, 4, 5, 6, 7, 8, 9, 10, 11, 12, 13, 14, 15, 16, 17, 18, 19, 20, 21, 22, 23, 24, 25, 26, 27, 28, 29, 30, 31, 32, 33, 34, 35, 36, 37, 38, 39] (by decide) rfl) hS (lv_sub hl [0, 1, 2, 3, 4] rfl)
    · refine lv_tableIn (tgt := 322) (off := 283) hx hb dL_law_39 (by decide) (by decide) rfl (by decide) ?_
      exact law_5 hno C0 hA hA2 hbA hX hK (hP.sub [0, 1, 2, 3, 4, 5, 6, 7, 8, 9, 10, 11, 12, 13, 14, 15, 16, 17, 18, 19, 20, 21, 22, 23, 24, 25, 26, 27, 28, 29, 30, 31, 32, 33, 34, 35, 36, 37, 38, 39] rfl) (hD.sub [0, 1, 2, 3, 4, 5, 6, 7, 8, 9, 10, 11, 12, 13, 14, 15, 16, 17, 18, 19, 20, 21, 22, 23, 24, 25, 26, 27, 28, 29, 30, 31, 32, 33, 34, 35, 36, 37, 38, 39] (by decide) rfl) hS (lv_sub hl [0, 1, 2, 3, 4] rfl)
    · refine lv_tableIn (tgt := 390) (off := 351) hx hb dL_law_39 (by decide) (by decide) rfl (by decide) ?_
      exact law_6 hno C0 hA hA2 hbA hX hK (hP.sub [0, 1, 2, 3, 4, 5, 6, 7, 8, 9, 10, 11, 12, 13, 14, 15, 16, 17, 18, 19, 20, 21, 22, 23, 24, 25, 26, 27, 28, 29, 30, 31, 32, 33, 34, 35, 36, 37, 38, 39] rfl) (hD.sub [0, 1, 2, 3, 4, 5, 6, 7, 8, 9, 10, 11, 12, 13, 14, 15, 16, 17, 18, 19, 20, 21, 22, 23, 24, 25, 26, 27, 28, 29, 30, 31, 32, 33, 34, 35, 36, 37, 38, 39] (by decide) rfl) hS (lv_sub hl [0, 1, 2, 3, 4] rfl)
    · refine lv_tableIn (tgt := 445) (off := 406) hx hb dL_law_39 (by decide) (by decide) rfl (by decide) ?_
      exact law_7 hno C0 hA hA2 hbA hX hK (hP.sub [0, 1, 2, 3, 4, 5, 6, 7, 8, 9, 10, 11, 12, 13, 14, 15, 16, 17, 18, 19, 20, 21, 22, 23, 24, 25, 26, 27, 28, 29, 30, 31, 32, 33, 34, 35, 36, 37, 38, 39] rfl) (hD.sub [0, 1, 2, 3, 4, 5, 6, 7, 8, 9, 10, 11, 12, 13, 14, 15, 16, 17, 18, 19, 20, 21, 22, 23, 24, 25, 26, 27, 28, 29, 30, 31, 32, 33, 34, 35, 36, 37, 38, 39] (by decide) rfl) hS (lv_sub hl [0, 1, 2, 3, 4] rfl)
    · refine lv_tableIn (tgt := 458) (off := 419) hx hb dL_law_39 (by decide) (by decide) rfl (by decide) ?_
      exact law_8 hno C0 hA hA2 hbA hX hK (hP.sub [0, 1, 2, 3, 4, 5, 6, 7, 8, 9, 10, 11, 12, 13, 14, 15, 16, 17, 18, 19, 20, 21, 22, 23, 24, 25, 26, 27, 28, 29, 30, 31, 32, 33, 34, 35, 36, 37, 38, 39] rfl) (hD.sub [0, 1, 2, 3, 4, 5, 6, 7, 8, 9, 10, 11, 12, 13, 14, 15, 16, 17, 18, 19, 20, 21, 22, 23, 24, 25, 26, 27, 28, 29, 30, 31, 32, 33, 34, 35, 36, 37, 38, 39] (by decide) rfl) hS (lv_sub hl [0, 1, 2, 3, 4] rfl)
    · refine lv_tableIn (tgt := 526) (off := 487) hx hb dL_law_39 (by decide) (by decide) rfl (by decide) ?_
      exact law_9 hno C0 hA hA2 hbA hX hK (hP.sub [0, 1, 2, 3, 4, 5, 6, 7, 8, 9, 10, 11, 12, 13, 14, 15, 16, 17, 18, 19, 20, 21, 22, 23, 24, 25, 26, 27, 28, 29, 30, 31, 32, 33, 34, 35, 36, 37, 38, 39] rfl) (hD.sub [0, 1, 2, 3, 4, 5, 6, 7, 8, 9, 10, 11, 12, 13, 14, 15, 16, 17, 18, 19, 20, 21, 22, 23, 24, 25, 26, 27, 28, 29, 30, 31, 32, 33, 34, 35, 36, 37, 38, 39] (by decide) rfl) hS (lv_sub hl [0, 1, 2, 3, 4] rfl)
    · refine lv_tableIn (tgt := 581) (off := 542) hx hb dL_law_39 (by decide) (by decide) rfl (by decide) ?_
      exact law_10 hno C0 hA hA2 hbA hX hK (hP.sub [0, 1, 2, 3, 4, 5, 6, 7, 8, 9, 10, 11, 12, 13, 14, 15, 16, 17, 18, 19, 20, 21, 22, 23, 24, 25, 26, 27, 28, 29, 30, 31, 32, 33, 34, 35, 36, 37, 38, 39] rfl) (hD.sub [0, 1, 2, 3, 4, 5, 6, 7, 8, 9, 10, 11, 12, 13, 14, 15, 16, 17, 18, 19, 20, 21, 22, 23, 24, 25, 26, 27, 28, 29, 30, 31, 32, 33, 34, 35, 36, 37, 38, 39] (by decide) rfl) hS (lv_sub hl [0, 1, 2, 3, 4] rfl)
    · refine lv_tableIn (tgt := 649) (off := 610) hx hb dL_law_39 (by decide) (by decide) rfl (by decide) ?_
      exact law_11 hno C0 hA hA2 hbA hX hK (hP.sub [0, 1, 2, 3, 4, 5, 6, 7, 8, 9, 10, 11, 12, 13, 14, 15, 16, 17, 18, 19, 20, 21, 22, 23, 24, 25, 26, 27, 28, 29, 30, 31, 32, 33, 34, 35, 36, 37, 38, 39] rfl) (hD.sub [0, 1, 2, 3, 4, 5, 6, 7, 8, 9, 10, 11, 12, 13, 14, 15, 16, 17, 18, 19, 20, 21, 22, 23, 24, 25, 26, 27, 28, 29, 30, 31, 32, 33, 34, 35, 36, 37, 38, 39] (by decide) rfl) hS (lv_sub hl [0, 1, 2, 3, 4] rfl)
    · refine lv_tableIn (tgt := 685) (off := 646) hx hb dL_law_39 (by decide) (by decide) rfl (by decide) ?_
      exact law_12 hno C0 hA hA2 hbA hX hK (hP.sub [0, 1, 2, 3, 4, 5, 6, 7, 8, 9, 10, 11, 12, 13, 14, 15, 16, 17, 18, 19, 20, 21, 22, 23, 24, 25, 26, 27, 28, 29, 30, 31, 32, 33, 34, 35, 36, 37, 38, 39] rfl) (hD.sub [0, 1, 2, 3, 4, 5, 6, 7, 8, 9, 10, 11, 12, 13, 14, 15, 16, 17, 18, 19, 20, 21, 22, 23, 24, 25, 26, 27, 28, 29, 30, 31, 32, 33, 34, 35, 36, 37, 38, 39] (by decide) rfl) hS (lv_sub hl [0, 1, 2, 3, 4] rfl)
    · refine lv_tableIn (tgt := 699) (off := 660) hx hb dL_law_39 (by decide) (by decide) rfl (by decide) ?_
      exact law_13 hno C0 hA hA2 hbA hX hK (hP.sub [0, 1, 2, 3, 4, 5, 6, 7, 8, 9, 10, 11, 12, 13, 14, 15, 16, 17, 18, 19, 20, 21, 22, 23, 24, 25, 26, 27, 28, 29, 30, 31, 32, 33, 34, 35, 36, 37, 38, 39] rfl) (hD.sub [0, 1, 2, 3, 4, 5, 6, 7, 8, 9, 10, 11, 12, 13, 14, 15, 16, 17, 18, 19, 20, 21, 22, 23, 24, 25, 26, 27, 28, 29, 30, 31, 32, 33, 34, 35, 36, 37, 38, 39] (by decide) rfl) hS (lv_sub hl [0, 1, 2, 3, 4] rfl)
    · refine lv_tableIn (tgt := 766) (off := 727) hx hb dL_law_39 (by decide) (by decide) rfl (by decide) ?_
      exact law_14 hno C0 hA hA2 hbA hX hK (hP.sub [0, 1, 2, 3, 4, 5, 6, 7, 8, 9, 10, 11, 12, 13, 14, 15, 16, 17, 18, 19, 20, 21, 22, 23, 24, 25, 26, 27, 28, 29, 30, 31, 32, 33, 34, 35, 36, 37, 38, 39] rfl) (hD.sub [0, 1, 2, 3, 4, 5, 6, 7, 8, 9, 10, 11, 12, 13, 14, 15, 16, 17, 18, 19, 20, 21, 22, 23, 24, 25, 26, 27, 28, 29, 30, 31, 32, 33, 34, 35, 36, 37, 38, 39] (by decide) rfl) hS (lv_sub hl [0, 1, 2, 3, 4] rfl)
    · refine lv_tableOut (tgt := 834) hx hb dL_law_39 (by decide) (by decide) ?_
      exact law_end (by decide) (by decide) C0 hA2 hbA hS (lv_sub hl [0, 4] rfl)
  · skip
    refine lv_iload hx hb dL_law_23 (lv_at hl 0 rfl) ?_
    refine lv_aload_n hx hb dL_law_25 rfl (lv_at hl 4 rfl) ?_
    refine va_slen hx hb hXs hbl hbA hS dL_law_26 ?_
    refine lc_i (v := 0) (by first | rfl | decide) ?_
    refine lv_iconst (v := 4) hx hb dL_law_27 (by decide) ?_
    refine lv_isub hx hb dL_law_28 ?_
    refine lc_i (v := (-4)) (by first | rfl | decide) ?_
    refine lv_icmp_gt (tgt := 840) hx hb dL_law_29 (by decide) (fun c_9 => ?_) (fun c_9 => ?_)
    rotate_left
    · exact absurd (by decide) c_9
    refine lv_iconst (v := 1) hx hb dL_law_840 (by decide) ?_
    refine va_forget (fun q hq => hA2 _ (hS.2.2 q hq)) ?_
    refine W.widen (k := 51) (n := 16405) (by decide) (by decide) ?_
    exact lw_ret hx hb hr hlocks dL_law_841
  · skip
    refine lv_iload hx hb dL_law_23 (lv_at hl 0 rfl) ?_
    refine lv_aload_n hx hb dL_law_25 rfl (lv_at hl 4 rfl) ?_
    refine va_slen hx hb hXs hbl hbA hS dL_law_26 ?_
    refine lc_i (v := 1) (by first | rfl | decide) ?_
    refine lv_iconst (v := 4) hx hb dL_law_27 (by decide) ?_
    refine lv_isub hx hb dL_law_28 ?_
    refine lc_i (v := (-3)) (by first | rfl | decide) ?_
    refine lv_icmp_gt (tgt := 840) hx hb dL_law_29 (by decide) (fun c_10 => ?_) (fun c_10 => ?_)
    rotate_left
    · exact absurd (by decide) c_10
    refine lv_iconst (v := 1) hx hb dL_law_840 (by decide) ?_
    refine va_forget (fun q hq => hA2 _ (hS.2.2 q hq)) ?_
    refine W.widen (k := 51) (n := 16405) (by decide) (by decide) ?_
    exact lw_ret hx hb hr hlocks dL_law_841
  · skip
    refine lv_iload hx hb dL_law_23 (lv_at hl 0 rfl) ?_
    refine lv_aload_n hx hb dL_law_25 rfl (lv_at hl 4 rfl) ?_
    refine va_slen hx hb hXs hbl hbA hS dL_law_26 ?_
    refine lc_i (v := 2) (by first | rfl | decide) ?_
    refine lv_iconst (v := 4) hx hb dL_law_27 (by decide) ?_
    refine lv_isub hx hb dL_law_28 ?_
    refine lc_i (v := (-2)) (by first | rfl | decide) ?_
    refine lv_icmp_gt (tgt := 840) hx hb dL_law_29 (by decide) (fun c_11 => ?_) (fun c_11 => ?_)
    rotate_left
    · exact absurd (by decide) c_11
    refine lv_iconst (v := 1) hx hb dL_law_840 (by decide) ?_
    refine va_forget (fun q hq => hA2 _ (hS.2.2 q hq)) ?_
    refine W.widen (k := 51) (n := 16405) (by decide) (by decide) ?_
    exact lw_ret hx hb hr hlocks dL_law_841
  · skip
    refine lv_iload hx hb dL_law_23 (lv_at hl 0 rfl) ?_
    refine lv_aload_n hx hb dL_law_25 rfl (lv_at hl 4 rfl) ?_
    refine va_slen hx hb hXs hbl hbA hS dL_law_26 ?_
    refine lc_i (v := 3) (by first | rfl | decide) ?_
    refine lv_iconst (v := 4) hx hb dL_law_27 (by decide) ?_
    refine lv_isub hx hb dL_law_28 ?_
    refine lc_i (v := (-1)) (by first | rfl | decide) ?_
    refine lv_icmp_gt (tgt := 840) hx hb dL_law_29 (by decide) (fun c_12 => ?_) (fun c_12 => ?_)
    rotate_left
    · exact absurd (by decide) c_12
    refine lv_iconst (v := 1) hx hb dL_law_840 (by decide) ?_
    refine va_forget (fun q hq => hA2 _ (hS.2.2 q hq)) ?_
    refine W.widen (k := 51) (n := 16405) (by decide) (by decide) ?_
    exact lw_ret hx hb hr hlocks dL_law_841
