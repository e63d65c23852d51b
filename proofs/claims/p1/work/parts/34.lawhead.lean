/-! THE CLAIM OUT OF ONE WALK OF THE LAW'S BODY. Your part is whole_start (and what it stands on); all else here is the same for every law, but numbers. -/
def R_law : String := "CommunityLevelsLaw"
def lw_P (b : Addr) (xs : List Int32) (args : Array Value) (s : State) : Prop := args = #[.ref b] ∧ s.IntsAt b xs ∧ xs.length ≤ 4 ∧ (Jvm.Cond.and given_1 narrow_1).before args s = true
def lw_Q (_ : Array Value) (s : State) (o : Outcome) (t : State) : Prop := o = .returned (some (.int 1)) ∧ Framed s o t [] 51 16405
def lw_Z (below : List Frame) (a : Array Value) (s : State) : State → Prop := fun t => ∃ o, t.status = .running ∧ Ended t below o ∧ lw_Q a s o t
/-- the law's own end, with 1 on the stack, nothing written that was there before, its room as the claim has it -/
theorem lw_ret {p : Program} {l : Launch} {e : Env} {s : State} {m : MethodId} {below : List Frame} {meth : Method} {c : Code} {b : Nat} (hx : p.tables.exec = Jvm.exec) (hb : c.code = code) (hr : meth.sig.returnType = ret) (hlocks : meth.locks = false) {pc : Nat} {H : Heap} {ls : Array Slot} (hdg : decode code pc = .ok (.ireturn, 1)) : W p l e room_1 s m #[Value.ref b] below meth c H [] 51 16405 (lw_Z below #[Value.ref b] s) (F0 m pc ls [.int 1]) := by
  intro T hT X
  obtain ⟨fs, hret, hrun, hended, hW, hframe⟩ := X.leave (v := some (.int 1)) (hlocks := hlocks) (fun h => by rw [hr] at h; cases h)
  have hmeth' : T.vm.method? m = some meth := X.method'
  refine ⟨T.setFrames fs, ?_, .returned (some (.int 1)), hrun, hended, rfl, ⟨_, rfl⟩, hW, hframe⟩
  jvm_step X.here [X.here.top, hx, hb, hdg, hmeth', hr, ret, narrow_b1]
  (try refine ⟨rfl, ?_⟩); (try refine ⟨rfl, ?_⟩)
  first | (intro acts; rw [hret _ acts rfl rfl rfl]) | rw [hret _ _ rfl rfl rfl]
  exact Steps.refl _
/-- what holds at the law's entry: the machine, the code, the tables' words (any of lw_tbl by 'hts w (by decide +kernel)'), the script of L ints xs at the cell b, what the Statement gives of the start (any of its parts by flat_of_before) -/
def lw_At (p : Program) (s : State) (m : MethodId) (meth : Method) (c : Code) (b L : Nat) (xs : Nat → Int32) : Prop :=
  p.tables.exec = Jvm.exec ∧ c.code = code ∧ meth.sig.returnType = ret ∧ c.maxLocals = 8 ∧ s.vm.findClass R_law = some m.cls ∧ (∀ w ∈ lw_tbl, w.before #[Value.ref b] s = true) ∧ va_X b L xs s s.heap ∧ b < s.heap.size ∧ meth.locks = false ∧ (Jvm.Cond.and given_1 narrow_1).before #[Value.ref b] s = true
theorem z_of {n : Int32} (h : ¬ (n < 0 ∨ 1 ≤ n)) : n = 0 := by
  have h1 : ¬ n < 0 := fun q => h (Or.inl q)
  obtain ⟨j, hj, rfl⟩ := nI_of h1
  have h2 : ¬ nI 1 ≤ nI j := fun q => h (Or.inr q)
  have h3 : ¬ 1 ≤ j := fun q => h2 (nI_le q hj)
  have h4 : j = 0 := by omega
  subst h4
  rfl
theorem n_of {n : Int32} (h : ¬ (n < 1 ∨ 40 < n)) : ∃ k : Nat, 1 ≤ k ∧ k ≤ 40 ∧ n = nI k := by
  have h1 : ¬ n < 1 := fun q => h (Or.inl q)
  have h2 : ¬ 40 < n := fun q => h (Or.inr q)
  have h0 : ¬ n < 0 := fun q => h1 (Int32.lt_trans q (by decide))
  obtain ⟨j, hj, rfl⟩ := nI_of h0
  refine ⟨j, ?_, ?_, rfl⟩
  · rcases Nat.lt_or_ge j 1 with q | q
    · exact absurd (show nI j < nI 1 from nI_lt q (by decide)) h1
    · exact q
  · rcases Nat.lt_or_ge 40 j with q | q
    · exact absurd (show nI 40 < nI j from nI_lt q hj) h2
    · exact q
theorem a_of {n : Int32} (h : ¬ (n < 0 ∨ 4 < n)) : n = 0 ∨ n = 1 ∨ n = 2 ∨ n = 3 ∨ n = 4 := by
  have h0 : ¬ n < 0 := fun q => h (Or.inl q)
  have h2 : ¬ 4 < n := fun q => h (Or.inr q)
  obtain ⟨j, hj, rfl⟩ := nI_of h0
  have h3 : j ≤ 4 := by
    rcases Nat.lt_or_ge 4 j with q | q
    · exact absurd (show nI 4 < nI j from nI_lt q hj) h2
    · exact q
  rcases (show j = 0 ∨ j = 1 ∨ j = 2 ∨ j = 3 ∨ j = 4 by omega) with rfl | rfl | rfl | rfl | rfl
  · exact Or.inl rfl
  · exact Or.inr (Or.inl rfl)
  · exact Or.inr (Or.inr (Or.inl rfl))
  · exact Or.inr (Or.inr (Or.inr (Or.inl rfl)))
  · exact Or.inr (Or.inr (Or.inr (Or.inr rfl)))
theorem vzB_in : ∀ w ∈ vzB, w ∈ lw_tbl := by decide +kernel
theorem vzS_in : ∀ x ∈ vzS, Cond.stringRef RX4 x.1 x.2 ∈ lw_tbl := by decide +kernel
set_option maxRecDepth 100000 in
theorem law_vz {b : Nat} {s : State} {A : Nat → Prop} (hts0 : ∀ w ∈ lw_tbl, w.before #[Value.ref b] s = true) (hgv : (Jvm.Cond.and given_1 narrow_1).before #[Value.ref b] s = true) (hA : ∀ a : Nat, a < s.heap.size → ¬ A a) : vz A s s.heap := by
  have hn := flat_of_before _ hgv
  have i1 := hts0 (.initialized Bundle.tN) (by decide +kernel)
  refine ⟨vx_Zqof (hts0 (.laysStatic Bundle.tN "UNASSIGNED_STACK" Bundle.steD) (by decide +kernel)) i1 (hn (.isRef (.static Bundle.tN "UNASSIGNED_STACK" Bundle.steD)) (by decide +kernel)) hA,
    vx_Zqof (hts0 (.laysStatic Bundle.tN "SUPPRESSED_SENTINEL" Bundle.listD) (by decide +kernel)) i1 (hn (.isRef (.static Bundle.tN "SUPPRESSED_SENTINEL" Bundle.listD)) (by decide +kernel)) hA,
    fun w h => va_Nw.of (vz_on w h) (hts0 w (vzB_in w h)), va_Nc.of (hn (.not (.castable "java/lang/IllegalArgumentException" "java/lang/IndexOutOfBoundsException")) (by decide +kernel)), fun x hx => ?_⟩
  have h1 := hts0 _ (vzS_in x hx)
  have h2 : ∃ cur, s.vm.findClass RX4 = some cur := by
    obtain ⟨cur, iS9, h⟩ := u_known (C := RX4) (T := TX4) (N := 7) (n := 7) (fun w h => hts0 w (wsL_law_in w h)) inlX4 (hts0 (.instantiable RX4 7) (by decide +kernel))
    exact ⟨cur, h.2.1⟩
  obtain ⟨cur, hcur⟩ := h2
  obtain ⟨k, cf, i, a, -, -, -, -, -, hev⟩ := Cond.stringRef_spec hcur h1
  exact ⟨a, vk_R.of h1 hev⟩
set_option maxHeartbeats 4000000 in
set_option maxRecDepth 100000 in
theorem law_end {p : Program} {l : Launch} {e : Env} {s : State} {m : MethodId} {below : List Frame} {meth : Method} {c : Code} {b : Nat} {xs : Nat → Int32} {A : Nat → Prop} {H : Heap} {locs : List Loc} {ls : Array Slot} {k n : Nat} (hk : k ≤ 51) (hn : n ≤ 16405) (C0 : lw_At p s m meth c b 4 xs) (hA2 : ∀ q, A q → s.heap.size ≤ q) (hbA : ¬ A b) (hS : va_S A s.heap H locs) (hl : lv_has ls 8 [(4, .int 0), (0, .ref b)]) : W p l e room_1 s m #[Value.ref b] below meth c H locs k n (lw_Z below #[Value.ref b] s) (F0 m 834 ls []) := by
  obtain ⟨hx, hb, hr, hml, hown, hts0, hXs, hbl, hlocks, hgv⟩ := id C0
  refine lv_iinc (v := 4) (lv' := [(4, .int 4), (0, .ref b)]) hx hb dL_law_834 hl (k := 0) rfl (by decide) (by decide) rfl (fun ls hl => ?_)
  refine lv_goto (tgt := 23) hx hb dL_law_837 (by decide) ?_
  refine lv_iload hx hb dL_law_23 (lv_at hl 0 rfl) ?_
  refine lv_aload_n hx hb dL_law_25 rfl (lv_at hl 1 rfl) ?_
  refine va_slen hx hb hXs hbl hbA hS dL_law_26 ?_
  refine lc_i (v := 4) (by first | rfl | decide) ?_
  refine lv_iconst (v := 4) hx hb dL_law_27 (by decide) ?_
  refine lv_isub hx hb dL_law_28 ?_
  refine lc_i (v := 0) (by first | rfl | decide) ?_
  refine lv_icmp_gt (tgt := 840) hx hb dL_law_29 (by decide) (fun c_1 => ?_) (fun c_1 => ?_)
  rotate_left
  · exact absurd (by decide) c_1
  refine lv_iconst (v := 1) hx hb dL_law_840 (by decide) ?_
  refine va_forget (fun q hq => hA2 _ (hS.2.2 q hq)) ?_
  refine W.widen (k := 51) (n := 16405) hk hn ?_
  exact lw_ret hx hb hr hlocks dL_law_841
