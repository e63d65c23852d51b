section
-- ===== PART A: goes FIRST, ahead of the names: the tables' words, and 'selects' of the private methods out of them =====
/-- a private method of a class that the tables say can be made, by its rows of tables_1 -/
def lw_okq (q : MethodName × Nat) : Prop := (q.1.cls ≠ "java/lang/invoke/MethodHandle" ∧ q.1.cls ≠ "java/lang/invoke/VarHandle") ∧ Cond.instantiable q.1.cls q.2 ∈ tables_1 ∧ Cond.privateMethod q.1 ∈ tables_1 ∧ Cond.instanceMethod q.1 ∈ tables_1
theorem lw_p0 : lw_okq (⟨"CommunityLevels", "makeLevels", "()V"⟩, 7) := ⟨⟨by decide +kernel, by decide +kernel⟩, List.mem_of_getElem? (i := 15) (by decide +kernel), List.mem_of_getElem? (i := 141) (by decide +kernel), List.mem_of_getElem? (i := 142) (by decide +kernel)⟩
theorem lw_p1 : lw_okq (⟨"CommunityLevels", "makeLevel", "(I)Z"⟩, 7) := ⟨⟨by decide +kernel, by decide +kernel⟩, List.mem_of_getElem? (i := 15) (by decide +kernel), List.mem_of_getElem? (i := 164) (by decide +kernel), List.mem_of_getElem? (i := 165) (by decide +kernel)⟩
theorem lw_p2 : lw_okq (⟨"CommunityLevels", "makePass", "(I)Z"⟩, 7) := ⟨⟨by decide +kernel, by decide +kernel⟩, List.mem_of_getElem? (i := 15) (by decide +kernel), List.mem_of_getElem? (i := 178) (by decide +kernel), List.mem_of_getElem? (i := 179) (by decide +kernel)⟩
theorem lw_p3 : lw_okq (⟨"java/lang/Throwable", "fillInStackTrace", "(I)Ljava/lang/Throwable;"⟩, 6) := ⟨⟨by decide +kernel, by decide +kernel⟩, List.mem_of_getElem? (i := 282) (by decide +kernel), List.mem_of_getElem? (i := 280) (by decide +kernel), List.mem_of_getElem? (i := 281) (by decide +kernel)⟩
theorem lw_p4 : lw_okq (⟨"CommunityLevels", "forgetRun", "()V"⟩, 7) := ⟨⟨by decide +kernel, by decide +kernel⟩, List.mem_of_getElem? (i := 15) (by decide +kernel), List.mem_of_getElem? (i := 313) (by decide +kernel), List.mem_of_getElem? (i := 314) (by decide +kernel)⟩
theorem lw_p5 : lw_okq (⟨"CommunityLevels", "requireNode", "(I)V"⟩, 7) := ⟨⟨by decide +kernel, by decide +kernel⟩, List.mem_of_getElem? (i := 15) (by decide +kernel), List.mem_of_getElem? (i := 325) (by decide +kernel), List.mem_of_getElem? (i := 326) (by decide +kernel)⟩
theorem lw_p6 : lw_okq (⟨"CommunityLevels", "requireLevel", "(I)V"⟩, 7) := ⟨⟨by decide +kernel, by decide +kernel⟩, List.mem_of_getElem? (i := 15) (by decide +kernel), List.mem_of_getElem? (i := 357) (by decide +kernel), List.mem_of_getElem? (i := 358) (by decide +kernel)⟩
theorem lw_p7 : lw_okq (⟨"CommunityLevels", "requireFact", "(I)V"⟩, 7) := ⟨⟨by decide +kernel, by decide +kernel⟩, List.mem_of_getElem? (i := 15) (by decide +kernel), List.mem_of_getElem? (i := 362) (by decide +kernel), List.mem_of_getElem? (i := 363) (by decide +kernel)⟩
theorem lw_p8 : lw_okq (⟨"CommunityLevels", "requireTold", "(I)V"⟩, 7) := ⟨⟨by decide +kernel, by decide +kernel⟩, List.mem_of_getElem? (i := 15) (by decide +kernel), List.mem_of_getElem? (i := 388) (by decide +kernel), List.mem_of_getElem? (i := 389) (by decide +kernel)⟩
theorem lw_p9 : lw_okq (⟨"CommunityLevels", "requireCommunity", "(I)V"⟩, 7) := ⟨⟨by decide +kernel, by decide +kernel⟩, List.mem_of_getElem? (i := 15) (by decide +kernel), List.mem_of_getElem? (i := 407) (by decide +kernel), List.mem_of_getElem? (i := 408) (by decide +kernel)⟩
theorem lw_p10 : lw_okq (⟨"CommunityLevelsModel", "forget", "()V"⟩, 17) := ⟨⟨by decide +kernel, by decide +kernel⟩, List.mem_of_getElem? (i := 435) (by decide +kernel), List.mem_of_getElem? (i := 501) (by decide +kernel), List.mem_of_getElem? (i := 502) (by decide +kernel)⟩
theorem lw_p11 : lw_okq (⟨"CommunityLevelsModel", "noNode", "(I)Z"⟩, 17) := ⟨⟨by decide +kernel, by decide +kernel⟩, List.mem_of_getElem? (i := 435) (by decide +kernel), List.mem_of_getElem? (i := 509) (by decide +kernel), List.mem_of_getElem? (i := 510) (by decide +kernel)⟩
theorem lw_p12 : lw_okq (⟨"CommunityLevelsModel", "all", "()J"⟩, 17) := ⟨⟨by decide +kernel, by decide +kernel⟩, List.mem_of_getElem? (i := 435) (by decide +kernel), List.mem_of_getElem? (i := 513) (by decide +kernel), List.mem_of_getElem? (i := 514) (by decide +kernel)⟩
theorem lw_p13 : lw_okq (⟨"CommunityLevelsModel", "first", "()V"⟩, 17) := ⟨⟨by decide +kernel, by decide +kernel⟩, List.mem_of_getElem? (i := 435) (by decide +kernel), List.mem_of_getElem? (i := 522) (by decide +kernel), List.mem_of_getElem? (i := 523) (by decide +kernel)⟩
theorem lw_p14 : lw_okq (⟨"CommunityLevelsModel", "prepare", "()V"⟩, 17) := ⟨⟨by decide +kernel, by decide +kernel⟩, List.mem_of_getElem? (i := 435) (by decide +kernel), List.mem_of_getElem? (i := 526) (by decide +kernel), List.mem_of_getElem? (i := 527) (by decide +kernel)⟩
theorem lw_p15 : lw_okq (⟨"CommunityLevelsModel", "sum", "()J"⟩, 17) := ⟨⟨by decide +kernel, by decide +kernel⟩, List.mem_of_getElem? (i := 435) (by decide +kernel), List.mem_of_getElem? (i := 530) (by decide +kernel), List.mem_of_getElem? (i := 531) (by decide +kernel)⟩
def lw_privs_1 : List (MethodName × Nat) := [(⟨"CommunityLevels", "makeLevels", "()V"⟩, 7), (⟨"CommunityLevels", "makeLevel", "(I)Z"⟩, 7), (⟨"CommunityLevels", "makePass", "(I)Z"⟩, 7), (⟨"java/lang/Throwable", "fillInStackTrace", "(I)Ljava/lang/Throwable;"⟩, 6), (⟨"CommunityLevels", "forgetRun", "()V"⟩, 7), (⟨"CommunityLevels", "requireNode", "(I)V"⟩, 7), (⟨"CommunityLevels", "requireLevel", "(I)V"⟩, 7), (⟨"CommunityLevels", "requireFact", "(I)V"⟩, 7), (⟨"CommunityLevels", "requireTold", "(I)V"⟩, 7), (⟨"CommunityLevels", "requireCommunity", "(I)V"⟩, 7), (⟨"CommunityLevelsModel", "forget", "()V"⟩, 17), (⟨"CommunityLevelsModel", "noNode", "(I)Z"⟩, 17), (⟨"CommunityLevelsModel", "all", "()J"⟩, 17), (⟨"CommunityLevelsModel", "first", "()V"⟩, 17), (⟨"CommunityLevelsModel", "prepare", "()V"⟩, 17), (⟨"CommunityLevelsModel", "sum", "()J"⟩, 17)]
theorem lw_r1 : ∀ q ∈ lw_privs_1, lw_okq q := List.forall_mem_cons.mpr ⟨lw_p0, List.forall_mem_cons.mpr ⟨lw_p1, List.forall_mem_cons.mpr ⟨lw_p2, List.forall_mem_cons.mpr ⟨lw_p3, List.forall_mem_cons.mpr ⟨lw_p4, List.forall_mem_cons.mpr ⟨lw_p5, List.forall_mem_cons.mpr ⟨lw_p6, List.forall_mem_cons.mpr ⟨lw_p7, List.forall_mem_cons.mpr ⟨lw_p8, List.forall_mem_cons.mpr ⟨lw_p9, List.forall_mem_cons.mpr ⟨lw_p10, List.forall_mem_cons.mpr ⟨lw_p11, List.forall_mem_cons.mpr ⟨lw_p12, List.forall_mem_cons.mpr ⟨lw_p13, List.forall_mem_cons.mpr ⟨lw_p14, List.forall_mem_cons.mpr ⟨lw_p15, fun _ h => absurd h List.not_mem_nil⟩⟩⟩⟩⟩⟩⟩⟩⟩⟩⟩⟩⟩⟩⟩⟩
theorem lw_p16 : lw_okq (⟨"CommunityLevelsModel", "degree", "(I)J"⟩, 17) := ⟨⟨by decide +kernel, by decide +kernel⟩, List.mem_of_getElem? (i := 435) (by decide +kernel), List.mem_of_getElem? (i := 534) (by decide +kernel), List.mem_of_getElem? (i := 535) (by decide +kernel)⟩
theorem lw_p17 : lw_okq (⟨"CommunityLevelsModel", "come", "(I)Z"⟩, 17) := ⟨⟨by decide +kernel, by decide +kernel⟩, List.mem_of_getElem? (i := 435) (by decide +kernel), List.mem_of_getElem? (i := 538) (by decide +kernel), List.mem_of_getElem? (i := 539) (by decide +kernel)⟩
theorem lw_p18 : lw_okq (⟨"CommunityLevelsModel", "isNear", "(II)Z"⟩, 17) := ⟨⟨by decide +kernel, by decide +kernel⟩, List.mem_of_getElem? (i := 435) (by decide +kernel), List.mem_of_getElem? (i := 542) (by decide +kernel), List.mem_of_getElem? (i := 543) (by decide +kernel)⟩
theorem lw_p19 : lw_okq (⟨"CommunityLevelsModel", "gainOf", "(II)J"⟩, 17) := ⟨⟨by decide +kernel, by decide +kernel⟩, List.mem_of_getElem? (i := 435) (by decide +kernel), List.mem_of_getElem? (i := 546) (by decide +kernel), List.mem_of_getElem? (i := 547) (by decide +kernel)⟩
theorem lw_p20 : lw_okq (⟨"CommunityLevelsModel", "isAlone", "(I)Z"⟩, 17) := ⟨⟨by decide +kernel, by decide +kernel⟩, List.mem_of_getElem? (i := 435) (by decide +kernel), List.mem_of_getElem? (i := 552) (by decide +kernel), List.mem_of_getElem? (i := 553) (by decide +kernel)⟩
theorem lw_p21 : lw_okq (⟨"CommunityLevelsModel", "isEmpty", "(I)Z"⟩, 17) := ⟨⟨by decide +kernel, by decide +kernel⟩, List.mem_of_getElem? (i := 435) (by decide +kernel), List.mem_of_getElem? (i := 556) (by decide +kernel), List.mem_of_getElem? (i := 557) (by decide +kernel)⟩
theorem lw_p22 : lw_okq (⟨"CommunityLevelsModel", "number", "()I"⟩, 17) := ⟨⟨by decide +kernel, by decide +kernel⟩, List.mem_of_getElem? (i := 435) (by decide +kernel), List.mem_of_getElem? (i := 560) (by decide +kernel), List.mem_of_getElem? (i := 561) (by decide +kernel)⟩
theorem lw_p23 : lw_okq (⟨"CommunityLevelsModel", "modularityNow", "()J"⟩, 17) := ⟨⟨by decide +kernel, by decide +kernel⟩, List.mem_of_getElem? (i := 435) (by decide +kernel), List.mem_of_getElem? (i := 564) (by decide +kernel), List.mem_of_getElem? (i := 565) (by decide +kernel)⟩
theorem lw_p24 : lw_okq (⟨"CommunityLevelsModel", "shrink", "(I)V"⟩, 17) := ⟨⟨by decide +kernel, by decide +kernel⟩, List.mem_of_getElem? (i := 435) (by decide +kernel), List.mem_of_getElem? (i := 568) (by decide +kernel), List.mem_of_getElem? (i := 569) (by decide +kernel)⟩
theorem lw_p25 : lw_okq (⟨"CommunityLevelsModel", "noLevel", "(I)Z"⟩, 17) := ⟨⟨by decide +kernel, by decide +kernel⟩, List.mem_of_getElem? (i := 435) (by decide +kernel), List.mem_of_getElem? (i := 580) (by decide +kernel), List.mem_of_getElem? (i := 581) (by decide +kernel)⟩
theorem lw_p26 : lw_okq (⟨"CommunityLevelsModel", "noMove", "(I)Z"⟩, 17) := ⟨⟨by decide +kernel, by decide +kernel⟩, List.mem_of_getElem? (i := 435) (by decide +kernel), List.mem_of_getElem? (i := 600) (by decide +kernel), List.mem_of_getElem? (i := 601) (by decide +kernel)⟩
theorem lw_p27 : lw_okq (⟨"CommunityLevelsModel", "ownNow", "()V"⟩, 17) := ⟨⟨by decide +kernel, by decide +kernel⟩, List.mem_of_getElem? (i := 435) (by decide +kernel), List.mem_of_getElem? (i := 620) (by decide +kernel), List.mem_of_getElem? (i := 621) (by decide +kernel)⟩
def lw_privs_2 : List (MethodName × Nat) := [(⟨"CommunityLevelsModel", "degree", "(I)J"⟩, 17), (⟨"CommunityLevelsModel", "come", "(I)Z"⟩, 17), (⟨"CommunityLevelsModel", "isNear", "(II)Z"⟩, 17), (⟨"CommunityLevelsModel", "gainOf", "(II)J"⟩, 17), (⟨"CommunityLevelsModel", "isAlone", "(I)Z"⟩, 17), (⟨"CommunityLevelsModel", "isEmpty", "(I)Z"⟩, 17), (⟨"CommunityLevelsModel", "number", "()I"⟩, 17), (⟨"CommunityLevelsModel", "modularityNow", "()J"⟩, 17), (⟨"CommunityLevelsModel", "shrink", "(I)V"⟩, 17), (⟨"CommunityLevelsModel", "noLevel", "(I)Z"⟩, 17), (⟨"CommunityLevelsModel", "noMove", "(I)Z"⟩, 17), (⟨"CommunityLevelsModel", "ownNow", "()V"⟩, 17)]
theorem lw_r2 : ∀ q ∈ lw_privs_2, lw_okq q := List.forall_mem_cons.mpr ⟨lw_p16, List.forall_mem_cons.mpr ⟨lw_p17, List.forall_mem_cons.mpr ⟨lw_p18, List.forall_mem_cons.mpr ⟨lw_p19, List.forall_mem_cons.mpr ⟨lw_p20, List.forall_mem_cons.mpr ⟨lw_p21, List.forall_mem_cons.mpr ⟨lw_p22, List.forall_mem_cons.mpr ⟨lw_p23, List.forall_mem_cons.mpr ⟨lw_p24, List.forall_mem_cons.mpr ⟨lw_p25, List.forall_mem_cons.mpr ⟨lw_p26, List.forall_mem_cons.mpr ⟨lw_p27, fun _ h => absurd h List.not_mem_nil⟩⟩⟩⟩⟩⟩⟩⟩⟩⟩⟩⟩
def lw_privs : List (MethodName × Nat) := lw_privs_1 ++ (lw_privs_2)
def lw_tbl : List Cond := k2_sels lw_privs ++ tables_1
theorem lw_privs_ok : ∀ q ∈ lw_privs, lw_okq q := by
  show ∀ q ∈ lw_privs_1 ++ (lw_privs_2), lw_okq q
  exact List.forall_mem_append.mpr ⟨lw_r1, lw_r2⟩
end
section
section XC
/-- the state when row x of a table has been asked of its class -/
theorem xc_row {Q : Handler → Pre} {E : CtlPost} {e : Env} {d : Bool} {acts : List Action} {s : State} {f : JFrame} {a : Addr} {x : ExceptionTableEntry} {t : List ExceptionTableEntry} {k : ClassId} {cell : Cell}
    (hx : covers x f.pc = true) (h0 : x.catchType ≠ 0) (hl : s.vm.ClassLinks e.platform f.method.cls x.catchType k) (hcell : s.heap[a]? = some cell) (hobj : ∀ z, cell.vm ≠ .statics z)
    (h1 : ∃ z, s.vm.classes[cell.cls]? = some z) (h2 : ∃ z, s.vm.classes[k]? = some z) :
    wp (findHandler.go f a (x :: t)) Q E e d acts s ↔
      if s.vm.assignable cell.cls k = true then Q (.found x.handlerPc) d acts (s.setVm (s.vm.noted f.method.cls x.catchType (.cls k)))
      else wp (findHandler.go f a t) Q E e d acts (s.setVm (s.vm.noted f.method.cls x.catchType (.cls k))) := by
  simp only [covers] at hx
  obtain ⟨ga, gt⟩ := (resolveClass_links e.toSetting hl).op (op := VmOp.resolveClass f.method.cls x.catchType) rfl
  have al : s.vm.Alike (s.vm.noted f.method.cls x.catchType (.cls k)) := (Vm.Alike.refl s.vm).noted _ _ _
  obtain ⟨z1, e1⟩ := h1
  obtain ⟨z2, e2⟩ := h2
  obtain ⟨y1, e3, -⟩ := al.2.2 _ _ e1
  obtain ⟨y2, e4, -⟩ := al.2.2 _ _ e2
  have e5 : (s.vm.noted f.method.cls x.catchType (.cls k)).assignable cell.cls k = s.vm.assignable cell.cls k := by rw [al.assignable]
  cases hq : s.vm.assignable cell.cls k <;> rw [hq] at e5 <;> simp [findHandler.go, hx, h0, ga, gt, hcell, hobj, e3, e4, e5, VmOp.dirties, VmOp.acts]
/-- a row that doesn't take what is thrown: it lies elsewhere, or names a class that isn't above it -/
def xc_pass (pl : Platform) (s₀ : State) (d : ClassId) (pc : Nat) (th : ClassId) (y : ExceptionTableEntry) : Prop :=
  covers y pc = false ∨ (y.catchType ≠ 0 ∧ ∃ k, s₀.vm.ClassLinks pl d y.catchType k ∧ s₀.vm.assignable th k = false)
theorem xc_find {e : Env} {s₀ : State} {f : JFrame} {a : Addr} {cell : Cell} {x : ExceptionTableEntry} {rest : List ExceptionTableEntry} {k : ClassId} (hobj : ∀ z, cell.vm ≠ .statics z) (hk0 : ∃ z, s₀.vm.classes[cell.cls]? = some z)
    (hx : covers x f.pc = true) (h0 : x.catchType ≠ 0) (hl : s₀.vm.ClassLinks e.platform f.method.cls x.catchType k) (hfit : s₀.vm.assignable cell.cls k = true) :
    ∀ (pre : List ExceptionTableEntry) (S : State), s₀.WarmedH S.vm → S.heap[a]? = some cell → (∀ y ∈ pre, xc_pass e.platform s₀ f.method.cls f.pc cell.cls y) →
      ∃ vm', s₀.WarmedH vm' ∧ ∀ (Q : Handler → Pre) (E : CtlPost) (d : Bool) (acts : List Action), wp (findHandler.go f a (pre ++ x :: rest)) Q E e d acts S ↔ Q (.found x.handlerPc) d acts (S.setVm vm') := by
  obtain ⟨z0, hz0⟩ := hk0
  intro pre
  induction pre with
  | nil =>
    intro S hW hc _
    obtain ⟨z1, e1, -⟩ := hW.alike.2.2 _ _ hz0
    obtain ⟨dk, _, _, kt, hd, _, _, _, _, hkt, _, hopen⟩ := hl.here
    obtain ⟨z2, e2, -⟩ := hW.alike.2.2 _ _ hkt
    refine ⟨_, hW.noted hd hopen (State.rightAt_cls hl), fun Q E d acts => ?_⟩
    rw [List.nil_append, xc_row hx h0 (hW.classLinks hl) hc hobj ⟨z1, e1⟩ ⟨z2, e2⟩, if_pos (by rw [hW.alike.assignable]; exact hfit)]
  | cons y ys ih =>
    intro S hW hc hp
    have hp' : ∀ w ∈ ys, xc_pass e.platform s₀ f.method.cls f.pc cell.cls w := fun w hw => hp w (List.mem_cons_of_mem _ hw)
    cases hcov : covers y f.pc with
    | false =>
      obtain ⟨v, hv, hq⟩ := ih S hW hc hp'
      refine ⟨v, hv, fun Q E d acts => ?_⟩
      rw [List.cons_append, W.findHandler_go_skip hcov]
      exact hq Q E d acts
    | true =>
      rcases hp y List.mem_cons_self with h | ⟨n0, k2, hl2, hno⟩
      · rw [hcov] at h; cases h
      · obtain ⟨z1, e1, -⟩ := hW.alike.2.2 _ _ hz0
        obtain ⟨dk, _, _, kt, hd, _, _, _, _, hkt, _, hopen⟩ := hl2.here
        obtain ⟨z2, e2, -⟩ := hW.alike.2.2 _ _ hkt
        obtain ⟨v, hv, hq⟩ := ih (S.setVm (S.vm.noted f.method.cls y.catchType (.cls k2))) (hW.noted hd hopen (State.rightAt_cls hl2)) hc hp'
        refine ⟨v, hv, fun Q E d acts => ?_⟩
        rw [List.cons_append, xc_row hcov n0 (hW.classLinks hl2) hc hobj ⟨z1, e1⟩ ⟨z2, e2⟩, if_neg (by rw [hW.alike.assignable, hno]; exact Bool.false_ne_true)]
        exact hq Q E d acts
theorem xc_step {e : Env} {s : State} {a : Addr} {f : JFrame} {r : List Frame} {pc : Nat} {vm' : Vm} (hf : ∀ (Q : Handler → Pre) (E : CtlPost) (d : Bool) (acts : List Action), wp (findHandler f a) Q E e d acts s ↔ Q (.found pc) d acts (s.setVm vm')) :
    (stepThrowing e s a (.java f :: r)).1 = (s.setVm vm').setFrames (.java { f with pc := pc, stack := [.ref a] } :: r) := by
  simp only [stepThrowing, searchFrame, vmDo]
  generalize hr : Sem.go _ e false [] s = res
  obtain ⟨as, rfl, ha⟩ := Sem.eq_ok_of hr (a := Handler.found pc) (s' := s.setVm vm') (acts' := []) (by simp [hf _ _ _ _])
  rfl
/-- what was thrown over the frame g is caught by the row x -/
theorem xc_caught {p : Program} {l : Launch} {e : Env} {R : Room} {s : State} {m : MethodId} {args : Array Value} {below : List Frame} {meth : Method} {c : Code} {T : State} {locs : List Loc} {cells slots : Nat} (X : Stand p l e R s m args below meth c T locs cells slots) (a : Addr) {g : JFrame} (hg : g.method = m)
    {cell : Cell} {k : ClassId} (hcell : T.heap[a]? = some cell) (hobj : cell.vm.isStatics = false) (hk0 : ∃ z, s.vm.classes[cell.cls]? = some z)
    (pre : List ExceptionTableEntry) (x : ExceptionTableEntry) (rest : List ExceptionTableEntry) (hsplit : c.exceptionTable.toList = pre ++ x :: rest)
    (hpass : ∀ y ∈ pre, xc_pass e.platform s m.cls g.pc cell.cls y) (hx : covers x g.pc = true) (h0 : x.catchType ≠ 0) (hl : s.vm.ClassLinks e.platform m.cls x.catchType k) (hfit : s.vm.assignable cell.cls k = true) :
    ∃ vm', Stand p l e R s m args below meth c (T.setVm vm') locs cells slots ∧ Steps p.tables e below ((T.setTop g).pushFrame (.throwing a)) ((T.setVm vm').setTop { g with pc := x.handlerPc, stack := [.ref a] }) := by
  subst hg
  obtain ⟨vm', hW', hq⟩ := xc_find (e := e) (s₀ := s) (f := g) (a := a) (cell := cell) (x := x) (rest := rest) (VmData.ne_statics_of hobj) hk0 hx h0 hl hfit pre ((T.setTop g).pushFrame (.throwing a)) X.warmed hcell hpass
  refine ⟨vm', X.noted hW', ?_⟩
  have hm : ((T.setTop g).pushFrame (.throwing a)).vm.method? g.method = some meth := X.method'
  obtain ⟨hgo, hw⟩ := X.here.throwing (g := g) a
  refine Steps.head hgo hw ?_
  rw [stepThread_throwing (frames_entered X.here.top _), xc_step (s := (T.setTop g).pushFrame (.throwing a)) (pc := x.handlerPc) (vm' := vm') (fun Q E d acts => by rw [W.findHandler_eq hm X.code, hsplit]; exact hq Q E d acts)]
  obtain ⟨g₀, hg⟩ := Option.isSome_iff_exists.mp X.here.top
  obtain ⟨r, hr⟩ := State.topJava?_eq_some.mp hg
  have hr' : (T.setVm vm').frames = .java g₀ :: r := hr
  have e1 : ∀ (F G : List Frame), ((T.setFrames F).setVm vm').setFrames G = (T.setVm vm').setFrames G := fun F G => by
    rw [show (T.setFrames F).setVm vm' = (T.setVm vm').setFrames F from rfl, State.setFrames_setFrames]
  rw [hr, List.tail_cons, State.pushFrame, State.setTop_of_frames _ hr, State.setFrames_setFrames, e1, State.setTop_of_frames _ hr']
  exact Steps.refl _
end XC
/-! ===== BEGIN words of one list among another's, by their places ===== -/
theorem goodIn_r {big : List Cond} (ws : List Cond) (ps : List Nat) (hp : ws = ps.filterMap (fun i => big[i]?)) (h : ws.all goodWord = true) : GoodIn big ws := by
  intro w hw
  have h1 := List.all_eq_true.mp h w hw
  rw [hp] at hw
  obtain ⟨i, -, hi⟩ := List.mem_filterMap.mp hw
  have hm : w ∈ big := by first | exact List.mem_of_getElem? hi | exact List.getElem?_mem hi
  exact ⟨hm, good_of_word h1⟩
theorem goodIn_app {big a b : List Cond} (ha : GoodIn big a) (hb : GoodIn big b) : GoodIn big (a ++ b) := fun w h => (List.mem_append.mp h).elim (ha w) (hb w)
theorem goodIn_ca {big a b : List Cond} {c : Cond} (ha : GoodIn big (c :: a)) (hb : GoodIn big b) : GoodIn big (c :: (a ++ b)) := fun w h => (List.mem_cons.mp h).elim (fun e => ha w (List.mem_cons.mpr (Or.inl e))) (fun h => (List.mem_append.mp h).elim (fun h => ha w (List.mem_cons.mpr (Or.inr h))) (hb w))
theorem goodIn_sub {big ws : List Cond} (hm : ∀ w ∈ ws, w ∈ big) (h : ws.all goodWord = true) : GoodIn big ws := fun w hw => ⟨hm w hw, good_of_word (List.all_eq_true.mp h w hw)⟩
/-! ===== END ===== -/

/-! ===== BEGIN exceptions that leave a method, and their catching by the caller (launches without stack traces) ===== -/
section VXA
/-! The laws vx_back, vx_callV, vx_callS, vx_callSW, vx_throw0, vx_throwS follow proofs of the library, with one case more: JvmDerived/Free/Laws.lean (Back.of_free), Shelf42/LK1.lean (callV, callS), Shelf/KitTraced.lean (throwNew0V, throwNewS). -/
/-- where a method has thrown q: the class by its name, the cell, what was written, the world -/
def vx_T (XC : String → State → State → Prop) (st : State) (q : Addr) (t : State) (mc ms : Nat) (free : Addr → Prop) : Prop :=
  ∃ (E : String) (ce : Cell) (L : List Loc), XC E st t ∧ t.heap[q]? = some ce ∧ ce.vm = .none ∧ st.vm.findClass E = some ce.cls ∧ st.WarmedH t.vm ∧ st.sameButNew ({ t with vm := st.vm } : State) L mc ms ∧ ∀ z ∈ L, free z.base
def vx_Q (Qc : Array Value → State → Outcome → State → Prop) (XC : String → State → State → Prop) (mc ms : Nat) (free : Addr → Prop) : Array Value → State → Outcome → State → Prop := fun a st o t =>
  (Qc a st o t ∧ ∃ L, FrameEnd st o t L mc ms ∧ ∀ q ∈ L, free q.base) ∨ ∃ q, o = .threw q ∧ vx_T XC st q t mc ms free
/-- a callee that returns or throws -/
def vx_Met (l : Launch) (y : MethodName) (ws : List Cond) (rm : Room) (Pc : Array Value → State → Prop) (Qc : Array Value → State → Outcome → State → Prop) (XC : String → State → State → Prop) (mc ms : Nat) (free : Addr → Prop) : Prop :=
  MetFree l y (headSpec ws rm) Pc (fun _ _ _ _ _ => True) (vx_Q Qc XC mc ms free)
def vx_Post (XC : String → State → State → Prop) (mc ms : Nat) (free : Addr → Prop) : Pt → Array Value → Addr → Pt → Prop := fun A a q B =>
  ∃ (g : JFrame) (mk : MethodId) (t : State) (L : List Loc) (E : String) (ce : Cell), B.U.heap = t.heap ∧ B.U.vm = t.vm ∧ XC E (A.U.calling g mk a) t ∧ t.heap[q]? = some ce ∧ ce.vm = .none ∧ A.U.vm.findClass E = some ce.cls ∧ B.locs = A.locs ++ L ∧ (∀ z ∈ L, free z.base) ∧ B.cells = A.cells + mc ∧ B.slots = A.slots + ms
def vx_Back (l : Launch) (R : Room) (p : Program) (e : Env) (below : List Frame) (s : State) (sargs : Array Value) (y : MethodName) (len W9 : Nat)
    (Pre : Pt → Array Value → Prop) (Post : Pt → Array Value → Option Value → Pt → Prop) (PostX : Pt → Array Value → Addr → Pt → Prop) : Prop :=
  ∀ (m : MethodId) (meth : Method) (c : Code) (A : Pt) (g : JFrame) (ig : Instr) (mk : MethodId) (a : Array Value),
    Stand p l e R s m sargs below meth c A.U A.locs A.cells A.slots → g.method = m → g.locals.size = c.maxLocals → decode c.code g.pc = .ok (ig, len) →
    2 * g.monitorRoom + (g.stack.map fun v => v.category).sum ≤ W9 → A.U.methodNamed? y = some mk → Pre A a →
    (∃ (v : Option Value) (B : Pt), Stand p l e R s m sargs below meth c B.U B.locs B.cells B.slots ∧ Post A a v B ∧
      Steps p.tables e below (doInvoke e (A.U.setTop g) [] mk a).1 (B.U.setTop { g with pc := g.pc + len, stack := v.toList ++ g.stack })) ∨
    (∃ (q : Addr) (B : Pt), Stand p l e R s m sargs below meth c B.U B.locs B.cells B.slots ∧ PostX A a q B ∧
      Steps p.tables e below (doInvoke e (A.U.setTop g) [] mk a).1 ((B.U.setTop g).pushFrame (.throwing q)))
section Payer
variable {l : Launch} {R : Room} {p : Program} {e : Env} {below : List Frame} {s : State} {sargs : Array Value} {y : MethodName} {len W9 : Nat}
theorem vx_back {ws : List Cond} {rm : Room} {Pc : Array Value → State → Prop} {Qc : Array Value → State → Outcome → State → Prop} {XC : String → State → State → Prop} {mc ms : Nat} {free : Addr → Prop} {bytes : ByteArray} {maxL : Nat} {ret : Option FieldType}
    (hM : vx_Met l y ws rm Pc Qc XC mc ms free) (hblind : FrameBlind Pc) (hrc : rm.cells = mc) (hrs : rm.slots = ms)
    (hframes : rm.frames + 1 ≤ R.frames) (hlocals : W9 + (maxL + 11) + rm.locals ≤ R.locals)
    (hws : ∀ w ∈ ws, ∀ a' U, s.WarmedH U.vm → w.before a' U = true) (hcode : Cond.code y bytes maxL ret ∈ ws) (hinit : ∀ a' U, s.WarmedH U.vm → (Cond.initialized y.cls).before a' U = true) :
    vx_Back l R p e below s sargs y len W9 (PreOf R mc ms Pc) (PostOf Qc mc ms free) (vx_Post XC mc ms free) := by
  intro m meth c A g ig mk a X hg hsize hdg hW hn hp
  have h1 : (headSpec ws rm).pre.before a A.U = true := atoms_intro fun w hw => hws w hw _ _ X.warmed
  have h2 : (Cond.code y bytes maxL ret).before a A.U = true := hws _ hcode _ _ X.warmed
  have h3 : (Cond.initialized y.cls).before a A.U = true := hinit _ _ X.warmed
  have h4 : A.cells + (headSpec ws rm).room.cells ≤ R.cells := by rw [show (headSpec ws rm).room.cells = mc from hrc]; exact hp.1
  have h5 : A.slots + (headSpec ws rm).room.slots ≤ R.slots := by rw [show (headSpec ws rm).room.slots = ms from hrs]; exact hp.2.1
  have hPc : Pc a (A.U.calling g mk a) := hblind _ _ _ _ hp.2.2
  obtain ⟨U, Ls, c0, s0⟩ := A
  dsimp only [Pt.U, Pt.locs, Pt.cells, Pt.slots] at h1 h2 h3 h4 h5 X hn hPc ⊢
  obtain ⟨methY, cY, hmY, hcY, -, hlY, -, -, -, -⟩ := Cond.code_spec hn h2
  obtain ⟨kY, hkY, -⟩ := className_of_methodNamed hn
  have hinitY : kY.init = .initialized := Cond.initialized_spec (findClass_of_methodNamed hn) hkY h3
  have h : At U g.method c below := by rw [hg]; exact X.here
  have hlocals9 : W9 + (maxL + 11) + (headSpec ws rm).room.locals ≤ R.locals := hlocals
  have happ : (headSpec ws rm).appliesLoose y e.platform (U.calling g mk a) = true :=
    Spec.appliesLoose_calling (g := g) h hdg hn hkY hinitY
      (X.room_calling (g := g) (R' := (headSpec ws rm).room) hsize hmY hcY hframes (by rw [hlY]; omega) h4 h5) h1
  obtain ⟨mid, hmid⟩ := h.above
  have hfr : (U.setTop g).frames = (.java g :: mid) ++ below := by rw [State.frames_setTop' g h.top, hmid]; rfl
  obtain ⟨o, s₂, hsteps, -, hend, hq⟩ := Steps.callFree hM p X.admits X.cas X.clock (acts := []) hfr happ hPc trivial
  have hq' : vx_Q Qc XC mc ms free a (U.calling g mk a) o s₂ := hq
  rw [State.frames_setTop' g h.top] at hend
  obtain ⟨g₀, hg0⟩ := Option.isSome_iff_exists.mp h.top
  obtain ⟨r, hr⟩ := State.topJava?_eq_some.mp hg0
  have hr' : (({ U with heap := s₂.heap, slotsUsed := s₂.slotsUsed } : State).setVm s₂.vm).frames = .java g₀ :: r := hr
  rcases hq' with ⟨hqc, L, hfe, hL⟩ | ⟨q, rfl, E, ce, L, hx, hce, hcv, hcl, hW₂, hsm, hL⟩
  · obtain ⟨⟨v, rfl⟩, hW₂, e2, q2, q3, q4, q5, q6⟩ := id hfe
    have e3 : s₂ = ({ (U.calling g mk a).setFrames s₂.frames with heap := s₂.heap, slotsUsed := s₂.slotsUsed } : State).setVm s₂.vm := by
      have : s₂ = ({ s₂ with vm := (U.calling g mk a).vm } : State).setVm s₂.vm := rfl
      rw [e2] at this
      exact this
    obtain ⟨c₂, i₂, len₂, hc₂, hd₂, hf₂⟩ := hend
    have hW' : U.WarmedH s₂.vm := hW₂
    have hcc : c₂ = c := by
      have h1 : s₂.code? g.method = U.code? g.method := by
        rw [State.code?_eq, State.code?_eq, hW'.alike.method?]
      exact Option.some.inj (hc₂.symm.trans (h1.trans h.code))
    subst hcc
    have hlen : len₂ = len := by rw [hdg] at hd₂; cases hd₂; rfl
    subst hlen
    have hs₂ : s₂ = (({ U with heap := s₂.heap, slotsUsed := s₂.slotsUsed } : State).setVm s₂.vm).setTop { g with pc := g.pc + len₂, stack := v.toList ++ g.stack } := by
      refine e3.trans ?_
      rw [hf₂, State.calling_eq h.top, State.setFrames_setFrames, State.setTop_of_frames _ hr', hr]
      rfl
    have hsame : U.sameButNew ({ U with heap := s₂.heap, slotsUsed := s₂.slotsUsed } : State) L mc ms := by
      refine ⟨?_, q2, q3, q4, q5, q6⟩
      obtain ⟨t, ht, -⟩ := State.frames_cons hr
      show ({ U with heap := s₂.heap, slotsUsed := s₂.slotsUsed } : State) = { U.setFrames U.frames with heap := s₂.heap, slotsUsed := s₂.slotsUsed }
      rw [State.setFrames_self ht]
    subst hg
    refine Or.inl ⟨v, ⟨(({ U with heap := s₂.heap, slotsUsed := s₂.slotsUsed } : State).setVm s₂.vm), Ls ++ L, c0 + mc, s0 + ms⟩,
      ⟨X.admits, X.cas, X.clock, X.frames, X.room, X.hears, X.method, X.code, (X.here.setHeapUsed s₂.heap s₂.slotsUsed).setVm hW'.alike, X.tail, State.WarmedH.trans X.warmed hW', X.limits, X.bytes, X.same.trans (hsame.setVm s.vm)⟩,
      ⟨g, mk, s₂, L, rfl, rfl, hqc, rfl, hL, rfl, rfl⟩, ?_⟩
    show Steps p.tables e below _ ((({ U with heap := s₂.heap, slotsUsed := s₂.slotsUsed } : State).setVm s₂.vm).setTop { g with pc := g.pc + len₂, stack := v.toList ++ g.stack })
    rw [← hs₂]
    exact hsteps
  · obtain ⟨e2, q2, q3, q4, q5, q6⟩ := id hsm
    have e3 : s₂ = ({ (U.calling g mk a).setFrames s₂.frames with heap := s₂.heap, slotsUsed := s₂.slotsUsed } : State).setVm s₂.vm := by
      have : s₂ = ({ s₂ with vm := (U.calling g mk a).vm } : State).setVm s₂.vm := rfl
      rw [e2] at this
      exact this
    have hf₂ : s₂.frames = .throwing q :: .java g :: U.frames.tail := hend
    have hW' : U.WarmedH s₂.vm := hW₂
    have hs₂ : s₂ = ((({ U with heap := s₂.heap, slotsUsed := s₂.slotsUsed } : State).setVm s₂.vm).setTop g).pushFrame (.throwing q) := by
      refine e3.trans ?_
      rw [hf₂, State.calling_eq h.top, State.setFrames_setFrames, State.pushFrame, State.frames_setTop _ hr', State.setTop_of_frames _ hr', State.setFrames_setFrames, hr]
      rfl
    have hsame : U.sameButNew ({ U with heap := s₂.heap, slotsUsed := s₂.slotsUsed } : State) L mc ms := by
      refine ⟨?_, q2, q3, q4, q5, q6⟩
      obtain ⟨t, ht, -⟩ := State.frames_cons hr
      show ({ U with heap := s₂.heap, slotsUsed := s₂.slotsUsed } : State) = { U.setFrames U.frames with heap := s₂.heap, slotsUsed := s₂.slotsUsed }
      rw [State.setFrames_self ht]
    subst hg
    refine Or.inr ⟨q, ⟨(({ U with heap := s₂.heap, slotsUsed := s₂.slotsUsed } : State).setVm s₂.vm), Ls ++ L, c0 + mc, s0 + ms⟩,
      ⟨X.admits, X.cas, X.clock, X.frames, X.room, X.hears, X.method, X.code, (X.here.setHeapUsed s₂.heap s₂.slotsUsed).setVm hW'.alike, X.tail, State.WarmedH.trans X.warmed hW', X.limits, X.bytes, X.same.trans (hsame.setVm s.vm)⟩,
      ⟨g, mk, s₂, L, E, ce, rfl, rfl, hx, hce, hcv, hcl, rfl, hL, rfl, rfl⟩, ?_⟩
    show Steps p.tables e below _ (((({ U with heap := s₂.heap, slotsUsed := s₂.slotsUsed } : State).setVm s₂.vm).setTop g).pushFrame (.throwing q))
    rw [← hs₂]
    exact hsteps
end Payer
section Calls
variable {p : Program} {l : Launch} {e : Env} {R : Room} {s : State} {m : MethodId} {args : Array Value} {below : List Frame} {meth : Method} {c : Code} {T : State} {locs : List Loc} {cells slots : Nat}
theorem vx_callV (X : Stand p l e R s m args below meth c T locs cells slots) (hexec : p.tables.exec = Jvm.exec) {own C : String} {index : Nat} {y : MethodName} {bytes : ByteArray} {maxL : Nat} {ret : Option FieldType}
    (hown : s.vm.findClass own = some m.cls) (hlink : (Cond.methodLink own index y).before args s = true) (hinst : (Cond.instanceMethod y).before args s = true) (hsel : (Cond.selects C y y).before args s = true)
    (hcode : (Cond.code y bytes maxL ret).before args s = true) (hy : y.cls ≠ "java/lang/invoke/MethodHandle" ∧ y.cls ≠ "java/lang/invoke/VarHandle")
    {W9 : Nat} {Pre : Pt → Array Value → Prop} {Post : Pt → Array Value → Option Value → Pt → Prop} {PostX : Pt → Array Value → Addr → Pt → Prop} (hK : vx_Back l R p e below s args y 3 W9 Pre Post PostX)
    {b : Addr} {cellB : Cell} (hcell : T.heap[b]? = some cellB) (hobj : cellB.vm.isStatics = false) (hcls : s.vm.findClass C = some cellB.cls)
    {g : JFrame} (hg : g.method = m) (hsize : g.locals.size = c.maxLocals) {argsL rest : List Value} (hlen : ∀ sig, parseMethodDescriptor y.desc = some sig → argsL.length = sig.parameters.length)
    (hstack : g.stack = argsL.reverse ++ .ref b :: rest) (hW : 2 * g.monitorRoom + (rest.map fun v => v.category).sum ≤ W9) (hdg : decode c.code g.pc = .ok (.invokevirtual index, 3))
    (hpre : ∀ vm₁, s.WarmedH vm₁ → Pre ⟨T.setVm vm₁, locs, cells, slots⟩ (Value.ref b :: argsL).toArray) :
    (∃ (v : Option Value) (vm₁ : Vm) (B : Pt), s.WarmedH vm₁ ∧ Stand p l e R s m args below meth c B.U B.locs B.cells B.slots ∧ Post ⟨T.setVm vm₁, locs, cells, slots⟩ (Value.ref b :: argsL).toArray v B ∧
      ∀ target, Steps p.tables e below (B.U.setTop { g with pc := g.pc + 3, stack := v.toList ++ rest }) target → Steps p.tables e below (T.setTop g) target) ∨
    (∃ (q : Addr) (vm₁ : Vm) (B : Pt), s.WarmedH vm₁ ∧ Stand p l e R s m args below meth c B.U B.locs B.cells B.slots ∧ PostX ⟨T.setVm vm₁, locs, cells, slots⟩ (Value.ref b :: argsL).toArray q B ∧
      Steps p.tables e below (T.setTop g) ((B.U.setTop { g with stack := rest }).pushFrame (.throwing q))) := by
  obtain ⟨mk, methM, hnamed, hmethM, hstM, habM⟩ := Cond.instanceMethod_spec hinst
  obtain ⟨methM', cM, hmethM', -, -, -, -, -, -, hsigM⟩ := Cond.code_spec hnamed hcode
  cases hmethM.symm.trans hmethM'
  obtain ⟨c2, r2, m2, q1, q2, q3, q4, kP, hkP, hkPi⟩ := Cond.selects_spec hsel
  cases hcls.symm.trans q1
  cases (State.methodFound?_of_named hnamed hy).symm.trans q2
  cases hnamed.symm.trans q3
  have hselP : selectMethod e.platform s.vm cellB.cls mk = .method mk := by rw [Launch.admits_selectMethod X.admits]; exact q4
  obtain ⟨vm₁, X₁, hstep₁⟩ := X.invokevirtual hexec hown hlink hnamed hmethM hstM hkP hkPi hy (a := b) (cell := cellB) hcell
    (fun z h => by rw [h] at hobj; cases hobj) hselP hmethM habM hkP hkPi (g := g) hg (argsL := argsL) (rest := rest) (hlen _ hsigM) hstack hdg
  rcases hK m meth c ⟨T.setVm vm₁, locs, cells, slots⟩ { g with stack := rest } (.invokevirtual index) mk (Value.ref b :: argsL).toArray X₁ hg hsize hdg hW (X₁.named hnamed) (hpre vm₁ X₁.warmed) with ⟨v, B, X', hpost, hsteps⟩ | ⟨q, B, X', hpost, hsteps⟩
  · exact Or.inl ⟨v, vm₁, B, X₁.warmed, X', hpost, fun target h => hstep₁ _ fun acts => by rw [doInvoke_state]; exact hsteps.trans h⟩
  · exact Or.inr ⟨q, vm₁, B, X₁.warmed, X', hpost, hstep₁ _ fun acts => by rw [doInvoke_state]; exact hsteps⟩
theorem vx_callS (X : Stand p l e R s m args below meth c T locs cells slots) (hexec : p.tables.exec = Jvm.exec) {own : String} {index : Nat} {y : MethodName} {bytes : ByteArray} {maxL : Nat} {ret : Option FieldType}
    (hown : s.vm.findClass own = some m.cls) (hlink : (Cond.methodLink own index y).before args s = true) (hstat : (Cond.static y).before args s = true) (hinit : (Cond.initialized y.cls).before args s = true)
    (hcode : (Cond.code y bytes maxL ret).before args s = true) (hy : y.cls ≠ "java/lang/invoke/MethodHandle" ∧ y.cls ≠ "java/lang/invoke/VarHandle")
    {W9 : Nat} {Pre : Pt → Array Value → Prop} {Post : Pt → Array Value → Option Value → Pt → Prop} {PostX : Pt → Array Value → Addr → Pt → Prop} (hK : vx_Back l R p e below s args y 3 W9 Pre Post PostX)
    {g : JFrame} (hg : g.method = m) (hsize : g.locals.size = c.maxLocals) {argsL rest : List Value} (hlen : ∀ sig, parseMethodDescriptor y.desc = some sig → argsL.length = sig.parameters.length)
    (hstack : g.stack = argsL.reverse ++ rest) (hW : 2 * g.monitorRoom + (rest.map fun v => v.category).sum ≤ W9) (hdg : decode c.code g.pc = .ok (.invokestatic index, 3))
    (hpre : ∀ vm₁, s.WarmedH vm₁ → Pre ⟨T.setVm vm₁, locs, cells, slots⟩ argsL.toArray) :
    (∃ (v : Option Value) (vm₁ : Vm) (B : Pt), s.WarmedH vm₁ ∧ Stand p l e R s m args below meth c B.U B.locs B.cells B.slots ∧ Post ⟨T.setVm vm₁, locs, cells, slots⟩ argsL.toArray v B ∧
      ∀ target, Steps p.tables e below (B.U.setTop { g with pc := g.pc + 3, stack := v.toList ++ rest }) target → Steps p.tables e below (T.setTop g) target) ∨
    (∃ (q : Addr) (vm₁ : Vm) (B : Pt), s.WarmedH vm₁ ∧ Stand p l e R s m args below meth c B.U B.locs B.cells B.slots ∧ PostX ⟨T.setVm vm₁, locs, cells, slots⟩ argsL.toArray q B ∧
      Steps p.tables e below (T.setTop g) ((B.U.setTop { g with stack := rest }).pushFrame (.throwing q))) := by
  obtain ⟨mk, hnamed⟩ := Cond.code_named hcode
  obtain ⟨methM, cM, hmethM, -, -, -, -, -, -, hsigM⟩ := Cond.code_spec hnamed hcode
  have hstatic : methM.isStatic = true := Cond.static_spec hnamed hmethM hstat
  obtain ⟨kP, hkP, -⟩ := className_of_methodNamed hnamed
  have hinitP : kP.init = .initialized := Cond.initialized_spec (findClass_of_methodNamed hnamed) hkP hinit
  obtain ⟨vm₁, X₁, hstep₁⟩ := X.invokestatic hexec hown hlink hnamed hmethM hstatic hkP hinitP hy (g := g) hg (argsL := argsL) (rest := rest) (hlen _ hsigM) hstack hdg
  rcases hK m meth c ⟨T.setVm vm₁, locs, cells, slots⟩ { g with stack := rest } (.invokestatic index) mk argsL.toArray X₁ hg hsize hdg hW (X₁.named hnamed) (hpre vm₁ X₁.warmed) with ⟨v, B, X', hpost, hsteps⟩ | ⟨q, B, X', hpost, hsteps⟩
  · exact Or.inl ⟨v, vm₁, B, X₁.warmed, X', hpost, fun target h => hstep₁ _ fun acts => by rw [doInvoke_state]; exact hsteps.trans h⟩
  · exact Or.inr ⟨q, vm₁, B, X₁.warmed, X', hpost, hstep₁ _ fun acts => by rw [doInvoke_state]; exact hsteps⟩
end Calls
theorem vx_cls {s : State} {T : State} {vm₁ : Vm} {E : String} {k : ClassId} (hW : s.WarmedH vm₁) (h : (T.setVm vm₁).vm.findClass E = some k) : s.vm.findClass E = some k := by
  have h1 : vm₁.findClass E = some k := h
  rw [hW.alike.findClass] at h1
  exact h1
/-- the method's frame g, with q thrown over it -/
def vx_W (p : Program) (l : Launch) (e : Env) (R : Room) (s : State) (m : MethodId) (args : Array Value) (below : List Frame) (meth : Method) (c : Code) (H : Heap) (locs : List Loc) (cells slots : Nat) (Q : State → Prop) (g : JFrame) (q : Addr) : Prop :=
  ∀ T : State, T.heap = H → Stand p l e R s m args below meth c T locs cells slots → ∃ t, Steps p.tables e below ((T.setTop g).pushFrame (.throwing q)) t ∧ Q t
def vx_Run (p : Program) (l : Launch) (e : Env) (R : Room) (s : State) (m : MethodId) (args : Array Value) (below : List Frame) (meth : Method) (c : Code) (H : Heap) (locs : List Loc) (cells slots mc ms : Nat) (g : JFrame) (rest : List Value) (Qa : State → Outcome → State → Prop) (XC : String → State → State → Prop) (free : Addr → Prop) : Prop :=
  ∀ T : State, T.heap = H → Stand p l e R s m args below meth c T locs cells slots →
    (∃ (v : Option Value) (st₀ t T' : State) (L : List Loc), st₀.heap = H ∧ Stand p l e R s m args below meth c T' (locs ++ L) (cells + mc) (slots + ms) ∧ (∀ q ∈ L, free q.base) ∧ T'.heap = t.heap ∧ T'.vm = t.vm ∧ Qa st₀ (.returned v) t ∧
      Goes p e below T g T' { g with pc := g.pc + 3, stack := v.toList ++ rest }) ∨
    (∃ (q : Addr) (st₀ t T' : State) (L : List Loc) (E : String) (ce : Cell), st₀.heap = H ∧ Stand p l e R s m args below meth c T' (locs ++ L) (cells + mc) (slots + ms) ∧ (∀ z ∈ L, free z.base) ∧ T'.heap = t.heap ∧ T'.vm = t.vm ∧ XC E st₀ t ∧ t.heap[q]? = some ce ∧ ce.vm = .none ∧ s.vm.findClass E = some ce.cls ∧
      Steps p.tables e below (T.setTop g) ((T'.setTop { g with stack := rest }).pushFrame (.throwing q)))
def vx_X {S : Type} (px : S → Prop) (B : String → S → State → Prop) (A : Nat → Prop) : String → State → State → Prop := fun E st t => ∃ u : S, px u ∧ B E u t ∧ va_F A st t
section Runs
variable {p : Program} {l : Launch} {e : Env} {R : Room} {s : State} {m : MethodId} {args : Array Value} {below : List Frame} {meth : Method} {c : Code} {H : Heap} {locs : List Loc} {cells slots : Nat}
variable {y : MethodName} {bytes cc : ByteArray} {maxL nL mc ms n index : Nat} {ret : Option FieldType} {ws : List Cond} {rm : Room} {Pc : Array Value → State → Prop} {Qc : Array Value → State → Outcome → State → Prop} {XC : String → State → State → Prop} {free : Addr → Prop} {Ts : List Cond} {own C : String} {b : Addr} {As rest : List Value} {g : JFrame}
theorem vx_callBack (cb : CallB R s args own index y bytes maxL ret ws rm mc ms n) (hM : vx_Met l y ws rm Pc Qc XC mc ms free) (hbl : FrameBlind Pc) : vx_Back l R p e below s args y 3 8 (PreOf R mc ms Pc) (PostOf Qc mc ms free) (vx_Post XC mc ms free) := by
  obtain ⟨hrc, hrs, hfr, hlo, hws, hcw, -, hini, -⟩ := cb
  exact vx_back (bytes := bytes) (maxL := maxL) (ret := ret) hM hbl hrc hrs hfr hlo hws hcw (fun a' U hW => word_at hW (Or.inl (by first | rfl | simp [Cond.onTables, Cond.keeps, Cond.steady])) hini)
theorem vx_runV (S : CallFix p m c cc nL s args Ts own) (hM : vx_Met l y ws rm Pc Qc XC mc ms free) (cw : CallW R s args own C index y bytes maxL ret ws rm mc ms n) (hp : PreV s H C b Pc As)
    (hg : g.method = m) (hn : As.length = n) (hsize : g.locals.size = nL) (hstack : g.stack = As.reverse ++ .ref b :: rest) (hW : 2 * g.monitorRoom + (rest.map fun v => v.category).sum ≤ 8) (hdg : decode cc g.pc = .ok (.invokevirtual index, 3)) (hf : cells + mc ≤ R.cells ∧ slots + ms ≤ R.slots) :
    vx_Run p l e R s m args below meth c H locs cells slots mc ms g rest (Qc (Value.ref b :: As).toArray) XC free := by
  have hK : vx_Back l R p e below s args y 3 8 (PreOf R mc ms Pc) (PostOf Qc mc ms free) (vx_Post XC mc ms free) := vx_callBack cw.1 hM hp.1
  obtain ⟨⟨-, -, -, -, -, -, hcode, -, hy, hlen, hl⟩, hin, hse⟩ := cw
  obtain ⟨hx, hb, hml, ho, -⟩ := S
  obtain ⟨-, ⟨cellB, hcB, hoB, hclB⟩, hPc⟩ := hp
  intro T hT X
  rcases vx_callV X hx (C := C) (bytes := bytes) (maxL := maxL) (ret := ret) ho hl hin hse hcode hy hK (by rw [hT]; exact hcB) hoB hclB hg (hsize.trans hml.symm) (argsL := As) (rest := rest) (fun sig h => hn.trans (hlen sig h)) hstack hW (by rw [hb]; exact hdg)
    (fun vm₁ hW₁ => ⟨hf.1, hf.2, hPc (T.setVm vm₁) hT hW₁⟩) with ⟨v, vm₁, ⟨U', l2, c2, s2⟩, hW₁, X', ⟨g', mk, t, L, e1, e2, hq, h1, hL, h2, h3⟩, st⟩ | ⟨q, vm₁, ⟨U', l2, c2, s2⟩, hW₁, X', ⟨g', mk, t, L, E, ce, e1, e2, hq, hce, hcv, hcl, h1, hL, h2, h3⟩, st⟩
  · dsimp only [Pt.U, Pt.locs, Pt.cells, Pt.slots] at X' e1 e2 h1 h2 h3 st
    subst h1; subst h2; subst h3
    exact Or.inl ⟨v, (T.setVm vm₁).calling g' mk (Value.ref b :: As).toArray, t, U', L, hT, X', hL, e1, e2, hq, st⟩
  · dsimp only [Pt.U, Pt.locs, Pt.cells, Pt.slots] at X' e1 e2 h1 h2 h3 st hcl
    subst h1; subst h2; subst h3
    exact Or.inr ⟨q, (T.setVm vm₁).calling g' mk (Value.ref b :: As).toArray, t, U', L, E, ce, hT, X', hL, e1, e2, hq, hce, hcv, vx_cls hW₁ hcl, st⟩
theorem vx_runS (S : CallFix p m c cc nL s args Ts own) (hM : vx_Met l y ws rm Pc Qc XC mc ms free) (cw : CallB R s args own index y bytes maxL ret ws rm mc ms n ∧ (Cond.static y).before args s = true) (hp : PreS s H Pc As)
    (hg : g.method = m) (hn : As.length = n) (hsize : g.locals.size = nL) (hstack : g.stack = As.reverse ++ rest) (hW : 2 * g.monitorRoom + (rest.map fun v => v.category).sum ≤ 8) (hdg : decode cc g.pc = .ok (.invokestatic index, 3)) (hf : cells + mc ≤ R.cells ∧ slots + ms ≤ R.slots) :
    vx_Run p l e R s m args below meth c H locs cells slots mc ms g rest (Qc As.toArray) XC free := by
  have hK : vx_Back l R p e below s args y 3 8 (PreOf R mc ms Pc) (PostOf Qc mc ms free) (vx_Post XC mc ms free) := vx_callBack cw.1 hM hp.1
  obtain ⟨⟨-, -, -, -, -, -, hcode, hini, hy, hlen, hl⟩, hstt⟩ := cw
  obtain ⟨hx, hb, hml, ho, -⟩ := S
  intro T hT X
  rcases vx_callS X hx (bytes := bytes) (maxL := maxL) (ret := ret) ho hl hstt hini hcode hy hK hg (hsize.trans hml.symm) (argsL := As) (rest := rest) (fun sig h => hn.trans (hlen sig h)) hstack hW (by rw [hb]; exact hdg)
    (fun vm₁ hW₁ => ⟨hf.1, hf.2, hp.2 (T.setVm vm₁) hT hW₁⟩) with ⟨v, vm₁, ⟨U', l2, c2, s2⟩, hW₁, X', ⟨g', mk, t, L, e1, e2, hq, h1, hL, h2, h3⟩, st⟩ | ⟨q, vm₁, ⟨U', l2, c2, s2⟩, hW₁, X', ⟨g', mk, t, L, E, ce, e1, e2, hq, hce, hcv, hcl, h1, hL, h2, h3⟩, st⟩
  · dsimp only [Pt.U, Pt.locs, Pt.cells, Pt.slots] at X' e1 e2 h1 h2 h3 st
    subst h1; subst h2; subst h3
    exact Or.inl ⟨v, (T.setVm vm₁).calling g' mk As.toArray, t, U', L, hT, X', hL, e1, e2, hq, st⟩
  · dsimp only [Pt.U, Pt.locs, Pt.cells, Pt.slots] at X' e1 e2 h1 h2 h3 st hcl
    subst h1; subst h2; subst h3
    exact Or.inr ⟨q, (T.setVm vm₁).calling g' mk As.toArray, t, U', L, E, ce, hT, X', hL, e1, e2, hq, hce, hcv, vx_cls hW₁ hcl, st⟩
end Runs
section Rows
variable {p : Program} {l : Launch} {e : Env} {R : Room} {s : State} {m : MethodId} {args : Array Value} {below : List Frame} {meth : Method} {c : Code} {H : Heap} {locs : List Loc} {cells slots : Nat} {Q : State → Prop}
variable {mc ms : Nat} {free : Addr → Prop} {A0 A1 : Nat → Prop} {H0 : Heap} {a : Array Value} {pc : Nat} {ls : Array Slot} {st0 rest : List Value}
theorem vx_keep {st₀ t T' : State} {L : List Loc} (h0 : st₀.heap = H) (e1 : T'.heap = t.heap) (hS : va_S A0 H0 H locs) (hA : ∀ q, q < H.size → A1 q → A0 q) (hf : ∀ q, free q → A0 q) (hL : ∀ q ∈ L, free q.base) (hF : va_F A1 st₀ t) :
    H.size ≤ T'.heap.size ∧ (∀ q : Nat, q < H.size → ¬ A1 q → T'.heap[q]? = H[q]?) ∧ va_S A0 H0 T'.heap (locs ++ L) := by
  obtain ⟨hz, hk⟩ := hF
  rw [h0] at hz hk
  exact ⟨by rw [e1]; exact hz, fun q h1 h2 => by rw [e1]; exact hk q h1 h2,
    ⟨Nat.le_trans hS.1 (by rw [e1]; exact hz), fun q h1 h2 => by rw [e1, hk q (Nat.lt_of_lt_of_le h1 hS.1) (fun z => h2 (hA q (Nat.lt_of_lt_of_le h1 hS.1) z))]; exact hS.2.1 q h1 h2, fun q hq => by
      rcases List.mem_append.mp hq with h | h
      · exact hS.2.2 q h
      · exact hf _ (hL q h)⟩⟩
theorem vx_calli {S SX : Type} {post : Int32 → S → Prop} {px : SX → Prop} {B : S → State → Prop} {BX : String → SX → State → Prop} {AX : Nat → Prop} (hr : vx_Run p l e R s m args below meth c H locs cells slots mc ms (F0 m pc ls st0) rest (va_Qi post B A1 a) (vx_X px BX AX) free) (hS : va_S A0 H0 H locs) (hA : ∀ q, q < H.size → A1 q → A0 q) (hf : ∀ q, free q → A0 q) (hAX : ∀ q, q < H.size → AX q → A0 q)
    (kx : ∀ (E : String) (ce : Cell) (q9 : Addr) (u : SX) (t : State) (H1 : Heap) (locs1 : List Loc), t.heap = H1 → s.vm.Alike t.vm → px u → BX E u t → H.size ≤ H1.size → (∀ q : Nat, q < H.size → ¬ AX q → H1[q]? = H[q]?) → va_S A0 H0 H1 locs1 → H1[q9]? = some ce → ce.vm = .none → s.vm.findClass E = some ce.cls → vx_W p l e R s m args below meth c H1 locs1 (cells + mc) (slots + ms) Q (F0 m pc ls rest) q9)
    (kk : ∀ (r : Int32) (u : S) (t : State) (H1 : Heap) (locs1 : List Loc), t.heap = H1 → s.vm.Alike t.vm → post r u → B u t → H.size ≤ H1.size → (∀ q : Nat, q < H.size → ¬ A1 q → H1[q]? = H[q]?) → va_S A0 H0 H1 locs1 → W p l e R s m args below meth c H1 locs1 (cells + mc) (slots + ms) Q (F0 m (pc + 3) ls (.int r :: rest))) : W p l e R s m args below meth c H locs cells slots Q (F0 m pc ls st0) := by
  intro T hT X
  rcases hr T hT X with ⟨v, st₀, t, T', L, h0, X', hL, e1, e2, ⟨⟨r, u, hv, hp, hb⟩, hF⟩, st⟩ | ⟨q, st₀, t, T', L, E, ce, h0, X', hL, e1, e2, ⟨u, hp, hb, hF⟩, hce, hcv, hcl, st⟩
  · cases hv
    obtain ⟨k1, k2, k3⟩ := vx_keep h0 e1 hS hA hf hL hF
    obtain ⟨t2, a1, b1⟩ := kk r u t T'.heap (locs ++ L) e1.symm (by rw [← e2]; exact X'.warmed.alike) hp hb k1 k2 k3 T' rfl X'
    exact ⟨t2, st t2 a1, b1⟩
  · obtain ⟨k1, k2, k3⟩ := vx_keep h0 e1 hS hAX hf hL hF
    obtain ⟨t2, a1, b1⟩ := kx E ce q u t T'.heap (locs ++ L) e1.symm (by rw [← e2]; exact X'.warmed.alike) hp hb k1 k2 k3 (by rw [e1]; exact hce) hcv hcl T' rfl X'
    exact ⟨t2, st.trans a1, b1⟩
theorem vx_calll {S SX : Type} {post : Int64 → S → Prop} {px : SX → Prop} {B : S → State → Prop} {BX : String → SX → State → Prop} {AX : Nat → Prop} (hr : vx_Run p l e R s m args below meth c H locs cells slots mc ms (F0 m pc ls st0) rest (va_Ql post B A1 a) (vx_X px BX AX) free) (hS : va_S A0 H0 H locs) (hA : ∀ q, q < H.size → A1 q → A0 q) (hf : ∀ q, free q → A0 q) (hAX : ∀ q, q < H.size → AX q → A0 q)
    (kx : ∀ (E : String) (ce : Cell) (q9 : Addr) (u : SX) (t : State) (H1 : Heap) (locs1 : List Loc), t.heap = H1 → s.vm.Alike t.vm → px u → BX E u t → H.size ≤ H1.size → (∀ q : Nat, q < H.size → ¬ AX q → H1[q]? = H[q]?) → va_S A0 H0 H1 locs1 → H1[q9]? = some ce → ce.vm = .none → s.vm.findClass E = some ce.cls → vx_W p l e R s m args below meth c H1 locs1 (cells + mc) (slots + ms) Q (F0 m pc ls rest) q9)
    (kk : ∀ (r : Int64) (u : S) (t : State) (H1 : Heap) (locs1 : List Loc), t.heap = H1 → s.vm.Alike t.vm → post r u → B u t → H.size ≤ H1.size → (∀ q : Nat, q < H.size → ¬ A1 q → H1[q]? = H[q]?) → va_S A0 H0 H1 locs1 → W p l e R s m args below meth c H1 locs1 (cells + mc) (slots + ms) Q (F0 m (pc + 3) ls (.long r :: rest))) : W p l e R s m args below meth c H locs cells slots Q (F0 m pc ls st0) := by
  intro T hT X
  rcases hr T hT X with ⟨v, st₀, t, T', L, h0, X', hL, e1, e2, ⟨⟨r, u, hv, hp, hb⟩, hF⟩, st⟩ | ⟨q, st₀, t, T', L, E, ce, h0, X', hL, e1, e2, ⟨u, hp, hb, hF⟩, hce, hcv, hcl, st⟩
  · cases hv
    obtain ⟨k1, k2, k3⟩ := vx_keep h0 e1 hS hA hf hL hF
    obtain ⟨t2, a1, b1⟩ := kk r u t T'.heap (locs ++ L) e1.symm (by rw [← e2]; exact X'.warmed.alike) hp hb k1 k2 k3 T' rfl X'
    exact ⟨t2, st t2 a1, b1⟩
  · obtain ⟨k1, k2, k3⟩ := vx_keep h0 e1 hS hAX hf hL hF
    obtain ⟨t2, a1, b1⟩ := kx E ce q u t T'.heap (locs ++ L) e1.symm (by rw [← e2]; exact X'.warmed.alike) hp hb k1 k2 k3 (by rw [e1]; exact hce) hcv hcl T' rfl X'
    exact ⟨t2, st.trans a1, b1⟩
theorem vx_callf {S SX : Type} {post : UInt32 → S → Prop} {px : SX → Prop} {B : S → State → Prop} {BX : String → SX → State → Prop} {AX : Nat → Prop} (hr : vx_Run p l e R s m args below meth c H locs cells slots mc ms (F0 m pc ls st0) rest (va_Qf post B A1 a) (vx_X px BX AX) free) (hS : va_S A0 H0 H locs) (hA : ∀ q, q < H.size → A1 q → A0 q) (hf : ∀ q, free q → A0 q) (hAX : ∀ q, q < H.size → AX q → A0 q)
    (kx : ∀ (E : String) (ce : Cell) (q9 : Addr) (u : SX) (t : State) (H1 : Heap) (locs1 : List Loc), t.heap = H1 → s.vm.Alike t.vm → px u → BX E u t → H.size ≤ H1.size → (∀ q : Nat, q < H.size → ¬ AX q → H1[q]? = H[q]?) → va_S A0 H0 H1 locs1 → H1[q9]? = some ce → ce.vm = .none → s.vm.findClass E = some ce.cls → vx_W p l e R s m args below meth c H1 locs1 (cells + mc) (slots + ms) Q (F0 m pc ls rest) q9)
    (kk : ∀ (r : UInt32) (u : S) (t : State) (H1 : Heap) (locs1 : List Loc), t.heap = H1 → s.vm.Alike t.vm → post r u → B u t → H.size ≤ H1.size → (∀ q : Nat, q < H.size → ¬ A1 q → H1[q]? = H[q]?) → va_S A0 H0 H1 locs1 → W p l e R s m args below meth c H1 locs1 (cells + mc) (slots + ms) Q (F0 m (pc + 3) ls (.float r :: rest))) : W p l e R s m args below meth c H locs cells slots Q (F0 m pc ls st0) := by
  intro T hT X
  rcases hr T hT X with ⟨v, st₀, t, T', L, h0, X', hL, e1, e2, ⟨⟨r, u, hv, hp, hb⟩, hF⟩, st⟩ | ⟨q, st₀, t, T', L, E, ce, h0, X', hL, e1, e2, ⟨u, hp, hb, hF⟩, hce, hcv, hcl, st⟩
  · cases hv
    obtain ⟨k1, k2, k3⟩ := vx_keep h0 e1 hS hA hf hL hF
    obtain ⟨t2, a1, b1⟩ := kk r u t T'.heap (locs ++ L) e1.symm (by rw [← e2]; exact X'.warmed.alike) hp hb k1 k2 k3 T' rfl X'
    exact ⟨t2, st t2 a1, b1⟩
  · obtain ⟨k1, k2, k3⟩ := vx_keep h0 e1 hS hAX hf hL hF
    obtain ⟨t2, a1, b1⟩ := kx E ce q u t T'.heap (locs ++ L) e1.symm (by rw [← e2]; exact X'.warmed.alike) hp hb k1 k2 k3 (by rw [e1]; exact hce) hcv hcl T' rfl X'
    exact ⟨t2, st.trans a1, b1⟩
theorem vx_calld {S SX : Type} {post : UInt64 → S → Prop} {px : SX → Prop} {B : S → State → Prop} {BX : String → SX → State → Prop} {AX : Nat → Prop} (hr : vx_Run p l e R s m args below meth c H locs cells slots mc ms (F0 m pc ls st0) rest (va_Qd post B A1 a) (vx_X px BX AX) free) (hS : va_S A0 H0 H locs) (hA : ∀ q, q < H.size → A1 q → A0 q) (hf : ∀ q, free q → A0 q) (hAX : ∀ q, q < H.size → AX q → A0 q)
    (kx : ∀ (E : String) (ce : Cell) (q9 : Addr) (u : SX) (t : State) (H1 : Heap) (locs1 : List Loc), t.heap = H1 → s.vm.Alike t.vm → px u → BX E u t → H.size ≤ H1.size → (∀ q : Nat, q < H.size → ¬ AX q → H1[q]? = H[q]?) → va_S A0 H0 H1 locs1 → H1[q9]? = some ce → ce.vm = .none → s.vm.findClass E = some ce.cls → vx_W p l e R s m args below meth c H1 locs1 (cells + mc) (slots + ms) Q (F0 m pc ls rest) q9)
    (kk : ∀ (r : UInt64) (u : S) (t : State) (H1 : Heap) (locs1 : List Loc), t.heap = H1 → s.vm.Alike t.vm → post r u → B u t → H.size ≤ H1.size → (∀ q : Nat, q < H.size → ¬ A1 q → H1[q]? = H[q]?) → va_S A0 H0 H1 locs1 → W p l e R s m args below meth c H1 locs1 (cells + mc) (slots + ms) Q (F0 m (pc + 3) ls (.double r :: rest))) : W p l e R s m args below meth c H locs cells slots Q (F0 m pc ls st0) := by
  intro T hT X
  rcases hr T hT X with ⟨v, st₀, t, T', L, h0, X', hL, e1, e2, ⟨⟨r, u, hv, hp, hb⟩, hF⟩, st⟩ | ⟨q, st₀, t, T', L, E, ce, h0, X', hL, e1, e2, ⟨u, hp, hb, hF⟩, hce, hcv, hcl, st⟩
  · cases hv
    obtain ⟨k1, k2, k3⟩ := vx_keep h0 e1 hS hA hf hL hF
    obtain ⟨t2, a1, b1⟩ := kk r u t T'.heap (locs ++ L) e1.symm (by rw [← e2]; exact X'.warmed.alike) hp hb k1 k2 k3 T' rfl X'
    exact ⟨t2, st t2 a1, b1⟩
  · obtain ⟨k1, k2, k3⟩ := vx_keep h0 e1 hS hAX hf hL hF
    obtain ⟨t2, a1, b1⟩ := kx E ce q u t T'.heap (locs ++ L) e1.symm (by rw [← e2]; exact X'.warmed.alike) hp hb k1 k2 k3 (by rw [e1]; exact hce) hcv hcl T' rfl X'
    exact ⟨t2, st.trans a1, b1⟩
theorem vx_callv {S SX : Type} {post : S → Prop} {px : SX → Prop} {B : S → State → Prop} {BX : String → SX → State → Prop} {AX : Nat → Prop} (hr : vx_Run p l e R s m args below meth c H locs cells slots mc ms (F0 m pc ls st0) rest (va_Qv post B A1 a) (vx_X px BX AX) free) (hS : va_S A0 H0 H locs) (hA : ∀ q, q < H.size → A1 q → A0 q) (hf : ∀ q, free q → A0 q) (hAX : ∀ q, q < H.size → AX q → A0 q)
    (kx : ∀ (E : String) (ce : Cell) (q9 : Addr) (u : SX) (t : State) (H1 : Heap) (locs1 : List Loc), t.heap = H1 → s.vm.Alike t.vm → px u → BX E u t → H.size ≤ H1.size → (∀ q : Nat, q < H.size → ¬ AX q → H1[q]? = H[q]?) → va_S A0 H0 H1 locs1 → H1[q9]? = some ce → ce.vm = .none → s.vm.findClass E = some ce.cls → vx_W p l e R s m args below meth c H1 locs1 (cells + mc) (slots + ms) Q (F0 m pc ls rest) q9)
    (kk : ∀ (u : S) (t : State) (H1 : Heap) (locs1 : List Loc), t.heap = H1 → s.vm.Alike t.vm → post u → B u t → H.size ≤ H1.size → (∀ q : Nat, q < H.size → ¬ A1 q → H1[q]? = H[q]?) → va_S A0 H0 H1 locs1 → W p l e R s m args below meth c H1 locs1 (cells + mc) (slots + ms) Q (F0 m (pc + 3) ls (rest))) : W p l e R s m args below meth c H locs cells slots Q (F0 m pc ls st0) := by
  intro T hT X
  rcases hr T hT X with ⟨v, st₀, t, T', L, h0, X', hL, e1, e2, ⟨⟨u, hv, hp, hb⟩, hF⟩, st⟩ | ⟨q, st₀, t, T', L, E, ce, h0, X', hL, e1, e2, ⟨u, hp, hb, hF⟩, hce, hcv, hcl, st⟩
  · cases hv
    obtain ⟨k1, k2, k3⟩ := vx_keep h0 e1 hS hA hf hL hF
    obtain ⟨t2, a1, b1⟩ := kk u t T'.heap (locs ++ L) e1.symm (by rw [← e2]; exact X'.warmed.alike) hp hb k1 k2 k3 T' rfl X'
    exact ⟨t2, st t2 a1, b1⟩
  · obtain ⟨k1, k2, k3⟩ := vx_keep h0 e1 hS hAX hf hL hF
    obtain ⟨t2, a1, b1⟩ := kx E ce q u t T'.heap (locs ++ L) e1.symm (by rw [← e2]; exact X'.warmed.alike) hp hb k1 k2 k3 (by rw [e1]; exact hce) hcv hcl T' rfl X'
    exact ⟨t2, st.trans a1, b1⟩
/-- caught by the row x of this method's table; the rows ahead don't take it -/
theorem vx_catch {own name : String} {E : String} {ce : Cell} {q : Addr} (hown : s.vm.findClass own = some m.cls) (pre : List ExceptionTableEntry) (x : ExceptionTableEntry) (suf : List ExceptionTableEntry) (hsplit : c.exceptionTable.toList = pre ++ x :: suf)
    (hpass : ∀ z ∈ pre, covers z pc = false ∨ (z.catchType ≠ 0 ∧ ∃ nm : String, (Cond.classLink own z.catchType nm).before args s = true ∧ va_Nc E nm s)) (hx : covers x pc = true) (h0 : x.catchType ≠ 0)
    (hlink : (Cond.classLink own x.catchType name).before args s = true) (hcast : (Cond.castable E name).before args s = true) (hcell : H[q]? = some ce) (hv : ce.vm = .none) (hcl : s.vm.findClass E = some ce.cls)
    (kk : W p l e R s m args below meth c H locs cells slots Q (F0 m x.handlerPc ls [.ref q])) : vx_W p l e R s m args below meth c H locs cells slots Q (F0 m pc ls rest) q := by
  intro T hT X
  have hpl : e.platform.magicAccessors = ({} : Platform).magicAccessors := by rw [X.admits.platform]
  obtain ⟨c3, c4, hc3, hc4, hasg⟩ := Cond.castable_spec hcast
  cases Option.some.inj (hc3.symm.trans hcl)
  obtain ⟨c5, hc5, hcl5⟩ := Cond.classLink_spec hown hlink e.platform hpl
  cases Option.some.inj (hc4.symm.trans hc5)
  obtain ⟨vm', X', st⟩ := xc_caught X q (g := F0 m pc ls rest) rfl (by rw [hT]; exact hcell) (by rw [hv]; rfl) (by obtain ⟨k9, h9, -⟩ := Vm.findClass_spec hcl; exact ⟨k9, h9⟩) pre x suf hsplit
    (fun z hz => by
      rcases hpass z hz with h | ⟨hz0, nm, hl1, hn1⟩
      · exact Or.inl h
      · obtain ⟨c6, hc6, hcl6⟩ := Cond.classLink_spec hown hl1 e.platform hpl
        obtain ⟨a8, b8, h1, h2, h3⟩ := hn1
        cases Option.some.inj (h1.symm.trans hcl)
        cases Option.some.inj (h2.symm.trans hc6)
        exact Or.inr ⟨hz0, _, hcl6, h3⟩) hx h0 hcl5 hasg
  obtain ⟨t, a1, b1⟩ := kk (T.setVm vm') hT X'
  exact ⟨t, st.trans a1, b1⟩
end Rows
section Ends
variable {p : Program} {l : Launch} {e : Env} {R : Room} {s : State} {m : MethodId} {args : Array Value} {below : List Frame} {meth : Method} {c : Code} {H : Heap} {locs : List Loc} {cells slots : Nat} {Q : State → Prop}
variable {mc ms : Nat} {free : Addr → Prop} {A0 A1 : Nat → Prop} {H0 : Heap} {a : Array Value} {ls : Array Slot} {st0 rest : List Value}
variable {Qc : Array Value → State → Outcome → State → Prop} {XC : String → State → State → Prop}
/-- what a body that may throw owes at its end -/
def vx_MQ (below : List Frame) (Qc : Array Value → State → Outcome → State → Prop) (XC : String → State → State → Prop) (a : Array Value) (s : State) (mc ms : Nat) (free : Addr → Prop) : State → Prop := fun t =>
  ∃ o, t.status = .running ∧ Ended t below o ∧ vx_Q Qc XC mc ms free a s o t
theorem vx_ret {g : JFrame} {mc ms : Nat} (k : W p l e R s m args below meth c H locs cells slots (MQ below Qc args s mc ms free) g) : W p l e R s m args below meth c H locs cells slots (vx_MQ below Qc XC args s mc ms free) g := by
  intro T hT X
  obtain ⟨t, a1, o, b1, b2, b3, b4⟩ := k T hT X
  exact ⟨t, a1, o, b1, b2, Or.inl ⟨b3, b4⟩⟩
/-- not caught here: it goes on to the caller -/
theorem vx_widen {g : JFrame} {q : Addr} {k n : Nat} (h1 : cells ≤ k) (h2 : slots ≤ n) (kk : vx_W p l e R s m args below meth c H locs k n Q g q) : vx_W p l e R s m args below meth c H locs cells slots Q g q := fun T hT X => kk T hT (stand_widen X h1 h2)
theorem vx_out {pc : Nat} {E : String} {ce : Cell} {q : Addr} {mc ms : Nat} (hout : ∀ x ∈ c.exceptionTable.toList, covers x pc = false) (hlocks : meth.locks = false) (hcell : H[q]? = some ce) (hv : ce.vm = .none) (hcl : s.vm.findClass E = some ce.cls)
    (hx : ∀ t : State, t.heap = H → s.vm.Alike t.vm → XC E s t) (hf : ∀ z ∈ locs, free z.base) (hc : cells ≤ mc) (hs : slots ≤ ms) :
    vx_W p l e R s m args below meth c H locs cells slots (vx_MQ below Qc XC args s mc ms free) (F0 m pc ls rest) q := by
  intro T hT X
  obtain ⟨st1, hrun, hend, hW, hsm⟩ := X.leaveThrown q (g := F0 m pc ls rest) rfl rfl rfl hout hlocks
  have hcell9 : (T.setFrames (.throwing q :: below)).heap[q]? = some ce := by
    show T.heap[q]? = some ce
    rw [hT]; exact hcell
  exact ⟨_, st1, .threw q, hrun, hend, Or.inr ⟨q, rfl, E, ce, locs, hx _ hT hW.alike, hcell9, hv, hcl, hW, hsm.mono hc hs, hf⟩⟩
theorem vx_frame {U : State} {k n : Nat} (h : s.sameButNew ({ U with vm := s.vm } : State) locs k n) : s.heap.size ≤ U.heap.size ∧ ∀ q : Nat, q < s.heap.size → (∀ z ∈ locs, z.base ≠ q) → U.heap[q]? = s.heap[q]? := by
  obtain ⟨-, h2, -, -, -, h6⟩ := h
  refine ⟨h2, fun q hq hz => ?_⟩
  obtain ⟨c9, e1, e2, e3, e4⟩ := h6 q _ (Array.getElem?_eq_getElem hq)
  have hs : c9.slots = (s.heap[q]).slots := Array.ext_getElem? fun i => e4 i fun hm => hz _ hm rfl
  have h9 : c9 = s.heap[q] := by
    rw [hs] at e2
    exact e2
  have e5 : U.heap[q]? = some c9 := e1
  rw [e5, h9, Array.getElem?_eq_getElem hq]
/-- the words of a throw but the four that speak of the heap -/
def vx_no (w : Cond) : Bool := decide (w ≠ .isRef (.static Bundle.tN "UNASSIGNED_STACK" Bundle.steD)) && decide (w ≠ .isRef (.static Bundle.tN "SUPPRESSED_SENTINEL" Bundle.listD)) && decide (w ≠ .laysStatic Bundle.tN "UNASSIGNED_STACK" Bundle.steD) && decide (w ≠ .laysStatic Bundle.tN "SUPPRESSED_SENTINEL" Bundle.listD)
def vx_at0 (own : String) (ic : Nat) (X : String) (names : List String) : List Cond := (Bundle.ownAtoms0 own ic X names).filter vx_no
def vx_atS (own : String) (ic : Nat) (X : String) (names : List String) : List Cond := (Bundle.ownAtoms own ic X names).filter vx_no
/-- a word that the tables alone decide, or a good one -/
def vx_ot (w : Cond) : Bool := w.onTables || goodWord w
theorem vx_ot_at {args a' : Array Value} {s U : State} {w : Cond} (hW : s.WarmedH U.vm) (hvm : s.vm = U.vm) (hg : vx_ot w = true) (h : w.before args s = true) : w.before a' U = true := by
  simp only [vx_ot, Bool.or_eq_true] at hg
  rcases hg with hg | hg
  · exact va_tabs hg hvm h
  · exact word_at hW (good_of_word hg) h
/-- a list's words: the good ones out of the method's own list, the others by premises of their own -/
theorem vx_hat {args : Array Value} {s : State} {L B : List Cond} (h1 : ∀ w ∈ L.filter goodWord, w.before args s = true) (h2 : ∀ w ∈ L.filter (fun w => !goodWord w), w ∈ B) (h3 : ∀ w ∈ B, w.before args s = true) : ∀ w ∈ L, w.before args s = true := by
  intro w hw
  by_cases g : goodWord w = true
  · exact h1 w (List.mem_filter.mpr ⟨hw, g⟩)
  · refine h3 w (h2 w (List.mem_filter.mpr ⟨hw, ?_⟩))
    show (!goodWord w) = true
    cases hgw : goodWord w
    · rfl
    · exact absurd hgw g
theorem vx_c {args : Array Value} {s : State} {w : Cond} {B : List Cond} (h : w.before args s = true) (t : ∀ w ∈ B, w.before args s = true) : ∀ w' ∈ w :: B, w'.before args s = true := fun w' h' => (List.mem_cons.mp h').elim (fun e => by rw [e]; exact h) (t w')
theorem vx_n {args : Array Value} {s : State} : ∀ w ∈ ([] : List Cond), w.before args s = true := fun _ h => nomatch h
theorem vx_own {args : Array Value} {s : State} {L : List Cond} (h1 : ∀ w ∈ L.filter vx_no, w.before args s = true)
    (hU : (Cond.isRef (.static Bundle.tN "UNASSIGNED_STACK" Bundle.steD)).before args s = true) (hN : (Cond.isRef (.static Bundle.tN "SUPPRESSED_SENTINEL" Bundle.listD)).before args s = true)
    (lU : (Cond.laysStatic Bundle.tN "UNASSIGNED_STACK" Bundle.steD).before args s = true) (lN : (Cond.laysStatic Bundle.tN "SUPPRESSED_SENTINEL" Bundle.listD).before args s = true) : ∀ w ∈ L, w.before args s = true := by
  intro w hw
  by_cases e1 : w = .isRef (.static Bundle.tN "UNASSIGNED_STACK" Bundle.steD)
  · rw [e1]; exact hU
  · by_cases e2 : w = .isRef (.static Bundle.tN "SUPPRESSED_SENTINEL" Bundle.listD)
    · rw [e2]; exact hN
    · by_cases e3 : w = .laysStatic Bundle.tN "UNASSIGNED_STACK" Bundle.steD
      · rw [e3]; exact lU
      · by_cases e4 : w = .laysStatic Bundle.tN "SUPPRESSED_SENTINEL" Bundle.listD
        · rw [e4]; exact lN
        · exact h1 w (List.mem_filter.mpr ⟨hw, by unfold vx_no; rw [decide_eq_true e1, decide_eq_true e2, decide_eq_true e3, decide_eq_true e4]; rfl⟩)
/-- where a static field lies, its class's statics cell in H -/
def vx_L (C n d : String) (A : Nat → Prop) (U : State) (H : Heap) : Prop := ∃ (c : ClassId) (k : Class) (i : Nat) (f : Field) (a : Nat) (cell : Cell), U.vm.findClass C = some c ∧ U.fieldFound? C n d = some (c, k, i, f) ∧ f.isStatic = true ∧ k.statics = some a ∧ H[a]? = some cell ∧ cell.vm.isStatics = true ∧ cell.cls = c ∧ f.slot < cell.slots.size ∧ k.staticTypes[f.slot]? = some f.type ∧ ¬ A a
theorem vx_L.moved {C n d : String} {A : Nat → Prop} {u U : State} {H : Heap} (hvm : u.vm.Alike U.vm) (h : vx_L C n d A u H) : vx_L C n d A U H := by
  obtain ⟨c, k, i, f, a, cell, h1, h2, h3, h4, h5, h6, h7, h8, h9, h10⟩ := h
  obtain ⟨k', hi', he⟩ := State.fieldFound?_setVm hvm h2
  exact ⟨c, k', i, f, a, cell, by rw [hvm.findClass]; exact h1, hi', h3, by rw [he]; exact h4, h5, h6, h7, h8, by rw [he]; exact h9, h10⟩
theorem vx_L.kept {C n d : String} {A : Nat → Prop} {U : State} {H H1 : Heap} (h : vx_L C n d A U H) (hq : ∀ a : Nat, a < H.size → ¬ A a → H1[a]? = H[a]?) : vx_L C n d A U H1 := by
  obtain ⟨c, k, i, f, a, cell, h1, h2, h3, h4, h5, h6, h7, h8, h9, h10⟩ := h
  exact ⟨c, k, i, f, a, cell, h1, h2, h3, h4, by rw [hq a (Array.getElem?_eq_some_iff.mp h5).1 h10]; exact h5, h6, h7, h8, h9, h10⟩
theorem vx_L.narrow {C n d : String} {A B : Nat → Prop} {U : State} {H : Heap} (h : vx_L C n d A U H) (hAB : ∀ q, B q → A q) : vx_L C n d B U H := by
  obtain ⟨c, k, i, f, a, cell, h1, h2, h3, h4, h5, h6, h7, h8, h9, h10⟩ := h
  exact ⟨c, k, i, f, a, cell, h1, h2, h3, h4, h5, h6, h7, h8, h9, fun z => h10 (hAB _ z)⟩
theorem vx_L.word {C n d : String} {A : Nat → Prop} {s : State} {args : Array Value} (h : vx_L C n d A s s.heap) : (Cond.laysStatic C n d).before args s = true := by
  obtain ⟨c, k, i, f, a, cell, h1, h2, h3, h4, h5, h6, h7, h8, h9, -⟩ := h
  show (Cond.laysStatic C n d).holds args s none s [] = true
  exact Cond.laysStatic_of h1 h2 h3 h4 h5 h6 h7 h8 h9
/-- .. and what it holds: null or some reference -/
def vx_Zq (C n d : String) (A : Nat → Prop) (U : State) (H : Heap) : Prop := va_Zq C n d A U H ∧ vx_L C n d A U H
theorem vx_Zq.moved {C n d : String} {A : Nat → Prop} {u U : State} {H : Heap} (hvm : u.vm.Alike U.vm) (h : vx_Zq C n d A u H) : vx_Zq C n d A U H := ⟨va_Zq.moved hvm h.1, vx_L.moved hvm h.2⟩
theorem vx_Zq.kept {C n d : String} {A : Nat → Prop} {U : State} {H H1 : Heap} (h : vx_Zq C n d A U H) (hq : ∀ a : Nat, a < H.size → ¬ A a → H1[a]? = H[a]?) : vx_Zq C n d A U H1 := ⟨va_Zq.kept h.1 hq, vx_L.kept h.2 hq⟩
theorem vx_Zq.narrow {C n d : String} {A B : Nat → Prop} {U : State} {H : Heap} (h : vx_Zq C n d A U H) (hAB : ∀ q, B q → A q) : vx_Zq C n d B U H := ⟨va_Zq.narrow h.1 hAB, vx_L.narrow h.2 hAB⟩
theorem vx_Zqof {args : Array Value} {s : State} {C n d : String} {A : Nat → Prop} (hl : (Cond.laysStatic C n d).before args s = true) (hini : (Cond.initialized C).before args s = true) (h : (Cond.isRef (.static C n d)).before args s = true) (hA : ∀ a : Nat, a < s.heap.size → ¬ A a) : vx_Zq C n d A s s.heap := by
  refine ⟨va_Zqof hl hini h hA, ?_⟩
  obtain ⟨c, k, i, f, a, cell, h1, h2, h3, h4, h5, h6, h7, h8, h9⟩ := Cond.laysStatic_spec hl
  exact ⟨c, k, i, f, a, cell, h1, h2, h3, h4, h5, h6, h7, h8, h9, hA a (Array.getElem?_eq_some_iff.mp h5).1⟩
theorem vx_isRef {C n d : String} {v : Value} {A : Nat → Prop} {s : State} {args : Array Value} (h : va_Z C n d v A s s.heap) (hv : v.isRef = true) : (Cond.isRef (.static C n d)).before args s = true := by
  obtain ⟨cf, kf, fi, f, a, cell, h1, h2, h3, h4, h5, h6, h7, -⟩ := h
  have he : (Term.static C n d).eval args s none [] s = some v := by
    simp [Term.eval, State.fieldNamed?, h1, h2, h4, h5, h6, h7]
  simp only [Cond.before, Cond.holds, Cond.value, he]
  cases v <;> simp_all [Value.isRef]
theorem vx_isRefq {C n d : String} {A : Nat → Prop} {s : State} {args : Array Value} (h : va_Zq C n d A s s.heap) : (Cond.isRef (.static C n d)).before args s = true := by
  rcases h with h | ⟨t, h⟩
  · exact vx_isRef h rfl
  · exact vx_isRef h rfl
/-- the same frame, seen from here: as if the method were called anew in this heap -/
theorem vx_rebase {T : State} (X : Stand p l e R s m args below meth c T locs cells slots) {R' : Room} (hf : R'.frames ≤ R.frames) (hl : R'.locals ≤ R.locals) (hc : cells + R'.cells ≤ R.cells) (hs : slots + R'.slots ≤ R.slots) :
    Stand p l e R' ((T.setVm s.vm).setFrames (.invoking m args :: below)) m args below meth c T [] 0 0 := by
  have htop : (T.setVm s.vm).topJava?.isSome := X.here.top
  have hF : ((T.setVm s.vm).setFrames (.invoking m args :: below)).frames = .invoking m args :: below := State.frames_setFrames _ (State.cur_lt_of_top htop)
  obtain ⟨g₀, hg0⟩ := Option.isSome_iff_exists.mp htop
  obtain ⟨r, hr⟩ := State.topJava?_eq_some.mp hg0
  have hl9 : e.platform.stackLimits (T.setVm s.vm).me = e.platform.stackLimits s.me := X.limits
  have hb9 : (T.setVm s.vm).me.stackBytes = s.me.stackBytes := X.bytes
  refine ⟨X.admits, X.cas, X.clock, hF, ?_, X.hears, X.method, X.code, X.here, X.tail, X.warmed, ?_, ?_, ?_⟩
  · have h := X.room
    have hU : ((T.setVm s.vm).setFrames (.invoking m args :: below)).localsInUse = s.localsInUse := by
      rw [State.localsInUse_invoking hF (meth := meth) (c := c) X.method X.code, State.localsInUse_invoking X.frames X.method X.code]
    simp only [State.hasRoom, Bool.and_eq_true, decide_eq_true_eq] at h ⊢
    obtain ⟨⟨⟨⟨h1, h2, h3, h4, h5, h6⟩, h7⟩, h8⟩, h9⟩ := h
    rw [X.frames, List.length_cons] at h2 h3
    have q1 := X.heapSize
    have q2 := X.used
    simp only [hF, hU, List.length_cons, State.stackLimits_setFrames, State.stackBytes_setFrames, hl9, hb9]
    refine ⟨⟨⟨⟨by omega, by omega, by omega, by omega, by omega, h6⟩, ?_⟩, ?_⟩, X.book⟩
    · show T.heap.size + R'.cells ≤ e.platform.maxCells
      omega
    · show T.slotsUsed + R'.slots ≤ e.platform.maxSlots
      omega
  · rw [State.stackLimits_setFrames]; rfl
  · rw [State.stackBytes_setFrames]; rfl
  · refine ⟨?_, Nat.le_refl _, Nat.le_refl _, ?_, ?_, fun a c9 h9 => ⟨c9, h9, rfl, rfl, fun _ _ => rfl⟩⟩
    · obtain ⟨t, ht, -⟩ := State.frames_cons hr
      show T.setVm s.vm = { ((T.setVm s.vm).setFrames (.invoking m args :: below)).setFrames (T.setVm s.vm).frames with heap := T.heap, slotsUsed := T.slotsUsed }
      rw [State.setFrames_setFrames, State.setFrames_self ht]
      rfl
    · show T.slotsUsed = T.slotsUsed + ((T.heap.toList.drop T.heap.size).map (·.slots.size)).sum
      rw [List.drop_eq_nil_of_le (Nat.le_of_eq Array.length_toList)]
      rfl
    · show ((T.heap.toList.drop T.heap.size).map (·.slots.size)).sum ≤ 0
      rw [List.drop_eq_nil_of_le (Nat.le_of_eq Array.length_toList)]
      exact Nat.le_refl _
/-- 'throw new E()': new; dup; invokespecial; athrow -/
theorem vx_throw0 {cc : ByteArray} {pc : Nat} (hexec : p.tables.exec = Jvm.exec) (hb : c.code = cc) (hl : l.stackTraces = false) {own cls : String} {names : List String} {ik ic mc ms : Nat} {A : Nat → Prop}
    (hown : s.vm.findClass own = some m.cls) (hcls : Bundle.fit cls = true) (hnames : ∀ n ∈ names, Bundle.fit n = true)
    (hk : (Cond.classLink own ik cls).before args s = true) (hini : (Cond.initialized cls).before args s = true) (hat : ∀ w ∈ vx_at0 own ic cls names, w.before args s = true)
    (hgood : ∀ w ∈ Cond.classLink own ik cls :: Cond.initialized cls :: vx_at0 own ic cls names, vx_ot w = true)
    (hU : vx_Zq Bundle.tN "UNASSIGNED_STACK" Bundle.steD A s s.heap) (hN : vx_Zq Bundle.tN "SUPPRESSED_SENTINEL" Bundle.listD A s s.heap) (hS : va_S A s.heap H locs) (hsize : ls.size = c.maxLocals)
    (d0 : decode cc pc = .ok (.new ik, 3)) (d3 : decode cc (pc + 3) = .ok (.dup, 1)) (d4 : decode cc (pc + 4) = .ok (.invokespecial ic, 3)) (d7 : decode cc (pc + 7) = .ok (.athrow, 1))
    (hout : ∀ x ∈ c.exceptionTable.toList, covers x (pc + 7) = false)
    (hRframes : names.length + 3 < R.frames) (hRlocals : (rest.map fun v => v.category).sum + (13 * (names.length + 1) + 42) ≤ R.locals) (hRcells : cells + 1 ≤ R.cells) (hRslots : slots + 6 ≤ R.slots) (hlocks : meth.locks = false)
    (hx : ∀ t : State, s.vm.Alike t.vm → H.size ≤ t.heap.size → (∀ q : Nat, q < H.size → t.heap[q]? = H[q]?) → XC cls s t)
    (hf : ∀ z ∈ locs, free z.base) (hc : cells + 1 ≤ mc) (hs : slots + 6 ≤ ms) :
    W p l e R s m args below meth c H locs cells slots (vx_MQ below Qc XC args s mc ms free) (F0 m pc ls rest) := by
  intro T hT X
  have htr : e.platform.stackTraces = false := (show e.platform.stackTraces = l.stackTraces by rw [X.admits.platform]).trans hl
  have Y := vx_rebase X (R' := { frames := R.frames, locals := R.locals, cells := 1, slots := 6 }) (Nat.le_refl _) (Nat.le_refl _) hRcells hRslots
  obtain ⟨s', hA⟩ : ∃ z, z = (T.setVm s.vm).setFrames (.invoking m args :: below) := ⟨_, rfl⟩
  rw [← hA] at Y
  have hvm : s'.vm = s.vm := by rw [hA]; rfl
  have hhp : s'.heap = H := by rw [hA]; exact hT
  have hW0 : s.WarmedH s'.vm := by rw [hvm]; exact State.WarmedH.refl s
  have hat' : ∀ w ∈ vx_at0 own ic cls names, w.before args s' = true := fun w hw => vx_ot_at hW0 hvm.symm (hgood w (List.mem_cons_of_mem _ (List.mem_cons_of_mem _ hw))) (hat w hw)
  have hk' : (Cond.classLink own ik cls).before args s' = true := vx_ot_at hW0 hvm.symm (hgood _ List.mem_cons_self) hk
  have hini' : (Cond.initialized cls).before args s' = true := vx_ot_at hW0 hvm.symm (hgood _ (List.mem_cons_of_mem _ List.mem_cons_self)) hini
  have hU' : vx_Zq Bundle.tN "UNASSIGNED_STACK" Bundle.steD A s' s'.heap := by rw [hhp]; exact vx_Zq.moved hW0.alike (hU.kept hS.2.1)
  have hN' : vx_Zq Bundle.tN "SUPPRESSED_SENTINEL" Bundle.listD A s' s'.heap := by rw [hhp]; exact vx_Zq.moved hW0.alike (hN.kept hS.2.1)
  have h : ∀ w ∈ Bundle.ownAtoms0 own ic cls names, w.before args s' = true := vx_own hat' (vx_isRefq hU'.1) (vx_isRefq hN'.1) hU'.2.word hN'.2.word
  have hown' : s'.vm.findClass own = some m.cls := by rw [hvm]; exact hown
  have hins : (Cond.instantiable cls 6).before args s' = true := h _ (by simp [Bundle.ownAtoms0])
  obtain ⟨vm₁, cX, kX, hfX, hkX, -, -, X₁, st1⟩ := Y.newCold hexec (own := own) (C := cls) (index := ik) (n := 6) hown' hk' hins hini'
    (g := F0 m pc ls rest) rfl (by rw [hb]; exact d0) (Nat.le_refl _) (Nat.le_refl _)
  generalize hT1 : (T.setVm vm₁).pushCell { cls := cX, slots := kX.instanceTypes.map defaultValue, vm := .none } = T1 at X₁ st1
  have hcat : (Value.ref T.heap.size).category = 1 := rfl
  have hcellA : T1.heap[T.heap.size]? = some (freshCell cX kX) := by rw [← hT1]; exact State.heap_pushCell_size _ _
  have d3' : decode c.code (pc + 3) = .ok (.dup, 1) := by rw [hb]; exact d3
  obtain ⟨U, hsteps, hrun, hend, hW, hsame, ce, hce, hO⟩ := X₁.ctorThrow0 hexec htr (own := own) (cls := cls) (names := names) (ic := ic) hown' hcls hnames h (fun x hx => nomatch hx) hfX hkX hcellA (by rw [hhp, hT]; exact Nat.le_refl _)
    (g := { method := m, pc := pc + 4, locals := ls, stack := .ref T.heap.size :: .ref T.heap.size :: rest, locked := none }) rfl hsize rfl rfl (rest := rest) rfl
    (by rw [hb]; exact d4) (by rw [hb]; exact d7) hout hRframes (by simp only [List.map_cons, List.sum_cons, hcat]; omega) hlocks
  obtain ⟨f1, f2⟩ := vx_frame hsame
  rw [hhp] at f1 f2
  have hWs : s.WarmedH U.vm := State.WarmedH.trans hW0 hW
  have hcl : s.vm.findClass cls = some ce.cls := by
    have h9 := hO.cls
    rw [hvm] at h9
    exact h9
  have hall : s.sameButNew ({ U with vm := s.vm } : State) locs mc ms := by
    subst hA
    obtain ⟨e1, e2⟩ := hsame
    rw [State.setFrames_setFrames] at e1
    have h2 : (T.setVm s.vm).sameButNew ({ U with vm := s.vm } : State) [] (0 + 1) (0 + 6) := ⟨e1, e2⟩
    have h3 := X.same.trans h2
    rw [List.append_nil] at h3
    exact h3.mono hc hs
  refine ⟨U, ?_, .threw T.heap.size, hrun, hend, Or.inr ⟨T.heap.size, rfl, cls, ce, locs, hx U hWs.alike f1 (fun q hq => f2 q hq (fun z hz => nomatch hz)), hce, hO.vm, hcl, hWs, hall, hf⟩⟩
  refine st1 _ ?_
  show Steps p.tables e below (T1.setTop { method := m, pc := pc + 3, locals := ls, stack := .ref T.heap.size :: rest, locked := none }) _
  jvm_step X₁.here [X₁.here.top, hexec, d3', Value.category]
  exact hsteps
/-- 'throw new E("text")': new; dup; ldc; invokespecial; athrow -/
theorem vx_throwS {cc : ByteArray} {pc : Nat} (hexec : p.tables.exec = Jvm.exec) (hb : c.code = cc) (hl : l.stackTraces = false) {own cls text : String} {names : List String} {ik is ic mc ms sa : Nat} {A : Nat → Prop}
    (hown : s.vm.findClass own = some m.cls) (hcls : Bundle.fit cls = true) (hnames : ∀ n ∈ names, Bundle.fit n = true)
    (hk : (Cond.classLink own ik cls).before args s = true) (hini : (Cond.initialized cls).before args s = true) (hstr : vk_R own is text sa s) (hat : ∀ w ∈ vx_atS own ic cls names, w.before args s = true)
    (hgood : ∀ w ∈ Cond.classLink own ik cls :: Cond.initialized cls :: vx_atS own ic cls names, vx_ot w = true)
    (hU : vx_Zq Bundle.tN "UNASSIGNED_STACK" Bundle.steD A s s.heap) (hN : vx_Zq Bundle.tN "SUPPRESSED_SENTINEL" Bundle.listD A s s.heap) (hS : va_S A s.heap H locs) (hsize : ls.size = c.maxLocals)
    (d0 : decode cc pc = .ok (.new ik, 3)) (d3 : decode cc (pc + 3) = .ok (.dup, 1)) (d4 : decode cc (pc + 4) = .ok (.ldc is, 2)) (d6 : decode cc (pc + 6) = .ok (.invokespecial ic, 3)) (d9 : decode cc (pc + 9) = .ok (.athrow, 1))
    (hout : ∀ x ∈ c.exceptionTable.toList, covers x (pc + 9) = false)
    (hRframes : names.length + 3 < R.frames) (hRlocals : (rest.map fun v => v.category).sum + (13 * (names.length + 1) + 43) ≤ R.locals) (hRcells : cells + 1 ≤ R.cells) (hRslots : slots + 6 ≤ R.slots) (hlocks : meth.locks = false)
    (hx : ∀ t : State, s.vm.Alike t.vm → H.size ≤ t.heap.size → (∀ q : Nat, q < H.size → t.heap[q]? = H[q]?) → XC cls s t)
    (hf : ∀ z ∈ locs, free z.base) (hc : cells + 1 ≤ mc) (hs : slots + 6 ≤ ms) :
    W p l e R s m args below meth c H locs cells slots (vx_MQ below Qc XC args s mc ms free) (F0 m pc ls rest) := by
  intro T hT X
  have htr : e.platform.stackTraces = false := (show e.platform.stackTraces = l.stackTraces by rw [X.admits.platform]).trans hl
  have Y := vx_rebase X (R' := { frames := R.frames, locals := R.locals, cells := 1, slots := 6 }) (Nat.le_refl _) (Nat.le_refl _) hRcells hRslots
  obtain ⟨s', hA⟩ : ∃ z, z = (T.setVm s.vm).setFrames (.invoking m args :: below) := ⟨_, rfl⟩
  rw [← hA] at Y
  have hvm : s'.vm = s.vm := by rw [hA]; rfl
  have hhp : s'.heap = H := by rw [hA]; exact hT
  have hW0 : s.WarmedH s'.vm := by rw [hvm]; exact State.WarmedH.refl s
  have hat' : ∀ w ∈ vx_atS own ic cls names, w.before args s' = true := fun w hw => vx_ot_at hW0 hvm.symm (hgood w (List.mem_cons_of_mem _ (List.mem_cons_of_mem _ hw))) (hat w hw)
  have hk' : (Cond.classLink own ik cls).before args s' = true := vx_ot_at hW0 hvm.symm (hgood _ List.mem_cons_self) hk
  have hini' : (Cond.initialized cls).before args s' = true := vx_ot_at hW0 hvm.symm (hgood _ (List.mem_cons_of_mem _ List.mem_cons_self)) hini
  have hU' : vx_Zq Bundle.tN "UNASSIGNED_STACK" Bundle.steD A s' s'.heap := by rw [hhp]; exact vx_Zq.moved hW0.alike (hU.kept hS.2.1)
  have hN' : vx_Zq Bundle.tN "SUPPRESSED_SENTINEL" Bundle.listD A s' s'.heap := by rw [hhp]; exact vx_Zq.moved hW0.alike (hN.kept hS.2.1)
  have h : ∀ w ∈ Bundle.ownAtoms own ic cls names, w.before args s' = true := vx_own hat' (vx_isRefq hU'.1) (vx_isRefq hN'.1) hU'.2.word hN'.2.word
  have hown' : s'.vm.findClass own = some m.cls := by rw [hvm]; exact hown
  have hins : (Cond.instantiable cls 6).before args s' = true := h _ (by simp [Bundle.ownAtoms])
  obtain ⟨vm₁, cX, kX, hfX, hkX, -, -, X₁, st1⟩ := Y.newCold hexec (own := own) (C := cls) (index := ik) (n := 6) hown' hk' hins hini'
    (g := F0 m pc ls rest) rfl (by rw [hb]; exact d0) (Nat.le_refl _) (Nat.le_refl _)
  generalize hT1 : (T.setVm vm₁).pushCell { cls := cX, slots := kX.instanceTypes.map defaultValue, vm := .none } = T1 at X₁ st1
  have hcat : (Value.ref T.heap.size).category = 1 := rfl
  have hcellA : T1.heap[T.heap.size]? = some (freshCell cX kX) := by rw [← hT1]; exact State.heap_pushCell_size _ _
  have d3' : decode c.code (pc + 3) = .ok (.dup, 1) := by rw [hb]; exact d3
  have d4' : decode c.code (pc + 4) = .ok (.ldc is, 2) := by rw [hb]; exact d4
  have hstr' : vk_R own is text sa s' := vk_R.warm hW0 hstr
  obtain ⟨U, hsteps, hrun, hend, hW, hsame, ce, hce, hO⟩ := X₁.ctorThrowS hexec htr (own := own) (cls := cls) (names := names) (ic := ic) hown' hcls hnames h (fun x hx => nomatch hx) hfX hkX hcellA (by rw [hhp, hT]; exact Nat.le_refl _) (msg := .ref sa) rfl
    (g := { method := m, pc := pc + 6, locals := ls, stack := .ref sa :: .ref T.heap.size :: .ref T.heap.size :: rest, locked := none }) rfl hsize rfl rfl (rest := rest) rfl
    (by rw [hb]; exact d6) (by rw [hb]; exact d9) hout hRframes (by simp only [List.map_cons, List.sum_cons, hcat]; omega) hlocks
  obtain ⟨f1, f2⟩ := vx_frame hsame
  rw [hhp] at f1 f2
  have hWs : s.WarmedH U.vm := State.WarmedH.trans hW0 hW
  have hcl : s.vm.findClass cls = some ce.cls := by
    have h9 := hO.cls
    rw [hvm] at h9
    exact h9
  have hall : s.sameButNew ({ U with vm := s.vm } : State) locs mc ms := by
    subst hA
    obtain ⟨e1, e2⟩ := hsame
    rw [State.setFrames_setFrames] at e1
    have h2 : (T.setVm s.vm).sameButNew ({ U with vm := s.vm } : State) [] (0 + 1) (0 + 6) := ⟨e1, e2⟩
    have h3 := X.same.trans h2
    rw [List.append_nil] at h3
    exact h3.mono hc hs
  refine ⟨U, ?_, .threw T.heap.size, hrun, hend, Or.inr ⟨T.heap.size, rfl, cls, ce, locs, hx U hWs.alike f1 (fun q hq => f2 q hq (fun z hz => nomatch hz)), hce, hO.vm, hcl, hWs, hall, hf⟩⟩
  refine st1 _ ?_
  show Steps p.tables e below (T1.setTop { method := m, pc := pc + 3, locals := ls, stack := .ref T.heap.size :: rest, locked := none }) _
  jvm_step X₁.here [X₁.here.top, hexec, d3', Value.category]
  exact X₁.ldcString hexec (own := own) (text := text) (index := is) (a := sa) hown' hstr'.1 hstr'.2
    (g := { method := m, pc := pc + 4, locals := ls, stack := .ref T.heap.size :: .ref T.heap.size :: rest, locked := none }) rfl d4' _ hsteps
/-- 'throw new E("text")', the text by a wide index -/
theorem vx_throwSW {cc : ByteArray} {pc : Nat} (hexec : p.tables.exec = Jvm.exec) (hb : c.code = cc) (hl : l.stackTraces = false) {own cls text : String} {names : List String} {ik is ic mc ms sa : Nat} {A : Nat → Prop}
    (hown : s.vm.findClass own = some m.cls) (hcls : Bundle.fit cls = true) (hnames : ∀ n ∈ names, Bundle.fit n = true)
    (hk : (Cond.classLink own ik cls).before args s = true) (hini : (Cond.initialized cls).before args s = true) (hstr : vk_R own is text sa s) (hat : ∀ w ∈ vx_atS own ic cls names, w.before args s = true)
    (hgood : ∀ w ∈ Cond.classLink own ik cls :: Cond.initialized cls :: vx_atS own ic cls names, vx_ot w = true)
    (hU : vx_Zq Bundle.tN "UNASSIGNED_STACK" Bundle.steD A s s.heap) (hN : vx_Zq Bundle.tN "SUPPRESSED_SENTINEL" Bundle.listD A s s.heap) (hS : va_S A s.heap H locs) (hsize : ls.size = c.maxLocals)
    (d0 : decode cc pc = .ok (.new ik, 3)) (d3 : decode cc (pc + 3) = .ok (.dup, 1)) (d4 : decode cc (pc + 4) = .ok (.ldc_w is, 3)) (d7 : decode cc (pc + 7) = .ok (.invokespecial ic, 3)) (d10 : decode cc (pc + 10) = .ok (.athrow, 1))
    (hout : ∀ x ∈ c.exceptionTable.toList, covers x (pc + 10) = false)
    (hRframes : names.length + 3 < R.frames) (hRlocals : (rest.map fun v => v.category).sum + (13 * (names.length + 1) + 43) ≤ R.locals) (hRcells : cells + 1 ≤ R.cells) (hRslots : slots + 6 ≤ R.slots) (hlocks : meth.locks = false)
    (hx : ∀ t : State, s.vm.Alike t.vm → H.size ≤ t.heap.size → (∀ q : Nat, q < H.size → t.heap[q]? = H[q]?) → XC cls s t)
    (hf : ∀ z ∈ locs, free z.base) (hc : cells + 1 ≤ mc) (hs : slots + 6 ≤ ms) :
    W p l e R s m args below meth c H locs cells slots (vx_MQ below Qc XC args s mc ms free) (F0 m pc ls rest) := by
  intro T hT X
  have htr : e.platform.stackTraces = false := (show e.platform.stackTraces = l.stackTraces by rw [X.admits.platform]).trans hl
  have Y := vx_rebase X (R' := { frames := R.frames, locals := R.locals, cells := 1, slots := 6 }) (Nat.le_refl _) (Nat.le_refl _) hRcells hRslots
  obtain ⟨s', hA⟩ : ∃ z, z = (T.setVm s.vm).setFrames (.invoking m args :: below) := ⟨_, rfl⟩
  rw [← hA] at Y
  have hvm : s'.vm = s.vm := by rw [hA]; rfl
  have hhp : s'.heap = H := by rw [hA]; exact hT
  have hW0 : s.WarmedH s'.vm := by rw [hvm]; exact State.WarmedH.refl s
  have hat' : ∀ w ∈ vx_atS own ic cls names, w.before args s' = true := fun w hw => vx_ot_at hW0 hvm.symm (hgood w (List.mem_cons_of_mem _ (List.mem_cons_of_mem _ hw))) (hat w hw)
  have hk' : (Cond.classLink own ik cls).before args s' = true := vx_ot_at hW0 hvm.symm (hgood _ List.mem_cons_self) hk
  have hini' : (Cond.initialized cls).before args s' = true := vx_ot_at hW0 hvm.symm (hgood _ (List.mem_cons_of_mem _ List.mem_cons_self)) hini
  have hU' : vx_Zq Bundle.tN "UNASSIGNED_STACK" Bundle.steD A s' s'.heap := by rw [hhp]; exact vx_Zq.moved hW0.alike (hU.kept hS.2.1)
  have hN' : vx_Zq Bundle.tN "SUPPRESSED_SENTINEL" Bundle.listD A s' s'.heap := by rw [hhp]; exact vx_Zq.moved hW0.alike (hN.kept hS.2.1)
  have h : ∀ w ∈ Bundle.ownAtoms own ic cls names, w.before args s' = true := vx_own hat' (vx_isRefq hU'.1) (vx_isRefq hN'.1) hU'.2.word hN'.2.word
  have hown' : s'.vm.findClass own = some m.cls := by rw [hvm]; exact hown
  have hins : (Cond.instantiable cls 6).before args s' = true := h _ (by simp [Bundle.ownAtoms])
  obtain ⟨vm₁, cX, kX, hfX, hkX, -, -, X₁, st1⟩ := Y.newCold hexec (own := own) (C := cls) (index := ik) (n := 6) hown' hk' hins hini'
    (g := F0 m pc ls rest) rfl (by rw [hb]; exact d0) (Nat.le_refl _) (Nat.le_refl _)
  generalize hT1 : (T.setVm vm₁).pushCell { cls := cX, slots := kX.instanceTypes.map defaultValue, vm := .none } = T1 at X₁ st1
  have hcat : (Value.ref T.heap.size).category = 1 := rfl
  have hcellA : T1.heap[T.heap.size]? = some (freshCell cX kX) := by rw [← hT1]; exact State.heap_pushCell_size _ _
  have d3' : decode c.code (pc + 3) = .ok (.dup, 1) := by rw [hb]; exact d3
  have d4' : decode c.code (pc + 4) = .ok (.ldc_w is, 3) := by rw [hb]; exact d4
  have hstr' : vk_R own is text sa s' := vk_R.warm hW0 hstr
  obtain ⟨U, hsteps, hrun, hend, hW, hsame, ce, hce, hO⟩ := X₁.ctorThrowS hexec htr (own := own) (cls := cls) (names := names) (ic := ic) hown' hcls hnames h (fun x hx => nomatch hx) hfX hkX hcellA (by rw [hhp, hT]; exact Nat.le_refl _) (msg := .ref sa) rfl
    (g := { method := m, pc := pc + 7, locals := ls, stack := .ref sa :: .ref T.heap.size :: .ref T.heap.size :: rest, locked := none }) rfl hsize rfl rfl (rest := rest) rfl
    (by rw [hb]; exact d7) (by rw [hb]; exact d10) hout hRframes (by simp only [List.map_cons, List.sum_cons, hcat]; omega) hlocks
  obtain ⟨f1, f2⟩ := vx_frame hsame
  rw [hhp] at f1 f2
  have hWs : s.WarmedH U.vm := State.WarmedH.trans hW0 hW
  have hcl : s.vm.findClass cls = some ce.cls := by
    have h9 := hO.cls
    rw [hvm] at h9
    exact h9
  have hall : s.sameButNew ({ U with vm := s.vm } : State) locs mc ms := by
    subst hA
    obtain ⟨e1, e2⟩ := hsame
    rw [State.setFrames_setFrames] at e1
    have h2 : (T.setVm s.vm).sameButNew ({ U with vm := s.vm } : State) [] (0 + 1) (0 + 6) := ⟨e1, e2⟩
    have h3 := X.same.trans h2
    rw [List.append_nil] at h3
    exact h3.mono hc hs
  refine ⟨U, ?_, .threw T.heap.size, hrun, hend, Or.inr ⟨T.heap.size, rfl, cls, ce, locs, hx U hWs.alike f1 (fun q hq => f2 q hq (fun z hz => nomatch hz)), hce, hO.vm, hcl, hWs, hall, hf⟩⟩
  refine st1 _ ?_
  show Steps p.tables e below (T1.setTop { method := m, pc := pc + 3, locals := ls, stack := .ref T.heap.size :: rest, locked := none }) _
  jvm_step X₁.here [X₁.here.top, hexec, d3', Value.category]
  exact X₁.ldcStringW hexec (own := own) (text := text) (index := is) (a := sa) hown' hstr'.1 hstr'.2
    (g := { method := m, pc := pc + 4, locals := ls, stack := .ref T.heap.size :: .ref T.heap.size :: rest, locked := none }) rfl d4' _ hsteps
end Ends
section Bodies
variable {l : Launch}
theorem vx_ofW {y : MethodName} {ws ws' : List Cond} {rm : Room} {Pc : Array Value → State → Prop} {Qc : Array Value → State → Outcome → State → Prop} {XC : String → State → State → Prop} {mc ms : Nat} {free : Addr → Prop} {cc : ByteArray} {maxL : Nat} {ret : Option FieldType}
    (hy : plainName y.cls = true) (hw : ws = Cond.code y cc maxL ret :: ws')
    (body : ∀ p e s m args below meth c s₁, BodyLoose p l y (headSpec ws rm) cc maxL ret e s m args below meth c s₁ → c.maxLocals = maxL → (∀ x ∈ c.exceptionTable.toList, False) → Pc args s →
      W p l e (headSpec ws rm).room s m args below meth c s.heap [] 0 0 (vx_MQ below Qc XC args s mc ms free) (entryFrame m args maxL)) : vx_Met l y ws rm Pc Qc XC mc ms free := by
  refine MetFree.of_bodyS (code := cc) (maxLocals := maxL) (ret := ret) hy ?_ ?_
  · intro args s m h hn
    obtain ⟨meth, c, h1, h2, h3, h4, h5, h6, -, -⟩ := Cond.code_spec hn (atoms_spec (ws := ws) h _ (by rw [hw]; exact List.mem_cons_self))
    exact ⟨meth, c, h1, h2, h3, h4, h5, h6⟩
  · intro p e s m args below meth c s₁ B hml hP _
    have hh0 : s₁.heap = s.heap := by rw [B.state]; rfl
    have ht : ∀ x ∈ c.exceptionTable.toList, False := by
      obtain ⟨meth9, c9, h1, h2, -, -, -, -, h7, -⟩ := Cond.code_spec B.named (atoms_spec (ws := ws) B.pre _ (by rw [hw]; exact List.mem_cons_self))
      cases Option.some.inj (h1.symm.trans B.method)
      cases Option.some.inj (h2.symm.trans (Stand.of_body B).code)
      intro x hx
      rw [Array.isEmpty_iff.mp h7] at hx
      cases hx
    obtain ⟨t, a1, o, b1, b2, b3⟩ := body p e s m args below meth c s₁ B hml ht hP s₁ hh0 (Stand.of_body B)
    exact ⟨t, o, a1, b1, b2, b3⟩
/-- the table of a body with handlers -/
theorem vx_table {p : Program} {x y : MethodName} {S : Spec} {cc bytes : ByteArray} {maxL maxL' : Nat} {ret ret' : Option FieldType} {e : Env} {s s₁ : State} {m : MethodId} {args : Array Value} {below : List Frame} {meth : Method} {c : Code} {hh : List (Nat × Nat × Nat × Nat)}
    (B : BodyLoose p l y S cc maxL ret e s m args below meth c s₁) (h : (Cond.codeWith y bytes maxL' ret' hh).before args s = true) : c.exceptionTable.toList = tableOf hh := by
  obtain ⟨m9, meth9, c9, hn9, h1, h2, -, -, h6, -⟩ := Cond.codeWith_spec h
  cases Option.some.inj (hn9.symm.trans B.named)
  cases Option.some.inj (h1.symm.trans B.method)
  cases Option.some.inj (h2.symm.trans (Stand.of_body B).code)
  rw [← h6, table_eq]
end Bodies
end VXA
/-! ===== END ===== -/
/-! ===== BEGIN a static call of a method with an exception table ===== -/
section VXS
variable {p : Program} {l : Launch} {e : Env} {R : Room} {s : State} {m : MethodId} {args : Array Value} {below : List Frame} {meth : Method} {c : Code} {T : State} {H : Heap} {locs : List Loc} {cells slots : Nat}
abbrev vx_CSW (R : Room) (s : State) (args : Array Value) (own : String) (index : Nat) (y : MethodName) (bytes : ByteArray) (maxL : Nat) (ret : Option FieldType) (hh : List (Nat × Nat × Nat × Nat)) (ws : List Cond) (rm : Room) (mc ms n : Nat) : Prop :=
  (rm.cells = mc ∧ rm.slots = ms ∧ rm.frames + 1 ≤ R.frames ∧ 8 + (maxL + 11) + rm.locals ≤ R.locals ∧ (∀ w ∈ ws, ∀ (a' : Array Value) (U : State), s.WarmedH U.vm → w.before a' U = true) ∧ Cond.codeWith y bytes maxL ret hh ∈ ws) ∧
  (Cond.codeWith y bytes maxL ret hh).before args s = true ∧ (Cond.initialized y.cls).before args s = true ∧ (y.cls ≠ "java/lang/invoke/MethodHandle" ∧ y.cls ≠ "java/lang/invoke/VarHandle") ∧
  (∀ sig, parseMethodDescriptor y.desc = some sig → n = sig.parameters.length) ∧ (Cond.methodLink own index y).before args s = true ∧ (Cond.static y).before args s = true
theorem vx_cwSW {own : String} {index maxL mc ms : Nat} {y : MethodName} {bytes : ByteArray} {ret : Option FieldType} {hh : List (Nat × Nat × Nat × Nat)} {Ts ws ws' : List Cond} {rm : Room} (n : Nat) (ht : ∀ w ∈ Ts, w.before args s = true) (hT : GoodIn Ts (va_wsS own index y ws)) (hw : ws = Cond.codeWith y bytes maxL ret hh :: ws') (hrc : rm.cells = mc) (hrs : rm.slots = ms)
    (hd : y.cls ≠ "java/lang/invoke/MethodHandle" ∧ y.cls ≠ "java/lang/invoke/VarHandle" ∧ (parseMethodDescriptor y.desc).map (fun d => d.parameters.length) = some n) (hR : rm.frames + 1 ≤ R.frames ∧ 8 + (maxL + 11) + rm.locals ≤ R.locals) :
    vx_CSW R s args own index y bytes maxL ret hh ws rm mc ms n := by
  have ok : ∀ w ∈ va_wsS own index y ws, w.before args s = true := fun w h => ht w (hT w h).1
  have hG : GoodIn Ts ws := fun w h => hT w (by unfold va_wsS; exact List.mem_append_right _ h)
  have hc : Cond.codeWith y bytes maxL ret hh ∈ ws := by rw [hw]; exact List.mem_cons_self
  refine ⟨⟨hrc, hrs, hR.1, hR.2, pay_in ht hG, hc⟩, ht _ (hG _ hc).1, ok _ (by simp [va_wsS]), ⟨hd.1, hd.2.1⟩, fun sig h => ?_, ok _ (by simp [va_wsS]), ok _ (by simp [va_wsS])⟩
  have h2 := hd.2.2
  rw [h] at h2
  exact (Option.some.inj h2).symm
theorem vx_callSW (X : Stand p l e R s m args below meth c T locs cells slots) (hexec : p.tables.exec = Jvm.exec) {own : String} {index : Nat} {y : MethodName} {bytes : ByteArray} {maxL : Nat} {ret : Option FieldType} {hh : List (Nat × Nat × Nat × Nat)}
    (hown : s.vm.findClass own = some m.cls) (hlink : (Cond.methodLink own index y).before args s = true) (hstat : (Cond.static y).before args s = true) (hinit : (Cond.initialized y.cls).before args s = true)
    (hcode : (Cond.codeWith y bytes maxL ret hh).before args s = true) (hy : y.cls ≠ "java/lang/invoke/MethodHandle" ∧ y.cls ≠ "java/lang/invoke/VarHandle")
    {W9 : Nat} {Pre : Pt → Array Value → Prop} {Post : Pt → Array Value → Option Value → Pt → Prop} (hK : Back l R p e below s args y 3 W9 Pre Post)
    {g : JFrame} (hg : g.method = m) (hsize : g.locals.size = c.maxLocals) {argsL rest : List Value} (hlen : ∀ sig, parseMethodDescriptor y.desc = some sig → argsL.length = sig.parameters.length)
    (hstack : g.stack = argsL.reverse ++ rest) (hW : 2 * g.monitorRoom + (rest.map fun v => v.category).sum ≤ W9) (hdg : decode c.code g.pc = .ok (.invokestatic index, 3))
    (hpre : ∀ vm₁, s.WarmedH vm₁ → Pre ⟨T.setVm vm₁, locs, cells, slots⟩ argsL.toArray) :
    ∃ (v : Option Value) (vm₁ : Vm) (B : Pt), s.WarmedH vm₁ ∧ Stand p l e R s m args below meth c B.U B.locs B.cells B.slots ∧ Post ⟨T.setVm vm₁, locs, cells, slots⟩ argsL.toArray v B ∧
      ∀ target, Steps p.tables e below (B.U.setTop { g with pc := g.pc + 3, stack := v.toList ++ rest }) target → Steps p.tables e below (T.setTop g) target := by
  obtain ⟨mk, methM, cM, hnamed, hmethM, -, -, -, -, -, -, hsigM⟩ := Cond.codeWith_spec hcode
  have hstatic : methM.isStatic = true := Cond.static_spec hnamed hmethM hstat
  obtain ⟨kP, hkP, -⟩ := className_of_methodNamed hnamed
  have hinitP : kP.init = .initialized := Cond.initialized_spec (findClass_of_methodNamed hnamed) hkP hinit
  obtain ⟨vm₁, X₁, hstep₁⟩ := X.invokestatic hexec hown hlink hnamed hmethM hstatic hkP hinitP hy (g := g) hg (argsL := argsL) (rest := rest) (hlen _ hsigM) hstack hdg
  obtain ⟨v, B, X', hpost, hsteps⟩ := hK m meth c ⟨T.setVm vm₁, locs, cells, slots⟩ { g with stack := rest } (.invokestatic index) mk argsL.toArray X₁ hg hsize hdg hW (X₁.named hnamed) (hpre vm₁ X₁.warmed)
  exact ⟨v, vm₁, B, X₁.warmed, X', hpost, fun target h => hstep₁ _ fun acts => by rw [doInvoke_state]; exact hsteps.trans h⟩
theorem vx_runSW {y : MethodName} {bytes cc : ByteArray} {maxL nL mc ms n index : Nat} {ret : Option FieldType} {hh : List (Nat × Nat × Nat × Nat)} {ws : List Cond} {rm : Room} {Pc : Array Value → State → Prop} {Qc : Array Value → State → Outcome → State → Prop} {free : Addr → Prop} {Ts : List Cond} {own : String} {As rest : List Value} {g : JFrame}
    (S : CallFix p m c cc nL s args Ts own) (hM : Met l y ws rm Pc Qc mc ms free) (cw : vx_CSW R s args own index y bytes maxL ret hh ws rm mc ms n) (hp : PreS s H Pc As)
    (hg : g.method = m) (hn : As.length = n) (hsize : g.locals.size = nL) (hstack : g.stack = As.reverse ++ rest) (hW : 2 * g.monitorRoom + (rest.map fun v => v.category).sum ≤ 8) (hdg : decode cc g.pc = .ok (.invokestatic index, 3)) (hf : cells + mc ≤ R.cells ∧ slots + ms ≤ R.slots) :
    va_Run p l e R s m args below meth c H locs cells slots mc ms g rest (Qc As.toArray) (free) := by
  obtain ⟨⟨hrc, hrs, hfr, hlo, hws, hcw⟩, hcode, hini, hy, hlen, hl, hstt⟩ := cw
  have hK : Back l R p e below s args y 3 8 (PreOf R mc ms Pc) (PostOf Qc mc ms free) := va_backW (hh := hh) (bytes := bytes) (maxL := maxL) (ret := ret) hM hp.1 hrc hrs hfr hlo hws hcw (fun a' U hW => word_at hW (Or.inl (by first | rfl | simp [Cond.onTables, Cond.keeps, Cond.steady])) hini)
  obtain ⟨hx, hb, hml, ho, -⟩ := S
  intro T hT X
  obtain ⟨v, vm₁, ⟨U', l2, c2, s2⟩, hW₁, X', ⟨g', mk, t, L, e1, e2, hq, h1, hL, h2, h3⟩, st⟩ := vx_callSW X hx (hh := hh) (bytes := bytes) (maxL := maxL) (ret := ret) ho hl hstt hini hcode hy hK hg (hsize.trans hml.symm) (argsL := As) (rest := rest) (fun sig h => hn.trans (hlen sig h)) hstack hW (by rw [hb]; exact hdg)
    (fun vm₁ hW₁ => ⟨hf.1, hf.2, hp.2 (T.setVm vm₁) hT hW₁⟩)
  dsimp only [Pt.U, Pt.locs, Pt.cells, Pt.slots] at X' e1 e2 h1 h2 h3 st
  subst h1; subst h2; subst h3
  exact ⟨v, (T.setVm vm₁).calling g' mk As.toArray, t, U', L, hT, X', hL, e1, e2, hq, st⟩
/-- a thing of a world lies in the heap -/
theorem vx_lt {D : va_G} {cl : List vw_C} {ws : va_W} {H1 : Heap} (h : va_P D cl ws H1) {k : Nat} {q : Nat × va_E} (hk : ws[k]? = some q) : q.1 < H1.size := (h k q hk).lt
end VXS
/-! ===== END ===== -/
/-! ===== BEGIN methods with a table of their own: called by a name, returning or throwing ===== -/
section VXH
/-! vx_backW, vx_callVX, vx_callSX, vx_callVW, vx_runVW, vx_runVX, vx_runSX, vx_ofWH follow the same proofs as their sisters above (Free/Laws.lean, Shelf42/LK1.lean); vx_outP calls Shelf42/NT130.lean (outThrough). -/
section
variable {l : Launch} {R : Room} {p : Program} {e : Env} {below : List Frame} {s : State} {sargs : Array Value} {y : MethodName} {len W9 : Nat}
theorem vx_backW {ws : List Cond} {rm : Room} {Pc : Array Value → State → Prop} {Qc : Array Value → State → Outcome → State → Prop} {XC : String → State → State → Prop} {mc ms : Nat} {free : Addr → Prop} {bytes : ByteArray} {maxL : Nat} {ret : Option FieldType} {hh : List (Nat × Nat × Nat × Nat)}
    (hM : vx_Met l y ws rm Pc Qc XC mc ms free) (hblind : FrameBlind Pc) (hrc : rm.cells = mc) (hrs : rm.slots = ms)
    (hframes : rm.frames + 1 ≤ R.frames) (hlocals : W9 + (maxL + 11) + rm.locals ≤ R.locals)
    (hws : ∀ w ∈ ws, ∀ a' U, s.WarmedH U.vm → w.before a' U = true) (hcode : Cond.codeWith y bytes maxL ret hh ∈ ws) (hinit : ∀ a' U, s.WarmedH U.vm → (Cond.initialized y.cls).before a' U = true) :
    vx_Back l R p e below s sargs y len W9 (PreOf R mc ms Pc) (PostOf Qc mc ms free) (vx_Post XC mc ms free) := by
  intro m meth c A g ig mk a X hg hsize hdg hW hn hp
  have h1 : (headSpec ws rm).pre.before a A.U = true := atoms_intro fun w hw => hws w hw _ _ X.warmed
  have h2 : (Cond.codeWith y bytes maxL ret hh).before a A.U = true := hws _ hcode _ _ X.warmed
  have h3 : (Cond.initialized y.cls).before a A.U = true := hinit _ _ X.warmed
  have h4 : A.cells + (headSpec ws rm).room.cells ≤ R.cells := by rw [show (headSpec ws rm).room.cells = mc from hrc]; exact hp.1
  have h5 : A.slots + (headSpec ws rm).room.slots ≤ R.slots := by rw [show (headSpec ws rm).room.slots = ms from hrs]; exact hp.2.1
  have hPc : Pc a (A.U.calling g mk a) := hblind _ _ _ _ hp.2.2
  obtain ⟨U, Ls, c0, s0⟩ := A
  dsimp only [Pt.U, Pt.locs, Pt.cells, Pt.slots] at h1 h2 h3 h4 h5 X hn hPc ⊢
  obtain ⟨m9, methY, cY, hn9, hmY, hcY, -, hlY, -⟩ := Cond.codeWith_spec h2
  cases Option.some.inj (hn9.symm.trans hn)
  obtain ⟨kY, hkY, -⟩ := className_of_methodNamed hn
  have hinitY : kY.init = .initialized := Cond.initialized_spec (findClass_of_methodNamed hn) hkY h3
  have h : At U g.method c below := by rw [hg]; exact X.here
  have hlocals9 : W9 + (maxL + 11) + (headSpec ws rm).room.locals ≤ R.locals := hlocals
  have happ : (headSpec ws rm).appliesLoose y e.platform (U.calling g mk a) = true :=
    Spec.appliesLoose_calling (g := g) h hdg hn hkY hinitY
      (X.room_calling (g := g) (R' := (headSpec ws rm).room) hsize hmY hcY hframes (by rw [hlY]; omega) h4 h5) h1
  obtain ⟨mid, hmid⟩ := h.above
  have hfr : (U.setTop g).frames = (.java g :: mid) ++ below := by rw [State.frames_setTop' g h.top, hmid]; rfl
  obtain ⟨o, s₂, hsteps, -, hend, hq⟩ := Steps.callFree hM p X.admits X.cas X.clock (acts := []) hfr happ hPc trivial
  have hq' : vx_Q Qc XC mc ms free a (U.calling g mk a) o s₂ := hq
  rw [State.frames_setTop' g h.top] at hend
  obtain ⟨g₀, hg0⟩ := Option.isSome_iff_exists.mp h.top
  obtain ⟨r, hr⟩ := State.topJava?_eq_some.mp hg0
  have hr' : (({ U with heap := s₂.heap, slotsUsed := s₂.slotsUsed } : State).setVm s₂.vm).frames = .java g₀ :: r := hr
  rcases hq' with ⟨hqc, L, hfe, hL⟩ | ⟨q, rfl, E, ce, L, hx, hce, hcv, hcl, hW₂, hsm, hL⟩
  · obtain ⟨⟨v, rfl⟩, hW₂, e2, q2, q3, q4, q5, q6⟩ := id hfe
    have e3 : s₂ = ({ (U.calling g mk a).setFrames s₂.frames with heap := s₂.heap, slotsUsed := s₂.slotsUsed } : State).setVm s₂.vm := by
      have : s₂ = ({ s₂ with vm := (U.calling g mk a).vm } : State).setVm s₂.vm := rfl
      rw [e2] at this
      exact this
    obtain ⟨c₂, i₂, len₂, hc₂, hd₂, hf₂⟩ := hend
    have hW' : U.WarmedH s₂.vm := hW₂
    have hcc : c₂ = c := by
      have h1 : s₂.code? g.method = U.code? g.method := by
        rw [State.code?_eq, State.code?_eq, hW'.alike.method?]
      exact Option.some.inj (hc₂.symm.trans (h1.trans h.code))
    subst hcc
    have hlen : len₂ = len := by rw [hdg] at hd₂; cases hd₂; rfl
    subst hlen
    have hs₂ : s₂ = (({ U with heap := s₂.heap, slotsUsed := s₂.slotsUsed } : State).setVm s₂.vm).setTop { g with pc := g.pc + len₂, stack := v.toList ++ g.stack } := by
      refine e3.trans ?_
      rw [hf₂, State.calling_eq h.top, State.setFrames_setFrames, State.setTop_of_frames _ hr', hr]
      rfl
    have hsame : U.sameButNew ({ U with heap := s₂.heap, slotsUsed := s₂.slotsUsed } : State) L mc ms := by
      refine ⟨?_, q2, q3, q4, q5, q6⟩
      obtain ⟨t, ht, -⟩ := State.frames_cons hr
      show ({ U with heap := s₂.heap, slotsUsed := s₂.slotsUsed } : State) = { U.setFrames U.frames with heap := s₂.heap, slotsUsed := s₂.slotsUsed }
      rw [State.setFrames_self ht]
    subst hg
    refine Or.inl ⟨v, ⟨(({ U with heap := s₂.heap, slotsUsed := s₂.slotsUsed } : State).setVm s₂.vm), Ls ++ L, c0 + mc, s0 + ms⟩,
      ⟨X.admits, X.cas, X.clock, X.frames, X.room, X.hears, X.method, X.code, (X.here.setHeapUsed s₂.heap s₂.slotsUsed).setVm hW'.alike, X.tail, State.WarmedH.trans X.warmed hW', X.limits, X.bytes, X.same.trans (hsame.setVm s.vm)⟩,
      ⟨g, mk, s₂, L, rfl, rfl, hqc, rfl, hL, rfl, rfl⟩, ?_⟩
    show Steps p.tables e below _ ((({ U with heap := s₂.heap, slotsUsed := s₂.slotsUsed } : State).setVm s₂.vm).setTop { g with pc := g.pc + len₂, stack := v.toList ++ g.stack })
    rw [← hs₂]
    exact hsteps
  · obtain ⟨e2, q2, q3, q4, q5, q6⟩ := id hsm
    have e3 : s₂ = ({ (U.calling g mk a).setFrames s₂.frames with heap := s₂.heap, slotsUsed := s₂.slotsUsed } : State).setVm s₂.vm := by
      have : s₂ = ({ s₂ with vm := (U.calling g mk a).vm } : State).setVm s₂.vm := rfl
      rw [e2] at this
      exact this
    have hf₂ : s₂.frames = .throwing q :: .java g :: U.frames.tail := hend
    have hW' : U.WarmedH s₂.vm := hW₂
    have hs₂ : s₂ = ((({ U with heap := s₂.heap, slotsUsed := s₂.slotsUsed } : State).setVm s₂.vm).setTop g).pushFrame (.throwing q) := by
      refine e3.trans ?_
      rw [hf₂, State.calling_eq h.top, State.setFrames_setFrames, State.pushFrame, State.frames_setTop _ hr', State.setTop_of_frames _ hr', State.setFrames_setFrames, hr]
      rfl
    have hsame : U.sameButNew ({ U with heap := s₂.heap, slotsUsed := s₂.slotsUsed } : State) L mc ms := by
      refine ⟨?_, q2, q3, q4, q5, q6⟩
      obtain ⟨t, ht, -⟩ := State.frames_cons hr
      show ({ U with heap := s₂.heap, slotsUsed := s₂.slotsUsed } : State) = { U.setFrames U.frames with heap := s₂.heap, slotsUsed := s₂.slotsUsed }
      rw [State.setFrames_self ht]
    subst hg
    refine Or.inr ⟨q, ⟨(({ U with heap := s₂.heap, slotsUsed := s₂.slotsUsed } : State).setVm s₂.vm), Ls ++ L, c0 + mc, s0 + ms⟩,
      ⟨X.admits, X.cas, X.clock, X.frames, X.room, X.hears, X.method, X.code, (X.here.setHeapUsed s₂.heap s₂.slotsUsed).setVm hW'.alike, X.tail, State.WarmedH.trans X.warmed hW', X.limits, X.bytes, X.same.trans (hsame.setVm s.vm)⟩,
      ⟨g, mk, s₂, L, E, ce, rfl, rfl, hx, hce, hcv, hcl, rfl, hL, rfl, rfl⟩, ?_⟩
    show Steps p.tables e below _ (((({ U with heap := s₂.heap, slotsUsed := s₂.slotsUsed } : State).setVm s₂.vm).setTop g).pushFrame (.throwing q))
    rw [← hs₂]
    exact hsteps
end
variable {p : Program} {l : Launch} {e : Env} {R : Room} {s : State} {m : MethodId} {args : Array Value} {below : List Frame} {meth : Method} {c : Code} {T : State} {H : Heap} {locs : List Loc} {cells slots : Nat}
theorem vx_callVX (X : Stand p l e R s m args below meth c T locs cells slots) (hexec : p.tables.exec = Jvm.exec) {own C : String} {index : Nat} {y : MethodName} {bytes : ByteArray} {maxL : Nat} {ret : Option FieldType} {hh : List (Nat × Nat × Nat × Nat)}
    (hown : s.vm.findClass own = some m.cls) (hlink : (Cond.methodLink own index y).before args s = true) (hinst : (Cond.instanceMethod y).before args s = true) (hsel : (Cond.selects C y y).before args s = true)
    (hcode : (Cond.codeWith y bytes maxL ret hh).before args s = true) (hy : y.cls ≠ "java/lang/invoke/MethodHandle" ∧ y.cls ≠ "java/lang/invoke/VarHandle")
    {W9 : Nat} {Pre : Pt → Array Value → Prop} {Post : Pt → Array Value → Option Value → Pt → Prop} {PostX : Pt → Array Value → Addr → Pt → Prop} (hK : vx_Back l R p e below s args y 3 W9 Pre Post PostX)
    {b : Addr} {cellB : Cell} (hcell : T.heap[b]? = some cellB) (hobj : cellB.vm.isStatics = false) (hcls : s.vm.findClass C = some cellB.cls)
    {g : JFrame} (hg : g.method = m) (hsize : g.locals.size = c.maxLocals) {argsL rest : List Value} (hlen : ∀ sig, parseMethodDescriptor y.desc = some sig → argsL.length = sig.parameters.length)
    (hstack : g.stack = argsL.reverse ++ .ref b :: rest) (hW : 2 * g.monitorRoom + (rest.map fun v => v.category).sum ≤ W9) (hdg : decode c.code g.pc = .ok (.invokevirtual index, 3))
    (hpre : ∀ vm₁, s.WarmedH vm₁ → Pre ⟨T.setVm vm₁, locs, cells, slots⟩ (Value.ref b :: argsL).toArray) :
    (∃ (v : Option Value) (vm₁ : Vm) (B : Pt), s.WarmedH vm₁ ∧ Stand p l e R s m args below meth c B.U B.locs B.cells B.slots ∧ Post ⟨T.setVm vm₁, locs, cells, slots⟩ (Value.ref b :: argsL).toArray v B ∧
      ∀ target, Steps p.tables e below (B.U.setTop { g with pc := g.pc + 3, stack := v.toList ++ rest }) target → Steps p.tables e below (T.setTop g) target) ∨
    (∃ (q : Addr) (vm₁ : Vm) (B : Pt), s.WarmedH vm₁ ∧ Stand p l e R s m args below meth c B.U B.locs B.cells B.slots ∧ PostX ⟨T.setVm vm₁, locs, cells, slots⟩ (Value.ref b :: argsL).toArray q B ∧
      Steps p.tables e below (T.setTop g) ((B.U.setTop { g with stack := rest }).pushFrame (.throwing q))) := by
  obtain ⟨mk, methM, hnamed, hmethM, hstM, habM⟩ := Cond.instanceMethod_spec hinst
  obtain ⟨m8, methM', cM, hn8, hmethM', -, -, -, -, -, -, hsigM⟩ := Cond.codeWith_spec hcode
  cases Option.some.inj (hn8.symm.trans hnamed)
  cases hmethM.symm.trans hmethM'
  obtain ⟨c2, r2, m2, q1, q2, q3, q4, kP, hkP, hkPi⟩ := Cond.selects_spec hsel
  cases hcls.symm.trans q1
  cases (State.methodFound?_of_named hnamed hy).symm.trans q2
  cases hnamed.symm.trans q3
  have hselP : selectMethod e.platform s.vm cellB.cls mk = .method mk := by rw [Launch.admits_selectMethod X.admits]; exact q4
  obtain ⟨vm₁, X₁, hstep₁⟩ := X.invokevirtual hexec hown hlink hnamed hmethM hstM hkP hkPi hy (a := b) (cell := cellB) hcell
    (fun z h => by rw [h] at hobj; cases hobj) hselP hmethM habM hkP hkPi (g := g) hg (argsL := argsL) (rest := rest) (hlen _ hsigM) hstack hdg
  rcases hK m meth c ⟨T.setVm vm₁, locs, cells, slots⟩ { g with stack := rest } (.invokevirtual index) mk (Value.ref b :: argsL).toArray X₁ hg hsize hdg hW (X₁.named hnamed) (hpre vm₁ X₁.warmed) with ⟨v, B, X', hpost, hsteps⟩ | ⟨q, B, X', hpost, hsteps⟩
  · exact Or.inl ⟨v, vm₁, B, X₁.warmed, X', hpost, fun target h => hstep₁ _ fun acts => by rw [doInvoke_state]; exact hsteps.trans h⟩
  · exact Or.inr ⟨q, vm₁, B, X₁.warmed, X', hpost, hstep₁ _ fun acts => by rw [doInvoke_state]; exact hsteps⟩
theorem vx_callSX (X : Stand p l e R s m args below meth c T locs cells slots) (hexec : p.tables.exec = Jvm.exec) {own : String} {index : Nat} {y : MethodName} {bytes : ByteArray} {maxL : Nat} {ret : Option FieldType} {hh : List (Nat × Nat × Nat × Nat)}
    (hown : s.vm.findClass own = some m.cls) (hlink : (Cond.methodLink own index y).before args s = true) (hstat : (Cond.static y).before args s = true) (hinit : (Cond.initialized y.cls).before args s = true)
    (hcode : (Cond.codeWith y bytes maxL ret hh).before args s = true) (hy : y.cls ≠ "java/lang/invoke/MethodHandle" ∧ y.cls ≠ "java/lang/invoke/VarHandle")
    {W9 : Nat} {Pre : Pt → Array Value → Prop} {Post : Pt → Array Value → Option Value → Pt → Prop} {PostX : Pt → Array Value → Addr → Pt → Prop} (hK : vx_Back l R p e below s args y 3 W9 Pre Post PostX)
    {g : JFrame} (hg : g.method = m) (hsize : g.locals.size = c.maxLocals) {argsL rest : List Value} (hlen : ∀ sig, parseMethodDescriptor y.desc = some sig → argsL.length = sig.parameters.length)
    (hstack : g.stack = argsL.reverse ++ rest) (hW : 2 * g.monitorRoom + (rest.map fun v => v.category).sum ≤ W9) (hdg : decode c.code g.pc = .ok (.invokestatic index, 3))
    (hpre : ∀ vm₁, s.WarmedH vm₁ → Pre ⟨T.setVm vm₁, locs, cells, slots⟩ argsL.toArray) :
    (∃ (v : Option Value) (vm₁ : Vm) (B : Pt), s.WarmedH vm₁ ∧ Stand p l e R s m args below meth c B.U B.locs B.cells B.slots ∧ Post ⟨T.setVm vm₁, locs, cells, slots⟩ argsL.toArray v B ∧
      ∀ target, Steps p.tables e below (B.U.setTop { g with pc := g.pc + 3, stack := v.toList ++ rest }) target → Steps p.tables e below (T.setTop g) target) ∨
    (∃ (q : Addr) (vm₁ : Vm) (B : Pt), s.WarmedH vm₁ ∧ Stand p l e R s m args below meth c B.U B.locs B.cells B.slots ∧ PostX ⟨T.setVm vm₁, locs, cells, slots⟩ argsL.toArray q B ∧
      Steps p.tables e below (T.setTop g) ((B.U.setTop { g with stack := rest }).pushFrame (.throwing q))) := by
  obtain ⟨mk, methM, cM, hnamed, hmethM, -, -, -, -, -, -, hsigM⟩ := Cond.codeWith_spec hcode
  have hstatic : methM.isStatic = true := Cond.static_spec hnamed hmethM hstat
  obtain ⟨kP, hkP, -⟩ := className_of_methodNamed hnamed
  have hinitP : kP.init = .initialized := Cond.initialized_spec (findClass_of_methodNamed hnamed) hkP hinit
  obtain ⟨vm₁, X₁, hstep₁⟩ := X.invokestatic hexec hown hlink hnamed hmethM hstatic hkP hinitP hy (g := g) hg (argsL := argsL) (rest := rest) (hlen _ hsigM) hstack hdg
  rcases hK m meth c ⟨T.setVm vm₁, locs, cells, slots⟩ { g with stack := rest } (.invokestatic index) mk argsL.toArray X₁ hg hsize hdg hW (X₁.named hnamed) (hpre vm₁ X₁.warmed) with ⟨v, B, X', hpost, hsteps⟩ | ⟨q, B, X', hpost, hsteps⟩
  · exact Or.inl ⟨v, vm₁, B, X₁.warmed, X', hpost, fun target h => hstep₁ _ fun acts => by rw [doInvoke_state]; exact hsteps.trans h⟩
  · exact Or.inr ⟨q, vm₁, B, X₁.warmed, X', hpost, hstep₁ _ fun acts => by rw [doInvoke_state]; exact hsteps⟩
theorem vx_callVW (X : Stand p l e R s m args below meth c T locs cells slots) (hexec : p.tables.exec = Jvm.exec) {own C : String} {index : Nat} {y : MethodName} {bytes : ByteArray} {maxL : Nat} {ret : Option FieldType} {hh : List (Nat × Nat × Nat × Nat)}
    (hown : s.vm.findClass own = some m.cls) (hlink : (Cond.methodLink own index y).before args s = true) (hinst : (Cond.instanceMethod y).before args s = true) (hsel : (Cond.selects C y y).before args s = true)
    (hcode : (Cond.codeWith y bytes maxL ret hh).before args s = true) (hy : y.cls ≠ "java/lang/invoke/MethodHandle" ∧ y.cls ≠ "java/lang/invoke/VarHandle")
    {W9 : Nat} {Pre : Pt → Array Value → Prop} {Post : Pt → Array Value → Option Value → Pt → Prop} (hK : Back l R p e below s args y 3 W9 Pre Post)
    {b : Addr} {cellB : Cell} (hcell : T.heap[b]? = some cellB) (hobj : cellB.vm.isStatics = false) (hcls : s.vm.findClass C = some cellB.cls)
    {g : JFrame} (hg : g.method = m) (hsize : g.locals.size = c.maxLocals) {argsL rest : List Value} (hlen : ∀ sig, parseMethodDescriptor y.desc = some sig → argsL.length = sig.parameters.length)
    (hstack : g.stack = argsL.reverse ++ .ref b :: rest) (hW : 2 * g.monitorRoom + (rest.map fun v => v.category).sum ≤ W9) (hdg : decode c.code g.pc = .ok (.invokevirtual index, 3))
    (hpre : ∀ vm₁, s.WarmedH vm₁ → Pre ⟨T.setVm vm₁, locs, cells, slots⟩ (Value.ref b :: argsL).toArray) :
    ∃ (v : Option Value) (vm₁ : Vm) (B : Pt), s.WarmedH vm₁ ∧ Stand p l e R s m args below meth c B.U B.locs B.cells B.slots ∧ Post ⟨T.setVm vm₁, locs, cells, slots⟩ (Value.ref b :: argsL).toArray v B ∧
      ∀ target, Steps p.tables e below (B.U.setTop { g with pc := g.pc + 3, stack := v.toList ++ rest }) target → Steps p.tables e below (T.setTop g) target := by
  obtain ⟨mk, methM, hnamed, hmethM, hstM, habM⟩ := Cond.instanceMethod_spec hinst
  obtain ⟨m8, methM', cM, hn8, hmethM', -, -, -, -, -, -, hsigM⟩ := Cond.codeWith_spec hcode
  cases Option.some.inj (hn8.symm.trans hnamed)
  cases hmethM.symm.trans hmethM'
  obtain ⟨c2, r2, m2, q1, q2, q3, q4, kP, hkP, hkPi⟩ := Cond.selects_spec hsel
  cases hcls.symm.trans q1
  cases (State.methodFound?_of_named hnamed hy).symm.trans q2
  cases hnamed.symm.trans q3
  have hselP : selectMethod e.platform s.vm cellB.cls mk = .method mk := by rw [Launch.admits_selectMethod X.admits]; exact q4
  obtain ⟨vm₁, X₁, hstep₁⟩ := X.invokevirtual hexec hown hlink hnamed hmethM hstM hkP hkPi hy (a := b) (cell := cellB) hcell
    (fun z h => by rw [h] at hobj; cases hobj) hselP hmethM habM hkP hkPi (g := g) hg (argsL := argsL) (rest := rest) (hlen _ hsigM) hstack hdg
  obtain ⟨v, B, X', hpost, hsteps⟩ := hK m meth c ⟨T.setVm vm₁, locs, cells, slots⟩ { g with stack := rest } (.invokevirtual index) mk (Value.ref b :: argsL).toArray X₁ hg hsize hdg hW (X₁.named hnamed) (hpre vm₁ X₁.warmed)
  exact ⟨v, vm₁, B, X₁.warmed, X', hpost, fun target h => hstep₁ _ fun acts => by rw [doInvoke_state]; exact hsteps.trans h⟩
abbrev vx_CVW (R : Room) (s : State) (args : Array Value) (own C : String) (index : Nat) (y : MethodName) (bytes : ByteArray) (maxL : Nat) (ret : Option FieldType) (hh : List (Nat × Nat × Nat × Nat)) (ws : List Cond) (rm : Room) (mc ms n : Nat) : Prop :=
  (rm.cells = mc ∧ rm.slots = ms ∧ rm.frames + 1 ≤ R.frames ∧ 8 + (maxL + 11) + rm.locals ≤ R.locals ∧ (∀ w ∈ ws, ∀ (a' : Array Value) (U : State), s.WarmedH U.vm → w.before a' U = true) ∧ Cond.codeWith y bytes maxL ret hh ∈ ws) ∧
  (Cond.codeWith y bytes maxL ret hh).before args s = true ∧ (Cond.initialized y.cls).before args s = true ∧ (y.cls ≠ "java/lang/invoke/MethodHandle" ∧ y.cls ≠ "java/lang/invoke/VarHandle") ∧
  (∀ sig, parseMethodDescriptor y.desc = some sig → n = sig.parameters.length) ∧ (Cond.methodLink own index y).before args s = true ∧ (Cond.instanceMethod y).before args s = true ∧ (Cond.selects C y y).before args s = true
theorem vx_cwVW {own C : String} {index maxL mc ms : Nat} {y : MethodName} {bytes : ByteArray} {ret : Option FieldType} {hh : List (Nat × Nat × Nat × Nat)} {Ts ws ws' : List Cond} {rm : Room} (n : Nat) (ht : ∀ w ∈ Ts, w.before args s = true) (hT : GoodIn Ts (wsV own index C y ws)) (hw : ws = Cond.codeWith y bytes maxL ret hh :: ws') (hrc : rm.cells = mc) (hrs : rm.slots = ms)
    (hd : y.cls = C ∧ y.cls ≠ "java/lang/invoke/MethodHandle" ∧ y.cls ≠ "java/lang/invoke/VarHandle" ∧ (parseMethodDescriptor y.desc).map (fun d => d.parameters.length) = some n) (hR : rm.frames + 1 ≤ R.frames ∧ 8 + (maxL + 11) + rm.locals ≤ R.locals) :
    vx_CVW R s args own C index y bytes maxL ret hh ws rm mc ms n := by
  obtain ⟨hC, hd⟩ := hd
  subst hC
  have ok : ∀ w ∈ wsV own index y.cls y ws, w.before args s = true := fun w h => ht w (hT w h).1
  have hG : GoodIn Ts ws := fun w h => hT w (by unfold wsV; exact List.mem_append_right _ h)
  have hc : Cond.codeWith y bytes maxL ret hh ∈ ws := by rw [hw]; exact List.mem_cons_self
  refine ⟨⟨hrc, hrs, hR.1, hR.2, pay_in ht hG, hc⟩, ht _ (hG _ hc).1, ok _ (by simp [wsV]), ⟨hd.1, hd.2.1⟩, fun sig h => ?_, ok _ (by simp [wsV]), ok _ (by simp [wsV]), ok _ (by simp [wsV])⟩
  have h2 := hd.2.2
  rw [h] at h2
  exact (Option.some.inj h2).symm
theorem vx_runVW {y : MethodName} {bytes cc : ByteArray} {maxL nL mc ms n index : Nat} {ret : Option FieldType} {hh : List (Nat × Nat × Nat × Nat)} {ws : List Cond} {rm : Room} {Pc : Array Value → State → Prop} {Qc : Array Value → State → Outcome → State → Prop} {free : Addr → Prop} {Ts : List Cond} {own C : String} {b : Addr} {As rest : List Value} {g : JFrame}
    (S : CallFix p m c cc nL s args Ts own) (hM : Met l y ws rm Pc Qc mc ms free) (cw : vx_CVW R s args own C index y bytes maxL ret hh ws rm mc ms n) (hp : PreV s H C b Pc As)
    (hg : g.method = m) (hn : As.length = n) (hsize : g.locals.size = nL) (hstack : g.stack = As.reverse ++ .ref b :: rest) (hW : 2 * g.monitorRoom + (rest.map fun v => v.category).sum ≤ 8) (hdg : decode cc g.pc = .ok (.invokevirtual index, 3)) (hf : cells + mc ≤ R.cells ∧ slots + ms ≤ R.slots) :
    va_Run p l e R s m args below meth c H locs cells slots mc ms g rest (Qc (Value.ref b :: As).toArray) free := by
  obtain ⟨⟨hrc, hrs, hfr, hlo, hws, hcw⟩, hcode, hini, hy, hlen, hl, hin, hse⟩ := cw
  have hK : Back l R p e below s args y 3 8 (PreOf R mc ms Pc) (PostOf Qc mc ms free) := va_backW (hh := hh) (bytes := bytes) (maxL := maxL) (ret := ret) hM hp.1 hrc hrs hfr hlo hws hcw (fun a' U hW => word_at hW (Or.inl (by first | rfl | simp [Cond.onTables, Cond.keeps, Cond.steady])) hini)
  obtain ⟨hx, hb, hml, ho, -⟩ := S
  obtain ⟨-, ⟨cellB, hcB, hoB, hclB⟩, hPc⟩ := hp
  intro T hT X
  obtain ⟨v, vm₁, ⟨U', l2, c2, s2⟩, hW₁, X', ⟨g', mk, t, L, e1, e2, hq, h1, hL, h2, h3⟩, st⟩ := vx_callVW X hx (C := C) (hh := hh) (bytes := bytes) (maxL := maxL) (ret := ret) ho hl hin hse hcode hy hK (by rw [hT]; exact hcB) hoB hclB hg (hsize.trans hml.symm) (argsL := As) (rest := rest) (fun sig h => hn.trans (hlen sig h)) hstack hW (by rw [hb]; exact hdg)
    (fun vm₁ hW₁ => ⟨hf.1, hf.2, hPc (T.setVm vm₁) hT hW₁⟩)
  dsimp only [Pt.U, Pt.locs, Pt.cells, Pt.slots] at X' e1 e2 h1 h2 h3 st
  subst h1; subst h2; subst h3
  exact ⟨v, (T.setVm vm₁).calling g' mk (Value.ref b :: As).toArray, t, U', L, hT, X', hL, e1, e2, hq, st⟩
section
variable {y : MethodName} {bytes cc : ByteArray} {maxL nL mc ms n index : Nat} {ret : Option FieldType} {ws : List Cond} {rm : Room} {Pc : Array Value → State → Prop} {Qc : Array Value → State → Outcome → State → Prop} {XC : String → State → State → Prop} {free : Addr → Prop} {Ts : List Cond} {own C : String} {b : Addr} {As rest : List Value} {g : JFrame}
theorem vx_runVX {hh : List (Nat × Nat × Nat × Nat)} (S : CallFix p m c cc nL s args Ts own) (hM : vx_Met l y ws rm Pc Qc XC mc ms free) (cw : vx_CVW R s args own C index y bytes maxL ret hh ws rm mc ms n) (hp : PreV s H C b Pc As)
    (hg : g.method = m) (hn : As.length = n) (hsize : g.locals.size = nL) (hstack : g.stack = As.reverse ++ .ref b :: rest) (hW : 2 * g.monitorRoom + (rest.map fun v => v.category).sum ≤ 8) (hdg : decode cc g.pc = .ok (.invokevirtual index, 3)) (hf : cells + mc ≤ R.cells ∧ slots + ms ≤ R.slots) :
    vx_Run p l e R s m args below meth c H locs cells slots mc ms g rest (Qc (Value.ref b :: As).toArray) XC free := by
  obtain ⟨⟨hrc, hrs, hfr, hlo, hws, hcw⟩, hcode, hini, hy, hlen, hl, hin, hse⟩ := cw
  have hK : vx_Back l R p e below s args y 3 8 (PreOf R mc ms Pc) (PostOf Qc mc ms free) (vx_Post XC mc ms free) := vx_backW (hh := hh) (bytes := bytes) (maxL := maxL) (ret := ret) hM hp.1 hrc hrs hfr hlo hws hcw (fun a' U hW => word_at hW (Or.inl (by first | rfl | simp [Cond.onTables, Cond.keeps, Cond.steady])) hini)
  obtain ⟨hx, hb, hml, ho, -⟩ := S
  obtain ⟨-, ⟨cellB, hcB, hoB, hclB⟩, hPc⟩ := hp
  intro T hT X
  rcases vx_callVX X hx (C := C) (hh := hh) (bytes := bytes) (maxL := maxL) (ret := ret) ho hl hin hse hcode hy hK (by rw [hT]; exact hcB) hoB hclB hg (hsize.trans hml.symm) (argsL := As) (rest := rest) (fun sig h => hn.trans (hlen sig h)) hstack hW (by rw [hb]; exact hdg)
    (fun vm₁ hW₁ => ⟨hf.1, hf.2, hPc (T.setVm vm₁) hT hW₁⟩) with ⟨v, vm₁, ⟨U', l2, c2, s2⟩, hW₁, X', ⟨g', mk, t, L, e1, e2, hq, h1, hL, h2, h3⟩, st⟩ | ⟨q, vm₁, ⟨U', l2, c2, s2⟩, hW₁, X', ⟨g', mk, t, L, E, ce, e1, e2, hq, hce, hcv, hcl, h1, hL, h2, h3⟩, st⟩
  · dsimp only [Pt.U, Pt.locs, Pt.cells, Pt.slots] at X' e1 e2 h1 h2 h3 st
    subst h1; subst h2; subst h3
    exact Or.inl ⟨v, (T.setVm vm₁).calling g' mk (Value.ref b :: As).toArray, t, U', L, hT, X', hL, e1, e2, hq, st⟩
  · dsimp only [Pt.U, Pt.locs, Pt.cells, Pt.slots] at X' e1 e2 h1 h2 h3 st hcl
    subst h1; subst h2; subst h3
    exact Or.inr ⟨q, (T.setVm vm₁).calling g' mk (Value.ref b :: As).toArray, t, U', L, E, ce, hT, X', hL, e1, e2, hq, hce, hcv, vx_cls hW₁ hcl, st⟩
theorem vx_runSX {hh : List (Nat × Nat × Nat × Nat)} (S : CallFix p m c cc nL s args Ts own) (hM : vx_Met l y ws rm Pc Qc XC mc ms free) (cw : vx_CSW R s args own index y bytes maxL ret hh ws rm mc ms n) (hp : PreS s H Pc As)
    (hg : g.method = m) (hn : As.length = n) (hsize : g.locals.size = nL) (hstack : g.stack = As.reverse ++ rest) (hW : 2 * g.monitorRoom + (rest.map fun v => v.category).sum ≤ 8) (hdg : decode cc g.pc = .ok (.invokestatic index, 3)) (hf : cells + mc ≤ R.cells ∧ slots + ms ≤ R.slots) :
    vx_Run p l e R s m args below meth c H locs cells slots mc ms g rest (Qc As.toArray) XC free := by
  obtain ⟨⟨hrc, hrs, hfr, hlo, hws, hcw⟩, hcode, hini, hy, hlen, hl, hstt⟩ := cw
  have hK : vx_Back l R p e below s args y 3 8 (PreOf R mc ms Pc) (PostOf Qc mc ms free) (vx_Post XC mc ms free) := vx_backW (hh := hh) (bytes := bytes) (maxL := maxL) (ret := ret) hM hp.1 hrc hrs hfr hlo hws hcw (fun a' U hW => word_at hW (Or.inl (by first | rfl | simp [Cond.onTables, Cond.keeps, Cond.steady])) hini)
  obtain ⟨hx, hb, hml, ho, -⟩ := S
  intro T hT X
  rcases vx_callSX X hx (hh := hh) (bytes := bytes) (maxL := maxL) (ret := ret) ho hl hstt hini hcode hy hK hg (hsize.trans hml.symm) (argsL := As) (rest := rest) (fun sig h => hn.trans (hlen sig h)) hstack hW (by rw [hb]; exact hdg)
    (fun vm₁ hW₁ => ⟨hf.1, hf.2, hp.2 (T.setVm vm₁) hT hW₁⟩) with ⟨v, vm₁, ⟨U', l2, c2, s2⟩, hW₁, X', ⟨g', mk, t, L, e1, e2, hq, h1, hL, h2, h3⟩, st⟩ | ⟨q, vm₁, ⟨U', l2, c2, s2⟩, hW₁, X', ⟨g', mk, t, L, E, ce, e1, e2, hq, hce, hcv, hcl, h1, hL, h2, h3⟩, st⟩
  · dsimp only [Pt.U, Pt.locs, Pt.cells, Pt.slots] at X' e1 e2 h1 h2 h3 st
    subst h1; subst h2; subst h3
    exact Or.inl ⟨v, (T.setVm vm₁).calling g' mk As.toArray, t, U', L, hT, X', hL, e1, e2, hq, st⟩
  · dsimp only [Pt.U, Pt.locs, Pt.cells, Pt.slots] at X' e1 e2 h1 h2 h3 st hcl
    subst h1; subst h2; subst h3
    exact Or.inr ⟨q, (T.setVm vm₁).calling g' mk As.toArray, t, U', L, E, ce, hT, X', hL, e1, e2, hq, hce, hcv, vx_cls hW₁ hcl, st⟩
end
end VXH
theorem vx_ofWH {l : Launch} {y : MethodName} {ws ws' : List Cond} {rm : Room} {Pc : Array Value → State → Prop} {Qc : Array Value → State → Outcome → State → Prop} {XC : String → State → State → Prop} {mc ms : Nat} {free : Addr → Prop} {cc : ByteArray} {maxL : Nat} {ret : Option FieldType} {hh : List (Nat × Nat × Nat × Nat)}
    (hy : plainName y.cls = true) (hw : ws = Cond.codeWith y cc maxL ret hh :: ws')
    (body : ∀ p e s m args below meth c s₁, BodyLoose p l y (headSpec ws rm) cc maxL ret e s m args below meth c s₁ → c.maxLocals = maxL → Pc args s →
      W p l e (headSpec ws rm).room s m args below meth c s.heap [] 0 0 (vx_MQ below Qc XC args s mc ms free) (entryFrame m args maxL)) : vx_Met l y ws rm Pc Qc XC mc ms free := by
  refine MetFree.of_bodyS (code := cc) (maxLocals := maxL) (ret := ret) hy ?_ ?_
  · intro args s m h hn
    obtain ⟨m9, meth, c, hn9, h1, h2, h3, h4, -, h5, h6, -⟩ := Cond.codeWith_spec (atoms_spec (ws := ws) h _ (by rw [hw]; exact List.mem_cons_self))
    cases hn.symm.trans hn9
    exact ⟨meth, c, h1, h2, h3, h4, h5, h6⟩
  · intro p e s m args below meth c s₁ B hml hP _
    have hh0 : s₁.heap = s.heap := by rw [B.state]; rfl
    obtain ⟨t, a1, o, b1, b2, b3⟩ := body p e s m args below meth c s₁ B hml hP s₁ hh0 (Stand.of_body B)
    exact ⟨t, o, a1, b1, b2, b3⟩
/-! ===== END ===== -/
end
section
/-! ===== BEGIN printed: names, fields, word lists, decode rows ===== -/
def RX0 : String := "CommunityLevels$Graph"
def TX0 : u_T := fun k => match k with
  | 0 => ("CommunityLevels$Graph", "weight", "[I", true)
  | 1 => ("CommunityLevels$Graph", "degree", "[I", true)
  | 2 => ("CommunityLevels$Graph", "size", "I", false)
  | _ => ("CommunityLevels$Graph", "total", "I", false)
def tyX0 : Nat → FieldType := fun k => match k with
  | 0 => .array .int
  | 1 => .array .int
  | 2 => .int
  | _ => .int
abbrev wsX00 : List Cond := u_ws RX0 TX0 4
theorem nmX0 : ∀ a, a < 4 → ∀ b, b < 4 → a ≠ b → (TX0 a).2.1 ≠ (TX0 b).2.1 := by decide +kernel
theorem tyX0_ok : ∀ k, k < 4 → parseFieldDescriptor (TX0 k).2.2.1 = some (tyX0 k) := by decide +kernel
abbrev cX0_init : ByteArray := prog_2_method_1_code
def yX0_init : MethodName := ⟨RX0, "<init>", "()V"⟩
abbrev cX0_empty : ByteArray := prog_2_method_2_code
def yX0_empty : MethodName := ⟨RX0, "empty", "(I)V"⟩
abbrev cX0_between : ByteArray := prog_2_method_3_code
def yX0_between : MethodName := ⟨RX0, "between", "(II)I"⟩
abbrev cX0_add : ByteArray := prog_2_method_4_code
def yX0_add : MethodName := ⟨RX0, "add", "(III)V"⟩
abbrev cX0_contract : ByteArray := prog_2_method_5_code
def yX0_contract : MethodName := ⟨RX0, "contract", "(LCommunityLevels$Graph;[II)V"⟩
def RX1 : String := "CommunityLevels$Groups"
def TX1 : u_T := fun k => match k with
  | 0 => ("CommunityLevels$Groups", "home", "[I", true)
  | 1 => ("CommunityLevels$Groups", "count", "[I", true)
  | 2 => ("CommunityLevels$Groups", "degree", "[I", true)
  | 3 => ("CommunityLevels$Groups", "link", "[I", true)
  | _ => ("CommunityLevels$Groups", "number", "[I", true)
def tyX1 : Nat → FieldType := fun k => match k with
  | 0 => .array .int
  | 1 => .array .int
  | 2 => .array .int
  | 3 => .array .int
  | _ => .array .int
abbrev wsX10 : List Cond := u_ws RX1 TX1 5
theorem nmX1 : ∀ a, a < 5 → ∀ b, b < 5 → a ≠ b → (TX1 a).2.1 ≠ (TX1 b).2.1 := by decide +kernel
theorem tyX1_ok : ∀ k, k < 5 → parseFieldDescriptor (TX1 k).2.2.1 = some (tyX1 k) := by decide +kernel
abbrev cX1_init : ByteArray := prog_3_method_1_code
def yX1_init : MethodName := ⟨RX1, "<init>", "()V"⟩
abbrev cX1_separate : ByteArray := prog_3_method_2_code
def yX1_separate : MethodName := ⟨RX1, "separate", "(I)V"⟩
abbrev cX1_tally : ByteArray := prog_3_method_3_code
def yX1_tally : MethodName := ⟨RX1, "tally", "(LCommunityLevels$Graph;)V"⟩
abbrev cX1_tie : ByteArray := prog_3_method_4_code
def yX1_tie : MethodName := ⟨RX1, "tie", "(LCommunityLevels$Graph;I)V"⟩
abbrev cX1_score : ByteArray := prog_3_method_5_code
def yX1_score : MethodName := ⟨RX1, "score", "(LCommunityLevels$Graph;)J"⟩
abbrev cX1_gainInto : ByteArray := prog_3_method_6_code
def yX1_gainInto : MethodName := ⟨RX1, "gainInto", "(LCommunityLevels$Graph;II)J"⟩
abbrev cX1_choose : ByteArray := prog_3_method_7_code
def yX1_choose : MethodName := ⟨RX1, "choose", "(LCommunityLevels$Graph;I)I"⟩
abbrev cX1_leastFree : ByteArray := prog_3_method_8_code
def yX1_leastFree : MethodName := ⟨RX1, "leastFree", "(I)I"⟩
abbrev cX1_shift : ByteArray := prog_3_method_9_code
def yX1_shift : MethodName := ⟨RX1, "shift", "(LCommunityLevels$Graph;II)V"⟩
abbrev cX1_renumber : ByteArray := prog_3_method_10_code
def yX1_renumber : MethodName := ⟨RX1, "renumber", "(I)I"⟩
def RX2 : String := "CommunityLevels$LevelTable"
def TX2 : u_T := fun k => match k with
  | 0 => ("CommunityLevels$LevelTable", "facts", "[I", true)
  | 1 => ("CommunityLevels$LevelTable", "homes", "[I", true)
  | 2 => ("CommunityLevels$LevelTable", "scores", "[J", true)
  | _ => ("CommunityLevels$LevelTable", "size", "I", false)
def tyX2 : Nat → FieldType := fun k => match k with
  | 0 => .array .int
  | 1 => .array .int
  | 2 => .array .long
  | _ => .int
abbrev wsX20 : List Cond := u_ws RX2 TX2 4
theorem nmX2 : ∀ a, a < 4 → ∀ b, b < 4 → a ≠ b → (TX2 a).2.1 ≠ (TX2 b).2.1 := by decide +kernel
theorem tyX2_ok : ∀ k, k < 4 → parseFieldDescriptor (TX2 k).2.2.1 = some (tyX2 k) := by decide +kernel
abbrev cX2_init : ByteArray := prog_4_method_1_code
def yX2_init : MethodName := ⟨RX2, "<init>", "()V"⟩
abbrev cX2_append : ByteArray := prog_4_method_2_code
def yX2_append : MethodName := ⟨RX2, "append", "([IJIIII)V"⟩
def RX3 : String := "CommunityLevels$MoveLog"
def TX3 : u_T := fun k => match k with
  | 0 => ("CommunityLevels$MoveLog", "facts", "[I", true)
  | 1 => ("CommunityLevels$MoveLog", "gains", "[J", true)
  | _ => ("CommunityLevels$MoveLog", "size", "I", false)
def tyX3 : Nat → FieldType := fun k => match k with
  | 0 => .array .int
  | 1 => .array .long
  | _ => .int
abbrev wsX30 : List Cond := u_ws RX3 TX3 3
theorem nmX3 : ∀ a, a < 3 → ∀ b, b < 3 → a ≠ b → (TX3 a).2.1 ≠ (TX3 b).2.1 := by decide +kernel
theorem tyX3_ok : ∀ k, k < 3 → parseFieldDescriptor (TX3 k).2.2.1 = some (tyX3 k) := by decide +kernel
abbrev cX3_init : ByteArray := prog_5_method_1_code
def yX3_init : MethodName := ⟨RX3, "<init>", "()V"⟩
abbrev cX3_append : ByteArray := prog_5_method_2_code
def yX3_append : MethodName := ⟨RX3, "append", "(IIIIJ)V"⟩
def RX4 : String := "CommunityLevels"
def TX4 : u_T := fun k => match k with
  | 0 => ("CommunityLevels", "told", "LCommunityLevels$Graph;", true)
  | 1 => ("CommunityLevels", "mine", "LCommunityLevels$Groups;", true)
  | 2 => ("CommunityLevels", "table", "LCommunityLevels$LevelTable;", true)
  | 3 => ("CommunityLevels", "log", "LCommunityLevels$MoveLog;", true)
  | 4 => ("CommunityLevels", "graph", "LCommunityLevels$Graph;", true)
  | 5 => ("CommunityLevels", "groups", "LCommunityLevels$Groups;", true)
  | _ => ("CommunityLevels", "within", "[I", true)
def tyX4 : Nat → FieldType := fun k => match k with
  | 0 => .object "CommunityLevels$Graph"
  | 1 => .object "CommunityLevels$Groups"
  | 2 => .object "CommunityLevels$LevelTable"
  | 3 => .object "CommunityLevels$MoveLog"
  | 4 => .object "CommunityLevels$Graph"
  | 5 => .object "CommunityLevels$Groups"
  | _ => .array .int
abbrev wsX40 : List Cond := u_ws RX4 TX4 7
theorem nmX4 : ∀ a, a < 7 → ∀ b, b < 7 → a ≠ b → (TX4 a).2.1 ≠ (TX4 b).2.1 := by decide +kernel
theorem tyX4_ok : ∀ k, k < 7 → parseFieldDescriptor (TX4 k).2.2.1 = some (tyX4 k) := by decide +kernel
abbrev cX4_init : ByteArray := prog_1_method_1_code
def yX4_init : MethodName := ⟨RX4, "<init>", "()V"⟩
abbrev cX4_nodes : ByteArray := prog_1_method_2_code
def yX4_nodes : MethodName := ⟨RX4, "nodes", "(I)V"⟩
abbrev cX4_weigh : ByteArray := prog_1_method_3_code
def yX4_weigh : MethodName := ⟨RX4, "weigh", "(III)I"⟩
abbrev cX4_run : ByteArray := prog_1_method_4_code
def yX4_run : MethodName := ⟨RX4, "run", "()I"⟩
abbrev cX4_levels : ByteArray := prog_1_method_5_code
def yX4_levels : MethodName := ⟨RX4, "levels", "()I"⟩
abbrev cX4_level : ByteArray := prog_1_method_6_code
def yX4_level : MethodName := ⟨RX4, "level", "(II)I"⟩
abbrev cX4_community : ByteArray := prog_1_method_7_code
def yX4_community : MethodName := ⟨RX4, "community", "(II)I"⟩
abbrev cX4_modularity : ByteArray := prog_1_method_8_code
def yX4_modularity : MethodName := ⟨RX4, "modularity", "(I)J"⟩
abbrev cX4_moves : ByteArray := prog_1_method_9_code
def yX4_moves : MethodName := ⟨RX4, "moves", "()I"⟩
abbrev cX4_move : ByteArray := prog_1_method_10_code
def yX4_move : MethodName := ⟨RX4, "move", "(II)I"⟩
abbrev cX4_gained : ByteArray := prog_1_method_11_code
def yX4_gained : MethodName := ⟨RX4, "gained", "(I)J"⟩
abbrev cX4_place : ByteArray := prog_1_method_12_code
def yX4_place : MethodName := ⟨RX4, "place", "(II)I"⟩
abbrev cX4_take : ByteArray := prog_1_method_13_code
def yX4_take : MethodName := ⟨RX4, "take", "(I)V"⟩
abbrev cX4_own : ByteArray := prog_1_method_14_code
def yX4_own : MethodName := ⟨RX4, "own", "()J"⟩
abbrev cX4_gain : ByteArray := prog_1_method_15_code
def yX4_gain : MethodName := ⟨RX4, "gain", "(II)J"⟩
abbrev cX4_about : ByteArray := prog_1_method_16_code
def yX4_about : MethodName := ⟨RX4, "about", "(II)I"⟩
abbrev cX4_requireNode : ByteArray := prog_1_method_17_code
def yX4_requireNode : MethodName := ⟨RX4, "requireNode", "(I)V"⟩
abbrev cX4_requireCommunity : ByteArray := prog_1_method_18_code
def yX4_requireCommunity : MethodName := ⟨RX4, "requireCommunity", "(I)V"⟩
abbrev cX4_requireLevel : ByteArray := prog_1_method_19_code
def yX4_requireLevel : MethodName := ⟨RX4, "requireLevel", "(I)V"⟩
abbrev cX4_requireTold : ByteArray := prog_1_method_20_code
def yX4_requireTold : MethodName := ⟨RX4, "requireTold", "(I)V"⟩
abbrev cX4_requireFact : ByteArray := prog_1_method_21_code
def yX4_requireFact : MethodName := ⟨RX4, "requireFact", "(I)V"⟩
abbrev cX4_forgetRun : ByteArray := prog_1_method_22_code
def yX4_forgetRun : MethodName := ⟨RX4, "forgetRun", "()V"⟩
abbrev cX4_makeLevels : ByteArray := prog_1_method_23_code
def yX4_makeLevels : MethodName := ⟨RX4, "makeLevels", "()V"⟩
abbrev cX4_makeLevel : ByteArray := prog_1_method_24_code
def yX4_makeLevel : MethodName := ⟨RX4, "makeLevel", "(I)Z"⟩
abbrev cX4_makePass : ByteArray := prog_1_method_25_code
def yX4_makePass : MethodName := ⟨RX4, "makePass", "(I)Z"⟩
def RX5 : String := "CommunityLevelsModel"
def TX5 : u_T := fun k => match k with
  | 0 => ("CommunityLevelsModel", "n", "I", false)
  | 1 => ("CommunityLevelsModel", "weight", "[I", true)
  | 2 => ("CommunityLevelsModel", "own", "[I", true)
  | 3 => ("CommunityLevelsModel", "many", "I", false)
  | 4 => ("CommunityLevelsModel", "between", "[J", true)
  | 5 => ("CommunityLevelsModel", "community", "[I", true)
  | 6 => ("CommunityLevelsModel", "fresh", "[J", true)
  | 7 => ("CommunityLevelsModel", "levels", "I", false)
  | 8 => ("CommunityLevelsModel", "told", "[I", true)
  | 9 => ("CommunityLevelsModel", "reached", "[J", true)
  | 10 => ("CommunityLevelsModel", "placed", "[I", true)
  | 11 => ("CommunityLevelsModel", "moves", "I", false)
  | 12 => ("CommunityLevelsModel", "moved", "[I", true)
  | 13 => ("CommunityLevelsModel", "gained", "[J", true)
  | 14 => ("CommunityLevelsModel", "thrown", "I", false)
  | 15 => ("CommunityLevelsModel", "degrees", "[J", true)
  | _ => ("CommunityLevelsModel", "whole", "J", false)
def tyX5 : Nat → FieldType := fun k => match k with
  | 0 => .int
  | 1 => .array .int
  | 2 => .array .int
  | 3 => .int
  | 4 => .array .long
  | 5 => .array .int
  | 6 => .array .long
  | 7 => .int
  | 8 => .array .int
  | 9 => .array .long
  | 10 => .array .int
  | 11 => .int
  | 12 => .array .int
  | 13 => .array .long
  | 14 => .int
  | 15 => .array .long
  | _ => .long
abbrev wsX50 : List Cond := u_ws RX5 TX5 17
theorem nmX5 : ∀ a, a < 17 → ∀ b, b < 17 → a ≠ b → (TX5 a).2.1 ≠ (TX5 b).2.1 := by decide +kernel
theorem tyX5_ok : ∀ k, k < 17 → parseFieldDescriptor (TX5 k).2.2.1 = some (tyX5 k) := by decide +kernel
abbrev cX5_init : ByteArray := prog_7_method_1_code
def yX5_init : MethodName := ⟨RX5, "<init>", "()V"⟩
abbrev cX5_thrown : ByteArray := prog_7_method_2_code
def yX5_thrown : MethodName := ⟨RX5, "thrown", "()I"⟩
abbrev cX5_forget : ByteArray := prog_7_method_3_code
def yX5_forget : MethodName := ⟨RX5, "forget", "()V"⟩
abbrev cX5_nodes : ByteArray := prog_7_method_4_code
def yX5_nodes : MethodName := ⟨RX5, "nodes", "(I)V"⟩
abbrev cX5_noNode : ByteArray := prog_7_method_5_code
def yX5_noNode : MethodName := ⟨RX5, "noNode", "(I)Z"⟩
abbrev cX5_all : ByteArray := prog_7_method_6_code
def yX5_all : MethodName := ⟨RX5, "all", "()J"⟩
abbrev cX5_weigh : ByteArray := prog_7_method_7_code
def yX5_weigh : MethodName := ⟨RX5, "weigh", "(III)I"⟩
abbrev cX5_first : ByteArray := prog_7_method_8_code
def yX5_first : MethodName := ⟨RX5, "first", "()V"⟩
abbrev cX5_degree : ByteArray := prog_7_method_9_code
def yX5_degree : MethodName := ⟨RX5, "degree", "(I)J"⟩
abbrev cX5_prepare : ByteArray := prog_7_method_10_code
def yX5_prepare : MethodName := ⟨RX5, "prepare", "()V"⟩
abbrev cX5_sum : ByteArray := prog_7_method_11_code
def yX5_sum : MethodName := ⟨RX5, "sum", "()J"⟩
abbrev cX5_modularityNow : ByteArray := prog_7_method_12_code
def yX5_modularityNow : MethodName := ⟨RX5, "modularityNow", "()J"⟩
abbrev cX5_gainOf : ByteArray := prog_7_method_13_code
def yX5_gainOf : MethodName := ⟨RX5, "gainOf", "(II)J"⟩
abbrev cX5_isNear : ByteArray := prog_7_method_14_code
def yX5_isNear : MethodName := ⟨RX5, "isNear", "(II)Z"⟩
abbrev cX5_isEmpty : ByteArray := prog_7_method_15_code
def yX5_isEmpty : MethodName := ⟨RX5, "isEmpty", "(I)Z"⟩
abbrev cX5_isAlone : ByteArray := prog_7_method_16_code
def yX5_isAlone : MethodName := ⟨RX5, "isAlone", "(I)Z"⟩
abbrev cX5_come : ByteArray := prog_7_method_17_code
def yX5_come : MethodName := ⟨RX5, "come", "(I)Z"⟩
abbrev cX5_number : ByteArray := prog_7_method_18_code
def yX5_number : MethodName := ⟨RX5, "number", "()I"⟩
abbrev cX5_shrink : ByteArray := prog_7_method_19_code
def yX5_shrink : MethodName := ⟨RX5, "shrink", "(I)V"⟩
abbrev cX5_run : ByteArray := prog_7_method_20_code
def yX5_run : MethodName := ⟨RX5, "run", "()I"⟩
abbrev cX5_levels : ByteArray := prog_7_method_21_code
def yX5_levels : MethodName := ⟨RX5, "levels", "()I"⟩
abbrev cX5_noLevel : ByteArray := prog_7_method_22_code
def yX5_noLevel : MethodName := ⟨RX5, "noLevel", "(I)Z"⟩
abbrev cX5_level : ByteArray := prog_7_method_23_code
def yX5_level : MethodName := ⟨RX5, "level", "(II)I"⟩
abbrev cX5_community : ByteArray := prog_7_method_24_code
def yX5_community : MethodName := ⟨RX5, "community", "(II)I"⟩
abbrev cX5_modularity : ByteArray := prog_7_method_25_code
def yX5_modularity : MethodName := ⟨RX5, "modularity", "(I)J"⟩
abbrev cX5_moves : ByteArray := prog_7_method_26_code
def yX5_moves : MethodName := ⟨RX5, "moves", "()I"⟩
abbrev cX5_noMove : ByteArray := prog_7_method_27_code
def yX5_noMove : MethodName := ⟨RX5, "noMove", "(I)Z"⟩
abbrev cX5_move : ByteArray := prog_7_method_28_code
def yX5_move : MethodName := ⟨RX5, "move", "(II)I"⟩
abbrev cX5_gained : ByteArray := prog_7_method_29_code
def yX5_gained : MethodName := ⟨RX5, "gained", "(I)J"⟩
abbrev cX5_place : ByteArray := prog_7_method_30_code
def yX5_place : MethodName := ⟨RX5, "place", "(II)I"⟩
abbrev cX5_take : ByteArray := prog_7_method_31_code
def yX5_take : MethodName := ⟨RX5, "take", "(I)V"⟩
abbrev cX5_ownNow : ByteArray := prog_7_method_32_code
def yX5_ownNow : MethodName := ⟨RX5, "ownNow", "()V"⟩
abbrev cX5_own : ByteArray := prog_7_method_33_code
def yX5_own : MethodName := ⟨RX5, "own", "()J"⟩
abbrev cX5_gain : ByteArray := prog_7_method_34_code
def yX5_gain : MethodName := ⟨RX5, "gain", "(II)J"⟩
abbrev cX5_about : ByteArray := prog_7_method_35_code
def yX5_about : MethodName := ⟨RX5, "about", "(II)I"⟩
def RJ0 : String := "java/lang/String"
def TJ0 : u_T := fun k => match k with
  | _ => ("", "", "", false)
def tyJ0 : Nat → FieldType := fun k => match k with
  | _ => .int
abbrev wsJ00 : List Cond := u_ws RJ0 TJ0 0
theorem nmJ0 : ∀ a, a < 0 → ∀ b, b < 0 → a ≠ b → (TJ0 a).2.1 ≠ (TJ0 b).2.1 := by decide +kernel
theorem tyJ0_ok : ∀ k, k < 0 → parseFieldDescriptor (TJ0 k).2.2.1 = some (tyJ0 k) := by decide +kernel
def RJ10 : String := "java/lang/System"
def TJ10 : u_T := fun k => match k with
  | _ => ("", "", "", false)
def tyJ10 : Nat → FieldType := fun k => match k with
  | _ => .int
abbrev wsJ100 : List Cond := u_ws RJ10 TJ10 0
theorem nmJ10 : ∀ a, a < 0 → ∀ b, b < 0 → a ≠ b → (TJ10 a).2.1 ≠ (TJ10 b).2.1 := by decide +kernel
theorem tyJ10_ok : ∀ k, k < 0 → parseFieldDescriptor (TJ10 k).2.2.1 = some (tyJ10 k) := by decide +kernel
def RJ7 : String := "java/util/Arrays"
def TJ7 : u_T := fun k => match k with
  | _ => ("", "", "", false)
def tyJ7 : Nat → FieldType := fun k => match k with
  | _ => .int
abbrev wsJ70 : List Cond := u_ws RJ7 TJ7 0
theorem nmJ7 : ∀ a, a < 0 → ∀ b, b < 0 → a ≠ b → (TJ7 a).2.1 ≠ (TJ7 b).2.1 := by decide +kernel
theorem tyJ7_ok : ∀ k, k < 0 → parseFieldDescriptor (TJ7 k).2.2.1 = some (tyJ7 k) := by decide +kernel
abbrev cJ7_fill_53178 : ByteArray := prog_15_method_103_code
def yJ7_fill_53178 : MethodName := ⟨RJ7, "fill", "([II)V"⟩
def RL : String := "CommunityLevelsLaw"
abbrev cL_nodes : ByteArray := method_3_code
def yL_nodes : MethodName := ⟨RL, "nodes", "(LCommunityLevels;I)I"⟩
abbrev cL_weigh : ByteArray := method_4_code
def yL_weigh : MethodName := ⟨RL, "weigh", "(LCommunityLevels;III[J)I"⟩
abbrev cL_level : ByteArray := method_5_code
def yL_level : MethodName := ⟨RL, "level", "(LCommunityLevels;II[J)I"⟩
abbrev cL_community : ByteArray := method_6_code
def yL_community : MethodName := ⟨RL, "community", "(LCommunityLevels;II[J)I"⟩
abbrev cL_modularity : ByteArray := method_7_code
def yL_modularity : MethodName := ⟨RL, "modularity", "(LCommunityLevels;I[J)I"⟩
abbrev cL_move : ByteArray := method_8_code
def yL_move : MethodName := ⟨RL, "move", "(LCommunityLevels;II[J)I"⟩
abbrev cL_gained : ByteArray := method_9_code
def yL_gained : MethodName := ⟨RL, "gained", "(LCommunityLevels;I[J)I"⟩
abbrev cL_place : ByteArray := method_10_code
def yL_place : MethodName := ⟨RL, "place", "(LCommunityLevels;II[J)I"⟩
abbrev cL_take : ByteArray := method_11_code
def yL_take : MethodName := ⟨RL, "take", "(LCommunityLevels;I)I"⟩
abbrev cL_gain : ByteArray := method_12_code
def yL_gain : MethodName := ⟨RL, "gain", "(LCommunityLevels;II[J)I"⟩
abbrev cL_about : ByteArray := method_13_code
def yL_about : MethodName := ⟨RL, "about", "(LCommunityLevels;II[J)I"⟩
abbrev cL_law : ByteArray := code
def yL_law : MethodName := ⟨RL, "law", "([I)Z"⟩
end
section
def wsX0_init : List Cond := .code yX0_init cX0_init 1 none :: ([.methodLink RX0 3 objectInit, .instanceMethod objectInit, .code objectInit ⟨#[0xb1]⟩ 1 none, .arrayClass .int, .fieldLink RX0 9 "CommunityLevels$Graph" "weight" "[I", .fieldLink RX0 15 "CommunityLevels$Graph" "degree" "[I", .fieldLink RX0 18 "CommunityLevels$Graph" "size" "I", .fieldLink RX0 22 "CommunityLevels$Graph" "total" "I"] ++ wsX00)
def wsJ7_fill_53178 : List Cond := .code yJ7_fill_53178 cJ7_fill_53178 4 none :: ([])
def wsX0_empty : List Cond := .code yX0_empty cX0_empty 2 none :: ([.fieldLink RX0 9 "CommunityLevels$Graph" "weight" "[I", .fieldLink RX0 15 "CommunityLevels$Graph" "degree" "[I", .fieldLink RX0 18 "CommunityLevels$Graph" "size" "I", .fieldLink RX0 22 "CommunityLevels$Graph" "total" "I", .methodLink RX0 25 yJ7_fill_53178, .static yJ7_fill_53178, .initialized RJ7, .code yJ7_fill_53178 cJ7_fill_53178 4 none] ++ wsX00)
def wsX0_between : List Cond := .code yX0_between cX0_between 3 (some .int) :: ([.fieldLink RX0 9 "CommunityLevels$Graph" "weight" "[I"] ++ wsX00)
def wsX0_add : List Cond := .code yX0_add cX0_add 4 none :: ([.fieldLink RX0 9 "CommunityLevels$Graph" "weight" "[I", .fieldLink RX0 15 "CommunityLevels$Graph" "degree" "[I", .fieldLink RX0 22 "CommunityLevels$Graph" "total" "I"] ++ wsX00)
def wsX0_contract : List Cond := .code yX0_contract cX0_contract 7 none :: ([.fieldLink RX0 18 "CommunityLevels$Graph" "size" "I", .methodLink RX0 31 yX0_empty, .instanceMethod yX0_empty, .selects RX0 yX0_empty yX0_empty, .initialized RX0, .code yX0_empty cX0_empty 2 none, .fieldLink RX0 9 "CommunityLevels$Graph" "weight" "[I", .fieldLink RX0 15 "CommunityLevels$Graph" "degree" "[I", .fieldLink RX0 22 "CommunityLevels$Graph" "total" "I", .methodLink RX0 25 yJ7_fill_53178, .static yJ7_fill_53178, .initialized RJ7, .code yJ7_fill_53178 cJ7_fill_53178 4 none, .methodLink RX0 35 yX0_between, .instanceMethod yX0_between, .selects RX0 yX0_between yX0_between, .code yX0_between cX0_between 3 (some .int), .methodLink RX0 39 yX0_add, .instanceMethod yX0_add, .selects RX0 yX0_add yX0_add, .code yX0_add cX0_add 4 none] ++ wsX00)
def wsX1_init : List Cond := .code yX1_init cX1_init 1 none :: ([.methodLink RX1 3 objectInit, .instanceMethod objectInit, .code objectInit ⟨#[0xb1]⟩ 1 none, .arrayClass .int, .fieldLink RX1 9 "CommunityLevels$Groups" "home" "[I", .fieldLink RX1 15 "CommunityLevels$Groups" "count" "[I", .fieldLink RX1 18 "CommunityLevels$Groups" "degree" "[I", .fieldLink RX1 21 "CommunityLevels$Groups" "link" "[I", .fieldLink RX1 24 "CommunityLevels$Groups" "number" "[I"] ++ wsX10)
def wsX1_separate : List Cond := .code yX1_separate cX1_separate 3 none :: ([.fieldLink RX1 9 "CommunityLevels$Groups" "home" "[I"] ++ wsX10)
def wsX1_tally : List Cond := .code yX1_tally cX1_tally 3 none :: ([.fieldLink RX1 15 "CommunityLevels$Groups" "count" "[I", .fieldLink RX1 18 "CommunityLevels$Groups" "degree" "[I", .fieldLink RX1 33 "CommunityLevels$Graph" "size" "I", .fieldLink RX1 9 "CommunityLevels$Groups" "home" "[I", .fieldLink RX1 39 "CommunityLevels$Graph" "degree" "[I", .methodLink RX1 27 yJ7_fill_53178, .static yJ7_fill_53178, .initialized RJ7, .code yJ7_fill_53178 cJ7_fill_53178 4 none] ++ wsX10 ++ wsX00)
def wsX1_tie : List Cond := .code yX1_tie cX1_tie 4 none :: ([.fieldLink RX1 21 "CommunityLevels$Groups" "link" "[I", .fieldLink RX1 33 "CommunityLevels$Graph" "size" "I", .fieldLink RX1 9 "CommunityLevels$Groups" "home" "[I", .methodLink RX1 27 yJ7_fill_53178, .static yJ7_fill_53178, .initialized RJ7, .code yJ7_fill_53178 cJ7_fill_53178 4 none, .methodLink RX1 40 yX0_between, .instanceMethod yX0_between, .selects RX0 yX0_between yX0_between, .initialized RX0, .code yX0_between cX0_between 3 (some .int), .fieldLink RX0 9 "CommunityLevels$Graph" "weight" "[I"] ++ wsX10 ++ wsX00)
def wsX1_score : List Cond := .code yX1_score cX1_score 7 (some .long) :: ([.fieldLink RX1 33 "CommunityLevels$Graph" "size" "I", .fieldLink RX1 9 "CommunityLevels$Groups" "home" "[I", .constantLong RX1 44 (4), .fieldLink RX1 46 "CommunityLevels$Graph" "total" "I", .fieldLink RX1 18 "CommunityLevels$Groups" "degree" "[I", .methodLink RX1 40 yX0_between, .instanceMethod yX0_between, .selects RX0 yX0_between yX0_between, .initialized RX0, .code yX0_between cX0_between 3 (some .int), .fieldLink RX0 9 "CommunityLevels$Graph" "weight" "[I"] ++ wsX00 ++ wsX10)
def wsX1_gainInto : List Cond := .code yX1_gainInto cX1_gainInto 11 (some .long) :: ([.fieldLink RX1 9 "CommunityLevels$Groups" "home" "[I", .fieldLink RX1 39 "CommunityLevels$Graph" "degree" "[I", .fieldLink RX1 18 "CommunityLevels$Groups" "degree" "[I", .fieldLink RX1 21 "CommunityLevels$Groups" "link" "[I", .constantLong RX1 44 (4), .fieldLink RX1 46 "CommunityLevels$Graph" "total" "I", .constantLong RX1 49 (2)] ++ wsX10 ++ wsX00)
def wsX1_leastFree : List Cond := .code yX1_leastFree cX1_leastFree 3 (some .int) :: ([.fieldLink RX1 15 "CommunityLevels$Groups" "count" "[I"] ++ wsX10)
def wsX1_choose : List Cond := .code yX1_choose cX1_choose 10 (some .int) :: ([.fieldLink RX1 9 "CommunityLevels$Groups" "home" "[I", .fieldLink RX1 33 "CommunityLevels$Graph" "size" "I", .fieldLink RX1 21 "CommunityLevels$Groups" "link" "[I", .fieldLink RX1 15 "CommunityLevels$Groups" "count" "[I", .methodLink RX1 51 yX1_gainInto, .instanceMethod yX1_gainInto, .selects RX1 yX1_gainInto yX1_gainInto, .initialized RX1, .code yX1_gainInto cX1_gainInto 11 (some .long), .fieldLink RX1 39 "CommunityLevels$Graph" "degree" "[I", .fieldLink RX1 18 "CommunityLevels$Groups" "degree" "[I", .constantLong RX1 44 (4), .fieldLink RX1 46 "CommunityLevels$Graph" "total" "I", .constantLong RX1 49 (2), .methodLink RX1 55 yX1_leastFree, .instanceMethod yX1_leastFree, .selects RX1 yX1_leastFree yX1_leastFree, .code yX1_leastFree cX1_leastFree 3 (some .int)] ++ wsX10 ++ wsX00)
def wsX1_shift : List Cond := .code yX1_shift cX1_shift 5 none :: ([.fieldLink RX1 9 "CommunityLevels$Groups" "home" "[I", .fieldLink RX1 15 "CommunityLevels$Groups" "count" "[I", .fieldLink RX1 18 "CommunityLevels$Groups" "degree" "[I", .fieldLink RX1 39 "CommunityLevels$Graph" "degree" "[I"] ++ wsX10 ++ wsX00)
def wsX1_renumber : List Cond := .code yX1_renumber cX1_renumber 5 (some .int) :: ([.fieldLink RX1 24 "CommunityLevels$Groups" "number" "[I", .fieldLink RX1 9 "CommunityLevels$Groups" "home" "[I", .methodLink RX1 27 yJ7_fill_53178, .static yJ7_fill_53178, .initialized RJ7, .code yJ7_fill_53178 cJ7_fill_53178 4 none] ++ wsX10)
def wsX2_init : List Cond := .code yX2_init cX2_init 1 none :: ([.methodLink RX2 3 objectInit, .instanceMethod objectInit, .code objectInit ⟨#[0xb1]⟩ 1 none, .arrayClass .int, .fieldLink RX2 9 "CommunityLevels$LevelTable" "facts" "[I", .fieldLink RX2 15 "CommunityLevels$LevelTable" "homes" "[I", .arrayClass .long, .fieldLink RX2 18 "CommunityLevels$LevelTable" "scores" "[J", .fieldLink RX2 22 "CommunityLevels$LevelTable" "size" "I"] ++ wsX20)
def wsX2_append : List Cond := .code yX2_append cX2_append 8 none :: ([.fieldLink RX2 22 "CommunityLevels$LevelTable" "size" "I", .fieldLink RX2 15 "CommunityLevels$LevelTable" "homes" "[I", .methodLink RX2 26 arraycopyName, .native arraycopyName, .static arraycopyName, .initialized "java/lang/System", .fieldLink RX2 18 "CommunityLevels$LevelTable" "scores" "[J", .fieldLink RX2 9 "CommunityLevels$LevelTable" "facts" "[I"] ++ wsX20)
def wsX3_init : List Cond := .code yX3_init cX3_init 1 none :: ([.methodLink RX3 3 objectInit, .instanceMethod objectInit, .code objectInit ⟨#[0xb1]⟩ 1 none, .arrayClass .int, .fieldLink RX3 9 "CommunityLevels$MoveLog" "facts" "[I", .arrayClass .long, .fieldLink RX3 15 "CommunityLevels$MoveLog" "gains" "[J", .fieldLink RX3 19 "CommunityLevels$MoveLog" "size" "I"] ++ wsX30)
def wsX3_append : List Cond := .code yX3_append cX3_append 7 none :: ([.fieldLink RX3 19 "CommunityLevels$MoveLog" "size" "I", .fieldLink RX3 9 "CommunityLevels$MoveLog" "facts" "[I", .fieldLink RX3 15 "CommunityLevels$MoveLog" "gains" "[J"] ++ wsX30)
def wsX4_init_r1 : List Cond := [Cond.methodLink RX4 1 objectInit, Cond.instanceMethod objectInit, Cond.code objectInit ⟨#[0xb1]⟩ 1 none, Cond.classLink RX4 7 RX0, Cond.instantiable RX0 4, Cond.initialized RX0, Cond.fieldLink RX4 10 "CommunityLevels" "told" "LCommunityLevels$Graph;", Cond.classLink RX4 16 RX1, Cond.instantiable RX1 5, Cond.initialized RX1, Cond.fieldLink RX4 19 "CommunityLevels" "mine" "LCommunityLevels$Groups;", Cond.classLink RX4 23 RX2, Cond.instantiable RX2 4, Cond.initialized RX2, Cond.fieldLink RX4 26 "CommunityLevels" "table" "LCommunityLevels$LevelTable;", Cond.classLink RX4 30 RX3, Cond.instantiable RX3 3, Cond.initialized RX3, Cond.fieldLink RX4 33 "CommunityLevels" "log" "LCommunityLevels$MoveLog;", Cond.fieldLink RX4 37 "CommunityLevels" "graph" "LCommunityLevels$Graph;", Cond.fieldLink RX4 40 "CommunityLevels" "groups" "LCommunityLevels$Groups;", Cond.arrayClass .int, Cond.fieldLink RX4 43 "CommunityLevels" "within" "[I", Cond.methodLink RX4 9 yX0_init]
def wsX4_init_r2 : List Cond := [Cond.instanceMethod yX0_init, Cond.code yX0_init cX0_init 1 none, Cond.methodLink RX0 3 objectInit, Cond.fieldLink RX0 9 "CommunityLevels$Graph" "weight" "[I", Cond.fieldLink RX0 15 "CommunityLevels$Graph" "degree" "[I", Cond.fieldLink RX0 18 "CommunityLevels$Graph" "size" "I", Cond.fieldLink RX0 22 "CommunityLevels$Graph" "total" "I", Cond.methodLink RX4 18 yX1_init, Cond.instanceMethod yX1_init, Cond.code yX1_init cX1_init 1 none, Cond.methodLink RX1 3 objectInit, Cond.fieldLink RX1 9 "CommunityLevels$Groups" "home" "[I", Cond.fieldLink RX1 15 "CommunityLevels$Groups" "count" "[I", Cond.fieldLink RX1 18 "CommunityLevels$Groups" "degree" "[I", Cond.fieldLink RX1 21 "CommunityLevels$Groups" "link" "[I", Cond.fieldLink RX1 24 "CommunityLevels$Groups" "number" "[I", Cond.methodLink RX4 25 yX2_init, Cond.instanceMethod yX2_init, Cond.code yX2_init cX2_init 1 none, Cond.methodLink RX2 3 objectInit, Cond.fieldLink RX2 9 "CommunityLevels$LevelTable" "facts" "[I", Cond.fieldLink RX2 15 "CommunityLevels$LevelTable" "homes" "[I", Cond.arrayClass .long, Cond.fieldLink RX2 18 "CommunityLevels$LevelTable" "scores" "[J"]
def wsX4_init_r3 : List Cond := [Cond.fieldLink RX2 22 "CommunityLevels$LevelTable" "size" "I", Cond.methodLink RX4 32 yX3_init, Cond.instanceMethod yX3_init, Cond.code yX3_init cX3_init 1 none, Cond.methodLink RX3 3 objectInit, Cond.fieldLink RX3 9 "CommunityLevels$MoveLog" "facts" "[I", Cond.fieldLink RX3 15 "CommunityLevels$MoveLog" "gains" "[J", Cond.fieldLink RX3 19 "CommunityLevels$MoveLog" "size" "I"]
def wsX4_init : List Cond := .code yX4_init cX4_init 1 none :: ((wsX4_init_r1 ++ (wsX4_init_r2 ++ wsX4_init_r3)) ++ wsX00 ++ wsX40 ++ wsX10 ++ wsX20 ++ wsX30)
def wsX4_forgetRun : List Cond := .code yX4_forgetRun cX4_forgetRun 1 none :: ([.fieldLink RX4 26 "CommunityLevels" "table" "LCommunityLevels$LevelTable;", .fieldLink RX4 85 "CommunityLevels$LevelTable" "size" "I", .fieldLink RX4 33 "CommunityLevels" "log" "LCommunityLevels$MoveLog;", .fieldLink RX4 107 "CommunityLevels$MoveLog" "size" "I"] ++ wsX40 ++ wsX20 ++ wsX30)
def wsX4_nodes_r1 : List Cond := [Cond.classLink RX4 47 "java/lang/IllegalArgumentException", Cond.initialized "java/lang/IllegalArgumentException", Cond.fieldLink RX4 10 "CommunityLevels" "told" "LCommunityLevels$Graph;", Cond.fieldLink RX4 19 "CommunityLevels" "mine" "LCommunityLevels$Groups;", Cond.methodLink RX4 54 yX0_empty, Cond.instanceMethod yX0_empty, Cond.selects RX0 yX0_empty yX0_empty, Cond.initialized RX0, Cond.code yX0_empty cX0_empty 2 none, Cond.fieldLink RX0 9 "CommunityLevels$Graph" "weight" "[I", Cond.fieldLink RX0 15 "CommunityLevels$Graph" "degree" "[I", Cond.fieldLink RX0 18 "CommunityLevels$Graph" "size" "I", Cond.fieldLink RX0 22 "CommunityLevels$Graph" "total" "I", Cond.methodLink RX0 25 yJ7_fill_53178, Cond.static yJ7_fill_53178, Cond.initialized RJ7, Cond.code yJ7_fill_53178 cJ7_fill_53178 4 none, Cond.methodLink RX4 58 yX1_separate, Cond.instanceMethod yX1_separate, Cond.selects RX1 yX1_separate yX1_separate, Cond.initialized RX1, Cond.code yX1_separate cX1_separate 3 none, Cond.fieldLink RX1 9 "CommunityLevels$Groups" "home" "[I", Cond.methodLink RX4 61 yX4_forgetRun]
def wsX4_nodes_r2 : List Cond := [Cond.instanceMethod yX4_forgetRun, Cond.selects RX4 yX4_forgetRun yX4_forgetRun, Cond.initialized RX4, Cond.code yX4_forgetRun cX4_forgetRun 1 none, Cond.fieldLink RX4 26 "CommunityLevels" "table" "LCommunityLevels$LevelTable;", Cond.fieldLink RX4 85 "CommunityLevels$LevelTable" "size" "I", Cond.fieldLink RX4 33 "CommunityLevels" "log" "LCommunityLevels$MoveLog;", Cond.fieldLink RX4 107 "CommunityLevels$MoveLog" "size" "I"]
def wsX4_nodes : List Cond := .code yX4_nodes cX4_nodes 2 none :: ((wsX4_nodes_r1 ++ wsX4_nodes_r2) ++ wsX40 ++ wsX00 ++ wsX10 ++ wsX20 ++ wsX30 ++ (vx_atS RX4 51 "java/lang/IllegalArgumentException" ["java/lang/RuntimeException", "java/lang/Exception"]).filter goodWord)
def wsX4_requireNode : List Cond := .code yX4_requireNode cX4_requireNode 2 none :: ([.classLink RX4 144 "java/lang/IndexOutOfBoundsException", .initialized "java/lang/IndexOutOfBoundsException", .fieldLink RX4 10 "CommunityLevels" "told" "LCommunityLevels$Graph;", .fieldLink RX4 121 "CommunityLevels$Graph" "size" "I"] ++ wsX40 ++ wsX00 ++ (vx_atS RX4 148 "java/lang/IndexOutOfBoundsException" ["java/lang/RuntimeException", "java/lang/Exception"]).filter goodWord)
def wsX4_weigh_r1 : List Cond := [Cond.classLink RX4 47 "java/lang/IllegalArgumentException", Cond.initialized "java/lang/IllegalArgumentException", Cond.fieldLink RX4 10 "CommunityLevels" "told" "LCommunityLevels$Graph;", Cond.fieldLink RX4 73 "CommunityLevels$Graph" "total" "I", Cond.constantLong RX4 77 (536870912), Cond.methodLink RX4 64 yX4_requireNode, Cond.instanceMethod yX4_requireNode, Cond.selects RX4 yX4_requireNode yX4_requireNode, Cond.initialized RX4, Cond.code yX4_requireNode cX4_requireNode 2 none, Cond.classLink RX4 144 "java/lang/IndexOutOfBoundsException", Cond.initialized "java/lang/IndexOutOfBoundsException", Cond.fieldLink RX4 121 "CommunityLevels$Graph" "size" "I", Cond.methodLink RX4 69 yX0_between, Cond.instanceMethod yX0_between, Cond.selects RX0 yX0_between yX0_between, Cond.initialized RX0, Cond.code yX0_between cX0_between 3 (some .int), Cond.fieldLink RX0 9 "CommunityLevels$Graph" "weight" "[I", Cond.methodLink RX4 81 yX0_add, Cond.instanceMethod yX0_add, Cond.selects RX0 yX0_add yX0_add, Cond.code yX0_add cX0_add 4 none, Cond.fieldLink RX0 15 "CommunityLevels$Graph" "degree" "[I"]
def wsX4_weigh_r2 : List Cond := [Cond.fieldLink RX0 22 "CommunityLevels$Graph" "total" "I", Cond.methodLink RX4 61 yX4_forgetRun, Cond.instanceMethod yX4_forgetRun, Cond.selects RX4 yX4_forgetRun yX4_forgetRun, Cond.code yX4_forgetRun cX4_forgetRun 1 none, Cond.fieldLink RX4 26 "CommunityLevels" "table" "LCommunityLevels$LevelTable;", Cond.fieldLink RX4 85 "CommunityLevels$LevelTable" "size" "I", Cond.fieldLink RX4 33 "CommunityLevels" "log" "LCommunityLevels$MoveLog;", Cond.fieldLink RX4 107 "CommunityLevels$MoveLog" "size" "I"]
def wsX4_weigh : List Cond := .code yX4_weigh cX4_weigh 5 (some .int) :: ((wsX4_weigh_r1 ++ wsX4_weigh_r2) ++ wsX40 ++ wsX00 ++ wsX20 ++ wsX30 ++ (vx_atS RX4 51 "java/lang/IllegalArgumentException" ["java/lang/RuntimeException", "java/lang/Exception"]).filter goodWord ++ (vx_atS RX4 148 "java/lang/IndexOutOfBoundsException" ["java/lang/RuntimeException", "java/lang/Exception"]).filter goodWord)
def wsX4_makePass_r1 : List Cond := [Cond.fieldLink RX4 37 "CommunityLevels" "graph" "LCommunityLevels$Graph;", Cond.fieldLink RX4 121 "CommunityLevels$Graph" "size" "I", Cond.fieldLink RX4 40 "CommunityLevels" "groups" "LCommunityLevels$Groups;", Cond.fieldLink RX4 33 "CommunityLevels" "log" "LCommunityLevels$MoveLog;", Cond.fieldLink RX4 118 "CommunityLevels$Groups" "home" "[I", Cond.methodLink RX4 136 yX1_tie, Cond.instanceMethod yX1_tie, Cond.selects RX1 yX1_tie yX1_tie, Cond.initialized RX1, Cond.code yX1_tie cX1_tie 4 none, Cond.fieldLink RX1 21 "CommunityLevels$Groups" "link" "[I", Cond.fieldLink RX1 33 "CommunityLevels$Graph" "size" "I", Cond.fieldLink RX1 9 "CommunityLevels$Groups" "home" "[I", Cond.methodLink RX1 27 yJ7_fill_53178, Cond.static yJ7_fill_53178, Cond.initialized RJ7, Cond.code yJ7_fill_53178 cJ7_fill_53178 4 none, Cond.methodLink RX1 40 yX0_between, Cond.instanceMethod yX0_between, Cond.selects RX0 yX0_between yX0_between, Cond.initialized RX0, Cond.code yX0_between cX0_between 3 (some .int), Cond.fieldLink RX0 9 "CommunityLevels$Graph" "weight" "[I", Cond.methodLink RX4 182 yX1_choose]
def wsX4_makePass_r2 : List Cond := [Cond.instanceMethod yX1_choose, Cond.selects RX1 yX1_choose yX1_choose, Cond.code yX1_choose cX1_choose 10 (some .int), Cond.fieldLink RX1 15 "CommunityLevels$Groups" "count" "[I", Cond.methodLink RX1 51 yX1_gainInto, Cond.instanceMethod yX1_gainInto, Cond.selects RX1 yX1_gainInto yX1_gainInto, Cond.code yX1_gainInto cX1_gainInto 11 (some .long), Cond.fieldLink RX1 39 "CommunityLevels$Graph" "degree" "[I", Cond.fieldLink RX1 18 "CommunityLevels$Groups" "degree" "[I", Cond.constantLong RX1 44 (4), Cond.fieldLink RX1 46 "CommunityLevels$Graph" "total" "I", Cond.constantLong RX1 49 (2), Cond.methodLink RX1 55 yX1_leastFree, Cond.instanceMethod yX1_leastFree, Cond.selects RX1 yX1_leastFree yX1_leastFree, Cond.code yX1_leastFree cX1_leastFree 3 (some .int), Cond.methodLink RX4 140 yX1_gainInto, Cond.methodLink RX4 186 yX3_append, Cond.instanceMethod yX3_append, Cond.selects RX3 yX3_append yX3_append, Cond.initialized RX3, Cond.code yX3_append cX3_append 7 none, Cond.fieldLink RX3 19 "CommunityLevels$MoveLog" "size" "I"]
def wsX4_makePass_r3 : List Cond := [Cond.fieldLink RX3 9 "CommunityLevels$MoveLog" "facts" "[I", Cond.fieldLink RX3 15 "CommunityLevels$MoveLog" "gains" "[J", Cond.methodLink RX4 189 yX1_shift, Cond.instanceMethod yX1_shift, Cond.selects RX1 yX1_shift yX1_shift, Cond.code yX1_shift cX1_shift 5 none]
def wsX4_makePass : List Cond := .code yX4_makePass cX4_makePass 7 (some .boolean) :: ((wsX4_makePass_r1 ++ (wsX4_makePass_r2 ++ wsX4_makePass_r3)) ++ wsX40 ++ wsX00 ++ wsX10 ++ wsX30)
def wsX4_makeLevel_r1 : List Cond := [Cond.fieldLink RX4 40 "CommunityLevels" "groups" "LCommunityLevels$Groups;", Cond.fieldLink RX4 37 "CommunityLevels" "graph" "LCommunityLevels$Graph;", Cond.fieldLink RX4 121 "CommunityLevels$Graph" "size" "I", Cond.fieldLink RX4 33 "CommunityLevels" "log" "LCommunityLevels$MoveLog;", Cond.fieldLink RX4 107 "CommunityLevels$MoveLog" "size" "I", Cond.constant RX4 170 (1000000), Cond.fieldLink RX4 10 "CommunityLevels" "told" "LCommunityLevels$Graph;", Cond.fieldLink RX4 43 "CommunityLevels" "within" "[I", Cond.fieldLink RX4 118 "CommunityLevels$Groups" "home" "[I", Cond.fieldLink RX4 26 "CommunityLevels" "table" "LCommunityLevels$LevelTable;", Cond.methodLink RX4 58 yX1_separate, Cond.instanceMethod yX1_separate, Cond.selects RX1 yX1_separate yX1_separate, Cond.initialized RX1, Cond.code yX1_separate cX1_separate 3 none, Cond.fieldLink RX1 9 "CommunityLevels$Groups" "home" "[I", Cond.methodLink RX4 128 yX1_tally, Cond.instanceMethod yX1_tally, Cond.selects RX1 yX1_tally yX1_tally, Cond.code yX1_tally cX1_tally 3 none, Cond.fieldLink RX1 15 "CommunityLevels$Groups" "count" "[I", Cond.fieldLink RX1 18 "CommunityLevels$Groups" "degree" "[I", Cond.fieldLink RX1 33 "CommunityLevels$Graph" "size" "I", Cond.fieldLink RX1 39 "CommunityLevels$Graph" "degree" "[I"]
def wsX4_makeLevel_r2 : List Cond := [Cond.methodLink RX1 27 yJ7_fill_53178, Cond.static yJ7_fill_53178, Cond.initialized RJ7, Cond.code yJ7_fill_53178 cJ7_fill_53178 4 none, Cond.methodLink RX4 171 yX4_makePass, Cond.instanceMethod yX4_makePass, Cond.selects RX4 yX4_makePass yX4_makePass, Cond.initialized RX4, Cond.code yX4_makePass cX4_makePass 7 (some .boolean), Cond.methodLink RX4 136 yX1_tie, Cond.instanceMethod yX1_tie, Cond.selects RX1 yX1_tie yX1_tie, Cond.code yX1_tie cX1_tie 4 none, Cond.fieldLink RX1 21 "CommunityLevels$Groups" "link" "[I", Cond.methodLink RX1 40 yX0_between, Cond.instanceMethod yX0_between, Cond.selects RX0 yX0_between yX0_between, Cond.initialized RX0, Cond.code yX0_between cX0_between 3 (some .int), Cond.fieldLink RX0 9 "CommunityLevels$Graph" "weight" "[I", Cond.methodLink RX4 182 yX1_choose, Cond.instanceMethod yX1_choose, Cond.selects RX1 yX1_choose yX1_choose, Cond.code yX1_choose cX1_choose 10 (some .int)]
def wsX4_makeLevel_r3 : List Cond := [Cond.methodLink RX1 51 yX1_gainInto, Cond.instanceMethod yX1_gainInto, Cond.selects RX1 yX1_gainInto yX1_gainInto, Cond.code yX1_gainInto cX1_gainInto 11 (some .long), Cond.constantLong RX1 44 (4), Cond.fieldLink RX1 46 "CommunityLevels$Graph" "total" "I", Cond.constantLong RX1 49 (2), Cond.methodLink RX1 55 yX1_leastFree, Cond.instanceMethod yX1_leastFree, Cond.selects RX1 yX1_leastFree yX1_leastFree, Cond.code yX1_leastFree cX1_leastFree 3 (some .int), Cond.methodLink RX4 140 yX1_gainInto, Cond.methodLink RX4 186 yX3_append, Cond.instanceMethod yX3_append, Cond.selects RX3 yX3_append yX3_append, Cond.initialized RX3, Cond.code yX3_append cX3_append 7 none, Cond.fieldLink RX3 19 "CommunityLevels$MoveLog" "size" "I", Cond.fieldLink RX3 9 "CommunityLevels$MoveLog" "facts" "[I", Cond.fieldLink RX3 15 "CommunityLevels$MoveLog" "gains" "[J", Cond.methodLink RX4 189 yX1_shift, Cond.instanceMethod yX1_shift, Cond.selects RX1 yX1_shift yX1_shift, Cond.code yX1_shift cX1_shift 5 none]
def wsX4_makeLevel_r4 : List Cond := [Cond.methodLink RX4 132 yX1_score, Cond.instanceMethod yX1_score, Cond.selects RX1 yX1_score yX1_score, Cond.code yX1_score cX1_score 7 (some .long), Cond.methodLink RX4 174 yX1_renumber, Cond.instanceMethod yX1_renumber, Cond.selects RX1 yX1_renumber yX1_renumber, Cond.code yX1_renumber cX1_renumber 5 (some .int), Cond.fieldLink RX1 24 "CommunityLevels$Groups" "number" "[I", Cond.methodLink RX4 178 yX2_append, Cond.instanceMethod yX2_append, Cond.selects RX2 yX2_append yX2_append, Cond.initialized RX2, Cond.code yX2_append cX2_append 8 none, Cond.fieldLink RX2 22 "CommunityLevels$LevelTable" "size" "I", Cond.fieldLink RX2 15 "CommunityLevels$LevelTable" "homes" "[I", Cond.methodLink RX2 26 arraycopyName, Cond.native arraycopyName, Cond.static arraycopyName, Cond.initialized "java/lang/System", Cond.fieldLink RX2 18 "CommunityLevels$LevelTable" "scores" "[J", Cond.fieldLink RX2 9 "CommunityLevels$LevelTable" "facts" "[I", Cond.methodLink RX4 162 yX0_contract, Cond.instanceMethod yX0_contract]
def wsX4_makeLevel_r5 : List Cond := [Cond.selects RX0 yX0_contract yX0_contract, Cond.code yX0_contract cX0_contract 7 none, Cond.fieldLink RX0 18 "CommunityLevels$Graph" "size" "I", Cond.methodLink RX0 31 yX0_empty, Cond.instanceMethod yX0_empty, Cond.selects RX0 yX0_empty yX0_empty, Cond.code yX0_empty cX0_empty 2 none, Cond.fieldLink RX0 15 "CommunityLevels$Graph" "degree" "[I", Cond.fieldLink RX0 22 "CommunityLevels$Graph" "total" "I", Cond.methodLink RX0 25 yJ7_fill_53178, Cond.methodLink RX0 35 yX0_between, Cond.methodLink RX0 39 yX0_add, Cond.instanceMethod yX0_add, Cond.selects RX0 yX0_add yX0_add, Cond.code yX0_add cX0_add 4 none]
def wsX4_makeLevel : List Cond := .code yX4_makeLevel cX4_makeLevel 10 (some .boolean) :: ((wsX4_makeLevel_r1 ++ (wsX4_makeLevel_r2 ++ (wsX4_makeLevel_r3 ++ (wsX4_makeLevel_r4 ++ wsX4_makeLevel_r5)))) ++ wsX40 ++ wsX00 ++ wsX30 ++ wsX10 ++ wsX20)
def wsX4_makeLevels_r1 : List Cond := [Cond.fieldLink RX4 10 "CommunityLevels" "told" "LCommunityLevels$Graph;", Cond.fieldLink RX4 121 "CommunityLevels$Graph" "size" "I", Cond.fieldLink RX4 43 "CommunityLevels" "within" "[I", Cond.fieldLink RX4 37 "CommunityLevels" "graph" "LCommunityLevels$Graph;", Cond.methodLink RX4 162 yX0_contract, Cond.instanceMethod yX0_contract, Cond.selects RX0 yX0_contract yX0_contract, Cond.initialized RX0, Cond.code yX0_contract cX0_contract 7 none, Cond.fieldLink RX0 18 "CommunityLevels$Graph" "size" "I", Cond.methodLink RX0 31 yX0_empty, Cond.instanceMethod yX0_empty, Cond.selects RX0 yX0_empty yX0_empty, Cond.code yX0_empty cX0_empty 2 none, Cond.fieldLink RX0 9 "CommunityLevels$Graph" "weight" "[I", Cond.fieldLink RX0 15 "CommunityLevels$Graph" "degree" "[I", Cond.fieldLink RX0 22 "CommunityLevels$Graph" "total" "I", Cond.methodLink RX0 25 yJ7_fill_53178, Cond.static yJ7_fill_53178, Cond.initialized RJ7, Cond.code yJ7_fill_53178 cJ7_fill_53178 4 none, Cond.methodLink RX0 35 yX0_between, Cond.instanceMethod yX0_between, Cond.selects RX0 yX0_between yX0_between]
def wsX4_makeLevels_r2 : List Cond := [Cond.code yX0_between cX0_between 3 (some .int), Cond.methodLink RX0 39 yX0_add, Cond.instanceMethod yX0_add, Cond.selects RX0 yX0_add yX0_add, Cond.code yX0_add cX0_add 4 none, Cond.methodLink RX4 166 yX4_makeLevel, Cond.instanceMethod yX4_makeLevel, Cond.selects RX4 yX4_makeLevel yX4_makeLevel, Cond.initialized RX4, Cond.code yX4_makeLevel cX4_makeLevel 10 (some .boolean), Cond.fieldLink RX4 40 "CommunityLevels" "groups" "LCommunityLevels$Groups;", Cond.fieldLink RX4 33 "CommunityLevels" "log" "LCommunityLevels$MoveLog;", Cond.fieldLink RX4 107 "CommunityLevels$MoveLog" "size" "I", Cond.constant RX4 170 (1000000), Cond.fieldLink RX4 118 "CommunityLevels$Groups" "home" "[I", Cond.fieldLink RX4 26 "CommunityLevels" "table" "LCommunityLevels$LevelTable;", Cond.methodLink RX4 58 yX1_separate, Cond.instanceMethod yX1_separate, Cond.selects RX1 yX1_separate yX1_separate, Cond.initialized RX1, Cond.code yX1_separate cX1_separate 3 none, Cond.fieldLink RX1 9 "CommunityLevels$Groups" "home" "[I", Cond.methodLink RX4 128 yX1_tally, Cond.instanceMethod yX1_tally]
def wsX4_makeLevels_r3 : List Cond := [Cond.selects RX1 yX1_tally yX1_tally, Cond.code yX1_tally cX1_tally 3 none, Cond.fieldLink RX1 15 "CommunityLevels$Groups" "count" "[I", Cond.fieldLink RX1 18 "CommunityLevels$Groups" "degree" "[I", Cond.fieldLink RX1 33 "CommunityLevels$Graph" "size" "I", Cond.fieldLink RX1 39 "CommunityLevels$Graph" "degree" "[I", Cond.methodLink RX1 27 yJ7_fill_53178, Cond.methodLink RX4 171 yX4_makePass, Cond.instanceMethod yX4_makePass, Cond.selects RX4 yX4_makePass yX4_makePass, Cond.code yX4_makePass cX4_makePass 7 (some .boolean), Cond.methodLink RX4 136 yX1_tie, Cond.instanceMethod yX1_tie, Cond.selects RX1 yX1_tie yX1_tie, Cond.code yX1_tie cX1_tie 4 none, Cond.fieldLink RX1 21 "CommunityLevels$Groups" "link" "[I", Cond.methodLink RX1 40 yX0_between, Cond.methodLink RX4 182 yX1_choose, Cond.instanceMethod yX1_choose, Cond.selects RX1 yX1_choose yX1_choose, Cond.code yX1_choose cX1_choose 10 (some .int), Cond.methodLink RX1 51 yX1_gainInto, Cond.instanceMethod yX1_gainInto, Cond.selects RX1 yX1_gainInto yX1_gainInto]
def wsX4_makeLevels_r4 : List Cond := [Cond.code yX1_gainInto cX1_gainInto 11 (some .long), Cond.constantLong RX1 44 (4), Cond.fieldLink RX1 46 "CommunityLevels$Graph" "total" "I", Cond.constantLong RX1 49 (2), Cond.methodLink RX1 55 yX1_leastFree, Cond.instanceMethod yX1_leastFree, Cond.selects RX1 yX1_leastFree yX1_leastFree, Cond.code yX1_leastFree cX1_leastFree 3 (some .int), Cond.methodLink RX4 140 yX1_gainInto, Cond.methodLink RX4 186 yX3_append, Cond.instanceMethod yX3_append, Cond.selects RX3 yX3_append yX3_append, Cond.initialized RX3, Cond.code yX3_append cX3_append 7 none, Cond.fieldLink RX3 19 "CommunityLevels$MoveLog" "size" "I", Cond.fieldLink RX3 9 "CommunityLevels$MoveLog" "facts" "[I", Cond.fieldLink RX3 15 "CommunityLevels$MoveLog" "gains" "[J", Cond.methodLink RX4 189 yX1_shift, Cond.instanceMethod yX1_shift, Cond.selects RX1 yX1_shift yX1_shift, Cond.code yX1_shift cX1_shift 5 none, Cond.methodLink RX4 132 yX1_score, Cond.instanceMethod yX1_score, Cond.selects RX1 yX1_score yX1_score]
def wsX4_makeLevels_r5 : List Cond := [Cond.code yX1_score cX1_score 7 (some .long), Cond.methodLink RX4 174 yX1_renumber, Cond.instanceMethod yX1_renumber, Cond.selects RX1 yX1_renumber yX1_renumber, Cond.code yX1_renumber cX1_renumber 5 (some .int), Cond.fieldLink RX1 24 "CommunityLevels$Groups" "number" "[I", Cond.methodLink RX4 178 yX2_append, Cond.instanceMethod yX2_append, Cond.selects RX2 yX2_append yX2_append, Cond.initialized RX2, Cond.code yX2_append cX2_append 8 none, Cond.fieldLink RX2 22 "CommunityLevels$LevelTable" "size" "I", Cond.fieldLink RX2 15 "CommunityLevels$LevelTable" "homes" "[I", Cond.methodLink RX2 26 arraycopyName, Cond.native arraycopyName, Cond.static arraycopyName, Cond.initialized "java/lang/System", Cond.fieldLink RX2 18 "CommunityLevels$LevelTable" "scores" "[J", Cond.fieldLink RX2 9 "CommunityLevels$LevelTable" "facts" "[I"]
def wsX4_makeLevels : List Cond := .code yX4_makeLevels cX4_makeLevels 3 none :: ((wsX4_makeLevels_r1 ++ (wsX4_makeLevels_r2 ++ (wsX4_makeLevels_r3 ++ (wsX4_makeLevels_r4 ++ wsX4_makeLevels_r5)))) ++ wsX40 ++ wsX00 ++ wsX30 ++ wsX10 ++ wsX20)
def wsX4_run_r1 : List Cond := [Cond.fieldLink RX4 26 "CommunityLevels" "table" "LCommunityLevels$LevelTable;", Cond.fieldLink RX4 85 "CommunityLevels$LevelTable" "size" "I", Cond.methodLink RX4 88 yX4_makeLevels, Cond.instanceMethod yX4_makeLevels, Cond.selects RX4 yX4_makeLevels yX4_makeLevels, Cond.initialized RX4, Cond.code yX4_makeLevels cX4_makeLevels 3 none, Cond.fieldLink RX4 10 "CommunityLevels" "told" "LCommunityLevels$Graph;", Cond.fieldLink RX4 121 "CommunityLevels$Graph" "size" "I", Cond.fieldLink RX4 43 "CommunityLevels" "within" "[I", Cond.fieldLink RX4 37 "CommunityLevels" "graph" "LCommunityLevels$Graph;", Cond.methodLink RX4 162 yX0_contract, Cond.instanceMethod yX0_contract, Cond.selects RX0 yX0_contract yX0_contract, Cond.initialized RX0, Cond.code yX0_contract cX0_contract 7 none, Cond.fieldLink RX0 18 "CommunityLevels$Graph" "size" "I", Cond.methodLink RX0 31 yX0_empty, Cond.instanceMethod yX0_empty, Cond.selects RX0 yX0_empty yX0_empty, Cond.code yX0_empty cX0_empty 2 none, Cond.fieldLink RX0 9 "CommunityLevels$Graph" "weight" "[I", Cond.fieldLink RX0 15 "CommunityLevels$Graph" "degree" "[I", Cond.fieldLink RX0 22 "CommunityLevels$Graph" "total" "I"]
def wsX4_run_r2 : List Cond := [Cond.methodLink RX0 25 yJ7_fill_53178, Cond.static yJ7_fill_53178, Cond.initialized RJ7, Cond.code yJ7_fill_53178 cJ7_fill_53178 4 none, Cond.methodLink RX0 35 yX0_between, Cond.instanceMethod yX0_between, Cond.selects RX0 yX0_between yX0_between, Cond.code yX0_between cX0_between 3 (some .int), Cond.methodLink RX0 39 yX0_add, Cond.instanceMethod yX0_add, Cond.selects RX0 yX0_add yX0_add, Cond.code yX0_add cX0_add 4 none, Cond.methodLink RX4 166 yX4_makeLevel, Cond.instanceMethod yX4_makeLevel, Cond.selects RX4 yX4_makeLevel yX4_makeLevel, Cond.code yX4_makeLevel cX4_makeLevel 10 (some .boolean), Cond.fieldLink RX4 40 "CommunityLevels" "groups" "LCommunityLevels$Groups;", Cond.fieldLink RX4 33 "CommunityLevels" "log" "LCommunityLevels$MoveLog;", Cond.fieldLink RX4 107 "CommunityLevels$MoveLog" "size" "I", Cond.constant RX4 170 (1000000), Cond.fieldLink RX4 118 "CommunityLevels$Groups" "home" "[I", Cond.methodLink RX4 58 yX1_separate, Cond.instanceMethod yX1_separate, Cond.selects RX1 yX1_separate yX1_separate]
def wsX4_run_r3 : List Cond := [Cond.initialized RX1, Cond.code yX1_separate cX1_separate 3 none, Cond.fieldLink RX1 9 "CommunityLevels$Groups" "home" "[I", Cond.methodLink RX4 128 yX1_tally, Cond.instanceMethod yX1_tally, Cond.selects RX1 yX1_tally yX1_tally, Cond.code yX1_tally cX1_tally 3 none, Cond.fieldLink RX1 15 "CommunityLevels$Groups" "count" "[I", Cond.fieldLink RX1 18 "CommunityLevels$Groups" "degree" "[I", Cond.fieldLink RX1 33 "CommunityLevels$Graph" "size" "I", Cond.fieldLink RX1 39 "CommunityLevels$Graph" "degree" "[I", Cond.methodLink RX1 27 yJ7_fill_53178, Cond.methodLink RX4 171 yX4_makePass, Cond.instanceMethod yX4_makePass, Cond.selects RX4 yX4_makePass yX4_makePass, Cond.code yX4_makePass cX4_makePass 7 (some .boolean), Cond.methodLink RX4 136 yX1_tie, Cond.instanceMethod yX1_tie, Cond.selects RX1 yX1_tie yX1_tie, Cond.code yX1_tie cX1_tie 4 none, Cond.fieldLink RX1 21 "CommunityLevels$Groups" "link" "[I", Cond.methodLink RX1 40 yX0_between, Cond.methodLink RX4 182 yX1_choose, Cond.instanceMethod yX1_choose]
def wsX4_run_r4 : List Cond := [Cond.selects RX1 yX1_choose yX1_choose, Cond.code yX1_choose cX1_choose 10 (some .int), Cond.methodLink RX1 51 yX1_gainInto, Cond.instanceMethod yX1_gainInto, Cond.selects RX1 yX1_gainInto yX1_gainInto, Cond.code yX1_gainInto cX1_gainInto 11 (some .long), Cond.constantLong RX1 44 (4), Cond.fieldLink RX1 46 "CommunityLevels$Graph" "total" "I", Cond.constantLong RX1 49 (2), Cond.methodLink RX1 55 yX1_leastFree, Cond.instanceMethod yX1_leastFree, Cond.selects RX1 yX1_leastFree yX1_leastFree, Cond.code yX1_leastFree cX1_leastFree 3 (some .int), Cond.methodLink RX4 140 yX1_gainInto, Cond.methodLink RX4 186 yX3_append, Cond.instanceMethod yX3_append, Cond.selects RX3 yX3_append yX3_append, Cond.initialized RX3, Cond.code yX3_append cX3_append 7 none, Cond.fieldLink RX3 19 "CommunityLevels$MoveLog" "size" "I", Cond.fieldLink RX3 9 "CommunityLevels$MoveLog" "facts" "[I", Cond.fieldLink RX3 15 "CommunityLevels$MoveLog" "gains" "[J", Cond.methodLink RX4 189 yX1_shift, Cond.instanceMethod yX1_shift]
def wsX4_run_r5 : List Cond := [Cond.selects RX1 yX1_shift yX1_shift, Cond.code yX1_shift cX1_shift 5 none, Cond.methodLink RX4 132 yX1_score, Cond.instanceMethod yX1_score, Cond.selects RX1 yX1_score yX1_score, Cond.code yX1_score cX1_score 7 (some .long), Cond.methodLink RX4 174 yX1_renumber, Cond.instanceMethod yX1_renumber, Cond.selects RX1 yX1_renumber yX1_renumber, Cond.code yX1_renumber cX1_renumber 5 (some .int), Cond.fieldLink RX1 24 "CommunityLevels$Groups" "number" "[I", Cond.methodLink RX4 178 yX2_append, Cond.instanceMethod yX2_append, Cond.selects RX2 yX2_append yX2_append, Cond.initialized RX2, Cond.code yX2_append cX2_append 8 none, Cond.fieldLink RX2 22 "CommunityLevels$LevelTable" "size" "I", Cond.fieldLink RX2 15 "CommunityLevels$LevelTable" "homes" "[I", Cond.methodLink RX2 26 arraycopyName, Cond.native arraycopyName, Cond.static arraycopyName, Cond.initialized "java/lang/System", Cond.fieldLink RX2 18 "CommunityLevels$LevelTable" "scores" "[J", Cond.fieldLink RX2 9 "CommunityLevels$LevelTable" "facts" "[I"]
def wsX4_run : List Cond := .code yX4_run cX4_run 1 (some .int) :: ((wsX4_run_r1 ++ (wsX4_run_r2 ++ (wsX4_run_r3 ++ (wsX4_run_r4 ++ wsX4_run_r5)))) ++ wsX40 ++ wsX20 ++ wsX00 ++ wsX30 ++ wsX10)
def wsX4_levels : List Cond := .code yX4_levels cX4_levels 1 (some .int) :: ([.fieldLink RX4 26 "CommunityLevels" "table" "LCommunityLevels$LevelTable;", .fieldLink RX4 85 "CommunityLevels$LevelTable" "size" "I"] ++ wsX40 ++ wsX20)
def wsX4_requireLevel : List Cond := .code yX4_requireLevel cX4_requireLevel 2 none :: ([.classLink RX4 144 "java/lang/IndexOutOfBoundsException", .initialized "java/lang/IndexOutOfBoundsException", .fieldLink RX4 26 "CommunityLevels" "table" "LCommunityLevels$LevelTable;", .fieldLink RX4 85 "CommunityLevels$LevelTable" "size" "I"] ++ wsX40 ++ wsX20 ++ (vx_atS RX4 148 "java/lang/IndexOutOfBoundsException" ["java/lang/RuntimeException", "java/lang/Exception"]).filter goodWord)
def wsX4_requireFact : List Cond := .code yX4_requireFact cX4_requireFact 2 none :: ([.classLink RX4 144 "java/lang/IndexOutOfBoundsException", .initialized "java/lang/IndexOutOfBoundsException"] ++ (vx_atS RX4 148 "java/lang/IndexOutOfBoundsException" ["java/lang/RuntimeException", "java/lang/Exception"]).filter goodWord)
def wsX4_level : List Cond := .code yX4_level cX4_level 3 (some .int) :: ([.fieldLink RX4 26 "CommunityLevels" "table" "LCommunityLevels$LevelTable;", .fieldLink RX4 97 "CommunityLevels$LevelTable" "facts" "[I", .methodLink RX4 91 yX4_requireLevel, .instanceMethod yX4_requireLevel, .selects RX4 yX4_requireLevel yX4_requireLevel, .initialized RX4, .code yX4_requireLevel cX4_requireLevel 2 none, .classLink RX4 144 "java/lang/IndexOutOfBoundsException", .initialized "java/lang/IndexOutOfBoundsException", .fieldLink RX4 85 "CommunityLevels$LevelTable" "size" "I", .methodLink RX4 94 yX4_requireFact, .instanceMethod yX4_requireFact, .selects RX4 yX4_requireFact yX4_requireFact, .code yX4_requireFact cX4_requireFact 2 none] ++ wsX40 ++ wsX20 ++ (vx_atS RX4 148 "java/lang/IndexOutOfBoundsException" ["java/lang/RuntimeException", "java/lang/Exception"]).filter goodWord)
def wsX4_community : List Cond := .code yX4_community cX4_community 3 (some .int) :: ([.fieldLink RX4 26 "CommunityLevels" "table" "LCommunityLevels$LevelTable;", .fieldLink RX4 100 "CommunityLevels$LevelTable" "homes" "[I", .methodLink RX4 91 yX4_requireLevel, .instanceMethod yX4_requireLevel, .selects RX4 yX4_requireLevel yX4_requireLevel, .initialized RX4, .code yX4_requireLevel cX4_requireLevel 2 none, .classLink RX4 144 "java/lang/IndexOutOfBoundsException", .initialized "java/lang/IndexOutOfBoundsException", .fieldLink RX4 85 "CommunityLevels$LevelTable" "size" "I", .methodLink RX4 64 yX4_requireNode, .instanceMethod yX4_requireNode, .selects RX4 yX4_requireNode yX4_requireNode, .code yX4_requireNode cX4_requireNode 2 none, .fieldLink RX4 10 "CommunityLevels" "told" "LCommunityLevels$Graph;", .fieldLink RX4 121 "CommunityLevels$Graph" "size" "I"] ++ wsX40 ++ wsX20 ++ wsX00 ++ (vx_atS RX4 148 "java/lang/IndexOutOfBoundsException" ["java/lang/RuntimeException", "java/lang/Exception"]).filter goodWord)
def wsX4_modularity : List Cond := .code yX4_modularity cX4_modularity 2 (some .long) :: ([.fieldLink RX4 26 "CommunityLevels" "table" "LCommunityLevels$LevelTable;", .fieldLink RX4 103 "CommunityLevels$LevelTable" "scores" "[J", .methodLink RX4 91 yX4_requireLevel, .instanceMethod yX4_requireLevel, .selects RX4 yX4_requireLevel yX4_requireLevel, .initialized RX4, .code yX4_requireLevel cX4_requireLevel 2 none, .classLink RX4 144 "java/lang/IndexOutOfBoundsException", .initialized "java/lang/IndexOutOfBoundsException", .fieldLink RX4 85 "CommunityLevels$LevelTable" "size" "I"] ++ wsX40 ++ wsX20 ++ (vx_atS RX4 148 "java/lang/IndexOutOfBoundsException" ["java/lang/RuntimeException", "java/lang/Exception"]).filter goodWord)
def wsX4_moves : List Cond := .code yX4_moves cX4_moves 1 (some .int) :: ([.fieldLink RX4 33 "CommunityLevels" "log" "LCommunityLevels$MoveLog;", .fieldLink RX4 107 "CommunityLevels$MoveLog" "size" "I"] ++ wsX40 ++ wsX30)
def wsX4_requireTold : List Cond := .code yX4_requireTold cX4_requireTold 2 none :: ([.classLink RX4 144 "java/lang/IndexOutOfBoundsException", .initialized "java/lang/IndexOutOfBoundsException", .fieldLink RX4 33 "CommunityLevels" "log" "LCommunityLevels$MoveLog;", .fieldLink RX4 107 "CommunityLevels$MoveLog" "size" "I"] ++ wsX40 ++ wsX30 ++ (vx_atS RX4 148 "java/lang/IndexOutOfBoundsException" ["java/lang/RuntimeException", "java/lang/Exception"]).filter goodWord)
def wsX4_move : List Cond := .code yX4_move cX4_move 3 (some .int) :: ([.fieldLink RX4 33 "CommunityLevels" "log" "LCommunityLevels$MoveLog;", .fieldLink RX4 111 "CommunityLevels$MoveLog" "facts" "[I", .methodLink RX4 108 yX4_requireTold, .instanceMethod yX4_requireTold, .selects RX4 yX4_requireTold yX4_requireTold, .initialized RX4, .code yX4_requireTold cX4_requireTold 2 none, .classLink RX4 144 "java/lang/IndexOutOfBoundsException", .initialized "java/lang/IndexOutOfBoundsException", .fieldLink RX4 107 "CommunityLevels$MoveLog" "size" "I", .methodLink RX4 94 yX4_requireFact, .instanceMethod yX4_requireFact, .selects RX4 yX4_requireFact yX4_requireFact, .code yX4_requireFact cX4_requireFact 2 none] ++ wsX40 ++ wsX30 ++ (vx_atS RX4 148 "java/lang/IndexOutOfBoundsException" ["java/lang/RuntimeException", "java/lang/Exception"]).filter goodWord)
def wsX4_gained : List Cond := .code yX4_gained cX4_gained 2 (some .long) :: ([.fieldLink RX4 33 "CommunityLevels" "log" "LCommunityLevels$MoveLog;", .fieldLink RX4 112 "CommunityLevels$MoveLog" "gains" "[J", .methodLink RX4 108 yX4_requireTold, .instanceMethod yX4_requireTold, .selects RX4 yX4_requireTold yX4_requireTold, .initialized RX4, .code yX4_requireTold cX4_requireTold 2 none, .classLink RX4 144 "java/lang/IndexOutOfBoundsException", .initialized "java/lang/IndexOutOfBoundsException", .fieldLink RX4 107 "CommunityLevels$MoveLog" "size" "I"] ++ wsX40 ++ wsX30 ++ (vx_atS RX4 148 "java/lang/IndexOutOfBoundsException" ["java/lang/RuntimeException", "java/lang/Exception"]).filter goodWord)
def wsX4_requireCommunity : List Cond := .code yX4_requireCommunity cX4_requireCommunity 2 none :: ([.classLink RX4 144 "java/lang/IndexOutOfBoundsException", .initialized "java/lang/IndexOutOfBoundsException", .fieldLink RX4 10 "CommunityLevels" "told" "LCommunityLevels$Graph;", .fieldLink RX4 121 "CommunityLevels$Graph" "size" "I"] ++ wsX40 ++ wsX00 ++ (vx_atS RX4 148 "java/lang/IndexOutOfBoundsException" ["java/lang/RuntimeException", "java/lang/Exception"]).filter goodWord)
def wsX4_place : List Cond := .code yX4_place cX4_place 4 (some .int) :: ([.fieldLink RX4 19 "CommunityLevels" "mine" "LCommunityLevels$Groups;", .fieldLink RX4 118 "CommunityLevels$Groups" "home" "[I", .methodLink RX4 64 yX4_requireNode, .instanceMethod yX4_requireNode, .selects RX4 yX4_requireNode yX4_requireNode, .initialized RX4, .code yX4_requireNode cX4_requireNode 2 none, .classLink RX4 144 "java/lang/IndexOutOfBoundsException", .initialized "java/lang/IndexOutOfBoundsException", .fieldLink RX4 10 "CommunityLevels" "told" "LCommunityLevels$Graph;", .fieldLink RX4 121 "CommunityLevels$Graph" "size" "I", .methodLink RX4 115 yX4_requireCommunity, .instanceMethod yX4_requireCommunity, .selects RX4 yX4_requireCommunity yX4_requireCommunity, .code yX4_requireCommunity cX4_requireCommunity 2 none] ++ wsX40 ++ wsX10 ++ wsX00 ++ (vx_atS RX4 148 "java/lang/IndexOutOfBoundsException" ["java/lang/RuntimeException", "java/lang/Exception"]).filter goodWord)
def wsX4_take : List Cond := .code yX4_take cX4_take 2 none :: ([.fieldLink RX4 26 "CommunityLevels" "table" "LCommunityLevels$LevelTable;", .fieldLink RX4 100 "CommunityLevels$LevelTable" "homes" "[I", .fieldLink RX4 19 "CommunityLevels" "mine" "LCommunityLevels$Groups;", .fieldLink RX4 118 "CommunityLevels$Groups" "home" "[I", .fieldLink RX4 10 "CommunityLevels" "told" "LCommunityLevels$Graph;", .fieldLink RX4 121 "CommunityLevels$Graph" "size" "I", .methodLink RX4 122 arraycopyName, .native arraycopyName, .static arraycopyName, .initialized "java/lang/System", .methodLink RX4 91 yX4_requireLevel, .instanceMethod yX4_requireLevel, .selects RX4 yX4_requireLevel yX4_requireLevel, .initialized RX4, .code yX4_requireLevel cX4_requireLevel 2 none, .classLink RX4 144 "java/lang/IndexOutOfBoundsException", .initialized "java/lang/IndexOutOfBoundsException", .fieldLink RX4 85 "CommunityLevels$LevelTable" "size" "I"] ++ wsX40 ++ wsX20 ++ wsX10 ++ wsX00 ++ (vx_atS RX4 148 "java/lang/IndexOutOfBoundsException" ["java/lang/RuntimeException", "java/lang/Exception"]).filter goodWord)
def wsX4_own_r1 : List Cond := [Cond.fieldLink RX4 19 "CommunityLevels" "mine" "LCommunityLevels$Groups;", Cond.fieldLink RX4 10 "CommunityLevels" "told" "LCommunityLevels$Graph;", Cond.methodLink RX4 128 yX1_tally, Cond.instanceMethod yX1_tally, Cond.selects RX1 yX1_tally yX1_tally, Cond.initialized RX1, Cond.code yX1_tally cX1_tally 3 none, Cond.fieldLink RX1 15 "CommunityLevels$Groups" "count" "[I", Cond.fieldLink RX1 18 "CommunityLevels$Groups" "degree" "[I", Cond.fieldLink RX1 33 "CommunityLevels$Graph" "size" "I", Cond.fieldLink RX1 9 "CommunityLevels$Groups" "home" "[I", Cond.fieldLink RX1 39 "CommunityLevels$Graph" "degree" "[I", Cond.methodLink RX1 27 yJ7_fill_53178, Cond.static yJ7_fill_53178, Cond.initialized RJ7, Cond.code yJ7_fill_53178 cJ7_fill_53178 4 none, Cond.methodLink RX4 132 yX1_score, Cond.instanceMethod yX1_score, Cond.selects RX1 yX1_score yX1_score, Cond.code yX1_score cX1_score 7 (some .long), Cond.constantLong RX1 44 (4), Cond.fieldLink RX1 46 "CommunityLevels$Graph" "total" "I", Cond.methodLink RX1 40 yX0_between, Cond.instanceMethod yX0_between]
def wsX4_own_r2 : List Cond := [Cond.selects RX0 yX0_between yX0_between, Cond.initialized RX0, Cond.code yX0_between cX0_between 3 (some .int), Cond.fieldLink RX0 9 "CommunityLevels$Graph" "weight" "[I"]
def wsX4_own : List Cond := .code yX4_own cX4_own 1 (some .long) :: ((wsX4_own_r1 ++ wsX4_own_r2) ++ wsX40 ++ wsX10 ++ wsX00)
def wsX4_gain_r1 : List Cond := [Cond.fieldLink RX4 19 "CommunityLevels" "mine" "LCommunityLevels$Groups;", Cond.fieldLink RX4 10 "CommunityLevels" "told" "LCommunityLevels$Graph;", Cond.methodLink RX4 64 yX4_requireNode, Cond.instanceMethod yX4_requireNode, Cond.selects RX4 yX4_requireNode yX4_requireNode, Cond.initialized RX4, Cond.code yX4_requireNode cX4_requireNode 2 none, Cond.classLink RX4 144 "java/lang/IndexOutOfBoundsException", Cond.initialized "java/lang/IndexOutOfBoundsException", Cond.fieldLink RX4 121 "CommunityLevels$Graph" "size" "I", Cond.methodLink RX4 115 yX4_requireCommunity, Cond.instanceMethod yX4_requireCommunity, Cond.selects RX4 yX4_requireCommunity yX4_requireCommunity, Cond.code yX4_requireCommunity cX4_requireCommunity 2 none, Cond.methodLink RX4 128 yX1_tally, Cond.instanceMethod yX1_tally, Cond.selects RX1 yX1_tally yX1_tally, Cond.initialized RX1, Cond.code yX1_tally cX1_tally 3 none, Cond.fieldLink RX1 15 "CommunityLevels$Groups" "count" "[I", Cond.fieldLink RX1 18 "CommunityLevels$Groups" "degree" "[I", Cond.fieldLink RX1 33 "CommunityLevels$Graph" "size" "I", Cond.fieldLink RX1 9 "CommunityLevels$Groups" "home" "[I", Cond.fieldLink RX1 39 "CommunityLevels$Graph" "degree" "[I"]
def wsX4_gain_r2 : List Cond := [Cond.methodLink RX1 27 yJ7_fill_53178, Cond.static yJ7_fill_53178, Cond.initialized RJ7, Cond.code yJ7_fill_53178 cJ7_fill_53178 4 none, Cond.methodLink RX4 136 yX1_tie, Cond.instanceMethod yX1_tie, Cond.selects RX1 yX1_tie yX1_tie, Cond.code yX1_tie cX1_tie 4 none, Cond.fieldLink RX1 21 "CommunityLevels$Groups" "link" "[I", Cond.methodLink RX1 40 yX0_between, Cond.instanceMethod yX0_between, Cond.selects RX0 yX0_between yX0_between, Cond.initialized RX0, Cond.code yX0_between cX0_between 3 (some .int), Cond.fieldLink RX0 9 "CommunityLevels$Graph" "weight" "[I", Cond.methodLink RX4 140 yX1_gainInto, Cond.instanceMethod yX1_gainInto, Cond.selects RX1 yX1_gainInto yX1_gainInto, Cond.code yX1_gainInto cX1_gainInto 11 (some .long), Cond.constantLong RX1 44 (4), Cond.fieldLink RX1 46 "CommunityLevels$Graph" "total" "I", Cond.constantLong RX1 49 (2)]
def wsX4_gain : List Cond := .code yX4_gain cX4_gain 3 (some .long) :: ((wsX4_gain_r1 ++ wsX4_gain_r2) ++ wsX40 ++ wsX00 ++ wsX10 ++ (vx_atS RX4 148 "java/lang/IndexOutOfBoundsException" ["java/lang/RuntimeException", "java/lang/Exception"]).filter goodWord)
def wsX4_about : List Cond := .code yX4_about cX4_about 3 (some .int) :: ([.classLink RX4 144 "java/lang/IndexOutOfBoundsException", .initialized "java/lang/IndexOutOfBoundsException", .fieldLink RX4 10 "CommunityLevels" "told" "LCommunityLevels$Graph;", .fieldLink RX4 121 "CommunityLevels$Graph" "size" "I", .fieldLink RX4 73 "CommunityLevels$Graph" "total" "I", .fieldLink RX4 149 "CommunityLevels$Graph" "degree" "[I", .fieldLink RX4 19 "CommunityLevels" "mine" "LCommunityLevels$Groups;", .fieldLink RX4 118 "CommunityLevels$Groups" "home" "[I", .methodLink RX4 64 yX4_requireNode, .instanceMethod yX4_requireNode, .selects RX4 yX4_requireNode yX4_requireNode, .initialized RX4, .code yX4_requireNode cX4_requireNode 2 none, .methodLink RX4 69 yX0_between, .instanceMethod yX0_between, .selects RX0 yX0_between yX0_between, .initialized RX0, .code yX0_between cX0_between 3 (some .int), .fieldLink RX0 9 "CommunityLevels$Graph" "weight" "[I"] ++ wsX40 ++ wsX00 ++ wsX10 ++ (vx_atS RX4 148 "java/lang/IndexOutOfBoundsException" ["java/lang/RuntimeException", "java/lang/Exception"]).filter goodWord)
def wsX5_init : List Cond := .code yX5_init cX5_init 1 none :: ([.methodLink RX5 1 objectInit, .instanceMethod objectInit, .code objectInit ⟨#[0xb1]⟩ 1 none, .fieldLink RX5 7 "CommunityLevelsModel" "n" "I", .arrayClass .int, .fieldLink RX5 13 "CommunityLevelsModel" "weight" "[I", .fieldLink RX5 17 "CommunityLevelsModel" "own" "[I", .arrayClass .long, .fieldLink RX5 20 "CommunityLevelsModel" "between" "[J", .fieldLink RX5 24 "CommunityLevelsModel" "community" "[I", .fieldLink RX5 27 "CommunityLevelsModel" "fresh" "[J", .fieldLink RX5 30 "CommunityLevelsModel" "told" "[I", .fieldLink RX5 33 "CommunityLevelsModel" "reached" "[J", .fieldLink RX5 36 "CommunityLevelsModel" "placed" "[I", .fieldLink RX5 39 "CommunityLevelsModel" "moved" "[I", .fieldLink RX5 42 "CommunityLevelsModel" "gained" "[J", .fieldLink RX5 45 "CommunityLevelsModel" "degrees" "[J"] ++ wsX50)
def wsX5_thrown : List Cond := .code yX5_thrown cX5_thrown 1 (some .int) :: ([.fieldLink RX5 48 "CommunityLevelsModel" "thrown" "I"] ++ wsX50)
def wsX5_forget : List Cond := .code yX5_forget cX5_forget 1 none :: ([.fieldLink RX5 51 "CommunityLevelsModel" "levels" "I", .fieldLink RX5 54 "CommunityLevelsModel" "moves" "I"] ++ wsX50)
def wsX5_nodes : List Cond := .code yX5_nodes cX5_nodes 3 none :: ([.fieldLink RX5 48 "CommunityLevelsModel" "thrown" "I", .fieldLink RX5 7 "CommunityLevelsModel" "n" "I", .fieldLink RX5 13 "CommunityLevelsModel" "weight" "[I", .fieldLink RX5 17 "CommunityLevelsModel" "own" "[I", .methodLink RX5 57 yX5_forget, .instanceMethod yX5_forget, .selects RX5 yX5_forget yX5_forget, .initialized RX5, .code yX5_forget cX5_forget 1 none, .fieldLink RX5 51 "CommunityLevelsModel" "levels" "I", .fieldLink RX5 54 "CommunityLevelsModel" "moves" "I"] ++ wsX50)
def wsX5_noNode : List Cond := .code yX5_noNode cX5_noNode 2 (some .boolean) :: ([.fieldLink RX5 7 "CommunityLevelsModel" "n" "I"] ++ wsX50)
def wsX5_all : List Cond := .code yX5_all cX5_all 5 (some .long) :: ([.fieldLink RX5 7 "CommunityLevelsModel" "n" "I", .fieldLink RX5 13 "CommunityLevelsModel" "weight" "[I"] ++ wsX50)
def wsX5_weigh : List Cond := .code yX5_weigh cX5_weigh 5 (some .int) :: ([.fieldLink RX5 48 "CommunityLevelsModel" "thrown" "I", .fieldLink RX5 13 "CommunityLevelsModel" "weight" "[I", .constantLong RX5 68 (536870912), .methodLink RX5 60 yX5_noNode, .instanceMethod yX5_noNode, .selects RX5 yX5_noNode yX5_noNode, .initialized RX5, .code yX5_noNode cX5_noNode 2 (some .boolean), .fieldLink RX5 7 "CommunityLevelsModel" "n" "I", .methodLink RX5 64 yX5_all, .instanceMethod yX5_all, .selects RX5 yX5_all yX5_all, .code yX5_all cX5_all 5 (some .long), .methodLink RX5 57 yX5_forget, .instanceMethod yX5_forget, .selects RX5 yX5_forget yX5_forget, .code yX5_forget cX5_forget 1 none, .fieldLink RX5 51 "CommunityLevelsModel" "levels" "I", .fieldLink RX5 54 "CommunityLevelsModel" "moves" "I"] ++ wsX50)
def wsX5_first : List Cond := .code yX5_first cX5_first 3 none :: ([.fieldLink RX5 7 "CommunityLevelsModel" "n" "I", .fieldLink RX5 70 "CommunityLevelsModel" "many" "I", .fieldLink RX5 20 "CommunityLevelsModel" "between" "[J", .fieldLink RX5 13 "CommunityLevelsModel" "weight" "[I"] ++ wsX50)
def wsX5_degree : List Cond := .code yX5_degree cX5_degree 5 (some .long) :: ([.fieldLink RX5 20 "CommunityLevelsModel" "between" "[J", .fieldLink RX5 70 "CommunityLevelsModel" "many" "I"] ++ wsX50)
def wsX5_sum : List Cond := .code yX5_sum cX5_sum 5 (some .long) :: ([.fieldLink RX5 70 "CommunityLevelsModel" "many" "I", .fieldLink RX5 20 "CommunityLevelsModel" "between" "[J"] ++ wsX50)
def wsX5_prepare : List Cond := .code yX5_prepare cX5_prepare 2 none :: ([.fieldLink RX5 76 "CommunityLevelsModel" "whole" "J", .fieldLink RX5 70 "CommunityLevelsModel" "many" "I", .fieldLink RX5 45 "CommunityLevelsModel" "degrees" "[J", .methodLink RX5 73 yX5_sum, .instanceMethod yX5_sum, .selects RX5 yX5_sum yX5_sum, .initialized RX5, .code yX5_sum cX5_sum 5 (some .long), .fieldLink RX5 20 "CommunityLevelsModel" "between" "[J", .methodLink RX5 80 yX5_degree, .instanceMethod yX5_degree, .selects RX5 yX5_degree yX5_degree, .code yX5_degree cX5_degree 5 (some .long)] ++ wsX50)
def wsX5_modularityNow : List Cond := .code yX5_modularityNow cX5_modularityNow 10 (some .long) :: ([.fieldLink RX5 70 "CommunityLevelsModel" "many" "I", .fieldLink RX5 24 "CommunityLevelsModel" "community" "[I", .fieldLink RX5 45 "CommunityLevelsModel" "degrees" "[J", .fieldLink RX5 20 "CommunityLevelsModel" "between" "[J", .constantLong RX5 84 (4), .fieldLink RX5 76 "CommunityLevelsModel" "whole" "J"] ++ wsX50)
def wsX5_gainOf : List Cond := .code yX5_gainOf cX5_gainOf 12 (some .long) :: ([.fieldLink RX5 24 "CommunityLevelsModel" "community" "[I", .fieldLink RX5 70 "CommunityLevelsModel" "many" "I", .fieldLink RX5 20 "CommunityLevelsModel" "between" "[J", .fieldLink RX5 45 "CommunityLevelsModel" "degrees" "[J", .constantLong RX5 84 (4), .fieldLink RX5 76 "CommunityLevelsModel" "whole" "J", .constantLong RX5 86 (2)] ++ wsX50)
def wsX5_isNear : List Cond := .code yX5_isNear cX5_isNear 5 (some .boolean) :: ([.fieldLink RX5 70 "CommunityLevelsModel" "many" "I", .fieldLink RX5 24 "CommunityLevelsModel" "community" "[I", .fieldLink RX5 20 "CommunityLevelsModel" "between" "[J"] ++ wsX50)
def wsX5_isEmpty : List Cond := .code yX5_isEmpty cX5_isEmpty 4 (some .boolean) :: ([.fieldLink RX5 70 "CommunityLevelsModel" "many" "I", .fieldLink RX5 24 "CommunityLevelsModel" "community" "[I"] ++ wsX50)
def wsX5_isAlone : List Cond := .code yX5_isAlone cX5_isAlone 4 (some .boolean) :: ([.fieldLink RX5 70 "CommunityLevelsModel" "many" "I", .fieldLink RX5 24 "CommunityLevelsModel" "community" "[I"] ++ wsX50)
def wsX5_come_r1 : List Cond := [Cond.fieldLink RX5 24 "CommunityLevelsModel" "community" "[I", Cond.fieldLink RX5 54 "CommunityLevelsModel" "moves" "I", Cond.fieldLink RX5 39 "CommunityLevelsModel" "moved" "[I", Cond.fieldLink RX5 51 "CommunityLevelsModel" "levels" "I", Cond.fieldLink RX5 42 "CommunityLevelsModel" "gained" "[J", Cond.methodLink RX5 88 yX5_isNear, Cond.instanceMethod yX5_isNear, Cond.selects RX5 yX5_isNear yX5_isNear, Cond.initialized RX5, Cond.code yX5_isNear cX5_isNear 5 (some .boolean), Cond.fieldLink RX5 70 "CommunityLevelsModel" "many" "I", Cond.fieldLink RX5 20 "CommunityLevelsModel" "between" "[J", Cond.methodLink RX5 92 yX5_gainOf, Cond.instanceMethod yX5_gainOf, Cond.selects RX5 yX5_gainOf yX5_gainOf, Cond.code yX5_gainOf cX5_gainOf 12 (some .long), Cond.fieldLink RX5 45 "CommunityLevelsModel" "degrees" "[J", Cond.constantLong RX5 84 (4), Cond.fieldLink RX5 76 "CommunityLevelsModel" "whole" "J", Cond.constantLong RX5 86 (2), Cond.methodLink RX5 96 yX5_isAlone, Cond.instanceMethod yX5_isAlone, Cond.selects RX5 yX5_isAlone yX5_isAlone, Cond.code yX5_isAlone cX5_isAlone 4 (some .boolean)]
def wsX5_come_r2 : List Cond := [Cond.methodLink RX5 99 yX5_isEmpty, Cond.instanceMethod yX5_isEmpty, Cond.selects RX5 yX5_isEmpty yX5_isEmpty, Cond.code yX5_isEmpty cX5_isEmpty 4 (some .boolean)]
def wsX5_come : List Cond := .code yX5_come cX5_come 8 (some .boolean) :: ((wsX5_come_r1 ++ wsX5_come_r2) ++ wsX50)
def wsX5_number : List Cond := .code yX5_number cX5_number 5 (some .int) :: ([.fieldLink RX5 70 "CommunityLevelsModel" "many" "I", .fieldLink RX5 24 "CommunityLevelsModel" "community" "[I"] ++ wsX50)
def wsX5_shrink : List Cond := .code yX5_shrink cX5_shrink 6 none :: ([.fieldLink RX5 27 "CommunityLevelsModel" "fresh" "[J", .fieldLink RX5 70 "CommunityLevelsModel" "many" "I", .fieldLink RX5 24 "CommunityLevelsModel" "community" "[I", .fieldLink RX5 20 "CommunityLevelsModel" "between" "[J"] ++ wsX50)
def wsX5_run_r1 : List Cond := [Cond.fieldLink RX5 48 "CommunityLevelsModel" "thrown" "I", Cond.fieldLink RX5 54 "CommunityLevelsModel" "moves" "I", Cond.fieldLink RX5 70 "CommunityLevelsModel" "many" "I", Cond.fieldLink RX5 24 "CommunityLevelsModel" "community" "[I", Cond.fieldLink RX5 30 "CommunityLevelsModel" "told" "[I", Cond.fieldLink RX5 51 "CommunityLevelsModel" "levels" "I", Cond.fieldLink RX5 33 "CommunityLevelsModel" "reached" "[J", Cond.fieldLink RX5 7 "CommunityLevelsModel" "n" "I", Cond.fieldLink RX5 36 "CommunityLevelsModel" "placed" "[I", Cond.methodLink RX5 57 yX5_forget, Cond.instanceMethod yX5_forget, Cond.selects RX5 yX5_forget yX5_forget, Cond.initialized RX5, Cond.code yX5_forget cX5_forget 1 none, Cond.methodLink RX5 102 yX5_first, Cond.instanceMethod yX5_first, Cond.selects RX5 yX5_first yX5_first, Cond.code yX5_first cX5_first 3 none, Cond.fieldLink RX5 20 "CommunityLevelsModel" "between" "[J", Cond.fieldLink RX5 13 "CommunityLevelsModel" "weight" "[I", Cond.methodLink RX5 105 yX5_prepare, Cond.instanceMethod yX5_prepare, Cond.selects RX5 yX5_prepare yX5_prepare, Cond.code yX5_prepare cX5_prepare 2 none]
def wsX5_run_r2 : List Cond := [Cond.fieldLink RX5 76 "CommunityLevelsModel" "whole" "J", Cond.fieldLink RX5 45 "CommunityLevelsModel" "degrees" "[J", Cond.methodLink RX5 73 yX5_sum, Cond.instanceMethod yX5_sum, Cond.selects RX5 yX5_sum yX5_sum, Cond.code yX5_sum cX5_sum 5 (some .long), Cond.methodLink RX5 80 yX5_degree, Cond.instanceMethod yX5_degree, Cond.selects RX5 yX5_degree yX5_degree, Cond.code yX5_degree cX5_degree 5 (some .long), Cond.methodLink RX5 108 yX5_come, Cond.instanceMethod yX5_come, Cond.selects RX5 yX5_come yX5_come, Cond.code yX5_come cX5_come 8 (some .boolean), Cond.fieldLink RX5 39 "CommunityLevelsModel" "moved" "[I", Cond.fieldLink RX5 42 "CommunityLevelsModel" "gained" "[J", Cond.methodLink RX5 88 yX5_isNear, Cond.instanceMethod yX5_isNear, Cond.selects RX5 yX5_isNear yX5_isNear, Cond.code yX5_isNear cX5_isNear 5 (some .boolean), Cond.methodLink RX5 92 yX5_gainOf, Cond.instanceMethod yX5_gainOf, Cond.selects RX5 yX5_gainOf yX5_gainOf, Cond.code yX5_gainOf cX5_gainOf 12 (some .long)]
def wsX5_run_r3 : List Cond := [Cond.constantLong RX5 84 (4), Cond.constantLong RX5 86 (2), Cond.methodLink RX5 96 yX5_isAlone, Cond.instanceMethod yX5_isAlone, Cond.selects RX5 yX5_isAlone yX5_isAlone, Cond.code yX5_isAlone cX5_isAlone 4 (some .boolean), Cond.methodLink RX5 99 yX5_isEmpty, Cond.instanceMethod yX5_isEmpty, Cond.selects RX5 yX5_isEmpty yX5_isEmpty, Cond.code yX5_isEmpty cX5_isEmpty 4 (some .boolean), Cond.methodLink RX5 111 yX5_number, Cond.instanceMethod yX5_number, Cond.selects RX5 yX5_number yX5_number, Cond.code yX5_number cX5_number 5 (some .int), Cond.methodLink RX5 115 yX5_modularityNow, Cond.instanceMethod yX5_modularityNow, Cond.selects RX5 yX5_modularityNow yX5_modularityNow, Cond.code yX5_modularityNow cX5_modularityNow 10 (some .long), Cond.methodLink RX5 118 yX5_shrink, Cond.instanceMethod yX5_shrink, Cond.selects RX5 yX5_shrink yX5_shrink, Cond.code yX5_shrink cX5_shrink 6 none, Cond.fieldLink RX5 27 "CommunityLevelsModel" "fresh" "[J"]
def wsX5_run : List Cond := .code yX5_run cX5_run 8 (some .int) :: ((wsX5_run_r1 ++ (wsX5_run_r2 ++ wsX5_run_r3)) ++ wsX50)
def wsX5_levels : List Cond := .code yX5_levels cX5_levels 1 (some .int) :: ([.fieldLink RX5 48 "CommunityLevelsModel" "thrown" "I", .fieldLink RX5 51 "CommunityLevelsModel" "levels" "I"] ++ wsX50)
def wsX5_noLevel : List Cond := .code yX5_noLevel cX5_noLevel 2 (some .boolean) :: ([.fieldLink RX5 51 "CommunityLevelsModel" "levels" "I"] ++ wsX50)
def wsX5_level : List Cond := .code yX5_level cX5_level 3 (some .int) :: ([.fieldLink RX5 48 "CommunityLevelsModel" "thrown" "I", .fieldLink RX5 30 "CommunityLevelsModel" "told" "[I", .methodLink RX5 122 yX5_noLevel, .instanceMethod yX5_noLevel, .selects RX5 yX5_noLevel yX5_noLevel, .initialized RX5, .code yX5_noLevel cX5_noLevel 2 (some .boolean), .fieldLink RX5 51 "CommunityLevelsModel" "levels" "I"] ++ wsX50)
def wsX5_community : List Cond := .code yX5_community cX5_community 3 (some .int) :: ([.fieldLink RX5 48 "CommunityLevelsModel" "thrown" "I", .fieldLink RX5 36 "CommunityLevelsModel" "placed" "[I", .methodLink RX5 122 yX5_noLevel, .instanceMethod yX5_noLevel, .selects RX5 yX5_noLevel yX5_noLevel, .initialized RX5, .code yX5_noLevel cX5_noLevel 2 (some .boolean), .fieldLink RX5 51 "CommunityLevelsModel" "levels" "I", .methodLink RX5 60 yX5_noNode, .instanceMethod yX5_noNode, .selects RX5 yX5_noNode yX5_noNode, .code yX5_noNode cX5_noNode 2 (some .boolean), .fieldLink RX5 7 "CommunityLevelsModel" "n" "I"] ++ wsX50)
def wsX5_modularity : List Cond := .code yX5_modularity cX5_modularity 2 (some .long) :: ([.fieldLink RX5 48 "CommunityLevelsModel" "thrown" "I", .fieldLink RX5 33 "CommunityLevelsModel" "reached" "[J", .methodLink RX5 122 yX5_noLevel, .instanceMethod yX5_noLevel, .selects RX5 yX5_noLevel yX5_noLevel, .initialized RX5, .code yX5_noLevel cX5_noLevel 2 (some .boolean), .fieldLink RX5 51 "CommunityLevelsModel" "levels" "I"] ++ wsX50)
def wsX5_moves : List Cond := .code yX5_moves cX5_moves 1 (some .int) :: ([.fieldLink RX5 48 "CommunityLevelsModel" "thrown" "I", .fieldLink RX5 54 "CommunityLevelsModel" "moves" "I"] ++ wsX50)
def wsX5_noMove : List Cond := .code yX5_noMove cX5_noMove 2 (some .boolean) :: ([.fieldLink RX5 54 "CommunityLevelsModel" "moves" "I"] ++ wsX50)
def wsX5_move : List Cond := .code yX5_move cX5_move 3 (some .int) :: ([.fieldLink RX5 48 "CommunityLevelsModel" "thrown" "I", .fieldLink RX5 39 "CommunityLevelsModel" "moved" "[I", .methodLink RX5 125 yX5_noMove, .instanceMethod yX5_noMove, .selects RX5 yX5_noMove yX5_noMove, .initialized RX5, .code yX5_noMove cX5_noMove 2 (some .boolean), .fieldLink RX5 54 "CommunityLevelsModel" "moves" "I"] ++ wsX50)
def wsX5_gained : List Cond := .code yX5_gained cX5_gained 2 (some .long) :: ([.fieldLink RX5 48 "CommunityLevelsModel" "thrown" "I", .fieldLink RX5 42 "CommunityLevelsModel" "gained" "[J", .methodLink RX5 125 yX5_noMove, .instanceMethod yX5_noMove, .selects RX5 yX5_noMove yX5_noMove, .initialized RX5, .code yX5_noMove cX5_noMove 2 (some .boolean), .fieldLink RX5 54 "CommunityLevelsModel" "moves" "I"] ++ wsX50)
def wsX5_place : List Cond := .code yX5_place cX5_place 4 (some .int) :: ([.fieldLink RX5 48 "CommunityLevelsModel" "thrown" "I", .fieldLink RX5 17 "CommunityLevelsModel" "own" "[I", .methodLink RX5 60 yX5_noNode, .instanceMethod yX5_noNode, .selects RX5 yX5_noNode yX5_noNode, .initialized RX5, .code yX5_noNode cX5_noNode 2 (some .boolean), .fieldLink RX5 7 "CommunityLevelsModel" "n" "I"] ++ wsX50)
def wsX5_take : List Cond := .code yX5_take cX5_take 3 none :: ([.fieldLink RX5 48 "CommunityLevelsModel" "thrown" "I", .fieldLink RX5 7 "CommunityLevelsModel" "n" "I", .fieldLink RX5 17 "CommunityLevelsModel" "own" "[I", .fieldLink RX5 36 "CommunityLevelsModel" "placed" "[I", .methodLink RX5 122 yX5_noLevel, .instanceMethod yX5_noLevel, .selects RX5 yX5_noLevel yX5_noLevel, .initialized RX5, .code yX5_noLevel cX5_noLevel 2 (some .boolean), .fieldLink RX5 51 "CommunityLevelsModel" "levels" "I"] ++ wsX50)
def wsX5_ownNow_r1 : List Cond := [Cond.fieldLink RX5 7 "CommunityLevelsModel" "n" "I", Cond.fieldLink RX5 24 "CommunityLevelsModel" "community" "[I", Cond.fieldLink RX5 17 "CommunityLevelsModel" "own" "[I", Cond.methodLink RX5 102 yX5_first, Cond.instanceMethod yX5_first, Cond.selects RX5 yX5_first yX5_first, Cond.initialized RX5, Cond.code yX5_first cX5_first 3 none, Cond.fieldLink RX5 70 "CommunityLevelsModel" "many" "I", Cond.fieldLink RX5 20 "CommunityLevelsModel" "between" "[J", Cond.fieldLink RX5 13 "CommunityLevelsModel" "weight" "[I", Cond.methodLink RX5 105 yX5_prepare, Cond.instanceMethod yX5_prepare, Cond.selects RX5 yX5_prepare yX5_prepare, Cond.code yX5_prepare cX5_prepare 2 none, Cond.fieldLink RX5 76 "CommunityLevelsModel" "whole" "J", Cond.fieldLink RX5 45 "CommunityLevelsModel" "degrees" "[J", Cond.methodLink RX5 73 yX5_sum, Cond.instanceMethod yX5_sum, Cond.selects RX5 yX5_sum yX5_sum, Cond.code yX5_sum cX5_sum 5 (some .long), Cond.methodLink RX5 80 yX5_degree, Cond.instanceMethod yX5_degree, Cond.selects RX5 yX5_degree yX5_degree]
def wsX5_ownNow_r2 : List Cond := [Cond.code yX5_degree cX5_degree 5 (some .long)]
def wsX5_ownNow : List Cond := .code yX5_ownNow cX5_ownNow 2 none :: ((wsX5_ownNow_r1 ++ wsX5_ownNow_r2) ++ wsX50)
def wsX5_own_r1 : List Cond := [Cond.fieldLink RX5 48 "CommunityLevelsModel" "thrown" "I", Cond.methodLink RX5 128 yX5_ownNow, Cond.instanceMethod yX5_ownNow, Cond.selects RX5 yX5_ownNow yX5_ownNow, Cond.initialized RX5, Cond.code yX5_ownNow cX5_ownNow 2 none, Cond.fieldLink RX5 7 "CommunityLevelsModel" "n" "I", Cond.fieldLink RX5 24 "CommunityLevelsModel" "community" "[I", Cond.fieldLink RX5 17 "CommunityLevelsModel" "own" "[I", Cond.methodLink RX5 102 yX5_first, Cond.instanceMethod yX5_first, Cond.selects RX5 yX5_first yX5_first, Cond.code yX5_first cX5_first 3 none, Cond.fieldLink RX5 70 "CommunityLevelsModel" "many" "I", Cond.fieldLink RX5 20 "CommunityLevelsModel" "between" "[J", Cond.fieldLink RX5 13 "CommunityLevelsModel" "weight" "[I", Cond.methodLink RX5 105 yX5_prepare, Cond.instanceMethod yX5_prepare, Cond.selects RX5 yX5_prepare yX5_prepare, Cond.code yX5_prepare cX5_prepare 2 none, Cond.fieldLink RX5 76 "CommunityLevelsModel" "whole" "J", Cond.fieldLink RX5 45 "CommunityLevelsModel" "degrees" "[J", Cond.methodLink RX5 73 yX5_sum, Cond.instanceMethod yX5_sum]
def wsX5_own_r2 : List Cond := [Cond.selects RX5 yX5_sum yX5_sum, Cond.code yX5_sum cX5_sum 5 (some .long), Cond.methodLink RX5 80 yX5_degree, Cond.instanceMethod yX5_degree, Cond.selects RX5 yX5_degree yX5_degree, Cond.code yX5_degree cX5_degree 5 (some .long), Cond.methodLink RX5 115 yX5_modularityNow, Cond.instanceMethod yX5_modularityNow, Cond.selects RX5 yX5_modularityNow yX5_modularityNow, Cond.code yX5_modularityNow cX5_modularityNow 10 (some .long), Cond.constantLong RX5 84 (4)]
def wsX5_own : List Cond := .code yX5_own cX5_own 1 (some .long) :: ((wsX5_own_r1 ++ wsX5_own_r2) ++ wsX50)
def wsX5_gain_r1 : List Cond := [Cond.fieldLink RX5 48 "CommunityLevelsModel" "thrown" "I", Cond.methodLink RX5 60 yX5_noNode, Cond.instanceMethod yX5_noNode, Cond.selects RX5 yX5_noNode yX5_noNode, Cond.initialized RX5, Cond.code yX5_noNode cX5_noNode 2 (some .boolean), Cond.fieldLink RX5 7 "CommunityLevelsModel" "n" "I", Cond.methodLink RX5 128 yX5_ownNow, Cond.instanceMethod yX5_ownNow, Cond.selects RX5 yX5_ownNow yX5_ownNow, Cond.code yX5_ownNow cX5_ownNow 2 none, Cond.fieldLink RX5 24 "CommunityLevelsModel" "community" "[I", Cond.fieldLink RX5 17 "CommunityLevelsModel" "own" "[I", Cond.methodLink RX5 102 yX5_first, Cond.instanceMethod yX5_first, Cond.selects RX5 yX5_first yX5_first, Cond.code yX5_first cX5_first 3 none, Cond.fieldLink RX5 70 "CommunityLevelsModel" "many" "I", Cond.fieldLink RX5 20 "CommunityLevelsModel" "between" "[J", Cond.fieldLink RX5 13 "CommunityLevelsModel" "weight" "[I", Cond.methodLink RX5 105 yX5_prepare, Cond.instanceMethod yX5_prepare, Cond.selects RX5 yX5_prepare yX5_prepare, Cond.code yX5_prepare cX5_prepare 2 none]
def wsX5_gain_r2 : List Cond := [Cond.fieldLink RX5 76 "CommunityLevelsModel" "whole" "J", Cond.fieldLink RX5 45 "CommunityLevelsModel" "degrees" "[J", Cond.methodLink RX5 73 yX5_sum, Cond.instanceMethod yX5_sum, Cond.selects RX5 yX5_sum yX5_sum, Cond.code yX5_sum cX5_sum 5 (some .long), Cond.methodLink RX5 80 yX5_degree, Cond.instanceMethod yX5_degree, Cond.selects RX5 yX5_degree yX5_degree, Cond.code yX5_degree cX5_degree 5 (some .long), Cond.methodLink RX5 92 yX5_gainOf, Cond.instanceMethod yX5_gainOf, Cond.selects RX5 yX5_gainOf yX5_gainOf, Cond.code yX5_gainOf cX5_gainOf 12 (some .long), Cond.constantLong RX5 84 (4), Cond.constantLong RX5 86 (2)]
def wsX5_gain : List Cond := .code yX5_gain cX5_gain 3 (some .long) :: ((wsX5_gain_r1 ++ wsX5_gain_r2) ++ wsX50)
def wsX5_about : List Cond := .code yX5_about cX5_about 3 (some .int) :: ([.fieldLink RX5 48 "CommunityLevelsModel" "thrown" "I", .fieldLink RX5 7 "CommunityLevelsModel" "n" "I", .fieldLink RX5 13 "CommunityLevelsModel" "weight" "[I", .fieldLink RX5 17 "CommunityLevelsModel" "own" "[I", .methodLink RX5 60 yX5_noNode, .instanceMethod yX5_noNode, .selects RX5 yX5_noNode yX5_noNode, .initialized RX5, .code yX5_noNode cX5_noNode 2 (some .boolean), .methodLink RX5 102 yX5_first, .instanceMethod yX5_first, .selects RX5 yX5_first yX5_first, .code yX5_first cX5_first 3 none, .fieldLink RX5 70 "CommunityLevelsModel" "many" "I", .fieldLink RX5 20 "CommunityLevelsModel" "between" "[J", .methodLink RX5 73 yX5_sum, .instanceMethod yX5_sum, .selects RX5 yX5_sum yX5_sum, .code yX5_sum cX5_sum 5 (some .long), .methodLink RX5 80 yX5_degree, .instanceMethod yX5_degree, .selects RX5 yX5_degree yX5_degree, .code yX5_degree cX5_degree 5 (some .long)] ++ wsX50)
def wsL_nodes_r1 : List Cond := [Cond.classLink RL 13 "java/lang/IllegalArgumentException", Cond.methodLink RL 7 yX4_nodes, Cond.instanceMethod yX4_nodes, Cond.selects RX4 yX4_nodes yX4_nodes, Cond.initialized RX4, Cond.code yX4_nodes cX4_nodes 2 none, Cond.classLink RX4 47 "java/lang/IllegalArgumentException", Cond.initialized "java/lang/IllegalArgumentException", Cond.fieldLink RX4 10 "CommunityLevels" "told" "LCommunityLevels$Graph;", Cond.fieldLink RX4 19 "CommunityLevels" "mine" "LCommunityLevels$Groups;", Cond.methodLink RX4 54 yX0_empty, Cond.instanceMethod yX0_empty, Cond.selects RX0 yX0_empty yX0_empty, Cond.initialized RX0, Cond.code yX0_empty cX0_empty 2 none, Cond.fieldLink RX0 9 "CommunityLevels$Graph" "weight" "[I", Cond.fieldLink RX0 15 "CommunityLevels$Graph" "degree" "[I", Cond.fieldLink RX0 18 "CommunityLevels$Graph" "size" "I", Cond.fieldLink RX0 22 "CommunityLevels$Graph" "total" "I", Cond.methodLink RX0 25 yJ7_fill_53178, Cond.static yJ7_fill_53178, Cond.initialized RJ7, Cond.code yJ7_fill_53178 cJ7_fill_53178 4 none, Cond.methodLink RX4 58 yX1_separate]
def wsL_nodes_r2 : List Cond := [Cond.instanceMethod yX1_separate, Cond.selects RX1 yX1_separate yX1_separate, Cond.initialized RX1, Cond.code yX1_separate cX1_separate 3 none, Cond.fieldLink RX1 9 "CommunityLevels$Groups" "home" "[I", Cond.methodLink RX4 61 yX4_forgetRun, Cond.instanceMethod yX4_forgetRun, Cond.selects RX4 yX4_forgetRun yX4_forgetRun, Cond.code yX4_forgetRun cX4_forgetRun 1 none, Cond.fieldLink RX4 26 "CommunityLevels" "table" "LCommunityLevels$LevelTable;", Cond.fieldLink RX4 85 "CommunityLevels$LevelTable" "size" "I", Cond.fieldLink RX4 33 "CommunityLevels" "log" "LCommunityLevels$MoveLog;", Cond.fieldLink RX4 107 "CommunityLevels$MoveLog" "size" "I"]
def wsL_nodes : List Cond := .codeWith yL_nodes cL_nodes 3 (some .int) [(0, 5, 8, 13)] :: ((wsL_nodes_r1 ++ wsL_nodes_r2) ++ wsX40 ++ wsX00 ++ wsX10 ++ wsX20 ++ wsX30 ++ (vx_atS RX4 51 "java/lang/IllegalArgumentException" ["java/lang/RuntimeException", "java/lang/Exception"]).filter goodWord)
def wsL_weigh_r1 : List Cond := [Cond.classLink RL 19 "java/lang/IndexOutOfBoundsException", Cond.classLink RL 13 "java/lang/IllegalArgumentException", Cond.methodLink RL 15 yX4_weigh, Cond.instanceMethod yX4_weigh, Cond.selects RX4 yX4_weigh yX4_weigh, Cond.initialized RX4, Cond.code yX4_weigh cX4_weigh 5 (some .int), Cond.classLink RX4 47 "java/lang/IllegalArgumentException", Cond.initialized "java/lang/IllegalArgumentException", Cond.fieldLink RX4 10 "CommunityLevels" "told" "LCommunityLevels$Graph;", Cond.fieldLink RX4 73 "CommunityLevels$Graph" "total" "I", Cond.constantLong RX4 77 (536870912), Cond.methodLink RX4 64 yX4_requireNode, Cond.instanceMethod yX4_requireNode, Cond.selects RX4 yX4_requireNode yX4_requireNode, Cond.code yX4_requireNode cX4_requireNode 2 none, Cond.classLink RX4 144 "java/lang/IndexOutOfBoundsException", Cond.initialized "java/lang/IndexOutOfBoundsException", Cond.fieldLink RX4 121 "CommunityLevels$Graph" "size" "I", Cond.methodLink RX4 69 yX0_between, Cond.instanceMethod yX0_between, Cond.selects RX0 yX0_between yX0_between, Cond.initialized RX0, Cond.code yX0_between cX0_between 3 (some .int)]
def wsL_weigh_r2 : List Cond := [Cond.fieldLink RX0 9 "CommunityLevels$Graph" "weight" "[I", Cond.methodLink RX4 81 yX0_add, Cond.instanceMethod yX0_add, Cond.selects RX0 yX0_add yX0_add, Cond.code yX0_add cX0_add 4 none, Cond.fieldLink RX0 15 "CommunityLevels$Graph" "degree" "[I", Cond.fieldLink RX0 22 "CommunityLevels$Graph" "total" "I", Cond.methodLink RX4 61 yX4_forgetRun, Cond.instanceMethod yX4_forgetRun, Cond.selects RX4 yX4_forgetRun yX4_forgetRun, Cond.code yX4_forgetRun cX4_forgetRun 1 none, Cond.fieldLink RX4 26 "CommunityLevels" "table" "LCommunityLevels$LevelTable;", Cond.fieldLink RX4 85 "CommunityLevels$LevelTable" "size" "I", Cond.fieldLink RX4 33 "CommunityLevels" "log" "LCommunityLevels$MoveLog;", Cond.fieldLink RX4 107 "CommunityLevels$MoveLog" "size" "I"]
def wsL_weigh : List Cond := .codeWith yL_weigh cL_weigh 6 (some .int) [(0, 12, 15, 19), (0, 12, 19, 13)] :: ((wsL_weigh_r1 ++ wsL_weigh_r2) ++ wsX40 ++ wsX00 ++ wsX20 ++ wsX30 ++ (vx_atS RX4 51 "java/lang/IllegalArgumentException" ["java/lang/RuntimeException", "java/lang/Exception"]).filter goodWord ++ (vx_atS RX4 148 "java/lang/IndexOutOfBoundsException" ["java/lang/RuntimeException", "java/lang/Exception"]).filter goodWord)
def wsL_level : List Cond := .codeWith yL_level cL_level 5 (some .int) [(0, 10, 13, 19)] :: ([.classLink RL 19 "java/lang/IndexOutOfBoundsException", .methodLink RL 21 yX4_level, .instanceMethod yX4_level, .selects RX4 yX4_level yX4_level, .initialized RX4, .code yX4_level cX4_level 3 (some .int), .fieldLink RX4 26 "CommunityLevels" "table" "LCommunityLevels$LevelTable;", .fieldLink RX4 97 "CommunityLevels$LevelTable" "facts" "[I", .methodLink RX4 91 yX4_requireLevel, .instanceMethod yX4_requireLevel, .selects RX4 yX4_requireLevel yX4_requireLevel, .code yX4_requireLevel cX4_requireLevel 2 none, .classLink RX4 144 "java/lang/IndexOutOfBoundsException", .initialized "java/lang/IndexOutOfBoundsException", .fieldLink RX4 85 "CommunityLevels$LevelTable" "size" "I", .methodLink RX4 94 yX4_requireFact, .instanceMethod yX4_requireFact, .selects RX4 yX4_requireFact yX4_requireFact, .code yX4_requireFact cX4_requireFact 2 none] ++ wsX40 ++ wsX20 ++ (vx_atS RX4 148 "java/lang/IndexOutOfBoundsException" ["java/lang/RuntimeException", "java/lang/Exception"]).filter goodWord)
def wsL_community : List Cond := .codeWith yL_community cL_community 5 (some .int) [(0, 10, 13, 19)] :: ([.classLink RL 19 "java/lang/IndexOutOfBoundsException", .methodLink RL 25 yX4_community, .instanceMethod yX4_community, .selects RX4 yX4_community yX4_community, .initialized RX4, .code yX4_community cX4_community 3 (some .int), .fieldLink RX4 26 "CommunityLevels" "table" "LCommunityLevels$LevelTable;", .fieldLink RX4 100 "CommunityLevels$LevelTable" "homes" "[I", .methodLink RX4 91 yX4_requireLevel, .instanceMethod yX4_requireLevel, .selects RX4 yX4_requireLevel yX4_requireLevel, .code yX4_requireLevel cX4_requireLevel 2 none, .classLink RX4 144 "java/lang/IndexOutOfBoundsException", .initialized "java/lang/IndexOutOfBoundsException", .fieldLink RX4 85 "CommunityLevels$LevelTable" "size" "I", .methodLink RX4 64 yX4_requireNode, .instanceMethod yX4_requireNode, .selects RX4 yX4_requireNode yX4_requireNode, .code yX4_requireNode cX4_requireNode 2 none, .fieldLink RX4 10 "CommunityLevels" "told" "LCommunityLevels$Graph;", .fieldLink RX4 121 "CommunityLevels$Graph" "size" "I"] ++ wsX40 ++ wsX20 ++ wsX00 ++ (vx_atS RX4 148 "java/lang/IndexOutOfBoundsException" ["java/lang/RuntimeException", "java/lang/Exception"]).filter goodWord)
def wsL_modularity : List Cond := .codeWith yL_modularity cL_modularity 4 (some .int) [(0, 8, 11, 19)] :: ([.classLink RL 19 "java/lang/IndexOutOfBoundsException", .methodLink RL 28 yX4_modularity, .instanceMethod yX4_modularity, .selects RX4 yX4_modularity yX4_modularity, .initialized RX4, .code yX4_modularity cX4_modularity 2 (some .long), .fieldLink RX4 26 "CommunityLevels" "table" "LCommunityLevels$LevelTable;", .fieldLink RX4 103 "CommunityLevels$LevelTable" "scores" "[J", .methodLink RX4 91 yX4_requireLevel, .instanceMethod yX4_requireLevel, .selects RX4 yX4_requireLevel yX4_requireLevel, .code yX4_requireLevel cX4_requireLevel 2 none, .classLink RX4 144 "java/lang/IndexOutOfBoundsException", .initialized "java/lang/IndexOutOfBoundsException", .fieldLink RX4 85 "CommunityLevels$LevelTable" "size" "I"] ++ wsX40 ++ wsX20 ++ (vx_atS RX4 148 "java/lang/IndexOutOfBoundsException" ["java/lang/RuntimeException", "java/lang/Exception"]).filter goodWord)
def wsL_move : List Cond := .codeWith yL_move cL_move 5 (some .int) [(0, 10, 13, 19)] :: ([.classLink RL 19 "java/lang/IndexOutOfBoundsException", .methodLink RL 32 yX4_move, .instanceMethod yX4_move, .selects RX4 yX4_move yX4_move, .initialized RX4, .code yX4_move cX4_move 3 (some .int), .fieldLink RX4 33 "CommunityLevels" "log" "LCommunityLevels$MoveLog;", .fieldLink RX4 111 "CommunityLevels$MoveLog" "facts" "[I", .methodLink RX4 108 yX4_requireTold, .instanceMethod yX4_requireTold, .selects RX4 yX4_requireTold yX4_requireTold, .code yX4_requireTold cX4_requireTold 2 none, .classLink RX4 144 "java/lang/IndexOutOfBoundsException", .initialized "java/lang/IndexOutOfBoundsException", .fieldLink RX4 107 "CommunityLevels$MoveLog" "size" "I", .methodLink RX4 94 yX4_requireFact, .instanceMethod yX4_requireFact, .selects RX4 yX4_requireFact yX4_requireFact, .code yX4_requireFact cX4_requireFact 2 none] ++ wsX40 ++ wsX30 ++ (vx_atS RX4 148 "java/lang/IndexOutOfBoundsException" ["java/lang/RuntimeException", "java/lang/Exception"]).filter goodWord)
def wsL_gained : List Cond := .codeWith yL_gained cL_gained 4 (some .int) [(0, 8, 11, 19)] :: ([.classLink RL 19 "java/lang/IndexOutOfBoundsException", .methodLink RL 35 yX4_gained, .instanceMethod yX4_gained, .selects RX4 yX4_gained yX4_gained, .initialized RX4, .code yX4_gained cX4_gained 2 (some .long), .fieldLink RX4 33 "CommunityLevels" "log" "LCommunityLevels$MoveLog;", .fieldLink RX4 112 "CommunityLevels$MoveLog" "gains" "[J", .methodLink RX4 108 yX4_requireTold, .instanceMethod yX4_requireTold, .selects RX4 yX4_requireTold yX4_requireTold, .code yX4_requireTold cX4_requireTold 2 none, .classLink RX4 144 "java/lang/IndexOutOfBoundsException", .initialized "java/lang/IndexOutOfBoundsException", .fieldLink RX4 107 "CommunityLevels$MoveLog" "size" "I"] ++ wsX40 ++ wsX30 ++ (vx_atS RX4 148 "java/lang/IndexOutOfBoundsException" ["java/lang/RuntimeException", "java/lang/Exception"]).filter goodWord)
def wsL_place : List Cond := .codeWith yL_place cL_place 5 (some .int) [(0, 10, 13, 19)] :: ([.classLink RL 19 "java/lang/IndexOutOfBoundsException", .methodLink RL 38 yX4_place, .instanceMethod yX4_place, .selects RX4 yX4_place yX4_place, .initialized RX4, .code yX4_place cX4_place 4 (some .int), .fieldLink RX4 19 "CommunityLevels" "mine" "LCommunityLevels$Groups;", .fieldLink RX4 118 "CommunityLevels$Groups" "home" "[I", .methodLink RX4 64 yX4_requireNode, .instanceMethod yX4_requireNode, .selects RX4 yX4_requireNode yX4_requireNode, .code yX4_requireNode cX4_requireNode 2 none, .classLink RX4 144 "java/lang/IndexOutOfBoundsException", .initialized "java/lang/IndexOutOfBoundsException", .fieldLink RX4 10 "CommunityLevels" "told" "LCommunityLevels$Graph;", .fieldLink RX4 121 "CommunityLevels$Graph" "size" "I", .methodLink RX4 115 yX4_requireCommunity, .instanceMethod yX4_requireCommunity, .selects RX4 yX4_requireCommunity yX4_requireCommunity, .code yX4_requireCommunity cX4_requireCommunity 2 none] ++ wsX40 ++ wsX10 ++ wsX00 ++ (vx_atS RX4 148 "java/lang/IndexOutOfBoundsException" ["java/lang/RuntimeException", "java/lang/Exception"]).filter goodWord)
def wsL_take : List Cond := .codeWith yL_take cL_take 3 (some .int) [(0, 5, 8, 19)] :: ([.classLink RL 19 "java/lang/IndexOutOfBoundsException", .methodLink RL 41 yX4_take, .instanceMethod yX4_take, .selects RX4 yX4_take yX4_take, .initialized RX4, .code yX4_take cX4_take 2 none, .fieldLink RX4 26 "CommunityLevels" "table" "LCommunityLevels$LevelTable;", .fieldLink RX4 100 "CommunityLevels$LevelTable" "homes" "[I", .fieldLink RX4 19 "CommunityLevels" "mine" "LCommunityLevels$Groups;", .fieldLink RX4 118 "CommunityLevels$Groups" "home" "[I", .fieldLink RX4 10 "CommunityLevels" "told" "LCommunityLevels$Graph;", .fieldLink RX4 121 "CommunityLevels$Graph" "size" "I", .methodLink RX4 122 arraycopyName, .native arraycopyName, .static arraycopyName, .initialized "java/lang/System", .methodLink RX4 91 yX4_requireLevel, .instanceMethod yX4_requireLevel, .selects RX4 yX4_requireLevel yX4_requireLevel, .code yX4_requireLevel cX4_requireLevel 2 none, .classLink RX4 144 "java/lang/IndexOutOfBoundsException", .initialized "java/lang/IndexOutOfBoundsException", .fieldLink RX4 85 "CommunityLevels$LevelTable" "size" "I"] ++ wsX40 ++ wsX20 ++ wsX10 ++ wsX00 ++ (vx_atS RX4 148 "java/lang/IndexOutOfBoundsException" ["java/lang/RuntimeException", "java/lang/Exception"]).filter goodWord)
def wsL_gain_r1 : List Cond := [Cond.classLink RL 19 "java/lang/IndexOutOfBoundsException", Cond.methodLink RL 44 yX4_gain, Cond.instanceMethod yX4_gain, Cond.selects RX4 yX4_gain yX4_gain, Cond.initialized RX4, Cond.code yX4_gain cX4_gain 3 (some .long), Cond.fieldLink RX4 19 "CommunityLevels" "mine" "LCommunityLevels$Groups;", Cond.fieldLink RX4 10 "CommunityLevels" "told" "LCommunityLevels$Graph;", Cond.methodLink RX4 64 yX4_requireNode, Cond.instanceMethod yX4_requireNode, Cond.selects RX4 yX4_requireNode yX4_requireNode, Cond.code yX4_requireNode cX4_requireNode 2 none, Cond.classLink RX4 144 "java/lang/IndexOutOfBoundsException", Cond.initialized "java/lang/IndexOutOfBoundsException", Cond.fieldLink RX4 121 "CommunityLevels$Graph" "size" "I", Cond.methodLink RX4 115 yX4_requireCommunity, Cond.instanceMethod yX4_requireCommunity, Cond.selects RX4 yX4_requireCommunity yX4_requireCommunity, Cond.code yX4_requireCommunity cX4_requireCommunity 2 none, Cond.methodLink RX4 128 yX1_tally, Cond.instanceMethod yX1_tally, Cond.selects RX1 yX1_tally yX1_tally, Cond.initialized RX1, Cond.code yX1_tally cX1_tally 3 none]
def wsL_gain_r2 : List Cond := [Cond.fieldLink RX1 15 "CommunityLevels$Groups" "count" "[I", Cond.fieldLink RX1 18 "CommunityLevels$Groups" "degree" "[I", Cond.fieldLink RX1 33 "CommunityLevels$Graph" "size" "I", Cond.fieldLink RX1 9 "CommunityLevels$Groups" "home" "[I", Cond.fieldLink RX1 39 "CommunityLevels$Graph" "degree" "[I", Cond.methodLink RX1 27 yJ7_fill_53178, Cond.static yJ7_fill_53178, Cond.initialized RJ7, Cond.code yJ7_fill_53178 cJ7_fill_53178 4 none, Cond.methodLink RX4 136 yX1_tie, Cond.instanceMethod yX1_tie, Cond.selects RX1 yX1_tie yX1_tie, Cond.code yX1_tie cX1_tie 4 none, Cond.fieldLink RX1 21 "CommunityLevels$Groups" "link" "[I", Cond.methodLink RX1 40 yX0_between, Cond.instanceMethod yX0_between, Cond.selects RX0 yX0_between yX0_between, Cond.initialized RX0, Cond.code yX0_between cX0_between 3 (some .int), Cond.fieldLink RX0 9 "CommunityLevels$Graph" "weight" "[I", Cond.methodLink RX4 140 yX1_gainInto, Cond.instanceMethod yX1_gainInto, Cond.selects RX1 yX1_gainInto yX1_gainInto, Cond.code yX1_gainInto cX1_gainInto 11 (some .long)]
def wsL_gain_r3 : List Cond := [Cond.constantLong RX1 44 (4), Cond.fieldLink RX1 46 "CommunityLevels$Graph" "total" "I", Cond.constantLong RX1 49 (2)]
def wsL_gain : List Cond := .codeWith yL_gain cL_gain 5 (some .int) [(0, 9, 12, 19)] :: ((wsL_gain_r1 ++ (wsL_gain_r2 ++ wsL_gain_r3)) ++ wsX40 ++ wsX00 ++ wsX10 ++ (vx_atS RX4 148 "java/lang/IndexOutOfBoundsException" ["java/lang/RuntimeException", "java/lang/Exception"]).filter goodWord)
def wsL_about : List Cond := .codeWith yL_about cL_about 5 (some .int) [(0, 10, 13, 19)] :: ([.classLink RL 19 "java/lang/IndexOutOfBoundsException", .methodLink RL 48 yX4_about, .instanceMethod yX4_about, .selects RX4 yX4_about yX4_about, .initialized RX4, .code yX4_about cX4_about 3 (some .int), .classLink RX4 144 "java/lang/IndexOutOfBoundsException", .initialized "java/lang/IndexOutOfBoundsException", .fieldLink RX4 10 "CommunityLevels" "told" "LCommunityLevels$Graph;", .fieldLink RX4 121 "CommunityLevels$Graph" "size" "I", .fieldLink RX4 73 "CommunityLevels$Graph" "total" "I", .fieldLink RX4 149 "CommunityLevels$Graph" "degree" "[I", .fieldLink RX4 19 "CommunityLevels" "mine" "LCommunityLevels$Groups;", .fieldLink RX4 118 "CommunityLevels$Groups" "home" "[I", .methodLink RX4 64 yX4_requireNode, .instanceMethod yX4_requireNode, .selects RX4 yX4_requireNode yX4_requireNode, .code yX4_requireNode cX4_requireNode 2 none, .methodLink RX4 69 yX0_between, .instanceMethod yX0_between, .selects RX0 yX0_between yX0_between, .initialized RX0, .code yX0_between cX0_between 3 (some .int), .fieldLink RX0 9 "CommunityLevels$Graph" "weight" "[I"] ++ wsX40 ++ wsX00 ++ wsX10 ++ (vx_atS RX4 148 "java/lang/IndexOutOfBoundsException" ["java/lang/RuntimeException", "java/lang/Exception"]).filter goodWord)
def wsL_law0_r1 : List Cond := [Cond.classLink RL 8 RX4, Cond.instantiable RX4 7, Cond.initialized RX4, Cond.classLink RL 52 RX5, Cond.instantiable RX5 17, Cond.initialized RX5, Cond.arrayClass .long, Cond.methodLink RL 51 yX4_init, Cond.instanceMethod yX4_init, Cond.code yX4_init cX4_init 1 none, Cond.methodLink RX4 1 objectInit, Cond.instanceMethod objectInit, Cond.code objectInit ⟨#[0xb1]⟩ 1 none, Cond.classLink RX4 7 RX0, Cond.instantiable RX0 4, Cond.initialized RX0, Cond.fieldLink RX4 10 "CommunityLevels" "told" "LCommunityLevels$Graph;", Cond.classLink RX4 16 RX1, Cond.instantiable RX1 5, Cond.initialized RX1, Cond.fieldLink RX4 19 "CommunityLevels" "mine" "LCommunityLevels$Groups;", Cond.classLink RX4 23 RX2, Cond.instantiable RX2 4, Cond.initialized RX2]
def wsL_law0_r2 : List Cond := [Cond.fieldLink RX4 26 "CommunityLevels" "table" "LCommunityLevels$LevelTable;", Cond.classLink RX4 30 RX3, Cond.instantiable RX3 3, Cond.initialized RX3, Cond.fieldLink RX4 33 "CommunityLevels" "log" "LCommunityLevels$MoveLog;", Cond.fieldLink RX4 37 "CommunityLevels" "graph" "LCommunityLevels$Graph;", Cond.fieldLink RX4 40 "CommunityLevels" "groups" "LCommunityLevels$Groups;", Cond.arrayClass .int, Cond.fieldLink RX4 43 "CommunityLevels" "within" "[I", Cond.methodLink RX4 9 yX0_init, Cond.instanceMethod yX0_init, Cond.code yX0_init cX0_init 1 none, Cond.methodLink RX0 3 objectInit, Cond.fieldLink RX0 9 "CommunityLevels$Graph" "weight" "[I", Cond.fieldLink RX0 15 "CommunityLevels$Graph" "degree" "[I", Cond.fieldLink RX0 18 "CommunityLevels$Graph" "size" "I", Cond.fieldLink RX0 22 "CommunityLevels$Graph" "total" "I", Cond.methodLink RX4 18 yX1_init, Cond.instanceMethod yX1_init, Cond.code yX1_init cX1_init 1 none, Cond.methodLink RX1 3 objectInit, Cond.fieldLink RX1 9 "CommunityLevels$Groups" "home" "[I", Cond.fieldLink RX1 15 "CommunityLevels$Groups" "count" "[I", Cond.fieldLink RX1 18 "CommunityLevels$Groups" "degree" "[I"]
def wsL_law0_r3 : List Cond := [Cond.fieldLink RX1 21 "CommunityLevels$Groups" "link" "[I", Cond.fieldLink RX1 24 "CommunityLevels$Groups" "number" "[I", Cond.methodLink RX4 25 yX2_init, Cond.instanceMethod yX2_init, Cond.code yX2_init cX2_init 1 none, Cond.methodLink RX2 3 objectInit, Cond.fieldLink RX2 9 "CommunityLevels$LevelTable" "facts" "[I", Cond.fieldLink RX2 15 "CommunityLevels$LevelTable" "homes" "[I", Cond.fieldLink RX2 18 "CommunityLevels$LevelTable" "scores" "[J", Cond.fieldLink RX2 22 "CommunityLevels$LevelTable" "size" "I", Cond.methodLink RX4 32 yX3_init, Cond.instanceMethod yX3_init, Cond.code yX3_init cX3_init 1 none, Cond.methodLink RX3 3 objectInit, Cond.fieldLink RX3 9 "CommunityLevels$MoveLog" "facts" "[I", Cond.fieldLink RX3 15 "CommunityLevels$MoveLog" "gains" "[J", Cond.fieldLink RX3 19 "CommunityLevels$MoveLog" "size" "I", Cond.methodLink RL 54 yX5_init, Cond.instanceMethod yX5_init, Cond.code yX5_init cX5_init 1 none, Cond.methodLink RX5 1 objectInit, Cond.fieldLink RX5 7 "CommunityLevelsModel" "n" "I", Cond.fieldLink RX5 13 "CommunityLevelsModel" "weight" "[I", Cond.fieldLink RX5 17 "CommunityLevelsModel" "own" "[I"]
def wsL_law0_r4 : List Cond := [Cond.fieldLink RX5 20 "CommunityLevelsModel" "between" "[J", Cond.fieldLink RX5 24 "CommunityLevelsModel" "community" "[I", Cond.fieldLink RX5 27 "CommunityLevelsModel" "fresh" "[J", Cond.fieldLink RX5 30 "CommunityLevelsModel" "told" "[I", Cond.fieldLink RX5 33 "CommunityLevelsModel" "reached" "[J", Cond.fieldLink RX5 36 "CommunityLevelsModel" "placed" "[I", Cond.fieldLink RX5 39 "CommunityLevelsModel" "moved" "[I", Cond.fieldLink RX5 42 "CommunityLevelsModel" "gained" "[J", Cond.fieldLink RX5 45 "CommunityLevelsModel" "degrees" "[J", Cond.methodLink RL 55 yL_nodes, Cond.static yL_nodes, Cond.initialized RL, Cond.codeWith yL_nodes cL_nodes 3 (some .int) [(0, 5, 8, 13)], Cond.classLink RL 13 "java/lang/IllegalArgumentException", Cond.methodLink RL 7 yX4_nodes, Cond.instanceMethod yX4_nodes, Cond.selects RX4 yX4_nodes yX4_nodes, Cond.code yX4_nodes cX4_nodes 2 none, Cond.classLink RX4 47 "java/lang/IllegalArgumentException", Cond.initialized "java/lang/IllegalArgumentException", Cond.methodLink RX4 54 yX0_empty, Cond.instanceMethod yX0_empty, Cond.selects RX0 yX0_empty yX0_empty, Cond.code yX0_empty cX0_empty 2 none]
def wsL_law0_r5 : List Cond := [Cond.methodLink RX0 25 yJ7_fill_53178, Cond.static yJ7_fill_53178, Cond.initialized RJ7, Cond.code yJ7_fill_53178 cJ7_fill_53178 4 none, Cond.methodLink RX4 58 yX1_separate, Cond.instanceMethod yX1_separate, Cond.selects RX1 yX1_separate yX1_separate, Cond.code yX1_separate cX1_separate 3 none, Cond.methodLink RX4 61 yX4_forgetRun, Cond.instanceMethod yX4_forgetRun, Cond.selects RX4 yX4_forgetRun yX4_forgetRun, Cond.code yX4_forgetRun cX4_forgetRun 1 none, Cond.fieldLink RX4 85 "CommunityLevels$LevelTable" "size" "I", Cond.fieldLink RX4 107 "CommunityLevels$MoveLog" "size" "I", Cond.methodLink RL 60 yX5_nodes, Cond.instanceMethod yX5_nodes, Cond.selects RX5 yX5_nodes yX5_nodes, Cond.code yX5_nodes cX5_nodes 3 none, Cond.fieldLink RX5 48 "CommunityLevelsModel" "thrown" "I", Cond.methodLink RX5 57 yX5_forget, Cond.instanceMethod yX5_forget, Cond.selects RX5 yX5_forget yX5_forget, Cond.code yX5_forget cX5_forget 1 none, Cond.fieldLink RX5 51 "CommunityLevelsModel" "levels" "I"]
def wsL_law0_r6 : List Cond := [Cond.fieldLink RX5 54 "CommunityLevelsModel" "moves" "I", Cond.methodLink RL 61 yX5_thrown, Cond.instanceMethod yX5_thrown, Cond.selects RX5 yX5_thrown yX5_thrown, Cond.code yX5_thrown cX5_thrown 1 (some .int), Cond.methodLink RL 65 yL_weigh, Cond.static yL_weigh, Cond.codeWith yL_weigh cL_weigh 6 (some .int) [(0, 12, 15, 19), (0, 12, 19, 13)], Cond.classLink RL 19 "java/lang/IndexOutOfBoundsException", Cond.methodLink RL 15 yX4_weigh, Cond.instanceMethod yX4_weigh, Cond.selects RX4 yX4_weigh yX4_weigh, Cond.code yX4_weigh cX4_weigh 5 (some .int), Cond.fieldLink RX4 73 "CommunityLevels$Graph" "total" "I", Cond.constantLong RX4 77 (536870912), Cond.methodLink RX4 64 yX4_requireNode, Cond.instanceMethod yX4_requireNode, Cond.selects RX4 yX4_requireNode yX4_requireNode, Cond.code yX4_requireNode cX4_requireNode 2 none, Cond.classLink RX4 144 "java/lang/IndexOutOfBoundsException", Cond.initialized "java/lang/IndexOutOfBoundsException", Cond.fieldLink RX4 121 "CommunityLevels$Graph" "size" "I", Cond.methodLink RX4 69 yX0_between, Cond.instanceMethod yX0_between]
def wsL_law0_r7 : List Cond := [Cond.selects RX0 yX0_between yX0_between, Cond.code yX0_between cX0_between 3 (some .int), Cond.methodLink RX4 81 yX0_add, Cond.instanceMethod yX0_add, Cond.selects RX0 yX0_add yX0_add, Cond.code yX0_add cX0_add 4 none, Cond.methodLink RL 68 yX5_weigh, Cond.instanceMethod yX5_weigh, Cond.selects RX5 yX5_weigh yX5_weigh, Cond.code yX5_weigh cX5_weigh 5 (some .int), Cond.constantLong RX5 68 (536870912), Cond.methodLink RX5 60 yX5_noNode, Cond.instanceMethod yX5_noNode, Cond.selects RX5 yX5_noNode yX5_noNode, Cond.code yX5_noNode cX5_noNode 2 (some .boolean), Cond.methodLink RX5 64 yX5_all, Cond.instanceMethod yX5_all, Cond.selects RX5 yX5_all yX5_all, Cond.code yX5_all cX5_all 5 (some .long), Cond.methodLink RL 69 yX4_run, Cond.instanceMethod yX4_run, Cond.selects RX4 yX4_run yX4_run, Cond.code yX4_run cX4_run 1 (some .int), Cond.methodLink RX4 88 yX4_makeLevels]
def wsL_law0_r8 : List Cond := [Cond.instanceMethod yX4_makeLevels, Cond.selects RX4 yX4_makeLevels yX4_makeLevels, Cond.code yX4_makeLevels cX4_makeLevels 3 none, Cond.methodLink RX4 162 yX0_contract, Cond.instanceMethod yX0_contract, Cond.selects RX0 yX0_contract yX0_contract, Cond.code yX0_contract cX0_contract 7 none, Cond.methodLink RX0 31 yX0_empty, Cond.methodLink RX0 35 yX0_between, Cond.methodLink RX0 39 yX0_add, Cond.methodLink RX4 166 yX4_makeLevel, Cond.instanceMethod yX4_makeLevel, Cond.selects RX4 yX4_makeLevel yX4_makeLevel, Cond.code yX4_makeLevel cX4_makeLevel 10 (some .boolean), Cond.constant RX4 170 (1000000), Cond.fieldLink RX4 118 "CommunityLevels$Groups" "home" "[I", Cond.methodLink RX4 128 yX1_tally, Cond.instanceMethod yX1_tally, Cond.selects RX1 yX1_tally yX1_tally, Cond.code yX1_tally cX1_tally 3 none, Cond.fieldLink RX1 33 "CommunityLevels$Graph" "size" "I", Cond.fieldLink RX1 39 "CommunityLevels$Graph" "degree" "[I", Cond.methodLink RX1 27 yJ7_fill_53178, Cond.methodLink RX4 171 yX4_makePass]
def wsL_law0_r9 : List Cond := [Cond.instanceMethod yX4_makePass, Cond.selects RX4 yX4_makePass yX4_makePass, Cond.code yX4_makePass cX4_makePass 7 (some .boolean), Cond.methodLink RX4 136 yX1_tie, Cond.instanceMethod yX1_tie, Cond.selects RX1 yX1_tie yX1_tie, Cond.code yX1_tie cX1_tie 4 none, Cond.methodLink RX1 40 yX0_between, Cond.methodLink RX4 182 yX1_choose, Cond.instanceMethod yX1_choose, Cond.selects RX1 yX1_choose yX1_choose, Cond.code yX1_choose cX1_choose 10 (some .int), Cond.methodLink RX1 51 yX1_gainInto, Cond.instanceMethod yX1_gainInto, Cond.selects RX1 yX1_gainInto yX1_gainInto, Cond.code yX1_gainInto cX1_gainInto 11 (some .long), Cond.constantLong RX1 44 (4), Cond.fieldLink RX1 46 "CommunityLevels$Graph" "total" "I", Cond.constantLong RX1 49 (2), Cond.methodLink RX1 55 yX1_leastFree, Cond.instanceMethod yX1_leastFree, Cond.selects RX1 yX1_leastFree yX1_leastFree, Cond.code yX1_leastFree cX1_leastFree 3 (some .int), Cond.methodLink RX4 140 yX1_gainInto]
def wsL_law0_r10 : List Cond := [Cond.methodLink RX4 186 yX3_append, Cond.instanceMethod yX3_append, Cond.selects RX3 yX3_append yX3_append, Cond.code yX3_append cX3_append 7 none, Cond.methodLink RX4 189 yX1_shift, Cond.instanceMethod yX1_shift, Cond.selects RX1 yX1_shift yX1_shift, Cond.code yX1_shift cX1_shift 5 none, Cond.methodLink RX4 132 yX1_score, Cond.instanceMethod yX1_score, Cond.selects RX1 yX1_score yX1_score, Cond.code yX1_score cX1_score 7 (some .long), Cond.methodLink RX4 174 yX1_renumber, Cond.instanceMethod yX1_renumber, Cond.selects RX1 yX1_renumber yX1_renumber, Cond.code yX1_renumber cX1_renumber 5 (some .int), Cond.methodLink RX4 178 yX2_append, Cond.instanceMethod yX2_append, Cond.selects RX2 yX2_append yX2_append, Cond.code yX2_append cX2_append 8 none, Cond.methodLink RX2 26 arraycopyName, Cond.native arraycopyName, Cond.static arraycopyName, Cond.initialized "java/lang/System"]
def wsL_law0_r11 : List Cond := [Cond.methodLink RL 72 yX5_run, Cond.instanceMethod yX5_run, Cond.selects RX5 yX5_run yX5_run, Cond.code yX5_run cX5_run 8 (some .int), Cond.fieldLink RX5 70 "CommunityLevelsModel" "many" "I", Cond.methodLink RX5 102 yX5_first, Cond.instanceMethod yX5_first, Cond.selects RX5 yX5_first yX5_first, Cond.code yX5_first cX5_first 3 none, Cond.methodLink RX5 105 yX5_prepare, Cond.instanceMethod yX5_prepare, Cond.selects RX5 yX5_prepare yX5_prepare, Cond.code yX5_prepare cX5_prepare 2 none, Cond.fieldLink RX5 76 "CommunityLevelsModel" "whole" "J", Cond.methodLink RX5 73 yX5_sum, Cond.instanceMethod yX5_sum, Cond.selects RX5 yX5_sum yX5_sum, Cond.code yX5_sum cX5_sum 5 (some .long), Cond.methodLink RX5 80 yX5_degree, Cond.instanceMethod yX5_degree, Cond.selects RX5 yX5_degree yX5_degree, Cond.code yX5_degree cX5_degree 5 (some .long), Cond.methodLink RX5 108 yX5_come, Cond.instanceMethod yX5_come]
def wsL_law0_r12 : List Cond := [Cond.selects RX5 yX5_come yX5_come, Cond.code yX5_come cX5_come 8 (some .boolean), Cond.methodLink RX5 88 yX5_isNear, Cond.instanceMethod yX5_isNear, Cond.selects RX5 yX5_isNear yX5_isNear, Cond.code yX5_isNear cX5_isNear 5 (some .boolean), Cond.methodLink RX5 92 yX5_gainOf, Cond.instanceMethod yX5_gainOf, Cond.selects RX5 yX5_gainOf yX5_gainOf, Cond.code yX5_gainOf cX5_gainOf 12 (some .long), Cond.constantLong RX5 84 (4), Cond.constantLong RX5 86 (2), Cond.methodLink RX5 96 yX5_isAlone, Cond.instanceMethod yX5_isAlone, Cond.selects RX5 yX5_isAlone yX5_isAlone, Cond.code yX5_isAlone cX5_isAlone 4 (some .boolean), Cond.methodLink RX5 99 yX5_isEmpty, Cond.instanceMethod yX5_isEmpty, Cond.selects RX5 yX5_isEmpty yX5_isEmpty, Cond.code yX5_isEmpty cX5_isEmpty 4 (some .boolean), Cond.methodLink RX5 111 yX5_number, Cond.instanceMethod yX5_number, Cond.selects RX5 yX5_number yX5_number, Cond.code yX5_number cX5_number 5 (some .int)]
def wsL_law0_r13 : List Cond := [Cond.methodLink RX5 115 yX5_modularityNow, Cond.instanceMethod yX5_modularityNow, Cond.selects RX5 yX5_modularityNow yX5_modularityNow, Cond.code yX5_modularityNow cX5_modularityNow 10 (some .long), Cond.methodLink RX5 118 yX5_shrink, Cond.instanceMethod yX5_shrink, Cond.selects RX5 yX5_shrink yX5_shrink, Cond.code yX5_shrink cX5_shrink 6 none, Cond.methodLink RL 73 yX4_levels, Cond.instanceMethod yX4_levels, Cond.selects RX4 yX4_levels yX4_levels, Cond.code yX4_levels cX4_levels 1 (some .int), Cond.methodLink RL 76 yX5_levels, Cond.instanceMethod yX5_levels, Cond.selects RX5 yX5_levels yX5_levels, Cond.code yX5_levels cX5_levels 1 (some .int), Cond.methodLink RL 77 yL_level, Cond.static yL_level, Cond.codeWith yL_level cL_level 5 (some .int) [(0, 10, 13, 19)], Cond.methodLink RL 21 yX4_level, Cond.instanceMethod yX4_level, Cond.selects RX4 yX4_level yX4_level, Cond.code yX4_level cX4_level 3 (some .int), Cond.fieldLink RX4 97 "CommunityLevels$LevelTable" "facts" "[I"]
def wsL_law0_r14 : List Cond := [Cond.methodLink RX4 91 yX4_requireLevel, Cond.instanceMethod yX4_requireLevel, Cond.selects RX4 yX4_requireLevel yX4_requireLevel, Cond.code yX4_requireLevel cX4_requireLevel 2 none, Cond.methodLink RX4 94 yX4_requireFact, Cond.instanceMethod yX4_requireFact, Cond.selects RX4 yX4_requireFact yX4_requireFact, Cond.code yX4_requireFact cX4_requireFact 2 none, Cond.methodLink RL 80 yX5_level, Cond.instanceMethod yX5_level, Cond.selects RX5 yX5_level yX5_level, Cond.code yX5_level cX5_level 3 (some .int), Cond.methodLink RX5 122 yX5_noLevel, Cond.instanceMethod yX5_noLevel, Cond.selects RX5 yX5_noLevel yX5_noLevel, Cond.code yX5_noLevel cX5_noLevel 2 (some .boolean), Cond.methodLink RL 81 yL_community, Cond.static yL_community, Cond.codeWith yL_community cL_community 5 (some .int) [(0, 10, 13, 19)], Cond.methodLink RL 25 yX4_community, Cond.instanceMethod yX4_community, Cond.selects RX4 yX4_community yX4_community, Cond.code yX4_community cX4_community 3 (some .int), Cond.fieldLink RX4 100 "CommunityLevels$LevelTable" "homes" "[I"]
def wsL_law0_r15 : List Cond := [Cond.methodLink RL 83 yX5_community, Cond.instanceMethod yX5_community, Cond.selects RX5 yX5_community yX5_community, Cond.code yX5_community cX5_community 3 (some .int), Cond.methodLink RL 84 yL_modularity, Cond.static yL_modularity, Cond.codeWith yL_modularity cL_modularity 4 (some .int) [(0, 8, 11, 19)], Cond.methodLink RL 28 yX4_modularity, Cond.instanceMethod yX4_modularity, Cond.selects RX4 yX4_modularity yX4_modularity, Cond.code yX4_modularity cX4_modularity 2 (some .long), Cond.fieldLink RX4 103 "CommunityLevels$LevelTable" "scores" "[J", Cond.methodLink RL 87 yX5_modularity, Cond.instanceMethod yX5_modularity, Cond.selects RX5 yX5_modularity yX5_modularity, Cond.code yX5_modularity cX5_modularity 2 (some .long), Cond.methodLink RL 88 yX4_moves, Cond.instanceMethod yX4_moves, Cond.selects RX4 yX4_moves yX4_moves, Cond.code yX4_moves cX4_moves 1 (some .int), Cond.methodLink RL 91 yX5_moves, Cond.instanceMethod yX5_moves, Cond.selects RX5 yX5_moves yX5_moves, Cond.code yX5_moves cX5_moves 1 (some .int)]
def wsL_law0_r16 : List Cond := [Cond.methodLink RL 92 yL_move, Cond.static yL_move, Cond.codeWith yL_move cL_move 5 (some .int) [(0, 10, 13, 19)], Cond.methodLink RL 32 yX4_move, Cond.instanceMethod yX4_move, Cond.selects RX4 yX4_move yX4_move, Cond.code yX4_move cX4_move 3 (some .int), Cond.fieldLink RX4 111 "CommunityLevels$MoveLog" "facts" "[I", Cond.methodLink RX4 108 yX4_requireTold, Cond.instanceMethod yX4_requireTold, Cond.selects RX4 yX4_requireTold yX4_requireTold, Cond.code yX4_requireTold cX4_requireTold 2 none, Cond.methodLink RL 94 yX5_move, Cond.instanceMethod yX5_move, Cond.selects RX5 yX5_move yX5_move, Cond.code yX5_move cX5_move 3 (some .int), Cond.methodLink RX5 125 yX5_noMove, Cond.instanceMethod yX5_noMove, Cond.selects RX5 yX5_noMove yX5_noMove, Cond.code yX5_noMove cX5_noMove 2 (some .boolean), Cond.methodLink RL 95 yL_gained, Cond.static yL_gained, Cond.codeWith yL_gained cL_gained 4 (some .int) [(0, 8, 11, 19)], Cond.methodLink RL 35 yX4_gained]
def wsL_law0_r17 : List Cond := [Cond.instanceMethod yX4_gained, Cond.selects RX4 yX4_gained yX4_gained, Cond.code yX4_gained cX4_gained 2 (some .long), Cond.fieldLink RX4 112 "CommunityLevels$MoveLog" "gains" "[J", Cond.methodLink RL 97 yX5_gained, Cond.instanceMethod yX5_gained, Cond.selects RX5 yX5_gained yX5_gained, Cond.code yX5_gained cX5_gained 2 (some .long), Cond.methodLink RL 98 yL_place, Cond.static yL_place, Cond.codeWith yL_place cL_place 5 (some .int) [(0, 10, 13, 19)], Cond.methodLink RL 38 yX4_place, Cond.instanceMethod yX4_place, Cond.selects RX4 yX4_place yX4_place, Cond.code yX4_place cX4_place 4 (some .int), Cond.methodLink RX4 115 yX4_requireCommunity, Cond.instanceMethod yX4_requireCommunity, Cond.selects RX4 yX4_requireCommunity yX4_requireCommunity, Cond.code yX4_requireCommunity cX4_requireCommunity 2 none, Cond.methodLink RL 100 yX5_place, Cond.instanceMethod yX5_place, Cond.selects RX5 yX5_place yX5_place, Cond.code yX5_place cX5_place 4 (some .int), Cond.methodLink RL 101 yL_take]
def wsL_law0_r18 : List Cond := [Cond.static yL_take, Cond.codeWith yL_take cL_take 3 (some .int) [(0, 5, 8, 19)], Cond.methodLink RL 41 yX4_take, Cond.instanceMethod yX4_take, Cond.selects RX4 yX4_take yX4_take, Cond.code yX4_take cX4_take 2 none, Cond.methodLink RX4 122 arraycopyName, Cond.methodLink RL 103 yX5_take, Cond.instanceMethod yX5_take, Cond.selects RX5 yX5_take yX5_take, Cond.code yX5_take cX5_take 3 none, Cond.methodLink RL 104 yX4_own, Cond.instanceMethod yX4_own, Cond.selects RX4 yX4_own yX4_own, Cond.code yX4_own cX4_own 1 (some .long), Cond.methodLink RL 108 yX5_own, Cond.instanceMethod yX5_own, Cond.selects RX5 yX5_own yX5_own, Cond.code yX5_own cX5_own 1 (some .long), Cond.methodLink RX5 128 yX5_ownNow, Cond.instanceMethod yX5_ownNow, Cond.selects RX5 yX5_ownNow yX5_ownNow, Cond.code yX5_ownNow cX5_ownNow 2 none, Cond.methodLink RL 109 yL_gain]
def wsL_law0_r19 : List Cond := [Cond.static yL_gain, Cond.codeWith yL_gain cL_gain 5 (some .int) [(0, 9, 12, 19)], Cond.methodLink RL 44 yX4_gain, Cond.instanceMethod yX4_gain, Cond.selects RX4 yX4_gain yX4_gain, Cond.code yX4_gain cX4_gain 3 (some .long), Cond.methodLink RL 111 yX5_gain, Cond.instanceMethod yX5_gain, Cond.selects RX5 yX5_gain yX5_gain, Cond.code yX5_gain cX5_gain 3 (some .long), Cond.methodLink RL 112 yL_about, Cond.static yL_about, Cond.codeWith yL_about cL_about 5 (some .int) [(0, 10, 13, 19)], Cond.methodLink RL 48 yX4_about, Cond.instanceMethod yX4_about, Cond.selects RX4 yX4_about yX4_about, Cond.code yX4_about cX4_about 3 (some .int), Cond.fieldLink RX4 149 "CommunityLevels$Graph" "degree" "[I", Cond.methodLink RL 114 yX5_about, Cond.instanceMethod yX5_about, Cond.selects RX5 yX5_about yX5_about, Cond.code yX5_about cX5_about 3 (some .int)]
def wsL_law0 : List Cond := (wsL_law0_r1 ++ (wsL_law0_r2 ++ (wsL_law0_r3 ++ (wsL_law0_r4 ++ (wsL_law0_r5 ++ (wsL_law0_r6 ++ (wsL_law0_r7 ++ (wsL_law0_r8 ++ (wsL_law0_r9 ++ (wsL_law0_r10 ++ (wsL_law0_r11 ++ (wsL_law0_r12 ++ (wsL_law0_r13 ++ (wsL_law0_r14 ++ (wsL_law0_r15 ++ (wsL_law0_r16 ++ (wsL_law0_r17 ++ (wsL_law0_r18 ++ wsL_law0_r19)))))))))))))))))) ++ wsX40 ++ wsX50 ++ wsX00 ++ wsX10 ++ wsX20 ++ wsX30 ++ ([] : List Cond)
def wsL_law : List Cond := wsL_law0 ++ (vx_atS RX4 51 "java/lang/IllegalArgumentException" ["java/lang/RuntimeException", "java/lang/Exception"]).filter goodWord ++ (vx_atS RX4 148 "java/lang/IndexOutOfBoundsException" ["java/lang/RuntimeException", "java/lang/Exception"]).filter goodWord
end
section
set_option maxRecDepth 20000 in
theorem wsL_law_i1 : ∀ w ∈ wsL_law0_r1, w ∈ lw_tbl := by decide +kernel
set_option maxRecDepth 20000 in
theorem wsL_law_i2 : ∀ w ∈ wsL_law0_r2, w ∈ lw_tbl := by decide +kernel
set_option maxRecDepth 20000 in
theorem wsL_law_i3 : ∀ w ∈ wsL_law0_r3, w ∈ lw_tbl := by decide +kernel
set_option maxRecDepth 20000 in
theorem wsL_law_i4 : ∀ w ∈ wsL_law0_r4, w ∈ lw_tbl := by decide +kernel
end
section
set_option maxRecDepth 20000 in
theorem wsL_law_i5 : ∀ w ∈ wsL_law0_r5, w ∈ lw_tbl := by decide +kernel
set_option maxRecDepth 20000 in
theorem wsL_law_i6 : ∀ w ∈ wsL_law0_r6, w ∈ lw_tbl := by decide +kernel
set_option maxRecDepth 20000 in
theorem wsL_law_i7 : ∀ w ∈ wsL_law0_r7, w ∈ lw_tbl := by decide +kernel
set_option maxRecDepth 20000 in
theorem wsL_law_i8 : ∀ w ∈ wsL_law0_r8, w ∈ lw_tbl := by decide +kernel
end
section
set_option maxRecDepth 20000 in
theorem wsL_law_i9 : ∀ w ∈ wsL_law0_r9, w ∈ lw_tbl := by decide +kernel
set_option maxRecDepth 20000 in
theorem wsL_law_i10 : ∀ w ∈ wsL_law0_r10, w ∈ lw_tbl := by decide +kernel
set_option maxRecDepth 20000 in
theorem wsL_law_i11 : ∀ w ∈ wsL_law0_r11, w ∈ lw_tbl := by decide +kernel
set_option maxRecDepth 20000 in
theorem wsL_law_i12 : ∀ w ∈ wsL_law0_r12, w ∈ lw_tbl := by decide +kernel
end
section
set_option maxRecDepth 20000 in
theorem wsL_law_i13 : ∀ w ∈ wsL_law0_r13, w ∈ lw_tbl := by decide +kernel
set_option maxRecDepth 20000 in
theorem wsL_law_i14 : ∀ w ∈ wsL_law0_r14, w ∈ lw_tbl := by decide +kernel
set_option maxRecDepth 20000 in
theorem wsL_law_i15 : ∀ w ∈ wsL_law0_r15, w ∈ lw_tbl := by decide +kernel
set_option maxRecDepth 20000 in
theorem wsL_law_i16 : ∀ w ∈ wsL_law0_r16, w ∈ lw_tbl := by decide +kernel
end
section
set_option maxRecDepth 20000 in
theorem wsL_law_i17 : ∀ w ∈ wsL_law0_r17, w ∈ lw_tbl := by decide +kernel
set_option maxRecDepth 20000 in
theorem wsL_law_i18 : ∀ w ∈ wsL_law0_r18, w ∈ lw_tbl := by decide +kernel
set_option maxRecDepth 20000 in
theorem wsL_law_i19 : ∀ w ∈ wsL_law0_r19, w ∈ lw_tbl := by decide +kernel
end
section
set_option maxRecDepth 20000 in
theorem wsL_law_u40 : ∀ w ∈ wsX40, w ∈ lw_tbl := by decide +kernel
set_option maxRecDepth 20000 in
theorem wsL_law_u50 : ∀ w ∈ wsX50, w ∈ lw_tbl := by decide +kernel
set_option maxRecDepth 20000 in
theorem wsL_law_u00 : ∀ w ∈ wsX00, w ∈ lw_tbl := by decide +kernel
set_option maxRecDepth 20000 in
theorem wsL_law_u10 : ∀ w ∈ wsX10, w ∈ lw_tbl := by decide +kernel
set_option maxRecDepth 20000 in
theorem wsL_law_u20 : ∀ w ∈ wsX20, w ∈ lw_tbl := by decide +kernel
set_option maxRecDepth 20000 in
theorem wsL_law_u30 : ∀ w ∈ wsX30, w ∈ lw_tbl := by decide +kernel
theorem wsL_law_in0 : ∀ w ∈ wsL_law0, w ∈ lw_tbl := fun w => (fun h => (List.mem_append.mp h).elim (fun h => (List.mem_append.mp h).elim (fun h => (List.mem_append.mp h).elim (fun h => (List.mem_append.mp h).elim (fun h => (List.mem_append.mp h).elim (fun h => (List.mem_append.mp h).elim (fun h => (List.mem_append.mp h).elim (fun h => (List.mem_append.mp h).elim (wsL_law_i1 w) (fun h => (List.mem_append.mp h).elim (wsL_law_i2 w) (fun h => (List.mem_append.mp h).elim (wsL_law_i3 w) (fun h => (List.mem_append.mp h).elim (wsL_law_i4 w) (fun h => (List.mem_append.mp h).elim (wsL_law_i5 w) (fun h => (List.mem_append.mp h).elim (wsL_law_i6 w) (fun h => (List.mem_append.mp h).elim (wsL_law_i7 w) (fun h => (List.mem_append.mp h).elim (wsL_law_i8 w) (fun h => (List.mem_append.mp h).elim (wsL_law_i9 w) (fun h => (List.mem_append.mp h).elim (wsL_law_i10 w) (fun h => (List.mem_append.mp h).elim (wsL_law_i11 w) (fun h => (List.mem_append.mp h).elim (wsL_law_i12 w) (fun h => (List.mem_append.mp h).elim (wsL_law_i13 w) (fun h => (List.mem_append.mp h).elim (wsL_law_i14 w) (fun h => (List.mem_append.mp h).elim (wsL_law_i15 w) (fun h => (List.mem_append.mp h).elim (wsL_law_i16 w) (fun h => (List.mem_append.mp h).elim (wsL_law_i17 w) (fun h => (List.mem_append.mp h).elim (wsL_law_i18 w) (wsL_law_i19 w))))))))))))))))))) (wsL_law_u40 w)) (wsL_law_u50 w)) (wsL_law_u00 w)) (wsL_law_u10 w)) (wsL_law_u20 w)) (wsL_law_u30 w)) (fun h => absurd h List.not_mem_nil))
theorem wsL_law_x0 : ∀ w ∈ (vx_atS RX4 51 "java/lang/IllegalArgumentException" ["java/lang/RuntimeException", "java/lang/Exception"]).filter goodWord, w ∈ lw_tbl := by decide +kernel
theorem wsL_law_x1 : ∀ w ∈ (vx_atS RX4 148 "java/lang/IndexOutOfBoundsException" ["java/lang/RuntimeException", "java/lang/Exception"]).filter goodWord, w ∈ lw_tbl := by decide +kernel
theorem wsL_law_in : ∀ w ∈ wsL_law, w ∈ lw_tbl := fun w h => (List.mem_append.mp h).elim (fun h => (List.mem_append.mp h).elim (fun h => wsL_law_in0 w h) (fun h => wsL_law_x0 w h)) (fun h => wsL_law_x1 w h)
theorem inlX0 : ∀ w ∈ wsX00, w ∈ wsL_law := fun _ h => List.mem_append_left _ (List.mem_append_left _ (List.mem_append_left _ (List.mem_append_left _ (List.mem_append_left _ (List.mem_append_left _ (List.mem_append_right _ h))))))
theorem inX0 : ∀ w ∈ wsX00, w ∈ lw_tbl := fun w h => wsL_law_in w (inlX0 w h)
theorem inlX1 : ∀ w ∈ wsX10, w ∈ wsL_law := fun _ h => List.mem_append_left _ (List.mem_append_left _ (List.mem_append_left _ (List.mem_append_left _ (List.mem_append_left _ (List.mem_append_right _ h)))))
theorem inX1 : ∀ w ∈ wsX10, w ∈ lw_tbl := fun w h => wsL_law_in w (inlX1 w h)
theorem inlX2 : ∀ w ∈ wsX20, w ∈ wsL_law := fun _ h => List.mem_append_left _ (List.mem_append_left _ (List.mem_append_left _ (List.mem_append_left _ (List.mem_append_right _ h))))
theorem inX2 : ∀ w ∈ wsX20, w ∈ lw_tbl := fun w h => wsL_law_in w (inlX2 w h)
theorem inlX3 : ∀ w ∈ wsX30, w ∈ wsL_law := fun _ h => List.mem_append_left _ (List.mem_append_left _ (List.mem_append_left _ (List.mem_append_right _ h)))
theorem inX3 : ∀ w ∈ wsX30, w ∈ lw_tbl := fun w h => wsL_law_in w (inlX3 w h)
theorem inlX4 : ∀ w ∈ wsX40, w ∈ wsL_law := fun _ h => List.mem_append_left _ (List.mem_append_left _ (List.mem_append_left _ (List.mem_append_left _ (List.mem_append_left _ (List.mem_append_left _ (List.mem_append_left _ (List.mem_append_left _ (List.mem_append_right _ h))))))))
theorem inX4 : ∀ w ∈ wsX40, w ∈ lw_tbl := fun w h => wsL_law_in w (inlX4 w h)
theorem inlX5 : ∀ w ∈ wsX50, w ∈ wsL_law := fun _ h => List.mem_append_left _ (List.mem_append_left _ (List.mem_append_left _ (List.mem_append_left _ (List.mem_append_left _ (List.mem_append_left _ (List.mem_append_left _ (List.mem_append_right _ h)))))))
theorem inX5 : ∀ w ∈ wsX50, w ∈ lw_tbl := fun w h => wsL_law_in w (inlX5 w h)
theorem inJ0 : ∀ w ∈ wsJ00, w ∈ lw_tbl := by decide +kernel
theorem inJ10 : ∀ w ∈ wsJ100, w ∈ lw_tbl := by decide +kernel
theorem inJ7 : ∀ w ∈ wsJ70, w ∈ lw_tbl := by decide +kernel
theorem dX0_init_0 : decode cX0_init 0 = .ok (.aload_n 0, 1) := by decide +kernel
theorem dX0_init_1 : decode cX0_init 1 = .ok (.invokespecial 3, 3) := by decide +kernel
theorem dX0_init_4 : decode cX0_init 4 = .ok (.aload_n 0, 1) := by decide +kernel
theorem dX0_init_5 : decode cX0_init 5 = .ok (.sipush 1600, 3) := by decide +kernel
theorem dX0_init_8 : decode cX0_init 8 = .ok (.newarray .int, 2) := by decide +kernel
theorem dX0_init_10 : decode cX0_init 10 = .ok (.putfield 9, 3) := by decide +kernel
theorem dX0_init_13 : decode cX0_init 13 = .ok (.aload_n 0, 1) := by decide +kernel
theorem dX0_init_14 : decode cX0_init 14 = .ok (.bipush 40, 2) := by decide +kernel
theorem dX0_init_16 : decode cX0_init 16 = .ok (.newarray .int, 2) := by decide +kernel
theorem dX0_init_18 : decode cX0_init 18 = .ok (.putfield 15, 3) := by decide +kernel
theorem dX0_init_21 : decode cX0_init 21 = .ok (.aload_n 0, 1) := by decide +kernel
theorem dX0_init_22 : decode cX0_init 22 = .ok (.iconst 1, 1) := by decide +kernel
theorem dX0_init_23 : decode cX0_init 23 = .ok (.putfield 18, 3) := by decide +kernel
theorem dX0_init_26 : decode cX0_init 26 = .ok (.aload_n 0, 1) := by decide +kernel
theorem dX0_init_27 : decode cX0_init 27 = .ok (.iconst 0, 1) := by decide +kernel
theorem dX0_init_28 : decode cX0_init 28 = .ok (.putfield 22, 3) := by decide +kernel
theorem dX0_init_31 : decode cX0_init 31 = .ok (.return_, 1) := by decide +kernel
set_option maxRecDepth 20000 in
theorem ggX0_empty_J7_fill_53178 : GoodIn wsX0_empty wsJ7_fill_53178 := goodIn_r _ [8] (by decide +kernel) (by decide +kernel)
set_option maxRecDepth 20000 in
theorem gX0_empty_J7_fill_53178 : GoodIn wsX0_empty (va_wsS RX0 25 yJ7_fill_53178 wsJ7_fill_53178) := goodIn_app (goodIn_of _ (by decide +kernel)) ggX0_empty_J7_fill_53178
theorem dX0_empty_0 : decode cX0_empty 0 = .ok (.aload_n 0, 1) := by decide +kernel
theorem dX0_empty_1 : decode cX0_empty 1 = .ok (.getfield 9, 3) := by decide +kernel
theorem dX0_empty_4 : decode cX0_empty 4 = .ok (.iconst 0, 1) := by decide +kernel
theorem dX0_empty_5 : decode cX0_empty 5 = .ok (.invokestatic 25, 3) := by decide +kernel
theorem dX0_empty_8 : decode cX0_empty 8 = .ok (.aload_n 0, 1) := by decide +kernel
theorem dX0_empty_9 : decode cX0_empty 9 = .ok (.getfield 15, 3) := by decide +kernel
theorem dX0_empty_12 : decode cX0_empty 12 = .ok (.iconst 0, 1) := by decide +kernel
theorem dX0_empty_13 : decode cX0_empty 13 = .ok (.invokestatic 25, 3) := by decide +kernel
theorem dX0_empty_16 : decode cX0_empty 16 = .ok (.aload_n 0, 1) := by decide +kernel
theorem dX0_empty_17 : decode cX0_empty 17 = .ok (.iload_n 1, 1) := by decide +kernel
theorem dX0_empty_18 : decode cX0_empty 18 = .ok (.putfield 18, 3) := by decide +kernel
theorem dX0_empty_21 : decode cX0_empty 21 = .ok (.aload_n 0, 1) := by decide +kernel
theorem dX0_empty_22 : decode cX0_empty 22 = .ok (.iconst 0, 1) := by decide +kernel
theorem dX0_empty_23 : decode cX0_empty 23 = .ok (.putfield 22, 3) := by decide +kernel
theorem dX0_empty_26 : decode cX0_empty 26 = .ok (.return_, 1) := by decide +kernel
theorem dX0_between_0 : decode cX0_between 0 = .ok (.aload_n 0, 1) := by decide +kernel
theorem dX0_between_1 : decode cX0_between 1 = .ok (.getfield 9, 3) := by decide +kernel
theorem dX0_between_4 : decode cX0_between 4 = .ok (.iload_n 1, 1) := by decide +kernel
theorem dX0_between_5 : decode cX0_between 5 = .ok (.bipush 40, 2) := by decide +kernel
theorem dX0_between_7 : decode cX0_between 7 = .ok (.imul, 1) := by decide +kernel
theorem dX0_between_8 : decode cX0_between 8 = .ok (.iload_n 2, 1) := by decide +kernel
theorem dX0_between_9 : decode cX0_between 9 = .ok (.iadd, 1) := by decide +kernel
theorem dX0_between_10 : decode cX0_between 10 = .ok (.iaload, 1) := by decide +kernel
theorem dX0_between_11 : decode cX0_between 11 = .ok (.ireturn, 1) := by decide +kernel
theorem dX0_add_0 : decode cX0_add 0 = .ok (.aload_n 0, 1) := by decide +kernel
theorem dX0_add_1 : decode cX0_add 1 = .ok (.getfield 9, 3) := by decide +kernel
theorem dX0_add_4 : decode cX0_add 4 = .ok (.iload_n 1, 1) := by decide +kernel
theorem dX0_add_5 : decode cX0_add 5 = .ok (.bipush 40, 2) := by decide +kernel
theorem dX0_add_7 : decode cX0_add 7 = .ok (.imul, 1) := by decide +kernel
theorem dX0_add_8 : decode cX0_add 8 = .ok (.iload_n 2, 1) := by decide +kernel
theorem dX0_add_9 : decode cX0_add 9 = .ok (.iadd, 1) := by decide +kernel
theorem dX0_add_10 : decode cX0_add 10 = .ok (.dup2, 1) := by decide +kernel
theorem dX0_add_11 : decode cX0_add 11 = .ok (.iaload, 1) := by decide +kernel
theorem dX0_add_12 : decode cX0_add 12 = .ok (.iload_n 3, 1) := by decide +kernel
theorem dX0_add_13 : decode cX0_add 13 = .ok (.iadd, 1) := by decide +kernel
theorem dX0_add_14 : decode cX0_add 14 = .ok (.iastore, 1) := by decide +kernel
theorem dX0_add_15 : decode cX0_add 15 = .ok (.iload_n 1, 1) := by decide +kernel
theorem dX0_add_16 : decode cX0_add 16 = .ok (.iload_n 2, 1) := by decide +kernel
theorem dX0_add_17 : decode cX0_add 17 = .ok (.if_icmp .eq 18, 3) := by decide +kernel
theorem dX0_add_20 : decode cX0_add 20 = .ok (.aload_n 0, 1) := by decide +kernel
theorem dX0_add_21 : decode cX0_add 21 = .ok (.getfield 9, 3) := by decide +kernel
theorem dX0_add_24 : decode cX0_add 24 = .ok (.iload_n 2, 1) := by decide +kernel
theorem dX0_add_25 : decode cX0_add 25 = .ok (.bipush 40, 2) := by decide +kernel
theorem dX0_add_27 : decode cX0_add 27 = .ok (.imul, 1) := by decide +kernel
theorem dX0_add_28 : decode cX0_add 28 = .ok (.iload_n 1, 1) := by decide +kernel
theorem dX0_add_29 : decode cX0_add 29 = .ok (.iadd, 1) := by decide +kernel
theorem dX0_add_30 : decode cX0_add 30 = .ok (.dup2, 1) := by decide +kernel
theorem dX0_add_31 : decode cX0_add 31 = .ok (.iaload, 1) := by decide +kernel
theorem dX0_add_32 : decode cX0_add 32 = .ok (.iload_n 3, 1) := by decide +kernel
theorem dX0_add_33 : decode cX0_add 33 = .ok (.iadd, 1) := by decide +kernel
theorem dX0_add_34 : decode cX0_add 34 = .ok (.iastore, 1) := by decide +kernel
theorem dX0_add_35 : decode cX0_add 35 = .ok (.aload_n 0, 1) := by decide +kernel
theorem dX0_add_36 : decode cX0_add 36 = .ok (.getfield 15, 3) := by decide +kernel
theorem dX0_add_39 : decode cX0_add 39 = .ok (.iload_n 1, 1) := by decide +kernel
theorem dX0_add_40 : decode cX0_add 40 = .ok (.dup2, 1) := by decide +kernel
theorem dX0_add_41 : decode cX0_add 41 = .ok (.iaload, 1) := by decide +kernel
theorem dX0_add_42 : decode cX0_add 42 = .ok (.iload_n 3, 1) := by decide +kernel
theorem dX0_add_43 : decode cX0_add 43 = .ok (.iadd, 1) := by decide +kernel
theorem dX0_add_44 : decode cX0_add 44 = .ok (.iastore, 1) := by decide +kernel
theorem dX0_add_45 : decode cX0_add 45 = .ok (.aload_n 0, 1) := by decide +kernel
theorem dX0_add_46 : decode cX0_add 46 = .ok (.getfield 15, 3) := by decide +kernel
theorem dX0_add_49 : decode cX0_add 49 = .ok (.iload_n 2, 1) := by decide +kernel
theorem dX0_add_50 : decode cX0_add 50 = .ok (.dup2, 1) := by decide +kernel
theorem dX0_add_51 : decode cX0_add 51 = .ok (.iaload, 1) := by decide +kernel
theorem dX0_add_52 : decode cX0_add 52 = .ok (.iload_n 3, 1) := by decide +kernel
theorem dX0_add_53 : decode cX0_add 53 = .ok (.iadd, 1) := by decide +kernel
theorem dX0_add_54 : decode cX0_add 54 = .ok (.iastore, 1) := by decide +kernel
theorem dX0_add_55 : decode cX0_add 55 = .ok (.aload_n 0, 1) := by decide +kernel
theorem dX0_add_56 : decode cX0_add 56 = .ok (.dup, 1) := by decide +kernel
theorem dX0_add_57 : decode cX0_add 57 = .ok (.getfield 22, 3) := by decide +kernel
theorem dX0_add_60 : decode cX0_add 60 = .ok (.iload_n 3, 1) := by decide +kernel
theorem dX0_add_61 : decode cX0_add 61 = .ok (.iadd, 1) := by decide +kernel
theorem dX0_add_62 : decode cX0_add 62 = .ok (.putfield 22, 3) := by decide +kernel
theorem dX0_add_65 : decode cX0_add 65 = .ok (.return_, 1) := by decide +kernel
set_option maxRecDepth 20000 in
theorem ggX0_contract_X0_empty : GoodIn wsX0_contract wsX0_empty := goodIn_r _ [6, 7, 8, 1, 9, 10, 11, 12, 13, 22, 23, 24, 25] (by decide +kernel) (by decide +kernel)
set_option maxRecDepth 20000 in
theorem gX0_contract_X0_empty : GoodIn wsX0_contract (wsV RX0 31 RX0 yX0_empty wsX0_empty) := goodIn_app (goodIn_of _ (by decide +kernel)) ggX0_contract_X0_empty
set_option maxRecDepth 20000 in
theorem ggX0_contract_X0_between : GoodIn wsX0_contract wsX0_between := goodIn_r _ [17, 7, 22, 23, 24, 25] (by decide +kernel) (by decide +kernel)
set_option maxRecDepth 20000 in
theorem gX0_contract_X0_between : GoodIn wsX0_contract (wsV RX0 35 RX0 yX0_between wsX0_between) := goodIn_app (goodIn_of _ (by decide +kernel)) ggX0_contract_X0_between
set_option maxRecDepth 20000 in
theorem ggX0_contract_X0_add : GoodIn wsX0_contract wsX0_add := goodIn_r _ [21, 7, 8, 9, 22, 23, 24, 25] (by decide +kernel) (by decide +kernel)
set_option maxRecDepth 20000 in
theorem gX0_contract_X0_add : GoodIn wsX0_contract (wsV RX0 39 RX0 yX0_add wsX0_add) := goodIn_app (goodIn_of _ (by decide +kernel)) ggX0_contract_X0_add
theorem dX0_contract_0 : decode cX0_contract 0 = .ok (.aload_n 0, 1) := by decide +kernel
theorem dX0_contract_1 : decode cX0_contract 1 = .ok (.iload_n 3, 1) := by decide +kernel
theorem dX0_contract_2 : decode cX0_contract 2 = .ok (.invokevirtual 31, 3) := by decide +kernel
theorem dX0_contract_5 : decode cX0_contract 5 = .ok (.iconst 0, 1) := by decide +kernel
theorem dX0_contract_6 : decode cX0_contract 6 = .ok (.istore 4, 2) := by decide +kernel
theorem dX0_contract_8 : decode cX0_contract 8 = .ok (.iload 4, 2) := by decide +kernel
theorem dX0_contract_10 : decode cX0_contract 10 = .ok (.aload_n 1, 1) := by decide +kernel
theorem dX0_contract_11 : decode cX0_contract 11 = .ok (.getfield 18, 3) := by decide +kernel
theorem dX0_contract_14 : decode cX0_contract 14 = .ok (.if_icmp .ge 57, 3) := by decide +kernel
theorem dX0_contract_17 : decode cX0_contract 17 = .ok (.iload 4, 2) := by decide +kernel
theorem dX0_contract_19 : decode cX0_contract 19 = .ok (.istore 5, 2) := by decide +kernel
theorem dX0_contract_21 : decode cX0_contract 21 = .ok (.iload 5, 2) := by decide +kernel
theorem dX0_contract_23 : decode cX0_contract 23 = .ok (.aload_n 1, 1) := by decide +kernel
theorem dX0_contract_24 : decode cX0_contract 24 = .ok (.getfield 18, 3) := by decide +kernel
theorem dX0_contract_27 : decode cX0_contract 27 = .ok (.if_icmp .ge 38, 3) := by decide +kernel
theorem dX0_contract_30 : decode cX0_contract 30 = .ok (.aload_n 1, 1) := by decide +kernel
theorem dX0_contract_31 : decode cX0_contract 31 = .ok (.iload 4, 2) := by decide +kernel
theorem dX0_contract_33 : decode cX0_contract 33 = .ok (.iload 5, 2) := by decide +kernel
theorem dX0_contract_35 : decode cX0_contract 35 = .ok (.invokevirtual 35, 3) := by decide +kernel
theorem dX0_contract_38 : decode cX0_contract 38 = .ok (.istore 6, 2) := by decide +kernel
theorem dX0_contract_40 : decode cX0_contract 40 = .ok (.iload 6, 2) := by decide +kernel
theorem dX0_contract_42 : decode cX0_contract 42 = .ok (.ifCond .eq 17, 3) := by decide +kernel
theorem dX0_contract_45 : decode cX0_contract 45 = .ok (.aload_n 0, 1) := by decide +kernel
theorem dX0_contract_46 : decode cX0_contract 46 = .ok (.aload_n 2, 1) := by decide +kernel
theorem dX0_contract_47 : decode cX0_contract 47 = .ok (.iload 4, 2) := by decide +kernel
theorem dX0_contract_49 : decode cX0_contract 49 = .ok (.iaload, 1) := by decide +kernel
theorem dX0_contract_50 : decode cX0_contract 50 = .ok (.aload_n 2, 1) := by decide +kernel
theorem dX0_contract_51 : decode cX0_contract 51 = .ok (.iload 5, 2) := by decide +kernel
theorem dX0_contract_53 : decode cX0_contract 53 = .ok (.iaload, 1) := by decide +kernel
theorem dX0_contract_54 : decode cX0_contract 54 = .ok (.iload 6, 2) := by decide +kernel
theorem dX0_contract_56 : decode cX0_contract 56 = .ok (.invokevirtual 39, 3) := by decide +kernel
theorem dX0_contract_59 : decode cX0_contract 59 = .ok (.iinc 5 1, 3) := by decide +kernel
theorem dX0_contract_62 : decode cX0_contract 62 = .ok (.goto (-41), 3) := by decide +kernel
theorem dX0_contract_65 : decode cX0_contract 65 = .ok (.iinc 4 1, 3) := by decide +kernel
theorem dX0_contract_68 : decode cX0_contract 68 = .ok (.goto (-60), 3) := by decide +kernel
theorem dX0_contract_71 : decode cX0_contract 71 = .ok (.return_, 1) := by decide +kernel
theorem dX1_init_0 : decode cX1_init 0 = .ok (.aload_n 0, 1) := by decide +kernel
theorem dX1_init_1 : decode cX1_init 1 = .ok (.invokespecial 3, 3) := by decide +kernel
theorem dX1_init_4 : decode cX1_init 4 = .ok (.aload_n 0, 1) := by decide +kernel
theorem dX1_init_5 : decode cX1_init 5 = .ok (.bipush 40, 2) := by decide +kernel
theorem dX1_init_7 : decode cX1_init 7 = .ok (.newarray .int, 2) := by decide +kernel
theorem dX1_init_9 : decode cX1_init 9 = .ok (.putfield 9, 3) := by decide +kernel
theorem dX1_init_12 : decode cX1_init 12 = .ok (.aload_n 0, 1) := by decide +kernel
theorem dX1_init_13 : decode cX1_init 13 = .ok (.bipush 40, 2) := by decide +kernel
theorem dX1_init_15 : decode cX1_init 15 = .ok (.newarray .int, 2) := by decide +kernel
theorem dX1_init_17 : decode cX1_init 17 = .ok (.putfield 15, 3) := by decide +kernel
theorem dX1_init_20 : decode cX1_init 20 = .ok (.aload_n 0, 1) := by decide +kernel
theorem dX1_init_21 : decode cX1_init 21 = .ok (.bipush 40, 2) := by decide +kernel
theorem dX1_init_23 : decode cX1_init 23 = .ok (.newarray .int, 2) := by decide +kernel
theorem dX1_init_25 : decode cX1_init 25 = .ok (.putfield 18, 3) := by decide +kernel
theorem dX1_init_28 : decode cX1_init 28 = .ok (.aload_n 0, 1) := by decide +kernel
theorem dX1_init_29 : decode cX1_init 29 = .ok (.bipush 40, 2) := by decide +kernel
theorem dX1_init_31 : decode cX1_init 31 = .ok (.newarray .int, 2) := by decide +kernel
theorem dX1_init_33 : decode cX1_init 33 = .ok (.putfield 21, 3) := by decide +kernel
theorem dX1_init_36 : decode cX1_init 36 = .ok (.aload_n 0, 1) := by decide +kernel
theorem dX1_init_37 : decode cX1_init 37 = .ok (.bipush 40, 2) := by decide +kernel
theorem dX1_init_39 : decode cX1_init 39 = .ok (.newarray .int, 2) := by decide +kernel
theorem dX1_init_41 : decode cX1_init 41 = .ok (.putfield 24, 3) := by decide +kernel
theorem dX1_init_44 : decode cX1_init 44 = .ok (.return_, 1) := by decide +kernel
theorem dX1_separate_0 : decode cX1_separate 0 = .ok (.iconst 0, 1) := by decide +kernel
theorem dX1_separate_1 : decode cX1_separate 1 = .ok (.istore_n 2, 1) := by decide +kernel
theorem dX1_separate_2 : decode cX1_separate 2 = .ok (.iload_n 2, 1) := by decide +kernel
theorem dX1_separate_3 : decode cX1_separate 3 = .ok (.iload_n 1, 1) := by decide +kernel
theorem dX1_separate_4 : decode cX1_separate 4 = .ok (.if_icmp .ge 16, 3) := by decide +kernel
theorem dX1_separate_7 : decode cX1_separate 7 = .ok (.aload_n 0, 1) := by decide +kernel
theorem dX1_separate_8 : decode cX1_separate 8 = .ok (.getfield 9, 3) := by decide +kernel
theorem dX1_separate_11 : decode cX1_separate 11 = .ok (.iload_n 2, 1) := by decide +kernel
theorem dX1_separate_12 : decode cX1_separate 12 = .ok (.iload_n 2, 1) := by decide +kernel
theorem dX1_separate_13 : decode cX1_separate 13 = .ok (.iastore, 1) := by decide +kernel
theorem dX1_separate_14 : decode cX1_separate 14 = .ok (.iinc 2 1, 3) := by decide +kernel
theorem dX1_separate_17 : decode cX1_separate 17 = .ok (.goto (-15), 3) := by decide +kernel
theorem dX1_separate_20 : decode cX1_separate 20 = .ok (.return_, 1) := by decide +kernel
set_option maxRecDepth 20000 in
theorem ggX1_tally_J7_fill_53178 : GoodIn wsX1_tally wsJ7_fill_53178 := goodIn_r _ [9] (by decide +kernel) (by decide +kernel)
set_option maxRecDepth 20000 in
theorem gX1_tally_J7_fill_53178 : GoodIn wsX1_tally (va_wsS RX1 27 yJ7_fill_53178 wsJ7_fill_53178) := goodIn_app (goodIn_of _ (by decide +kernel)) ggX1_tally_J7_fill_53178
theorem dX1_tally_0 : decode cX1_tally 0 = .ok (.aload_n 0, 1) := by decide +kernel
theorem dX1_tally_1 : decode cX1_tally 1 = .ok (.getfield 15, 3) := by decide +kernel
theorem dX1_tally_4 : decode cX1_tally 4 = .ok (.iconst 0, 1) := by decide +kernel
theorem dX1_tally_5 : decode cX1_tally 5 = .ok (.invokestatic 27, 3) := by decide +kernel
theorem dX1_tally_8 : decode cX1_tally 8 = .ok (.aload_n 0, 1) := by decide +kernel
theorem dX1_tally_9 : decode cX1_tally 9 = .ok (.getfield 18, 3) := by decide +kernel
theorem dX1_tally_12 : decode cX1_tally 12 = .ok (.iconst 0, 1) := by decide +kernel
theorem dX1_tally_13 : decode cX1_tally 13 = .ok (.invokestatic 27, 3) := by decide +kernel
theorem dX1_tally_16 : decode cX1_tally 16 = .ok (.iconst 0, 1) := by decide +kernel
theorem dX1_tally_17 : decode cX1_tally 17 = .ok (.istore_n 2, 1) := by decide +kernel
theorem dX1_tally_18 : decode cX1_tally 18 = .ok (.iload_n 2, 1) := by decide +kernel
theorem dX1_tally_19 : decode cX1_tally 19 = .ok (.aload_n 1, 1) := by decide +kernel
theorem dX1_tally_20 : decode cX1_tally 20 = .ok (.getfield 33, 3) := by decide +kernel
theorem dX1_tally_23 : decode cX1_tally 23 = .ok (.if_icmp .ge 44, 3) := by decide +kernel
theorem dX1_tally_26 : decode cX1_tally 26 = .ok (.aload_n 0, 1) := by decide +kernel
theorem dX1_tally_27 : decode cX1_tally 27 = .ok (.getfield 15, 3) := by decide +kernel
theorem dX1_tally_30 : decode cX1_tally 30 = .ok (.aload_n 0, 1) := by decide +kernel
theorem dX1_tally_31 : decode cX1_tally 31 = .ok (.getfield 9, 3) := by decide +kernel
theorem dX1_tally_34 : decode cX1_tally 34 = .ok (.iload_n 2, 1) := by decide +kernel
theorem dX1_tally_35 : decode cX1_tally 35 = .ok (.iaload, 1) := by decide +kernel
theorem dX1_tally_36 : decode cX1_tally 36 = .ok (.dup2, 1) := by decide +kernel
theorem dX1_tally_37 : decode cX1_tally 37 = .ok (.iaload, 1) := by decide +kernel
theorem dX1_tally_38 : decode cX1_tally 38 = .ok (.iconst 1, 1) := by decide +kernel
theorem dX1_tally_39 : decode cX1_tally 39 = .ok (.iadd, 1) := by decide +kernel
theorem dX1_tally_40 : decode cX1_tally 40 = .ok (.iastore, 1) := by decide +kernel
theorem dX1_tally_41 : decode cX1_tally 41 = .ok (.aload_n 0, 1) := by decide +kernel
theorem dX1_tally_42 : decode cX1_tally 42 = .ok (.getfield 18, 3) := by decide +kernel
theorem dX1_tally_45 : decode cX1_tally 45 = .ok (.aload_n 0, 1) := by decide +kernel
theorem dX1_tally_46 : decode cX1_tally 46 = .ok (.getfield 9, 3) := by decide +kernel
theorem dX1_tally_49 : decode cX1_tally 49 = .ok (.iload_n 2, 1) := by decide +kernel
theorem dX1_tally_50 : decode cX1_tally 50 = .ok (.iaload, 1) := by decide +kernel
theorem dX1_tally_51 : decode cX1_tally 51 = .ok (.dup2, 1) := by decide +kernel
theorem dX1_tally_52 : decode cX1_tally 52 = .ok (.iaload, 1) := by decide +kernel
theorem dX1_tally_53 : decode cX1_tally 53 = .ok (.aload_n 1, 1) := by decide +kernel
theorem dX1_tally_54 : decode cX1_tally 54 = .ok (.getfield 39, 3) := by decide +kernel
theorem dX1_tally_57 : decode cX1_tally 57 = .ok (.iload_n 2, 1) := by decide +kernel
theorem dX1_tally_58 : decode cX1_tally 58 = .ok (.iaload, 1) := by decide +kernel
theorem dX1_tally_59 : decode cX1_tally 59 = .ok (.iadd, 1) := by decide +kernel
theorem dX1_tally_60 : decode cX1_tally 60 = .ok (.iastore, 1) := by decide +kernel
theorem dX1_tally_61 : decode cX1_tally 61 = .ok (.iinc 2 1, 3) := by decide +kernel
theorem dX1_tally_64 : decode cX1_tally 64 = .ok (.goto (-46), 3) := by decide +kernel
theorem dX1_tally_67 : decode cX1_tally 67 = .ok (.return_, 1) := by decide +kernel
set_option maxRecDepth 20000 in
theorem ggX1_tie_J7_fill_53178 : GoodIn wsX1_tie wsJ7_fill_53178 := goodIn_r _ [7] (by decide +kernel) (by decide +kernel)
set_option maxRecDepth 20000 in
theorem gX1_tie_J7_fill_53178 : GoodIn wsX1_tie (va_wsS RX1 27 yJ7_fill_53178 wsJ7_fill_53178) := goodIn_app (goodIn_of _ (by decide +kernel)) ggX1_tie_J7_fill_53178
set_option maxRecDepth 20000 in
theorem ggX1_tie_X0_between : GoodIn wsX1_tie wsX0_between := goodIn_r _ [12, 13, 19, 20, 21, 22] (by decide +kernel) (by decide +kernel)
set_option maxRecDepth 20000 in
theorem gX1_tie_X0_between : GoodIn wsX1_tie (wsV RX1 40 RX0 yX0_between wsX0_between) := goodIn_app (goodIn_of _ (by decide +kernel)) ggX1_tie_X0_between
theorem dX1_tie_0 : decode cX1_tie 0 = .ok (.aload_n 0, 1) := by decide +kernel
theorem dX1_tie_1 : decode cX1_tie 1 = .ok (.getfield 21, 3) := by decide +kernel
theorem dX1_tie_4 : decode cX1_tie 4 = .ok (.iconst 0, 1) := by decide +kernel
theorem dX1_tie_5 : decode cX1_tie 5 = .ok (.invokestatic 27, 3) := by decide +kernel
theorem dX1_tie_8 : decode cX1_tie 8 = .ok (.iconst 0, 1) := by decide +kernel
theorem dX1_tie_9 : decode cX1_tie 9 = .ok (.istore_n 3, 1) := by decide +kernel
theorem dX1_tie_10 : decode cX1_tie 10 = .ok (.iload_n 3, 1) := by decide +kernel
theorem dX1_tie_11 : decode cX1_tie 11 = .ok (.aload_n 1, 1) := by decide +kernel
theorem dX1_tie_12 : decode cX1_tie 12 = .ok (.getfield 33, 3) := by decide +kernel
theorem dX1_tie_15 : decode cX1_tie 15 = .ok (.if_icmp .ge 34, 3) := by decide +kernel
theorem dX1_tie_18 : decode cX1_tie 18 = .ok (.iload_n 3, 1) := by decide +kernel
theorem dX1_tie_19 : decode cX1_tie 19 = .ok (.iload_n 2, 1) := by decide +kernel
theorem dX1_tie_20 : decode cX1_tie 20 = .ok (.if_icmp .eq 23, 3) := by decide +kernel
theorem dX1_tie_23 : decode cX1_tie 23 = .ok (.aload_n 0, 1) := by decide +kernel
theorem dX1_tie_24 : decode cX1_tie 24 = .ok (.getfield 21, 3) := by decide +kernel
theorem dX1_tie_27 : decode cX1_tie 27 = .ok (.aload_n 0, 1) := by decide +kernel
theorem dX1_tie_28 : decode cX1_tie 28 = .ok (.getfield 9, 3) := by decide +kernel
theorem dX1_tie_31 : decode cX1_tie 31 = .ok (.iload_n 3, 1) := by decide +kernel
theorem dX1_tie_32 : decode cX1_tie 32 = .ok (.iaload, 1) := by decide +kernel
theorem dX1_tie_33 : decode cX1_tie 33 = .ok (.dup2, 1) := by decide +kernel
theorem dX1_tie_34 : decode cX1_tie 34 = .ok (.iaload, 1) := by decide +kernel
theorem dX1_tie_35 : decode cX1_tie 35 = .ok (.aload_n 1, 1) := by decide +kernel
theorem dX1_tie_36 : decode cX1_tie 36 = .ok (.iload_n 2, 1) := by decide +kernel
theorem dX1_tie_37 : decode cX1_tie 37 = .ok (.iload_n 3, 1) := by decide +kernel
theorem dX1_tie_38 : decode cX1_tie 38 = .ok (.invokevirtual 40, 3) := by decide +kernel
theorem dX1_tie_41 : decode cX1_tie 41 = .ok (.iadd, 1) := by decide +kernel
theorem dX1_tie_42 : decode cX1_tie 42 = .ok (.iastore, 1) := by decide +kernel
theorem dX1_tie_43 : decode cX1_tie 43 = .ok (.iinc 3 1, 3) := by decide +kernel
theorem dX1_tie_46 : decode cX1_tie 46 = .ok (.goto (-36), 3) := by decide +kernel
theorem dX1_tie_49 : decode cX1_tie 49 = .ok (.return_, 1) := by decide +kernel
set_option maxRecDepth 20000 in
theorem ggX1_score_X0_between : GoodIn wsX1_score wsX0_between := goodIn_r _ [10, 11, 12, 13, 14, 15] (by decide +kernel) (by decide +kernel)
set_option maxRecDepth 20000 in
theorem gX1_score_X0_between : GoodIn wsX1_score (wsV RX1 40 RX0 yX0_between wsX0_between) := goodIn_app (goodIn_of _ (by decide +kernel)) ggX1_score_X0_between
theorem dX1_score_0 : decode cX1_score 0 = .ok (.lconst 0, 1) := by decide +kernel
theorem dX1_score_1 : decode cX1_score 1 = .ok (.lstore_n 2, 1) := by decide +kernel
theorem dX1_score_2 : decode cX1_score 2 = .ok (.iconst 0, 1) := by decide +kernel
theorem dX1_score_3 : decode cX1_score 3 = .ok (.istore 4, 2) := by decide +kernel
theorem dX1_score_5 : decode cX1_score 5 = .ok (.iload 4, 2) := by decide +kernel
theorem dX1_score_7 : decode cX1_score 7 = .ok (.aload_n 1, 1) := by decide +kernel
theorem dX1_score_8 : decode cX1_score 8 = .ok (.getfield 33, 3) := by decide +kernel
theorem dX1_score_11 : decode cX1_score 11 = .ok (.if_icmp .ge 57, 3) := by decide +kernel
theorem dX1_score_14 : decode cX1_score 14 = .ok (.iload 4, 2) := by decide +kernel
theorem dX1_score_16 : decode cX1_score 16 = .ok (.istore 5, 2) := by decide +kernel
theorem dX1_score_18 : decode cX1_score 18 = .ok (.iload 5, 2) := by decide +kernel
theorem dX1_score_20 : decode cX1_score 20 = .ok (.aload_n 1, 1) := by decide +kernel
theorem dX1_score_21 : decode cX1_score 21 = .ok (.getfield 33, 3) := by decide +kernel
theorem dX1_score_24 : decode cX1_score 24 = .ok (.if_icmp .ge 38, 3) := by decide +kernel
theorem dX1_score_27 : decode cX1_score 27 = .ok (.aload_n 0, 1) := by decide +kernel
theorem dX1_score_28 : decode cX1_score 28 = .ok (.getfield 9, 3) := by decide +kernel
theorem dX1_score_31 : decode cX1_score 31 = .ok (.iload 4, 2) := by decide +kernel
theorem dX1_score_33 : decode cX1_score 33 = .ok (.iaload, 1) := by decide +kernel
theorem dX1_score_34 : decode cX1_score 34 = .ok (.aload_n 0, 1) := by decide +kernel
theorem dX1_score_35 : decode cX1_score 35 = .ok (.getfield 9, 3) := by decide +kernel
theorem dX1_score_38 : decode cX1_score 38 = .ok (.iload 5, 2) := by decide +kernel
theorem dX1_score_40 : decode cX1_score 40 = .ok (.iaload, 1) := by decide +kernel
theorem dX1_score_41 : decode cX1_score 41 = .ok (.if_icmp .ne 15, 3) := by decide +kernel
theorem dX1_score_44 : decode cX1_score 44 = .ok (.lload_n 2, 1) := by decide +kernel
theorem dX1_score_45 : decode cX1_score 45 = .ok (.aload_n 1, 1) := by decide +kernel
theorem dX1_score_46 : decode cX1_score 46 = .ok (.iload 4, 2) := by decide +kernel
theorem dX1_score_48 : decode cX1_score 48 = .ok (.iload 5, 2) := by decide +kernel
theorem dX1_score_50 : decode cX1_score 50 = .ok (.invokevirtual 40, 3) := by decide +kernel
theorem dX1_score_53 : decode cX1_score 53 = .ok (.i2l, 1) := by decide +kernel
theorem dX1_score_54 : decode cX1_score 54 = .ok (.ladd, 1) := by decide +kernel
theorem dX1_score_55 : decode cX1_score 55 = .ok (.lstore_n 2, 1) := by decide +kernel
theorem dX1_score_56 : decode cX1_score 56 = .ok (.iinc 5 1, 3) := by decide +kernel
theorem dX1_score_59 : decode cX1_score 59 = .ok (.goto (-41), 3) := by decide +kernel
theorem dX1_score_62 : decode cX1_score 62 = .ok (.iinc 4 1, 3) := by decide +kernel
theorem dX1_score_65 : decode cX1_score 65 = .ok (.goto (-60), 3) := by decide +kernel
theorem dX1_score_68 : decode cX1_score 68 = .ok (.ldc2_w 44, 3) := by decide +kernel
theorem dX1_score_71 : decode cX1_score 71 = .ok (.aload_n 1, 1) := by decide +kernel
theorem dX1_score_72 : decode cX1_score 72 = .ok (.getfield 46, 3) := by decide +kernel
theorem dX1_score_75 : decode cX1_score 75 = .ok (.i2l, 1) := by decide +kernel
theorem dX1_score_76 : decode cX1_score 76 = .ok (.lmul, 1) := by decide +kernel
theorem dX1_score_77 : decode cX1_score 77 = .ok (.lload_n 2, 1) := by decide +kernel
theorem dX1_score_78 : decode cX1_score 78 = .ok (.lmul, 1) := by decide +kernel
theorem dX1_score_79 : decode cX1_score 79 = .ok (.lstore 4, 2) := by decide +kernel
theorem dX1_score_81 : decode cX1_score 81 = .ok (.iconst 0, 1) := by decide +kernel
theorem dX1_score_82 : decode cX1_score 82 = .ok (.istore 6, 2) := by decide +kernel
theorem dX1_score_84 : decode cX1_score 84 = .ok (.iload 6, 2) := by decide +kernel
theorem dX1_score_86 : decode cX1_score 86 = .ok (.aload_n 1, 1) := by decide +kernel
theorem dX1_score_87 : decode cX1_score 87 = .ok (.getfield 33, 3) := by decide +kernel
theorem dX1_score_90 : decode cX1_score 90 = .ok (.if_icmp .ge 31, 3) := by decide +kernel
theorem dX1_score_93 : decode cX1_score 93 = .ok (.lload 4, 2) := by decide +kernel
theorem dX1_score_95 : decode cX1_score 95 = .ok (.aload_n 0, 1) := by decide +kernel
theorem dX1_score_96 : decode cX1_score 96 = .ok (.getfield 18, 3) := by decide +kernel
theorem dX1_score_99 : decode cX1_score 99 = .ok (.iload 6, 2) := by decide +kernel
theorem dX1_score_101 : decode cX1_score 101 = .ok (.iaload, 1) := by decide +kernel
theorem dX1_score_102 : decode cX1_score 102 = .ok (.i2l, 1) := by decide +kernel
theorem dX1_score_103 : decode cX1_score 103 = .ok (.aload_n 0, 1) := by decide +kernel
theorem dX1_score_104 : decode cX1_score 104 = .ok (.getfield 18, 3) := by decide +kernel
theorem dX1_score_107 : decode cX1_score 107 = .ok (.iload 6, 2) := by decide +kernel
theorem dX1_score_109 : decode cX1_score 109 = .ok (.iaload, 1) := by decide +kernel
theorem dX1_score_110 : decode cX1_score 110 = .ok (.i2l, 1) := by decide +kernel
theorem dX1_score_111 : decode cX1_score 111 = .ok (.lmul, 1) := by decide +kernel
theorem dX1_score_112 : decode cX1_score 112 = .ok (.lsub, 1) := by decide +kernel
theorem dX1_score_113 : decode cX1_score 113 = .ok (.lstore 4, 2) := by decide +kernel
theorem dX1_score_115 : decode cX1_score 115 = .ok (.iinc 6 1, 3) := by decide +kernel
theorem dX1_score_118 : decode cX1_score 118 = .ok (.goto (-34), 3) := by decide +kernel
theorem dX1_score_121 : decode cX1_score 121 = .ok (.lload 4, 2) := by decide +kernel
theorem dX1_score_123 : decode cX1_score 123 = .ok (.lreturn, 1) := by decide +kernel
theorem dX1_gainInto_0 : decode cX1_gainInto 0 = .ok (.aload_n 0, 1) := by decide +kernel
theorem dX1_gainInto_1 : decode cX1_gainInto 1 = .ok (.getfield 9, 3) := by decide +kernel
theorem dX1_gainInto_4 : decode cX1_gainInto 4 = .ok (.iload_n 2, 1) := by decide +kernel
theorem dX1_gainInto_5 : decode cX1_gainInto 5 = .ok (.iaload, 1) := by decide +kernel
theorem dX1_gainInto_6 : decode cX1_gainInto 6 = .ok (.istore 4, 2) := by decide +kernel
theorem dX1_gainInto_8 : decode cX1_gainInto 8 = .ok (.iload_n 3, 1) := by decide +kernel
theorem dX1_gainInto_9 : decode cX1_gainInto 9 = .ok (.iload 4, 2) := by decide +kernel
theorem dX1_gainInto_11 : decode cX1_gainInto 11 = .ok (.if_icmp .ne 5, 3) := by decide +kernel
theorem dX1_gainInto_14 : decode cX1_gainInto 14 = .ok (.lconst 0, 1) := by decide +kernel
theorem dX1_gainInto_15 : decode cX1_gainInto 15 = .ok (.lreturn, 1) := by decide +kernel
theorem dX1_gainInto_16 : decode cX1_gainInto 16 = .ok (.aload_n 1, 1) := by decide +kernel
theorem dX1_gainInto_17 : decode cX1_gainInto 17 = .ok (.getfield 39, 3) := by decide +kernel
theorem dX1_gainInto_20 : decode cX1_gainInto 20 = .ok (.iload_n 2, 1) := by decide +kernel
theorem dX1_gainInto_21 : decode cX1_gainInto 21 = .ok (.iaload, 1) := by decide +kernel
theorem dX1_gainInto_22 : decode cX1_gainInto 22 = .ok (.i2l, 1) := by decide +kernel
theorem dX1_gainInto_23 : decode cX1_gainInto 23 = .ok (.lstore 5, 2) := by decide +kernel
theorem dX1_gainInto_25 : decode cX1_gainInto 25 = .ok (.aload_n 0, 1) := by decide +kernel
theorem dX1_gainInto_26 : decode cX1_gainInto 26 = .ok (.getfield 18, 3) := by decide +kernel
theorem dX1_gainInto_29 : decode cX1_gainInto 29 = .ok (.iload 4, 2) := by decide +kernel
theorem dX1_gainInto_31 : decode cX1_gainInto 31 = .ok (.iaload, 1) := by decide +kernel
theorem dX1_gainInto_32 : decode cX1_gainInto 32 = .ok (.i2l, 1) := by decide +kernel
theorem dX1_gainInto_33 : decode cX1_gainInto 33 = .ok (.lload 5, 2) := by decide +kernel
theorem dX1_gainInto_35 : decode cX1_gainInto 35 = .ok (.lsub, 1) := by decide +kernel
theorem dX1_gainInto_36 : decode cX1_gainInto 36 = .ok (.lstore 7, 2) := by decide +kernel
theorem dX1_gainInto_38 : decode cX1_gainInto 38 = .ok (.aload_n 0, 1) := by decide +kernel
theorem dX1_gainInto_39 : decode cX1_gainInto 39 = .ok (.getfield 21, 3) := by decide +kernel
theorem dX1_gainInto_42 : decode cX1_gainInto 42 = .ok (.iload_n 3, 1) := by decide +kernel
theorem dX1_gainInto_43 : decode cX1_gainInto 43 = .ok (.iaload, 1) := by decide +kernel
theorem dX1_gainInto_44 : decode cX1_gainInto 44 = .ok (.aload_n 0, 1) := by decide +kernel
theorem dX1_gainInto_45 : decode cX1_gainInto 45 = .ok (.getfield 21, 3) := by decide +kernel
theorem dX1_gainInto_48 : decode cX1_gainInto 48 = .ok (.iload 4, 2) := by decide +kernel
theorem dX1_gainInto_50 : decode cX1_gainInto 50 = .ok (.iaload, 1) := by decide +kernel
theorem dX1_gainInto_51 : decode cX1_gainInto 51 = .ok (.isub, 1) := by decide +kernel
theorem dX1_gainInto_52 : decode cX1_gainInto 52 = .ok (.i2l, 1) := by decide +kernel
theorem dX1_gainInto_53 : decode cX1_gainInto 53 = .ok (.lstore 9, 2) := by decide +kernel
theorem dX1_gainInto_55 : decode cX1_gainInto 55 = .ok (.ldc2_w 44, 3) := by decide +kernel
theorem dX1_gainInto_58 : decode cX1_gainInto 58 = .ok (.aload_n 1, 1) := by decide +kernel
theorem dX1_gainInto_59 : decode cX1_gainInto 59 = .ok (.getfield 46, 3) := by decide +kernel
theorem dX1_gainInto_62 : decode cX1_gainInto 62 = .ok (.i2l, 1) := by decide +kernel
theorem dX1_gainInto_63 : decode cX1_gainInto 63 = .ok (.lmul, 1) := by decide +kernel
theorem dX1_gainInto_64 : decode cX1_gainInto 64 = .ok (.lload 9, 2) := by decide +kernel
theorem dX1_gainInto_66 : decode cX1_gainInto 66 = .ok (.lmul, 1) := by decide +kernel
theorem dX1_gainInto_67 : decode cX1_gainInto 67 = .ok (.ldc2_w 49, 3) := by decide +kernel
theorem dX1_gainInto_70 : decode cX1_gainInto 70 = .ok (.lload 5, 2) := by decide +kernel
theorem dX1_gainInto_72 : decode cX1_gainInto 72 = .ok (.lmul, 1) := by decide +kernel
theorem dX1_gainInto_73 : decode cX1_gainInto 73 = .ok (.aload_n 0, 1) := by decide +kernel
theorem dX1_gainInto_74 : decode cX1_gainInto 74 = .ok (.getfield 18, 3) := by decide +kernel
theorem dX1_gainInto_77 : decode cX1_gainInto 77 = .ok (.iload_n 3, 1) := by decide +kernel
theorem dX1_gainInto_78 : decode cX1_gainInto 78 = .ok (.iaload, 1) := by decide +kernel
theorem dX1_gainInto_79 : decode cX1_gainInto 79 = .ok (.i2l, 1) := by decide +kernel
theorem dX1_gainInto_80 : decode cX1_gainInto 80 = .ok (.lload 7, 2) := by decide +kernel
theorem dX1_gainInto_82 : decode cX1_gainInto 82 = .ok (.lsub, 1) := by decide +kernel
theorem dX1_gainInto_83 : decode cX1_gainInto 83 = .ok (.lmul, 1) := by decide +kernel
theorem dX1_gainInto_84 : decode cX1_gainInto 84 = .ok (.lsub, 1) := by decide +kernel
theorem dX1_gainInto_85 : decode cX1_gainInto 85 = .ok (.lreturn, 1) := by decide +kernel
set_option maxRecDepth 20000 in
theorem ggX1_choose_X1_gainInto : GoodIn wsX1_choose wsX1_gainInto := goodIn_r _ [9, 1, 10, 11, 3, 12, 13, 14, 19, 20, 21, 22, 23, 24, 25, 26, 27] (by decide +kernel) (by decide +kernel)
set_option maxRecDepth 20000 in
theorem gX1_choose_X1_gainInto : GoodIn wsX1_choose (wsV RX1 51 RX1 yX1_gainInto wsX1_gainInto) := goodIn_app (goodIn_of _ (by decide +kernel)) ggX1_choose_X1_gainInto
set_option maxRecDepth 20000 in
theorem ggX1_choose_X1_leastFree : GoodIn wsX1_choose wsX1_leastFree := goodIn_r _ [18, 4, 19, 20, 21, 22, 23] (by decide +kernel) (by decide +kernel)
set_option maxRecDepth 20000 in
theorem gX1_choose_X1_leastFree : GoodIn wsX1_choose (wsV RX1 55 RX1 yX1_leastFree wsX1_leastFree) := goodIn_app (goodIn_of _ (by decide +kernel)) ggX1_choose_X1_leastFree
end
section
theorem dX1_choose_0 : decode cX1_choose 0 = .ok (.aload_n 0, 1) := by decide +kernel
theorem dX1_choose_1 : decode cX1_choose 1 = .ok (.getfield 9, 3) := by decide +kernel
theorem dX1_choose_4 : decode cX1_choose 4 = .ok (.iload_n 2, 1) := by decide +kernel
theorem dX1_choose_5 : decode cX1_choose 5 = .ok (.iaload, 1) := by decide +kernel
theorem dX1_choose_6 : decode cX1_choose 6 = .ok (.istore_n 3, 1) := by decide +kernel
theorem dX1_choose_7 : decode cX1_choose 7 = .ok (.iconst (-1), 1) := by decide +kernel
theorem dX1_choose_8 : decode cX1_choose 8 = .ok (.istore 4, 2) := by decide +kernel
theorem dX1_choose_10 : decode cX1_choose 10 = .ok (.lconst 0, 1) := by decide +kernel
theorem dX1_choose_11 : decode cX1_choose 11 = .ok (.lstore 5, 2) := by decide +kernel
theorem dX1_choose_13 : decode cX1_choose 13 = .ok (.iconst 0, 1) := by decide +kernel
theorem dX1_choose_14 : decode cX1_choose 14 = .ok (.istore 7, 2) := by decide +kernel
theorem dX1_choose_16 : decode cX1_choose 16 = .ok (.iload 7, 2) := by decide +kernel
theorem dX1_choose_18 : decode cX1_choose 18 = .ok (.aload_n 1, 1) := by decide +kernel
theorem dX1_choose_19 : decode cX1_choose 19 = .ok (.getfield 33, 3) := by decide +kernel
theorem dX1_choose_22 : decode cX1_choose 22 = .ok (.if_icmp .ge 55, 3) := by decide +kernel
theorem dX1_choose_25 : decode cX1_choose 25 = .ok (.iload 7, 2) := by decide +kernel
theorem dX1_choose_27 : decode cX1_choose 27 = .ok (.iload_n 3, 1) := by decide +kernel
theorem dX1_choose_28 : decode cX1_choose 28 = .ok (.if_icmp .eq 24, 3) := by decide +kernel
theorem dX1_choose_31 : decode cX1_choose 31 = .ok (.aload_n 0, 1) := by decide +kernel
theorem dX1_choose_32 : decode cX1_choose 32 = .ok (.getfield 21, 3) := by decide +kernel
theorem dX1_choose_35 : decode cX1_choose 35 = .ok (.iload 7, 2) := by decide +kernel
theorem dX1_choose_37 : decode cX1_choose 37 = .ok (.iaload, 1) := by decide +kernel
theorem dX1_choose_38 : decode cX1_choose 38 = .ok (.ifCond .le 14, 3) := by decide +kernel
theorem dX1_choose_41 : decode cX1_choose 41 = .ok (.aload_n 0, 1) := by decide +kernel
theorem dX1_choose_42 : decode cX1_choose 42 = .ok (.aload_n 1, 1) := by decide +kernel
theorem dX1_choose_43 : decode cX1_choose 43 = .ok (.iload_n 2, 1) := by decide +kernel
theorem dX1_choose_44 : decode cX1_choose 44 = .ok (.iload 7, 2) := by decide +kernel
theorem dX1_choose_46 : decode cX1_choose 46 = .ok (.invokevirtual 51, 3) := by decide +kernel
theorem dX1_choose_49 : decode cX1_choose 49 = .ok (.goto 4, 3) := by decide +kernel
theorem dX1_choose_52 : decode cX1_choose 52 = .ok (.lconst 0, 1) := by decide +kernel
theorem dX1_choose_53 : decode cX1_choose 53 = .ok (.lstore 8, 2) := by decide +kernel
theorem dX1_choose_55 : decode cX1_choose 55 = .ok (.lload 8, 2) := by decide +kernel
theorem dX1_choose_57 : decode cX1_choose 57 = .ok (.lload 5, 2) := by decide +kernel
theorem dX1_choose_59 : decode cX1_choose 59 = .ok (.lcmp, 1) := by decide +kernel
theorem dX1_choose_60 : decode cX1_choose 60 = .ok (.ifCond .le 11, 3) := by decide +kernel
theorem dX1_choose_63 : decode cX1_choose 63 = .ok (.iload 7, 2) := by decide +kernel
theorem dX1_choose_65 : decode cX1_choose 65 = .ok (.istore 4, 2) := by decide +kernel
theorem dX1_choose_67 : decode cX1_choose 67 = .ok (.lload 8, 2) := by decide +kernel
theorem dX1_choose_69 : decode cX1_choose 69 = .ok (.lstore 5, 2) := by decide +kernel
theorem dX1_choose_71 : decode cX1_choose 71 = .ok (.iinc 7 1, 3) := by decide +kernel
theorem dX1_choose_74 : decode cX1_choose 74 = .ok (.goto (-58), 3) := by decide +kernel
theorem dX1_choose_77 : decode cX1_choose 77 = .ok (.aload_n 0, 1) := by decide +kernel
theorem dX1_choose_78 : decode cX1_choose 78 = .ok (.getfield 15, 3) := by decide +kernel
theorem dX1_choose_81 : decode cX1_choose 81 = .ok (.iload_n 3, 1) := by decide +kernel
theorem dX1_choose_82 : decode cX1_choose 82 = .ok (.iaload, 1) := by decide +kernel
theorem dX1_choose_83 : decode cX1_choose 83 = .ok (.iconst 1, 1) := by decide +kernel
theorem dX1_choose_84 : decode cX1_choose 84 = .ok (.if_icmp .le 14, 3) := by decide +kernel
theorem dX1_choose_87 : decode cX1_choose 87 = .ok (.aload_n 0, 1) := by decide +kernel
theorem dX1_choose_88 : decode cX1_choose 88 = .ok (.aload_n 1, 1) := by decide +kernel
theorem dX1_choose_89 : decode cX1_choose 89 = .ok (.getfield 33, 3) := by decide +kernel
theorem dX1_choose_92 : decode cX1_choose 92 = .ok (.invokevirtual 55, 3) := by decide +kernel
theorem dX1_choose_95 : decode cX1_choose 95 = .ok (.goto 4, 3) := by decide +kernel
theorem dX1_choose_98 : decode cX1_choose 98 = .ok (.iconst (-1), 1) := by decide +kernel
theorem dX1_choose_99 : decode cX1_choose 99 = .ok (.istore 7, 2) := by decide +kernel
theorem dX1_choose_101 : decode cX1_choose 101 = .ok (.iload 7, 2) := by decide +kernel
theorem dX1_choose_103 : decode cX1_choose 103 = .ok (.iconst (-1), 1) := by decide +kernel
theorem dX1_choose_104 : decode cX1_choose 104 = .ok (.if_icmp .eq 21, 3) := by decide +kernel
theorem dX1_choose_107 : decode cX1_choose 107 = .ok (.aload_n 0, 1) := by decide +kernel
theorem dX1_choose_108 : decode cX1_choose 108 = .ok (.aload_n 1, 1) := by decide +kernel
theorem dX1_choose_109 : decode cX1_choose 109 = .ok (.iload_n 2, 1) := by decide +kernel
theorem dX1_choose_110 : decode cX1_choose 110 = .ok (.iload 7, 2) := by decide +kernel
theorem dX1_choose_112 : decode cX1_choose 112 = .ok (.invokevirtual 51, 3) := by decide +kernel
theorem dX1_choose_115 : decode cX1_choose 115 = .ok (.lload 5, 2) := by decide +kernel
theorem dX1_choose_117 : decode cX1_choose 117 = .ok (.lcmp, 1) := by decide +kernel
theorem dX1_choose_118 : decode cX1_choose 118 = .ok (.ifCond .le 7, 3) := by decide +kernel
theorem dX1_choose_121 : decode cX1_choose 121 = .ok (.iload 7, 2) := by decide +kernel
theorem dX1_choose_123 : decode cX1_choose 123 = .ok (.istore 4, 2) := by decide +kernel
theorem dX1_choose_125 : decode cX1_choose 125 = .ok (.iload 4, 2) := by decide +kernel
theorem dX1_choose_127 : decode cX1_choose 127 = .ok (.ireturn, 1) := by decide +kernel
theorem dX1_leastFree_0 : decode cX1_leastFree 0 = .ok (.iconst 0, 1) := by decide +kernel
theorem dX1_leastFree_1 : decode cX1_leastFree 1 = .ok (.istore_n 2, 1) := by decide +kernel
theorem dX1_leastFree_2 : decode cX1_leastFree 2 = .ok (.iload_n 2, 1) := by decide +kernel
theorem dX1_leastFree_3 : decode cX1_leastFree 3 = .ok (.iload_n 1, 1) := by decide +kernel
theorem dX1_leastFree_4 : decode cX1_leastFree 4 = .ok (.if_icmp .ge 20, 3) := by decide +kernel
theorem dX1_leastFree_7 : decode cX1_leastFree 7 = .ok (.aload_n 0, 1) := by decide +kernel
theorem dX1_leastFree_8 : decode cX1_leastFree 8 = .ok (.getfield 15, 3) := by decide +kernel
theorem dX1_leastFree_11 : decode cX1_leastFree 11 = .ok (.iload_n 2, 1) := by decide +kernel
theorem dX1_leastFree_12 : decode cX1_leastFree 12 = .ok (.iaload, 1) := by decide +kernel
theorem dX1_leastFree_13 : decode cX1_leastFree 13 = .ok (.ifCond .ne 5, 3) := by decide +kernel
theorem dX1_leastFree_16 : decode cX1_leastFree 16 = .ok (.iload_n 2, 1) := by decide +kernel
theorem dX1_leastFree_17 : decode cX1_leastFree 17 = .ok (.ireturn, 1) := by decide +kernel
theorem dX1_leastFree_18 : decode cX1_leastFree 18 = .ok (.iinc 2 1, 3) := by decide +kernel
theorem dX1_leastFree_21 : decode cX1_leastFree 21 = .ok (.goto (-19), 3) := by decide +kernel
theorem dX1_leastFree_24 : decode cX1_leastFree 24 = .ok (.iconst (-1), 1) := by decide +kernel
theorem dX1_leastFree_25 : decode cX1_leastFree 25 = .ok (.ireturn, 1) := by decide +kernel
theorem dX1_shift_0 : decode cX1_shift 0 = .ok (.aload_n 0, 1) := by decide +kernel
theorem dX1_shift_1 : decode cX1_shift 1 = .ok (.getfield 9, 3) := by decide +kernel
theorem dX1_shift_4 : decode cX1_shift 4 = .ok (.iload_n 2, 1) := by decide +kernel
theorem dX1_shift_5 : decode cX1_shift 5 = .ok (.iaload, 1) := by decide +kernel
theorem dX1_shift_6 : decode cX1_shift 6 = .ok (.istore 4, 2) := by decide +kernel
theorem dX1_shift_8 : decode cX1_shift 8 = .ok (.aload_n 0, 1) := by decide +kernel
theorem dX1_shift_9 : decode cX1_shift 9 = .ok (.getfield 15, 3) := by decide +kernel
theorem dX1_shift_12 : decode cX1_shift 12 = .ok (.iload 4, 2) := by decide +kernel
theorem dX1_shift_14 : decode cX1_shift 14 = .ok (.dup2, 1) := by decide +kernel
theorem dX1_shift_15 : decode cX1_shift 15 = .ok (.iaload, 1) := by decide +kernel
theorem dX1_shift_16 : decode cX1_shift 16 = .ok (.iconst 1, 1) := by decide +kernel
theorem dX1_shift_17 : decode cX1_shift 17 = .ok (.isub, 1) := by decide +kernel
theorem dX1_shift_18 : decode cX1_shift 18 = .ok (.iastore, 1) := by decide +kernel
theorem dX1_shift_19 : decode cX1_shift 19 = .ok (.aload_n 0, 1) := by decide +kernel
theorem dX1_shift_20 : decode cX1_shift 20 = .ok (.getfield 18, 3) := by decide +kernel
theorem dX1_shift_23 : decode cX1_shift 23 = .ok (.iload 4, 2) := by decide +kernel
theorem dX1_shift_25 : decode cX1_shift 25 = .ok (.dup2, 1) := by decide +kernel
theorem dX1_shift_26 : decode cX1_shift 26 = .ok (.iaload, 1) := by decide +kernel
theorem dX1_shift_27 : decode cX1_shift 27 = .ok (.aload_n 1, 1) := by decide +kernel
theorem dX1_shift_28 : decode cX1_shift 28 = .ok (.getfield 39, 3) := by decide +kernel
theorem dX1_shift_31 : decode cX1_shift 31 = .ok (.iload_n 2, 1) := by decide +kernel
theorem dX1_shift_32 : decode cX1_shift 32 = .ok (.iaload, 1) := by decide +kernel
theorem dX1_shift_33 : decode cX1_shift 33 = .ok (.isub, 1) := by decide +kernel
theorem dX1_shift_34 : decode cX1_shift 34 = .ok (.iastore, 1) := by decide +kernel
theorem dX1_shift_35 : decode cX1_shift 35 = .ok (.aload_n 0, 1) := by decide +kernel
theorem dX1_shift_36 : decode cX1_shift 36 = .ok (.getfield 15, 3) := by decide +kernel
theorem dX1_shift_39 : decode cX1_shift 39 = .ok (.iload_n 3, 1) := by decide +kernel
theorem dX1_shift_40 : decode cX1_shift 40 = .ok (.dup2, 1) := by decide +kernel
theorem dX1_shift_41 : decode cX1_shift 41 = .ok (.iaload, 1) := by decide +kernel
theorem dX1_shift_42 : decode cX1_shift 42 = .ok (.iconst 1, 1) := by decide +kernel
theorem dX1_shift_43 : decode cX1_shift 43 = .ok (.iadd, 1) := by decide +kernel
theorem dX1_shift_44 : decode cX1_shift 44 = .ok (.iastore, 1) := by decide +kernel
theorem dX1_shift_45 : decode cX1_shift 45 = .ok (.aload_n 0, 1) := by decide +kernel
theorem dX1_shift_46 : decode cX1_shift 46 = .ok (.getfield 18, 3) := by decide +kernel
theorem dX1_shift_49 : decode cX1_shift 49 = .ok (.iload_n 3, 1) := by decide +kernel
theorem dX1_shift_50 : decode cX1_shift 50 = .ok (.dup2, 1) := by decide +kernel
theorem dX1_shift_51 : decode cX1_shift 51 = .ok (.iaload, 1) := by decide +kernel
theorem dX1_shift_52 : decode cX1_shift 52 = .ok (.aload_n 1, 1) := by decide +kernel
theorem dX1_shift_53 : decode cX1_shift 53 = .ok (.getfield 39, 3) := by decide +kernel
theorem dX1_shift_56 : decode cX1_shift 56 = .ok (.iload_n 2, 1) := by decide +kernel
theorem dX1_shift_57 : decode cX1_shift 57 = .ok (.iaload, 1) := by decide +kernel
theorem dX1_shift_58 : decode cX1_shift 58 = .ok (.iadd, 1) := by decide +kernel
theorem dX1_shift_59 : decode cX1_shift 59 = .ok (.iastore, 1) := by decide +kernel
theorem dX1_shift_60 : decode cX1_shift 60 = .ok (.aload_n 0, 1) := by decide +kernel
theorem dX1_shift_61 : decode cX1_shift 61 = .ok (.getfield 9, 3) := by decide +kernel
theorem dX1_shift_64 : decode cX1_shift 64 = .ok (.iload_n 2, 1) := by decide +kernel
theorem dX1_shift_65 : decode cX1_shift 65 = .ok (.iload_n 3, 1) := by decide +kernel
theorem dX1_shift_66 : decode cX1_shift 66 = .ok (.iastore, 1) := by decide +kernel
theorem dX1_shift_67 : decode cX1_shift 67 = .ok (.return_, 1) := by decide +kernel
set_option maxRecDepth 20000 in
theorem ggX1_renumber_J7_fill_53178 : GoodIn wsX1_renumber wsJ7_fill_53178 := goodIn_r _ [6] (by decide +kernel) (by decide +kernel)
set_option maxRecDepth 20000 in
theorem gX1_renumber_J7_fill_53178 : GoodIn wsX1_renumber (va_wsS RX1 27 yJ7_fill_53178 wsJ7_fill_53178) := goodIn_app (goodIn_of _ (by decide +kernel)) ggX1_renumber_J7_fill_53178
theorem dX1_renumber_0 : decode cX1_renumber 0 = .ok (.aload_n 0, 1) := by decide +kernel
theorem dX1_renumber_1 : decode cX1_renumber 1 = .ok (.getfield 24, 3) := by decide +kernel
theorem dX1_renumber_4 : decode cX1_renumber 4 = .ok (.iconst (-1), 1) := by decide +kernel
theorem dX1_renumber_5 : decode cX1_renumber 5 = .ok (.invokestatic 27, 3) := by decide +kernel
theorem dX1_renumber_8 : decode cX1_renumber 8 = .ok (.iconst 0, 1) := by decide +kernel
theorem dX1_renumber_9 : decode cX1_renumber 9 = .ok (.istore_n 2, 1) := by decide +kernel
theorem dX1_renumber_10 : decode cX1_renumber 10 = .ok (.iconst 0, 1) := by decide +kernel
theorem dX1_renumber_11 : decode cX1_renumber 11 = .ok (.istore_n 3, 1) := by decide +kernel
theorem dX1_renumber_12 : decode cX1_renumber 12 = .ok (.iload_n 3, 1) := by decide +kernel
theorem dX1_renumber_13 : decode cX1_renumber 13 = .ok (.iload_n 1, 1) := by decide +kernel
theorem dX1_renumber_14 : decode cX1_renumber 14 = .ok (.if_icmp .ge 52, 3) := by decide +kernel
theorem dX1_renumber_17 : decode cX1_renumber 17 = .ok (.aload_n 0, 1) := by decide +kernel
theorem dX1_renumber_18 : decode cX1_renumber 18 = .ok (.getfield 9, 3) := by decide +kernel
theorem dX1_renumber_21 : decode cX1_renumber 21 = .ok (.iload_n 3, 1) := by decide +kernel
theorem dX1_renumber_22 : decode cX1_renumber 22 = .ok (.iaload, 1) := by decide +kernel
theorem dX1_renumber_23 : decode cX1_renumber 23 = .ok (.istore 4, 2) := by decide +kernel
theorem dX1_renumber_25 : decode cX1_renumber 25 = .ok (.aload_n 0, 1) := by decide +kernel
theorem dX1_renumber_26 : decode cX1_renumber 26 = .ok (.getfield 24, 3) := by decide +kernel
theorem dX1_renumber_29 : decode cX1_renumber 29 = .ok (.iload 4, 2) := by decide +kernel
theorem dX1_renumber_31 : decode cX1_renumber 31 = .ok (.iaload, 1) := by decide +kernel
theorem dX1_renumber_32 : decode cX1_renumber 32 = .ok (.iconst (-1), 1) := by decide +kernel
theorem dX1_renumber_33 : decode cX1_renumber 33 = .ok (.if_icmp .ne 14, 3) := by decide +kernel
theorem dX1_renumber_36 : decode cX1_renumber 36 = .ok (.aload_n 0, 1) := by decide +kernel
theorem dX1_renumber_37 : decode cX1_renumber 37 = .ok (.getfield 24, 3) := by decide +kernel
theorem dX1_renumber_40 : decode cX1_renumber 40 = .ok (.iload 4, 2) := by decide +kernel
theorem dX1_renumber_42 : decode cX1_renumber 42 = .ok (.iload_n 2, 1) := by decide +kernel
theorem dX1_renumber_43 : decode cX1_renumber 43 = .ok (.iastore, 1) := by decide +kernel
theorem dX1_renumber_44 : decode cX1_renumber 44 = .ok (.iinc 2 1, 3) := by decide +kernel
theorem dX1_renumber_47 : decode cX1_renumber 47 = .ok (.aload_n 0, 1) := by decide +kernel
theorem dX1_renumber_48 : decode cX1_renumber 48 = .ok (.getfield 9, 3) := by decide +kernel
theorem dX1_renumber_51 : decode cX1_renumber 51 = .ok (.iload_n 3, 1) := by decide +kernel
theorem dX1_renumber_52 : decode cX1_renumber 52 = .ok (.aload_n 0, 1) := by decide +kernel
theorem dX1_renumber_53 : decode cX1_renumber 53 = .ok (.getfield 24, 3) := by decide +kernel
theorem dX1_renumber_56 : decode cX1_renumber 56 = .ok (.iload 4, 2) := by decide +kernel
theorem dX1_renumber_58 : decode cX1_renumber 58 = .ok (.iaload, 1) := by decide +kernel
theorem dX1_renumber_59 : decode cX1_renumber 59 = .ok (.iastore, 1) := by decide +kernel
theorem dX1_renumber_60 : decode cX1_renumber 60 = .ok (.iinc 3 1, 3) := by decide +kernel
theorem dX1_renumber_63 : decode cX1_renumber 63 = .ok (.goto (-51), 3) := by decide +kernel
theorem dX1_renumber_66 : decode cX1_renumber 66 = .ok (.iload_n 2, 1) := by decide +kernel
theorem dX1_renumber_67 : decode cX1_renumber 67 = .ok (.ireturn, 1) := by decide +kernel
theorem dX2_init_0 : decode cX2_init 0 = .ok (.aload_n 0, 1) := by decide +kernel
theorem dX2_init_1 : decode cX2_init 1 = .ok (.invokespecial 3, 3) := by decide +kernel
theorem dX2_init_4 : decode cX2_init 4 = .ok (.aload_n 0, 1) := by decide +kernel
theorem dX2_init_5 : decode cX2_init 5 = .ok (.sipush 160, 3) := by decide +kernel
theorem dX2_init_8 : decode cX2_init 8 = .ok (.newarray .int, 2) := by decide +kernel
theorem dX2_init_10 : decode cX2_init 10 = .ok (.putfield 9, 3) := by decide +kernel
theorem dX2_init_13 : decode cX2_init 13 = .ok (.aload_n 0, 1) := by decide +kernel
theorem dX2_init_14 : decode cX2_init 14 = .ok (.sipush 1600, 3) := by decide +kernel
theorem dX2_init_17 : decode cX2_init 17 = .ok (.newarray .int, 2) := by decide +kernel
theorem dX2_init_19 : decode cX2_init 19 = .ok (.putfield 15, 3) := by decide +kernel
theorem dX2_init_22 : decode cX2_init 22 = .ok (.aload_n 0, 1) := by decide +kernel
theorem dX2_init_23 : decode cX2_init 23 = .ok (.bipush 40, 2) := by decide +kernel
theorem dX2_init_25 : decode cX2_init 25 = .ok (.newarray .long, 2) := by decide +kernel
theorem dX2_init_27 : decode cX2_init 27 = .ok (.putfield 18, 3) := by decide +kernel
theorem dX2_init_30 : decode cX2_init 30 = .ok (.aload_n 0, 1) := by decide +kernel
theorem dX2_init_31 : decode cX2_init 31 = .ok (.iconst 0, 1) := by decide +kernel
theorem dX2_init_32 : decode cX2_init 32 = .ok (.putfield 22, 3) := by decide +kernel
theorem dX2_init_35 : decode cX2_init 35 = .ok (.return_, 1) := by decide +kernel
theorem dX2_append_0 : decode cX2_append 0 = .ok (.aload_n 0, 1) := by decide +kernel
theorem dX2_append_1 : decode cX2_append 1 = .ok (.getfield 22, 3) := by decide +kernel
theorem dX2_append_4 : decode cX2_append 4 = .ok (.bipush 40, 2) := by decide +kernel
theorem dX2_append_6 : decode cX2_append 6 = .ok (.if_icmp .ge 99, 3) := by decide +kernel
theorem dX2_append_9 : decode cX2_append 9 = .ok (.aload_n 1, 1) := by decide +kernel
theorem dX2_append_10 : decode cX2_append 10 = .ok (.iconst 0, 1) := by decide +kernel
theorem dX2_append_11 : decode cX2_append 11 = .ok (.aload_n 0, 1) := by decide +kernel
theorem dX2_append_12 : decode cX2_append 12 = .ok (.getfield 15, 3) := by decide +kernel
theorem dX2_append_15 : decode cX2_append 15 = .ok (.aload_n 0, 1) := by decide +kernel
theorem dX2_append_16 : decode cX2_append 16 = .ok (.getfield 22, 3) := by decide +kernel
theorem dX2_append_19 : decode cX2_append 19 = .ok (.bipush 40, 2) := by decide +kernel
theorem dX2_append_21 : decode cX2_append 21 = .ok (.imul, 1) := by decide +kernel
theorem dX2_append_22 : decode cX2_append 22 = .ok (.bipush 40, 2) := by decide +kernel
theorem dX2_append_24 : decode cX2_append 24 = .ok (.invokestatic 26, 3) := by decide +kernel
theorem dX2_append_27 : decode cX2_append 27 = .ok (.aload_n 0, 1) := by decide +kernel
theorem dX2_append_28 : decode cX2_append 28 = .ok (.getfield 18, 3) := by decide +kernel
theorem dX2_append_31 : decode cX2_append 31 = .ok (.aload_n 0, 1) := by decide +kernel
theorem dX2_append_32 : decode cX2_append 32 = .ok (.getfield 22, 3) := by decide +kernel
theorem dX2_append_35 : decode cX2_append 35 = .ok (.lload_n 2, 1) := by decide +kernel
theorem dX2_append_36 : decode cX2_append 36 = .ok (.lastore, 1) := by decide +kernel
theorem dX2_append_37 : decode cX2_append 37 = .ok (.aload_n 0, 1) := by decide +kernel
theorem dX2_append_38 : decode cX2_append 38 = .ok (.getfield 9, 3) := by decide +kernel
theorem dX2_append_41 : decode cX2_append 41 = .ok (.aload_n 0, 1) := by decide +kernel
theorem dX2_append_42 : decode cX2_append 42 = .ok (.getfield 22, 3) := by decide +kernel
theorem dX2_append_45 : decode cX2_append 45 = .ok (.iconst 4, 1) := by decide +kernel
theorem dX2_append_46 : decode cX2_append 46 = .ok (.imul, 1) := by decide +kernel
theorem dX2_append_47 : decode cX2_append 47 = .ok (.iload 4, 2) := by decide +kernel
theorem dX2_append_49 : decode cX2_append 49 = .ok (.iastore, 1) := by decide +kernel
theorem dX2_append_50 : decode cX2_append 50 = .ok (.aload_n 0, 1) := by decide +kernel
theorem dX2_append_51 : decode cX2_append 51 = .ok (.getfield 9, 3) := by decide +kernel
theorem dX2_append_54 : decode cX2_append 54 = .ok (.aload_n 0, 1) := by decide +kernel
theorem dX2_append_55 : decode cX2_append 55 = .ok (.getfield 22, 3) := by decide +kernel
theorem dX2_append_58 : decode cX2_append 58 = .ok (.iconst 4, 1) := by decide +kernel
theorem dX2_append_59 : decode cX2_append 59 = .ok (.imul, 1) := by decide +kernel
theorem dX2_append_60 : decode cX2_append 60 = .ok (.iconst 1, 1) := by decide +kernel
theorem dX2_append_61 : decode cX2_append 61 = .ok (.iadd, 1) := by decide +kernel
theorem dX2_append_62 : decode cX2_append 62 = .ok (.iload 5, 2) := by decide +kernel
theorem dX2_append_64 : decode cX2_append 64 = .ok (.iastore, 1) := by decide +kernel
theorem dX2_append_65 : decode cX2_append 65 = .ok (.aload_n 0, 1) := by decide +kernel
theorem dX2_append_66 : decode cX2_append 66 = .ok (.getfield 9, 3) := by decide +kernel
theorem dX2_append_69 : decode cX2_append 69 = .ok (.aload_n 0, 1) := by decide +kernel
theorem dX2_append_70 : decode cX2_append 70 = .ok (.getfield 22, 3) := by decide +kernel
theorem dX2_append_73 : decode cX2_append 73 = .ok (.iconst 4, 1) := by decide +kernel
theorem dX2_append_74 : decode cX2_append 74 = .ok (.imul, 1) := by decide +kernel
theorem dX2_append_75 : decode cX2_append 75 = .ok (.iconst 2, 1) := by decide +kernel
theorem dX2_append_76 : decode cX2_append 76 = .ok (.iadd, 1) := by decide +kernel
theorem dX2_append_77 : decode cX2_append 77 = .ok (.iload 6, 2) := by decide +kernel
theorem dX2_append_79 : decode cX2_append 79 = .ok (.iastore, 1) := by decide +kernel
theorem dX2_append_80 : decode cX2_append 80 = .ok (.aload_n 0, 1) := by decide +kernel
theorem dX2_append_81 : decode cX2_append 81 = .ok (.getfield 9, 3) := by decide +kernel
theorem dX2_append_84 : decode cX2_append 84 = .ok (.aload_n 0, 1) := by decide +kernel
theorem dX2_append_85 : decode cX2_append 85 = .ok (.getfield 22, 3) := by decide +kernel
theorem dX2_append_88 : decode cX2_append 88 = .ok (.iconst 4, 1) := by decide +kernel
theorem dX2_append_89 : decode cX2_append 89 = .ok (.imul, 1) := by decide +kernel
theorem dX2_append_90 : decode cX2_append 90 = .ok (.iconst 3, 1) := by decide +kernel
theorem dX2_append_91 : decode cX2_append 91 = .ok (.iadd, 1) := by decide +kernel
theorem dX2_append_92 : decode cX2_append 92 = .ok (.iload 7, 2) := by decide +kernel
theorem dX2_append_94 : decode cX2_append 94 = .ok (.iastore, 1) := by decide +kernel
theorem dX2_append_95 : decode cX2_append 95 = .ok (.aload_n 0, 1) := by decide +kernel
theorem dX2_append_96 : decode cX2_append 96 = .ok (.dup, 1) := by decide +kernel
theorem dX2_append_97 : decode cX2_append 97 = .ok (.getfield 22, 3) := by decide +kernel
theorem dX2_append_100 : decode cX2_append 100 = .ok (.iconst 1, 1) := by decide +kernel
theorem dX2_append_101 : decode cX2_append 101 = .ok (.iadd, 1) := by decide +kernel
theorem dX2_append_102 : decode cX2_append 102 = .ok (.putfield 22, 3) := by decide +kernel
theorem dX2_append_105 : decode cX2_append 105 = .ok (.return_, 1) := by decide +kernel
theorem dX3_init_0 : decode cX3_init 0 = .ok (.aload_n 0, 1) := by decide +kernel
theorem dX3_init_1 : decode cX3_init 1 = .ok (.invokespecial 3, 3) := by decide +kernel
theorem dX3_init_4 : decode cX3_init 4 = .ok (.aload_n 0, 1) := by decide +kernel
theorem dX3_init_5 : decode cX3_init 5 = .ok (.sipush 1600, 3) := by decide +kernel
theorem dX3_init_8 : decode cX3_init 8 = .ok (.newarray .int, 2) := by decide +kernel
theorem dX3_init_10 : decode cX3_init 10 = .ok (.putfield 9, 3) := by decide +kernel
theorem dX3_init_13 : decode cX3_init 13 = .ok (.aload_n 0, 1) := by decide +kernel
theorem dX3_init_14 : decode cX3_init 14 = .ok (.sipush 400, 3) := by decide +kernel
theorem dX3_init_17 : decode cX3_init 17 = .ok (.newarray .long, 2) := by decide +kernel
theorem dX3_init_19 : decode cX3_init 19 = .ok (.putfield 15, 3) := by decide +kernel
theorem dX3_init_22 : decode cX3_init 22 = .ok (.aload_n 0, 1) := by decide +kernel
theorem dX3_init_23 : decode cX3_init 23 = .ok (.iconst 0, 1) := by decide +kernel
theorem dX3_init_24 : decode cX3_init 24 = .ok (.putfield 19, 3) := by decide +kernel
theorem dX3_init_27 : decode cX3_init 27 = .ok (.return_, 1) := by decide +kernel
theorem dX3_append_0 : decode cX3_append 0 = .ok (.aload_n 0, 1) := by decide +kernel
theorem dX3_append_1 : decode cX3_append 1 = .ok (.getfield 19, 3) := by decide +kernel
theorem dX3_append_4 : decode cX3_append 4 = .ok (.sipush 400, 3) := by decide +kernel
theorem dX3_append_7 : decode cX3_append 7 = .ok (.if_icmp .ge 69, 3) := by decide +kernel
theorem dX3_append_10 : decode cX3_append 10 = .ok (.aload_n 0, 1) := by decide +kernel
theorem dX3_append_11 : decode cX3_append 11 = .ok (.getfield 9, 3) := by decide +kernel
theorem dX3_append_14 : decode cX3_append 14 = .ok (.aload_n 0, 1) := by decide +kernel
theorem dX3_append_15 : decode cX3_append 15 = .ok (.getfield 19, 3) := by decide +kernel
theorem dX3_append_18 : decode cX3_append 18 = .ok (.iconst 4, 1) := by decide +kernel
theorem dX3_append_19 : decode cX3_append 19 = .ok (.imul, 1) := by decide +kernel
theorem dX3_append_20 : decode cX3_append 20 = .ok (.iload_n 1, 1) := by decide +kernel
theorem dX3_append_21 : decode cX3_append 21 = .ok (.iastore, 1) := by decide +kernel
theorem dX3_append_22 : decode cX3_append 22 = .ok (.aload_n 0, 1) := by decide +kernel
theorem dX3_append_23 : decode cX3_append 23 = .ok (.getfield 9, 3) := by decide +kernel
theorem dX3_append_26 : decode cX3_append 26 = .ok (.aload_n 0, 1) := by decide +kernel
theorem dX3_append_27 : decode cX3_append 27 = .ok (.getfield 19, 3) := by decide +kernel
theorem dX3_append_30 : decode cX3_append 30 = .ok (.iconst 4, 1) := by decide +kernel
theorem dX3_append_31 : decode cX3_append 31 = .ok (.imul, 1) := by decide +kernel
theorem dX3_append_32 : decode cX3_append 32 = .ok (.iconst 1, 1) := by decide +kernel
theorem dX3_append_33 : decode cX3_append 33 = .ok (.iadd, 1) := by decide +kernel
theorem dX3_append_34 : decode cX3_append 34 = .ok (.iload_n 2, 1) := by decide +kernel
theorem dX3_append_35 : decode cX3_append 35 = .ok (.iastore, 1) := by decide +kernel
theorem dX3_append_36 : decode cX3_append 36 = .ok (.aload_n 0, 1) := by decide +kernel
theorem dX3_append_37 : decode cX3_append 37 = .ok (.getfield 9, 3) := by decide +kernel
theorem dX3_append_40 : decode cX3_append 40 = .ok (.aload_n 0, 1) := by decide +kernel
theorem dX3_append_41 : decode cX3_append 41 = .ok (.getfield 19, 3) := by decide +kernel
theorem dX3_append_44 : decode cX3_append 44 = .ok (.iconst 4, 1) := by decide +kernel
theorem dX3_append_45 : decode cX3_append 45 = .ok (.imul, 1) := by decide +kernel
theorem dX3_append_46 : decode cX3_append 46 = .ok (.iconst 2, 1) := by decide +kernel
theorem dX3_append_47 : decode cX3_append 47 = .ok (.iadd, 1) := by decide +kernel
theorem dX3_append_48 : decode cX3_append 48 = .ok (.iload_n 3, 1) := by decide +kernel
theorem dX3_append_49 : decode cX3_append 49 = .ok (.iastore, 1) := by decide +kernel
theorem dX3_append_50 : decode cX3_append 50 = .ok (.aload_n 0, 1) := by decide +kernel
theorem dX3_append_51 : decode cX3_append 51 = .ok (.getfield 9, 3) := by decide +kernel
theorem dX3_append_54 : decode cX3_append 54 = .ok (.aload_n 0, 1) := by decide +kernel
theorem dX3_append_55 : decode cX3_append 55 = .ok (.getfield 19, 3) := by decide +kernel
theorem dX3_append_58 : decode cX3_append 58 = .ok (.iconst 4, 1) := by decide +kernel
theorem dX3_append_59 : decode cX3_append 59 = .ok (.imul, 1) := by decide +kernel
theorem dX3_append_60 : decode cX3_append 60 = .ok (.iconst 3, 1) := by decide +kernel
theorem dX3_append_61 : decode cX3_append 61 = .ok (.iadd, 1) := by decide +kernel
theorem dX3_append_62 : decode cX3_append 62 = .ok (.iload 4, 2) := by decide +kernel
theorem dX3_append_64 : decode cX3_append 64 = .ok (.iastore, 1) := by decide +kernel
theorem dX3_append_65 : decode cX3_append 65 = .ok (.aload_n 0, 1) := by decide +kernel
theorem dX3_append_66 : decode cX3_append 66 = .ok (.getfield 15, 3) := by decide +kernel
theorem dX3_append_69 : decode cX3_append 69 = .ok (.aload_n 0, 1) := by decide +kernel
theorem dX3_append_70 : decode cX3_append 70 = .ok (.getfield 19, 3) := by decide +kernel
theorem dX3_append_73 : decode cX3_append 73 = .ok (.lload 5, 2) := by decide +kernel
theorem dX3_append_75 : decode cX3_append 75 = .ok (.lastore, 1) := by decide +kernel
theorem dX3_append_76 : decode cX3_append 76 = .ok (.aload_n 0, 1) := by decide +kernel
theorem dX3_append_77 : decode cX3_append 77 = .ok (.dup, 1) := by decide +kernel
theorem dX3_append_78 : decode cX3_append 78 = .ok (.getfield 19, 3) := by decide +kernel
theorem dX3_append_81 : decode cX3_append 81 = .ok (.iconst 1, 1) := by decide +kernel
theorem dX3_append_82 : decode cX3_append 82 = .ok (.iadd, 1) := by decide +kernel
theorem dX3_append_83 : decode cX3_append 83 = .ok (.putfield 19, 3) := by decide +kernel
theorem dX3_append_86 : decode cX3_append 86 = .ok (.return_, 1) := by decide +kernel
set_option maxRecDepth 20000 in
theorem ggX4_init_X0_init : GoodIn wsX4_init wsX0_init := goodIn_r _ [26, 27, 2, 3, 22, 28, 29, 30, 31, 57, 58, 59, 60] (by decide +kernel) (by decide +kernel)
set_option maxRecDepth 20000 in
theorem gX4_init_X0_init : GoodIn wsX4_init (wsX0_init) := ggX4_init_X0_init
set_option maxRecDepth 20000 in
theorem ggX4_init_X1_init : GoodIn wsX4_init wsX1_init := goodIn_r _ [34, 35, 2, 3, 22, 36, 37, 38, 39, 40, 68, 69, 70, 71, 72] (by decide +kernel) (by decide +kernel)
set_option maxRecDepth 20000 in
theorem gX4_init_X1_init : GoodIn wsX4_init (wsX1_init) := ggX4_init_X1_init
set_option maxRecDepth 20000 in
theorem ggX4_init_X2_init : GoodIn wsX4_init wsX2_init := goodIn_r _ [43, 44, 2, 3, 22, 45, 46, 47, 48, 49, 73, 74, 75, 76] (by decide +kernel) (by decide +kernel)
set_option maxRecDepth 20000 in
theorem gX4_init_X2_init : GoodIn wsX4_init (wsX2_init) := ggX4_init_X2_init
set_option maxRecDepth 20000 in
theorem ggX4_init_X3_init : GoodIn wsX4_init wsX3_init := goodIn_r _ [52, 53, 2, 3, 22, 54, 47, 55, 56, 77, 78, 79] (by decide +kernel) (by decide +kernel)
set_option maxRecDepth 20000 in
theorem gX4_init_X3_init : GoodIn wsX4_init (wsX3_init) := ggX4_init_X3_init
theorem dX4_init_0 : decode cX4_init 0 = .ok (.aload_n 0, 1) := by decide +kernel
theorem dX4_init_1 : decode cX4_init 1 = .ok (.invokespecial 1, 3) := by decide +kernel
theorem dX4_init_4 : decode cX4_init 4 = .ok (.aload_n 0, 1) := by decide +kernel
theorem dX4_init_5 : decode cX4_init 5 = .ok (.new 7, 3) := by decide +kernel
theorem dX4_init_8 : decode cX4_init 8 = .ok (.dup, 1) := by decide +kernel
theorem dX4_init_9 : decode cX4_init 9 = .ok (.invokespecial 9, 3) := by decide +kernel
theorem dX4_init_12 : decode cX4_init 12 = .ok (.putfield 10, 3) := by decide +kernel
theorem dX4_init_15 : decode cX4_init 15 = .ok (.aload_n 0, 1) := by decide +kernel
theorem dX4_init_16 : decode cX4_init 16 = .ok (.new 16, 3) := by decide +kernel
theorem dX4_init_19 : decode cX4_init 19 = .ok (.dup, 1) := by decide +kernel
theorem dX4_init_20 : decode cX4_init 20 = .ok (.invokespecial 18, 3) := by decide +kernel
theorem dX4_init_23 : decode cX4_init 23 = .ok (.putfield 19, 3) := by decide +kernel
theorem dX4_init_26 : decode cX4_init 26 = .ok (.aload_n 0, 1) := by decide +kernel
theorem dX4_init_27 : decode cX4_init 27 = .ok (.new 23, 3) := by decide +kernel
theorem dX4_init_30 : decode cX4_init 30 = .ok (.dup, 1) := by decide +kernel
theorem dX4_init_31 : decode cX4_init 31 = .ok (.invokespecial 25, 3) := by decide +kernel
theorem dX4_init_34 : decode cX4_init 34 = .ok (.putfield 26, 3) := by decide +kernel
theorem dX4_init_37 : decode cX4_init 37 = .ok (.aload_n 0, 1) := by decide +kernel
theorem dX4_init_38 : decode cX4_init 38 = .ok (.new 30, 3) := by decide +kernel
theorem dX4_init_41 : decode cX4_init 41 = .ok (.dup, 1) := by decide +kernel
theorem dX4_init_42 : decode cX4_init 42 = .ok (.invokespecial 32, 3) := by decide +kernel
theorem dX4_init_45 : decode cX4_init 45 = .ok (.putfield 33, 3) := by decide +kernel
theorem dX4_init_48 : decode cX4_init 48 = .ok (.aload_n 0, 1) := by decide +kernel
theorem dX4_init_49 : decode cX4_init 49 = .ok (.new 7, 3) := by decide +kernel
theorem dX4_init_52 : decode cX4_init 52 = .ok (.dup, 1) := by decide +kernel
theorem dX4_init_53 : decode cX4_init 53 = .ok (.invokespecial 9, 3) := by decide +kernel
theorem dX4_init_56 : decode cX4_init 56 = .ok (.putfield 37, 3) := by decide +kernel
theorem dX4_init_59 : decode cX4_init 59 = .ok (.aload_n 0, 1) := by decide +kernel
theorem dX4_init_60 : decode cX4_init 60 = .ok (.new 16, 3) := by decide +kernel
theorem dX4_init_63 : decode cX4_init 63 = .ok (.dup, 1) := by decide +kernel
theorem dX4_init_64 : decode cX4_init 64 = .ok (.invokespecial 18, 3) := by decide +kernel
theorem dX4_init_67 : decode cX4_init 67 = .ok (.putfield 40, 3) := by decide +kernel
theorem dX4_init_70 : decode cX4_init 70 = .ok (.aload_n 0, 1) := by decide +kernel
theorem dX4_init_71 : decode cX4_init 71 = .ok (.bipush 40, 2) := by decide +kernel
theorem dX4_init_73 : decode cX4_init 73 = .ok (.newarray .int, 2) := by decide +kernel
theorem dX4_init_75 : decode cX4_init 75 = .ok (.putfield 43, 3) := by decide +kernel
theorem dX4_init_78 : decode cX4_init 78 = .ok (.return_, 1) := by decide +kernel
set_option maxRecDepth 20000 in
theorem ggX4_nodes_X0_empty : GoodIn wsX4_nodes wsX0_empty := goodIn_r _ [9, 10, 11, 12, 13, 14, 15, 16, 17, 40, 41, 42, 43] (by decide +kernel) (by decide +kernel)
set_option maxRecDepth 20000 in
theorem gX4_nodes_X0_empty : GoodIn wsX4_nodes (wsV RX4 54 RX0 yX0_empty wsX0_empty) := goodIn_app (goodIn_of _ (by decide +kernel)) ggX4_nodes_X0_empty
set_option maxRecDepth 20000 in
theorem ggX4_nodes_X1_separate : GoodIn wsX4_nodes wsX1_separate := goodIn_r _ [22, 23, 44, 45, 46, 47, 48] (by decide +kernel) (by decide +kernel)
set_option maxRecDepth 20000 in
theorem gX4_nodes_X1_separate : GoodIn wsX4_nodes (wsV RX4 58 RX1 yX1_separate wsX1_separate) := goodIn_app (goodIn_of _ (by decide +kernel)) ggX4_nodes_X1_separate
set_option maxRecDepth 20000 in
theorem ggX4_nodes_X4_forgetRun : GoodIn wsX4_nodes wsX4_forgetRun := goodIn_r _ [28, 29, 30, 31, 32, 33, 34, 35, 36, 37, 38, 39, 49, 50, 51, 52, 53, 54, 55] (by decide +kernel) (by decide +kernel)
set_option maxRecDepth 20000 in
theorem gX4_nodes_X4_forgetRun : GoodIn wsX4_nodes (wsV RX4 61 RX4 yX4_forgetRun wsX4_forgetRun) := goodIn_app (goodIn_of _ (by decide +kernel)) ggX4_nodes_X4_forgetRun
theorem dX4_nodes_0 : decode cX4_nodes 0 = .ok (.iload_n 1, 1) := by decide +kernel
theorem dX4_nodes_1 : decode cX4_nodes 1 = .ok (.iconst 1, 1) := by decide +kernel
theorem dX4_nodes_2 : decode cX4_nodes 2 = .ok (.if_icmp .lt 9, 3) := by decide +kernel
theorem dX4_nodes_5 : decode cX4_nodes 5 = .ok (.iload_n 1, 1) := by decide +kernel
theorem dX4_nodes_6 : decode cX4_nodes 6 = .ok (.bipush 40, 2) := by decide +kernel
theorem dX4_nodes_8 : decode cX4_nodes 8 = .ok (.if_icmp .le 13, 3) := by decide +kernel
theorem dX4_nodes_11 : decode cX4_nodes 11 = .ok (.new 47, 3) := by decide +kernel
theorem dX4_nodes_14 : decode cX4_nodes 14 = .ok (.dup, 1) := by decide +kernel
theorem dX4_nodes_15 : decode cX4_nodes 15 = .ok (.ldc 49, 2) := by decide +kernel
theorem dX4_nodes_17 : decode cX4_nodes 17 = .ok (.invokespecial 51, 3) := by decide +kernel
theorem dX4_nodes_20 : decode cX4_nodes 20 = .ok (.athrow, 1) := by decide +kernel
theorem dX4_nodes_21 : decode cX4_nodes 21 = .ok (.aload_n 0, 1) := by decide +kernel
theorem dX4_nodes_22 : decode cX4_nodes 22 = .ok (.getfield 10, 3) := by decide +kernel
theorem dX4_nodes_25 : decode cX4_nodes 25 = .ok (.iload_n 1, 1) := by decide +kernel
theorem dX4_nodes_26 : decode cX4_nodes 26 = .ok (.invokevirtual 54, 3) := by decide +kernel
theorem dX4_nodes_29 : decode cX4_nodes 29 = .ok (.aload_n 0, 1) := by decide +kernel
theorem dX4_nodes_30 : decode cX4_nodes 30 = .ok (.getfield 19, 3) := by decide +kernel
theorem dX4_nodes_33 : decode cX4_nodes 33 = .ok (.iload_n 1, 1) := by decide +kernel
theorem dX4_nodes_34 : decode cX4_nodes 34 = .ok (.invokevirtual 58, 3) := by decide +kernel
theorem dX4_nodes_37 : decode cX4_nodes 37 = .ok (.aload_n 0, 1) := by decide +kernel
theorem dX4_nodes_38 : decode cX4_nodes 38 = .ok (.invokevirtual 61, 3) := by decide +kernel
theorem dX4_nodes_41 : decode cX4_nodes 41 = .ok (.return_, 1) := by decide +kernel
set_option maxRecDepth 20000 in
theorem ggX4_weigh_X4_requireNode : GoodIn wsX4_weigh wsX4_requireNode := goodIn_ca (goodIn_r _ [10, 11, 12, 3, 13, 34, 35, 36, 37, 38, 39, 40, 41, 42, 43, 44] (by decide +kernel) (by decide +kernel)) (goodIn_sub (fun _ h => List.mem_cons_of_mem _ (List.mem_append_right _ h)) (by decide +kernel))
set_option maxRecDepth 20000 in
theorem gX4_weigh_X4_requireNode : GoodIn wsX4_weigh (wsV RX4 64 RX4 yX4_requireNode wsX4_requireNode) := goodIn_app (goodIn_of _ (by decide +kernel)) ggX4_weigh_X4_requireNode
set_option maxRecDepth 20000 in
theorem ggX4_weigh_X0_between : GoodIn wsX4_weigh wsX0_between := goodIn_r _ [18, 19, 41, 42, 43, 44] (by decide +kernel) (by decide +kernel)
set_option maxRecDepth 20000 in
theorem gX4_weigh_X0_between : GoodIn wsX4_weigh (wsV RX4 69 RX0 yX0_between wsX0_between) := goodIn_app (goodIn_of _ (by decide +kernel)) ggX4_weigh_X0_between
set_option maxRecDepth 20000 in
theorem ggX4_weigh_X0_add : GoodIn wsX4_weigh wsX0_add := goodIn_r _ [23, 19, 24, 25, 41, 42, 43, 44] (by decide +kernel) (by decide +kernel)
set_option maxRecDepth 20000 in
theorem gX4_weigh_X0_add : GoodIn wsX4_weigh (wsV RX4 81 RX0 yX0_add wsX0_add) := goodIn_app (goodIn_of _ (by decide +kernel)) ggX4_weigh_X0_add
set_option maxRecDepth 20000 in
theorem ggX4_weigh_X4_forgetRun : GoodIn wsX4_weigh wsX4_forgetRun := goodIn_r _ [29, 30, 31, 32, 33, 34, 35, 36, 37, 38, 39, 40, 45, 46, 47, 48, 49, 50, 51] (by decide +kernel) (by decide +kernel)
set_option maxRecDepth 20000 in
theorem gX4_weigh_X4_forgetRun : GoodIn wsX4_weigh (wsV RX4 61 RX4 yX4_forgetRun wsX4_forgetRun) := goodIn_app (goodIn_of _ (by decide +kernel)) ggX4_weigh_X4_forgetRun
end
section
theorem dX4_weigh_0 : decode cX4_weigh 0 = .ok (.aload_n 0, 1) := by decide +kernel
theorem dX4_weigh_1 : decode cX4_weigh 1 = .ok (.iload_n 1, 1) := by decide +kernel
theorem dX4_weigh_2 : decode cX4_weigh 2 = .ok (.invokevirtual 64, 3) := by decide +kernel
theorem dX4_weigh_5 : decode cX4_weigh 5 = .ok (.aload_n 0, 1) := by decide +kernel
theorem dX4_weigh_6 : decode cX4_weigh 6 = .ok (.iload_n 2, 1) := by decide +kernel
theorem dX4_weigh_7 : decode cX4_weigh 7 = .ok (.invokevirtual 64, 3) := by decide +kernel
theorem dX4_weigh_10 : decode cX4_weigh 10 = .ok (.iload_n 3, 1) := by decide +kernel
theorem dX4_weigh_11 : decode cX4_weigh 11 = .ok (.ifCond .ge 13, 3) := by decide +kernel
theorem dX4_weigh_14 : decode cX4_weigh 14 = .ok (.new 47, 3) := by decide +kernel
theorem dX4_weigh_17 : decode cX4_weigh 17 = .ok (.dup, 1) := by decide +kernel
theorem dX4_weigh_18 : decode cX4_weigh 18 = .ok (.ldc 67, 2) := by decide +kernel
theorem dX4_weigh_20 : decode cX4_weigh 20 = .ok (.invokespecial 51, 3) := by decide +kernel
theorem dX4_weigh_23 : decode cX4_weigh 23 = .ok (.athrow, 1) := by decide +kernel
theorem dX4_weigh_24 : decode cX4_weigh 24 = .ok (.aload_n 0, 1) := by decide +kernel
theorem dX4_weigh_25 : decode cX4_weigh 25 = .ok (.getfield 10, 3) := by decide +kernel
theorem dX4_weigh_28 : decode cX4_weigh 28 = .ok (.iload_n 1, 1) := by decide +kernel
theorem dX4_weigh_29 : decode cX4_weigh 29 = .ok (.iload_n 2, 1) := by decide +kernel
theorem dX4_weigh_30 : decode cX4_weigh 30 = .ok (.invokevirtual 69, 3) := by decide +kernel
theorem dX4_weigh_33 : decode cX4_weigh 33 = .ok (.istore 4, 2) := by decide +kernel
theorem dX4_weigh_35 : decode cX4_weigh 35 = .ok (.aload_n 0, 1) := by decide +kernel
theorem dX4_weigh_36 : decode cX4_weigh 36 = .ok (.getfield 10, 3) := by decide +kernel
theorem dX4_weigh_39 : decode cX4_weigh 39 = .ok (.getfield 73, 3) := by decide +kernel
theorem dX4_weigh_42 : decode cX4_weigh 42 = .ok (.i2l, 1) := by decide +kernel
theorem dX4_weigh_43 : decode cX4_weigh 43 = .ok (.iload 4, 2) := by decide +kernel
theorem dX4_weigh_45 : decode cX4_weigh 45 = .ok (.i2l, 1) := by decide +kernel
theorem dX4_weigh_46 : decode cX4_weigh 46 = .ok (.lsub, 1) := by decide +kernel
theorem dX4_weigh_47 : decode cX4_weigh 47 = .ok (.iload_n 3, 1) := by decide +kernel
theorem dX4_weigh_48 : decode cX4_weigh 48 = .ok (.i2l, 1) := by decide +kernel
theorem dX4_weigh_49 : decode cX4_weigh 49 = .ok (.ladd, 1) := by decide +kernel
theorem dX4_weigh_50 : decode cX4_weigh 50 = .ok (.ldc2_w 77, 3) := by decide +kernel
theorem dX4_weigh_53 : decode cX4_weigh 53 = .ok (.lcmp, 1) := by decide +kernel
theorem dX4_weigh_54 : decode cX4_weigh 54 = .ok (.ifCond .lt 13, 3) := by decide +kernel
theorem dX4_weigh_57 : decode cX4_weigh 57 = .ok (.new 47, 3) := by decide +kernel
theorem dX4_weigh_60 : decode cX4_weigh 60 = .ok (.dup, 1) := by decide +kernel
theorem dX4_weigh_61 : decode cX4_weigh 61 = .ok (.ldc 79, 2) := by decide +kernel
theorem dX4_weigh_63 : decode cX4_weigh 63 = .ok (.invokespecial 51, 3) := by decide +kernel
theorem dX4_weigh_66 : decode cX4_weigh 66 = .ok (.athrow, 1) := by decide +kernel
theorem dX4_weigh_67 : decode cX4_weigh 67 = .ok (.aload_n 0, 1) := by decide +kernel
theorem dX4_weigh_68 : decode cX4_weigh 68 = .ok (.getfield 10, 3) := by decide +kernel
theorem dX4_weigh_71 : decode cX4_weigh 71 = .ok (.iload_n 1, 1) := by decide +kernel
theorem dX4_weigh_72 : decode cX4_weigh 72 = .ok (.iload_n 2, 1) := by decide +kernel
theorem dX4_weigh_73 : decode cX4_weigh 73 = .ok (.iload_n 3, 1) := by decide +kernel
theorem dX4_weigh_74 : decode cX4_weigh 74 = .ok (.iload 4, 2) := by decide +kernel
theorem dX4_weigh_76 : decode cX4_weigh 76 = .ok (.isub, 1) := by decide +kernel
theorem dX4_weigh_77 : decode cX4_weigh 77 = .ok (.invokevirtual 81, 3) := by decide +kernel
theorem dX4_weigh_80 : decode cX4_weigh 80 = .ok (.aload_n 0, 1) := by decide +kernel
theorem dX4_weigh_81 : decode cX4_weigh 81 = .ok (.invokevirtual 61, 3) := by decide +kernel
theorem dX4_weigh_84 : decode cX4_weigh 84 = .ok (.iload 4, 2) := by decide +kernel
theorem dX4_weigh_86 : decode cX4_weigh 86 = .ok (.ireturn, 1) := by decide +kernel
set_option maxRecDepth 20000 in
theorem ggX4_run_X4_makeLevels : GoodIn wsX4_run wsX4_makeLevels := goodIn_r _ [7, 8, 9, 10, 11, 12, 13, 14, 15, 16, 17, 18, 19, 20, 21, 22, 23, 24, 25, 26, 27, 28, 29, 30, 31, 32, 33, 34, 35, 36, 37, 38, 39, 6, 40, 41, 42, 43, 44, 45, 1, 46, 47, 48, 49, 50, 51, 52, 53, 54, 55, 56, 57, 58, 59, 60, 61, 62, 63, 64, 65, 66, 67, 68, 69, 70, 71, 72, 73, 74, 75, 76, 77, 78, 79, 80, 81, 82, 83, 84, 85, 86, 87, 88, 89, 90, 91, 92, 93, 94, 95, 96, 97, 98, 99, 100, 101, 102, 103, 104, 105, 106, 107, 108, 109, 110, 111, 112, 113, 114, 115, 116, 117, 118, 119, 120, 121, 122, 123, 124, 125, 126, 127, 132, 133, 134, 135, 136, 137, 138, 139, 140, 141, 142, 143, 128, 129, 130, 131] (by decide +kernel) (by decide +kernel)
set_option maxRecDepth 20000 in
theorem gX4_run_X4_makeLevels : GoodIn wsX4_run (wsV RX4 88 RX4 yX4_makeLevels wsX4_makeLevels) := goodIn_app (goodIn_of _ (by decide +kernel)) ggX4_run_X4_makeLevels
theorem dX4_run_0 : decode cX4_run 0 = .ok (.aload_n 0, 1) := by decide +kernel
theorem dX4_run_1 : decode cX4_run 1 = .ok (.getfield 26, 3) := by decide +kernel
theorem dX4_run_4 : decode cX4_run 4 = .ok (.getfield 85, 3) := by decide +kernel
theorem dX4_run_7 : decode cX4_run 7 = .ok (.ifCond .ne 7, 3) := by decide +kernel
theorem dX4_run_10 : decode cX4_run 10 = .ok (.aload_n 0, 1) := by decide +kernel
theorem dX4_run_11 : decode cX4_run 11 = .ok (.invokevirtual 88, 3) := by decide +kernel
theorem dX4_run_14 : decode cX4_run 14 = .ok (.aload_n 0, 1) := by decide +kernel
theorem dX4_run_15 : decode cX4_run 15 = .ok (.getfield 26, 3) := by decide +kernel
theorem dX4_run_18 : decode cX4_run 18 = .ok (.getfield 85, 3) := by decide +kernel
theorem dX4_run_21 : decode cX4_run 21 = .ok (.ireturn, 1) := by decide +kernel
theorem dX4_levels_0 : decode cX4_levels 0 = .ok (.aload_n 0, 1) := by decide +kernel
theorem dX4_levels_1 : decode cX4_levels 1 = .ok (.getfield 26, 3) := by decide +kernel
theorem dX4_levels_4 : decode cX4_levels 4 = .ok (.getfield 85, 3) := by decide +kernel
theorem dX4_levels_7 : decode cX4_levels 7 = .ok (.ireturn, 1) := by decide +kernel
set_option maxRecDepth 20000 in
theorem ggX4_level_X4_requireLevel : GoodIn wsX4_level wsX4_requireLevel := goodIn_ca (goodIn_r _ [7, 8, 9, 1, 10, 15, 16, 17, 18, 19, 20, 21, 22, 23, 24, 25] (by decide +kernel) (by decide +kernel)) (goodIn_sub (fun _ h => List.mem_cons_of_mem _ (List.mem_append_right _ h)) (by decide +kernel))
set_option maxRecDepth 20000 in
theorem gX4_level_X4_requireLevel : GoodIn wsX4_level (wsV RX4 91 RX4 yX4_requireLevel wsX4_requireLevel) := goodIn_app (goodIn_of _ (by decide +kernel)) ggX4_level_X4_requireLevel
set_option maxRecDepth 20000 in
theorem ggX4_level_X4_requireFact : GoodIn wsX4_level wsX4_requireFact := goodIn_ca (goodIn_r _ [14, 8, 9] (by decide +kernel) (by decide +kernel)) (goodIn_sub (fun _ h => List.mem_cons_of_mem _ (List.mem_append_right _ h)) (by decide +kernel))
set_option maxRecDepth 20000 in
theorem gX4_level_X4_requireFact : GoodIn wsX4_level (wsV RX4 94 RX4 yX4_requireFact wsX4_requireFact) := goodIn_app (goodIn_of _ (by decide +kernel)) ggX4_level_X4_requireFact
theorem dX4_level_0 : decode cX4_level 0 = .ok (.aload_n 0, 1) := by decide +kernel
theorem dX4_level_1 : decode cX4_level 1 = .ok (.iload_n 1, 1) := by decide +kernel
theorem dX4_level_2 : decode cX4_level 2 = .ok (.invokevirtual 91, 3) := by decide +kernel
theorem dX4_level_5 : decode cX4_level 5 = .ok (.aload_n 0, 1) := by decide +kernel
theorem dX4_level_6 : decode cX4_level 6 = .ok (.iload_n 2, 1) := by decide +kernel
theorem dX4_level_7 : decode cX4_level 7 = .ok (.invokevirtual 94, 3) := by decide +kernel
theorem dX4_level_10 : decode cX4_level 10 = .ok (.aload_n 0, 1) := by decide +kernel
theorem dX4_level_11 : decode cX4_level 11 = .ok (.getfield 26, 3) := by decide +kernel
theorem dX4_level_14 : decode cX4_level 14 = .ok (.getfield 97, 3) := by decide +kernel
theorem dX4_level_17 : decode cX4_level 17 = .ok (.iload_n 1, 1) := by decide +kernel
theorem dX4_level_18 : decode cX4_level 18 = .ok (.iconst 4, 1) := by decide +kernel
theorem dX4_level_19 : decode cX4_level 19 = .ok (.imul, 1) := by decide +kernel
theorem dX4_level_20 : decode cX4_level 20 = .ok (.iload_n 2, 1) := by decide +kernel
theorem dX4_level_21 : decode cX4_level 21 = .ok (.iadd, 1) := by decide +kernel
theorem dX4_level_22 : decode cX4_level 22 = .ok (.iaload, 1) := by decide +kernel
theorem dX4_level_23 : decode cX4_level 23 = .ok (.ireturn, 1) := by decide +kernel
set_option maxRecDepth 20000 in
theorem ggX4_community_X4_requireLevel : GoodIn wsX4_community wsX4_requireLevel := goodIn_ca (goodIn_r _ [7, 8, 9, 1, 10, 17, 18, 19, 20, 21, 22, 23, 24, 25, 26, 27] (by decide +kernel) (by decide +kernel)) (goodIn_sub (fun _ h => List.mem_cons_of_mem _ (List.mem_append_right _ h)) (by decide +kernel))
set_option maxRecDepth 20000 in
theorem gX4_community_X4_requireLevel : GoodIn wsX4_community (wsV RX4 91 RX4 yX4_requireLevel wsX4_requireLevel) := goodIn_app (goodIn_of _ (by decide +kernel)) ggX4_community_X4_requireLevel
set_option maxRecDepth 20000 in
theorem ggX4_community_X4_requireNode : GoodIn wsX4_community wsX4_requireNode := goodIn_ca (goodIn_r _ [14, 8, 9, 15, 16, 17, 18, 19, 20, 21, 22, 23, 28, 29, 30, 31] (by decide +kernel) (by decide +kernel)) (goodIn_sub (fun _ h => List.mem_cons_of_mem _ (List.mem_append_right _ h)) (by decide +kernel))
set_option maxRecDepth 20000 in
theorem gX4_community_X4_requireNode : GoodIn wsX4_community (wsV RX4 64 RX4 yX4_requireNode wsX4_requireNode) := goodIn_app (goodIn_of _ (by decide +kernel)) ggX4_community_X4_requireNode
theorem dX4_community_0 : decode cX4_community 0 = .ok (.aload_n 0, 1) := by decide +kernel
theorem dX4_community_1 : decode cX4_community 1 = .ok (.iload_n 1, 1) := by decide +kernel
theorem dX4_community_2 : decode cX4_community 2 = .ok (.invokevirtual 91, 3) := by decide +kernel
theorem dX4_community_5 : decode cX4_community 5 = .ok (.aload_n 0, 1) := by decide +kernel
theorem dX4_community_6 : decode cX4_community 6 = .ok (.iload_n 2, 1) := by decide +kernel
theorem dX4_community_7 : decode cX4_community 7 = .ok (.invokevirtual 64, 3) := by decide +kernel
theorem dX4_community_10 : decode cX4_community 10 = .ok (.aload_n 0, 1) := by decide +kernel
theorem dX4_community_11 : decode cX4_community 11 = .ok (.getfield 26, 3) := by decide +kernel
theorem dX4_community_14 : decode cX4_community 14 = .ok (.getfield 100, 3) := by decide +kernel
theorem dX4_community_17 : decode cX4_community 17 = .ok (.iload_n 1, 1) := by decide +kernel
theorem dX4_community_18 : decode cX4_community 18 = .ok (.bipush 40, 2) := by decide +kernel
theorem dX4_community_20 : decode cX4_community 20 = .ok (.imul, 1) := by decide +kernel
theorem dX4_community_21 : decode cX4_community 21 = .ok (.iload_n 2, 1) := by decide +kernel
theorem dX4_community_22 : decode cX4_community 22 = .ok (.iadd, 1) := by decide +kernel
theorem dX4_community_23 : decode cX4_community 23 = .ok (.iaload, 1) := by decide +kernel
theorem dX4_community_24 : decode cX4_community 24 = .ok (.ireturn, 1) := by decide +kernel
set_option maxRecDepth 20000 in
theorem ggX4_modularity_X4_requireLevel : GoodIn wsX4_modularity wsX4_requireLevel := goodIn_ca (goodIn_r _ [7, 8, 9, 1, 10, 11, 12, 13, 14, 15, 16, 17, 18, 19, 20, 21] (by decide +kernel) (by decide +kernel)) (goodIn_sub (fun _ h => List.mem_cons_of_mem _ (List.mem_append_right _ h)) (by decide +kernel))
set_option maxRecDepth 20000 in
theorem gX4_modularity_X4_requireLevel : GoodIn wsX4_modularity (wsV RX4 91 RX4 yX4_requireLevel wsX4_requireLevel) := goodIn_app (goodIn_of _ (by decide +kernel)) ggX4_modularity_X4_requireLevel
theorem dX4_modularity_0 : decode cX4_modularity 0 = .ok (.aload_n 0, 1) := by decide +kernel
theorem dX4_modularity_1 : decode cX4_modularity 1 = .ok (.iload_n 1, 1) := by decide +kernel
theorem dX4_modularity_2 : decode cX4_modularity 2 = .ok (.invokevirtual 91, 3) := by decide +kernel
theorem dX4_modularity_5 : decode cX4_modularity 5 = .ok (.aload_n 0, 1) := by decide +kernel
theorem dX4_modularity_6 : decode cX4_modularity 6 = .ok (.getfield 26, 3) := by decide +kernel
theorem dX4_modularity_9 : decode cX4_modularity 9 = .ok (.getfield 103, 3) := by decide +kernel
theorem dX4_modularity_12 : decode cX4_modularity 12 = .ok (.iload_n 1, 1) := by decide +kernel
theorem dX4_modularity_13 : decode cX4_modularity 13 = .ok (.laload, 1) := by decide +kernel
theorem dX4_modularity_14 : decode cX4_modularity 14 = .ok (.lreturn, 1) := by decide +kernel
theorem dX4_moves_0 : decode cX4_moves 0 = .ok (.aload_n 0, 1) := by decide +kernel
theorem dX4_moves_1 : decode cX4_moves 1 = .ok (.getfield 33, 3) := by decide +kernel
theorem dX4_moves_4 : decode cX4_moves 4 = .ok (.getfield 107, 3) := by decide +kernel
theorem dX4_moves_7 : decode cX4_moves 7 = .ok (.ireturn, 1) := by decide +kernel
set_option maxRecDepth 20000 in
theorem ggX4_move_X4_requireTold : GoodIn wsX4_move wsX4_requireTold := goodIn_ca (goodIn_r _ [7, 8, 9, 1, 10, 15, 16, 17, 18, 19, 20, 21, 22, 23, 24] (by decide +kernel) (by decide +kernel)) (goodIn_sub (fun _ h => List.mem_cons_of_mem _ (List.mem_append_right _ h)) (by decide +kernel))
set_option maxRecDepth 20000 in
theorem gX4_move_X4_requireTold : GoodIn wsX4_move (wsV RX4 108 RX4 yX4_requireTold wsX4_requireTold) := goodIn_app (goodIn_of _ (by decide +kernel)) ggX4_move_X4_requireTold
set_option maxRecDepth 20000 in
theorem ggX4_move_X4_requireFact : GoodIn wsX4_move wsX4_requireFact := goodIn_ca (goodIn_r _ [14, 8, 9] (by decide +kernel) (by decide +kernel)) (goodIn_sub (fun _ h => List.mem_cons_of_mem _ (List.mem_append_right _ h)) (by decide +kernel))
set_option maxRecDepth 20000 in
theorem gX4_move_X4_requireFact : GoodIn wsX4_move (wsV RX4 94 RX4 yX4_requireFact wsX4_requireFact) := goodIn_app (goodIn_of _ (by decide +kernel)) ggX4_move_X4_requireFact
theorem dX4_move_0 : decode cX4_move 0 = .ok (.aload_n 0, 1) := by decide +kernel
theorem dX4_move_1 : decode cX4_move 1 = .ok (.iload_n 1, 1) := by decide +kernel
theorem dX4_move_2 : decode cX4_move 2 = .ok (.invokevirtual 108, 3) := by decide +kernel
theorem dX4_move_5 : decode cX4_move 5 = .ok (.aload_n 0, 1) := by decide +kernel
theorem dX4_move_6 : decode cX4_move 6 = .ok (.iload_n 2, 1) := by decide +kernel
theorem dX4_move_7 : decode cX4_move 7 = .ok (.invokevirtual 94, 3) := by decide +kernel
theorem dX4_move_10 : decode cX4_move 10 = .ok (.aload_n 0, 1) := by decide +kernel
theorem dX4_move_11 : decode cX4_move 11 = .ok (.getfield 33, 3) := by decide +kernel
theorem dX4_move_14 : decode cX4_move 14 = .ok (.getfield 111, 3) := by decide +kernel
theorem dX4_move_17 : decode cX4_move 17 = .ok (.iload_n 1, 1) := by decide +kernel
theorem dX4_move_18 : decode cX4_move 18 = .ok (.iconst 4, 1) := by decide +kernel
theorem dX4_move_19 : decode cX4_move 19 = .ok (.imul, 1) := by decide +kernel
theorem dX4_move_20 : decode cX4_move 20 = .ok (.iload_n 2, 1) := by decide +kernel
theorem dX4_move_21 : decode cX4_move 21 = .ok (.iadd, 1) := by decide +kernel
theorem dX4_move_22 : decode cX4_move 22 = .ok (.iaload, 1) := by decide +kernel
theorem dX4_move_23 : decode cX4_move 23 = .ok (.ireturn, 1) := by decide +kernel
set_option maxRecDepth 20000 in
theorem ggX4_gained_X4_requireTold : GoodIn wsX4_gained wsX4_requireTold := goodIn_ca (goodIn_r _ [7, 8, 9, 1, 10, 11, 12, 13, 14, 15, 16, 17, 18, 19, 20] (by decide +kernel) (by decide +kernel)) (goodIn_sub (fun _ h => List.mem_cons_of_mem _ (List.mem_append_right _ h)) (by decide +kernel))
set_option maxRecDepth 20000 in
theorem gX4_gained_X4_requireTold : GoodIn wsX4_gained (wsV RX4 108 RX4 yX4_requireTold wsX4_requireTold) := goodIn_app (goodIn_of _ (by decide +kernel)) ggX4_gained_X4_requireTold
theorem dX4_gained_0 : decode cX4_gained 0 = .ok (.aload_n 0, 1) := by decide +kernel
theorem dX4_gained_1 : decode cX4_gained 1 = .ok (.iload_n 1, 1) := by decide +kernel
theorem dX4_gained_2 : decode cX4_gained 2 = .ok (.invokevirtual 108, 3) := by decide +kernel
theorem dX4_gained_5 : decode cX4_gained 5 = .ok (.aload_n 0, 1) := by decide +kernel
theorem dX4_gained_6 : decode cX4_gained 6 = .ok (.getfield 33, 3) := by decide +kernel
theorem dX4_gained_9 : decode cX4_gained 9 = .ok (.getfield 112, 3) := by decide +kernel
theorem dX4_gained_12 : decode cX4_gained 12 = .ok (.iload_n 1, 1) := by decide +kernel
theorem dX4_gained_13 : decode cX4_gained 13 = .ok (.laload, 1) := by decide +kernel
theorem dX4_gained_14 : decode cX4_gained 14 = .ok (.lreturn, 1) := by decide +kernel
set_option maxRecDepth 20000 in
theorem ggX4_place_X4_requireNode : GoodIn wsX4_place wsX4_requireNode := goodIn_ca (goodIn_r _ [7, 8, 9, 10, 11, 16, 17, 18, 19, 20, 21, 22, 28, 29, 30, 31] (by decide +kernel) (by decide +kernel)) (goodIn_sub (fun _ h => List.mem_cons_of_mem _ (List.mem_append_right _ h)) (by decide +kernel))
set_option maxRecDepth 20000 in
theorem gX4_place_X4_requireNode : GoodIn wsX4_place (wsV RX4 64 RX4 yX4_requireNode wsX4_requireNode) := goodIn_app (goodIn_of _ (by decide +kernel)) ggX4_place_X4_requireNode
set_option maxRecDepth 20000 in
theorem ggX4_place_X4_requireCommunity : GoodIn wsX4_place wsX4_requireCommunity := goodIn_ca (goodIn_r _ [15, 8, 9, 10, 11, 16, 17, 18, 19, 20, 21, 22, 28, 29, 30, 31] (by decide +kernel) (by decide +kernel)) (goodIn_sub (fun _ h => List.mem_cons_of_mem _ (List.mem_append_right _ h)) (by decide +kernel))
set_option maxRecDepth 20000 in
theorem gX4_place_X4_requireCommunity : GoodIn wsX4_place (wsV RX4 115 RX4 yX4_requireCommunity wsX4_requireCommunity) := goodIn_app (goodIn_of _ (by decide +kernel)) ggX4_place_X4_requireCommunity
theorem dX4_place_0 : decode cX4_place 0 = .ok (.aload_n 0, 1) := by decide +kernel
theorem dX4_place_1 : decode cX4_place 1 = .ok (.iload_n 1, 1) := by decide +kernel
theorem dX4_place_2 : decode cX4_place 2 = .ok (.invokevirtual 64, 3) := by decide +kernel
theorem dX4_place_5 : decode cX4_place 5 = .ok (.aload_n 0, 1) := by decide +kernel
theorem dX4_place_6 : decode cX4_place 6 = .ok (.iload_n 2, 1) := by decide +kernel
theorem dX4_place_7 : decode cX4_place 7 = .ok (.invokevirtual 115, 3) := by decide +kernel
theorem dX4_place_10 : decode cX4_place 10 = .ok (.aload_n 0, 1) := by decide +kernel
theorem dX4_place_11 : decode cX4_place 11 = .ok (.getfield 19, 3) := by decide +kernel
theorem dX4_place_14 : decode cX4_place 14 = .ok (.getfield 118, 3) := by decide +kernel
theorem dX4_place_17 : decode cX4_place 17 = .ok (.iload_n 1, 1) := by decide +kernel
theorem dX4_place_18 : decode cX4_place 18 = .ok (.iaload, 1) := by decide +kernel
theorem dX4_place_19 : decode cX4_place 19 = .ok (.istore_n 3, 1) := by decide +kernel
theorem dX4_place_20 : decode cX4_place 20 = .ok (.aload_n 0, 1) := by decide +kernel
theorem dX4_place_21 : decode cX4_place 21 = .ok (.getfield 19, 3) := by decide +kernel
theorem dX4_place_24 : decode cX4_place 24 = .ok (.getfield 118, 3) := by decide +kernel
theorem dX4_place_27 : decode cX4_place 27 = .ok (.iload_n 1, 1) := by decide +kernel
theorem dX4_place_28 : decode cX4_place 28 = .ok (.iload_n 2, 1) := by decide +kernel
theorem dX4_place_29 : decode cX4_place 29 = .ok (.iastore, 1) := by decide +kernel
theorem dX4_place_30 : decode cX4_place 30 = .ok (.iload_n 3, 1) := by decide +kernel
theorem dX4_place_31 : decode cX4_place 31 = .ok (.ireturn, 1) := by decide +kernel
set_option maxRecDepth 20000 in
theorem ggX4_take_X4_requireLevel : GoodIn wsX4_take wsX4_requireLevel := goodIn_ca (goodIn_r _ [15, 16, 17, 1, 18, 19, 20, 21, 22, 23, 24, 25, 26, 27, 28, 29] (by decide +kernel) (by decide +kernel)) (goodIn_sub (fun _ h => List.mem_cons_of_mem _ (List.mem_append_right _ h)) (by decide +kernel))
set_option maxRecDepth 20000 in
theorem gX4_take_X4_requireLevel : GoodIn wsX4_take (wsV RX4 91 RX4 yX4_requireLevel wsX4_requireLevel) := goodIn_app (goodIn_of _ (by decide +kernel)) ggX4_take_X4_requireLevel
theorem dX4_take_0 : decode cX4_take 0 = .ok (.aload_n 0, 1) := by decide +kernel
theorem dX4_take_1 : decode cX4_take 1 = .ok (.iload_n 1, 1) := by decide +kernel
theorem dX4_take_2 : decode cX4_take 2 = .ok (.invokevirtual 91, 3) := by decide +kernel
theorem dX4_take_5 : decode cX4_take 5 = .ok (.aload_n 0, 1) := by decide +kernel
theorem dX4_take_6 : decode cX4_take 6 = .ok (.getfield 26, 3) := by decide +kernel
theorem dX4_take_9 : decode cX4_take 9 = .ok (.getfield 100, 3) := by decide +kernel
theorem dX4_take_12 : decode cX4_take 12 = .ok (.iload_n 1, 1) := by decide +kernel
theorem dX4_take_13 : decode cX4_take 13 = .ok (.bipush 40, 2) := by decide +kernel
theorem dX4_take_15 : decode cX4_take 15 = .ok (.imul, 1) := by decide +kernel
theorem dX4_take_16 : decode cX4_take 16 = .ok (.aload_n 0, 1) := by decide +kernel
theorem dX4_take_17 : decode cX4_take 17 = .ok (.getfield 19, 3) := by decide +kernel
theorem dX4_take_20 : decode cX4_take 20 = .ok (.getfield 118, 3) := by decide +kernel
theorem dX4_take_23 : decode cX4_take 23 = .ok (.iconst 0, 1) := by decide +kernel
theorem dX4_take_24 : decode cX4_take 24 = .ok (.aload_n 0, 1) := by decide +kernel
theorem dX4_take_25 : decode cX4_take 25 = .ok (.getfield 10, 3) := by decide +kernel
theorem dX4_take_28 : decode cX4_take 28 = .ok (.getfield 121, 3) := by decide +kernel
theorem dX4_take_31 : decode cX4_take 31 = .ok (.invokestatic 122, 3) := by decide +kernel
theorem dX4_take_34 : decode cX4_take 34 = .ok (.return_, 1) := by decide +kernel
set_option maxRecDepth 20000 in
theorem ggX4_own_X1_tally : GoodIn wsX4_own wsX1_tally := goodIn_r _ [7, 8, 9, 10, 11, 12, 13, 14, 15, 16, 36, 37, 38, 39, 40, 41, 42, 43, 44] (by decide +kernel) (by decide +kernel)
set_option maxRecDepth 20000 in
theorem gX4_own_X1_tally : GoodIn wsX4_own (wsV RX4 128 RX1 yX1_tally wsX1_tally) := goodIn_app (goodIn_of _ (by decide +kernel)) ggX4_own_X1_tally
set_option maxRecDepth 20000 in
theorem ggX4_own_X1_score : GoodIn wsX4_own wsX1_score := goodIn_r _ [20, 10, 11, 21, 22, 9, 23, 24, 25, 26, 27, 28, 41, 42, 43, 44, 36, 37, 38, 39, 40] (by decide +kernel) (by decide +kernel)
set_option maxRecDepth 20000 in
theorem gX4_own_X1_score : GoodIn wsX4_own (wsV RX4 132 RX1 yX1_score wsX1_score) := goodIn_app (goodIn_of _ (by decide +kernel)) ggX4_own_X1_score
theorem dX4_own_0 : decode cX4_own 0 = .ok (.aload_n 0, 1) := by decide +kernel
theorem dX4_own_1 : decode cX4_own 1 = .ok (.getfield 19, 3) := by decide +kernel
theorem dX4_own_4 : decode cX4_own 4 = .ok (.aload_n 0, 1) := by decide +kernel
theorem dX4_own_5 : decode cX4_own 5 = .ok (.getfield 10, 3) := by decide +kernel
theorem dX4_own_8 : decode cX4_own 8 = .ok (.invokevirtual 128, 3) := by decide +kernel
theorem dX4_own_11 : decode cX4_own 11 = .ok (.aload_n 0, 1) := by decide +kernel
theorem dX4_own_12 : decode cX4_own 12 = .ok (.getfield 19, 3) := by decide +kernel
theorem dX4_own_15 : decode cX4_own 15 = .ok (.aload_n 0, 1) := by decide +kernel
theorem dX4_own_16 : decode cX4_own 16 = .ok (.getfield 10, 3) := by decide +kernel
theorem dX4_own_19 : decode cX4_own 19 = .ok (.invokevirtual 132, 3) := by decide +kernel
theorem dX4_own_22 : decode cX4_own 22 = .ok (.lreturn, 1) := by decide +kernel
set_option maxRecDepth 20000 in
theorem ggX4_gain_X4_requireNode : GoodIn wsX4_gain wsX4_requireNode := goodIn_ca (goodIn_r _ [7, 8, 9, 2, 10, 47, 48, 49, 50, 51, 52, 53, 54, 55, 56, 57] (by decide +kernel) (by decide +kernel)) (goodIn_sub (fun _ h => List.mem_cons_of_mem _ (List.mem_append_right _ h)) (by decide +kernel))
set_option maxRecDepth 20000 in
theorem gX4_gain_X4_requireNode : GoodIn wsX4_gain (wsV RX4 64 RX4 yX4_requireNode wsX4_requireNode) := goodIn_app (goodIn_of _ (by decide +kernel)) ggX4_gain_X4_requireNode
set_option maxRecDepth 20000 in
theorem ggX4_gain_X4_requireCommunity : GoodIn wsX4_gain wsX4_requireCommunity := goodIn_ca (goodIn_r _ [14, 8, 9, 2, 10, 47, 48, 49, 50, 51, 52, 53, 54, 55, 56, 57] (by decide +kernel) (by decide +kernel)) (goodIn_sub (fun _ h => List.mem_cons_of_mem _ (List.mem_append_right _ h)) (by decide +kernel))
set_option maxRecDepth 20000 in
theorem gX4_gain_X4_requireCommunity : GoodIn wsX4_gain (wsV RX4 115 RX4 yX4_requireCommunity wsX4_requireCommunity) := goodIn_app (goodIn_of _ (by decide +kernel)) ggX4_gain_X4_requireCommunity
set_option maxRecDepth 20000 in
theorem ggX4_gain_X1_tally : GoodIn wsX4_gain wsX1_tally := goodIn_r _ [19, 20, 21, 22, 23, 24, 25, 26, 27, 28, 58, 59, 60, 61, 62, 54, 55, 56, 57] (by decide +kernel) (by decide +kernel)
set_option maxRecDepth 20000 in
theorem gX4_gain_X1_tally : GoodIn wsX4_gain (wsV RX4 128 RX1 yX1_tally wsX1_tally) := goodIn_app (goodIn_of _ (by decide +kernel)) ggX4_gain_X1_tally
set_option maxRecDepth 20000 in
theorem ggX4_gain_X1_tie : GoodIn wsX4_gain wsX1_tie := goodIn_r _ [32, 33, 22, 23, 25, 26, 27, 28, 34, 35, 36, 37, 38, 39, 58, 59, 60, 61, 62, 54, 55, 56, 57] (by decide +kernel) (by decide +kernel)
set_option maxRecDepth 20000 in
theorem gX4_gain_X1_tie : GoodIn wsX4_gain (wsV RX4 136 RX1 yX1_tie wsX1_tie) := goodIn_app (goodIn_of _ (by decide +kernel)) ggX4_gain_X1_tie
set_option maxRecDepth 20000 in
theorem ggX4_gain_X1_gainInto : GoodIn wsX4_gain wsX1_gainInto := goodIn_r _ [43, 23, 24, 21, 33, 44, 45, 46, 58, 59, 60, 61, 62, 54, 55, 56, 57] (by decide +kernel) (by decide +kernel)
set_option maxRecDepth 20000 in
theorem gX4_gain_X1_gainInto : GoodIn wsX4_gain (wsV RX4 140 RX1 yX1_gainInto wsX1_gainInto) := goodIn_app (goodIn_of _ (by decide +kernel)) ggX4_gain_X1_gainInto
theorem dX4_gain_0 : decode cX4_gain 0 = .ok (.aload_n 0, 1) := by decide +kernel
theorem dX4_gain_1 : decode cX4_gain 1 = .ok (.iload_n 1, 1) := by decide +kernel
theorem dX4_gain_2 : decode cX4_gain 2 = .ok (.invokevirtual 64, 3) := by decide +kernel
theorem dX4_gain_5 : decode cX4_gain 5 = .ok (.aload_n 0, 1) := by decide +kernel
theorem dX4_gain_6 : decode cX4_gain 6 = .ok (.iload_n 2, 1) := by decide +kernel
theorem dX4_gain_7 : decode cX4_gain 7 = .ok (.invokevirtual 115, 3) := by decide +kernel
theorem dX4_gain_10 : decode cX4_gain 10 = .ok (.aload_n 0, 1) := by decide +kernel
theorem dX4_gain_11 : decode cX4_gain 11 = .ok (.getfield 19, 3) := by decide +kernel
theorem dX4_gain_14 : decode cX4_gain 14 = .ok (.aload_n 0, 1) := by decide +kernel
theorem dX4_gain_15 : decode cX4_gain 15 = .ok (.getfield 10, 3) := by decide +kernel
theorem dX4_gain_18 : decode cX4_gain 18 = .ok (.invokevirtual 128, 3) := by decide +kernel
theorem dX4_gain_21 : decode cX4_gain 21 = .ok (.aload_n 0, 1) := by decide +kernel
theorem dX4_gain_22 : decode cX4_gain 22 = .ok (.getfield 19, 3) := by decide +kernel
theorem dX4_gain_25 : decode cX4_gain 25 = .ok (.aload_n 0, 1) := by decide +kernel
theorem dX4_gain_26 : decode cX4_gain 26 = .ok (.getfield 10, 3) := by decide +kernel
theorem dX4_gain_29 : decode cX4_gain 29 = .ok (.iload_n 1, 1) := by decide +kernel
theorem dX4_gain_30 : decode cX4_gain 30 = .ok (.invokevirtual 136, 3) := by decide +kernel
theorem dX4_gain_33 : decode cX4_gain 33 = .ok (.aload_n 0, 1) := by decide +kernel
theorem dX4_gain_34 : decode cX4_gain 34 = .ok (.getfield 19, 3) := by decide +kernel
theorem dX4_gain_37 : decode cX4_gain 37 = .ok (.aload_n 0, 1) := by decide +kernel
theorem dX4_gain_38 : decode cX4_gain 38 = .ok (.getfield 10, 3) := by decide +kernel
theorem dX4_gain_41 : decode cX4_gain 41 = .ok (.iload_n 1, 1) := by decide +kernel
theorem dX4_gain_42 : decode cX4_gain 42 = .ok (.iload_n 2, 1) := by decide +kernel
theorem dX4_gain_43 : decode cX4_gain 43 = .ok (.invokevirtual 140, 3) := by decide +kernel
theorem dX4_gain_46 : decode cX4_gain 46 = .ok (.lreturn, 1) := by decide +kernel
set_option maxRecDepth 20000 in
theorem ggX4_about_X4_requireNode : GoodIn wsX4_about wsX4_requireNode := goodIn_ca (goodIn_r _ [13, 1, 2, 3, 4, 20, 21, 22, 23, 24, 25, 26, 27, 28, 29, 30] (by decide +kernel) (by decide +kernel)) (goodIn_sub (fun _ h => List.mem_cons_of_mem _ (List.mem_append_right _ h)) (by decide +kernel))
set_option maxRecDepth 20000 in
theorem gX4_about_X4_requireNode : GoodIn wsX4_about (wsV RX4 64 RX4 yX4_requireNode wsX4_requireNode) := goodIn_app (goodIn_of _ (by decide +kernel)) ggX4_about_X4_requireNode
set_option maxRecDepth 20000 in
theorem ggX4_about_X0_between : GoodIn wsX4_about wsX0_between := goodIn_r _ [18, 19, 27, 28, 29, 30] (by decide +kernel) (by decide +kernel)
set_option maxRecDepth 20000 in
theorem gX4_about_X0_between : GoodIn wsX4_about (wsV RX4 69 RX0 yX0_between wsX0_between) := goodIn_app (goodIn_of _ (by decide +kernel)) ggX4_about_X0_between
theorem dX4_about_0 : decode cX4_about 0 = .ok (.iload_n 1, 1) := by decide +kernel
theorem dX4_about_1 : decode cX4_about 1 = .ok (.ifCond .ne 11, 3) := by decide +kernel
theorem dX4_about_4 : decode cX4_about 4 = .ok (.aload_n 0, 1) := by decide +kernel
theorem dX4_about_5 : decode cX4_about 5 = .ok (.getfield 10, 3) := by decide +kernel
theorem dX4_about_8 : decode cX4_about 8 = .ok (.getfield 121, 3) := by decide +kernel
theorem dX4_about_11 : decode cX4_about 11 = .ok (.ireturn, 1) := by decide +kernel
theorem dX4_about_12 : decode cX4_about 12 = .ok (.iload_n 1, 1) := by decide +kernel
theorem dX4_about_13 : decode cX4_about 13 = .ok (.iconst 1, 1) := by decide +kernel
theorem dX4_about_14 : decode cX4_about 14 = .ok (.if_icmp .ne 11, 3) := by decide +kernel
theorem dX4_about_17 : decode cX4_about 17 = .ok (.aload_n 0, 1) := by decide +kernel
theorem dX4_about_18 : decode cX4_about 18 = .ok (.getfield 10, 3) := by decide +kernel
theorem dX4_about_21 : decode cX4_about 21 = .ok (.getfield 73, 3) := by decide +kernel
theorem dX4_about_24 : decode cX4_about 24 = .ok (.ireturn, 1) := by decide +kernel
theorem dX4_about_25 : decode cX4_about 25 = .ok (.iload_n 1, 1) := by decide +kernel
theorem dX4_about_26 : decode cX4_about 26 = .ok (.ifCond .lt 8, 3) := by decide +kernel
theorem dX4_about_29 : decode cX4_about 29 = .ok (.iload_n 1, 1) := by decide +kernel
theorem dX4_about_30 : decode cX4_about 30 = .ok (.iconst 4, 1) := by decide +kernel
theorem dX4_about_31 : decode cX4_about 31 = .ok (.if_icmp .le 13, 3) := by decide +kernel
theorem dX4_about_34 : decode cX4_about 34 = .ok (.new 144, 3) := by decide +kernel
theorem dX4_about_37 : decode cX4_about 37 = .ok (.dup, 1) := by decide +kernel
theorem dX4_about_38 : decode cX4_about 38 = .ok (.ldc 146, 2) := by decide +kernel
theorem dX4_about_40 : decode cX4_about 40 = .ok (.invokespecial 148, 3) := by decide +kernel
theorem dX4_about_43 : decode cX4_about 43 = .ok (.athrow, 1) := by decide +kernel
theorem dX4_about_44 : decode cX4_about 44 = .ok (.aload_n 0, 1) := by decide +kernel
theorem dX4_about_45 : decode cX4_about 45 = .ok (.iload_n 2, 1) := by decide +kernel
theorem dX4_about_46 : decode cX4_about 46 = .ok (.invokevirtual 64, 3) := by decide +kernel
theorem dX4_about_49 : decode cX4_about 49 = .ok (.iload_n 1, 1) := by decide +kernel
theorem dX4_about_50 : decode cX4_about 50 = .ok (.iconst 2, 1) := by decide +kernel
theorem dX4_about_51 : decode cX4_about 51 = .ok (.if_icmp .ne 13, 3) := by decide +kernel
theorem dX4_about_54 : decode cX4_about 54 = .ok (.aload_n 0, 1) := by decide +kernel
theorem dX4_about_55 : decode cX4_about 55 = .ok (.getfield 10, 3) := by decide +kernel
theorem dX4_about_58 : decode cX4_about 58 = .ok (.getfield 149, 3) := by decide +kernel
theorem dX4_about_61 : decode cX4_about 61 = .ok (.iload_n 2, 1) := by decide +kernel
theorem dX4_about_62 : decode cX4_about 62 = .ok (.iaload, 1) := by decide +kernel
theorem dX4_about_63 : decode cX4_about 63 = .ok (.ireturn, 1) := by decide +kernel
theorem dX4_about_64 : decode cX4_about 64 = .ok (.iload_n 1, 1) := by decide +kernel
theorem dX4_about_65 : decode cX4_about 65 = .ok (.iconst 3, 1) := by decide +kernel
theorem dX4_about_66 : decode cX4_about 66 = .ok (.if_icmp .ne 15, 3) := by decide +kernel
theorem dX4_about_69 : decode cX4_about 69 = .ok (.aload_n 0, 1) := by decide +kernel
theorem dX4_about_70 : decode cX4_about 70 = .ok (.getfield 10, 3) := by decide +kernel
theorem dX4_about_73 : decode cX4_about 73 = .ok (.iload_n 2, 1) := by decide +kernel
theorem dX4_about_74 : decode cX4_about 74 = .ok (.iload_n 2, 1) := by decide +kernel
theorem dX4_about_75 : decode cX4_about 75 = .ok (.invokevirtual 69, 3) := by decide +kernel
theorem dX4_about_78 : decode cX4_about 78 = .ok (.goto 12, 3) := by decide +kernel
theorem dX4_about_81 : decode cX4_about 81 = .ok (.aload_n 0, 1) := by decide +kernel
theorem dX4_about_82 : decode cX4_about 82 = .ok (.getfield 19, 3) := by decide +kernel
theorem dX4_about_85 : decode cX4_about 85 = .ok (.getfield 118, 3) := by decide +kernel
theorem dX4_about_88 : decode cX4_about 88 = .ok (.iload_n 2, 1) := by decide +kernel
theorem dX4_about_89 : decode cX4_about 89 = .ok (.iaload, 1) := by decide +kernel
theorem dX4_about_90 : decode cX4_about 90 = .ok (.ireturn, 1) := by decide +kernel
theorem dX4_requireNode_0 : decode cX4_requireNode 0 = .ok (.iload_n 1, 1) := by decide +kernel
theorem dX4_requireNode_1 : decode cX4_requireNode 1 = .ok (.ifCond .lt 14, 3) := by decide +kernel
theorem dX4_requireNode_4 : decode cX4_requireNode 4 = .ok (.iload_n 1, 1) := by decide +kernel
theorem dX4_requireNode_5 : decode cX4_requireNode 5 = .ok (.aload_n 0, 1) := by decide +kernel
theorem dX4_requireNode_6 : decode cX4_requireNode 6 = .ok (.getfield 10, 3) := by decide +kernel
theorem dX4_requireNode_9 : decode cX4_requireNode 9 = .ok (.getfield 121, 3) := by decide +kernel
theorem dX4_requireNode_12 : decode cX4_requireNode 12 = .ok (.if_icmp .lt 13, 3) := by decide +kernel
theorem dX4_requireNode_15 : decode cX4_requireNode 15 = .ok (.new 144, 3) := by decide +kernel
theorem dX4_requireNode_18 : decode cX4_requireNode 18 = .ok (.dup, 1) := by decide +kernel
theorem dX4_requireNode_19 : decode cX4_requireNode 19 = .ok (.ldc 152, 2) := by decide +kernel
theorem dX4_requireNode_21 : decode cX4_requireNode 21 = .ok (.invokespecial 148, 3) := by decide +kernel
theorem dX4_requireNode_24 : decode cX4_requireNode 24 = .ok (.athrow, 1) := by decide +kernel
theorem dX4_requireNode_25 : decode cX4_requireNode 25 = .ok (.return_, 1) := by decide +kernel
theorem dX4_requireCommunity_0 : decode cX4_requireCommunity 0 = .ok (.iload_n 1, 1) := by decide +kernel
theorem dX4_requireCommunity_1 : decode cX4_requireCommunity 1 = .ok (.ifCond .lt 14, 3) := by decide +kernel
theorem dX4_requireCommunity_4 : decode cX4_requireCommunity 4 = .ok (.iload_n 1, 1) := by decide +kernel
theorem dX4_requireCommunity_5 : decode cX4_requireCommunity 5 = .ok (.aload_n 0, 1) := by decide +kernel
theorem dX4_requireCommunity_6 : decode cX4_requireCommunity 6 = .ok (.getfield 10, 3) := by decide +kernel
theorem dX4_requireCommunity_9 : decode cX4_requireCommunity 9 = .ok (.getfield 121, 3) := by decide +kernel
theorem dX4_requireCommunity_12 : decode cX4_requireCommunity 12 = .ok (.if_icmp .lt 13, 3) := by decide +kernel
theorem dX4_requireCommunity_15 : decode cX4_requireCommunity 15 = .ok (.new 144, 3) := by decide +kernel
theorem dX4_requireCommunity_18 : decode cX4_requireCommunity 18 = .ok (.dup, 1) := by decide +kernel
theorem dX4_requireCommunity_19 : decode cX4_requireCommunity 19 = .ok (.ldc 154, 2) := by decide +kernel
theorem dX4_requireCommunity_21 : decode cX4_requireCommunity 21 = .ok (.invokespecial 148, 3) := by decide +kernel
theorem dX4_requireCommunity_24 : decode cX4_requireCommunity 24 = .ok (.athrow, 1) := by decide +kernel
theorem dX4_requireCommunity_25 : decode cX4_requireCommunity 25 = .ok (.return_, 1) := by decide +kernel
theorem dX4_requireLevel_0 : decode cX4_requireLevel 0 = .ok (.iload_n 1, 1) := by decide +kernel
theorem dX4_requireLevel_1 : decode cX4_requireLevel 1 = .ok (.ifCond .lt 14, 3) := by decide +kernel
theorem dX4_requireLevel_4 : decode cX4_requireLevel 4 = .ok (.iload_n 1, 1) := by decide +kernel
theorem dX4_requireLevel_5 : decode cX4_requireLevel 5 = .ok (.aload_n 0, 1) := by decide +kernel
theorem dX4_requireLevel_6 : decode cX4_requireLevel 6 = .ok (.getfield 26, 3) := by decide +kernel
theorem dX4_requireLevel_9 : decode cX4_requireLevel 9 = .ok (.getfield 85, 3) := by decide +kernel
theorem dX4_requireLevel_12 : decode cX4_requireLevel 12 = .ok (.if_icmp .lt 13, 3) := by decide +kernel
theorem dX4_requireLevel_15 : decode cX4_requireLevel 15 = .ok (.new 144, 3) := by decide +kernel
theorem dX4_requireLevel_18 : decode cX4_requireLevel 18 = .ok (.dup, 1) := by decide +kernel
theorem dX4_requireLevel_19 : decode cX4_requireLevel 19 = .ok (.ldc 156, 2) := by decide +kernel
theorem dX4_requireLevel_21 : decode cX4_requireLevel 21 = .ok (.invokespecial 148, 3) := by decide +kernel
theorem dX4_requireLevel_24 : decode cX4_requireLevel 24 = .ok (.athrow, 1) := by decide +kernel
theorem dX4_requireLevel_25 : decode cX4_requireLevel 25 = .ok (.return_, 1) := by decide +kernel
theorem dX4_requireTold_0 : decode cX4_requireTold 0 = .ok (.iload_n 1, 1) := by decide +kernel
theorem dX4_requireTold_1 : decode cX4_requireTold 1 = .ok (.ifCond .lt 21, 3) := by decide +kernel
theorem dX4_requireTold_4 : decode cX4_requireTold 4 = .ok (.iload_n 1, 1) := by decide +kernel
theorem dX4_requireTold_5 : decode cX4_requireTold 5 = .ok (.aload_n 0, 1) := by decide +kernel
theorem dX4_requireTold_6 : decode cX4_requireTold 6 = .ok (.getfield 33, 3) := by decide +kernel
theorem dX4_requireTold_9 : decode cX4_requireTold 9 = .ok (.getfield 107, 3) := by decide +kernel
theorem dX4_requireTold_12 : decode cX4_requireTold 12 = .ok (.if_icmp .ge 10, 3) := by decide +kernel
theorem dX4_requireTold_15 : decode cX4_requireTold 15 = .ok (.iload_n 1, 1) := by decide +kernel
theorem dX4_requireTold_16 : decode cX4_requireTold 16 = .ok (.sipush 400, 3) := by decide +kernel
theorem dX4_requireTold_19 : decode cX4_requireTold 19 = .ok (.if_icmp .lt 13, 3) := by decide +kernel
theorem dX4_requireTold_22 : decode cX4_requireTold 22 = .ok (.new 144, 3) := by decide +kernel
theorem dX4_requireTold_25 : decode cX4_requireTold 25 = .ok (.dup, 1) := by decide +kernel
theorem dX4_requireTold_26 : decode cX4_requireTold 26 = .ok (.ldc 158, 2) := by decide +kernel
theorem dX4_requireTold_28 : decode cX4_requireTold 28 = .ok (.invokespecial 148, 3) := by decide +kernel
theorem dX4_requireTold_31 : decode cX4_requireTold 31 = .ok (.athrow, 1) := by decide +kernel
theorem dX4_requireTold_32 : decode cX4_requireTold 32 = .ok (.return_, 1) := by decide +kernel
theorem dX4_requireFact_0 : decode cX4_requireFact 0 = .ok (.iload_n 1, 1) := by decide +kernel
theorem dX4_requireFact_1 : decode cX4_requireFact 1 = .ok (.ifCond .lt 8, 3) := by decide +kernel
theorem dX4_requireFact_4 : decode cX4_requireFact 4 = .ok (.iload_n 1, 1) := by decide +kernel
theorem dX4_requireFact_5 : decode cX4_requireFact 5 = .ok (.iconst 4, 1) := by decide +kernel
theorem dX4_requireFact_6 : decode cX4_requireFact 6 = .ok (.if_icmp .lt 13, 3) := by decide +kernel
theorem dX4_requireFact_9 : decode cX4_requireFact 9 = .ok (.new 144, 3) := by decide +kernel
theorem dX4_requireFact_12 : decode cX4_requireFact 12 = .ok (.dup, 1) := by decide +kernel
theorem dX4_requireFact_13 : decode cX4_requireFact 13 = .ok (.ldc 160, 2) := by decide +kernel
theorem dX4_requireFact_15 : decode cX4_requireFact 15 = .ok (.invokespecial 148, 3) := by decide +kernel
theorem dX4_requireFact_18 : decode cX4_requireFact 18 = .ok (.athrow, 1) := by decide +kernel
theorem dX4_requireFact_19 : decode cX4_requireFact 19 = .ok (.return_, 1) := by decide +kernel
theorem dX4_forgetRun_0 : decode cX4_forgetRun 0 = .ok (.aload_n 0, 1) := by decide +kernel
theorem dX4_forgetRun_1 : decode cX4_forgetRun 1 = .ok (.getfield 26, 3) := by decide +kernel
theorem dX4_forgetRun_4 : decode cX4_forgetRun 4 = .ok (.iconst 0, 1) := by decide +kernel
theorem dX4_forgetRun_5 : decode cX4_forgetRun 5 = .ok (.putfield 85, 3) := by decide +kernel
theorem dX4_forgetRun_8 : decode cX4_forgetRun 8 = .ok (.aload_n 0, 1) := by decide +kernel
theorem dX4_forgetRun_9 : decode cX4_forgetRun 9 = .ok (.getfield 33, 3) := by decide +kernel
theorem dX4_forgetRun_12 : decode cX4_forgetRun 12 = .ok (.iconst 0, 1) := by decide +kernel
theorem dX4_forgetRun_13 : decode cX4_forgetRun 13 = .ok (.putfield 107, 3) := by decide +kernel
theorem dX4_forgetRun_16 : decode cX4_forgetRun 16 = .ok (.return_, 1) := by decide +kernel
set_option maxRecDepth 20000 in
theorem ggX4_makeLevels_X0_contract : GoodIn wsX4_makeLevels wsX0_contract := goodIn_r _ [9, 10, 11, 12, 13, 8, 14, 15, 16, 17, 18, 19, 20, 21, 22, 23, 24, 25, 26, 27, 28, 29, 123, 124, 125, 126] (by decide +kernel) (by decide +kernel)
set_option maxRecDepth 20000 in
theorem gX4_makeLevels_X0_contract : GoodIn wsX4_makeLevels (wsV RX4 162 RX0 yX0_contract wsX0_contract) := goodIn_app (goodIn_of _ (by decide +kernel)) ggX4_makeLevels_X0_contract
set_option maxRecDepth 20000 in
theorem ggX4_makeLevels_X4_makeLevel : GoodIn wsX4_makeLevels wsX4_makeLevel := goodIn_r _ [34, 35, 4, 2, 36, 37, 38, 1, 3, 39, 40, 41, 42, 43, 44, 45, 46, 47, 48, 49, 50, 51, 52, 53, 54, 55, 19, 20, 21, 56, 57, 58, 33, 59, 60, 61, 62, 63, 64, 65, 23, 24, 8, 25, 15, 66, 67, 68, 69, 70, 71, 72, 73, 74, 75, 76, 77, 78, 79, 80, 81, 82, 83, 84, 85, 86, 87, 88, 89, 90, 91, 92, 93, 94, 95, 96, 97, 98, 99, 100, 101, 102, 103, 104, 105, 106, 107, 108, 109, 110, 111, 112, 113, 114, 115, 5, 6, 7, 9, 10, 11, 12, 13, 14, 16, 17, 18, 22, 26, 27, 28, 29, 116, 117, 118, 119, 120, 121, 122, 123, 124, 125, 126, 127, 128, 129, 130, 131, 132, 133, 134, 135, 136, 137, 138] (by decide +kernel) (by decide +kernel)
set_option maxRecDepth 20000 in
theorem gX4_makeLevels_X4_makeLevel : GoodIn wsX4_makeLevels (wsV RX4 166 RX4 yX4_makeLevel wsX4_makeLevel) := goodIn_app (goodIn_of _ (by decide +kernel)) ggX4_makeLevels_X4_makeLevel
end
section
theorem dX4_makeLevels_0 : decode cX4_makeLevels 0 = .ok (.iconst 0, 1) := by decide +kernel
theorem dX4_makeLevels_1 : decode cX4_makeLevels 1 = .ok (.istore_n 1, 1) := by decide +kernel
theorem dX4_makeLevels_2 : decode cX4_makeLevels 2 = .ok (.iload_n 1, 1) := by decide +kernel
theorem dX4_makeLevels_3 : decode cX4_makeLevels 3 = .ok (.aload_n 0, 1) := by decide +kernel
theorem dX4_makeLevels_4 : decode cX4_makeLevels 4 = .ok (.getfield 10, 3) := by decide +kernel
theorem dX4_makeLevels_7 : decode cX4_makeLevels 7 = .ok (.getfield 121, 3) := by decide +kernel
theorem dX4_makeLevels_10 : decode cX4_makeLevels 10 = .ok (.if_icmp .ge 16, 3) := by decide +kernel
theorem dX4_makeLevels_13 : decode cX4_makeLevels 13 = .ok (.aload_n 0, 1) := by decide +kernel
theorem dX4_makeLevels_14 : decode cX4_makeLevels 14 = .ok (.getfield 43, 3) := by decide +kernel
theorem dX4_makeLevels_17 : decode cX4_makeLevels 17 = .ok (.iload_n 1, 1) := by decide +kernel
theorem dX4_makeLevels_18 : decode cX4_makeLevels 18 = .ok (.iload_n 1, 1) := by decide +kernel
theorem dX4_makeLevels_19 : decode cX4_makeLevels 19 = .ok (.iastore, 1) := by decide +kernel
theorem dX4_makeLevels_20 : decode cX4_makeLevels 20 = .ok (.iinc 1 1, 3) := by decide +kernel
theorem dX4_makeLevels_23 : decode cX4_makeLevels 23 = .ok (.goto (-21), 3) := by decide +kernel
theorem dX4_makeLevels_26 : decode cX4_makeLevels 26 = .ok (.aload_n 0, 1) := by decide +kernel
theorem dX4_makeLevels_27 : decode cX4_makeLevels 27 = .ok (.getfield 37, 3) := by decide +kernel
theorem dX4_makeLevels_30 : decode cX4_makeLevels 30 = .ok (.aload_n 0, 1) := by decide +kernel
theorem dX4_makeLevels_31 : decode cX4_makeLevels 31 = .ok (.getfield 10, 3) := by decide +kernel
theorem dX4_makeLevels_34 : decode cX4_makeLevels 34 = .ok (.aload_n 0, 1) := by decide +kernel
theorem dX4_makeLevels_35 : decode cX4_makeLevels 35 = .ok (.getfield 43, 3) := by decide +kernel
theorem dX4_makeLevels_38 : decode cX4_makeLevels 38 = .ok (.aload_n 0, 1) := by decide +kernel
theorem dX4_makeLevels_39 : decode cX4_makeLevels 39 = .ok (.getfield 10, 3) := by decide +kernel
theorem dX4_makeLevels_42 : decode cX4_makeLevels 42 = .ok (.getfield 121, 3) := by decide +kernel
theorem dX4_makeLevels_45 : decode cX4_makeLevels 45 = .ok (.invokevirtual 162, 3) := by decide +kernel
theorem dX4_makeLevels_48 : decode cX4_makeLevels 48 = .ok (.iconst 1, 1) := by decide +kernel
theorem dX4_makeLevels_49 : decode cX4_makeLevels 49 = .ok (.istore_n 1, 1) := by decide +kernel
theorem dX4_makeLevels_50 : decode cX4_makeLevels 50 = .ok (.iconst 0, 1) := by decide +kernel
theorem dX4_makeLevels_51 : decode cX4_makeLevels 51 = .ok (.istore_n 2, 1) := by decide +kernel
theorem dX4_makeLevels_52 : decode cX4_makeLevels 52 = .ok (.iload_n 1, 1) := by decide +kernel
theorem dX4_makeLevels_53 : decode cX4_makeLevels 53 = .ok (.ifCond .eq 21, 3) := by decide +kernel
theorem dX4_makeLevels_56 : decode cX4_makeLevels 56 = .ok (.iload_n 2, 1) := by decide +kernel
theorem dX4_makeLevels_57 : decode cX4_makeLevels 57 = .ok (.bipush 40, 2) := by decide +kernel
theorem dX4_makeLevels_59 : decode cX4_makeLevels 59 = .ok (.if_icmp .ge 15, 3) := by decide +kernel
theorem dX4_makeLevels_62 : decode cX4_makeLevels 62 = .ok (.aload_n 0, 1) := by decide +kernel
theorem dX4_makeLevels_63 : decode cX4_makeLevels 63 = .ok (.iload_n 2, 1) := by decide +kernel
theorem dX4_makeLevels_64 : decode cX4_makeLevels 64 = .ok (.invokevirtual 166, 3) := by decide +kernel
theorem dX4_makeLevels_67 : decode cX4_makeLevels 67 = .ok (.istore_n 1, 1) := by decide +kernel
theorem dX4_makeLevels_68 : decode cX4_makeLevels 68 = .ok (.iinc 2 1, 3) := by decide +kernel
theorem dX4_makeLevels_71 : decode cX4_makeLevels 71 = .ok (.goto (-19), 3) := by decide +kernel
theorem dX4_makeLevels_74 : decode cX4_makeLevels 74 = .ok (.return_, 1) := by decide +kernel
set_option maxRecDepth 20000 in
theorem ggX4_makeLevel_X1_separate : GoodIn wsX4_makeLevel wsX1_separate := goodIn_r _ [15, 16, 126, 127, 128, 129, 130] (by decide +kernel) (by decide +kernel)
set_option maxRecDepth 20000 in
theorem gX4_makeLevel_X1_separate : GoodIn wsX4_makeLevel (wsV RX4 58 RX1 yX1_separate wsX1_separate) := goodIn_app (goodIn_of _ (by decide +kernel)) ggX4_makeLevel_X1_separate
set_option maxRecDepth 20000 in
theorem ggX4_makeLevel_X1_tally : GoodIn wsX4_makeLevel wsX1_tally := goodIn_r _ [20, 21, 22, 23, 16, 24, 25, 26, 27, 28, 126, 127, 128, 129, 130, 119, 120, 121, 122] (by decide +kernel) (by decide +kernel)
set_option maxRecDepth 20000 in
theorem gX4_makeLevel_X1_tally : GoodIn wsX4_makeLevel (wsV RX4 128 RX1 yX1_tally wsX1_tally) := goodIn_app (goodIn_of _ (by decide +kernel)) ggX4_makeLevel_X1_tally
set_option maxRecDepth 20000 in
theorem ggX4_makeLevel_X4_makePass : GoodIn wsX4_makeLevel wsX4_makePass := goodIn_r _ [33, 2, 3, 1, 4, 9, 34, 35, 36, 14, 37, 38, 23, 16, 25, 26, 27, 28, 39, 40, 41, 42, 43, 44, 45, 46, 47, 48, 21, 49, 50, 51, 52, 24, 22, 53, 54, 55, 56, 57, 58, 59, 60, 61, 62, 63, 64, 65, 66, 67, 68, 69, 70, 71, 72, 112, 113, 114, 115, 116, 117, 118, 119, 120, 121, 122, 126, 127, 128, 129, 130, 123, 124, 125] (by decide +kernel) (by decide +kernel)
set_option maxRecDepth 20000 in
theorem gX4_makeLevel_X4_makePass : GoodIn wsX4_makeLevel (wsV RX4 171 RX4 yX4_makePass wsX4_makePass) := goodIn_app (goodIn_of _ (by decide +kernel)) ggX4_makeLevel_X4_makePass
set_option maxRecDepth 20000 in
theorem ggX4_makeLevel_X1_score : GoodIn wsX4_makeLevel wsX1_score := goodIn_r _ [76, 23, 16, 53, 54, 22, 39, 40, 41, 42, 43, 44, 119, 120, 121, 122, 126, 127, 128, 129, 130] (by decide +kernel) (by decide +kernel)
set_option maxRecDepth 20000 in
theorem gX4_makeLevel_X1_score : GoodIn wsX4_makeLevel (wsV RX4 132 RX1 yX1_score wsX1_score) := goodIn_app (goodIn_of _ (by decide +kernel)) ggX4_makeLevel_X1_score
set_option maxRecDepth 20000 in
theorem ggX4_makeLevel_X1_renumber : GoodIn wsX4_makeLevel wsX1_renumber := goodIn_r _ [80, 81, 16, 25, 26, 27, 28, 126, 127, 128, 129, 130] (by decide +kernel) (by decide +kernel)
set_option maxRecDepth 20000 in
theorem gX4_makeLevel_X1_renumber : GoodIn wsX4_makeLevel (wsV RX4 174 RX1 yX1_renumber wsX1_renumber) := goodIn_app (goodIn_of _ (by decide +kernel)) ggX4_makeLevel_X1_renumber
set_option maxRecDepth 20000 in
theorem ggX4_makeLevel_X2_append : GoodIn wsX4_makeLevel wsX2_append := goodIn_r _ [86, 87, 88, 89, 90, 91, 92, 93, 94, 131, 132, 133, 134] (by decide +kernel) (by decide +kernel)
set_option maxRecDepth 20000 in
theorem gX4_makeLevel_X2_append : GoodIn wsX4_makeLevel (wsV RX4 178 RX2 yX2_append wsX2_append) := goodIn_app (goodIn_of _ (by decide +kernel)) ggX4_makeLevel_X2_append
set_option maxRecDepth 20000 in
theorem ggX4_makeLevel_X0_contract : GoodIn wsX4_makeLevel wsX0_contract := goodIn_r _ [98, 99, 100, 101, 102, 42, 103, 44, 104, 105, 106, 26, 27, 28, 107, 40, 41, 43, 108, 109, 110, 111, 119, 120, 121, 122] (by decide +kernel) (by decide +kernel)
set_option maxRecDepth 20000 in
theorem gX4_makeLevel_X0_contract : GoodIn wsX4_makeLevel (wsV RX4 162 RX0 yX0_contract wsX0_contract) := goodIn_app (goodIn_of _ (by decide +kernel)) ggX4_makeLevel_X0_contract
theorem dX4_makeLevel_0 : decode cX4_makeLevel 0 = .ok (.aload_n 0, 1) := by decide +kernel
theorem dX4_makeLevel_1 : decode cX4_makeLevel 1 = .ok (.getfield 40, 3) := by decide +kernel
theorem dX4_makeLevel_4 : decode cX4_makeLevel 4 = .ok (.aload_n 0, 1) := by decide +kernel
theorem dX4_makeLevel_5 : decode cX4_makeLevel 5 = .ok (.getfield 37, 3) := by decide +kernel
theorem dX4_makeLevel_8 : decode cX4_makeLevel 8 = .ok (.getfield 121, 3) := by decide +kernel
theorem dX4_makeLevel_11 : decode cX4_makeLevel 11 = .ok (.invokevirtual 58, 3) := by decide +kernel
theorem dX4_makeLevel_14 : decode cX4_makeLevel 14 = .ok (.aload_n 0, 1) := by decide +kernel
theorem dX4_makeLevel_15 : decode cX4_makeLevel 15 = .ok (.getfield 40, 3) := by decide +kernel
theorem dX4_makeLevel_18 : decode cX4_makeLevel 18 = .ok (.aload_n 0, 1) := by decide +kernel
theorem dX4_makeLevel_19 : decode cX4_makeLevel 19 = .ok (.getfield 37, 3) := by decide +kernel
theorem dX4_makeLevel_22 : decode cX4_makeLevel 22 = .ok (.invokevirtual 128, 3) := by decide +kernel
theorem dX4_makeLevel_25 : decode cX4_makeLevel 25 = .ok (.aload_n 0, 1) := by decide +kernel
theorem dX4_makeLevel_26 : decode cX4_makeLevel 26 = .ok (.getfield 33, 3) := by decide +kernel
theorem dX4_makeLevel_29 : decode cX4_makeLevel 29 = .ok (.getfield 107, 3) := by decide +kernel
theorem dX4_makeLevel_32 : decode cX4_makeLevel 32 = .ok (.istore_n 2, 1) := by decide +kernel
theorem dX4_makeLevel_33 : decode cX4_makeLevel 33 = .ok (.iconst 0, 1) := by decide +kernel
theorem dX4_makeLevel_34 : decode cX4_makeLevel 34 = .ok (.istore_n 3, 1) := by decide +kernel
theorem dX4_makeLevel_35 : decode cX4_makeLevel 35 = .ok (.iconst 1, 1) := by decide +kernel
theorem dX4_makeLevel_36 : decode cX4_makeLevel 36 = .ok (.istore 4, 2) := by decide +kernel
theorem dX4_makeLevel_38 : decode cX4_makeLevel 38 = .ok (.iload 4, 2) := by decide +kernel
theorem dX4_makeLevel_40 : decode cX4_makeLevel 40 = .ok (.ifCond .eq 22, 3) := by decide +kernel
theorem dX4_makeLevel_43 : decode cX4_makeLevel 43 = .ok (.iload_n 3, 1) := by decide +kernel
theorem dX4_makeLevel_44 : decode cX4_makeLevel 44 = .ok (.ldc 170, 2) := by decide +kernel
theorem dX4_makeLevel_46 : decode cX4_makeLevel 46 = .ok (.if_icmp .ge 16, 3) := by decide +kernel
theorem dX4_makeLevel_49 : decode cX4_makeLevel 49 = .ok (.aload_n 0, 1) := by decide +kernel
theorem dX4_makeLevel_50 : decode cX4_makeLevel 50 = .ok (.iload_n 1, 1) := by decide +kernel
theorem dX4_makeLevel_51 : decode cX4_makeLevel 51 = .ok (.invokevirtual 171, 3) := by decide +kernel
theorem dX4_makeLevel_54 : decode cX4_makeLevel 54 = .ok (.istore 4, 2) := by decide +kernel
theorem dX4_makeLevel_56 : decode cX4_makeLevel 56 = .ok (.iinc 3 1, 3) := by decide +kernel
theorem dX4_makeLevel_59 : decode cX4_makeLevel 59 = .ok (.goto (-21), 3) := by decide +kernel
theorem dX4_makeLevel_62 : decode cX4_makeLevel 62 = .ok (.aload_n 0, 1) := by decide +kernel
theorem dX4_makeLevel_63 : decode cX4_makeLevel 63 = .ok (.getfield 33, 3) := by decide +kernel
theorem dX4_makeLevel_66 : decode cX4_makeLevel 66 = .ok (.getfield 107, 3) := by decide +kernel
theorem dX4_makeLevel_69 : decode cX4_makeLevel 69 = .ok (.iload_n 2, 1) := by decide +kernel
theorem dX4_makeLevel_70 : decode cX4_makeLevel 70 = .ok (.isub, 1) := by decide +kernel
theorem dX4_makeLevel_71 : decode cX4_makeLevel 71 = .ok (.istore 5, 2) := by decide +kernel
theorem dX4_makeLevel_73 : decode cX4_makeLevel 73 = .ok (.aload_n 0, 1) := by decide +kernel
theorem dX4_makeLevel_74 : decode cX4_makeLevel 74 = .ok (.getfield 40, 3) := by decide +kernel
theorem dX4_makeLevel_77 : decode cX4_makeLevel 77 = .ok (.aload_n 0, 1) := by decide +kernel
theorem dX4_makeLevel_78 : decode cX4_makeLevel 78 = .ok (.getfield 37, 3) := by decide +kernel
theorem dX4_makeLevel_81 : decode cX4_makeLevel 81 = .ok (.invokevirtual 132, 3) := by decide +kernel
theorem dX4_makeLevel_84 : decode cX4_makeLevel 84 = .ok (.lstore 6, 2) := by decide +kernel
theorem dX4_makeLevel_86 : decode cX4_makeLevel 86 = .ok (.aload_n 0, 1) := by decide +kernel
theorem dX4_makeLevel_87 : decode cX4_makeLevel 87 = .ok (.getfield 40, 3) := by decide +kernel
theorem dX4_makeLevel_90 : decode cX4_makeLevel 90 = .ok (.aload_n 0, 1) := by decide +kernel
theorem dX4_makeLevel_91 : decode cX4_makeLevel 91 = .ok (.getfield 37, 3) := by decide +kernel
theorem dX4_makeLevel_94 : decode cX4_makeLevel 94 = .ok (.getfield 121, 3) := by decide +kernel
theorem dX4_makeLevel_97 : decode cX4_makeLevel 97 = .ok (.invokevirtual 174, 3) := by decide +kernel
theorem dX4_makeLevel_100 : decode cX4_makeLevel 100 = .ok (.istore 8, 2) := by decide +kernel
theorem dX4_makeLevel_102 : decode cX4_makeLevel 102 = .ok (.iconst 0, 1) := by decide +kernel
theorem dX4_makeLevel_103 : decode cX4_makeLevel 103 = .ok (.istore 9, 2) := by decide +kernel
theorem dX4_makeLevel_105 : decode cX4_makeLevel 105 = .ok (.iload 9, 2) := by decide +kernel
theorem dX4_makeLevel_107 : decode cX4_makeLevel 107 = .ok (.aload_n 0, 1) := by decide +kernel
theorem dX4_makeLevel_108 : decode cX4_makeLevel 108 = .ok (.getfield 10, 3) := by decide +kernel
theorem dX4_makeLevel_111 : decode cX4_makeLevel 111 = .ok (.getfield 121, 3) := by decide +kernel
theorem dX4_makeLevel_114 : decode cX4_makeLevel 114 = .ok (.if_icmp .ge 31, 3) := by decide +kernel
theorem dX4_makeLevel_117 : decode cX4_makeLevel 117 = .ok (.aload_n 0, 1) := by decide +kernel
theorem dX4_makeLevel_118 : decode cX4_makeLevel 118 = .ok (.getfield 43, 3) := by decide +kernel
theorem dX4_makeLevel_121 : decode cX4_makeLevel 121 = .ok (.iload 9, 2) := by decide +kernel
theorem dX4_makeLevel_123 : decode cX4_makeLevel 123 = .ok (.aload_n 0, 1) := by decide +kernel
theorem dX4_makeLevel_124 : decode cX4_makeLevel 124 = .ok (.getfield 40, 3) := by decide +kernel
theorem dX4_makeLevel_127 : decode cX4_makeLevel 127 = .ok (.getfield 118, 3) := by decide +kernel
theorem dX4_makeLevel_130 : decode cX4_makeLevel 130 = .ok (.aload_n 0, 1) := by decide +kernel
theorem dX4_makeLevel_131 : decode cX4_makeLevel 131 = .ok (.getfield 43, 3) := by decide +kernel
theorem dX4_makeLevel_134 : decode cX4_makeLevel 134 = .ok (.iload 9, 2) := by decide +kernel
theorem dX4_makeLevel_136 : decode cX4_makeLevel 136 = .ok (.iaload, 1) := by decide +kernel
theorem dX4_makeLevel_137 : decode cX4_makeLevel 137 = .ok (.iaload, 1) := by decide +kernel
theorem dX4_makeLevel_138 : decode cX4_makeLevel 138 = .ok (.iastore, 1) := by decide +kernel
theorem dX4_makeLevel_139 : decode cX4_makeLevel 139 = .ok (.iinc 9 1, 3) := by decide +kernel
theorem dX4_makeLevel_142 : decode cX4_makeLevel 142 = .ok (.goto (-37), 3) := by decide +kernel
theorem dX4_makeLevel_145 : decode cX4_makeLevel 145 = .ok (.aload_n 0, 1) := by decide +kernel
theorem dX4_makeLevel_146 : decode cX4_makeLevel 146 = .ok (.getfield 26, 3) := by decide +kernel
theorem dX4_makeLevel_149 : decode cX4_makeLevel 149 = .ok (.aload_n 0, 1) := by decide +kernel
theorem dX4_makeLevel_150 : decode cX4_makeLevel 150 = .ok (.getfield 43, 3) := by decide +kernel
theorem dX4_makeLevel_153 : decode cX4_makeLevel 153 = .ok (.lload 6, 2) := by decide +kernel
theorem dX4_makeLevel_155 : decode cX4_makeLevel 155 = .ok (.aload_n 0, 1) := by decide +kernel
theorem dX4_makeLevel_156 : decode cX4_makeLevel 156 = .ok (.getfield 37, 3) := by decide +kernel
theorem dX4_makeLevel_159 : decode cX4_makeLevel 159 = .ok (.getfield 121, 3) := by decide +kernel
theorem dX4_makeLevel_162 : decode cX4_makeLevel 162 = .ok (.iload 8, 2) := by decide +kernel
theorem dX4_makeLevel_164 : decode cX4_makeLevel 164 = .ok (.iload_n 3, 1) := by decide +kernel
theorem dX4_makeLevel_165 : decode cX4_makeLevel 165 = .ok (.iload 5, 2) := by decide +kernel
theorem dX4_makeLevel_167 : decode cX4_makeLevel 167 = .ok (.invokevirtual 178, 3) := by decide +kernel
theorem dX4_makeLevel_170 : decode cX4_makeLevel 170 = .ok (.aload_n 0, 1) := by decide +kernel
theorem dX4_makeLevel_171 : decode cX4_makeLevel 171 = .ok (.getfield 37, 3) := by decide +kernel
theorem dX4_makeLevel_174 : decode cX4_makeLevel 174 = .ok (.aload_n 0, 1) := by decide +kernel
theorem dX4_makeLevel_175 : decode cX4_makeLevel 175 = .ok (.getfield 10, 3) := by decide +kernel
theorem dX4_makeLevel_178 : decode cX4_makeLevel 178 = .ok (.aload_n 0, 1) := by decide +kernel
theorem dX4_makeLevel_179 : decode cX4_makeLevel 179 = .ok (.getfield 43, 3) := by decide +kernel
theorem dX4_makeLevel_182 : decode cX4_makeLevel 182 = .ok (.iload 8, 2) := by decide +kernel
theorem dX4_makeLevel_184 : decode cX4_makeLevel 184 = .ok (.invokevirtual 162, 3) := by decide +kernel
theorem dX4_makeLevel_187 : decode cX4_makeLevel 187 = .ok (.iload 5, 2) := by decide +kernel
theorem dX4_makeLevel_189 : decode cX4_makeLevel 189 = .ok (.ifCond .le 7, 3) := by decide +kernel
theorem dX4_makeLevel_192 : decode cX4_makeLevel 192 = .ok (.iconst 1, 1) := by decide +kernel
theorem dX4_makeLevel_193 : decode cX4_makeLevel 193 = .ok (.goto 4, 3) := by decide +kernel
theorem dX4_makeLevel_196 : decode cX4_makeLevel 196 = .ok (.iconst 0, 1) := by decide +kernel
theorem dX4_makeLevel_197 : decode cX4_makeLevel 197 = .ok (.ireturn, 1) := by decide +kernel
set_option maxRecDepth 20000 in
theorem ggX4_makePass_X1_tie : GoodIn wsX4_makePass wsX1_tie := goodIn_r _ [10, 11, 12, 13, 14, 15, 16, 17, 18, 19, 20, 21, 22, 23, 66, 67, 68, 69, 70, 62, 63, 64, 65] (by decide +kernel) (by decide +kernel)
set_option maxRecDepth 20000 in
theorem gX4_makePass_X1_tie : GoodIn wsX4_makePass (wsV RX4 136 RX1 yX1_tie wsX1_tie) := goodIn_app (goodIn_of _ (by decide +kernel)) ggX4_makePass_X1_tie
set_option maxRecDepth 20000 in
theorem ggX4_makePass_X1_choose : GoodIn wsX4_makePass wsX1_choose := goodIn_r _ [27, 13, 12, 11, 28, 29, 30, 31, 9, 32, 33, 34, 35, 36, 37, 38, 39, 40, 41, 66, 67, 68, 69, 70, 62, 63, 64, 65] (by decide +kernel) (by decide +kernel)
set_option maxRecDepth 20000 in
theorem gX4_makePass_X1_choose : GoodIn wsX4_makePass (wsV RX4 182 RX1 yX1_choose wsX1_choose) := goodIn_app (goodIn_of _ (by decide +kernel)) ggX4_makePass_X1_choose
set_option maxRecDepth 20000 in
theorem ggX4_makePass_X1_gainInto : GoodIn wsX4_makePass wsX1_gainInto := goodIn_r _ [32, 13, 33, 34, 11, 35, 36, 37, 66, 67, 68, 69, 70, 62, 63, 64, 65] (by decide +kernel) (by decide +kernel)
set_option maxRecDepth 20000 in
theorem gX4_makePass_X1_gainInto : GoodIn wsX4_makePass (wsV RX4 140 RX1 yX1_gainInto wsX1_gainInto) := goodIn_app (goodIn_of _ (by decide +kernel)) ggX4_makePass_X1_gainInto
set_option maxRecDepth 20000 in
theorem ggX4_makePass_X3_append : GoodIn wsX4_makePass wsX3_append := goodIn_r _ [47, 48, 49, 50, 71, 72, 73] (by decide +kernel) (by decide +kernel)
set_option maxRecDepth 20000 in
theorem gX4_makePass_X3_append : GoodIn wsX4_makePass (wsV RX4 186 RX3 yX3_append wsX3_append) := goodIn_app (goodIn_of _ (by decide +kernel)) ggX4_makePass_X3_append
set_option maxRecDepth 20000 in
theorem ggX4_makePass_X1_shift : GoodIn wsX4_makePass wsX1_shift := goodIn_r _ [54, 13, 28, 34, 33, 66, 67, 68, 69, 70, 62, 63, 64, 65] (by decide +kernel) (by decide +kernel)
set_option maxRecDepth 20000 in
theorem gX4_makePass_X1_shift : GoodIn wsX4_makePass (wsV RX4 189 RX1 yX1_shift wsX1_shift) := goodIn_app (goodIn_of _ (by decide +kernel)) ggX4_makePass_X1_shift
theorem dX4_makePass_0 : decode cX4_makePass 0 = .ok (.iconst 0, 1) := by decide +kernel
theorem dX4_makePass_1 : decode cX4_makePass 1 = .ok (.istore_n 2, 1) := by decide +kernel
theorem dX4_makePass_2 : decode cX4_makePass 2 = .ok (.iconst 0, 1) := by decide +kernel
theorem dX4_makePass_3 : decode cX4_makePass 3 = .ok (.istore_n 3, 1) := by decide +kernel
theorem dX4_makePass_4 : decode cX4_makePass 4 = .ok (.iload_n 3, 1) := by decide +kernel
theorem dX4_makePass_5 : decode cX4_makePass 5 = .ok (.aload_n 0, 1) := by decide +kernel
theorem dX4_makePass_6 : decode cX4_makePass 6 = .ok (.getfield 37, 3) := by decide +kernel
theorem dX4_makePass_9 : decode cX4_makePass 9 = .ok (.getfield 121, 3) := by decide +kernel
theorem dX4_makePass_12 : decode cX4_makePass 12 = .ok (.if_icmp .ge 95, 3) := by decide +kernel
theorem dX4_makePass_15 : decode cX4_makePass 15 = .ok (.aload_n 0, 1) := by decide +kernel
theorem dX4_makePass_16 : decode cX4_makePass 16 = .ok (.getfield 40, 3) := by decide +kernel
theorem dX4_makePass_19 : decode cX4_makePass 19 = .ok (.aload_n 0, 1) := by decide +kernel
theorem dX4_makePass_20 : decode cX4_makePass 20 = .ok (.getfield 37, 3) := by decide +kernel
theorem dX4_makePass_23 : decode cX4_makePass 23 = .ok (.iload_n 3, 1) := by decide +kernel
theorem dX4_makePass_24 : decode cX4_makePass 24 = .ok (.invokevirtual 136, 3) := by decide +kernel
theorem dX4_makePass_27 : decode cX4_makePass 27 = .ok (.aload_n 0, 1) := by decide +kernel
theorem dX4_makePass_28 : decode cX4_makePass 28 = .ok (.getfield 40, 3) := by decide +kernel
theorem dX4_makePass_31 : decode cX4_makePass 31 = .ok (.aload_n 0, 1) := by decide +kernel
theorem dX4_makePass_32 : decode cX4_makePass 32 = .ok (.getfield 37, 3) := by decide +kernel
theorem dX4_makePass_35 : decode cX4_makePass 35 = .ok (.iload_n 3, 1) := by decide +kernel
theorem dX4_makePass_36 : decode cX4_makePass 36 = .ok (.invokevirtual 182, 3) := by decide +kernel
theorem dX4_makePass_39 : decode cX4_makePass 39 = .ok (.istore 4, 2) := by decide +kernel
theorem dX4_makePass_41 : decode cX4_makePass 41 = .ok (.iload 4, 2) := by decide +kernel
theorem dX4_makePass_43 : decode cX4_makePass 43 = .ok (.iconst (-1), 1) := by decide +kernel
theorem dX4_makePass_44 : decode cX4_makePass 44 = .ok (.if_icmp .eq 57, 3) := by decide +kernel
theorem dX4_makePass_47 : decode cX4_makePass 47 = .ok (.aload_n 0, 1) := by decide +kernel
theorem dX4_makePass_48 : decode cX4_makePass 48 = .ok (.getfield 40, 3) := by decide +kernel
theorem dX4_makePass_51 : decode cX4_makePass 51 = .ok (.aload_n 0, 1) := by decide +kernel
theorem dX4_makePass_52 : decode cX4_makePass 52 = .ok (.getfield 37, 3) := by decide +kernel
theorem dX4_makePass_55 : decode cX4_makePass 55 = .ok (.iload_n 3, 1) := by decide +kernel
theorem dX4_makePass_56 : decode cX4_makePass 56 = .ok (.iload 4, 2) := by decide +kernel
theorem dX4_makePass_58 : decode cX4_makePass 58 = .ok (.invokevirtual 140, 3) := by decide +kernel
theorem dX4_makePass_61 : decode cX4_makePass 61 = .ok (.lstore 5, 2) := by decide +kernel
theorem dX4_makePass_63 : decode cX4_makePass 63 = .ok (.aload_n 0, 1) := by decide +kernel
theorem dX4_makePass_64 : decode cX4_makePass 64 = .ok (.getfield 33, 3) := by decide +kernel
theorem dX4_makePass_67 : decode cX4_makePass 67 = .ok (.iload_n 1, 1) := by decide +kernel
theorem dX4_makePass_68 : decode cX4_makePass 68 = .ok (.iload_n 3, 1) := by decide +kernel
theorem dX4_makePass_69 : decode cX4_makePass 69 = .ok (.aload_n 0, 1) := by decide +kernel
theorem dX4_makePass_70 : decode cX4_makePass 70 = .ok (.getfield 40, 3) := by decide +kernel
theorem dX4_makePass_73 : decode cX4_makePass 73 = .ok (.getfield 118, 3) := by decide +kernel
theorem dX4_makePass_76 : decode cX4_makePass 76 = .ok (.iload_n 3, 1) := by decide +kernel
theorem dX4_makePass_77 : decode cX4_makePass 77 = .ok (.iaload, 1) := by decide +kernel
theorem dX4_makePass_78 : decode cX4_makePass 78 = .ok (.iload 4, 2) := by decide +kernel
theorem dX4_makePass_80 : decode cX4_makePass 80 = .ok (.lload 5, 2) := by decide +kernel
theorem dX4_makePass_82 : decode cX4_makePass 82 = .ok (.invokevirtual 186, 3) := by decide +kernel
theorem dX4_makePass_85 : decode cX4_makePass 85 = .ok (.aload_n 0, 1) := by decide +kernel
theorem dX4_makePass_86 : decode cX4_makePass 86 = .ok (.getfield 40, 3) := by decide +kernel
theorem dX4_makePass_89 : decode cX4_makePass 89 = .ok (.aload_n 0, 1) := by decide +kernel
theorem dX4_makePass_90 : decode cX4_makePass 90 = .ok (.getfield 37, 3) := by decide +kernel
theorem dX4_makePass_93 : decode cX4_makePass 93 = .ok (.iload_n 3, 1) := by decide +kernel
theorem dX4_makePass_94 : decode cX4_makePass 94 = .ok (.iload 4, 2) := by decide +kernel
theorem dX4_makePass_96 : decode cX4_makePass 96 = .ok (.invokevirtual 189, 3) := by decide +kernel
theorem dX4_makePass_99 : decode cX4_makePass 99 = .ok (.iconst 1, 1) := by decide +kernel
theorem dX4_makePass_100 : decode cX4_makePass 100 = .ok (.istore_n 2, 1) := by decide +kernel
theorem dX4_makePass_101 : decode cX4_makePass 101 = .ok (.iinc 3 1, 3) := by decide +kernel
theorem dX4_makePass_104 : decode cX4_makePass 104 = .ok (.goto (-100), 3) := by decide +kernel
theorem dX4_makePass_107 : decode cX4_makePass 107 = .ok (.iload_n 2, 1) := by decide +kernel
theorem dX4_makePass_108 : decode cX4_makePass 108 = .ok (.ireturn, 1) := by decide +kernel
theorem dX5_init_0 : decode cX5_init 0 = .ok (.aload_n 0, 1) := by decide +kernel
theorem dX5_init_1 : decode cX5_init 1 = .ok (.invokespecial 1, 3) := by decide +kernel
theorem dX5_init_4 : decode cX5_init 4 = .ok (.aload_n 0, 1) := by decide +kernel
theorem dX5_init_5 : decode cX5_init 5 = .ok (.iconst 1, 1) := by decide +kernel
theorem dX5_init_6 : decode cX5_init 6 = .ok (.putfield 7, 3) := by decide +kernel
theorem dX5_init_9 : decode cX5_init 9 = .ok (.aload_n 0, 1) := by decide +kernel
theorem dX5_init_10 : decode cX5_init 10 = .ok (.sipush 1600, 3) := by decide +kernel
theorem dX5_init_13 : decode cX5_init 13 = .ok (.newarray .int, 2) := by decide +kernel
theorem dX5_init_15 : decode cX5_init 15 = .ok (.putfield 13, 3) := by decide +kernel
theorem dX5_init_18 : decode cX5_init 18 = .ok (.aload_n 0, 1) := by decide +kernel
theorem dX5_init_19 : decode cX5_init 19 = .ok (.bipush 40, 2) := by decide +kernel
theorem dX5_init_21 : decode cX5_init 21 = .ok (.newarray .int, 2) := by decide +kernel
theorem dX5_init_23 : decode cX5_init 23 = .ok (.putfield 17, 3) := by decide +kernel
theorem dX5_init_26 : decode cX5_init 26 = .ok (.aload_n 0, 1) := by decide +kernel
theorem dX5_init_27 : decode cX5_init 27 = .ok (.sipush 1600, 3) := by decide +kernel
theorem dX5_init_30 : decode cX5_init 30 = .ok (.newarray .long, 2) := by decide +kernel
theorem dX5_init_32 : decode cX5_init 32 = .ok (.putfield 20, 3) := by decide +kernel
theorem dX5_init_35 : decode cX5_init 35 = .ok (.aload_n 0, 1) := by decide +kernel
theorem dX5_init_36 : decode cX5_init 36 = .ok (.bipush 40, 2) := by decide +kernel
theorem dX5_init_38 : decode cX5_init 38 = .ok (.newarray .int, 2) := by decide +kernel
theorem dX5_init_40 : decode cX5_init 40 = .ok (.putfield 24, 3) := by decide +kernel
theorem dX5_init_43 : decode cX5_init 43 = .ok (.aload_n 0, 1) := by decide +kernel
theorem dX5_init_44 : decode cX5_init 44 = .ok (.sipush 1600, 3) := by decide +kernel
theorem dX5_init_47 : decode cX5_init 47 = .ok (.newarray .long, 2) := by decide +kernel
theorem dX5_init_49 : decode cX5_init 49 = .ok (.putfield 27, 3) := by decide +kernel
theorem dX5_init_52 : decode cX5_init 52 = .ok (.aload_n 0, 1) := by decide +kernel
theorem dX5_init_53 : decode cX5_init 53 = .ok (.sipush 164, 3) := by decide +kernel
theorem dX5_init_56 : decode cX5_init 56 = .ok (.newarray .int, 2) := by decide +kernel
theorem dX5_init_58 : decode cX5_init 58 = .ok (.putfield 30, 3) := by decide +kernel
theorem dX5_init_61 : decode cX5_init 61 = .ok (.aload_n 0, 1) := by decide +kernel
theorem dX5_init_62 : decode cX5_init 62 = .ok (.bipush 41, 2) := by decide +kernel
theorem dX5_init_64 : decode cX5_init 64 = .ok (.newarray .long, 2) := by decide +kernel
theorem dX5_init_66 : decode cX5_init 66 = .ok (.putfield 33, 3) := by decide +kernel
theorem dX5_init_69 : decode cX5_init 69 = .ok (.aload_n 0, 1) := by decide +kernel
theorem dX5_init_70 : decode cX5_init 70 = .ok (.sipush 1640, 3) := by decide +kernel
theorem dX5_init_73 : decode cX5_init 73 = .ok (.newarray .int, 2) := by decide +kernel
theorem dX5_init_75 : decode cX5_init 75 = .ok (.putfield 36, 3) := by decide +kernel
theorem dX5_init_78 : decode cX5_init 78 = .ok (.aload_n 0, 1) := by decide +kernel
theorem dX5_init_79 : decode cX5_init 79 = .ok (.sipush 1600, 3) := by decide +kernel
theorem dX5_init_82 : decode cX5_init 82 = .ok (.newarray .int, 2) := by decide +kernel
theorem dX5_init_84 : decode cX5_init 84 = .ok (.putfield 39, 3) := by decide +kernel
theorem dX5_init_87 : decode cX5_init 87 = .ok (.aload_n 0, 1) := by decide +kernel
theorem dX5_init_88 : decode cX5_init 88 = .ok (.sipush 400, 3) := by decide +kernel
theorem dX5_init_91 : decode cX5_init 91 = .ok (.newarray .long, 2) := by decide +kernel
theorem dX5_init_93 : decode cX5_init 93 = .ok (.putfield 42, 3) := by decide +kernel
theorem dX5_init_96 : decode cX5_init 96 = .ok (.aload_n 0, 1) := by decide +kernel
theorem dX5_init_97 : decode cX5_init 97 = .ok (.bipush 40, 2) := by decide +kernel
theorem dX5_init_99 : decode cX5_init 99 = .ok (.newarray .long, 2) := by decide +kernel
theorem dX5_init_101 : decode cX5_init 101 = .ok (.putfield 45, 3) := by decide +kernel
theorem dX5_init_104 : decode cX5_init 104 = .ok (.aload_n 0, 1) := by decide +kernel
theorem dX5_init_105 : decode cX5_init 105 = .ok (.getfield 17, 3) := by decide +kernel
theorem dX5_init_108 : decode cX5_init 108 = .ok (.iconst 0, 1) := by decide +kernel
theorem dX5_init_109 : decode cX5_init 109 = .ok (.iconst 0, 1) := by decide +kernel
theorem dX5_init_110 : decode cX5_init 110 = .ok (.iastore, 1) := by decide +kernel
theorem dX5_init_111 : decode cX5_init 111 = .ok (.return_, 1) := by decide +kernel
theorem dX5_thrown_0 : decode cX5_thrown 0 = .ok (.aload_n 0, 1) := by decide +kernel
theorem dX5_thrown_1 : decode cX5_thrown 1 = .ok (.getfield 48, 3) := by decide +kernel
theorem dX5_thrown_4 : decode cX5_thrown 4 = .ok (.ireturn, 1) := by decide +kernel
theorem dX5_forget_0 : decode cX5_forget 0 = .ok (.aload_n 0, 1) := by decide +kernel
theorem dX5_forget_1 : decode cX5_forget 1 = .ok (.iconst 0, 1) := by decide +kernel
theorem dX5_forget_2 : decode cX5_forget 2 = .ok (.putfield 51, 3) := by decide +kernel
theorem dX5_forget_5 : decode cX5_forget 5 = .ok (.aload_n 0, 1) := by decide +kernel
theorem dX5_forget_6 : decode cX5_forget 6 = .ok (.iconst 0, 1) := by decide +kernel
theorem dX5_forget_7 : decode cX5_forget 7 = .ok (.putfield 54, 3) := by decide +kernel
theorem dX5_forget_10 : decode cX5_forget 10 = .ok (.return_, 1) := by decide +kernel
set_option maxRecDepth 20000 in
theorem ggX5_nodes_X5_forget : GoodIn wsX5_nodes wsX5_forget := goodIn_r _ [9, 10, 11, 12, 13, 14, 15, 16, 17, 18, 19, 20, 21, 22, 23, 24, 25, 26, 27, 28] (by decide +kernel) (by decide +kernel)
set_option maxRecDepth 20000 in
theorem gX5_nodes_X5_forget : GoodIn wsX5_nodes (wsV RX5 57 RX5 yX5_forget wsX5_forget) := goodIn_app (goodIn_of _ (by decide +kernel)) ggX5_nodes_X5_forget
theorem dX5_nodes_0 : decode cX5_nodes 0 = .ok (.aload_n 0, 1) := by decide +kernel
theorem dX5_nodes_1 : decode cX5_nodes 1 = .ok (.iload_n 1, 1) := by decide +kernel
theorem dX5_nodes_2 : decode cX5_nodes 2 = .ok (.iconst 1, 1) := by decide +kernel
theorem dX5_nodes_3 : decode cX5_nodes 3 = .ok (.if_icmp .lt 9, 3) := by decide +kernel
theorem dX5_nodes_6 : decode cX5_nodes 6 = .ok (.iload_n 1, 1) := by decide +kernel
theorem dX5_nodes_7 : decode cX5_nodes 7 = .ok (.bipush 40, 2) := by decide +kernel
theorem dX5_nodes_9 : decode cX5_nodes 9 = .ok (.if_icmp .le 7, 3) := by decide +kernel
theorem dX5_nodes_12 : decode cX5_nodes 12 = .ok (.iconst 1, 1) := by decide +kernel
theorem dX5_nodes_13 : decode cX5_nodes 13 = .ok (.goto 4, 3) := by decide +kernel
theorem dX5_nodes_16 : decode cX5_nodes 16 = .ok (.iconst 0, 1) := by decide +kernel
theorem dX5_nodes_17 : decode cX5_nodes 17 = .ok (.putfield 48, 3) := by decide +kernel
theorem dX5_nodes_20 : decode cX5_nodes 20 = .ok (.aload_n 0, 1) := by decide +kernel
theorem dX5_nodes_21 : decode cX5_nodes 21 = .ok (.getfield 48, 3) := by decide +kernel
theorem dX5_nodes_24 : decode cX5_nodes 24 = .ok (.ifCond .ne 57, 3) := by decide +kernel
theorem dX5_nodes_27 : decode cX5_nodes 27 = .ok (.aload_n 0, 1) := by decide +kernel
theorem dX5_nodes_28 : decode cX5_nodes 28 = .ok (.iload_n 1, 1) := by decide +kernel
theorem dX5_nodes_29 : decode cX5_nodes 29 = .ok (.putfield 7, 3) := by decide +kernel
theorem dX5_nodes_32 : decode cX5_nodes 32 = .ok (.iconst 0, 1) := by decide +kernel
theorem dX5_nodes_33 : decode cX5_nodes 33 = .ok (.istore_n 2, 1) := by decide +kernel
theorem dX5_nodes_34 : decode cX5_nodes 34 = .ok (.iload_n 2, 1) := by decide +kernel
theorem dX5_nodes_35 : decode cX5_nodes 35 = .ok (.sipush 1600, 3) := by decide +kernel
theorem dX5_nodes_38 : decode cX5_nodes 38 = .ok (.if_icmp .ge 16, 3) := by decide +kernel
theorem dX5_nodes_41 : decode cX5_nodes 41 = .ok (.aload_n 0, 1) := by decide +kernel
theorem dX5_nodes_42 : decode cX5_nodes 42 = .ok (.getfield 13, 3) := by decide +kernel
theorem dX5_nodes_45 : decode cX5_nodes 45 = .ok (.iload_n 2, 1) := by decide +kernel
theorem dX5_nodes_46 : decode cX5_nodes 46 = .ok (.iconst 0, 1) := by decide +kernel
theorem dX5_nodes_47 : decode cX5_nodes 47 = .ok (.iastore, 1) := by decide +kernel
theorem dX5_nodes_48 : decode cX5_nodes 48 = .ok (.iinc 2 1, 3) := by decide +kernel
theorem dX5_nodes_51 : decode cX5_nodes 51 = .ok (.goto (-17), 3) := by decide +kernel
theorem dX5_nodes_54 : decode cX5_nodes 54 = .ok (.iconst 0, 1) := by decide +kernel
theorem dX5_nodes_55 : decode cX5_nodes 55 = .ok (.istore_n 2, 1) := by decide +kernel
theorem dX5_nodes_56 : decode cX5_nodes 56 = .ok (.iload_n 2, 1) := by decide +kernel
theorem dX5_nodes_57 : decode cX5_nodes 57 = .ok (.aload_n 0, 1) := by decide +kernel
theorem dX5_nodes_58 : decode cX5_nodes 58 = .ok (.getfield 7, 3) := by decide +kernel
theorem dX5_nodes_61 : decode cX5_nodes 61 = .ok (.if_icmp .ge 16, 3) := by decide +kernel
theorem dX5_nodes_64 : decode cX5_nodes 64 = .ok (.aload_n 0, 1) := by decide +kernel
theorem dX5_nodes_65 : decode cX5_nodes 65 = .ok (.getfield 17, 3) := by decide +kernel
theorem dX5_nodes_68 : decode cX5_nodes 68 = .ok (.iload_n 2, 1) := by decide +kernel
theorem dX5_nodes_69 : decode cX5_nodes 69 = .ok (.iload_n 2, 1) := by decide +kernel
theorem dX5_nodes_70 : decode cX5_nodes 70 = .ok (.iastore, 1) := by decide +kernel
theorem dX5_nodes_71 : decode cX5_nodes 71 = .ok (.iinc 2 1, 3) := by decide +kernel
theorem dX5_nodes_74 : decode cX5_nodes 74 = .ok (.goto (-18), 3) := by decide +kernel
theorem dX5_nodes_77 : decode cX5_nodes 77 = .ok (.aload_n 0, 1) := by decide +kernel
theorem dX5_nodes_78 : decode cX5_nodes 78 = .ok (.invokevirtual 57, 3) := by decide +kernel
theorem dX5_nodes_81 : decode cX5_nodes 81 = .ok (.return_, 1) := by decide +kernel
theorem dX5_noNode_0 : decode cX5_noNode 0 = .ok (.iload_n 1, 1) := by decide +kernel
theorem dX5_noNode_1 : decode cX5_noNode 1 = .ok (.ifCond .lt 11, 3) := by decide +kernel
theorem dX5_noNode_4 : decode cX5_noNode 4 = .ok (.iload_n 1, 1) := by decide +kernel
theorem dX5_noNode_5 : decode cX5_noNode 5 = .ok (.aload_n 0, 1) := by decide +kernel
theorem dX5_noNode_6 : decode cX5_noNode 6 = .ok (.getfield 7, 3) := by decide +kernel
theorem dX5_noNode_9 : decode cX5_noNode 9 = .ok (.if_icmp .lt 7, 3) := by decide +kernel
theorem dX5_noNode_12 : decode cX5_noNode 12 = .ok (.iconst 1, 1) := by decide +kernel
theorem dX5_noNode_13 : decode cX5_noNode 13 = .ok (.goto 4, 3) := by decide +kernel
theorem dX5_noNode_16 : decode cX5_noNode 16 = .ok (.iconst 0, 1) := by decide +kernel
theorem dX5_noNode_17 : decode cX5_noNode 17 = .ok (.ireturn, 1) := by decide +kernel
theorem dX5_all_0 : decode cX5_all 0 = .ok (.lconst 0, 1) := by decide +kernel
theorem dX5_all_1 : decode cX5_all 1 = .ok (.lstore_n 1, 1) := by decide +kernel
theorem dX5_all_2 : decode cX5_all 2 = .ok (.iconst 0, 1) := by decide +kernel
theorem dX5_all_3 : decode cX5_all 3 = .ok (.istore_n 3, 1) := by decide +kernel
theorem dX5_all_4 : decode cX5_all 4 = .ok (.iload_n 3, 1) := by decide +kernel
theorem dX5_all_5 : decode cX5_all 5 = .ok (.aload_n 0, 1) := by decide +kernel
theorem dX5_all_6 : decode cX5_all 6 = .ok (.getfield 7, 3) := by decide +kernel
theorem dX5_all_9 : decode cX5_all 9 = .ok (.if_icmp .ge 40, 3) := by decide +kernel
theorem dX5_all_12 : decode cX5_all 12 = .ok (.iconst 0, 1) := by decide +kernel
theorem dX5_all_13 : decode cX5_all 13 = .ok (.istore 4, 2) := by decide +kernel
theorem dX5_all_15 : decode cX5_all 15 = .ok (.iload 4, 2) := by decide +kernel
theorem dX5_all_17 : decode cX5_all 17 = .ok (.iload_n 3, 1) := by decide +kernel
theorem dX5_all_18 : decode cX5_all 18 = .ok (.if_icmp .gt 25, 3) := by decide +kernel
theorem dX5_all_21 : decode cX5_all 21 = .ok (.lload_n 1, 1) := by decide +kernel
theorem dX5_all_22 : decode cX5_all 22 = .ok (.aload_n 0, 1) := by decide +kernel
theorem dX5_all_23 : decode cX5_all 23 = .ok (.getfield 13, 3) := by decide +kernel
theorem dX5_all_26 : decode cX5_all 26 = .ok (.bipush 40, 2) := by decide +kernel
theorem dX5_all_28 : decode cX5_all 28 = .ok (.iload_n 3, 1) := by decide +kernel
theorem dX5_all_29 : decode cX5_all 29 = .ok (.imul, 1) := by decide +kernel
theorem dX5_all_30 : decode cX5_all 30 = .ok (.iload 4, 2) := by decide +kernel
theorem dX5_all_32 : decode cX5_all 32 = .ok (.iadd, 1) := by decide +kernel
theorem dX5_all_33 : decode cX5_all 33 = .ok (.iaload, 1) := by decide +kernel
theorem dX5_all_34 : decode cX5_all 34 = .ok (.i2l, 1) := by decide +kernel
theorem dX5_all_35 : decode cX5_all 35 = .ok (.ladd, 1) := by decide +kernel
theorem dX5_all_36 : decode cX5_all 36 = .ok (.lstore_n 1, 1) := by decide +kernel
theorem dX5_all_37 : decode cX5_all 37 = .ok (.iinc 4 1, 3) := by decide +kernel
theorem dX5_all_40 : decode cX5_all 40 = .ok (.goto (-25), 3) := by decide +kernel
theorem dX5_all_43 : decode cX5_all 43 = .ok (.iinc 3 1, 3) := by decide +kernel
theorem dX5_all_46 : decode cX5_all 46 = .ok (.goto (-42), 3) := by decide +kernel
theorem dX5_all_49 : decode cX5_all 49 = .ok (.lload_n 1, 1) := by decide +kernel
theorem dX5_all_50 : decode cX5_all 50 = .ok (.lreturn, 1) := by decide +kernel
set_option maxRecDepth 20000 in
theorem ggX5_weigh_X5_noNode : GoodIn wsX5_weigh wsX5_noNode := goodIn_r _ [8, 9, 20, 21, 22, 23, 24, 25, 26, 27, 28, 29, 30, 31, 32, 33, 34, 35, 36] (by decide +kernel) (by decide +kernel)
set_option maxRecDepth 20000 in
theorem gX5_weigh_X5_noNode : GoodIn wsX5_weigh (wsV RX5 60 RX5 yX5_noNode wsX5_noNode) := goodIn_app (goodIn_of _ (by decide +kernel)) ggX5_weigh_X5_noNode
set_option maxRecDepth 20000 in
theorem ggX5_weigh_X5_all : GoodIn wsX5_weigh wsX5_all := goodIn_r _ [13, 9, 2, 20, 21, 22, 23, 24, 25, 26, 27, 28, 29, 30, 31, 32, 33, 34, 35, 36] (by decide +kernel) (by decide +kernel)
set_option maxRecDepth 20000 in
theorem gX5_weigh_X5_all : GoodIn wsX5_weigh (wsV RX5 64 RX5 yX5_all wsX5_all) := goodIn_app (goodIn_of _ (by decide +kernel)) ggX5_weigh_X5_all
set_option maxRecDepth 20000 in
theorem ggX5_weigh_X5_forget : GoodIn wsX5_weigh wsX5_forget := goodIn_r _ [17, 18, 19, 20, 21, 22, 23, 24, 25, 26, 27, 28, 29, 30, 31, 32, 33, 34, 35, 36] (by decide +kernel) (by decide +kernel)
set_option maxRecDepth 20000 in
theorem gX5_weigh_X5_forget : GoodIn wsX5_weigh (wsV RX5 57 RX5 yX5_forget wsX5_forget) := goodIn_app (goodIn_of _ (by decide +kernel)) ggX5_weigh_X5_forget
theorem dX5_weigh_0 : decode cX5_weigh 0 = .ok (.aload_n 0, 1) := by decide +kernel
theorem dX5_weigh_1 : decode cX5_weigh 1 = .ok (.aload_n 0, 1) := by decide +kernel
theorem dX5_weigh_2 : decode cX5_weigh 2 = .ok (.iload_n 1, 1) := by decide +kernel
theorem dX5_weigh_3 : decode cX5_weigh 3 = .ok (.invokevirtual 60, 3) := by decide +kernel
theorem dX5_weigh_6 : decode cX5_weigh 6 = .ok (.ifCond .ne 11, 3) := by decide +kernel
theorem dX5_weigh_9 : decode cX5_weigh 9 = .ok (.aload_n 0, 1) := by decide +kernel
theorem dX5_weigh_10 : decode cX5_weigh 10 = .ok (.iload_n 2, 1) := by decide +kernel
theorem dX5_weigh_11 : decode cX5_weigh 11 = .ok (.invokevirtual 60, 3) := by decide +kernel
theorem dX5_weigh_14 : decode cX5_weigh 14 = .ok (.ifCond .eq 7, 3) := by decide +kernel
theorem dX5_weigh_17 : decode cX5_weigh 17 = .ok (.iconst 1, 1) := by decide +kernel
theorem dX5_weigh_18 : decode cX5_weigh 18 = .ok (.goto 4, 3) := by decide +kernel
end
section
theorem dX5_weigh_21 : decode cX5_weigh 21 = .ok (.iconst 0, 1) := by decide +kernel
theorem dX5_weigh_22 : decode cX5_weigh 22 = .ok (.putfield 48, 3) := by decide +kernel
theorem dX5_weigh_25 : decode cX5_weigh 25 = .ok (.aload_n 0, 1) := by decide +kernel
theorem dX5_weigh_26 : decode cX5_weigh 26 = .ok (.getfield 48, 3) := by decide +kernel
theorem dX5_weigh_29 : decode cX5_weigh 29 = .ok (.ifCond .le 5, 3) := by decide +kernel
theorem dX5_weigh_32 : decode cX5_weigh 32 = .ok (.iconst 0, 1) := by decide +kernel
theorem dX5_weigh_33 : decode cX5_weigh 33 = .ok (.ireturn, 1) := by decide +kernel
theorem dX5_weigh_34 : decode cX5_weigh 34 = .ok (.aload_n 0, 1) := by decide +kernel
theorem dX5_weigh_35 : decode cX5_weigh 35 = .ok (.getfield 13, 3) := by decide +kernel
theorem dX5_weigh_38 : decode cX5_weigh 38 = .ok (.bipush 40, 2) := by decide +kernel
theorem dX5_weigh_40 : decode cX5_weigh 40 = .ok (.iload_n 1, 1) := by decide +kernel
theorem dX5_weigh_41 : decode cX5_weigh 41 = .ok (.imul, 1) := by decide +kernel
theorem dX5_weigh_42 : decode cX5_weigh 42 = .ok (.iload_n 2, 1) := by decide +kernel
theorem dX5_weigh_43 : decode cX5_weigh 43 = .ok (.iadd, 1) := by decide +kernel
theorem dX5_weigh_44 : decode cX5_weigh 44 = .ok (.iaload, 1) := by decide +kernel
theorem dX5_weigh_45 : decode cX5_weigh 45 = .ok (.istore 4, 2) := by decide +kernel
theorem dX5_weigh_47 : decode cX5_weigh 47 = .ok (.aload_n 0, 1) := by decide +kernel
theorem dX5_weigh_48 : decode cX5_weigh 48 = .ok (.iload_n 3, 1) := by decide +kernel
theorem dX5_weigh_49 : decode cX5_weigh 49 = .ok (.ifCond .lt 21, 3) := by decide +kernel
theorem dX5_weigh_52 : decode cX5_weigh 52 = .ok (.aload_n 0, 1) := by decide +kernel
theorem dX5_weigh_53 : decode cX5_weigh 53 = .ok (.invokevirtual 64, 3) := by decide +kernel
theorem dX5_weigh_56 : decode cX5_weigh 56 = .ok (.iload 4, 2) := by decide +kernel
theorem dX5_weigh_58 : decode cX5_weigh 58 = .ok (.i2l, 1) := by decide +kernel
theorem dX5_weigh_59 : decode cX5_weigh 59 = .ok (.lsub, 1) := by decide +kernel
theorem dX5_weigh_60 : decode cX5_weigh 60 = .ok (.iload_n 3, 1) := by decide +kernel
theorem dX5_weigh_61 : decode cX5_weigh 61 = .ok (.i2l, 1) := by decide +kernel
theorem dX5_weigh_62 : decode cX5_weigh 62 = .ok (.ladd, 1) := by decide +kernel
theorem dX5_weigh_63 : decode cX5_weigh 63 = .ok (.ldc2_w 68, 3) := by decide +kernel
theorem dX5_weigh_66 : decode cX5_weigh 66 = .ok (.lcmp, 1) := by decide +kernel
theorem dX5_weigh_67 : decode cX5_weigh 67 = .ok (.ifCond .lt 7, 3) := by decide +kernel
theorem dX5_weigh_70 : decode cX5_weigh 70 = .ok (.iconst 2, 1) := by decide +kernel
theorem dX5_weigh_71 : decode cX5_weigh 71 = .ok (.goto 4, 3) := by decide +kernel
theorem dX5_weigh_74 : decode cX5_weigh 74 = .ok (.iconst 0, 1) := by decide +kernel
theorem dX5_weigh_75 : decode cX5_weigh 75 = .ok (.putfield 48, 3) := by decide +kernel
theorem dX5_weigh_78 : decode cX5_weigh 78 = .ok (.aload_n 0, 1) := by decide +kernel
theorem dX5_weigh_79 : decode cX5_weigh 79 = .ok (.getfield 48, 3) := by decide +kernel
theorem dX5_weigh_82 : decode cX5_weigh 82 = .ok (.ifCond .le 5, 3) := by decide +kernel
theorem dX5_weigh_85 : decode cX5_weigh 85 = .ok (.iconst 0, 1) := by decide +kernel
theorem dX5_weigh_86 : decode cX5_weigh 86 = .ok (.ireturn, 1) := by decide +kernel
theorem dX5_weigh_87 : decode cX5_weigh 87 = .ok (.aload_n 0, 1) := by decide +kernel
theorem dX5_weigh_88 : decode cX5_weigh 88 = .ok (.getfield 13, 3) := by decide +kernel
theorem dX5_weigh_91 : decode cX5_weigh 91 = .ok (.bipush 40, 2) := by decide +kernel
theorem dX5_weigh_93 : decode cX5_weigh 93 = .ok (.iload_n 1, 1) := by decide +kernel
theorem dX5_weigh_94 : decode cX5_weigh 94 = .ok (.imul, 1) := by decide +kernel
theorem dX5_weigh_95 : decode cX5_weigh 95 = .ok (.iload_n 2, 1) := by decide +kernel
theorem dX5_weigh_96 : decode cX5_weigh 96 = .ok (.iadd, 1) := by decide +kernel
theorem dX5_weigh_97 : decode cX5_weigh 97 = .ok (.iload_n 3, 1) := by decide +kernel
theorem dX5_weigh_98 : decode cX5_weigh 98 = .ok (.iastore, 1) := by decide +kernel
theorem dX5_weigh_99 : decode cX5_weigh 99 = .ok (.aload_n 0, 1) := by decide +kernel
theorem dX5_weigh_100 : decode cX5_weigh 100 = .ok (.getfield 13, 3) := by decide +kernel
theorem dX5_weigh_103 : decode cX5_weigh 103 = .ok (.bipush 40, 2) := by decide +kernel
theorem dX5_weigh_105 : decode cX5_weigh 105 = .ok (.iload_n 2, 1) := by decide +kernel
theorem dX5_weigh_106 : decode cX5_weigh 106 = .ok (.imul, 1) := by decide +kernel
theorem dX5_weigh_107 : decode cX5_weigh 107 = .ok (.iload_n 1, 1) := by decide +kernel
theorem dX5_weigh_108 : decode cX5_weigh 108 = .ok (.iadd, 1) := by decide +kernel
theorem dX5_weigh_109 : decode cX5_weigh 109 = .ok (.iload_n 3, 1) := by decide +kernel
theorem dX5_weigh_110 : decode cX5_weigh 110 = .ok (.iastore, 1) := by decide +kernel
theorem dX5_weigh_111 : decode cX5_weigh 111 = .ok (.aload_n 0, 1) := by decide +kernel
theorem dX5_weigh_112 : decode cX5_weigh 112 = .ok (.invokevirtual 57, 3) := by decide +kernel
theorem dX5_weigh_115 : decode cX5_weigh 115 = .ok (.iload 4, 2) := by decide +kernel
theorem dX5_weigh_117 : decode cX5_weigh 117 = .ok (.ireturn, 1) := by decide +kernel
theorem dX5_first_0 : decode cX5_first 0 = .ok (.aload_n 0, 1) := by decide +kernel
theorem dX5_first_1 : decode cX5_first 1 = .ok (.aload_n 0, 1) := by decide +kernel
theorem dX5_first_2 : decode cX5_first 2 = .ok (.getfield 7, 3) := by decide +kernel
theorem dX5_first_5 : decode cX5_first 5 = .ok (.putfield 70, 3) := by decide +kernel
theorem dX5_first_8 : decode cX5_first 8 = .ok (.iconst 0, 1) := by decide +kernel
theorem dX5_first_9 : decode cX5_first 9 = .ok (.istore_n 1, 1) := by decide +kernel
theorem dX5_first_10 : decode cX5_first 10 = .ok (.iload_n 1, 1) := by decide +kernel
theorem dX5_first_11 : decode cX5_first 11 = .ok (.aload_n 0, 1) := by decide +kernel
theorem dX5_first_12 : decode cX5_first 12 = .ok (.getfield 7, 3) := by decide +kernel
theorem dX5_first_15 : decode cX5_first 15 = .ok (.if_icmp .ge 48, 3) := by decide +kernel
theorem dX5_first_18 : decode cX5_first 18 = .ok (.iconst 0, 1) := by decide +kernel
theorem dX5_first_19 : decode cX5_first 19 = .ok (.istore_n 2, 1) := by decide +kernel
theorem dX5_first_20 : decode cX5_first 20 = .ok (.iload_n 2, 1) := by decide +kernel
theorem dX5_first_21 : decode cX5_first 21 = .ok (.aload_n 0, 1) := by decide +kernel
theorem dX5_first_22 : decode cX5_first 22 = .ok (.getfield 7, 3) := by decide +kernel
theorem dX5_first_25 : decode cX5_first 25 = .ok (.if_icmp .ge 32, 3) := by decide +kernel
theorem dX5_first_28 : decode cX5_first 28 = .ok (.aload_n 0, 1) := by decide +kernel
theorem dX5_first_29 : decode cX5_first 29 = .ok (.getfield 20, 3) := by decide +kernel
theorem dX5_first_32 : decode cX5_first 32 = .ok (.bipush 40, 2) := by decide +kernel
theorem dX5_first_34 : decode cX5_first 34 = .ok (.iload_n 1, 1) := by decide +kernel
theorem dX5_first_35 : decode cX5_first 35 = .ok (.imul, 1) := by decide +kernel
theorem dX5_first_36 : decode cX5_first 36 = .ok (.iload_n 2, 1) := by decide +kernel
theorem dX5_first_37 : decode cX5_first 37 = .ok (.iadd, 1) := by decide +kernel
theorem dX5_first_38 : decode cX5_first 38 = .ok (.aload_n 0, 1) := by decide +kernel
theorem dX5_first_39 : decode cX5_first 39 = .ok (.getfield 13, 3) := by decide +kernel
theorem dX5_first_42 : decode cX5_first 42 = .ok (.bipush 40, 2) := by decide +kernel
theorem dX5_first_44 : decode cX5_first 44 = .ok (.iload_n 1, 1) := by decide +kernel
theorem dX5_first_45 : decode cX5_first 45 = .ok (.imul, 1) := by decide +kernel
theorem dX5_first_46 : decode cX5_first 46 = .ok (.iload_n 2, 1) := by decide +kernel
theorem dX5_first_47 : decode cX5_first 47 = .ok (.iadd, 1) := by decide +kernel
theorem dX5_first_48 : decode cX5_first 48 = .ok (.iaload, 1) := by decide +kernel
theorem dX5_first_49 : decode cX5_first 49 = .ok (.i2l, 1) := by decide +kernel
theorem dX5_first_50 : decode cX5_first 50 = .ok (.lastore, 1) := by decide +kernel
theorem dX5_first_51 : decode cX5_first 51 = .ok (.iinc 2 1, 3) := by decide +kernel
theorem dX5_first_54 : decode cX5_first 54 = .ok (.goto (-34), 3) := by decide +kernel
theorem dX5_first_57 : decode cX5_first 57 = .ok (.iinc 1 1, 3) := by decide +kernel
theorem dX5_first_60 : decode cX5_first 60 = .ok (.goto (-50), 3) := by decide +kernel
theorem dX5_first_63 : decode cX5_first 63 = .ok (.return_, 1) := by decide +kernel
theorem dX5_degree_0 : decode cX5_degree 0 = .ok (.aload_n 0, 1) := by decide +kernel
theorem dX5_degree_1 : decode cX5_degree 1 = .ok (.getfield 20, 3) := by decide +kernel
theorem dX5_degree_4 : decode cX5_degree 4 = .ok (.bipush 40, 2) := by decide +kernel
theorem dX5_degree_6 : decode cX5_degree 6 = .ok (.iload_n 1, 1) := by decide +kernel
theorem dX5_degree_7 : decode cX5_degree 7 = .ok (.imul, 1) := by decide +kernel
theorem dX5_degree_8 : decode cX5_degree 8 = .ok (.iload_n 1, 1) := by decide +kernel
theorem dX5_degree_9 : decode cX5_degree 9 = .ok (.iadd, 1) := by decide +kernel
theorem dX5_degree_10 : decode cX5_degree 10 = .ok (.laload, 1) := by decide +kernel
theorem dX5_degree_11 : decode cX5_degree 11 = .ok (.lstore_n 2, 1) := by decide +kernel
theorem dX5_degree_12 : decode cX5_degree 12 = .ok (.iconst 0, 1) := by decide +kernel
theorem dX5_degree_13 : decode cX5_degree 13 = .ok (.istore 4, 2) := by decide +kernel
theorem dX5_degree_15 : decode cX5_degree 15 = .ok (.iload 4, 2) := by decide +kernel
theorem dX5_degree_17 : decode cX5_degree 17 = .ok (.aload_n 0, 1) := by decide +kernel
theorem dX5_degree_18 : decode cX5_degree 18 = .ok (.getfield 70, 3) := by decide +kernel
theorem dX5_degree_21 : decode cX5_degree 21 = .ok (.if_icmp .ge 24, 3) := by decide +kernel
theorem dX5_degree_24 : decode cX5_degree 24 = .ok (.lload_n 2, 1) := by decide +kernel
theorem dX5_degree_25 : decode cX5_degree 25 = .ok (.aload_n 0, 1) := by decide +kernel
theorem dX5_degree_26 : decode cX5_degree 26 = .ok (.getfield 20, 3) := by decide +kernel
theorem dX5_degree_29 : decode cX5_degree 29 = .ok (.bipush 40, 2) := by decide +kernel
theorem dX5_degree_31 : decode cX5_degree 31 = .ok (.iload_n 1, 1) := by decide +kernel
theorem dX5_degree_32 : decode cX5_degree 32 = .ok (.imul, 1) := by decide +kernel
theorem dX5_degree_33 : decode cX5_degree 33 = .ok (.iload 4, 2) := by decide +kernel
theorem dX5_degree_35 : decode cX5_degree 35 = .ok (.iadd, 1) := by decide +kernel
theorem dX5_degree_36 : decode cX5_degree 36 = .ok (.laload, 1) := by decide +kernel
theorem dX5_degree_37 : decode cX5_degree 37 = .ok (.ladd, 1) := by decide +kernel
theorem dX5_degree_38 : decode cX5_degree 38 = .ok (.lstore_n 2, 1) := by decide +kernel
theorem dX5_degree_39 : decode cX5_degree 39 = .ok (.iinc 4 1, 3) := by decide +kernel
theorem dX5_degree_42 : decode cX5_degree 42 = .ok (.goto (-27), 3) := by decide +kernel
theorem dX5_degree_45 : decode cX5_degree 45 = .ok (.lload_n 2, 1) := by decide +kernel
theorem dX5_degree_46 : decode cX5_degree 46 = .ok (.lreturn, 1) := by decide +kernel
set_option maxRecDepth 20000 in
theorem ggX5_prepare_X5_sum : GoodIn wsX5_prepare wsX5_sum := goodIn_r _ [8, 2, 9, 14, 15, 16, 17, 18, 19, 20, 21, 22, 23, 24, 25, 26, 27, 28, 29, 30] (by decide +kernel) (by decide +kernel)
set_option maxRecDepth 20000 in
theorem gX5_prepare_X5_sum : GoodIn wsX5_prepare (wsV RX5 73 RX5 yX5_sum wsX5_sum) := goodIn_app (goodIn_of _ (by decide +kernel)) ggX5_prepare_X5_sum
set_option maxRecDepth 20000 in
theorem ggX5_prepare_X5_degree : GoodIn wsX5_prepare wsX5_degree := goodIn_r _ [13, 9, 2, 14, 15, 16, 17, 18, 19, 20, 21, 22, 23, 24, 25, 26, 27, 28, 29, 30] (by decide +kernel) (by decide +kernel)
set_option maxRecDepth 20000 in
theorem gX5_prepare_X5_degree : GoodIn wsX5_prepare (wsV RX5 80 RX5 yX5_degree wsX5_degree) := goodIn_app (goodIn_of _ (by decide +kernel)) ggX5_prepare_X5_degree
theorem dX5_prepare_0 : decode cX5_prepare 0 = .ok (.aload_n 0, 1) := by decide +kernel
theorem dX5_prepare_1 : decode cX5_prepare 1 = .ok (.aload_n 0, 1) := by decide +kernel
theorem dX5_prepare_2 : decode cX5_prepare 2 = .ok (.invokevirtual 73, 3) := by decide +kernel
theorem dX5_prepare_5 : decode cX5_prepare 5 = .ok (.putfield 76, 3) := by decide +kernel
theorem dX5_prepare_8 : decode cX5_prepare 8 = .ok (.iconst 0, 1) := by decide +kernel
theorem dX5_prepare_9 : decode cX5_prepare 9 = .ok (.istore_n 1, 1) := by decide +kernel
theorem dX5_prepare_10 : decode cX5_prepare 10 = .ok (.iload_n 1, 1) := by decide +kernel
theorem dX5_prepare_11 : decode cX5_prepare 11 = .ok (.aload_n 0, 1) := by decide +kernel
theorem dX5_prepare_12 : decode cX5_prepare 12 = .ok (.getfield 70, 3) := by decide +kernel
theorem dX5_prepare_15 : decode cX5_prepare 15 = .ok (.if_icmp .ge 20, 3) := by decide +kernel
theorem dX5_prepare_18 : decode cX5_prepare 18 = .ok (.aload_n 0, 1) := by decide +kernel
theorem dX5_prepare_19 : decode cX5_prepare 19 = .ok (.getfield 45, 3) := by decide +kernel
theorem dX5_prepare_22 : decode cX5_prepare 22 = .ok (.iload_n 1, 1) := by decide +kernel
theorem dX5_prepare_23 : decode cX5_prepare 23 = .ok (.aload_n 0, 1) := by decide +kernel
theorem dX5_prepare_24 : decode cX5_prepare 24 = .ok (.iload_n 1, 1) := by decide +kernel
theorem dX5_prepare_25 : decode cX5_prepare 25 = .ok (.invokevirtual 80, 3) := by decide +kernel
theorem dX5_prepare_28 : decode cX5_prepare 28 = .ok (.lastore, 1) := by decide +kernel
theorem dX5_prepare_29 : decode cX5_prepare 29 = .ok (.iinc 1 1, 3) := by decide +kernel
theorem dX5_prepare_32 : decode cX5_prepare 32 = .ok (.goto (-22), 3) := by decide +kernel
theorem dX5_prepare_35 : decode cX5_prepare 35 = .ok (.return_, 1) := by decide +kernel
theorem dX5_sum_0 : decode cX5_sum 0 = .ok (.lconst 0, 1) := by decide +kernel
theorem dX5_sum_1 : decode cX5_sum 1 = .ok (.lstore_n 1, 1) := by decide +kernel
theorem dX5_sum_2 : decode cX5_sum 2 = .ok (.iconst 0, 1) := by decide +kernel
theorem dX5_sum_3 : decode cX5_sum 3 = .ok (.istore_n 3, 1) := by decide +kernel
theorem dX5_sum_4 : decode cX5_sum 4 = .ok (.iload_n 3, 1) := by decide +kernel
theorem dX5_sum_5 : decode cX5_sum 5 = .ok (.aload_n 0, 1) := by decide +kernel
theorem dX5_sum_6 : decode cX5_sum 6 = .ok (.getfield 70, 3) := by decide +kernel
theorem dX5_sum_9 : decode cX5_sum 9 = .ok (.if_icmp .ge 39, 3) := by decide +kernel
theorem dX5_sum_12 : decode cX5_sum 12 = .ok (.iconst 0, 1) := by decide +kernel
theorem dX5_sum_13 : decode cX5_sum 13 = .ok (.istore 4, 2) := by decide +kernel
theorem dX5_sum_15 : decode cX5_sum 15 = .ok (.iload 4, 2) := by decide +kernel
theorem dX5_sum_17 : decode cX5_sum 17 = .ok (.iload_n 3, 1) := by decide +kernel
theorem dX5_sum_18 : decode cX5_sum 18 = .ok (.if_icmp .gt 24, 3) := by decide +kernel
theorem dX5_sum_21 : decode cX5_sum 21 = .ok (.lload_n 1, 1) := by decide +kernel
theorem dX5_sum_22 : decode cX5_sum 22 = .ok (.aload_n 0, 1) := by decide +kernel
theorem dX5_sum_23 : decode cX5_sum 23 = .ok (.getfield 20, 3) := by decide +kernel
theorem dX5_sum_26 : decode cX5_sum 26 = .ok (.bipush 40, 2) := by decide +kernel
theorem dX5_sum_28 : decode cX5_sum 28 = .ok (.iload_n 3, 1) := by decide +kernel
theorem dX5_sum_29 : decode cX5_sum 29 = .ok (.imul, 1) := by decide +kernel
theorem dX5_sum_30 : decode cX5_sum 30 = .ok (.iload 4, 2) := by decide +kernel
theorem dX5_sum_32 : decode cX5_sum 32 = .ok (.iadd, 1) := by decide +kernel
theorem dX5_sum_33 : decode cX5_sum 33 = .ok (.laload, 1) := by decide +kernel
theorem dX5_sum_34 : decode cX5_sum 34 = .ok (.ladd, 1) := by decide +kernel
theorem dX5_sum_35 : decode cX5_sum 35 = .ok (.lstore_n 1, 1) := by decide +kernel
theorem dX5_sum_36 : decode cX5_sum 36 = .ok (.iinc 4 1, 3) := by decide +kernel
theorem dX5_sum_39 : decode cX5_sum 39 = .ok (.goto (-24), 3) := by decide +kernel
theorem dX5_sum_42 : decode cX5_sum 42 = .ok (.iinc 3 1, 3) := by decide +kernel
theorem dX5_sum_45 : decode cX5_sum 45 = .ok (.goto (-41), 3) := by decide +kernel
theorem dX5_sum_48 : decode cX5_sum 48 = .ok (.lload_n 1, 1) := by decide +kernel
theorem dX5_sum_49 : decode cX5_sum 49 = .ok (.lreturn, 1) := by decide +kernel
theorem dX5_modularityNow_0 : decode cX5_modularityNow 0 = .ok (.lconst 0, 1) := by decide +kernel
theorem dX5_modularityNow_1 : decode cX5_modularityNow 1 = .ok (.lstore_n 1, 1) := by decide +kernel
theorem dX5_modularityNow_2 : decode cX5_modularityNow 2 = .ok (.iconst 0, 1) := by decide +kernel
theorem dX5_modularityNow_3 : decode cX5_modularityNow 3 = .ok (.istore_n 3, 1) := by decide +kernel
theorem dX5_modularityNow_4 : decode cX5_modularityNow 4 = .ok (.iload_n 3, 1) := by decide +kernel
theorem dX5_modularityNow_5 : decode cX5_modularityNow 5 = .ok (.bipush 40, 2) := by decide +kernel
theorem dX5_modularityNow_7 : decode cX5_modularityNow 7 = .ok (.if_icmp .ge 125, 3) := by decide +kernel
theorem dX5_modularityNow_10 : decode cX5_modularityNow 10 = .ok (.lconst 0, 1) := by decide +kernel
theorem dX5_modularityNow_11 : decode cX5_modularityNow 11 = .ok (.lstore 4, 2) := by decide +kernel
theorem dX5_modularityNow_13 : decode cX5_modularityNow 13 = .ok (.lconst 0, 1) := by decide +kernel
theorem dX5_modularityNow_14 : decode cX5_modularityNow 14 = .ok (.lstore 6, 2) := by decide +kernel
theorem dX5_modularityNow_16 : decode cX5_modularityNow 16 = .ok (.iconst 0, 1) := by decide +kernel
theorem dX5_modularityNow_17 : decode cX5_modularityNow 17 = .ok (.istore 8, 2) := by decide +kernel
theorem dX5_modularityNow_19 : decode cX5_modularityNow 19 = .ok (.iload 8, 2) := by decide +kernel
theorem dX5_modularityNow_21 : decode cX5_modularityNow 21 = .ok (.aload_n 0, 1) := by decide +kernel
theorem dX5_modularityNow_22 : decode cX5_modularityNow 22 = .ok (.getfield 70, 3) := by decide +kernel
theorem dX5_modularityNow_25 : decode cX5_modularityNow 25 = .ok (.if_icmp .ge 81, 3) := by decide +kernel
theorem dX5_modularityNow_28 : decode cX5_modularityNow 28 = .ok (.aload_n 0, 1) := by decide +kernel
theorem dX5_modularityNow_29 : decode cX5_modularityNow 29 = .ok (.getfield 24, 3) := by decide +kernel
theorem dX5_modularityNow_32 : decode cX5_modularityNow 32 = .ok (.iload 8, 2) := by decide +kernel
theorem dX5_modularityNow_34 : decode cX5_modularityNow 34 = .ok (.iaload, 1) := by decide +kernel
theorem dX5_modularityNow_35 : decode cX5_modularityNow 35 = .ok (.iload_n 3, 1) := by decide +kernel
theorem dX5_modularityNow_36 : decode cX5_modularityNow 36 = .ok (.if_icmp .ne 64, 3) := by decide +kernel
theorem dX5_modularityNow_39 : decode cX5_modularityNow 39 = .ok (.lload 6, 2) := by decide +kernel
theorem dX5_modularityNow_41 : decode cX5_modularityNow 41 = .ok (.aload_n 0, 1) := by decide +kernel
theorem dX5_modularityNow_42 : decode cX5_modularityNow 42 = .ok (.getfield 45, 3) := by decide +kernel
theorem dX5_modularityNow_45 : decode cX5_modularityNow 45 = .ok (.iload 8, 2) := by decide +kernel
theorem dX5_modularityNow_47 : decode cX5_modularityNow 47 = .ok (.laload, 1) := by decide +kernel
theorem dX5_modularityNow_48 : decode cX5_modularityNow 48 = .ok (.ladd, 1) := by decide +kernel
theorem dX5_modularityNow_49 : decode cX5_modularityNow 49 = .ok (.lstore 6, 2) := by decide +kernel
theorem dX5_modularityNow_51 : decode cX5_modularityNow 51 = .ok (.iconst 0, 1) := by decide +kernel
theorem dX5_modularityNow_52 : decode cX5_modularityNow 52 = .ok (.istore 9, 2) := by decide +kernel
theorem dX5_modularityNow_54 : decode cX5_modularityNow 54 = .ok (.iload 9, 2) := by decide +kernel
theorem dX5_modularityNow_56 : decode cX5_modularityNow 56 = .ok (.iload 8, 2) := by decide +kernel
theorem dX5_modularityNow_58 : decode cX5_modularityNow 58 = .ok (.if_icmp .gt 42, 3) := by decide +kernel
theorem dX5_modularityNow_61 : decode cX5_modularityNow 61 = .ok (.lload 4, 2) := by decide +kernel
theorem dX5_modularityNow_63 : decode cX5_modularityNow 63 = .ok (.aload_n 0, 1) := by decide +kernel
theorem dX5_modularityNow_64 : decode cX5_modularityNow 64 = .ok (.getfield 24, 3) := by decide +kernel
theorem dX5_modularityNow_67 : decode cX5_modularityNow 67 = .ok (.iload 9, 2) := by decide +kernel
theorem dX5_modularityNow_69 : decode cX5_modularityNow 69 = .ok (.iaload, 1) := by decide +kernel
theorem dX5_modularityNow_70 : decode cX5_modularityNow 70 = .ok (.iload_n 3, 1) := by decide +kernel
theorem dX5_modularityNow_71 : decode cX5_modularityNow 71 = .ok (.if_icmp .ne 19, 3) := by decide +kernel
theorem dX5_modularityNow_74 : decode cX5_modularityNow 74 = .ok (.aload_n 0, 1) := by decide +kernel
theorem dX5_modularityNow_75 : decode cX5_modularityNow 75 = .ok (.getfield 20, 3) := by decide +kernel
theorem dX5_modularityNow_78 : decode cX5_modularityNow 78 = .ok (.bipush 40, 2) := by decide +kernel
theorem dX5_modularityNow_80 : decode cX5_modularityNow 80 = .ok (.iload 8, 2) := by decide +kernel
theorem dX5_modularityNow_82 : decode cX5_modularityNow 82 = .ok (.imul, 1) := by decide +kernel
theorem dX5_modularityNow_83 : decode cX5_modularityNow 83 = .ok (.iload 9, 2) := by decide +kernel
theorem dX5_modularityNow_85 : decode cX5_modularityNow 85 = .ok (.iadd, 1) := by decide +kernel
theorem dX5_modularityNow_86 : decode cX5_modularityNow 86 = .ok (.laload, 1) := by decide +kernel
theorem dX5_modularityNow_87 : decode cX5_modularityNow 87 = .ok (.goto 4, 3) := by decide +kernel
theorem dX5_modularityNow_90 : decode cX5_modularityNow 90 = .ok (.lconst 0, 1) := by decide +kernel
theorem dX5_modularityNow_91 : decode cX5_modularityNow 91 = .ok (.ladd, 1) := by decide +kernel
theorem dX5_modularityNow_92 : decode cX5_modularityNow 92 = .ok (.lstore 4, 2) := by decide +kernel
theorem dX5_modularityNow_94 : decode cX5_modularityNow 94 = .ok (.iinc 9 1, 3) := by decide +kernel
theorem dX5_modularityNow_97 : decode cX5_modularityNow 97 = .ok (.goto (-43), 3) := by decide +kernel
theorem dX5_modularityNow_100 : decode cX5_modularityNow 100 = .ok (.iinc 8 1, 3) := by decide +kernel
theorem dX5_modularityNow_103 : decode cX5_modularityNow 103 = .ok (.goto (-84), 3) := by decide +kernel
theorem dX5_modularityNow_106 : decode cX5_modularityNow 106 = .ok (.lload_n 1, 1) := by decide +kernel
theorem dX5_modularityNow_107 : decode cX5_modularityNow 107 = .ok (.ldc2_w 84, 3) := by decide +kernel
theorem dX5_modularityNow_110 : decode cX5_modularityNow 110 = .ok (.aload_n 0, 1) := by decide +kernel
theorem dX5_modularityNow_111 : decode cX5_modularityNow 111 = .ok (.getfield 76, 3) := by decide +kernel
theorem dX5_modularityNow_114 : decode cX5_modularityNow 114 = .ok (.lmul, 1) := by decide +kernel
theorem dX5_modularityNow_115 : decode cX5_modularityNow 115 = .ok (.lload 4, 2) := by decide +kernel
theorem dX5_modularityNow_117 : decode cX5_modularityNow 117 = .ok (.lmul, 1) := by decide +kernel
theorem dX5_modularityNow_118 : decode cX5_modularityNow 118 = .ok (.lload 6, 2) := by decide +kernel
theorem dX5_modularityNow_120 : decode cX5_modularityNow 120 = .ok (.lload 6, 2) := by decide +kernel
theorem dX5_modularityNow_122 : decode cX5_modularityNow 122 = .ok (.lmul, 1) := by decide +kernel
theorem dX5_modularityNow_123 : decode cX5_modularityNow 123 = .ok (.lsub, 1) := by decide +kernel
theorem dX5_modularityNow_124 : decode cX5_modularityNow 124 = .ok (.ladd, 1) := by decide +kernel
theorem dX5_modularityNow_125 : decode cX5_modularityNow 125 = .ok (.lstore_n 1, 1) := by decide +kernel
theorem dX5_modularityNow_126 : decode cX5_modularityNow 126 = .ok (.iinc 3 1, 3) := by decide +kernel
theorem dX5_modularityNow_129 : decode cX5_modularityNow 129 = .ok (.goto (-125), 3) := by decide +kernel
theorem dX5_modularityNow_132 : decode cX5_modularityNow 132 = .ok (.lload_n 1, 1) := by decide +kernel
theorem dX5_modularityNow_133 : decode cX5_modularityNow 133 = .ok (.lreturn, 1) := by decide +kernel
theorem dX5_gainOf_0 : decode cX5_gainOf 0 = .ok (.aload_n 0, 1) := by decide +kernel
theorem dX5_gainOf_1 : decode cX5_gainOf 1 = .ok (.getfield 24, 3) := by decide +kernel
theorem dX5_gainOf_4 : decode cX5_gainOf 4 = .ok (.iload_n 1, 1) := by decide +kernel
theorem dX5_gainOf_5 : decode cX5_gainOf 5 = .ok (.iaload, 1) := by decide +kernel
theorem dX5_gainOf_6 : decode cX5_gainOf 6 = .ok (.iload_n 2, 1) := by decide +kernel
theorem dX5_gainOf_7 : decode cX5_gainOf 7 = .ok (.if_icmp .ne 5, 3) := by decide +kernel
theorem dX5_gainOf_10 : decode cX5_gainOf 10 = .ok (.lconst 0, 1) := by decide +kernel
theorem dX5_gainOf_11 : decode cX5_gainOf 11 = .ok (.lreturn, 1) := by decide +kernel
theorem dX5_gainOf_12 : decode cX5_gainOf 12 = .ok (.lconst 0, 1) := by decide +kernel
theorem dX5_gainOf_13 : decode cX5_gainOf 13 = .ok (.lstore_n 3, 1) := by decide +kernel
theorem dX5_gainOf_14 : decode cX5_gainOf 14 = .ok (.lconst 0, 1) := by decide +kernel
theorem dX5_gainOf_15 : decode cX5_gainOf 15 = .ok (.lstore 5, 2) := by decide +kernel
theorem dX5_gainOf_17 : decode cX5_gainOf 17 = .ok (.lconst 0, 1) := by decide +kernel
theorem dX5_gainOf_18 : decode cX5_gainOf 18 = .ok (.lstore 7, 2) := by decide +kernel
theorem dX5_gainOf_20 : decode cX5_gainOf 20 = .ok (.lconst 0, 1) := by decide +kernel
theorem dX5_gainOf_21 : decode cX5_gainOf 21 = .ok (.lstore 9, 2) := by decide +kernel
theorem dX5_gainOf_23 : decode cX5_gainOf 23 = .ok (.iconst 0, 1) := by decide +kernel
theorem dX5_gainOf_24 : decode cX5_gainOf 24 = .ok (.istore 11, 2) := by decide +kernel
theorem dX5_gainOf_26 : decode cX5_gainOf 26 = .ok (.iload 11, 2) := by decide +kernel
theorem dX5_gainOf_28 : decode cX5_gainOf 28 = .ok (.aload_n 0, 1) := by decide +kernel
theorem dX5_gainOf_29 : decode cX5_gainOf 29 = .ok (.getfield 70, 3) := by decide +kernel
theorem dX5_gainOf_32 : decode cX5_gainOf 32 = .ok (.if_icmp .ge 98, 3) := by decide +kernel
theorem dX5_gainOf_35 : decode cX5_gainOf 35 = .ok (.iload 11, 2) := by decide +kernel
theorem dX5_gainOf_37 : decode cX5_gainOf 37 = .ok (.iload_n 1, 1) := by decide +kernel
theorem dX5_gainOf_38 : decode cX5_gainOf 38 = .ok (.if_icmp .eq 46, 3) := by decide +kernel
theorem dX5_gainOf_41 : decode cX5_gainOf 41 = .ok (.aload_n 0, 1) := by decide +kernel
theorem dX5_gainOf_42 : decode cX5_gainOf 42 = .ok (.getfield 24, 3) := by decide +kernel
theorem dX5_gainOf_45 : decode cX5_gainOf 45 = .ok (.iload 11, 2) := by decide +kernel
theorem dX5_gainOf_47 : decode cX5_gainOf 47 = .ok (.iaload, 1) := by decide +kernel
theorem dX5_gainOf_48 : decode cX5_gainOf 48 = .ok (.aload_n 0, 1) := by decide +kernel
theorem dX5_gainOf_49 : decode cX5_gainOf 49 = .ok (.getfield 24, 3) := by decide +kernel
theorem dX5_gainOf_52 : decode cX5_gainOf 52 = .ok (.iload_n 1, 1) := by decide +kernel
theorem dX5_gainOf_53 : decode cX5_gainOf 53 = .ok (.iaload, 1) := by decide +kernel
theorem dX5_gainOf_54 : decode cX5_gainOf 54 = .ok (.if_icmp .ne 30, 3) := by decide +kernel
theorem dX5_gainOf_57 : decode cX5_gainOf 57 = .ok (.lload_n 3, 1) := by decide +kernel
theorem dX5_gainOf_58 : decode cX5_gainOf 58 = .ok (.aload_n 0, 1) := by decide +kernel
theorem dX5_gainOf_59 : decode cX5_gainOf 59 = .ok (.getfield 20, 3) := by decide +kernel
theorem dX5_gainOf_62 : decode cX5_gainOf 62 = .ok (.bipush 40, 2) := by decide +kernel
theorem dX5_gainOf_64 : decode cX5_gainOf 64 = .ok (.iload_n 1, 1) := by decide +kernel
theorem dX5_gainOf_65 : decode cX5_gainOf 65 = .ok (.imul, 1) := by decide +kernel
theorem dX5_gainOf_66 : decode cX5_gainOf 66 = .ok (.iload 11, 2) := by decide +kernel
theorem dX5_gainOf_68 : decode cX5_gainOf 68 = .ok (.iadd, 1) := by decide +kernel
theorem dX5_gainOf_69 : decode cX5_gainOf 69 = .ok (.laload, 1) := by decide +kernel
theorem dX5_gainOf_70 : decode cX5_gainOf 70 = .ok (.ladd, 1) := by decide +kernel
theorem dX5_gainOf_71 : decode cX5_gainOf 71 = .ok (.lstore_n 3, 1) := by decide +kernel
theorem dX5_gainOf_72 : decode cX5_gainOf 72 = .ok (.lload 7, 2) := by decide +kernel
theorem dX5_gainOf_74 : decode cX5_gainOf 74 = .ok (.aload_n 0, 1) := by decide +kernel
theorem dX5_gainOf_75 : decode cX5_gainOf 75 = .ok (.getfield 45, 3) := by decide +kernel
theorem dX5_gainOf_78 : decode cX5_gainOf 78 = .ok (.iload 11, 2) := by decide +kernel
theorem dX5_gainOf_80 : decode cX5_gainOf 80 = .ok (.laload, 1) := by decide +kernel
theorem dX5_gainOf_81 : decode cX5_gainOf 81 = .ok (.ladd, 1) := by decide +kernel
theorem dX5_gainOf_82 : decode cX5_gainOf 82 = .ok (.lstore 7, 2) := by decide +kernel
theorem dX5_gainOf_84 : decode cX5_gainOf 84 = .ok (.aload_n 0, 1) := by decide +kernel
theorem dX5_gainOf_85 : decode cX5_gainOf 85 = .ok (.getfield 24, 3) := by decide +kernel
theorem dX5_gainOf_88 : decode cX5_gainOf 88 = .ok (.iload 11, 2) := by decide +kernel
theorem dX5_gainOf_90 : decode cX5_gainOf 90 = .ok (.iaload, 1) := by decide +kernel
theorem dX5_gainOf_91 : decode cX5_gainOf 91 = .ok (.iload_n 2, 1) := by decide +kernel
theorem dX5_gainOf_92 : decode cX5_gainOf 92 = .ok (.if_icmp .ne 32, 3) := by decide +kernel
theorem dX5_gainOf_95 : decode cX5_gainOf 95 = .ok (.lload 5, 2) := by decide +kernel
theorem dX5_gainOf_97 : decode cX5_gainOf 97 = .ok (.aload_n 0, 1) := by decide +kernel
theorem dX5_gainOf_98 : decode cX5_gainOf 98 = .ok (.getfield 20, 3) := by decide +kernel
theorem dX5_gainOf_101 : decode cX5_gainOf 101 = .ok (.bipush 40, 2) := by decide +kernel
theorem dX5_gainOf_103 : decode cX5_gainOf 103 = .ok (.iload_n 1, 1) := by decide +kernel
theorem dX5_gainOf_104 : decode cX5_gainOf 104 = .ok (.imul, 1) := by decide +kernel
theorem dX5_gainOf_105 : decode cX5_gainOf 105 = .ok (.iload 11, 2) := by decide +kernel
theorem dX5_gainOf_107 : decode cX5_gainOf 107 = .ok (.iadd, 1) := by decide +kernel
theorem dX5_gainOf_108 : decode cX5_gainOf 108 = .ok (.laload, 1) := by decide +kernel
theorem dX5_gainOf_109 : decode cX5_gainOf 109 = .ok (.ladd, 1) := by decide +kernel
theorem dX5_gainOf_110 : decode cX5_gainOf 110 = .ok (.lstore 5, 2) := by decide +kernel
theorem dX5_gainOf_112 : decode cX5_gainOf 112 = .ok (.lload 9, 2) := by decide +kernel
theorem dX5_gainOf_114 : decode cX5_gainOf 114 = .ok (.aload_n 0, 1) := by decide +kernel
theorem dX5_gainOf_115 : decode cX5_gainOf 115 = .ok (.getfield 45, 3) := by decide +kernel
theorem dX5_gainOf_118 : decode cX5_gainOf 118 = .ok (.iload 11, 2) := by decide +kernel
theorem dX5_gainOf_120 : decode cX5_gainOf 120 = .ok (.laload, 1) := by decide +kernel
theorem dX5_gainOf_121 : decode cX5_gainOf 121 = .ok (.ladd, 1) := by decide +kernel
theorem dX5_gainOf_122 : decode cX5_gainOf 122 = .ok (.lstore 9, 2) := by decide +kernel
theorem dX5_gainOf_124 : decode cX5_gainOf 124 = .ok (.iinc 11 1, 3) := by decide +kernel
theorem dX5_gainOf_127 : decode cX5_gainOf 127 = .ok (.goto (-101), 3) := by decide +kernel
theorem dX5_gainOf_130 : decode cX5_gainOf 130 = .ok (.ldc2_w 84, 3) := by decide +kernel
theorem dX5_gainOf_133 : decode cX5_gainOf 133 = .ok (.aload_n 0, 1) := by decide +kernel
theorem dX5_gainOf_134 : decode cX5_gainOf 134 = .ok (.getfield 76, 3) := by decide +kernel
theorem dX5_gainOf_137 : decode cX5_gainOf 137 = .ok (.lmul, 1) := by decide +kernel
theorem dX5_gainOf_138 : decode cX5_gainOf 138 = .ok (.lload 5, 2) := by decide +kernel
theorem dX5_gainOf_140 : decode cX5_gainOf 140 = .ok (.lload_n 3, 1) := by decide +kernel
theorem dX5_gainOf_141 : decode cX5_gainOf 141 = .ok (.lsub, 1) := by decide +kernel
theorem dX5_gainOf_142 : decode cX5_gainOf 142 = .ok (.lmul, 1) := by decide +kernel
theorem dX5_gainOf_143 : decode cX5_gainOf 143 = .ok (.ldc2_w 86, 3) := by decide +kernel
theorem dX5_gainOf_146 : decode cX5_gainOf 146 = .ok (.aload_n 0, 1) := by decide +kernel
theorem dX5_gainOf_147 : decode cX5_gainOf 147 = .ok (.getfield 45, 3) := by decide +kernel
theorem dX5_gainOf_150 : decode cX5_gainOf 150 = .ok (.iload_n 1, 1) := by decide +kernel
theorem dX5_gainOf_151 : decode cX5_gainOf 151 = .ok (.laload, 1) := by decide +kernel
theorem dX5_gainOf_152 : decode cX5_gainOf 152 = .ok (.lmul, 1) := by decide +kernel
theorem dX5_gainOf_153 : decode cX5_gainOf 153 = .ok (.lload 9, 2) := by decide +kernel
theorem dX5_gainOf_155 : decode cX5_gainOf 155 = .ok (.lload 7, 2) := by decide +kernel
theorem dX5_gainOf_157 : decode cX5_gainOf 157 = .ok (.lsub, 1) := by decide +kernel
theorem dX5_gainOf_158 : decode cX5_gainOf 158 = .ok (.lmul, 1) := by decide +kernel
theorem dX5_gainOf_159 : decode cX5_gainOf 159 = .ok (.lsub, 1) := by decide +kernel
theorem dX5_gainOf_160 : decode cX5_gainOf 160 = .ok (.lreturn, 1) := by decide +kernel
theorem dX5_isNear_0 : decode cX5_isNear 0 = .ok (.iconst 0, 1) := by decide +kernel
theorem dX5_isNear_1 : decode cX5_isNear 1 = .ok (.istore_n 3, 1) := by decide +kernel
theorem dX5_isNear_2 : decode cX5_isNear 2 = .ok (.iconst 0, 1) := by decide +kernel
theorem dX5_isNear_3 : decode cX5_isNear 3 = .ok (.istore 4, 2) := by decide +kernel
theorem dX5_isNear_5 : decode cX5_isNear 5 = .ok (.iload 4, 2) := by decide +kernel
theorem dX5_isNear_7 : decode cX5_isNear 7 = .ok (.aload_n 0, 1) := by decide +kernel
theorem dX5_isNear_8 : decode cX5_isNear 8 = .ok (.getfield 70, 3) := by decide +kernel
theorem dX5_isNear_11 : decode cX5_isNear 11 = .ok (.if_icmp .ge 51, 3) := by decide +kernel
theorem dX5_isNear_14 : decode cX5_isNear 14 = .ok (.iload_n 3, 1) := by decide +kernel
theorem dX5_isNear_15 : decode cX5_isNear 15 = .ok (.iload 4, 2) := by decide +kernel
theorem dX5_isNear_17 : decode cX5_isNear 17 = .ok (.iload_n 1, 1) := by decide +kernel
theorem dX5_isNear_18 : decode cX5_isNear 18 = .ok (.if_icmp .eq 35, 3) := by decide +kernel
theorem dX5_isNear_21 : decode cX5_isNear 21 = .ok (.aload_n 0, 1) := by decide +kernel
theorem dX5_isNear_22 : decode cX5_isNear 22 = .ok (.getfield 24, 3) := by decide +kernel
theorem dX5_isNear_25 : decode cX5_isNear 25 = .ok (.iload 4, 2) := by decide +kernel
theorem dX5_isNear_27 : decode cX5_isNear 27 = .ok (.iaload, 1) := by decide +kernel
theorem dX5_isNear_28 : decode cX5_isNear 28 = .ok (.iload_n 2, 1) := by decide +kernel
theorem dX5_isNear_29 : decode cX5_isNear 29 = .ok (.if_icmp .ne 24, 3) := by decide +kernel
theorem dX5_isNear_32 : decode cX5_isNear 32 = .ok (.aload_n 0, 1) := by decide +kernel
theorem dX5_isNear_33 : decode cX5_isNear 33 = .ok (.getfield 20, 3) := by decide +kernel
theorem dX5_isNear_36 : decode cX5_isNear 36 = .ok (.bipush 40, 2) := by decide +kernel
theorem dX5_isNear_38 : decode cX5_isNear 38 = .ok (.iload_n 1, 1) := by decide +kernel
theorem dX5_isNear_39 : decode cX5_isNear 39 = .ok (.imul, 1) := by decide +kernel
theorem dX5_isNear_40 : decode cX5_isNear 40 = .ok (.iload 4, 2) := by decide +kernel
theorem dX5_isNear_42 : decode cX5_isNear 42 = .ok (.iadd, 1) := by decide +kernel
theorem dX5_isNear_43 : decode cX5_isNear 43 = .ok (.laload, 1) := by decide +kernel
theorem dX5_isNear_44 : decode cX5_isNear 44 = .ok (.lconst 0, 1) := by decide +kernel
theorem dX5_isNear_45 : decode cX5_isNear 45 = .ok (.lcmp, 1) := by decide +kernel
theorem dX5_isNear_46 : decode cX5_isNear 46 = .ok (.ifCond .le 7, 3) := by decide +kernel
theorem dX5_isNear_49 : decode cX5_isNear 49 = .ok (.iconst 1, 1) := by decide +kernel
theorem dX5_isNear_50 : decode cX5_isNear 50 = .ok (.goto 4, 3) := by decide +kernel
theorem dX5_isNear_53 : decode cX5_isNear 53 = .ok (.iconst 0, 1) := by decide +kernel
theorem dX5_isNear_54 : decode cX5_isNear 54 = .ok (.ior, 1) := by decide +kernel
theorem dX5_isNear_55 : decode cX5_isNear 55 = .ok (.istore_n 3, 1) := by decide +kernel
theorem dX5_isNear_56 : decode cX5_isNear 56 = .ok (.iinc 4 1, 3) := by decide +kernel
theorem dX5_isNear_59 : decode cX5_isNear 59 = .ok (.goto (-54), 3) := by decide +kernel
theorem dX5_isNear_62 : decode cX5_isNear 62 = .ok (.iload_n 3, 1) := by decide +kernel
theorem dX5_isNear_63 : decode cX5_isNear 63 = .ok (.ireturn, 1) := by decide +kernel
theorem dX5_isEmpty_0 : decode cX5_isEmpty 0 = .ok (.iconst 1, 1) := by decide +kernel
theorem dX5_isEmpty_1 : decode cX5_isEmpty 1 = .ok (.istore_n 2, 1) := by decide +kernel
theorem dX5_isEmpty_2 : decode cX5_isEmpty 2 = .ok (.iconst 0, 1) := by decide +kernel
theorem dX5_isEmpty_3 : decode cX5_isEmpty 3 = .ok (.istore_n 3, 1) := by decide +kernel
theorem dX5_isEmpty_4 : decode cX5_isEmpty 4 = .ok (.iload_n 3, 1) := by decide +kernel
theorem dX5_isEmpty_5 : decode cX5_isEmpty 5 = .ok (.aload_n 0, 1) := by decide +kernel
theorem dX5_isEmpty_6 : decode cX5_isEmpty 6 = .ok (.getfield 70, 3) := by decide +kernel
theorem dX5_isEmpty_9 : decode cX5_isEmpty 9 = .ok (.if_icmp .ge 27, 3) := by decide +kernel
theorem dX5_isEmpty_12 : decode cX5_isEmpty 12 = .ok (.iload_n 2, 1) := by decide +kernel
theorem dX5_isEmpty_13 : decode cX5_isEmpty 13 = .ok (.aload_n 0, 1) := by decide +kernel
theorem dX5_isEmpty_14 : decode cX5_isEmpty 14 = .ok (.getfield 24, 3) := by decide +kernel
theorem dX5_isEmpty_17 : decode cX5_isEmpty 17 = .ok (.iload_n 3, 1) := by decide +kernel
theorem dX5_isEmpty_18 : decode cX5_isEmpty 18 = .ok (.iaload, 1) := by decide +kernel
theorem dX5_isEmpty_19 : decode cX5_isEmpty 19 = .ok (.iload_n 1, 1) := by decide +kernel
theorem dX5_isEmpty_20 : decode cX5_isEmpty 20 = .ok (.if_icmp .eq 7, 3) := by decide +kernel
theorem dX5_isEmpty_23 : decode cX5_isEmpty 23 = .ok (.iconst 1, 1) := by decide +kernel
theorem dX5_isEmpty_24 : decode cX5_isEmpty 24 = .ok (.goto 4, 3) := by decide +kernel
theorem dX5_isEmpty_27 : decode cX5_isEmpty 27 = .ok (.iconst 0, 1) := by decide +kernel
theorem dX5_isEmpty_28 : decode cX5_isEmpty 28 = .ok (.iand, 1) := by decide +kernel
theorem dX5_isEmpty_29 : decode cX5_isEmpty 29 = .ok (.istore_n 2, 1) := by decide +kernel
theorem dX5_isEmpty_30 : decode cX5_isEmpty 30 = .ok (.iinc 3 1, 3) := by decide +kernel
theorem dX5_isEmpty_33 : decode cX5_isEmpty 33 = .ok (.goto (-29), 3) := by decide +kernel
end
section
theorem dX5_isEmpty_36 : decode cX5_isEmpty 36 = .ok (.iload_n 2, 1) := by decide +kernel
theorem dX5_isEmpty_37 : decode cX5_isEmpty 37 = .ok (.ireturn, 1) := by decide +kernel
theorem dX5_isAlone_0 : decode cX5_isAlone 0 = .ok (.iconst 1, 1) := by decide +kernel
theorem dX5_isAlone_1 : decode cX5_isAlone 1 = .ok (.istore_n 2, 1) := by decide +kernel
theorem dX5_isAlone_2 : decode cX5_isAlone 2 = .ok (.iconst 0, 1) := by decide +kernel
theorem dX5_isAlone_3 : decode cX5_isAlone 3 = .ok (.istore_n 3, 1) := by decide +kernel
theorem dX5_isAlone_4 : decode cX5_isAlone 4 = .ok (.iload_n 3, 1) := by decide +kernel
theorem dX5_isAlone_5 : decode cX5_isAlone 5 = .ok (.aload_n 0, 1) := by decide +kernel
theorem dX5_isAlone_6 : decode cX5_isAlone 6 = .ok (.getfield 70, 3) := by decide +kernel
theorem dX5_isAlone_9 : decode cX5_isAlone 9 = .ok (.if_icmp .ge 37, 3) := by decide +kernel
theorem dX5_isAlone_12 : decode cX5_isAlone 12 = .ok (.iload_n 2, 1) := by decide +kernel
theorem dX5_isAlone_13 : decode cX5_isAlone 13 = .ok (.iload_n 3, 1) := by decide +kernel
theorem dX5_isAlone_14 : decode cX5_isAlone 14 = .ok (.iload_n 1, 1) := by decide +kernel
theorem dX5_isAlone_15 : decode cX5_isAlone 15 = .ok (.if_icmp .eq 18, 3) := by decide +kernel
theorem dX5_isAlone_18 : decode cX5_isAlone 18 = .ok (.aload_n 0, 1) := by decide +kernel
theorem dX5_isAlone_19 : decode cX5_isAlone 19 = .ok (.getfield 24, 3) := by decide +kernel
theorem dX5_isAlone_22 : decode cX5_isAlone 22 = .ok (.iload_n 3, 1) := by decide +kernel
theorem dX5_isAlone_23 : decode cX5_isAlone 23 = .ok (.iaload, 1) := by decide +kernel
theorem dX5_isAlone_24 : decode cX5_isAlone 24 = .ok (.aload_n 0, 1) := by decide +kernel
theorem dX5_isAlone_25 : decode cX5_isAlone 25 = .ok (.getfield 24, 3) := by decide +kernel
theorem dX5_isAlone_28 : decode cX5_isAlone 28 = .ok (.iload_n 1, 1) := by decide +kernel
theorem dX5_isAlone_29 : decode cX5_isAlone 29 = .ok (.iaload, 1) := by decide +kernel
theorem dX5_isAlone_30 : decode cX5_isAlone 30 = .ok (.if_icmp .eq 7, 3) := by decide +kernel
theorem dX5_isAlone_33 : decode cX5_isAlone 33 = .ok (.iconst 1, 1) := by decide +kernel
theorem dX5_isAlone_34 : decode cX5_isAlone 34 = .ok (.goto 4, 3) := by decide +kernel
theorem dX5_isAlone_37 : decode cX5_isAlone 37 = .ok (.iconst 0, 1) := by decide +kernel
theorem dX5_isAlone_38 : decode cX5_isAlone 38 = .ok (.iand, 1) := by decide +kernel
theorem dX5_isAlone_39 : decode cX5_isAlone 39 = .ok (.istore_n 2, 1) := by decide +kernel
theorem dX5_isAlone_40 : decode cX5_isAlone 40 = .ok (.iinc 3 1, 3) := by decide +kernel
theorem dX5_isAlone_43 : decode cX5_isAlone 43 = .ok (.goto (-39), 3) := by decide +kernel
theorem dX5_isAlone_46 : decode cX5_isAlone 46 = .ok (.iload_n 2, 1) := by decide +kernel
theorem dX5_isAlone_47 : decode cX5_isAlone 47 = .ok (.ireturn, 1) := by decide +kernel
set_option maxRecDepth 20000 in
theorem ggX5_come_X5_isNear : GoodIn wsX5_come wsX5_isNear := goodIn_r _ [10, 11, 1, 12, 29, 30, 31, 32, 33, 34, 35, 36, 37, 38, 39, 40, 41, 42, 43, 44, 45] (by decide +kernel) (by decide +kernel)
set_option maxRecDepth 20000 in
theorem gX5_come_X5_isNear : GoodIn wsX5_come (wsV RX5 88 RX5 yX5_isNear wsX5_isNear) := goodIn_app (goodIn_of _ (by decide +kernel)) ggX5_come_X5_isNear
set_option maxRecDepth 20000 in
theorem ggX5_come_X5_gainOf : GoodIn wsX5_come wsX5_gainOf := goodIn_r _ [16, 1, 11, 12, 17, 18, 19, 20, 29, 30, 31, 32, 33, 34, 35, 36, 37, 38, 39, 40, 41, 42, 43, 44, 45] (by decide +kernel) (by decide +kernel)
set_option maxRecDepth 20000 in
theorem gX5_come_X5_gainOf : GoodIn wsX5_come (wsV RX5 92 RX5 yX5_gainOf wsX5_gainOf) := goodIn_app (goodIn_of _ (by decide +kernel)) ggX5_come_X5_gainOf
set_option maxRecDepth 20000 in
theorem ggX5_come_X5_isAlone : GoodIn wsX5_come wsX5_isAlone := goodIn_r _ [24, 11, 1, 29, 30, 31, 32, 33, 34, 35, 36, 37, 38, 39, 40, 41, 42, 43, 44, 45] (by decide +kernel) (by decide +kernel)
set_option maxRecDepth 20000 in
theorem gX5_come_X5_isAlone : GoodIn wsX5_come (wsV RX5 96 RX5 yX5_isAlone wsX5_isAlone) := goodIn_app (goodIn_of _ (by decide +kernel)) ggX5_come_X5_isAlone
set_option maxRecDepth 20000 in
theorem ggX5_come_X5_isEmpty : GoodIn wsX5_come wsX5_isEmpty := goodIn_r _ [28, 11, 1, 29, 30, 31, 32, 33, 34, 35, 36, 37, 38, 39, 40, 41, 42, 43, 44, 45] (by decide +kernel) (by decide +kernel)
set_option maxRecDepth 20000 in
theorem gX5_come_X5_isEmpty : GoodIn wsX5_come (wsV RX5 99 RX5 yX5_isEmpty wsX5_isEmpty) := goodIn_app (goodIn_of _ (by decide +kernel)) ggX5_come_X5_isEmpty
theorem dX5_come_0 : decode cX5_come 0 = .ok (.iconst (-1), 1) := by decide +kernel
theorem dX5_come_1 : decode cX5_come 1 = .ok (.istore_n 2, 1) := by decide +kernel
theorem dX5_come_2 : decode cX5_come 2 = .ok (.lconst 0, 1) := by decide +kernel
theorem dX5_come_3 : decode cX5_come 3 = .ok (.lstore_n 3, 1) := by decide +kernel
theorem dX5_come_4 : decode cX5_come 4 = .ok (.iconst 0, 1) := by decide +kernel
theorem dX5_come_5 : decode cX5_come 5 = .ok (.istore 5, 2) := by decide +kernel
theorem dX5_come_7 : decode cX5_come 7 = .ok (.iload 5, 2) := by decide +kernel
theorem dX5_come_9 : decode cX5_come 9 = .ok (.bipush 40, 2) := by decide +kernel
theorem dX5_come_11 : decode cX5_come 11 = .ok (.if_icmp .ge 67, 3) := by decide +kernel
theorem dX5_come_14 : decode cX5_come 14 = .ok (.iload 5, 2) := by decide +kernel
theorem dX5_come_16 : decode cX5_come 16 = .ok (.aload_n 0, 1) := by decide +kernel
theorem dX5_come_17 : decode cX5_come 17 = .ok (.getfield 24, 3) := by decide +kernel
theorem dX5_come_20 : decode cX5_come 20 = .ok (.iload_n 1, 1) := by decide +kernel
theorem dX5_come_21 : decode cX5_come 21 = .ok (.iaload, 1) := by decide +kernel
theorem dX5_come_22 : decode cX5_come 22 = .ok (.if_icmp .eq 50, 3) := by decide +kernel
theorem dX5_come_25 : decode cX5_come 25 = .ok (.aload_n 0, 1) := by decide +kernel
theorem dX5_come_26 : decode cX5_come 26 = .ok (.iload_n 1, 1) := by decide +kernel
theorem dX5_come_27 : decode cX5_come 27 = .ok (.iload 5, 2) := by decide +kernel
theorem dX5_come_29 : decode cX5_come 29 = .ok (.invokevirtual 88, 3) := by decide +kernel
theorem dX5_come_32 : decode cX5_come 32 = .ok (.ifCond .eq 40, 3) := by decide +kernel
theorem dX5_come_35 : decode cX5_come 35 = .ok (.aload_n 0, 1) := by decide +kernel
theorem dX5_come_36 : decode cX5_come 36 = .ok (.iload_n 1, 1) := by decide +kernel
theorem dX5_come_37 : decode cX5_come 37 = .ok (.iload 5, 2) := by decide +kernel
theorem dX5_come_39 : decode cX5_come 39 = .ok (.invokevirtual 92, 3) := by decide +kernel
theorem dX5_come_42 : decode cX5_come 42 = .ok (.lstore 6, 2) := by decide +kernel
theorem dX5_come_44 : decode cX5_come 44 = .ok (.lload 6, 2) := by decide +kernel
theorem dX5_come_46 : decode cX5_come 46 = .ok (.lload_n 3, 1) := by decide +kernel
theorem dX5_come_47 : decode cX5_come 47 = .ok (.lcmp, 1) := by decide +kernel
theorem dX5_come_48 : decode cX5_come 48 = .ok (.ifCond .le 8, 3) := by decide +kernel
theorem dX5_come_51 : decode cX5_come 51 = .ok (.iload 5, 2) := by decide +kernel
theorem dX5_come_53 : decode cX5_come 53 = .ok (.goto 4, 3) := by decide +kernel
theorem dX5_come_56 : decode cX5_come 56 = .ok (.iload_n 2, 1) := by decide +kernel
theorem dX5_come_57 : decode cX5_come 57 = .ok (.istore_n 2, 1) := by decide +kernel
theorem dX5_come_58 : decode cX5_come 58 = .ok (.lload 6, 2) := by decide +kernel
theorem dX5_come_60 : decode cX5_come 60 = .ok (.lload_n 3, 1) := by decide +kernel
theorem dX5_come_61 : decode cX5_come 61 = .ok (.lcmp, 1) := by decide +kernel
theorem dX5_come_62 : decode cX5_come 62 = .ok (.ifCond .le 8, 3) := by decide +kernel
theorem dX5_come_65 : decode cX5_come 65 = .ok (.lload 6, 2) := by decide +kernel
theorem dX5_come_67 : decode cX5_come 67 = .ok (.goto 4, 3) := by decide +kernel
theorem dX5_come_70 : decode cX5_come 70 = .ok (.lload_n 3, 1) := by decide +kernel
theorem dX5_come_71 : decode cX5_come 71 = .ok (.lstore_n 3, 1) := by decide +kernel
theorem dX5_come_72 : decode cX5_come 72 = .ok (.iinc 5 1, 3) := by decide +kernel
theorem dX5_come_75 : decode cX5_come 75 = .ok (.goto (-68), 3) := by decide +kernel
theorem dX5_come_78 : decode cX5_come 78 = .ok (.aload_n 0, 1) := by decide +kernel
theorem dX5_come_79 : decode cX5_come 79 = .ok (.iload_n 1, 1) := by decide +kernel
theorem dX5_come_80 : decode cX5_come 80 = .ok (.invokevirtual 96, 3) := by decide +kernel
theorem dX5_come_83 : decode cX5_come 83 = .ok (.ifCond .ne 58, 3) := by decide +kernel
theorem dX5_come_86 : decode cX5_come 86 = .ok (.iconst 0, 1) := by decide +kernel
theorem dX5_come_87 : decode cX5_come 87 = .ok (.istore 5, 2) := by decide +kernel
theorem dX5_come_89 : decode cX5_come 89 = .ok (.aload_n 0, 1) := by decide +kernel
theorem dX5_come_90 : decode cX5_come 90 = .ok (.iload 5, 2) := by decide +kernel
theorem dX5_come_92 : decode cX5_come 92 = .ok (.invokevirtual 99, 3) := by decide +kernel
theorem dX5_come_95 : decode cX5_come 95 = .ok (.ifCond .ne 9, 3) := by decide +kernel
theorem dX5_come_98 : decode cX5_come 98 = .ok (.iinc 5 1, 3) := by decide +kernel
theorem dX5_come_101 : decode cX5_come 101 = .ok (.goto (-12), 3) := by decide +kernel
theorem dX5_come_104 : decode cX5_come 104 = .ok (.aload_n 0, 1) := by decide +kernel
theorem dX5_come_105 : decode cX5_come 105 = .ok (.iload_n 1, 1) := by decide +kernel
theorem dX5_come_106 : decode cX5_come 106 = .ok (.iload 5, 2) := by decide +kernel
theorem dX5_come_108 : decode cX5_come 108 = .ok (.invokevirtual 92, 3) := by decide +kernel
theorem dX5_come_111 : decode cX5_come 111 = .ok (.lstore 6, 2) := by decide +kernel
theorem dX5_come_113 : decode cX5_come 113 = .ok (.lload 6, 2) := by decide +kernel
theorem dX5_come_115 : decode cX5_come 115 = .ok (.lload_n 3, 1) := by decide +kernel
theorem dX5_come_116 : decode cX5_come 116 = .ok (.lcmp, 1) := by decide +kernel
theorem dX5_come_117 : decode cX5_come 117 = .ok (.ifCond .le 8, 3) := by decide +kernel
theorem dX5_come_120 : decode cX5_come 120 = .ok (.iload 5, 2) := by decide +kernel
theorem dX5_come_122 : decode cX5_come 122 = .ok (.goto 4, 3) := by decide +kernel
theorem dX5_come_125 : decode cX5_come 125 = .ok (.iload_n 2, 1) := by decide +kernel
theorem dX5_come_126 : decode cX5_come 126 = .ok (.istore_n 2, 1) := by decide +kernel
theorem dX5_come_127 : decode cX5_come 127 = .ok (.lload 6, 2) := by decide +kernel
theorem dX5_come_129 : decode cX5_come 129 = .ok (.lload_n 3, 1) := by decide +kernel
theorem dX5_come_130 : decode cX5_come 130 = .ok (.lcmp, 1) := by decide +kernel
theorem dX5_come_131 : decode cX5_come 131 = .ok (.ifCond .le 8, 3) := by decide +kernel
theorem dX5_come_134 : decode cX5_come 134 = .ok (.lload 6, 2) := by decide +kernel
theorem dX5_come_136 : decode cX5_come 136 = .ok (.goto 4, 3) := by decide +kernel
theorem dX5_come_139 : decode cX5_come 139 = .ok (.lload_n 3, 1) := by decide +kernel
theorem dX5_come_140 : decode cX5_come 140 = .ok (.lstore_n 3, 1) := by decide +kernel
theorem dX5_come_141 : decode cX5_come 141 = .ok (.iload_n 2, 1) := by decide +kernel
theorem dX5_come_142 : decode cX5_come 142 = .ok (.ifCond .ge 5, 3) := by decide +kernel
theorem dX5_come_145 : decode cX5_come 145 = .ok (.iconst 0, 1) := by decide +kernel
theorem dX5_come_146 : decode cX5_come 146 = .ok (.ireturn, 1) := by decide +kernel
theorem dX5_come_147 : decode cX5_come 147 = .ok (.aload_n 0, 1) := by decide +kernel
theorem dX5_come_148 : decode cX5_come 148 = .ok (.getfield 54, 3) := by decide +kernel
theorem dX5_come_151 : decode cX5_come 151 = .ok (.sipush 400, 3) := by decide +kernel
theorem dX5_come_154 : decode cX5_come 154 = .ok (.if_icmp .ge 75, 3) := by decide +kernel
theorem dX5_come_157 : decode cX5_come 157 = .ok (.aload_n 0, 1) := by decide +kernel
theorem dX5_come_158 : decode cX5_come 158 = .ok (.getfield 39, 3) := by decide +kernel
theorem dX5_come_161 : decode cX5_come 161 = .ok (.iconst 4, 1) := by decide +kernel
theorem dX5_come_162 : decode cX5_come 162 = .ok (.aload_n 0, 1) := by decide +kernel
theorem dX5_come_163 : decode cX5_come 163 = .ok (.getfield 54, 3) := by decide +kernel
theorem dX5_come_166 : decode cX5_come 166 = .ok (.imul, 1) := by decide +kernel
theorem dX5_come_167 : decode cX5_come 167 = .ok (.aload_n 0, 1) := by decide +kernel
theorem dX5_come_168 : decode cX5_come 168 = .ok (.getfield 51, 3) := by decide +kernel
theorem dX5_come_171 : decode cX5_come 171 = .ok (.iastore, 1) := by decide +kernel
theorem dX5_come_172 : decode cX5_come 172 = .ok (.aload_n 0, 1) := by decide +kernel
theorem dX5_come_173 : decode cX5_come 173 = .ok (.getfield 39, 3) := by decide +kernel
theorem dX5_come_176 : decode cX5_come 176 = .ok (.iconst 4, 1) := by decide +kernel
theorem dX5_come_177 : decode cX5_come 177 = .ok (.aload_n 0, 1) := by decide +kernel
theorem dX5_come_178 : decode cX5_come 178 = .ok (.getfield 54, 3) := by decide +kernel
theorem dX5_come_181 : decode cX5_come 181 = .ok (.imul, 1) := by decide +kernel
theorem dX5_come_182 : decode cX5_come 182 = .ok (.iconst 1, 1) := by decide +kernel
theorem dX5_come_183 : decode cX5_come 183 = .ok (.iadd, 1) := by decide +kernel
theorem dX5_come_184 : decode cX5_come 184 = .ok (.iload_n 1, 1) := by decide +kernel
theorem dX5_come_185 : decode cX5_come 185 = .ok (.iastore, 1) := by decide +kernel
theorem dX5_come_186 : decode cX5_come 186 = .ok (.aload_n 0, 1) := by decide +kernel
theorem dX5_come_187 : decode cX5_come 187 = .ok (.getfield 39, 3) := by decide +kernel
theorem dX5_come_190 : decode cX5_come 190 = .ok (.iconst 4, 1) := by decide +kernel
theorem dX5_come_191 : decode cX5_come 191 = .ok (.aload_n 0, 1) := by decide +kernel
theorem dX5_come_192 : decode cX5_come 192 = .ok (.getfield 54, 3) := by decide +kernel
theorem dX5_come_195 : decode cX5_come 195 = .ok (.imul, 1) := by decide +kernel
theorem dX5_come_196 : decode cX5_come 196 = .ok (.iconst 2, 1) := by decide +kernel
theorem dX5_come_197 : decode cX5_come 197 = .ok (.iadd, 1) := by decide +kernel
theorem dX5_come_198 : decode cX5_come 198 = .ok (.aload_n 0, 1) := by decide +kernel
theorem dX5_come_199 : decode cX5_come 199 = .ok (.getfield 24, 3) := by decide +kernel
theorem dX5_come_202 : decode cX5_come 202 = .ok (.iload_n 1, 1) := by decide +kernel
theorem dX5_come_203 : decode cX5_come 203 = .ok (.iaload, 1) := by decide +kernel
theorem dX5_come_204 : decode cX5_come 204 = .ok (.iastore, 1) := by decide +kernel
theorem dX5_come_205 : decode cX5_come 205 = .ok (.aload_n 0, 1) := by decide +kernel
theorem dX5_come_206 : decode cX5_come 206 = .ok (.getfield 39, 3) := by decide +kernel
theorem dX5_come_209 : decode cX5_come 209 = .ok (.iconst 4, 1) := by decide +kernel
theorem dX5_come_210 : decode cX5_come 210 = .ok (.aload_n 0, 1) := by decide +kernel
theorem dX5_come_211 : decode cX5_come 211 = .ok (.getfield 54, 3) := by decide +kernel
theorem dX5_come_214 : decode cX5_come 214 = .ok (.imul, 1) := by decide +kernel
theorem dX5_come_215 : decode cX5_come 215 = .ok (.iconst 3, 1) := by decide +kernel
theorem dX5_come_216 : decode cX5_come 216 = .ok (.iadd, 1) := by decide +kernel
theorem dX5_come_217 : decode cX5_come 217 = .ok (.iload_n 2, 1) := by decide +kernel
theorem dX5_come_218 : decode cX5_come 218 = .ok (.iastore, 1) := by decide +kernel
theorem dX5_come_219 : decode cX5_come 219 = .ok (.aload_n 0, 1) := by decide +kernel
theorem dX5_come_220 : decode cX5_come 220 = .ok (.getfield 42, 3) := by decide +kernel
theorem dX5_come_223 : decode cX5_come 223 = .ok (.aload_n 0, 1) := by decide +kernel
theorem dX5_come_224 : decode cX5_come 224 = .ok (.getfield 54, 3) := by decide +kernel
theorem dX5_come_227 : decode cX5_come 227 = .ok (.lload_n 3, 1) := by decide +kernel
theorem dX5_come_228 : decode cX5_come 228 = .ok (.lastore, 1) := by decide +kernel
theorem dX5_come_229 : decode cX5_come 229 = .ok (.aload_n 0, 1) := by decide +kernel
theorem dX5_come_230 : decode cX5_come 230 = .ok (.dup, 1) := by decide +kernel
theorem dX5_come_231 : decode cX5_come 231 = .ok (.getfield 54, 3) := by decide +kernel
theorem dX5_come_234 : decode cX5_come 234 = .ok (.iconst 1, 1) := by decide +kernel
theorem dX5_come_235 : decode cX5_come 235 = .ok (.iadd, 1) := by decide +kernel
theorem dX5_come_236 : decode cX5_come 236 = .ok (.putfield 54, 3) := by decide +kernel
theorem dX5_come_239 : decode cX5_come 239 = .ok (.aload_n 0, 1) := by decide +kernel
theorem dX5_come_240 : decode cX5_come 240 = .ok (.getfield 24, 3) := by decide +kernel
theorem dX5_come_243 : decode cX5_come 243 = .ok (.iload_n 1, 1) := by decide +kernel
theorem dX5_come_244 : decode cX5_come 244 = .ok (.iload_n 2, 1) := by decide +kernel
theorem dX5_come_245 : decode cX5_come 245 = .ok (.iastore, 1) := by decide +kernel
theorem dX5_come_246 : decode cX5_come 246 = .ok (.iconst 1, 1) := by decide +kernel
theorem dX5_come_247 : decode cX5_come 247 = .ok (.ireturn, 1) := by decide +kernel
theorem dX5_number_0 : decode cX5_number 0 = .ok (.iconst 0, 1) := by decide +kernel
theorem dX5_number_1 : decode cX5_number 1 = .ok (.istore_n 1, 1) := by decide +kernel
theorem dX5_number_2 : decode cX5_number 2 = .ok (.iconst 0, 1) := by decide +kernel
theorem dX5_number_3 : decode cX5_number 3 = .ok (.istore_n 2, 1) := by decide +kernel
theorem dX5_number_4 : decode cX5_number 4 = .ok (.iload_n 2, 1) := by decide +kernel
theorem dX5_number_5 : decode cX5_number 5 = .ok (.aload_n 0, 1) := by decide +kernel
theorem dX5_number_6 : decode cX5_number 6 = .ok (.getfield 70, 3) := by decide +kernel
theorem dX5_number_9 : decode cX5_number 9 = .ok (.if_icmp .ge 75, 3) := by decide +kernel
theorem dX5_number_12 : decode cX5_number 12 = .ok (.aload_n 0, 1) := by decide +kernel
theorem dX5_number_13 : decode cX5_number 13 = .ok (.getfield 24, 3) := by decide +kernel
theorem dX5_number_16 : decode cX5_number 16 = .ok (.iload_n 2, 1) := by decide +kernel
theorem dX5_number_17 : decode cX5_number 17 = .ok (.iaload, 1) := by decide +kernel
theorem dX5_number_18 : decode cX5_number 18 = .ok (.istore_n 3, 1) := by decide +kernel
theorem dX5_number_19 : decode cX5_number 19 = .ok (.iload_n 3, 1) := by decide +kernel
theorem dX5_number_20 : decode cX5_number 20 = .ok (.bipush 40, 2) := by decide +kernel
theorem dX5_number_22 : decode cX5_number 22 = .ok (.if_icmp .ge 56, 3) := by decide +kernel
theorem dX5_number_25 : decode cX5_number 25 = .ok (.iload_n 2, 1) := by decide +kernel
theorem dX5_number_26 : decode cX5_number 26 = .ok (.istore 4, 2) := by decide +kernel
theorem dX5_number_28 : decode cX5_number 28 = .ok (.iload 4, 2) := by decide +kernel
theorem dX5_number_30 : decode cX5_number 30 = .ok (.aload_n 0, 1) := by decide +kernel
theorem dX5_number_31 : decode cX5_number 31 = .ok (.getfield 70, 3) := by decide +kernel
theorem dX5_number_34 : decode cX5_number 34 = .ok (.if_icmp .ge 41, 3) := by decide +kernel
theorem dX5_number_37 : decode cX5_number 37 = .ok (.aload_n 0, 1) := by decide +kernel
theorem dX5_number_38 : decode cX5_number 38 = .ok (.getfield 24, 3) := by decide +kernel
theorem dX5_number_41 : decode cX5_number 41 = .ok (.iload 4, 2) := by decide +kernel
theorem dX5_number_43 : decode cX5_number 43 = .ok (.aload_n 0, 1) := by decide +kernel
theorem dX5_number_44 : decode cX5_number 44 = .ok (.getfield 24, 3) := by decide +kernel
theorem dX5_number_47 : decode cX5_number 47 = .ok (.iload 4, 2) := by decide +kernel
theorem dX5_number_49 : decode cX5_number 49 = .ok (.iaload, 1) := by decide +kernel
theorem dX5_number_50 : decode cX5_number 50 = .ok (.iload_n 3, 1) := by decide +kernel
theorem dX5_number_51 : decode cX5_number 51 = .ok (.if_icmp .ne 10, 3) := by decide +kernel
theorem dX5_number_54 : decode cX5_number 54 = .ok (.bipush 40, 2) := by decide +kernel
theorem dX5_number_56 : decode cX5_number 56 = .ok (.iload_n 1, 1) := by decide +kernel
theorem dX5_number_57 : decode cX5_number 57 = .ok (.iadd, 1) := by decide +kernel
theorem dX5_number_58 : decode cX5_number 58 = .ok (.goto 10, 3) := by decide +kernel
theorem dX5_number_61 : decode cX5_number 61 = .ok (.aload_n 0, 1) := by decide +kernel
theorem dX5_number_62 : decode cX5_number 62 = .ok (.getfield 24, 3) := by decide +kernel
theorem dX5_number_65 : decode cX5_number 65 = .ok (.iload 4, 2) := by decide +kernel
theorem dX5_number_67 : decode cX5_number 67 = .ok (.iaload, 1) := by decide +kernel
theorem dX5_number_68 : decode cX5_number 68 = .ok (.iastore, 1) := by decide +kernel
theorem dX5_number_69 : decode cX5_number 69 = .ok (.iinc 4 1, 3) := by decide +kernel
theorem dX5_number_72 : decode cX5_number 72 = .ok (.goto (-44), 3) := by decide +kernel
theorem dX5_number_75 : decode cX5_number 75 = .ok (.iinc 1 1, 3) := by decide +kernel
theorem dX5_number_78 : decode cX5_number 78 = .ok (.iinc 2 1, 3) := by decide +kernel
theorem dX5_number_81 : decode cX5_number 81 = .ok (.goto (-77), 3) := by decide +kernel
theorem dX5_number_84 : decode cX5_number 84 = .ok (.iconst 0, 1) := by decide +kernel
theorem dX5_number_85 : decode cX5_number 85 = .ok (.istore_n 2, 1) := by decide +kernel
theorem dX5_number_86 : decode cX5_number 86 = .ok (.iload_n 2, 1) := by decide +kernel
theorem dX5_number_87 : decode cX5_number 87 = .ok (.aload_n 0, 1) := by decide +kernel
theorem dX5_number_88 : decode cX5_number 88 = .ok (.getfield 70, 3) := by decide +kernel
theorem dX5_number_91 : decode cX5_number 91 = .ok (.if_icmp .ge 20, 3) := by decide +kernel
theorem dX5_number_94 : decode cX5_number 94 = .ok (.aload_n 0, 1) := by decide +kernel
theorem dX5_number_95 : decode cX5_number 95 = .ok (.getfield 24, 3) := by decide +kernel
theorem dX5_number_98 : decode cX5_number 98 = .ok (.iload_n 2, 1) := by decide +kernel
theorem dX5_number_99 : decode cX5_number 99 = .ok (.dup2, 1) := by decide +kernel
theorem dX5_number_100 : decode cX5_number 100 = .ok (.iaload, 1) := by decide +kernel
theorem dX5_number_101 : decode cX5_number 101 = .ok (.bipush 40, 2) := by decide +kernel
theorem dX5_number_103 : decode cX5_number 103 = .ok (.isub, 1) := by decide +kernel
theorem dX5_number_104 : decode cX5_number 104 = .ok (.iastore, 1) := by decide +kernel
theorem dX5_number_105 : decode cX5_number 105 = .ok (.iinc 2 1, 3) := by decide +kernel
theorem dX5_number_108 : decode cX5_number 108 = .ok (.goto (-22), 3) := by decide +kernel
theorem dX5_number_111 : decode cX5_number 111 = .ok (.iload_n 1, 1) := by decide +kernel
theorem dX5_number_112 : decode cX5_number 112 = .ok (.ireturn, 1) := by decide +kernel
theorem dX5_shrink_0 : decode cX5_shrink 0 = .ok (.iconst 0, 1) := by decide +kernel
theorem dX5_shrink_1 : decode cX5_shrink 1 = .ok (.istore_n 2, 1) := by decide +kernel
theorem dX5_shrink_2 : decode cX5_shrink 2 = .ok (.iload_n 2, 1) := by decide +kernel
theorem dX5_shrink_3 : decode cX5_shrink 3 = .ok (.sipush 1600, 3) := by decide +kernel
theorem dX5_shrink_6 : decode cX5_shrink 6 = .ok (.if_icmp .ge 16, 3) := by decide +kernel
theorem dX5_shrink_9 : decode cX5_shrink 9 = .ok (.aload_n 0, 1) := by decide +kernel
theorem dX5_shrink_10 : decode cX5_shrink 10 = .ok (.getfield 27, 3) := by decide +kernel
theorem dX5_shrink_13 : decode cX5_shrink 13 = .ok (.iload_n 2, 1) := by decide +kernel
theorem dX5_shrink_14 : decode cX5_shrink 14 = .ok (.lconst 0, 1) := by decide +kernel
theorem dX5_shrink_15 : decode cX5_shrink 15 = .ok (.lastore, 1) := by decide +kernel
theorem dX5_shrink_16 : decode cX5_shrink 16 = .ok (.iinc 2 1, 3) := by decide +kernel
theorem dX5_shrink_19 : decode cX5_shrink 19 = .ok (.goto (-17), 3) := by decide +kernel
theorem dX5_shrink_22 : decode cX5_shrink 22 = .ok (.iconst 0, 1) := by decide +kernel
theorem dX5_shrink_23 : decode cX5_shrink 23 = .ok (.istore_n 2, 1) := by decide +kernel
theorem dX5_shrink_24 : decode cX5_shrink 24 = .ok (.iload_n 2, 1) := by decide +kernel
theorem dX5_shrink_25 : decode cX5_shrink 25 = .ok (.aload_n 0, 1) := by decide +kernel
theorem dX5_shrink_26 : decode cX5_shrink 26 = .ok (.getfield 70, 3) := by decide +kernel
theorem dX5_shrink_29 : decode cX5_shrink 29 = .ok (.if_icmp .ge 103, 3) := by decide +kernel
theorem dX5_shrink_32 : decode cX5_shrink 32 = .ok (.iconst 0, 1) := by decide +kernel
theorem dX5_shrink_33 : decode cX5_shrink 33 = .ok (.istore_n 3, 1) := by decide +kernel
theorem dX5_shrink_34 : decode cX5_shrink 34 = .ok (.iload_n 3, 1) := by decide +kernel
theorem dX5_shrink_35 : decode cX5_shrink 35 = .ok (.iload_n 2, 1) := by decide +kernel
theorem dX5_shrink_36 : decode cX5_shrink 36 = .ok (.if_icmp .gt 90, 3) := by decide +kernel
theorem dX5_shrink_39 : decode cX5_shrink 39 = .ok (.aload_n 0, 1) := by decide +kernel
theorem dX5_shrink_40 : decode cX5_shrink 40 = .ok (.getfield 24, 3) := by decide +kernel
theorem dX5_shrink_43 : decode cX5_shrink 43 = .ok (.iload_n 2, 1) := by decide +kernel
theorem dX5_shrink_44 : decode cX5_shrink 44 = .ok (.iaload, 1) := by decide +kernel
theorem dX5_shrink_45 : decode cX5_shrink 45 = .ok (.istore 4, 2) := by decide +kernel
theorem dX5_shrink_47 : decode cX5_shrink 47 = .ok (.aload_n 0, 1) := by decide +kernel
theorem dX5_shrink_48 : decode cX5_shrink 48 = .ok (.getfield 24, 3) := by decide +kernel
theorem dX5_shrink_51 : decode cX5_shrink 51 = .ok (.iload_n 3, 1) := by decide +kernel
theorem dX5_shrink_52 : decode cX5_shrink 52 = .ok (.iaload, 1) := by decide +kernel
theorem dX5_shrink_53 : decode cX5_shrink 53 = .ok (.istore 5, 2) := by decide +kernel
theorem dX5_shrink_55 : decode cX5_shrink 55 = .ok (.aload_n 0, 1) := by decide +kernel
theorem dX5_shrink_56 : decode cX5_shrink 56 = .ok (.getfield 27, 3) := by decide +kernel
theorem dX5_shrink_59 : decode cX5_shrink 59 = .ok (.bipush 40, 2) := by decide +kernel
theorem dX5_shrink_61 : decode cX5_shrink 61 = .ok (.iload 4, 2) := by decide +kernel
theorem dX5_shrink_63 : decode cX5_shrink 63 = .ok (.imul, 1) := by decide +kernel
theorem dX5_shrink_64 : decode cX5_shrink 64 = .ok (.iload 5, 2) := by decide +kernel
theorem dX5_shrink_66 : decode cX5_shrink 66 = .ok (.iadd, 1) := by decide +kernel
theorem dX5_shrink_67 : decode cX5_shrink 67 = .ok (.dup2, 1) := by decide +kernel
theorem dX5_shrink_68 : decode cX5_shrink 68 = .ok (.laload, 1) := by decide +kernel
theorem dX5_shrink_69 : decode cX5_shrink 69 = .ok (.aload_n 0, 1) := by decide +kernel
theorem dX5_shrink_70 : decode cX5_shrink 70 = .ok (.getfield 20, 3) := by decide +kernel
theorem dX5_shrink_73 : decode cX5_shrink 73 = .ok (.bipush 40, 2) := by decide +kernel
theorem dX5_shrink_75 : decode cX5_shrink 75 = .ok (.iload_n 2, 1) := by decide +kernel
theorem dX5_shrink_76 : decode cX5_shrink 76 = .ok (.imul, 1) := by decide +kernel
theorem dX5_shrink_77 : decode cX5_shrink 77 = .ok (.iload_n 3, 1) := by decide +kernel
theorem dX5_shrink_78 : decode cX5_shrink 78 = .ok (.iadd, 1) := by decide +kernel
theorem dX5_shrink_79 : decode cX5_shrink 79 = .ok (.laload, 1) := by decide +kernel
theorem dX5_shrink_80 : decode cX5_shrink 80 = .ok (.ladd, 1) := by decide +kernel
theorem dX5_shrink_81 : decode cX5_shrink 81 = .ok (.lastore, 1) := by decide +kernel
theorem dX5_shrink_82 : decode cX5_shrink 82 = .ok (.aload_n 0, 1) := by decide +kernel
theorem dX5_shrink_83 : decode cX5_shrink 83 = .ok (.getfield 27, 3) := by decide +kernel
theorem dX5_shrink_86 : decode cX5_shrink 86 = .ok (.bipush 40, 2) := by decide +kernel
theorem dX5_shrink_88 : decode cX5_shrink 88 = .ok (.iload 5, 2) := by decide +kernel
theorem dX5_shrink_90 : decode cX5_shrink 90 = .ok (.imul, 1) := by decide +kernel
theorem dX5_shrink_91 : decode cX5_shrink 91 = .ok (.iload 4, 2) := by decide +kernel
theorem dX5_shrink_93 : decode cX5_shrink 93 = .ok (.iadd, 1) := by decide +kernel
theorem dX5_shrink_94 : decode cX5_shrink 94 = .ok (.dup2, 1) := by decide +kernel
theorem dX5_shrink_95 : decode cX5_shrink 95 = .ok (.laload, 1) := by decide +kernel
theorem dX5_shrink_96 : decode cX5_shrink 96 = .ok (.iload 4, 2) := by decide +kernel
theorem dX5_shrink_98 : decode cX5_shrink 98 = .ok (.iload 5, 2) := by decide +kernel
theorem dX5_shrink_100 : decode cX5_shrink 100 = .ok (.if_icmp .eq 17, 3) := by decide +kernel
theorem dX5_shrink_103 : decode cX5_shrink 103 = .ok (.aload_n 0, 1) := by decide +kernel
theorem dX5_shrink_104 : decode cX5_shrink 104 = .ok (.getfield 20, 3) := by decide +kernel
theorem dX5_shrink_107 : decode cX5_shrink 107 = .ok (.bipush 40, 2) := by decide +kernel
theorem dX5_shrink_109 : decode cX5_shrink 109 = .ok (.iload_n 2, 1) := by decide +kernel
theorem dX5_shrink_110 : decode cX5_shrink 110 = .ok (.imul, 1) := by decide +kernel
theorem dX5_shrink_111 : decode cX5_shrink 111 = .ok (.iload_n 3, 1) := by decide +kernel
theorem dX5_shrink_112 : decode cX5_shrink 112 = .ok (.iadd, 1) := by decide +kernel
theorem dX5_shrink_113 : decode cX5_shrink 113 = .ok (.laload, 1) := by decide +kernel
theorem dX5_shrink_114 : decode cX5_shrink 114 = .ok (.goto 4, 3) := by decide +kernel
theorem dX5_shrink_117 : decode cX5_shrink 117 = .ok (.lconst 0, 1) := by decide +kernel
theorem dX5_shrink_118 : decode cX5_shrink 118 = .ok (.ladd, 1) := by decide +kernel
theorem dX5_shrink_119 : decode cX5_shrink 119 = .ok (.lastore, 1) := by decide +kernel
theorem dX5_shrink_120 : decode cX5_shrink 120 = .ok (.iinc 3 1, 3) := by decide +kernel
theorem dX5_shrink_123 : decode cX5_shrink 123 = .ok (.goto (-89), 3) := by decide +kernel
theorem dX5_shrink_126 : decode cX5_shrink 126 = .ok (.iinc 2 1, 3) := by decide +kernel
theorem dX5_shrink_129 : decode cX5_shrink 129 = .ok (.goto (-105), 3) := by decide +kernel
theorem dX5_shrink_132 : decode cX5_shrink 132 = .ok (.iconst 0, 1) := by decide +kernel
theorem dX5_shrink_133 : decode cX5_shrink 133 = .ok (.istore_n 2, 1) := by decide +kernel
theorem dX5_shrink_134 : decode cX5_shrink 134 = .ok (.iload_n 2, 1) := by decide +kernel
theorem dX5_shrink_135 : decode cX5_shrink 135 = .ok (.sipush 1600, 3) := by decide +kernel
theorem dX5_shrink_138 : decode cX5_shrink 138 = .ok (.if_icmp .ge 21, 3) := by decide +kernel
theorem dX5_shrink_141 : decode cX5_shrink 141 = .ok (.aload_n 0, 1) := by decide +kernel
theorem dX5_shrink_142 : decode cX5_shrink 142 = .ok (.getfield 20, 3) := by decide +kernel
theorem dX5_shrink_145 : decode cX5_shrink 145 = .ok (.iload_n 2, 1) := by decide +kernel
theorem dX5_shrink_146 : decode cX5_shrink 146 = .ok (.aload_n 0, 1) := by decide +kernel
theorem dX5_shrink_147 : decode cX5_shrink 147 = .ok (.getfield 27, 3) := by decide +kernel
theorem dX5_shrink_150 : decode cX5_shrink 150 = .ok (.iload_n 2, 1) := by decide +kernel
theorem dX5_shrink_151 : decode cX5_shrink 151 = .ok (.laload, 1) := by decide +kernel
theorem dX5_shrink_152 : decode cX5_shrink 152 = .ok (.lastore, 1) := by decide +kernel
theorem dX5_shrink_153 : decode cX5_shrink 153 = .ok (.iinc 2 1, 3) := by decide +kernel
theorem dX5_shrink_156 : decode cX5_shrink 156 = .ok (.goto (-22), 3) := by decide +kernel
theorem dX5_shrink_159 : decode cX5_shrink 159 = .ok (.aload_n 0, 1) := by decide +kernel
theorem dX5_shrink_160 : decode cX5_shrink 160 = .ok (.iload_n 1, 1) := by decide +kernel
theorem dX5_shrink_161 : decode cX5_shrink 161 = .ok (.putfield 70, 3) := by decide +kernel
theorem dX5_shrink_164 : decode cX5_shrink 164 = .ok (.return_, 1) := by decide +kernel
set_option maxRecDepth 20000 in
theorem ggX5_run_X5_forget : GoodIn wsX5_run wsX5_forget := goodIn_r _ [14, 6, 2, 72, 73, 74, 75, 76, 77, 78, 79, 80, 81, 82, 83, 84, 85, 86, 87, 88] (by decide +kernel) (by decide +kernel)
set_option maxRecDepth 20000 in
theorem gX5_run_X5_forget : GoodIn wsX5_run (wsV RX5 57 RX5 yX5_forget wsX5_forget) := goodIn_app (goodIn_of _ (by decide +kernel)) ggX5_run_X5_forget
set_option maxRecDepth 20000 in
theorem ggX5_run_X5_first : GoodIn wsX5_run wsX5_first := goodIn_r _ [18, 8, 3, 19, 20, 72, 73, 74, 75, 76, 77, 78, 79, 80, 81, 82, 83, 84, 85, 86, 87, 88] (by decide +kernel) (by decide +kernel)
set_option maxRecDepth 20000 in
theorem gX5_run_X5_first : GoodIn wsX5_run (wsV RX5 102 RX5 yX5_first wsX5_first) := goodIn_app (goodIn_of _ (by decide +kernel)) ggX5_run_X5_first
set_option maxRecDepth 20000 in
theorem ggX5_run_X5_prepare : GoodIn wsX5_run wsX5_prepare := goodIn_r _ [24, 25, 3, 26, 27, 28, 29, 13, 30, 19, 31, 32, 33, 34, 72, 73, 74, 75, 76, 77, 78, 79, 80, 81, 82, 83, 84, 85, 86, 87, 88] (by decide +kernel) (by decide +kernel)
set_option maxRecDepth 20000 in
theorem gX5_run_X5_prepare : GoodIn wsX5_run (wsV RX5 105 RX5 yX5_prepare wsX5_prepare) := goodIn_app (goodIn_of _ (by decide +kernel)) ggX5_run_X5_prepare
set_option maxRecDepth 20000 in
theorem ggX5_run_X5_come : GoodIn wsX5_run wsX5_come := goodIn_r _ [38, 4, 2, 39, 6, 40, 41, 42, 43, 13, 44, 3, 19, 45, 46, 47, 48, 26, 49, 25, 50, 51, 52, 53, 54, 55, 56, 57, 58, 72, 73, 74, 75, 76, 77, 78, 79, 80, 81, 82, 83, 84, 85, 86, 87, 88] (by decide +kernel) (by decide +kernel)
set_option maxRecDepth 20000 in
theorem gX5_run_X5_come : GoodIn wsX5_run (wsV RX5 108 RX5 yX5_come wsX5_come) := goodIn_app (goodIn_of _ (by decide +kernel)) ggX5_run_X5_come
set_option maxRecDepth 20000 in
theorem ggX5_run_X5_number : GoodIn wsX5_run wsX5_number := goodIn_r _ [62, 3, 4, 72, 73, 74, 75, 76, 77, 78, 79, 80, 81, 82, 83, 84, 85, 86, 87, 88] (by decide +kernel) (by decide +kernel)
set_option maxRecDepth 20000 in
theorem gX5_run_X5_number : GoodIn wsX5_run (wsV RX5 111 RX5 yX5_number wsX5_number) := goodIn_app (goodIn_of _ (by decide +kernel)) ggX5_run_X5_number
set_option maxRecDepth 20000 in
theorem ggX5_run_X5_modularityNow : GoodIn wsX5_run wsX5_modularityNow := goodIn_r _ [66, 3, 4, 26, 19, 49, 25, 72, 73, 74, 75, 76, 77, 78, 79, 80, 81, 82, 83, 84, 85, 86, 87, 88] (by decide +kernel) (by decide +kernel)
set_option maxRecDepth 20000 in
theorem gX5_run_X5_modularityNow : GoodIn wsX5_run (wsV RX5 115 RX5 yX5_modularityNow wsX5_modularityNow) := goodIn_app (goodIn_of _ (by decide +kernel)) ggX5_run_X5_modularityNow
set_option maxRecDepth 20000 in
theorem ggX5_run_X5_shrink : GoodIn wsX5_run wsX5_shrink := goodIn_r _ [70, 71, 3, 4, 19, 72, 73, 74, 75, 76, 77, 78, 79, 80, 81, 82, 83, 84, 85, 86, 87, 88] (by decide +kernel) (by decide +kernel)
set_option maxRecDepth 20000 in
theorem gX5_run_X5_shrink : GoodIn wsX5_run (wsV RX5 118 RX5 yX5_shrink wsX5_shrink) := goodIn_app (goodIn_of _ (by decide +kernel)) ggX5_run_X5_shrink
theorem dX5_run_0 : decode cX5_run 0 = .ok (.aload_n 0, 1) := by decide +kernel
theorem dX5_run_1 : decode cX5_run 1 = .ok (.iconst 0, 1) := by decide +kernel
theorem dX5_run_2 : decode cX5_run 2 = .ok (.putfield 48, 3) := by decide +kernel
theorem dX5_run_5 : decode cX5_run 5 = .ok (.aload_n 0, 1) := by decide +kernel
theorem dX5_run_6 : decode cX5_run 6 = .ok (.invokevirtual 57, 3) := by decide +kernel
theorem dX5_run_9 : decode cX5_run 9 = .ok (.aload_n 0, 1) := by decide +kernel
theorem dX5_run_10 : decode cX5_run 10 = .ok (.invokevirtual 102, 3) := by decide +kernel
theorem dX5_run_13 : decode cX5_run 13 = .ok (.iconst 1, 1) := by decide +kernel
theorem dX5_run_14 : decode cX5_run 14 = .ok (.istore_n 1, 1) := by decide +kernel
theorem dX5_run_15 : decode cX5_run 15 = .ok (.iload_n 1, 1) := by decide +kernel
theorem dX5_run_16 : decode cX5_run 16 = .ok (.ifCond .eq 277, 3) := by decide +kernel
theorem dX5_run_19 : decode cX5_run 19 = .ok (.aload_n 0, 1) := by decide +kernel
theorem dX5_run_20 : decode cX5_run 20 = .ok (.getfield 54, 3) := by decide +kernel
theorem dX5_run_23 : decode cX5_run 23 = .ok (.istore_n 2, 1) := by decide +kernel
theorem dX5_run_24 : decode cX5_run 24 = .ok (.iconst 0, 1) := by decide +kernel
theorem dX5_run_25 : decode cX5_run 25 = .ok (.istore_n 3, 1) := by decide +kernel
theorem dX5_run_26 : decode cX5_run 26 = .ok (.aload_n 0, 1) := by decide +kernel
theorem dX5_run_27 : decode cX5_run 27 = .ok (.invokevirtual 105, 3) := by decide +kernel
theorem dX5_run_30 : decode cX5_run 30 = .ok (.iconst 0, 1) := by decide +kernel
theorem dX5_run_31 : decode cX5_run 31 = .ok (.istore 4, 2) := by decide +kernel
theorem dX5_run_33 : decode cX5_run 33 = .ok (.iload 4, 2) := by decide +kernel
theorem dX5_run_35 : decode cX5_run 35 = .ok (.aload_n 0, 1) := by decide +kernel
theorem dX5_run_36 : decode cX5_run 36 = .ok (.getfield 70, 3) := by decide +kernel
theorem dX5_run_39 : decode cX5_run 39 = .ok (.if_icmp .ge 18, 3) := by decide +kernel
theorem dX5_run_42 : decode cX5_run 42 = .ok (.aload_n 0, 1) := by decide +kernel
theorem dX5_run_43 : decode cX5_run 43 = .ok (.getfield 24, 3) := by decide +kernel
theorem dX5_run_46 : decode cX5_run 46 = .ok (.iload 4, 2) := by decide +kernel
theorem dX5_run_48 : decode cX5_run 48 = .ok (.iload 4, 2) := by decide +kernel
theorem dX5_run_50 : decode cX5_run 50 = .ok (.iastore, 1) := by decide +kernel
theorem dX5_run_51 : decode cX5_run 51 = .ok (.iinc 4 1, 3) := by decide +kernel
theorem dX5_run_54 : decode cX5_run 54 = .ok (.goto (-21), 3) := by decide +kernel
theorem dX5_run_57 : decode cX5_run 57 = .ok (.iconst 1, 1) := by decide +kernel
theorem dX5_run_58 : decode cX5_run 58 = .ok (.istore 4, 2) := by decide +kernel
theorem dX5_run_60 : decode cX5_run 60 = .ok (.iload 4, 2) := by decide +kernel
theorem dX5_run_62 : decode cX5_run 62 = .ok (.ifCond .eq 41, 3) := by decide +kernel
theorem dX5_run_65 : decode cX5_run 65 = .ok (.iconst 0, 1) := by decide +kernel
theorem dX5_run_66 : decode cX5_run 66 = .ok (.istore 4, 2) := by decide +kernel
end
section
theorem dX5_run_68 : decode cX5_run 68 = .ok (.iconst 0, 1) := by decide +kernel
theorem dX5_run_69 : decode cX5_run 69 = .ok (.istore 5, 2) := by decide +kernel
theorem dX5_run_71 : decode cX5_run 71 = .ok (.iload 5, 2) := by decide +kernel
theorem dX5_run_73 : decode cX5_run 73 = .ok (.aload_n 0, 1) := by decide +kernel
theorem dX5_run_74 : decode cX5_run 74 = .ok (.getfield 70, 3) := by decide +kernel
theorem dX5_run_77 : decode cX5_run 77 = .ok (.if_icmp .ge 20, 3) := by decide +kernel
theorem dX5_run_80 : decode cX5_run 80 = .ok (.iload 4, 2) := by decide +kernel
theorem dX5_run_82 : decode cX5_run 82 = .ok (.aload_n 0, 1) := by decide +kernel
theorem dX5_run_83 : decode cX5_run 83 = .ok (.iload 5, 2) := by decide +kernel
theorem dX5_run_85 : decode cX5_run 85 = .ok (.invokevirtual 108, 3) := by decide +kernel
theorem dX5_run_88 : decode cX5_run 88 = .ok (.ior, 1) := by decide +kernel
theorem dX5_run_89 : decode cX5_run 89 = .ok (.istore 4, 2) := by decide +kernel
theorem dX5_run_91 : decode cX5_run 91 = .ok (.iinc 5 1, 3) := by decide +kernel
theorem dX5_run_94 : decode cX5_run 94 = .ok (.goto (-23), 3) := by decide +kernel
theorem dX5_run_97 : decode cX5_run 97 = .ok (.iinc 3 1, 3) := by decide +kernel
theorem dX5_run_100 : decode cX5_run 100 = .ok (.goto (-40), 3) := by decide +kernel
theorem dX5_run_103 : decode cX5_run 103 = .ok (.aload_n 0, 1) := by decide +kernel
theorem dX5_run_104 : decode cX5_run 104 = .ok (.invokevirtual 111, 3) := by decide +kernel
theorem dX5_run_107 : decode cX5_run 107 = .ok (.istore 5, 2) := by decide +kernel
theorem dX5_run_109 : decode cX5_run 109 = .ok (.aload_n 0, 1) := by decide +kernel
theorem dX5_run_110 : decode cX5_run 110 = .ok (.getfield 30, 3) := by decide +kernel
theorem dX5_run_113 : decode cX5_run 113 = .ok (.iconst 4, 1) := by decide +kernel
theorem dX5_run_114 : decode cX5_run 114 = .ok (.aload_n 0, 1) := by decide +kernel
theorem dX5_run_115 : decode cX5_run 115 = .ok (.getfield 51, 3) := by decide +kernel
theorem dX5_run_118 : decode cX5_run 118 = .ok (.imul, 1) := by decide +kernel
theorem dX5_run_119 : decode cX5_run 119 = .ok (.aload_n 0, 1) := by decide +kernel
theorem dX5_run_120 : decode cX5_run 120 = .ok (.getfield 70, 3) := by decide +kernel
theorem dX5_run_123 : decode cX5_run 123 = .ok (.iastore, 1) := by decide +kernel
theorem dX5_run_124 : decode cX5_run 124 = .ok (.aload_n 0, 1) := by decide +kernel
theorem dX5_run_125 : decode cX5_run 125 = .ok (.getfield 30, 3) := by decide +kernel
theorem dX5_run_128 : decode cX5_run 128 = .ok (.iconst 4, 1) := by decide +kernel
theorem dX5_run_129 : decode cX5_run 129 = .ok (.aload_n 0, 1) := by decide +kernel
theorem dX5_run_130 : decode cX5_run 130 = .ok (.getfield 51, 3) := by decide +kernel
theorem dX5_run_133 : decode cX5_run 133 = .ok (.imul, 1) := by decide +kernel
theorem dX5_run_134 : decode cX5_run 134 = .ok (.iconst 1, 1) := by decide +kernel
theorem dX5_run_135 : decode cX5_run 135 = .ok (.iadd, 1) := by decide +kernel
theorem dX5_run_136 : decode cX5_run 136 = .ok (.iload 5, 2) := by decide +kernel
theorem dX5_run_138 : decode cX5_run 138 = .ok (.iastore, 1) := by decide +kernel
theorem dX5_run_139 : decode cX5_run 139 = .ok (.aload_n 0, 1) := by decide +kernel
theorem dX5_run_140 : decode cX5_run 140 = .ok (.getfield 30, 3) := by decide +kernel
theorem dX5_run_143 : decode cX5_run 143 = .ok (.iconst 4, 1) := by decide +kernel
theorem dX5_run_144 : decode cX5_run 144 = .ok (.aload_n 0, 1) := by decide +kernel
theorem dX5_run_145 : decode cX5_run 145 = .ok (.getfield 51, 3) := by decide +kernel
theorem dX5_run_148 : decode cX5_run 148 = .ok (.imul, 1) := by decide +kernel
theorem dX5_run_149 : decode cX5_run 149 = .ok (.iconst 2, 1) := by decide +kernel
theorem dX5_run_150 : decode cX5_run 150 = .ok (.iadd, 1) := by decide +kernel
theorem dX5_run_151 : decode cX5_run 151 = .ok (.iload_n 3, 1) := by decide +kernel
theorem dX5_run_152 : decode cX5_run 152 = .ok (.iastore, 1) := by decide +kernel
theorem dX5_run_153 : decode cX5_run 153 = .ok (.aload_n 0, 1) := by decide +kernel
theorem dX5_run_154 : decode cX5_run 154 = .ok (.getfield 30, 3) := by decide +kernel
theorem dX5_run_157 : decode cX5_run 157 = .ok (.iconst 4, 1) := by decide +kernel
theorem dX5_run_158 : decode cX5_run 158 = .ok (.aload_n 0, 1) := by decide +kernel
theorem dX5_run_159 : decode cX5_run 159 = .ok (.getfield 51, 3) := by decide +kernel
theorem dX5_run_162 : decode cX5_run 162 = .ok (.imul, 1) := by decide +kernel
theorem dX5_run_163 : decode cX5_run 163 = .ok (.iconst 3, 1) := by decide +kernel
theorem dX5_run_164 : decode cX5_run 164 = .ok (.iadd, 1) := by decide +kernel
theorem dX5_run_165 : decode cX5_run 165 = .ok (.aload_n 0, 1) := by decide +kernel
theorem dX5_run_166 : decode cX5_run 166 = .ok (.getfield 54, 3) := by decide +kernel
theorem dX5_run_169 : decode cX5_run 169 = .ok (.iload_n 2, 1) := by decide +kernel
theorem dX5_run_170 : decode cX5_run 170 = .ok (.isub, 1) := by decide +kernel
theorem dX5_run_171 : decode cX5_run 171 = .ok (.iastore, 1) := by decide +kernel
theorem dX5_run_172 : decode cX5_run 172 = .ok (.aload_n 0, 1) := by decide +kernel
theorem dX5_run_173 : decode cX5_run 173 = .ok (.getfield 33, 3) := by decide +kernel
theorem dX5_run_176 : decode cX5_run 176 = .ok (.aload_n 0, 1) := by decide +kernel
theorem dX5_run_177 : decode cX5_run 177 = .ok (.getfield 51, 3) := by decide +kernel
theorem dX5_run_180 : decode cX5_run 180 = .ok (.aload_n 0, 1) := by decide +kernel
theorem dX5_run_181 : decode cX5_run 181 = .ok (.invokevirtual 115, 3) := by decide +kernel
theorem dX5_run_184 : decode cX5_run 184 = .ok (.lastore, 1) := by decide +kernel
theorem dX5_run_185 : decode cX5_run 185 = .ok (.iconst 0, 1) := by decide +kernel
theorem dX5_run_186 : decode cX5_run 186 = .ok (.istore 6, 2) := by decide +kernel
theorem dX5_run_188 : decode cX5_run 188 = .ok (.iload 6, 2) := by decide +kernel
theorem dX5_run_190 : decode cX5_run 190 = .ok (.aload_n 0, 1) := by decide +kernel
theorem dX5_run_191 : decode cX5_run 191 = .ok (.getfield 7, 3) := by decide +kernel
theorem dX5_run_194 : decode cX5_run 194 = .ok (.if_icmp .ge 62, 3) := by decide +kernel
theorem dX5_run_197 : decode cX5_run 197 = .ok (.aload_n 0, 1) := by decide +kernel
theorem dX5_run_198 : decode cX5_run 198 = .ok (.getfield 51, 3) := by decide +kernel
theorem dX5_run_201 : decode cX5_run 201 = .ok (.ifCond .ne 8, 3) := by decide +kernel
theorem dX5_run_204 : decode cX5_run 204 = .ok (.iload 6, 2) := by decide +kernel
theorem dX5_run_206 : decode cX5_run 206 = .ok (.goto 20, 3) := by decide +kernel
theorem dX5_run_209 : decode cX5_run 209 = .ok (.aload_n 0, 1) := by decide +kernel
theorem dX5_run_210 : decode cX5_run 210 = .ok (.getfield 36, 3) := by decide +kernel
theorem dX5_run_213 : decode cX5_run 213 = .ok (.bipush 40, 2) := by decide +kernel
theorem dX5_run_215 : decode cX5_run 215 = .ok (.aload_n 0, 1) := by decide +kernel
theorem dX5_run_216 : decode cX5_run 216 = .ok (.getfield 51, 3) := by decide +kernel
theorem dX5_run_219 : decode cX5_run 219 = .ok (.iconst 1, 1) := by decide +kernel
theorem dX5_run_220 : decode cX5_run 220 = .ok (.isub, 1) := by decide +kernel
theorem dX5_run_221 : decode cX5_run 221 = .ok (.imul, 1) := by decide +kernel
theorem dX5_run_222 : decode cX5_run 222 = .ok (.iload 6, 2) := by decide +kernel
theorem dX5_run_224 : decode cX5_run 224 = .ok (.iadd, 1) := by decide +kernel
theorem dX5_run_225 : decode cX5_run 225 = .ok (.iaload, 1) := by decide +kernel
theorem dX5_run_226 : decode cX5_run 226 = .ok (.istore 7, 2) := by decide +kernel
theorem dX5_run_228 : decode cX5_run 228 = .ok (.aload_n 0, 1) := by decide +kernel
theorem dX5_run_229 : decode cX5_run 229 = .ok (.getfield 36, 3) := by decide +kernel
theorem dX5_run_232 : decode cX5_run 232 = .ok (.bipush 40, 2) := by decide +kernel
theorem dX5_run_234 : decode cX5_run 234 = .ok (.aload_n 0, 1) := by decide +kernel
theorem dX5_run_235 : decode cX5_run 235 = .ok (.getfield 51, 3) := by decide +kernel
theorem dX5_run_238 : decode cX5_run 238 = .ok (.imul, 1) := by decide +kernel
theorem dX5_run_239 : decode cX5_run 239 = .ok (.iload 6, 2) := by decide +kernel
theorem dX5_run_241 : decode cX5_run 241 = .ok (.iadd, 1) := by decide +kernel
theorem dX5_run_242 : decode cX5_run 242 = .ok (.aload_n 0, 1) := by decide +kernel
theorem dX5_run_243 : decode cX5_run 243 = .ok (.getfield 24, 3) := by decide +kernel
theorem dX5_run_246 : decode cX5_run 246 = .ok (.iload 7, 2) := by decide +kernel
theorem dX5_run_248 : decode cX5_run 248 = .ok (.iaload, 1) := by decide +kernel
theorem dX5_run_249 : decode cX5_run 249 = .ok (.iastore, 1) := by decide +kernel
theorem dX5_run_250 : decode cX5_run 250 = .ok (.iinc 6 1, 3) := by decide +kernel
theorem dX5_run_253 : decode cX5_run 253 = .ok (.goto (-65), 3) := by decide +kernel
theorem dX5_run_256 : decode cX5_run 256 = .ok (.aload_n 0, 1) := by decide +kernel
theorem dX5_run_257 : decode cX5_run 257 = .ok (.dup, 1) := by decide +kernel
theorem dX5_run_258 : decode cX5_run 258 = .ok (.getfield 51, 3) := by decide +kernel
theorem dX5_run_261 : decode cX5_run 261 = .ok (.iconst 1, 1) := by decide +kernel
theorem dX5_run_262 : decode cX5_run 262 = .ok (.iadd, 1) := by decide +kernel
theorem dX5_run_263 : decode cX5_run 263 = .ok (.putfield 51, 3) := by decide +kernel
theorem dX5_run_266 : decode cX5_run 266 = .ok (.aload_n 0, 1) := by decide +kernel
theorem dX5_run_267 : decode cX5_run 267 = .ok (.getfield 54, 3) := by decide +kernel
theorem dX5_run_270 : decode cX5_run 270 = .ok (.iload_n 2, 1) := by decide +kernel
theorem dX5_run_271 : decode cX5_run 271 = .ok (.if_icmp .le 7, 3) := by decide +kernel
theorem dX5_run_274 : decode cX5_run 274 = .ok (.iconst 1, 1) := by decide +kernel
theorem dX5_run_275 : decode cX5_run 275 = .ok (.goto 4, 3) := by decide +kernel
theorem dX5_run_278 : decode cX5_run 278 = .ok (.iconst 0, 1) := by decide +kernel
theorem dX5_run_279 : decode cX5_run 279 = .ok (.istore_n 1, 1) := by decide +kernel
theorem dX5_run_280 : decode cX5_run 280 = .ok (.iload_n 1, 1) := by decide +kernel
theorem dX5_run_281 : decode cX5_run 281 = .ok (.ifCond .eq 9, 3) := by decide +kernel
theorem dX5_run_284 : decode cX5_run 284 = .ok (.aload_n 0, 1) := by decide +kernel
theorem dX5_run_285 : decode cX5_run 285 = .ok (.iload 5, 2) := by decide +kernel
theorem dX5_run_287 : decode cX5_run 287 = .ok (.invokevirtual 118, 3) := by decide +kernel
theorem dX5_run_290 : decode cX5_run 290 = .ok (.goto (-275), 3) := by decide +kernel
theorem dX5_run_293 : decode cX5_run 293 = .ok (.aload_n 0, 1) := by decide +kernel
theorem dX5_run_294 : decode cX5_run 294 = .ok (.getfield 51, 3) := by decide +kernel
theorem dX5_run_297 : decode cX5_run 297 = .ok (.ireturn, 1) := by decide +kernel
theorem dX5_levels_0 : decode cX5_levels 0 = .ok (.aload_n 0, 1) := by decide +kernel
theorem dX5_levels_1 : decode cX5_levels 1 = .ok (.iconst 0, 1) := by decide +kernel
theorem dX5_levels_2 : decode cX5_levels 2 = .ok (.putfield 48, 3) := by decide +kernel
theorem dX5_levels_5 : decode cX5_levels 5 = .ok (.aload_n 0, 1) := by decide +kernel
theorem dX5_levels_6 : decode cX5_levels 6 = .ok (.getfield 51, 3) := by decide +kernel
theorem dX5_levels_9 : decode cX5_levels 9 = .ok (.ireturn, 1) := by decide +kernel
theorem dX5_noLevel_0 : decode cX5_noLevel 0 = .ok (.iload_n 1, 1) := by decide +kernel
theorem dX5_noLevel_1 : decode cX5_noLevel 1 = .ok (.ifCond .lt 11, 3) := by decide +kernel
theorem dX5_noLevel_4 : decode cX5_noLevel 4 = .ok (.iload_n 1, 1) := by decide +kernel
theorem dX5_noLevel_5 : decode cX5_noLevel 5 = .ok (.aload_n 0, 1) := by decide +kernel
theorem dX5_noLevel_6 : decode cX5_noLevel 6 = .ok (.getfield 51, 3) := by decide +kernel
theorem dX5_noLevel_9 : decode cX5_noLevel 9 = .ok (.if_icmp .lt 7, 3) := by decide +kernel
theorem dX5_noLevel_12 : decode cX5_noLevel 12 = .ok (.iconst 1, 1) := by decide +kernel
theorem dX5_noLevel_13 : decode cX5_noLevel 13 = .ok (.goto 4, 3) := by decide +kernel
theorem dX5_noLevel_16 : decode cX5_noLevel 16 = .ok (.iconst 0, 1) := by decide +kernel
theorem dX5_noLevel_17 : decode cX5_noLevel 17 = .ok (.ireturn, 1) := by decide +kernel
set_option maxRecDepth 20000 in
theorem ggX5_level_X5_noLevel : GoodIn wsX5_level wsX5_noLevel := goodIn_r _ [7, 8, 9, 10, 11, 12, 13, 14, 15, 16, 17, 18, 19, 20, 21, 22, 23, 24, 25] (by decide +kernel) (by decide +kernel)
set_option maxRecDepth 20000 in
theorem gX5_level_X5_noLevel : GoodIn wsX5_level (wsV RX5 122 RX5 yX5_noLevel wsX5_noLevel) := goodIn_app (goodIn_of _ (by decide +kernel)) ggX5_level_X5_noLevel
theorem dX5_level_0 : decode cX5_level 0 = .ok (.aload_n 0, 1) := by decide +kernel
theorem dX5_level_1 : decode cX5_level 1 = .ok (.aload_n 0, 1) := by decide +kernel
theorem dX5_level_2 : decode cX5_level 2 = .ok (.iload_n 1, 1) := by decide +kernel
theorem dX5_level_3 : decode cX5_level 3 = .ok (.invokevirtual 122, 3) := by decide +kernel
theorem dX5_level_6 : decode cX5_level 6 = .ok (.ifCond .ne 12, 3) := by decide +kernel
theorem dX5_level_9 : decode cX5_level 9 = .ok (.iload_n 2, 1) := by decide +kernel
theorem dX5_level_10 : decode cX5_level 10 = .ok (.ifCond .lt 8, 3) := by decide +kernel
theorem dX5_level_13 : decode cX5_level 13 = .ok (.iload_n 2, 1) := by decide +kernel
theorem dX5_level_14 : decode cX5_level 14 = .ok (.iconst 3, 1) := by decide +kernel
theorem dX5_level_15 : decode cX5_level 15 = .ok (.if_icmp .le 7, 3) := by decide +kernel
theorem dX5_level_18 : decode cX5_level 18 = .ok (.iconst 1, 1) := by decide +kernel
theorem dX5_level_19 : decode cX5_level 19 = .ok (.goto 4, 3) := by decide +kernel
theorem dX5_level_22 : decode cX5_level 22 = .ok (.iconst 0, 1) := by decide +kernel
theorem dX5_level_23 : decode cX5_level 23 = .ok (.putfield 48, 3) := by decide +kernel
theorem dX5_level_26 : decode cX5_level 26 = .ok (.aload_n 0, 1) := by decide +kernel
theorem dX5_level_27 : decode cX5_level 27 = .ok (.getfield 48, 3) := by decide +kernel
theorem dX5_level_30 : decode cX5_level 30 = .ok (.ifCond .le 7, 3) := by decide +kernel
theorem dX5_level_33 : decode cX5_level 33 = .ok (.iconst 0, 1) := by decide +kernel
theorem dX5_level_34 : decode cX5_level 34 = .ok (.goto 13, 3) := by decide +kernel
theorem dX5_level_37 : decode cX5_level 37 = .ok (.aload_n 0, 1) := by decide +kernel
theorem dX5_level_38 : decode cX5_level 38 = .ok (.getfield 30, 3) := by decide +kernel
theorem dX5_level_41 : decode cX5_level 41 = .ok (.iconst 4, 1) := by decide +kernel
theorem dX5_level_42 : decode cX5_level 42 = .ok (.iload_n 1, 1) := by decide +kernel
theorem dX5_level_43 : decode cX5_level 43 = .ok (.imul, 1) := by decide +kernel
theorem dX5_level_44 : decode cX5_level 44 = .ok (.iload_n 2, 1) := by decide +kernel
theorem dX5_level_45 : decode cX5_level 45 = .ok (.iadd, 1) := by decide +kernel
theorem dX5_level_46 : decode cX5_level 46 = .ok (.iaload, 1) := by decide +kernel
theorem dX5_level_47 : decode cX5_level 47 = .ok (.ireturn, 1) := by decide +kernel
set_option maxRecDepth 20000 in
theorem ggX5_community_X5_noLevel : GoodIn wsX5_community wsX5_noLevel := goodIn_r _ [7, 8, 14, 15, 16, 17, 18, 19, 20, 21, 22, 23, 24, 25, 26, 27, 28, 29, 30] (by decide +kernel) (by decide +kernel)
set_option maxRecDepth 20000 in
theorem gX5_community_X5_noLevel : GoodIn wsX5_community (wsV RX5 122 RX5 yX5_noLevel wsX5_noLevel) := goodIn_app (goodIn_of _ (by decide +kernel)) ggX5_community_X5_noLevel
set_option maxRecDepth 20000 in
theorem ggX5_community_X5_noNode : GoodIn wsX5_community wsX5_noNode := goodIn_r _ [12, 13, 14, 15, 16, 17, 18, 19, 20, 21, 22, 23, 24, 25, 26, 27, 28, 29, 30] (by decide +kernel) (by decide +kernel)
set_option maxRecDepth 20000 in
theorem gX5_community_X5_noNode : GoodIn wsX5_community (wsV RX5 60 RX5 yX5_noNode wsX5_noNode) := goodIn_app (goodIn_of _ (by decide +kernel)) ggX5_community_X5_noNode
theorem dX5_community_0 : decode cX5_community 0 = .ok (.aload_n 0, 1) := by decide +kernel
theorem dX5_community_1 : decode cX5_community 1 = .ok (.aload_n 0, 1) := by decide +kernel
theorem dX5_community_2 : decode cX5_community 2 = .ok (.iload_n 1, 1) := by decide +kernel
theorem dX5_community_3 : decode cX5_community 3 = .ok (.invokevirtual 122, 3) := by decide +kernel
theorem dX5_community_6 : decode cX5_community 6 = .ok (.ifCond .ne 11, 3) := by decide +kernel
theorem dX5_community_9 : decode cX5_community 9 = .ok (.aload_n 0, 1) := by decide +kernel
theorem dX5_community_10 : decode cX5_community 10 = .ok (.iload_n 2, 1) := by decide +kernel
theorem dX5_community_11 : decode cX5_community 11 = .ok (.invokevirtual 60, 3) := by decide +kernel
theorem dX5_community_14 : decode cX5_community 14 = .ok (.ifCond .eq 7, 3) := by decide +kernel
theorem dX5_community_17 : decode cX5_community 17 = .ok (.iconst 1, 1) := by decide +kernel
theorem dX5_community_18 : decode cX5_community 18 = .ok (.goto 4, 3) := by decide +kernel
theorem dX5_community_21 : decode cX5_community 21 = .ok (.iconst 0, 1) := by decide +kernel
theorem dX5_community_22 : decode cX5_community 22 = .ok (.putfield 48, 3) := by decide +kernel
theorem dX5_community_25 : decode cX5_community 25 = .ok (.aload_n 0, 1) := by decide +kernel
theorem dX5_community_26 : decode cX5_community 26 = .ok (.getfield 48, 3) := by decide +kernel
theorem dX5_community_29 : decode cX5_community 29 = .ok (.ifCond .le 7, 3) := by decide +kernel
theorem dX5_community_32 : decode cX5_community 32 = .ok (.iconst 0, 1) := by decide +kernel
theorem dX5_community_33 : decode cX5_community 33 = .ok (.goto 14, 3) := by decide +kernel
theorem dX5_community_36 : decode cX5_community 36 = .ok (.aload_n 0, 1) := by decide +kernel
theorem dX5_community_37 : decode cX5_community 37 = .ok (.getfield 36, 3) := by decide +kernel
theorem dX5_community_40 : decode cX5_community 40 = .ok (.bipush 40, 2) := by decide +kernel
theorem dX5_community_42 : decode cX5_community 42 = .ok (.iload_n 1, 1) := by decide +kernel
theorem dX5_community_43 : decode cX5_community 43 = .ok (.imul, 1) := by decide +kernel
theorem dX5_community_44 : decode cX5_community 44 = .ok (.iload_n 2, 1) := by decide +kernel
theorem dX5_community_45 : decode cX5_community 45 = .ok (.iadd, 1) := by decide +kernel
theorem dX5_community_46 : decode cX5_community 46 = .ok (.iaload, 1) := by decide +kernel
theorem dX5_community_47 : decode cX5_community 47 = .ok (.ireturn, 1) := by decide +kernel
set_option maxRecDepth 20000 in
theorem ggX5_modularity_X5_noLevel : GoodIn wsX5_modularity wsX5_noLevel := goodIn_r _ [7, 8, 9, 10, 11, 12, 13, 14, 15, 16, 17, 18, 19, 20, 21, 22, 23, 24, 25] (by decide +kernel) (by decide +kernel)
set_option maxRecDepth 20000 in
theorem gX5_modularity_X5_noLevel : GoodIn wsX5_modularity (wsV RX5 122 RX5 yX5_noLevel wsX5_noLevel) := goodIn_app (goodIn_of _ (by decide +kernel)) ggX5_modularity_X5_noLevel
theorem dX5_modularity_0 : decode cX5_modularity 0 = .ok (.aload_n 0, 1) := by decide +kernel
theorem dX5_modularity_1 : decode cX5_modularity 1 = .ok (.aload_n 0, 1) := by decide +kernel
theorem dX5_modularity_2 : decode cX5_modularity 2 = .ok (.iload_n 1, 1) := by decide +kernel
theorem dX5_modularity_3 : decode cX5_modularity 3 = .ok (.invokevirtual 122, 3) := by decide +kernel
theorem dX5_modularity_6 : decode cX5_modularity 6 = .ok (.ifCond .eq 7, 3) := by decide +kernel
theorem dX5_modularity_9 : decode cX5_modularity 9 = .ok (.iconst 1, 1) := by decide +kernel
theorem dX5_modularity_10 : decode cX5_modularity 10 = .ok (.goto 4, 3) := by decide +kernel
theorem dX5_modularity_13 : decode cX5_modularity 13 = .ok (.iconst 0, 1) := by decide +kernel
theorem dX5_modularity_14 : decode cX5_modularity 14 = .ok (.putfield 48, 3) := by decide +kernel
theorem dX5_modularity_17 : decode cX5_modularity 17 = .ok (.aload_n 0, 1) := by decide +kernel
theorem dX5_modularity_18 : decode cX5_modularity 18 = .ok (.getfield 48, 3) := by decide +kernel
theorem dX5_modularity_21 : decode cX5_modularity 21 = .ok (.ifCond .le 7, 3) := by decide +kernel
theorem dX5_modularity_24 : decode cX5_modularity 24 = .ok (.lconst 0, 1) := by decide +kernel
theorem dX5_modularity_25 : decode cX5_modularity 25 = .ok (.goto 9, 3) := by decide +kernel
theorem dX5_modularity_28 : decode cX5_modularity 28 = .ok (.aload_n 0, 1) := by decide +kernel
theorem dX5_modularity_29 : decode cX5_modularity 29 = .ok (.getfield 33, 3) := by decide +kernel
theorem dX5_modularity_32 : decode cX5_modularity 32 = .ok (.iload_n 1, 1) := by decide +kernel
theorem dX5_modularity_33 : decode cX5_modularity 33 = .ok (.laload, 1) := by decide +kernel
theorem dX5_modularity_34 : decode cX5_modularity 34 = .ok (.lreturn, 1) := by decide +kernel
theorem dX5_moves_0 : decode cX5_moves 0 = .ok (.aload_n 0, 1) := by decide +kernel
theorem dX5_moves_1 : decode cX5_moves 1 = .ok (.iconst 0, 1) := by decide +kernel
theorem dX5_moves_2 : decode cX5_moves 2 = .ok (.putfield 48, 3) := by decide +kernel
theorem dX5_moves_5 : decode cX5_moves 5 = .ok (.aload_n 0, 1) := by decide +kernel
theorem dX5_moves_6 : decode cX5_moves 6 = .ok (.getfield 54, 3) := by decide +kernel
theorem dX5_moves_9 : decode cX5_moves 9 = .ok (.ireturn, 1) := by decide +kernel
theorem dX5_noMove_0 : decode cX5_noMove 0 = .ok (.iload_n 1, 1) := by decide +kernel
theorem dX5_noMove_1 : decode cX5_noMove 1 = .ok (.ifCond .lt 18, 3) := by decide +kernel
theorem dX5_noMove_4 : decode cX5_noMove 4 = .ok (.iload_n 1, 1) := by decide +kernel
theorem dX5_noMove_5 : decode cX5_noMove 5 = .ok (.aload_n 0, 1) := by decide +kernel
theorem dX5_noMove_6 : decode cX5_noMove 6 = .ok (.getfield 54, 3) := by decide +kernel
theorem dX5_noMove_9 : decode cX5_noMove 9 = .ok (.if_icmp .ge 10, 3) := by decide +kernel
theorem dX5_noMove_12 : decode cX5_noMove 12 = .ok (.iload_n 1, 1) := by decide +kernel
theorem dX5_noMove_13 : decode cX5_noMove 13 = .ok (.sipush 400, 3) := by decide +kernel
theorem dX5_noMove_16 : decode cX5_noMove 16 = .ok (.if_icmp .lt 7, 3) := by decide +kernel
theorem dX5_noMove_19 : decode cX5_noMove 19 = .ok (.iconst 1, 1) := by decide +kernel
theorem dX5_noMove_20 : decode cX5_noMove 20 = .ok (.goto 4, 3) := by decide +kernel
theorem dX5_noMove_23 : decode cX5_noMove 23 = .ok (.iconst 0, 1) := by decide +kernel
theorem dX5_noMove_24 : decode cX5_noMove 24 = .ok (.ireturn, 1) := by decide +kernel
set_option maxRecDepth 20000 in
theorem ggX5_move_X5_noMove : GoodIn wsX5_move wsX5_noMove := goodIn_r _ [7, 8, 9, 10, 11, 12, 13, 14, 15, 16, 17, 18, 19, 20, 21, 22, 23, 24, 25] (by decide +kernel) (by decide +kernel)
set_option maxRecDepth 20000 in
theorem gX5_move_X5_noMove : GoodIn wsX5_move (wsV RX5 125 RX5 yX5_noMove wsX5_noMove) := goodIn_app (goodIn_of _ (by decide +kernel)) ggX5_move_X5_noMove
theorem dX5_move_0 : decode cX5_move 0 = .ok (.aload_n 0, 1) := by decide +kernel
theorem dX5_move_1 : decode cX5_move 1 = .ok (.aload_n 0, 1) := by decide +kernel
theorem dX5_move_2 : decode cX5_move 2 = .ok (.iload_n 1, 1) := by decide +kernel
theorem dX5_move_3 : decode cX5_move 3 = .ok (.invokevirtual 125, 3) := by decide +kernel
theorem dX5_move_6 : decode cX5_move 6 = .ok (.ifCond .ne 12, 3) := by decide +kernel
theorem dX5_move_9 : decode cX5_move 9 = .ok (.iload_n 2, 1) := by decide +kernel
theorem dX5_move_10 : decode cX5_move 10 = .ok (.ifCond .lt 8, 3) := by decide +kernel
theorem dX5_move_13 : decode cX5_move 13 = .ok (.iload_n 2, 1) := by decide +kernel
theorem dX5_move_14 : decode cX5_move 14 = .ok (.iconst 3, 1) := by decide +kernel
theorem dX5_move_15 : decode cX5_move 15 = .ok (.if_icmp .le 7, 3) := by decide +kernel
theorem dX5_move_18 : decode cX5_move 18 = .ok (.iconst 1, 1) := by decide +kernel
theorem dX5_move_19 : decode cX5_move 19 = .ok (.goto 4, 3) := by decide +kernel
theorem dX5_move_22 : decode cX5_move 22 = .ok (.iconst 0, 1) := by decide +kernel
theorem dX5_move_23 : decode cX5_move 23 = .ok (.putfield 48, 3) := by decide +kernel
theorem dX5_move_26 : decode cX5_move 26 = .ok (.aload_n 0, 1) := by decide +kernel
theorem dX5_move_27 : decode cX5_move 27 = .ok (.getfield 48, 3) := by decide +kernel
theorem dX5_move_30 : decode cX5_move 30 = .ok (.ifCond .le 7, 3) := by decide +kernel
theorem dX5_move_33 : decode cX5_move 33 = .ok (.iconst 0, 1) := by decide +kernel
theorem dX5_move_34 : decode cX5_move 34 = .ok (.goto 13, 3) := by decide +kernel
theorem dX5_move_37 : decode cX5_move 37 = .ok (.aload_n 0, 1) := by decide +kernel
theorem dX5_move_38 : decode cX5_move 38 = .ok (.getfield 39, 3) := by decide +kernel
theorem dX5_move_41 : decode cX5_move 41 = .ok (.iconst 4, 1) := by decide +kernel
theorem dX5_move_42 : decode cX5_move 42 = .ok (.iload_n 1, 1) := by decide +kernel
theorem dX5_move_43 : decode cX5_move 43 = .ok (.imul, 1) := by decide +kernel
theorem dX5_move_44 : decode cX5_move 44 = .ok (.iload_n 2, 1) := by decide +kernel
theorem dX5_move_45 : decode cX5_move 45 = .ok (.iadd, 1) := by decide +kernel
theorem dX5_move_46 : decode cX5_move 46 = .ok (.iaload, 1) := by decide +kernel
theorem dX5_move_47 : decode cX5_move 47 = .ok (.ireturn, 1) := by decide +kernel
set_option maxRecDepth 20000 in
theorem ggX5_gained_X5_noMove : GoodIn wsX5_gained wsX5_noMove := goodIn_r _ [7, 8, 9, 10, 11, 12, 13, 14, 15, 16, 17, 18, 19, 20, 21, 22, 23, 24, 25] (by decide +kernel) (by decide +kernel)
set_option maxRecDepth 20000 in
theorem gX5_gained_X5_noMove : GoodIn wsX5_gained (wsV RX5 125 RX5 yX5_noMove wsX5_noMove) := goodIn_app (goodIn_of _ (by decide +kernel)) ggX5_gained_X5_noMove
theorem dX5_gained_0 : decode cX5_gained 0 = .ok (.aload_n 0, 1) := by decide +kernel
theorem dX5_gained_1 : decode cX5_gained 1 = .ok (.aload_n 0, 1) := by decide +kernel
theorem dX5_gained_2 : decode cX5_gained 2 = .ok (.iload_n 1, 1) := by decide +kernel
theorem dX5_gained_3 : decode cX5_gained 3 = .ok (.invokevirtual 125, 3) := by decide +kernel
theorem dX5_gained_6 : decode cX5_gained 6 = .ok (.ifCond .eq 7, 3) := by decide +kernel
theorem dX5_gained_9 : decode cX5_gained 9 = .ok (.iconst 1, 1) := by decide +kernel
theorem dX5_gained_10 : decode cX5_gained 10 = .ok (.goto 4, 3) := by decide +kernel
theorem dX5_gained_13 : decode cX5_gained 13 = .ok (.iconst 0, 1) := by decide +kernel
theorem dX5_gained_14 : decode cX5_gained 14 = .ok (.putfield 48, 3) := by decide +kernel
theorem dX5_gained_17 : decode cX5_gained 17 = .ok (.aload_n 0, 1) := by decide +kernel
theorem dX5_gained_18 : decode cX5_gained 18 = .ok (.getfield 48, 3) := by decide +kernel
theorem dX5_gained_21 : decode cX5_gained 21 = .ok (.ifCond .le 7, 3) := by decide +kernel
theorem dX5_gained_24 : decode cX5_gained 24 = .ok (.lconst 0, 1) := by decide +kernel
theorem dX5_gained_25 : decode cX5_gained 25 = .ok (.goto 9, 3) := by decide +kernel
theorem dX5_gained_28 : decode cX5_gained 28 = .ok (.aload_n 0, 1) := by decide +kernel
theorem dX5_gained_29 : decode cX5_gained 29 = .ok (.getfield 42, 3) := by decide +kernel
theorem dX5_gained_32 : decode cX5_gained 32 = .ok (.iload_n 1, 1) := by decide +kernel
theorem dX5_gained_33 : decode cX5_gained 33 = .ok (.laload, 1) := by decide +kernel
theorem dX5_gained_34 : decode cX5_gained 34 = .ok (.lreturn, 1) := by decide +kernel
set_option maxRecDepth 20000 in
theorem ggX5_place_X5_noNode : GoodIn wsX5_place wsX5_noNode := goodIn_r _ [7, 8, 9, 10, 11, 12, 13, 14, 15, 16, 17, 18, 19, 20, 21, 22, 23, 24, 25] (by decide +kernel) (by decide +kernel)
set_option maxRecDepth 20000 in
theorem gX5_place_X5_noNode : GoodIn wsX5_place (wsV RX5 60 RX5 yX5_noNode wsX5_noNode) := goodIn_app (goodIn_of _ (by decide +kernel)) ggX5_place_X5_noNode
theorem dX5_place_0 : decode cX5_place 0 = .ok (.aload_n 0, 1) := by decide +kernel
theorem dX5_place_1 : decode cX5_place 1 = .ok (.aload_n 0, 1) := by decide +kernel
theorem dX5_place_2 : decode cX5_place 2 = .ok (.iload_n 1, 1) := by decide +kernel
theorem dX5_place_3 : decode cX5_place 3 = .ok (.invokevirtual 60, 3) := by decide +kernel
theorem dX5_place_6 : decode cX5_place 6 = .ok (.ifCond .ne 11, 3) := by decide +kernel
theorem dX5_place_9 : decode cX5_place 9 = .ok (.aload_n 0, 1) := by decide +kernel
theorem dX5_place_10 : decode cX5_place 10 = .ok (.iload_n 2, 1) := by decide +kernel
theorem dX5_place_11 : decode cX5_place 11 = .ok (.invokevirtual 60, 3) := by decide +kernel
theorem dX5_place_14 : decode cX5_place 14 = .ok (.ifCond .eq 7, 3) := by decide +kernel
theorem dX5_place_17 : decode cX5_place 17 = .ok (.iconst 1, 1) := by decide +kernel
theorem dX5_place_18 : decode cX5_place 18 = .ok (.goto 4, 3) := by decide +kernel
theorem dX5_place_21 : decode cX5_place 21 = .ok (.iconst 0, 1) := by decide +kernel
theorem dX5_place_22 : decode cX5_place 22 = .ok (.putfield 48, 3) := by decide +kernel
theorem dX5_place_25 : decode cX5_place 25 = .ok (.aload_n 0, 1) := by decide +kernel
theorem dX5_place_26 : decode cX5_place 26 = .ok (.getfield 48, 3) := by decide +kernel
theorem dX5_place_29 : decode cX5_place 29 = .ok (.ifCond .le 5, 3) := by decide +kernel
theorem dX5_place_32 : decode cX5_place 32 = .ok (.iconst 0, 1) := by decide +kernel
theorem dX5_place_33 : decode cX5_place 33 = .ok (.ireturn, 1) := by decide +kernel
theorem dX5_place_34 : decode cX5_place 34 = .ok (.aload_n 0, 1) := by decide +kernel
theorem dX5_place_35 : decode cX5_place 35 = .ok (.getfield 17, 3) := by decide +kernel
theorem dX5_place_38 : decode cX5_place 38 = .ok (.iload_n 1, 1) := by decide +kernel
theorem dX5_place_39 : decode cX5_place 39 = .ok (.iaload, 1) := by decide +kernel
theorem dX5_place_40 : decode cX5_place 40 = .ok (.istore_n 3, 1) := by decide +kernel
theorem dX5_place_41 : decode cX5_place 41 = .ok (.aload_n 0, 1) := by decide +kernel
theorem dX5_place_42 : decode cX5_place 42 = .ok (.getfield 17, 3) := by decide +kernel
theorem dX5_place_45 : decode cX5_place 45 = .ok (.iload_n 1, 1) := by decide +kernel
theorem dX5_place_46 : decode cX5_place 46 = .ok (.iload_n 2, 1) := by decide +kernel
theorem dX5_place_47 : decode cX5_place 47 = .ok (.iastore, 1) := by decide +kernel
theorem dX5_place_48 : decode cX5_place 48 = .ok (.iload_n 3, 1) := by decide +kernel
theorem dX5_place_49 : decode cX5_place 49 = .ok (.ireturn, 1) := by decide +kernel
set_option maxRecDepth 20000 in
theorem ggX5_take_X5_noLevel : GoodIn wsX5_take wsX5_noLevel := goodIn_r _ [9, 10, 11, 12, 13, 14, 15, 16, 17, 18, 19, 20, 21, 22, 23, 24, 25, 26, 27] (by decide +kernel) (by decide +kernel)
set_option maxRecDepth 20000 in
theorem gX5_take_X5_noLevel : GoodIn wsX5_take (wsV RX5 122 RX5 yX5_noLevel wsX5_noLevel) := goodIn_app (goodIn_of _ (by decide +kernel)) ggX5_take_X5_noLevel
theorem dX5_take_0 : decode cX5_take 0 = .ok (.aload_n 0, 1) := by decide +kernel
theorem dX5_take_1 : decode cX5_take 1 = .ok (.aload_n 0, 1) := by decide +kernel
theorem dX5_take_2 : decode cX5_take 2 = .ok (.iload_n 1, 1) := by decide +kernel
theorem dX5_take_3 : decode cX5_take 3 = .ok (.invokevirtual 122, 3) := by decide +kernel
theorem dX5_take_6 : decode cX5_take 6 = .ok (.ifCond .eq 7, 3) := by decide +kernel
theorem dX5_take_9 : decode cX5_take 9 = .ok (.iconst 1, 1) := by decide +kernel
theorem dX5_take_10 : decode cX5_take 10 = .ok (.goto 4, 3) := by decide +kernel
theorem dX5_take_13 : decode cX5_take 13 = .ok (.iconst 0, 1) := by decide +kernel
theorem dX5_take_14 : decode cX5_take 14 = .ok (.putfield 48, 3) := by decide +kernel
theorem dX5_take_17 : decode cX5_take 17 = .ok (.iconst 0, 1) := by decide +kernel
theorem dX5_take_18 : decode cX5_take 18 = .ok (.istore_n 2, 1) := by decide +kernel
theorem dX5_take_19 : decode cX5_take 19 = .ok (.iload_n 2, 1) := by decide +kernel
theorem dX5_take_20 : decode cX5_take 20 = .ok (.aload_n 0, 1) := by decide +kernel
theorem dX5_take_21 : decode cX5_take 21 = .ok (.getfield 7, 3) := by decide +kernel
theorem dX5_take_24 : decode cX5_take 24 = .ok (.if_icmp .ge 33, 3) := by decide +kernel
theorem dX5_take_27 : decode cX5_take 27 = .ok (.aload_n 0, 1) := by decide +kernel
theorem dX5_take_28 : decode cX5_take 28 = .ok (.getfield 48, 3) := by decide +kernel
theorem dX5_take_31 : decode cX5_take 31 = .ok (.ifCond .ne 26, 3) := by decide +kernel
theorem dX5_take_34 : decode cX5_take 34 = .ok (.aload_n 0, 1) := by decide +kernel
theorem dX5_take_35 : decode cX5_take 35 = .ok (.getfield 17, 3) := by decide +kernel
theorem dX5_take_38 : decode cX5_take 38 = .ok (.iload_n 2, 1) := by decide +kernel
theorem dX5_take_39 : decode cX5_take 39 = .ok (.aload_n 0, 1) := by decide +kernel
theorem dX5_take_40 : decode cX5_take 40 = .ok (.getfield 36, 3) := by decide +kernel
theorem dX5_take_43 : decode cX5_take 43 = .ok (.bipush 40, 2) := by decide +kernel
theorem dX5_take_45 : decode cX5_take 45 = .ok (.iload_n 1, 1) := by decide +kernel
theorem dX5_take_46 : decode cX5_take 46 = .ok (.imul, 1) := by decide +kernel
theorem dX5_take_47 : decode cX5_take 47 = .ok (.iload_n 2, 1) := by decide +kernel
theorem dX5_take_48 : decode cX5_take 48 = .ok (.iadd, 1) := by decide +kernel
theorem dX5_take_49 : decode cX5_take 49 = .ok (.iaload, 1) := by decide +kernel
theorem dX5_take_50 : decode cX5_take 50 = .ok (.iastore, 1) := by decide +kernel
theorem dX5_take_51 : decode cX5_take 51 = .ok (.iinc 2 1, 3) := by decide +kernel
theorem dX5_take_54 : decode cX5_take 54 = .ok (.goto (-35), 3) := by decide +kernel
theorem dX5_take_57 : decode cX5_take 57 = .ok (.return_, 1) := by decide +kernel
set_option maxRecDepth 20000 in
theorem ggX5_ownNow_X5_first : GoodIn wsX5_ownNow wsX5_first := goodIn_r _ [8, 1, 9, 10, 11, 26, 27, 28, 29, 30, 31, 32, 33, 34, 35, 36, 37, 38, 39, 40, 41, 42] (by decide +kernel) (by decide +kernel)
set_option maxRecDepth 20000 in
theorem gX5_ownNow_X5_first : GoodIn wsX5_ownNow (wsV RX5 102 RX5 yX5_first wsX5_first) := goodIn_app (goodIn_of _ (by decide +kernel)) ggX5_ownNow_X5_first
set_option maxRecDepth 20000 in
theorem ggX5_ownNow_X5_prepare : GoodIn wsX5_ownNow wsX5_prepare := goodIn_r _ [15, 16, 9, 17, 18, 19, 20, 7, 21, 10, 22, 23, 24, 25, 26, 27, 28, 29, 30, 31, 32, 33, 34, 35, 36, 37, 38, 39, 40, 41, 42] (by decide +kernel) (by decide +kernel)
set_option maxRecDepth 20000 in
theorem gX5_ownNow_X5_prepare : GoodIn wsX5_ownNow (wsV RX5 105 RX5 yX5_prepare wsX5_prepare) := goodIn_app (goodIn_of _ (by decide +kernel)) ggX5_ownNow_X5_prepare
theorem dX5_ownNow_0 : decode cX5_ownNow 0 = .ok (.aload_n 0, 1) := by decide +kernel
theorem dX5_ownNow_1 : decode cX5_ownNow 1 = .ok (.invokevirtual 102, 3) := by decide +kernel
theorem dX5_ownNow_4 : decode cX5_ownNow 4 = .ok (.aload_n 0, 1) := by decide +kernel
theorem dX5_ownNow_5 : decode cX5_ownNow 5 = .ok (.invokevirtual 105, 3) := by decide +kernel
theorem dX5_ownNow_8 : decode cX5_ownNow 8 = .ok (.iconst 0, 1) := by decide +kernel
theorem dX5_ownNow_9 : decode cX5_ownNow 9 = .ok (.istore_n 1, 1) := by decide +kernel
theorem dX5_ownNow_10 : decode cX5_ownNow 10 = .ok (.iload_n 1, 1) := by decide +kernel
theorem dX5_ownNow_11 : decode cX5_ownNow 11 = .ok (.aload_n 0, 1) := by decide +kernel
theorem dX5_ownNow_12 : decode cX5_ownNow 12 = .ok (.getfield 7, 3) := by decide +kernel
theorem dX5_ownNow_15 : decode cX5_ownNow 15 = .ok (.if_icmp .ge 21, 3) := by decide +kernel
theorem dX5_ownNow_18 : decode cX5_ownNow 18 = .ok (.aload_n 0, 1) := by decide +kernel
theorem dX5_ownNow_19 : decode cX5_ownNow 19 = .ok (.getfield 24, 3) := by decide +kernel
theorem dX5_ownNow_22 : decode cX5_ownNow 22 = .ok (.iload_n 1, 1) := by decide +kernel
theorem dX5_ownNow_23 : decode cX5_ownNow 23 = .ok (.aload_n 0, 1) := by decide +kernel
theorem dX5_ownNow_24 : decode cX5_ownNow 24 = .ok (.getfield 17, 3) := by decide +kernel
theorem dX5_ownNow_27 : decode cX5_ownNow 27 = .ok (.iload_n 1, 1) := by decide +kernel
theorem dX5_ownNow_28 : decode cX5_ownNow 28 = .ok (.iaload, 1) := by decide +kernel
theorem dX5_ownNow_29 : decode cX5_ownNow 29 = .ok (.iastore, 1) := by decide +kernel
theorem dX5_ownNow_30 : decode cX5_ownNow 30 = .ok (.iinc 1 1, 3) := by decide +kernel
theorem dX5_ownNow_33 : decode cX5_ownNow 33 = .ok (.goto (-23), 3) := by decide +kernel
theorem dX5_ownNow_36 : decode cX5_ownNow 36 = .ok (.return_, 1) := by decide +kernel
set_option maxRecDepth 20000 in
theorem ggX5_own_X5_ownNow : GoodIn wsX5_own wsX5_ownNow := goodIn_r _ [6, 7, 8, 9, 10, 11, 12, 5, 13, 14, 15, 16, 17, 18, 19, 20, 21, 22, 23, 24, 25, 26, 27, 28, 29, 30, 36, 37, 38, 39, 40, 41, 42, 43, 44, 45, 46, 47, 48, 49, 50, 51, 52] (by decide +kernel) (by decide +kernel)
set_option maxRecDepth 20000 in
theorem gX5_own_X5_ownNow : GoodIn wsX5_own (wsV RX5 128 RX5 yX5_ownNow wsX5_ownNow) := goodIn_app (goodIn_of _ (by decide +kernel)) ggX5_own_X5_ownNow
set_option maxRecDepth 20000 in
theorem ggX5_own_X5_modularityNow : GoodIn wsX5_own wsX5_modularityNow := goodIn_r _ [34, 14, 8, 22, 15, 35, 21, 36, 37, 38, 39, 40, 41, 42, 43, 44, 45, 46, 47, 48, 49, 50, 51, 52] (by decide +kernel) (by decide +kernel)
set_option maxRecDepth 20000 in
theorem gX5_own_X5_modularityNow : GoodIn wsX5_own (wsV RX5 115 RX5 yX5_modularityNow wsX5_modularityNow) := goodIn_app (goodIn_of _ (by decide +kernel)) ggX5_own_X5_modularityNow
theorem dX5_own_0 : decode cX5_own 0 = .ok (.aload_n 0, 1) := by decide +kernel
theorem dX5_own_1 : decode cX5_own 1 = .ok (.iconst 0, 1) := by decide +kernel
theorem dX5_own_2 : decode cX5_own 2 = .ok (.putfield 48, 3) := by decide +kernel
end
section
theorem dX5_own_5 : decode cX5_own 5 = .ok (.aload_n 0, 1) := by decide +kernel
theorem dX5_own_6 : decode cX5_own 6 = .ok (.invokevirtual 128, 3) := by decide +kernel
theorem dX5_own_9 : decode cX5_own 9 = .ok (.aload_n 0, 1) := by decide +kernel
theorem dX5_own_10 : decode cX5_own 10 = .ok (.invokevirtual 115, 3) := by decide +kernel
theorem dX5_own_13 : decode cX5_own 13 = .ok (.lreturn, 1) := by decide +kernel
set_option maxRecDepth 20000 in
theorem ggX5_gain_X5_noNode : GoodIn wsX5_gain wsX5_noNode := goodIn_r _ [6, 7, 41, 42, 43, 44, 45, 46, 47, 48, 49, 50, 51, 52, 53, 54, 55, 56, 57] (by decide +kernel) (by decide +kernel)
set_option maxRecDepth 20000 in
theorem gX5_gain_X5_noNode : GoodIn wsX5_gain (wsV RX5 60 RX5 yX5_noNode wsX5_noNode) := goodIn_app (goodIn_of _ (by decide +kernel)) ggX5_gain_X5_noNode
set_option maxRecDepth 20000 in
theorem ggX5_gain_X5_ownNow : GoodIn wsX5_gain wsX5_ownNow := goodIn_r _ [11, 7, 12, 13, 14, 15, 16, 5, 17, 18, 19, 20, 21, 22, 23, 24, 25, 26, 27, 28, 29, 30, 31, 32, 33, 34, 41, 42, 43, 44, 45, 46, 47, 48, 49, 50, 51, 52, 53, 54, 55, 56, 57] (by decide +kernel) (by decide +kernel)
set_option maxRecDepth 20000 in
theorem gX5_gain_X5_ownNow : GoodIn wsX5_gain (wsV RX5 128 RX5 yX5_ownNow wsX5_ownNow) := goodIn_app (goodIn_of _ (by decide +kernel)) ggX5_gain_X5_ownNow
set_option maxRecDepth 20000 in
theorem ggX5_gain_X5_gainOf : GoodIn wsX5_gain wsX5_gainOf := goodIn_r _ [38, 12, 18, 19, 26, 39, 25, 40, 41, 42, 43, 44, 45, 46, 47, 48, 49, 50, 51, 52, 53, 54, 55, 56, 57] (by decide +kernel) (by decide +kernel)
set_option maxRecDepth 20000 in
theorem gX5_gain_X5_gainOf : GoodIn wsX5_gain (wsV RX5 92 RX5 yX5_gainOf wsX5_gainOf) := goodIn_app (goodIn_of _ (by decide +kernel)) ggX5_gain_X5_gainOf
theorem dX5_gain_0 : decode cX5_gain 0 = .ok (.aload_n 0, 1) := by decide +kernel
theorem dX5_gain_1 : decode cX5_gain 1 = .ok (.aload_n 0, 1) := by decide +kernel
theorem dX5_gain_2 : decode cX5_gain 2 = .ok (.iload_n 1, 1) := by decide +kernel
theorem dX5_gain_3 : decode cX5_gain 3 = .ok (.invokevirtual 60, 3) := by decide +kernel
theorem dX5_gain_6 : decode cX5_gain 6 = .ok (.ifCond .ne 11, 3) := by decide +kernel
theorem dX5_gain_9 : decode cX5_gain 9 = .ok (.aload_n 0, 1) := by decide +kernel
theorem dX5_gain_10 : decode cX5_gain 10 = .ok (.iload_n 2, 1) := by decide +kernel
theorem dX5_gain_11 : decode cX5_gain 11 = .ok (.invokevirtual 60, 3) := by decide +kernel
theorem dX5_gain_14 : decode cX5_gain 14 = .ok (.ifCond .eq 7, 3) := by decide +kernel
theorem dX5_gain_17 : decode cX5_gain 17 = .ok (.iconst 1, 1) := by decide +kernel
theorem dX5_gain_18 : decode cX5_gain 18 = .ok (.goto 4, 3) := by decide +kernel
theorem dX5_gain_21 : decode cX5_gain 21 = .ok (.iconst 0, 1) := by decide +kernel
theorem dX5_gain_22 : decode cX5_gain 22 = .ok (.putfield 48, 3) := by decide +kernel
theorem dX5_gain_25 : decode cX5_gain 25 = .ok (.aload_n 0, 1) := by decide +kernel
theorem dX5_gain_26 : decode cX5_gain 26 = .ok (.getfield 48, 3) := by decide +kernel
theorem dX5_gain_29 : decode cX5_gain 29 = .ok (.ifCond .le 5, 3) := by decide +kernel
theorem dX5_gain_32 : decode cX5_gain 32 = .ok (.lconst 0, 1) := by decide +kernel
theorem dX5_gain_33 : decode cX5_gain 33 = .ok (.lreturn, 1) := by decide +kernel
theorem dX5_gain_34 : decode cX5_gain 34 = .ok (.aload_n 0, 1) := by decide +kernel
theorem dX5_gain_35 : decode cX5_gain 35 = .ok (.invokevirtual 128, 3) := by decide +kernel
theorem dX5_gain_38 : decode cX5_gain 38 = .ok (.aload_n 0, 1) := by decide +kernel
theorem dX5_gain_39 : decode cX5_gain 39 = .ok (.iload_n 1, 1) := by decide +kernel
theorem dX5_gain_40 : decode cX5_gain 40 = .ok (.iload_n 2, 1) := by decide +kernel
theorem dX5_gain_41 : decode cX5_gain 41 = .ok (.invokevirtual 92, 3) := by decide +kernel
theorem dX5_gain_44 : decode cX5_gain 44 = .ok (.lreturn, 1) := by decide +kernel
set_option maxRecDepth 20000 in
theorem ggX5_about_X5_noNode : GoodIn wsX5_about wsX5_noNode := goodIn_r _ [9, 2, 24, 25, 26, 27, 28, 29, 30, 31, 32, 33, 34, 35, 36, 37, 38, 39, 40] (by decide +kernel) (by decide +kernel)
set_option maxRecDepth 20000 in
theorem gX5_about_X5_noNode : GoodIn wsX5_about (wsV RX5 60 RX5 yX5_noNode wsX5_noNode) := goodIn_app (goodIn_of _ (by decide +kernel)) ggX5_about_X5_noNode
set_option maxRecDepth 20000 in
theorem ggX5_about_X5_first : GoodIn wsX5_about wsX5_first := goodIn_r _ [13, 2, 14, 15, 3, 24, 25, 26, 27, 28, 29, 30, 31, 32, 33, 34, 35, 36, 37, 38, 39, 40] (by decide +kernel) (by decide +kernel)
set_option maxRecDepth 20000 in
theorem gX5_about_X5_first : GoodIn wsX5_about (wsV RX5 102 RX5 yX5_first wsX5_first) := goodIn_app (goodIn_of _ (by decide +kernel)) ggX5_about_X5_first
set_option maxRecDepth 20000 in
theorem ggX5_about_X5_sum : GoodIn wsX5_about wsX5_sum := goodIn_r _ [19, 14, 15, 24, 25, 26, 27, 28, 29, 30, 31, 32, 33, 34, 35, 36, 37, 38, 39, 40] (by decide +kernel) (by decide +kernel)
set_option maxRecDepth 20000 in
theorem gX5_about_X5_sum : GoodIn wsX5_about (wsV RX5 73 RX5 yX5_sum wsX5_sum) := goodIn_app (goodIn_of _ (by decide +kernel)) ggX5_about_X5_sum
set_option maxRecDepth 20000 in
theorem ggX5_about_X5_degree : GoodIn wsX5_about wsX5_degree := goodIn_r _ [23, 15, 14, 24, 25, 26, 27, 28, 29, 30, 31, 32, 33, 34, 35, 36, 37, 38, 39, 40] (by decide +kernel) (by decide +kernel)
set_option maxRecDepth 20000 in
theorem gX5_about_X5_degree : GoodIn wsX5_about (wsV RX5 80 RX5 yX5_degree wsX5_degree) := goodIn_app (goodIn_of _ (by decide +kernel)) ggX5_about_X5_degree
theorem dX5_about_0 : decode cX5_about 0 = .ok (.aload_n 0, 1) := by decide +kernel
theorem dX5_about_1 : decode cX5_about 1 = .ok (.iload_n 1, 1) := by decide +kernel
theorem dX5_about_2 : decode cX5_about 2 = .ok (.ifCond .lt 21, 3) := by decide +kernel
theorem dX5_about_5 : decode cX5_about 5 = .ok (.iload_n 1, 1) := by decide +kernel
theorem dX5_about_6 : decode cX5_about 6 = .ok (.iconst 4, 1) := by decide +kernel
theorem dX5_about_7 : decode cX5_about 7 = .ok (.if_icmp .gt 16, 3) := by decide +kernel
theorem dX5_about_10 : decode cX5_about 10 = .ok (.iload_n 1, 1) := by decide +kernel
theorem dX5_about_11 : decode cX5_about 11 = .ok (.iconst 1, 1) := by decide +kernel
theorem dX5_about_12 : decode cX5_about 12 = .ok (.if_icmp .le 15, 3) := by decide +kernel
theorem dX5_about_15 : decode cX5_about 15 = .ok (.aload_n 0, 1) := by decide +kernel
theorem dX5_about_16 : decode cX5_about 16 = .ok (.iload_n 2, 1) := by decide +kernel
theorem dX5_about_17 : decode cX5_about 17 = .ok (.invokevirtual 60, 3) := by decide +kernel
theorem dX5_about_20 : decode cX5_about 20 = .ok (.ifCond .eq 7, 3) := by decide +kernel
theorem dX5_about_23 : decode cX5_about 23 = .ok (.iconst 1, 1) := by decide +kernel
theorem dX5_about_24 : decode cX5_about 24 = .ok (.goto 4, 3) := by decide +kernel
theorem dX5_about_27 : decode cX5_about 27 = .ok (.iconst 0, 1) := by decide +kernel
theorem dX5_about_28 : decode cX5_about 28 = .ok (.putfield 48, 3) := by decide +kernel
theorem dX5_about_31 : decode cX5_about 31 = .ok (.aload_n 0, 1) := by decide +kernel
theorem dX5_about_32 : decode cX5_about 32 = .ok (.getfield 48, 3) := by decide +kernel
theorem dX5_about_35 : decode cX5_about 35 = .ok (.ifCond .le 5, 3) := by decide +kernel
theorem dX5_about_38 : decode cX5_about 38 = .ok (.iconst 0, 1) := by decide +kernel
theorem dX5_about_39 : decode cX5_about 39 = .ok (.ireturn, 1) := by decide +kernel
theorem dX5_about_40 : decode cX5_about 40 = .ok (.aload_n 0, 1) := by decide +kernel
theorem dX5_about_41 : decode cX5_about 41 = .ok (.invokevirtual 102, 3) := by decide +kernel
theorem dX5_about_44 : decode cX5_about 44 = .ok (.iload_n 1, 1) := by decide +kernel
theorem dX5_about_45 : decode cX5_about 45 = .ok (.ifCond .ne 10, 3) := by decide +kernel
theorem dX5_about_48 : decode cX5_about 48 = .ok (.aload_n 0, 1) := by decide +kernel
theorem dX5_about_49 : decode cX5_about 49 = .ok (.getfield 7, 3) := by decide +kernel
theorem dX5_about_52 : decode cX5_about 52 = .ok (.goto 55, 3) := by decide +kernel
theorem dX5_about_55 : decode cX5_about 55 = .ok (.iload_n 1, 1) := by decide +kernel
theorem dX5_about_56 : decode cX5_about 56 = .ok (.iconst 1, 1) := by decide +kernel
theorem dX5_about_57 : decode cX5_about 57 = .ok (.if_icmp .ne 11, 3) := by decide +kernel
theorem dX5_about_60 : decode cX5_about 60 = .ok (.aload_n 0, 1) := by decide +kernel
theorem dX5_about_61 : decode cX5_about 61 = .ok (.invokevirtual 73, 3) := by decide +kernel
theorem dX5_about_64 : decode cX5_about 64 = .ok (.l2i, 1) := by decide +kernel
theorem dX5_about_65 : decode cX5_about 65 = .ok (.goto 42, 3) := by decide +kernel
theorem dX5_about_68 : decode cX5_about 68 = .ok (.iload_n 1, 1) := by decide +kernel
theorem dX5_about_69 : decode cX5_about 69 = .ok (.iconst 2, 1) := by decide +kernel
theorem dX5_about_70 : decode cX5_about 70 = .ok (.if_icmp .ne 12, 3) := by decide +kernel
theorem dX5_about_73 : decode cX5_about 73 = .ok (.aload_n 0, 1) := by decide +kernel
theorem dX5_about_74 : decode cX5_about 74 = .ok (.iload_n 2, 1) := by decide +kernel
theorem dX5_about_75 : decode cX5_about 75 = .ok (.invokevirtual 80, 3) := by decide +kernel
theorem dX5_about_78 : decode cX5_about 78 = .ok (.l2i, 1) := by decide +kernel
theorem dX5_about_79 : decode cX5_about 79 = .ok (.goto 28, 3) := by decide +kernel
theorem dX5_about_82 : decode cX5_about 82 = .ok (.iload_n 1, 1) := by decide +kernel
theorem dX5_about_83 : decode cX5_about 83 = .ok (.iconst 3, 1) := by decide +kernel
theorem dX5_about_84 : decode cX5_about 84 = .ok (.if_icmp .ne 17, 3) := by decide +kernel
theorem dX5_about_87 : decode cX5_about 87 = .ok (.aload_n 0, 1) := by decide +kernel
theorem dX5_about_88 : decode cX5_about 88 = .ok (.getfield 13, 3) := by decide +kernel
theorem dX5_about_91 : decode cX5_about 91 = .ok (.bipush 40, 2) := by decide +kernel
theorem dX5_about_93 : decode cX5_about 93 = .ok (.iload_n 2, 1) := by decide +kernel
theorem dX5_about_94 : decode cX5_about 94 = .ok (.imul, 1) := by decide +kernel
theorem dX5_about_95 : decode cX5_about 95 = .ok (.iload_n 2, 1) := by decide +kernel
theorem dX5_about_96 : decode cX5_about 96 = .ok (.iadd, 1) := by decide +kernel
theorem dX5_about_97 : decode cX5_about 97 = .ok (.iaload, 1) := by decide +kernel
theorem dX5_about_98 : decode cX5_about 98 = .ok (.goto 9, 3) := by decide +kernel
theorem dX5_about_101 : decode cX5_about 101 = .ok (.aload_n 0, 1) := by decide +kernel
theorem dX5_about_102 : decode cX5_about 102 = .ok (.getfield 17, 3) := by decide +kernel
theorem dX5_about_105 : decode cX5_about 105 = .ok (.iload_n 2, 1) := by decide +kernel
theorem dX5_about_106 : decode cX5_about 106 = .ok (.iaload, 1) := by decide +kernel
theorem dX5_about_107 : decode cX5_about 107 = .ok (.ireturn, 1) := by decide +kernel
theorem dJ7_fill_53178_0 : decode cJ7_fill_53178 0 = .ok (.iconst 0, 1) := by decide +kernel
theorem dJ7_fill_53178_1 : decode cJ7_fill_53178 1 = .ok (.istore_n 2, 1) := by decide +kernel
theorem dJ7_fill_53178_2 : decode cJ7_fill_53178 2 = .ok (.aload_n 0, 1) := by decide +kernel
theorem dJ7_fill_53178_3 : decode cJ7_fill_53178 3 = .ok (.arraylength, 1) := by decide +kernel
theorem dJ7_fill_53178_4 : decode cJ7_fill_53178 4 = .ok (.istore_n 3, 1) := by decide +kernel
theorem dJ7_fill_53178_5 : decode cJ7_fill_53178 5 = .ok (.iload_n 2, 1) := by decide +kernel
theorem dJ7_fill_53178_6 : decode cJ7_fill_53178 6 = .ok (.iload_n 3, 1) := by decide +kernel
theorem dJ7_fill_53178_7 : decode cJ7_fill_53178 7 = .ok (.if_icmp .ge 13, 3) := by decide +kernel
theorem dJ7_fill_53178_10 : decode cJ7_fill_53178 10 = .ok (.aload_n 0, 1) := by decide +kernel
theorem dJ7_fill_53178_11 : decode cJ7_fill_53178 11 = .ok (.iload_n 2, 1) := by decide +kernel
theorem dJ7_fill_53178_12 : decode cJ7_fill_53178 12 = .ok (.iload_n 1, 1) := by decide +kernel
theorem dJ7_fill_53178_13 : decode cJ7_fill_53178 13 = .ok (.iastore, 1) := by decide +kernel
theorem dJ7_fill_53178_14 : decode cJ7_fill_53178 14 = .ok (.iinc 2 1, 3) := by decide +kernel
theorem dJ7_fill_53178_17 : decode cJ7_fill_53178 17 = .ok (.goto (-12), 3) := by decide +kernel
theorem dJ7_fill_53178_20 : decode cJ7_fill_53178 20 = .ok (.return_, 1) := by decide +kernel
set_option maxRecDepth 20000 in
theorem ggL_nodes_X4_nodes : GoodIn wsL_nodes wsX4_nodes := goodIn_ca (goodIn_r _ [6, 7, 8, 9, 10, 11, 12, 13, 14, 15, 16, 17, 18, 19, 20, 21, 22, 23, 24, 25, 26, 27, 28, 29, 30, 31, 32, 5, 33, 34, 35, 36, 37, 38, 39, 40, 41, 42, 43, 44, 45, 46, 47, 48, 49, 50, 51, 52, 53, 54, 55, 56, 57, 58, 59, 60] (by decide +kernel) (by decide +kernel)) (goodIn_sub (fun _ h => List.mem_cons_of_mem _ (List.mem_append_right _ h)) (by decide +kernel))
set_option maxRecDepth 20000 in
theorem gL_nodes_X4_nodes : GoodIn wsL_nodes (wsV RL 7 RX4 yX4_nodes wsX4_nodes) := goodIn_app (goodIn_of _ (by decide +kernel)) ggL_nodes_X4_nodes
theorem dL_nodes_0 : decode cL_nodes 0 = .ok (.aload_n 0, 1) := by decide +kernel
theorem dL_nodes_1 : decode cL_nodes 1 = .ok (.iload_n 1, 1) := by decide +kernel
theorem dL_nodes_2 : decode cL_nodes 2 = .ok (.invokevirtual 7, 3) := by decide +kernel
theorem dL_nodes_5 : decode cL_nodes 5 = .ok (.goto 6, 3) := by decide +kernel
theorem dL_nodes_8 : decode cL_nodes 8 = .ok (.astore_n 2, 1) := by decide +kernel
theorem dL_nodes_9 : decode cL_nodes 9 = .ok (.iconst 1, 1) := by decide +kernel
theorem dL_nodes_10 : decode cL_nodes 10 = .ok (.ireturn, 1) := by decide +kernel
theorem dL_nodes_11 : decode cL_nodes 11 = .ok (.iconst 0, 1) := by decide +kernel
theorem dL_nodes_12 : decode cL_nodes 12 = .ok (.ireturn, 1) := by decide +kernel
set_option maxRecDepth 20000 in
theorem ggL_weigh_X4_weigh : GoodIn wsL_weigh wsX4_weigh := goodIn_ca (goodIn_ca (goodIn_r _ [7, 8, 9, 10, 11, 12, 13, 14, 15, 6, 16, 17, 18, 19, 20, 21, 22, 23, 24, 25, 26, 27, 28, 29, 30, 31, 32, 33, 34, 35, 36, 37, 38, 39, 40, 41, 42, 43, 44, 45, 46, 47, 48, 49, 50, 51, 52, 53, 54, 55, 56, 57] (by decide +kernel) (by decide +kernel)) (goodIn_sub (fun _ h => List.mem_cons_of_mem _ (List.mem_append_left _ (List.mem_append_right _ h))) (by decide +kernel))) (goodIn_sub (fun _ h => List.mem_cons_of_mem _ (List.mem_append_right _ h)) (by decide +kernel))
set_option maxRecDepth 20000 in
theorem gL_weigh_X4_weigh : GoodIn wsL_weigh (wsV RL 15 RX4 yX4_weigh wsX4_weigh) := goodIn_app (goodIn_of _ (by decide +kernel)) ggL_weigh_X4_weigh
theorem dL_weigh_0 : decode cL_weigh 0 = .ok (.aload 4, 2) := by decide +kernel
theorem dL_weigh_2 : decode cL_weigh 2 = .ok (.iconst 0, 1) := by decide +kernel
theorem dL_weigh_3 : decode cL_weigh 3 = .ok (.aload_n 0, 1) := by decide +kernel
theorem dL_weigh_4 : decode cL_weigh 4 = .ok (.iload_n 1, 1) := by decide +kernel
theorem dL_weigh_5 : decode cL_weigh 5 = .ok (.iload_n 2, 1) := by decide +kernel
theorem dL_weigh_6 : decode cL_weigh 6 = .ok (.iload_n 3, 1) := by decide +kernel
theorem dL_weigh_7 : decode cL_weigh 7 = .ok (.invokevirtual 15, 3) := by decide +kernel
theorem dL_weigh_10 : decode cL_weigh 10 = .ok (.i2l, 1) := by decide +kernel
theorem dL_weigh_11 : decode cL_weigh 11 = .ok (.lastore, 1) := by decide +kernel
theorem dL_weigh_12 : decode cL_weigh 12 = .ok (.goto 11, 3) := by decide +kernel
theorem dL_weigh_15 : decode cL_weigh 15 = .ok (.astore 5, 2) := by decide +kernel
theorem dL_weigh_17 : decode cL_weigh 17 = .ok (.iconst 1, 1) := by decide +kernel
theorem dL_weigh_18 : decode cL_weigh 18 = .ok (.ireturn, 1) := by decide +kernel
theorem dL_weigh_19 : decode cL_weigh 19 = .ok (.astore 5, 2) := by decide +kernel
theorem dL_weigh_21 : decode cL_weigh 21 = .ok (.iconst 2, 1) := by decide +kernel
theorem dL_weigh_22 : decode cL_weigh 22 = .ok (.ireturn, 1) := by decide +kernel
theorem dL_weigh_23 : decode cL_weigh 23 = .ok (.iconst 0, 1) := by decide +kernel
theorem dL_weigh_24 : decode cL_weigh 24 = .ok (.ireturn, 1) := by decide +kernel
set_option maxRecDepth 20000 in
theorem ggL_level_X4_level : GoodIn wsL_level wsX4_level := goodIn_ca (goodIn_r _ [6, 7, 8, 9, 10, 11, 5, 12, 13, 14, 15, 16, 17, 18, 19, 20, 21, 22, 23, 24, 25, 26, 27, 28, 29, 30] (by decide +kernel) (by decide +kernel)) (goodIn_sub (fun _ h => List.mem_cons_of_mem _ (List.mem_append_right _ h)) (by decide +kernel))
set_option maxRecDepth 20000 in
theorem gL_level_X4_level : GoodIn wsL_level (wsV RL 21 RX4 yX4_level wsX4_level) := goodIn_app (goodIn_of _ (by decide +kernel)) ggL_level_X4_level
theorem dL_level_0 : decode cL_level 0 = .ok (.aload_n 3, 1) := by decide +kernel
theorem dL_level_1 : decode cL_level 1 = .ok (.iconst 0, 1) := by decide +kernel
theorem dL_level_2 : decode cL_level 2 = .ok (.aload_n 0, 1) := by decide +kernel
theorem dL_level_3 : decode cL_level 3 = .ok (.iload_n 1, 1) := by decide +kernel
theorem dL_level_4 : decode cL_level 4 = .ok (.iload_n 2, 1) := by decide +kernel
theorem dL_level_5 : decode cL_level 5 = .ok (.invokevirtual 21, 3) := by decide +kernel
theorem dL_level_8 : decode cL_level 8 = .ok (.i2l, 1) := by decide +kernel
theorem dL_level_9 : decode cL_level 9 = .ok (.lastore, 1) := by decide +kernel
theorem dL_level_10 : decode cL_level 10 = .ok (.goto 7, 3) := by decide +kernel
theorem dL_level_13 : decode cL_level 13 = .ok (.astore 4, 2) := by decide +kernel
theorem dL_level_15 : decode cL_level 15 = .ok (.iconst 1, 1) := by decide +kernel
theorem dL_level_16 : decode cL_level 16 = .ok (.ireturn, 1) := by decide +kernel
theorem dL_level_17 : decode cL_level 17 = .ok (.iconst 0, 1) := by decide +kernel
theorem dL_level_18 : decode cL_level 18 = .ok (.ireturn, 1) := by decide +kernel
set_option maxRecDepth 20000 in
theorem ggL_community_X4_community : GoodIn wsL_community wsX4_community := goodIn_ca (goodIn_r _ [6, 7, 8, 9, 10, 11, 5, 12, 13, 14, 15, 16, 17, 18, 19, 20, 21, 22, 23, 24, 25, 26, 27, 28, 29, 30, 31, 32, 33, 34, 35, 36] (by decide +kernel) (by decide +kernel)) (goodIn_sub (fun _ h => List.mem_cons_of_mem _ (List.mem_append_right _ h)) (by decide +kernel))
set_option maxRecDepth 20000 in
theorem gL_community_X4_community : GoodIn wsL_community (wsV RL 25 RX4 yX4_community wsX4_community) := goodIn_app (goodIn_of _ (by decide +kernel)) ggL_community_X4_community
theorem dL_community_0 : decode cL_community 0 = .ok (.aload_n 3, 1) := by decide +kernel
theorem dL_community_1 : decode cL_community 1 = .ok (.iconst 0, 1) := by decide +kernel
theorem dL_community_2 : decode cL_community 2 = .ok (.aload_n 0, 1) := by decide +kernel
theorem dL_community_3 : decode cL_community 3 = .ok (.iload_n 1, 1) := by decide +kernel
theorem dL_community_4 : decode cL_community 4 = .ok (.iload_n 2, 1) := by decide +kernel
theorem dL_community_5 : decode cL_community 5 = .ok (.invokevirtual 25, 3) := by decide +kernel
theorem dL_community_8 : decode cL_community 8 = .ok (.i2l, 1) := by decide +kernel
theorem dL_community_9 : decode cL_community 9 = .ok (.lastore, 1) := by decide +kernel
theorem dL_community_10 : decode cL_community 10 = .ok (.goto 7, 3) := by decide +kernel
theorem dL_community_13 : decode cL_community 13 = .ok (.astore 4, 2) := by decide +kernel
theorem dL_community_15 : decode cL_community 15 = .ok (.iconst 1, 1) := by decide +kernel
theorem dL_community_16 : decode cL_community 16 = .ok (.ireturn, 1) := by decide +kernel
theorem dL_community_17 : decode cL_community 17 = .ok (.iconst 0, 1) := by decide +kernel
theorem dL_community_18 : decode cL_community 18 = .ok (.ireturn, 1) := by decide +kernel
set_option maxRecDepth 20000 in
theorem ggL_modularity_X4_modularity : GoodIn wsL_modularity wsX4_modularity := goodIn_ca (goodIn_r _ [6, 7, 8, 9, 10, 11, 5, 12, 13, 14, 15, 16, 17, 18, 19, 20, 21, 22, 23, 24, 25, 26] (by decide +kernel) (by decide +kernel)) (goodIn_sub (fun _ h => List.mem_cons_of_mem _ (List.mem_append_right _ h)) (by decide +kernel))
set_option maxRecDepth 20000 in
theorem gL_modularity_X4_modularity : GoodIn wsL_modularity (wsV RL 28 RX4 yX4_modularity wsX4_modularity) := goodIn_app (goodIn_of _ (by decide +kernel)) ggL_modularity_X4_modularity
theorem dL_modularity_0 : decode cL_modularity 0 = .ok (.aload_n 2, 1) := by decide +kernel
theorem dL_modularity_1 : decode cL_modularity 1 = .ok (.iconst 0, 1) := by decide +kernel
theorem dL_modularity_2 : decode cL_modularity 2 = .ok (.aload_n 0, 1) := by decide +kernel
theorem dL_modularity_3 : decode cL_modularity 3 = .ok (.iload_n 1, 1) := by decide +kernel
theorem dL_modularity_4 : decode cL_modularity 4 = .ok (.invokevirtual 28, 3) := by decide +kernel
theorem dL_modularity_7 : decode cL_modularity 7 = .ok (.lastore, 1) := by decide +kernel
theorem dL_modularity_8 : decode cL_modularity 8 = .ok (.goto 6, 3) := by decide +kernel
theorem dL_modularity_11 : decode cL_modularity 11 = .ok (.astore_n 3, 1) := by decide +kernel
theorem dL_modularity_12 : decode cL_modularity 12 = .ok (.iconst 1, 1) := by decide +kernel
theorem dL_modularity_13 : decode cL_modularity 13 = .ok (.ireturn, 1) := by decide +kernel
theorem dL_modularity_14 : decode cL_modularity 14 = .ok (.iconst 0, 1) := by decide +kernel
theorem dL_modularity_15 : decode cL_modularity 15 = .ok (.ireturn, 1) := by decide +kernel
set_option maxRecDepth 20000 in
theorem ggL_move_X4_move : GoodIn wsL_move wsX4_move := goodIn_ca (goodIn_r _ [6, 7, 8, 9, 10, 11, 5, 12, 13, 14, 15, 16, 17, 18, 19, 20, 21, 22, 23, 24, 25, 26, 27, 28, 29] (by decide +kernel) (by decide +kernel)) (goodIn_sub (fun _ h => List.mem_cons_of_mem _ (List.mem_append_right _ h)) (by decide +kernel))
set_option maxRecDepth 20000 in
theorem gL_move_X4_move : GoodIn wsL_move (wsV RL 32 RX4 yX4_move wsX4_move) := goodIn_app (goodIn_of _ (by decide +kernel)) ggL_move_X4_move
theorem dL_move_0 : decode cL_move 0 = .ok (.aload_n 3, 1) := by decide +kernel
theorem dL_move_1 : decode cL_move 1 = .ok (.iconst 0, 1) := by decide +kernel
theorem dL_move_2 : decode cL_move 2 = .ok (.aload_n 0, 1) := by decide +kernel
theorem dL_move_3 : decode cL_move 3 = .ok (.iload_n 1, 1) := by decide +kernel
theorem dL_move_4 : decode cL_move 4 = .ok (.iload_n 2, 1) := by decide +kernel
theorem dL_move_5 : decode cL_move 5 = .ok (.invokevirtual 32, 3) := by decide +kernel
theorem dL_move_8 : decode cL_move 8 = .ok (.i2l, 1) := by decide +kernel
theorem dL_move_9 : decode cL_move 9 = .ok (.lastore, 1) := by decide +kernel
theorem dL_move_10 : decode cL_move 10 = .ok (.goto 7, 3) := by decide +kernel
theorem dL_move_13 : decode cL_move 13 = .ok (.astore 4, 2) := by decide +kernel
theorem dL_move_15 : decode cL_move 15 = .ok (.iconst 1, 1) := by decide +kernel
theorem dL_move_16 : decode cL_move 16 = .ok (.ireturn, 1) := by decide +kernel
theorem dL_move_17 : decode cL_move 17 = .ok (.iconst 0, 1) := by decide +kernel
theorem dL_move_18 : decode cL_move 18 = .ok (.ireturn, 1) := by decide +kernel
set_option maxRecDepth 20000 in
theorem ggL_gained_X4_gained : GoodIn wsL_gained wsX4_gained := goodIn_ca (goodIn_r _ [6, 7, 8, 9, 10, 11, 5, 12, 13, 14, 15, 16, 17, 18, 19, 20, 21, 22, 23, 24, 25] (by decide +kernel) (by decide +kernel)) (goodIn_sub (fun _ h => List.mem_cons_of_mem _ (List.mem_append_right _ h)) (by decide +kernel))
set_option maxRecDepth 20000 in
theorem gL_gained_X4_gained : GoodIn wsL_gained (wsV RL 35 RX4 yX4_gained wsX4_gained) := goodIn_app (goodIn_of _ (by decide +kernel)) ggL_gained_X4_gained
theorem dL_gained_0 : decode cL_gained 0 = .ok (.aload_n 2, 1) := by decide +kernel
theorem dL_gained_1 : decode cL_gained 1 = .ok (.iconst 0, 1) := by decide +kernel
theorem dL_gained_2 : decode cL_gained 2 = .ok (.aload_n 0, 1) := by decide +kernel
theorem dL_gained_3 : decode cL_gained 3 = .ok (.iload_n 1, 1) := by decide +kernel
theorem dL_gained_4 : decode cL_gained 4 = .ok (.invokevirtual 35, 3) := by decide +kernel
theorem dL_gained_7 : decode cL_gained 7 = .ok (.lastore, 1) := by decide +kernel
theorem dL_gained_8 : decode cL_gained 8 = .ok (.goto 6, 3) := by decide +kernel
theorem dL_gained_11 : decode cL_gained 11 = .ok (.astore_n 3, 1) := by decide +kernel
theorem dL_gained_12 : decode cL_gained 12 = .ok (.iconst 1, 1) := by decide +kernel
theorem dL_gained_13 : decode cL_gained 13 = .ok (.ireturn, 1) := by decide +kernel
theorem dL_gained_14 : decode cL_gained 14 = .ok (.iconst 0, 1) := by decide +kernel
theorem dL_gained_15 : decode cL_gained 15 = .ok (.ireturn, 1) := by decide +kernel
set_option maxRecDepth 20000 in
theorem ggL_place_X4_place : GoodIn wsL_place wsX4_place := goodIn_ca (goodIn_r _ [6, 7, 8, 9, 10, 11, 5, 12, 13, 14, 15, 16, 17, 18, 19, 20, 21, 22, 23, 24, 25, 26, 27, 28, 29, 30, 31, 32, 33, 34, 35, 36] (by decide +kernel) (by decide +kernel)) (goodIn_sub (fun _ h => List.mem_cons_of_mem _ (List.mem_append_right _ h)) (by decide +kernel))
set_option maxRecDepth 20000 in
theorem gL_place_X4_place : GoodIn wsL_place (wsV RL 38 RX4 yX4_place wsX4_place) := goodIn_app (goodIn_of _ (by decide +kernel)) ggL_place_X4_place
theorem dL_place_0 : decode cL_place 0 = .ok (.aload_n 3, 1) := by decide +kernel
end
section
theorem dL_place_1 : decode cL_place 1 = .ok (.iconst 0, 1) := by decide +kernel
theorem dL_place_2 : decode cL_place 2 = .ok (.aload_n 0, 1) := by decide +kernel
theorem dL_place_3 : decode cL_place 3 = .ok (.iload_n 1, 1) := by decide +kernel
theorem dL_place_4 : decode cL_place 4 = .ok (.iload_n 2, 1) := by decide +kernel
theorem dL_place_5 : decode cL_place 5 = .ok (.invokevirtual 38, 3) := by decide +kernel
theorem dL_place_8 : decode cL_place 8 = .ok (.i2l, 1) := by decide +kernel
theorem dL_place_9 : decode cL_place 9 = .ok (.lastore, 1) := by decide +kernel
theorem dL_place_10 : decode cL_place 10 = .ok (.goto 7, 3) := by decide +kernel
theorem dL_place_13 : decode cL_place 13 = .ok (.astore 4, 2) := by decide +kernel
theorem dL_place_15 : decode cL_place 15 = .ok (.iconst 1, 1) := by decide +kernel
theorem dL_place_16 : decode cL_place 16 = .ok (.ireturn, 1) := by decide +kernel
theorem dL_place_17 : decode cL_place 17 = .ok (.iconst 0, 1) := by decide +kernel
theorem dL_place_18 : decode cL_place 18 = .ok (.ireturn, 1) := by decide +kernel
set_option maxRecDepth 20000 in
theorem ggL_take_X4_take : GoodIn wsL_take wsX4_take := goodIn_ca (goodIn_r _ [6, 7, 8, 9, 10, 11, 12, 13, 14, 15, 16, 17, 18, 19, 5, 20, 21, 22, 23, 24, 25, 26, 27, 28, 29, 30, 31, 32, 33, 34, 35, 36, 37, 38, 39, 40, 41, 42, 43] (by decide +kernel) (by decide +kernel)) (goodIn_sub (fun _ h => List.mem_cons_of_mem _ (List.mem_append_right _ h)) (by decide +kernel))
set_option maxRecDepth 20000 in
theorem gL_take_X4_take : GoodIn wsL_take (wsV RL 41 RX4 yX4_take wsX4_take) := goodIn_app (goodIn_of _ (by decide +kernel)) ggL_take_X4_take
theorem dL_take_0 : decode cL_take 0 = .ok (.aload_n 0, 1) := by decide +kernel
theorem dL_take_1 : decode cL_take 1 = .ok (.iload_n 1, 1) := by decide +kernel
theorem dL_take_2 : decode cL_take 2 = .ok (.invokevirtual 41, 3) := by decide +kernel
theorem dL_take_5 : decode cL_take 5 = .ok (.goto 6, 3) := by decide +kernel
theorem dL_take_8 : decode cL_take 8 = .ok (.astore_n 2, 1) := by decide +kernel
theorem dL_take_9 : decode cL_take 9 = .ok (.iconst 1, 1) := by decide +kernel
theorem dL_take_10 : decode cL_take 10 = .ok (.ireturn, 1) := by decide +kernel
theorem dL_take_11 : decode cL_take 11 = .ok (.iconst 0, 1) := by decide +kernel
theorem dL_take_12 : decode cL_take 12 = .ok (.ireturn, 1) := by decide +kernel
set_option maxRecDepth 20000 in
theorem ggL_gain_X4_gain : GoodIn wsL_gain wsX4_gain := goodIn_ca (goodIn_r _ [6, 7, 8, 9, 10, 11, 5, 12, 13, 14, 15, 16, 17, 18, 19, 20, 21, 22, 23, 24, 25, 26, 27, 28, 29, 30, 31, 32, 33, 34, 35, 36, 37, 38, 39, 40, 41, 42, 43, 44, 45, 46, 47, 48, 49, 50, 51, 52, 53, 54, 55, 56, 57, 58, 59, 60, 61, 62, 63, 64, 65, 66, 67] (by decide +kernel) (by decide +kernel)) (goodIn_sub (fun _ h => List.mem_cons_of_mem _ (List.mem_append_right _ h)) (by decide +kernel))
set_option maxRecDepth 20000 in
theorem gL_gain_X4_gain : GoodIn wsL_gain (wsV RL 44 RX4 yX4_gain wsX4_gain) := goodIn_app (goodIn_of _ (by decide +kernel)) ggL_gain_X4_gain
theorem dL_gain_0 : decode cL_gain 0 = .ok (.aload_n 3, 1) := by decide +kernel
theorem dL_gain_1 : decode cL_gain 1 = .ok (.iconst 0, 1) := by decide +kernel
theorem dL_gain_2 : decode cL_gain 2 = .ok (.aload_n 0, 1) := by decide +kernel
theorem dL_gain_3 : decode cL_gain 3 = .ok (.iload_n 1, 1) := by decide +kernel
theorem dL_gain_4 : decode cL_gain 4 = .ok (.iload_n 2, 1) := by decide +kernel
theorem dL_gain_5 : decode cL_gain 5 = .ok (.invokevirtual 44, 3) := by decide +kernel
theorem dL_gain_8 : decode cL_gain 8 = .ok (.lastore, 1) := by decide +kernel
theorem dL_gain_9 : decode cL_gain 9 = .ok (.goto 7, 3) := by decide +kernel
theorem dL_gain_12 : decode cL_gain 12 = .ok (.astore 4, 2) := by decide +kernel
theorem dL_gain_14 : decode cL_gain 14 = .ok (.iconst 1, 1) := by decide +kernel
theorem dL_gain_15 : decode cL_gain 15 = .ok (.ireturn, 1) := by decide +kernel
theorem dL_gain_16 : decode cL_gain 16 = .ok (.iconst 0, 1) := by decide +kernel
theorem dL_gain_17 : decode cL_gain 17 = .ok (.ireturn, 1) := by decide +kernel
set_option maxRecDepth 20000 in
theorem ggL_about_X4_about : GoodIn wsL_about wsX4_about := goodIn_ca (goodIn_r _ [6, 7, 8, 9, 10, 11, 12, 13, 14, 15, 16, 17, 5, 18, 19, 20, 21, 22, 23, 24, 25, 26, 27, 28, 29, 30, 31, 32, 33, 34, 35, 36, 37, 38, 39, 40] (by decide +kernel) (by decide +kernel)) (goodIn_sub (fun _ h => List.mem_cons_of_mem _ (List.mem_append_right _ h)) (by decide +kernel))
set_option maxRecDepth 20000 in
theorem gL_about_X4_about : GoodIn wsL_about (wsV RL 48 RX4 yX4_about wsX4_about) := goodIn_app (goodIn_of _ (by decide +kernel)) ggL_about_X4_about
theorem dL_about_0 : decode cL_about 0 = .ok (.aload_n 3, 1) := by decide +kernel
theorem dL_about_1 : decode cL_about 1 = .ok (.iconst 0, 1) := by decide +kernel
theorem dL_about_2 : decode cL_about 2 = .ok (.aload_n 0, 1) := by decide +kernel
theorem dL_about_3 : decode cL_about 3 = .ok (.iload_n 1, 1) := by decide +kernel
theorem dL_about_4 : decode cL_about 4 = .ok (.iload_n 2, 1) := by decide +kernel
theorem dL_about_5 : decode cL_about 5 = .ok (.invokevirtual 48, 3) := by decide +kernel
theorem dL_about_8 : decode cL_about 8 = .ok (.i2l, 1) := by decide +kernel
theorem dL_about_9 : decode cL_about 9 = .ok (.lastore, 1) := by decide +kernel
theorem dL_about_10 : decode cL_about 10 = .ok (.goto 7, 3) := by decide +kernel
theorem dL_about_13 : decode cL_about 13 = .ok (.astore 4, 2) := by decide +kernel
theorem dL_about_15 : decode cL_about 15 = .ok (.iconst 1, 1) := by decide +kernel
theorem dL_about_16 : decode cL_about 16 = .ok (.ireturn, 1) := by decide +kernel
theorem dL_about_17 : decode cL_about 17 = .ok (.iconst 0, 1) := by decide +kernel
theorem dL_about_18 : decode cL_about 18 = .ok (.ireturn, 1) := by decide +kernel
set_option maxRecDepth 20000 in
theorem ggL_law_X4_init : GoodIn wsL_law wsX4_init := goodIn_r _ [9, 10, 11, 12, 13, 14, 15, 16, 17, 18, 19, 20, 21, 22, 23, 24, 25, 26, 27, 28, 29, 30, 31, 32, 33, 34, 35, 36, 37, 38, 39, 40, 41, 42, 43, 44, 45, 46, 47, 48, 49, 50, 51, 52, 53, 54, 55, 6, 56, 57, 58, 59, 60, 61, 62, 63, 64, 478, 479, 480, 481, 454, 455, 456, 457, 458, 459, 460, 482, 483, 484, 485, 486, 487, 488, 489, 490, 491, 492, 493] (by decide +kernel) (by decide +kernel)
set_option maxRecDepth 20000 in
theorem gL_law_X4_init : GoodIn wsL_law (wsX4_init) := ggL_law_X4_init
set_option maxRecDepth 20000 in
theorem ggL_law_X5_init : GoodIn wsL_law wsX5_init := goodIn_r _ [67, 68, 11, 12, 69, 31, 70, 71, 6, 72, 73, 74, 75, 76, 77, 78, 79, 80, 461, 462, 463, 464, 465, 466, 467, 468, 469, 470, 471, 472, 473, 474, 475, 476, 477] (by decide +kernel) (by decide +kernel)
set_option maxRecDepth 20000 in
theorem gL_law_X5_init : GoodIn wsL_law (wsX5_init) := ggL_law_X5_init
set_option maxRecDepth 20000 in
theorem ggL_law_L_nodes : GoodIn wsL_law wsL_nodes := goodIn_ca (goodIn_r _ [84, 85, 86, 87, 88, 2, 89, 90, 91, 16, 20, 92, 93, 94, 15, 95, 37, 38, 39, 40, 96, 97, 98, 99, 100, 101, 102, 19, 103, 45, 104, 105, 106, 107, 24, 108, 28, 109, 454, 455, 456, 457, 458, 459, 460, 478, 479, 480, 481, 482, 483, 484, 485, 486, 487, 488, 489, 490, 491, 492, 493] (by decide +kernel) (by decide +kernel)) (goodIn_sub (fun _ h => List.mem_append_left _ (List.mem_append_right _ h)) (by decide +kernel))
set_option maxRecDepth 20000 in
theorem gL_law_L_nodes : GoodIn wsL_law (va_wsS RL 55 yL_nodes wsL_nodes) := goodIn_app (goodIn_of _ (by decide +kernel)) ggL_law_L_nodes
set_option maxRecDepth 20000 in
theorem ggL_law_X5_nodes : GoodIn wsL_law wsX5_nodes := goodIn_r _ [113, 114, 69, 70, 71, 115, 116, 117, 5, 118, 119, 120, 461, 462, 463, 464, 465, 466, 467, 468, 469, 470, 471, 472, 473, 474, 475, 476, 477] (by decide +kernel) (by decide +kernel)
set_option maxRecDepth 20000 in
theorem gL_law_X5_nodes : GoodIn wsL_law (wsV RL 60 RX5 yX5_nodes wsX5_nodes) := goodIn_app (goodIn_of _ (by decide +kernel)) ggL_law_X5_nodes
set_option maxRecDepth 20000 in
theorem ggL_law_X5_thrown : GoodIn wsL_law wsX5_thrown := goodIn_r _ [124, 114, 461, 462, 463, 464, 465, 466, 467, 468, 469, 470, 471, 472, 473, 474, 475, 476, 477] (by decide +kernel) (by decide +kernel)
set_option maxRecDepth 20000 in
theorem gL_law_X5_thrown : GoodIn wsL_law (wsV RL 61 RX5 yX5_thrown wsX5_thrown) := goodIn_app (goodIn_of _ (by decide +kernel)) ggL_law_X5_thrown
set_option maxRecDepth 20000 in
theorem ggL_law_L_weigh : GoodIn wsL_law wsL_weigh := goodIn_ca (goodIn_ca (goodIn_r _ [127, 128, 85, 129, 130, 131, 2, 132, 90, 91, 16, 133, 134, 135, 136, 137, 138, 139, 140, 141, 142, 143, 144, 15, 145, 37, 146, 147, 148, 149, 38, 40, 104, 105, 106, 107, 24, 108, 28, 109, 454, 455, 456, 457, 458, 459, 460, 478, 479, 480, 481, 487, 488, 489, 490, 491, 492, 493] (by decide +kernel) (by decide +kernel)) (goodIn_sub (fun _ h => List.mem_append_left _ (List.mem_append_right _ h)) (by decide +kernel))) (goodIn_sub (fun _ h => List.mem_append_right _ h) (by decide +kernel))
set_option maxRecDepth 20000 in
theorem gL_law_L_weigh : GoodIn wsL_law (va_wsS RL 65 yL_weigh wsL_weigh) := goodIn_app (goodIn_of _ (by decide +kernel)) ggL_law_L_weigh
set_option maxRecDepth 20000 in
theorem ggL_law_X5_weigh : GoodIn wsL_law wsX5_weigh := goodIn_r _ [153, 114, 70, 154, 155, 156, 157, 5, 158, 69, 159, 160, 161, 162, 115, 116, 117, 118, 119, 120, 461, 462, 463, 464, 465, 466, 467, 468, 469, 470, 471, 472, 473, 474, 475, 476, 477] (by decide +kernel) (by decide +kernel)
set_option maxRecDepth 20000 in
theorem gL_law_X5_weigh : GoodIn wsL_law (wsV RL 68 RX5 yX5_weigh wsX5_weigh) := goodIn_app (goodIn_of _ (by decide +kernel)) ggL_law_X5_weigh
set_option maxRecDepth 20000 in
theorem ggL_law_X4_run : GoodIn wsL_law wsX4_run := goodIn_r _ [166, 24, 108, 167, 168, 169, 2, 170, 16, 141, 32, 29, 171, 172, 173, 15, 174, 39, 175, 93, 94, 95, 37, 38, 40, 96, 97, 98, 99, 176, 143, 144, 145, 177, 147, 148, 149, 178, 179, 180, 181, 30, 28, 109, 182, 183, 100, 101, 102, 19, 103, 45, 184, 185, 186, 187, 46, 47, 188, 189, 190, 191, 192, 193, 194, 195, 196, 197, 198, 48, 199, 200, 201, 202, 203, 204, 205, 206, 207, 208, 209, 210, 211, 212, 213, 214, 215, 216, 217, 218, 27, 219, 64, 62, 63, 220, 221, 222, 223, 224, 225, 226, 227, 228, 229, 230, 231, 49, 232, 233, 234, 23, 235, 57, 55, 236, 237, 238, 239, 56, 54, 454, 455, 456, 457, 458, 459, 460, 487, 488, 489, 490, 478, 479, 480, 481, 491, 492, 493, 482, 483, 484, 485, 486] (by decide +kernel) (by decide +kernel)
set_option maxRecDepth 20000 in
theorem gL_law_X4_run : GoodIn wsL_law (wsV RL 69 RX4 yX4_run wsX4_run) := goodIn_app (goodIn_of _ (by decide +kernel)) ggL_law_X4_run
set_option maxRecDepth 20000 in
theorem ggL_law_X5_run : GoodIn wsL_law wsX5_run := goodIn_r _ [243, 114, 120, 244, 73, 75, 119, 76, 69, 77, 115, 116, 117, 5, 118, 245, 246, 247, 248, 72, 70, 249, 250, 251, 252, 253, 80, 254, 255, 256, 257, 258, 259, 260, 261, 262, 263, 264, 265, 78, 79, 266, 267, 268, 269, 270, 271, 272, 273, 274, 275, 276, 277, 278, 279, 280, 281, 282, 283, 284, 285, 286, 287, 288, 289, 290, 291, 292, 293, 294, 295, 74, 461, 462, 463, 464, 465, 466, 467, 468, 469, 470, 471, 472, 473, 474, 475, 476, 477] (by decide +kernel) (by decide +kernel)
set_option maxRecDepth 20000 in
theorem gL_law_X5_run : GoodIn wsL_law (wsV RL 72 RX5 yX5_run wsX5_run) := goodIn_app (goodIn_of _ (by decide +kernel)) ggL_law_X5_run
set_option maxRecDepth 20000 in
theorem ggL_law_X4_levels : GoodIn wsL_law wsX4_levels := goodIn_r _ [299, 24, 108, 454, 455, 456, 457, 458, 459, 460, 487, 488, 489, 490] (by decide +kernel) (by decide +kernel)
set_option maxRecDepth 20000 in
theorem gL_law_X4_levels : GoodIn wsL_law (wsV RL 73 RX4 yX4_levels wsX4_levels) := goodIn_app (goodIn_of _ (by decide +kernel)) ggL_law_X4_levels
set_option maxRecDepth 20000 in
theorem ggL_law_X5_levels : GoodIn wsL_law wsX5_levels := goodIn_r _ [303, 114, 119, 461, 462, 463, 464, 465, 466, 467, 468, 469, 470, 471, 472, 473, 474, 475, 476, 477] (by decide +kernel) (by decide +kernel)
set_option maxRecDepth 20000 in
theorem gL_law_X5_levels : GoodIn wsL_law (wsV RL 76 RX5 yX5_levels wsX5_levels) := goodIn_app (goodIn_of _ (by decide +kernel)) ggL_law_X5_levels
set_option maxRecDepth 20000 in
theorem ggL_law_L_level : GoodIn wsL_law wsL_level := goodIn_ca (goodIn_r _ [306, 128, 307, 308, 309, 2, 310, 24, 311, 312, 313, 314, 315, 139, 140, 108, 316, 317, 318, 319, 454, 455, 456, 457, 458, 459, 460, 487, 488, 489, 490] (by decide +kernel) (by decide +kernel)) (goodIn_sub (fun _ h => List.mem_append_right _ h) (by decide +kernel))
set_option maxRecDepth 20000 in
theorem gL_law_L_level : GoodIn wsL_law (va_wsS RL 77 yL_level wsL_level) := goodIn_app (goodIn_of _ (by decide +kernel)) ggL_law_L_level
set_option maxRecDepth 20000 in
theorem ggL_law_X5_level : GoodIn wsL_law wsX5_level := goodIn_r _ [323, 114, 75, 324, 325, 326, 5, 327, 119, 461, 462, 463, 464, 465, 466, 467, 468, 469, 470, 471, 472, 473, 474, 475, 476, 477] (by decide +kernel) (by decide +kernel)
set_option maxRecDepth 20000 in
theorem gL_law_X5_level : GoodIn wsL_law (wsV RL 80 RX5 yX5_level wsX5_level) := goodIn_app (goodIn_of _ (by decide +kernel)) ggL_law_X5_level
set_option maxRecDepth 20000 in
theorem ggL_law_L_community : GoodIn wsL_law wsL_community := goodIn_ca (goodIn_r _ [330, 128, 331, 332, 333, 2, 334, 24, 335, 312, 313, 314, 315, 139, 140, 108, 135, 136, 137, 138, 16, 141, 454, 455, 456, 457, 458, 459, 460, 487, 488, 489, 490, 478, 479, 480, 481] (by decide +kernel) (by decide +kernel)) (goodIn_sub (fun _ h => List.mem_append_right _ h) (by decide +kernel))
set_option maxRecDepth 20000 in
theorem gL_law_L_community : GoodIn wsL_law (va_wsS RL 81 yL_community wsL_community) := goodIn_app (goodIn_of _ (by decide +kernel)) ggL_law_L_community
set_option maxRecDepth 20000 in
theorem ggL_law_X5_community : GoodIn wsL_law wsX5_community := goodIn_r _ [339, 114, 77, 324, 325, 326, 5, 327, 119, 155, 156, 157, 158, 69, 461, 462, 463, 464, 465, 466, 467, 468, 469, 470, 471, 472, 473, 474, 475, 476, 477] (by decide +kernel) (by decide +kernel)
set_option maxRecDepth 20000 in
theorem gL_law_X5_community : GoodIn wsL_law (wsV RL 83 RX5 yX5_community wsX5_community) := goodIn_app (goodIn_of _ (by decide +kernel)) ggL_law_X5_community
set_option maxRecDepth 20000 in
theorem ggL_law_L_modularity : GoodIn wsL_law wsL_modularity := goodIn_ca (goodIn_r _ [342, 128, 343, 344, 345, 2, 346, 24, 347, 312, 313, 314, 315, 139, 140, 108, 454, 455, 456, 457, 458, 459, 460, 487, 488, 489, 490] (by decide +kernel) (by decide +kernel)) (goodIn_sub (fun _ h => List.mem_append_right _ h) (by decide +kernel))
set_option maxRecDepth 20000 in
theorem gL_law_L_modularity : GoodIn wsL_law (va_wsS RL 84 yL_modularity wsL_modularity) := goodIn_app (goodIn_of _ (by decide +kernel)) ggL_law_L_modularity
set_option maxRecDepth 20000 in
theorem ggL_law_X5_modularity : GoodIn wsL_law wsX5_modularity := goodIn_r _ [351, 114, 76, 324, 325, 326, 5, 327, 119, 461, 462, 463, 464, 465, 466, 467, 468, 469, 470, 471, 472, 473, 474, 475, 476, 477] (by decide +kernel) (by decide +kernel)
set_option maxRecDepth 20000 in
theorem gL_law_X5_modularity : GoodIn wsL_law (wsV RL 87 RX5 yX5_modularity wsX5_modularity) := goodIn_app (goodIn_of _ (by decide +kernel)) ggL_law_X5_modularity
set_option maxRecDepth 20000 in
theorem ggL_law_X4_moves : GoodIn wsL_law wsX4_moves := goodIn_r _ [355, 28, 109, 454, 455, 456, 457, 458, 459, 460, 491, 492, 493] (by decide +kernel) (by decide +kernel)
set_option maxRecDepth 20000 in
theorem gL_law_X4_moves : GoodIn wsL_law (wsV RL 88 RX4 yX4_moves wsX4_moves) := goodIn_app (goodIn_of _ (by decide +kernel)) ggL_law_X4_moves
set_option maxRecDepth 20000 in
theorem ggL_law_X5_moves : GoodIn wsL_law wsX5_moves := goodIn_r _ [359, 114, 120, 461, 462, 463, 464, 465, 466, 467, 468, 469, 470, 471, 472, 473, 474, 475, 476, 477] (by decide +kernel) (by decide +kernel)
set_option maxRecDepth 20000 in
theorem gL_law_X5_moves : GoodIn wsL_law (wsV RL 91 RX5 yX5_moves wsX5_moves) := goodIn_app (goodIn_of _ (by decide +kernel)) ggL_law_X5_moves
set_option maxRecDepth 20000 in
theorem ggL_law_L_move : GoodIn wsL_law wsL_move := goodIn_ca (goodIn_r _ [362, 128, 363, 364, 365, 2, 366, 28, 367, 368, 369, 370, 371, 139, 140, 109, 316, 317, 318, 319, 454, 455, 456, 457, 458, 459, 460, 491, 492, 493] (by decide +kernel) (by decide +kernel)) (goodIn_sub (fun _ h => List.mem_append_right _ h) (by decide +kernel))
set_option maxRecDepth 20000 in
theorem gL_law_L_move : GoodIn wsL_law (va_wsS RL 92 yL_move wsL_move) := goodIn_app (goodIn_of _ (by decide +kernel)) ggL_law_L_move
set_option maxRecDepth 20000 in
theorem ggL_law_X5_move : GoodIn wsL_law wsX5_move := goodIn_r _ [375, 114, 78, 376, 377, 378, 5, 379, 120, 461, 462, 463, 464, 465, 466, 467, 468, 469, 470, 471, 472, 473, 474, 475, 476, 477] (by decide +kernel) (by decide +kernel)
set_option maxRecDepth 20000 in
theorem gL_law_X5_move : GoodIn wsL_law (wsV RL 94 RX5 yX5_move wsX5_move) := goodIn_app (goodIn_of _ (by decide +kernel)) ggL_law_X5_move
set_option maxRecDepth 20000 in
theorem ggL_law_L_gained : GoodIn wsL_law wsL_gained := goodIn_ca (goodIn_r _ [382, 128, 383, 384, 385, 2, 386, 28, 387, 368, 369, 370, 371, 139, 140, 109, 454, 455, 456, 457, 458, 459, 460, 491, 492, 493] (by decide +kernel) (by decide +kernel)) (goodIn_sub (fun _ h => List.mem_append_right _ h) (by decide +kernel))
set_option maxRecDepth 20000 in
theorem gL_law_L_gained : GoodIn wsL_law (va_wsS RL 95 yL_gained wsL_gained) := goodIn_app (goodIn_of _ (by decide +kernel)) ggL_law_L_gained
set_option maxRecDepth 20000 in
theorem ggL_law_X5_gained : GoodIn wsL_law wsX5_gained := goodIn_r _ [391, 114, 79, 376, 377, 378, 5, 379, 120, 461, 462, 463, 464, 465, 466, 467, 468, 469, 470, 471, 472, 473, 474, 475, 476, 477] (by decide +kernel) (by decide +kernel)
set_option maxRecDepth 20000 in
theorem gL_law_X5_gained : GoodIn wsL_law (wsV RL 97 RX5 yX5_gained wsX5_gained) := goodIn_app (goodIn_of _ (by decide +kernel)) ggL_law_X5_gained
set_option maxRecDepth 20000 in
theorem ggL_law_L_place : GoodIn wsL_law wsL_place := goodIn_ca (goodIn_r _ [394, 128, 395, 396, 397, 2, 398, 20, 183, 135, 136, 137, 138, 139, 140, 16, 141, 399, 400, 401, 402, 454, 455, 456, 457, 458, 459, 460, 482, 483, 484, 485, 486, 478, 479, 480, 481] (by decide +kernel) (by decide +kernel)) (goodIn_sub (fun _ h => List.mem_append_right _ h) (by decide +kernel))
set_option maxRecDepth 20000 in
theorem gL_law_L_place : GoodIn wsL_law (va_wsS RL 98 yL_place wsL_place) := goodIn_app (goodIn_of _ (by decide +kernel)) ggL_law_L_place
set_option maxRecDepth 20000 in
theorem ggL_law_X5_place : GoodIn wsL_law wsX5_place := goodIn_r _ [406, 114, 71, 155, 156, 157, 5, 158, 69, 461, 462, 463, 464, 465, 466, 467, 468, 469, 470, 471, 472, 473, 474, 475, 476, 477] (by decide +kernel) (by decide +kernel)
set_option maxRecDepth 20000 in
theorem gL_law_X5_place : GoodIn wsL_law (wsV RL 100 RX5 yX5_place wsX5_place) := goodIn_app (goodIn_of _ (by decide +kernel)) ggL_law_X5_place
set_option maxRecDepth 20000 in
theorem ggL_law_L_take : GoodIn wsL_law wsL_take := goodIn_ca (goodIn_r _ [409, 128, 410, 411, 412, 2, 413, 24, 335, 20, 183, 16, 141, 414, 237, 238, 239, 312, 313, 314, 315, 139, 140, 108, 454, 455, 456, 457, 458, 459, 460, 487, 488, 489, 490, 482, 483, 484, 485, 486, 478, 479, 480, 481] (by decide +kernel) (by decide +kernel)) (goodIn_sub (fun _ h => List.mem_append_right _ h) (by decide +kernel))
set_option maxRecDepth 20000 in
theorem gL_law_L_take : GoodIn wsL_law (va_wsS RL 101 yL_take wsL_take) := goodIn_app (goodIn_of _ (by decide +kernel)) ggL_law_L_take
set_option maxRecDepth 20000 in
theorem ggL_law_X5_take : GoodIn wsL_law wsX5_take := goodIn_r _ [418, 114, 69, 71, 77, 324, 325, 326, 5, 327, 119, 461, 462, 463, 464, 465, 466, 467, 468, 469, 470, 471, 472, 473, 474, 475, 476, 477] (by decide +kernel) (by decide +kernel)
set_option maxRecDepth 20000 in
theorem gL_law_X5_take : GoodIn wsL_law (wsV RL 103 RX5 yX5_take wsX5_take) := goodIn_app (goodIn_of _ (by decide +kernel)) ggL_law_X5_take
set_option maxRecDepth 20000 in
theorem ggL_law_X4_own : GoodIn wsL_law wsX4_own := goodIn_r _ [422, 20, 16, 184, 185, 186, 19, 187, 46, 47, 188, 45, 189, 190, 97, 98, 99, 224, 225, 226, 227, 208, 209, 199, 143, 144, 15, 145, 37, 454, 455, 456, 457, 458, 459, 460, 482, 483, 484, 485, 486, 478, 479, 480, 481] (by decide +kernel) (by decide +kernel)
set_option maxRecDepth 20000 in
theorem gL_law_X4_own : GoodIn wsL_law (wsV RL 104 RX4 yX4_own wsX4_own) := goodIn_app (goodIn_of _ (by decide +kernel)) ggL_law_X4_own
set_option maxRecDepth 20000 in
theorem ggL_law_X5_own : GoodIn wsL_law wsX5_own := goodIn_r _ [426, 114, 427, 428, 429, 5, 430, 69, 73, 71, 245, 246, 247, 248, 244, 72, 70, 249, 250, 251, 252, 253, 80, 254, 255, 256, 257, 258, 259, 260, 261, 288, 289, 290, 291, 274, 461, 462, 463, 464, 465, 466, 467, 468, 469, 470, 471, 472, 473, 474, 475, 476, 477] (by decide +kernel) (by decide +kernel)
set_option maxRecDepth 20000 in
theorem gL_law_X5_own : GoodIn wsL_law (wsV RL 108 RX5 yX5_own wsX5_own) := goodIn_app (goodIn_of _ (by decide +kernel)) ggL_law_X5_own
set_option maxRecDepth 20000 in
theorem ggL_law_L_gain : GoodIn wsL_law wsL_gain := goodIn_ca (goodIn_r _ [433, 128, 434, 435, 436, 2, 437, 20, 16, 135, 136, 137, 138, 139, 140, 141, 399, 400, 401, 402, 184, 185, 186, 19, 187, 46, 47, 188, 45, 189, 190, 97, 98, 99, 195, 196, 197, 198, 48, 199, 143, 144, 15, 145, 37, 215, 205, 206, 207, 208, 209, 210, 454, 455, 456, 457, 458, 459, 460, 478, 479, 480, 481, 482, 483, 484, 485, 486] (by decide +kernel) (by decide +kernel)) (goodIn_sub (fun _ h => List.mem_append_right _ h) (by decide +kernel))
set_option maxRecDepth 20000 in
theorem gL_law_L_gain : GoodIn wsL_law (va_wsS RL 109 yL_gain wsL_gain) := goodIn_app (goodIn_of _ (by decide +kernel)) ggL_law_L_gain
set_option maxRecDepth 20000 in
theorem ggL_law_X5_gain : GoodIn wsL_law wsX5_gain := goodIn_r _ [441, 114, 155, 156, 157, 5, 158, 69, 427, 428, 429, 430, 73, 71, 245, 246, 247, 248, 244, 72, 70, 249, 250, 251, 252, 253, 80, 254, 255, 256, 257, 258, 259, 260, 261, 270, 271, 272, 273, 274, 275, 461, 462, 463, 464, 465, 466, 467, 468, 469, 470, 471, 472, 473, 474, 475, 476, 477] (by decide +kernel) (by decide +kernel)
set_option maxRecDepth 20000 in
theorem gL_law_X5_gain : GoodIn wsL_law (wsV RL 111 RX5 yX5_gain wsX5_gain) := goodIn_app (goodIn_of _ (by decide +kernel)) ggL_law_X5_gain
set_option maxRecDepth 20000 in
theorem ggL_law_L_about : GoodIn wsL_law wsL_about := goodIn_ca (goodIn_r _ [444, 128, 445, 446, 447, 2, 448, 139, 140, 16, 141, 133, 449, 20, 183, 135, 136, 137, 138, 142, 143, 144, 15, 145, 37, 454, 455, 456, 457, 458, 459, 460, 478, 479, 480, 481, 482, 483, 484, 485, 486] (by decide +kernel) (by decide +kernel)) (goodIn_sub (fun _ h => List.mem_append_right _ h) (by decide +kernel))
set_option maxRecDepth 20000 in
theorem gL_law_L_about : GoodIn wsL_law (va_wsS RL 112 yL_about wsL_about) := goodIn_app (goodIn_of _ (by decide +kernel)) ggL_law_L_about
set_option maxRecDepth 20000 in
theorem ggL_law_X5_about : GoodIn wsL_law wsX5_about := goodIn_r _ [453, 114, 69, 70, 71, 155, 156, 157, 5, 158, 245, 246, 247, 248, 244, 72, 254, 255, 256, 257, 258, 259, 260, 261, 461, 462, 463, 464, 465, 466, 467, 468, 469, 470, 471, 472, 473, 474, 475, 476, 477] (by decide +kernel) (by decide +kernel)
set_option maxRecDepth 20000 in
theorem gL_law_X5_about : GoodIn wsL_law (wsV RL 114 RX5 yX5_about wsX5_about) := goodIn_app (goodIn_of _ (by decide +kernel)) ggL_law_X5_about
theorem dL_law_0 : decode cL_law 0 = .ok (.new 8, 3) := by decide +kernel
theorem dL_law_3 : decode cL_law 3 = .ok (.dup, 1) := by decide +kernel
theorem dL_law_4 : decode cL_law 4 = .ok (.invokespecial 51, 3) := by decide +kernel
theorem dL_law_7 : decode cL_law 7 = .ok (.astore_n 1, 1) := by decide +kernel
theorem dL_law_8 : decode cL_law 8 = .ok (.new 52, 3) := by decide +kernel
theorem dL_law_11 : decode cL_law 11 = .ok (.dup, 1) := by decide +kernel
theorem dL_law_12 : decode cL_law 12 = .ok (.invokespecial 54, 3) := by decide +kernel
theorem dL_law_15 : decode cL_law 15 = .ok (.astore_n 2, 1) := by decide +kernel
theorem dL_law_16 : decode cL_law 16 = .ok (.iconst 1, 1) := by decide +kernel
theorem dL_law_17 : decode cL_law 17 = .ok (.newarray .long, 2) := by decide +kernel
theorem dL_law_19 : decode cL_law 19 = .ok (.astore_n 3, 1) := by decide +kernel
theorem dL_law_20 : decode cL_law 20 = .ok (.iconst 0, 1) := by decide +kernel
theorem dL_law_21 : decode cL_law 21 = .ok (.istore 4, 2) := by decide +kernel
theorem dL_law_23 : decode cL_law 23 = .ok (.iload 4, 2) := by decide +kernel
theorem dL_law_25 : decode cL_law 25 = .ok (.aload_n 0, 1) := by decide +kernel
theorem dL_law_26 : decode cL_law 26 = .ok (.arraylength, 1) := by decide +kernel
theorem dL_law_27 : decode cL_law 27 = .ok (.iconst 4, 1) := by decide +kernel
theorem dL_law_28 : decode cL_law 28 = .ok (.isub, 1) := by decide +kernel
theorem dL_law_29 : decode cL_law 29 = .ok (.if_icmp .gt 811, 3) := by decide +kernel
theorem dL_law_32 : decode cL_law 32 = .ok (.aload_n 0, 1) := by decide +kernel
theorem dL_law_33 : decode cL_law 33 = .ok (.iload 4, 2) := by decide +kernel
theorem dL_law_35 : decode cL_law 35 = .ok (.iaload, 1) := by decide +kernel
theorem dL_law_36 : decode cL_law 36 = .ok (.bipush 15, 2) := by decide +kernel
theorem dL_law_38 : decode cL_law 38 = .ok (.iand, 1) := by decide +kernel
theorem dL_law_39 : decode cL_law 39 = .ok (.tableswitch 795 0 14 #[73, 109, 189, 202, 215, 283, 351, 406, 419, 487, 542, 610, 646, 660, 727], 73) := by decide +kernel
theorem dL_law_112 : decode cL_law 112 = .ok (.aload_n 1, 1) := by decide +kernel
theorem dL_law_113 : decode cL_law 113 = .ok (.aload_n 0, 1) := by decide +kernel
theorem dL_law_114 : decode cL_law 114 = .ok (.iload 4, 2) := by decide +kernel
theorem dL_law_116 : decode cL_law 116 = .ok (.iconst 1, 1) := by decide +kernel
theorem dL_law_117 : decode cL_law 117 = .ok (.iadd, 1) := by decide +kernel
theorem dL_law_118 : decode cL_law 118 = .ok (.iaload, 1) := by decide +kernel
theorem dL_law_119 : decode cL_law 119 = .ok (.invokestatic 55, 3) := by decide +kernel
theorem dL_law_122 : decode cL_law 122 = .ok (.istore 5, 2) := by decide +kernel
theorem dL_law_124 : decode cL_law 124 = .ok (.aload_n 2, 1) := by decide +kernel
theorem dL_law_125 : decode cL_law 125 = .ok (.aload_n 0, 1) := by decide +kernel
theorem dL_law_126 : decode cL_law 126 = .ok (.iload 4, 2) := by decide +kernel
theorem dL_law_128 : decode cL_law 128 = .ok (.iconst 1, 1) := by decide +kernel
theorem dL_law_129 : decode cL_law 129 = .ok (.iadd, 1) := by decide +kernel
theorem dL_law_130 : decode cL_law 130 = .ok (.iaload, 1) := by decide +kernel
theorem dL_law_131 : decode cL_law 131 = .ok (.invokevirtual 60, 3) := by decide +kernel
theorem dL_law_134 : decode cL_law 134 = .ok (.aload_n 2, 1) := by decide +kernel
theorem dL_law_135 : decode cL_law 135 = .ok (.invokevirtual 61, 3) := by decide +kernel
theorem dL_law_138 : decode cL_law 138 = .ok (.iload 5, 2) := by decide +kernel
theorem dL_law_140 : decode cL_law 140 = .ok (.if_icmp .eq 5, 3) := by decide +kernel
theorem dL_law_143 : decode cL_law 143 = .ok (.iconst 0, 1) := by decide +kernel
theorem dL_law_144 : decode cL_law 144 = .ok (.ireturn, 1) := by decide +kernel
theorem dL_law_145 : decode cL_law 145 = .ok (.goto 689, 3) := by decide +kernel
theorem dL_law_148 : decode cL_law 148 = .ok (.aload_n 1, 1) := by decide +kernel
theorem dL_law_149 : decode cL_law 149 = .ok (.aload_n 0, 1) := by decide +kernel
theorem dL_law_150 : decode cL_law 150 = .ok (.iload 4, 2) := by decide +kernel
theorem dL_law_152 : decode cL_law 152 = .ok (.iconst 1, 1) := by decide +kernel
theorem dL_law_153 : decode cL_law 153 = .ok (.iadd, 1) := by decide +kernel
theorem dL_law_154 : decode cL_law 154 = .ok (.iaload, 1) := by decide +kernel
theorem dL_law_155 : decode cL_law 155 = .ok (.aload_n 0, 1) := by decide +kernel
theorem dL_law_156 : decode cL_law 156 = .ok (.iload 4, 2) := by decide +kernel
theorem dL_law_158 : decode cL_law 158 = .ok (.iconst 2, 1) := by decide +kernel
theorem dL_law_159 : decode cL_law 159 = .ok (.iadd, 1) := by decide +kernel
theorem dL_law_160 : decode cL_law 160 = .ok (.iaload, 1) := by decide +kernel
theorem dL_law_161 : decode cL_law 161 = .ok (.aload_n 0, 1) := by decide +kernel
theorem dL_law_162 : decode cL_law 162 = .ok (.iload 4, 2) := by decide +kernel
theorem dL_law_164 : decode cL_law 164 = .ok (.iconst 3, 1) := by decide +kernel
theorem dL_law_165 : decode cL_law 165 = .ok (.iadd, 1) := by decide +kernel
theorem dL_law_166 : decode cL_law 166 = .ok (.iaload, 1) := by decide +kernel
theorem dL_law_167 : decode cL_law 167 = .ok (.aload_n 3, 1) := by decide +kernel
theorem dL_law_168 : decode cL_law 168 = .ok (.invokestatic 65, 3) := by decide +kernel
theorem dL_law_171 : decode cL_law 171 = .ok (.istore 5, 2) := by decide +kernel
theorem dL_law_173 : decode cL_law 173 = .ok (.aload_n 2, 1) := by decide +kernel
theorem dL_law_174 : decode cL_law 174 = .ok (.aload_n 0, 1) := by decide +kernel
theorem dL_law_175 : decode cL_law 175 = .ok (.iload 4, 2) := by decide +kernel
theorem dL_law_177 : decode cL_law 177 = .ok (.iconst 1, 1) := by decide +kernel
theorem dL_law_178 : decode cL_law 178 = .ok (.iadd, 1) := by decide +kernel
theorem dL_law_179 : decode cL_law 179 = .ok (.iaload, 1) := by decide +kernel
theorem dL_law_180 : decode cL_law 180 = .ok (.aload_n 0, 1) := by decide +kernel
theorem dL_law_181 : decode cL_law 181 = .ok (.iload 4, 2) := by decide +kernel
theorem dL_law_183 : decode cL_law 183 = .ok (.iconst 2, 1) := by decide +kernel
theorem dL_law_184 : decode cL_law 184 = .ok (.iadd, 1) := by decide +kernel
theorem dL_law_185 : decode cL_law 185 = .ok (.iaload, 1) := by decide +kernel
theorem dL_law_186 : decode cL_law 186 = .ok (.aload_n 0, 1) := by decide +kernel
theorem dL_law_187 : decode cL_law 187 = .ok (.iload 4, 2) := by decide +kernel
theorem dL_law_189 : decode cL_law 189 = .ok (.iconst 3, 1) := by decide +kernel
theorem dL_law_190 : decode cL_law 190 = .ok (.iadd, 1) := by decide +kernel
theorem dL_law_191 : decode cL_law 191 = .ok (.iaload, 1) := by decide +kernel
theorem dL_law_192 : decode cL_law 192 = .ok (.invokevirtual 68, 3) := by decide +kernel
theorem dL_law_195 : decode cL_law 195 = .ok (.istore 6, 2) := by decide +kernel
theorem dL_law_197 : decode cL_law 197 = .ok (.aload_n 2, 1) := by decide +kernel
theorem dL_law_198 : decode cL_law 198 = .ok (.invokevirtual 61, 3) := by decide +kernel
theorem dL_law_201 : decode cL_law 201 = .ok (.iload 5, 2) := by decide +kernel
theorem dL_law_203 : decode cL_law 203 = .ok (.if_icmp .eq 5, 3) := by decide +kernel
theorem dL_law_206 : decode cL_law 206 = .ok (.iconst 0, 1) := by decide +kernel
theorem dL_law_207 : decode cL_law 207 = .ok (.ireturn, 1) := by decide +kernel
theorem dL_law_208 : decode cL_law 208 = .ok (.iload 5, 2) := by decide +kernel
theorem dL_law_210 : decode cL_law 210 = .ok (.ifCond .ne 15, 3) := by decide +kernel
theorem dL_law_213 : decode cL_law 213 = .ok (.aload_n 3, 1) := by decide +kernel
theorem dL_law_214 : decode cL_law 214 = .ok (.iconst 0, 1) := by decide +kernel
theorem dL_law_215 : decode cL_law 215 = .ok (.laload, 1) := by decide +kernel
theorem dL_law_216 : decode cL_law 216 = .ok (.iload 6, 2) := by decide +kernel
theorem dL_law_218 : decode cL_law 218 = .ok (.i2l, 1) := by decide +kernel
theorem dL_law_219 : decode cL_law 219 = .ok (.lcmp, 1) := by decide +kernel
theorem dL_law_220 : decode cL_law 220 = .ok (.ifCond .eq 5, 3) := by decide +kernel
theorem dL_law_223 : decode cL_law 223 = .ok (.iconst 0, 1) := by decide +kernel
theorem dL_law_224 : decode cL_law 224 = .ok (.ireturn, 1) := by decide +kernel
theorem dL_law_225 : decode cL_law 225 = .ok (.goto 609, 3) := by decide +kernel
theorem dL_law_228 : decode cL_law 228 = .ok (.aload_n 1, 1) := by decide +kernel
theorem dL_law_229 : decode cL_law 229 = .ok (.invokevirtual 69, 3) := by decide +kernel
theorem dL_law_232 : decode cL_law 232 = .ok (.aload_n 2, 1) := by decide +kernel
theorem dL_law_233 : decode cL_law 233 = .ok (.invokevirtual 72, 3) := by decide +kernel
theorem dL_law_236 : decode cL_law 236 = .ok (.if_icmp .eq 598, 3) := by decide +kernel
theorem dL_law_239 : decode cL_law 239 = .ok (.iconst 0, 1) := by decide +kernel
theorem dL_law_240 : decode cL_law 240 = .ok (.ireturn, 1) := by decide +kernel
theorem dL_law_241 : decode cL_law 241 = .ok (.aload_n 1, 1) := by decide +kernel
theorem dL_law_242 : decode cL_law 242 = .ok (.invokevirtual 73, 3) := by decide +kernel
theorem dL_law_245 : decode cL_law 245 = .ok (.aload_n 2, 1) := by decide +kernel
theorem dL_law_246 : decode cL_law 246 = .ok (.invokevirtual 76, 3) := by decide +kernel
theorem dL_law_249 : decode cL_law 249 = .ok (.if_icmp .eq 585, 3) := by decide +kernel
theorem dL_law_252 : decode cL_law 252 = .ok (.iconst 0, 1) := by decide +kernel
theorem dL_law_253 : decode cL_law 253 = .ok (.ireturn, 1) := by decide +kernel
theorem dL_law_254 : decode cL_law 254 = .ok (.aload_n 1, 1) := by decide +kernel
theorem dL_law_255 : decode cL_law 255 = .ok (.aload_n 0, 1) := by decide +kernel
theorem dL_law_256 : decode cL_law 256 = .ok (.iload 4, 2) := by decide +kernel
theorem dL_law_258 : decode cL_law 258 = .ok (.iconst 1, 1) := by decide +kernel
theorem dL_law_259 : decode cL_law 259 = .ok (.iadd, 1) := by decide +kernel
theorem dL_law_260 : decode cL_law 260 = .ok (.iaload, 1) := by decide +kernel
theorem dL_law_261 : decode cL_law 261 = .ok (.aload_n 0, 1) := by decide +kernel
theorem dL_law_262 : decode cL_law 262 = .ok (.iload 4, 2) := by decide +kernel
theorem dL_law_264 : decode cL_law 264 = .ok (.iconst 2, 1) := by decide +kernel
theorem dL_law_265 : decode cL_law 265 = .ok (.iadd, 1) := by decide +kernel
theorem dL_law_266 : decode cL_law 266 = .ok (.iaload, 1) := by decide +kernel
theorem dL_law_267 : decode cL_law 267 = .ok (.aload_n 3, 1) := by decide +kernel
theorem dL_law_268 : decode cL_law 268 = .ok (.invokestatic 77, 3) := by decide +kernel
theorem dL_law_271 : decode cL_law 271 = .ok (.istore 5, 2) := by decide +kernel
theorem dL_law_273 : decode cL_law 273 = .ok (.aload_n 2, 1) := by decide +kernel
theorem dL_law_274 : decode cL_law 274 = .ok (.aload_n 0, 1) := by decide +kernel
theorem dL_law_275 : decode cL_law 275 = .ok (.iload 4, 2) := by decide +kernel
theorem dL_law_277 : decode cL_law 277 = .ok (.iconst 1, 1) := by decide +kernel
theorem dL_law_278 : decode cL_law 278 = .ok (.iadd, 1) := by decide +kernel
theorem dL_law_279 : decode cL_law 279 = .ok (.iaload, 1) := by decide +kernel
theorem dL_law_280 : decode cL_law 280 = .ok (.aload_n 0, 1) := by decide +kernel
theorem dL_law_281 : decode cL_law 281 = .ok (.iload 4, 2) := by decide +kernel
theorem dL_law_283 : decode cL_law 283 = .ok (.iconst 2, 1) := by decide +kernel
theorem dL_law_284 : decode cL_law 284 = .ok (.iadd, 1) := by decide +kernel
theorem dL_law_285 : decode cL_law 285 = .ok (.iaload, 1) := by decide +kernel
theorem dL_law_286 : decode cL_law 286 = .ok (.invokevirtual 80, 3) := by decide +kernel
theorem dL_law_289 : decode cL_law 289 = .ok (.istore 6, 2) := by decide +kernel
theorem dL_law_291 : decode cL_law 291 = .ok (.aload_n 2, 1) := by decide +kernel
theorem dL_law_292 : decode cL_law 292 = .ok (.invokevirtual 61, 3) := by decide +kernel
theorem dL_law_295 : decode cL_law 295 = .ok (.iload 5, 2) := by decide +kernel
theorem dL_law_297 : decode cL_law 297 = .ok (.if_icmp .eq 5, 3) := by decide +kernel
theorem dL_law_300 : decode cL_law 300 = .ok (.iconst 0, 1) := by decide +kernel
theorem dL_law_301 : decode cL_law 301 = .ok (.ireturn, 1) := by decide +kernel
theorem dL_law_302 : decode cL_law 302 = .ok (.iload 5, 2) := by decide +kernel
theorem dL_law_304 : decode cL_law 304 = .ok (.ifCond .ne 15, 3) := by decide +kernel
theorem dL_law_307 : decode cL_law 307 = .ok (.aload_n 3, 1) := by decide +kernel
theorem dL_law_308 : decode cL_law 308 = .ok (.iconst 0, 1) := by decide +kernel
theorem dL_law_309 : decode cL_law 309 = .ok (.laload, 1) := by decide +kernel
theorem dL_law_310 : decode cL_law 310 = .ok (.iload 6, 2) := by decide +kernel
theorem dL_law_312 : decode cL_law 312 = .ok (.i2l, 1) := by decide +kernel
theorem dL_law_313 : decode cL_law 313 = .ok (.lcmp, 1) := by decide +kernel
theorem dL_law_314 : decode cL_law 314 = .ok (.ifCond .eq 5, 3) := by decide +kernel
theorem dL_law_317 : decode cL_law 317 = .ok (.iconst 0, 1) := by decide +kernel
theorem dL_law_318 : decode cL_law 318 = .ok (.ireturn, 1) := by decide +kernel
theorem dL_law_319 : decode cL_law 319 = .ok (.goto 515, 3) := by decide +kernel
theorem dL_law_322 : decode cL_law 322 = .ok (.aload_n 1, 1) := by decide +kernel
theorem dL_law_323 : decode cL_law 323 = .ok (.aload_n 0, 1) := by decide +kernel
theorem dL_law_324 : decode cL_law 324 = .ok (.iload 4, 2) := by decide +kernel
theorem dL_law_326 : decode cL_law 326 = .ok (.iconst 1, 1) := by decide +kernel
theorem dL_law_327 : decode cL_law 327 = .ok (.iadd, 1) := by decide +kernel
theorem dL_law_328 : decode cL_law 328 = .ok (.iaload, 1) := by decide +kernel
theorem dL_law_329 : decode cL_law 329 = .ok (.aload_n 0, 1) := by decide +kernel
theorem dL_law_330 : decode cL_law 330 = .ok (.iload 4, 2) := by decide +kernel
theorem dL_law_332 : decode cL_law 332 = .ok (.iconst 2, 1) := by decide +kernel
theorem dL_law_333 : decode cL_law 333 = .ok (.iadd, 1) := by decide +kernel
theorem dL_law_334 : decode cL_law 334 = .ok (.iaload, 1) := by decide +kernel
theorem dL_law_335 : decode cL_law 335 = .ok (.aload_n 3, 1) := by decide +kernel
theorem dL_law_336 : decode cL_law 336 = .ok (.invokestatic 81, 3) := by decide +kernel
theorem dL_law_339 : decode cL_law 339 = .ok (.istore 5, 2) := by decide +kernel
theorem dL_law_341 : decode cL_law 341 = .ok (.aload_n 2, 1) := by decide +kernel
theorem dL_law_342 : decode cL_law 342 = .ok (.aload_n 0, 1) := by decide +kernel
theorem dL_law_343 : decode cL_law 343 = .ok (.iload 4, 2) := by decide +kernel
theorem dL_law_345 : decode cL_law 345 = .ok (.iconst 1, 1) := by decide +kernel
theorem dL_law_346 : decode cL_law 346 = .ok (.iadd, 1) := by decide +kernel
theorem dL_law_347 : decode cL_law 347 = .ok (.iaload, 1) := by decide +kernel
theorem dL_law_348 : decode cL_law 348 = .ok (.aload_n 0, 1) := by decide +kernel
theorem dL_law_349 : decode cL_law 349 = .ok (.iload 4, 2) := by decide +kernel
theorem dL_law_351 : decode cL_law 351 = .ok (.iconst 2, 1) := by decide +kernel
theorem dL_law_352 : decode cL_law 352 = .ok (.iadd, 1) := by decide +kernel
theorem dL_law_353 : decode cL_law 353 = .ok (.iaload, 1) := by decide +kernel
theorem dL_law_354 : decode cL_law 354 = .ok (.invokevirtual 83, 3) := by decide +kernel
theorem dL_law_357 : decode cL_law 357 = .ok (.istore 6, 2) := by decide +kernel
theorem dL_law_359 : decode cL_law 359 = .ok (.aload_n 2, 1) := by decide +kernel
theorem dL_law_360 : decode cL_law 360 = .ok (.invokevirtual 61, 3) := by decide +kernel
theorem dL_law_363 : decode cL_law 363 = .ok (.iload 5, 2) := by decide +kernel
theorem dL_law_365 : decode cL_law 365 = .ok (.if_icmp .eq 5, 3) := by decide +kernel
theorem dL_law_368 : decode cL_law 368 = .ok (.iconst 0, 1) := by decide +kernel
theorem dL_law_369 : decode cL_law 369 = .ok (.ireturn, 1) := by decide +kernel
theorem dL_law_370 : decode cL_law 370 = .ok (.iload 5, 2) := by decide +kernel
theorem dL_law_372 : decode cL_law 372 = .ok (.ifCond .ne 15, 3) := by decide +kernel
theorem dL_law_375 : decode cL_law 375 = .ok (.aload_n 3, 1) := by decide +kernel
theorem dL_law_376 : decode cL_law 376 = .ok (.iconst 0, 1) := by decide +kernel
theorem dL_law_377 : decode cL_law 377 = .ok (.laload, 1) := by decide +kernel
theorem dL_law_378 : decode cL_law 378 = .ok (.iload 6, 2) := by decide +kernel
theorem dL_law_380 : decode cL_law 380 = .ok (.i2l, 1) := by decide +kernel
theorem dL_law_381 : decode cL_law 381 = .ok (.lcmp, 1) := by decide +kernel
theorem dL_law_382 : decode cL_law 382 = .ok (.ifCond .eq 5, 3) := by decide +kernel
theorem dL_law_385 : decode cL_law 385 = .ok (.iconst 0, 1) := by decide +kernel
theorem dL_law_386 : decode cL_law 386 = .ok (.ireturn, 1) := by decide +kernel
theorem dL_law_387 : decode cL_law 387 = .ok (.goto 447, 3) := by decide +kernel
theorem dL_law_390 : decode cL_law 390 = .ok (.aload_n 1, 1) := by decide +kernel
theorem dL_law_391 : decode cL_law 391 = .ok (.aload_n 0, 1) := by decide +kernel
theorem dL_law_392 : decode cL_law 392 = .ok (.iload 4, 2) := by decide +kernel
theorem dL_law_394 : decode cL_law 394 = .ok (.iconst 1, 1) := by decide +kernel
theorem dL_law_395 : decode cL_law 395 = .ok (.iadd, 1) := by decide +kernel
theorem dL_law_396 : decode cL_law 396 = .ok (.iaload, 1) := by decide +kernel
theorem dL_law_397 : decode cL_law 397 = .ok (.aload_n 3, 1) := by decide +kernel
theorem dL_law_398 : decode cL_law 398 = .ok (.invokestatic 84, 3) := by decide +kernel
theorem dL_law_401 : decode cL_law 401 = .ok (.istore 5, 2) := by decide +kernel
theorem dL_law_403 : decode cL_law 403 = .ok (.aload_n 2, 1) := by decide +kernel
theorem dL_law_404 : decode cL_law 404 = .ok (.aload_n 0, 1) := by decide +kernel
theorem dL_law_405 : decode cL_law 405 = .ok (.iload 4, 2) := by decide +kernel
theorem dL_law_407 : decode cL_law 407 = .ok (.iconst 1, 1) := by decide +kernel
theorem dL_law_408 : decode cL_law 408 = .ok (.iadd, 1) := by decide +kernel
theorem dL_law_409 : decode cL_law 409 = .ok (.iaload, 1) := by decide +kernel
theorem dL_law_410 : decode cL_law 410 = .ok (.invokevirtual 87, 3) := by decide +kernel
theorem dL_law_413 : decode cL_law 413 = .ok (.lstore 6, 2) := by decide +kernel
theorem dL_law_415 : decode cL_law 415 = .ok (.aload_n 2, 1) := by decide +kernel
theorem dL_law_416 : decode cL_law 416 = .ok (.invokevirtual 61, 3) := by decide +kernel
theorem dL_law_419 : decode cL_law 419 = .ok (.iload 5, 2) := by decide +kernel
theorem dL_law_421 : decode cL_law 421 = .ok (.if_icmp .eq 5, 3) := by decide +kernel
end
section
theorem dL_law_424 : decode cL_law 424 = .ok (.iconst 0, 1) := by decide +kernel
theorem dL_law_425 : decode cL_law 425 = .ok (.ireturn, 1) := by decide +kernel
theorem dL_law_426 : decode cL_law 426 = .ok (.iload 5, 2) := by decide +kernel
theorem dL_law_428 : decode cL_law 428 = .ok (.ifCond .ne 14, 3) := by decide +kernel
theorem dL_law_431 : decode cL_law 431 = .ok (.aload_n 3, 1) := by decide +kernel
theorem dL_law_432 : decode cL_law 432 = .ok (.iconst 0, 1) := by decide +kernel
theorem dL_law_433 : decode cL_law 433 = .ok (.laload, 1) := by decide +kernel
theorem dL_law_434 : decode cL_law 434 = .ok (.lload 6, 2) := by decide +kernel
theorem dL_law_436 : decode cL_law 436 = .ok (.lcmp, 1) := by decide +kernel
theorem dL_law_437 : decode cL_law 437 = .ok (.ifCond .eq 5, 3) := by decide +kernel
theorem dL_law_440 : decode cL_law 440 = .ok (.iconst 0, 1) := by decide +kernel
theorem dL_law_441 : decode cL_law 441 = .ok (.ireturn, 1) := by decide +kernel
theorem dL_law_442 : decode cL_law 442 = .ok (.goto 392, 3) := by decide +kernel
theorem dL_law_445 : decode cL_law 445 = .ok (.aload_n 1, 1) := by decide +kernel
theorem dL_law_446 : decode cL_law 446 = .ok (.invokevirtual 88, 3) := by decide +kernel
theorem dL_law_449 : decode cL_law 449 = .ok (.aload_n 2, 1) := by decide +kernel
theorem dL_law_450 : decode cL_law 450 = .ok (.invokevirtual 91, 3) := by decide +kernel
theorem dL_law_453 : decode cL_law 453 = .ok (.if_icmp .eq 381, 3) := by decide +kernel
theorem dL_law_456 : decode cL_law 456 = .ok (.iconst 0, 1) := by decide +kernel
theorem dL_law_457 : decode cL_law 457 = .ok (.ireturn, 1) := by decide +kernel
theorem dL_law_458 : decode cL_law 458 = .ok (.aload_n 1, 1) := by decide +kernel
theorem dL_law_459 : decode cL_law 459 = .ok (.aload_n 0, 1) := by decide +kernel
theorem dL_law_460 : decode cL_law 460 = .ok (.iload 4, 2) := by decide +kernel
theorem dL_law_462 : decode cL_law 462 = .ok (.iconst 1, 1) := by decide +kernel
theorem dL_law_463 : decode cL_law 463 = .ok (.iadd, 1) := by decide +kernel
theorem dL_law_464 : decode cL_law 464 = .ok (.iaload, 1) := by decide +kernel
theorem dL_law_465 : decode cL_law 465 = .ok (.aload_n 0, 1) := by decide +kernel
theorem dL_law_466 : decode cL_law 466 = .ok (.iload 4, 2) := by decide +kernel
theorem dL_law_468 : decode cL_law 468 = .ok (.iconst 2, 1) := by decide +kernel
theorem dL_law_469 : decode cL_law 469 = .ok (.iadd, 1) := by decide +kernel
theorem dL_law_470 : decode cL_law 470 = .ok (.iaload, 1) := by decide +kernel
theorem dL_law_471 : decode cL_law 471 = .ok (.aload_n 3, 1) := by decide +kernel
theorem dL_law_472 : decode cL_law 472 = .ok (.invokestatic 92, 3) := by decide +kernel
theorem dL_law_475 : decode cL_law 475 = .ok (.istore 5, 2) := by decide +kernel
theorem dL_law_477 : decode cL_law 477 = .ok (.aload_n 2, 1) := by decide +kernel
theorem dL_law_478 : decode cL_law 478 = .ok (.aload_n 0, 1) := by decide +kernel
theorem dL_law_479 : decode cL_law 479 = .ok (.iload 4, 2) := by decide +kernel
theorem dL_law_481 : decode cL_law 481 = .ok (.iconst 1, 1) := by decide +kernel
theorem dL_law_482 : decode cL_law 482 = .ok (.iadd, 1) := by decide +kernel
theorem dL_law_483 : decode cL_law 483 = .ok (.iaload, 1) := by decide +kernel
theorem dL_law_484 : decode cL_law 484 = .ok (.aload_n 0, 1) := by decide +kernel
theorem dL_law_485 : decode cL_law 485 = .ok (.iload 4, 2) := by decide +kernel
theorem dL_law_487 : decode cL_law 487 = .ok (.iconst 2, 1) := by decide +kernel
theorem dL_law_488 : decode cL_law 488 = .ok (.iadd, 1) := by decide +kernel
theorem dL_law_489 : decode cL_law 489 = .ok (.iaload, 1) := by decide +kernel
theorem dL_law_490 : decode cL_law 490 = .ok (.invokevirtual 94, 3) := by decide +kernel
theorem dL_law_493 : decode cL_law 493 = .ok (.istore 6, 2) := by decide +kernel
theorem dL_law_495 : decode cL_law 495 = .ok (.aload_n 2, 1) := by decide +kernel
theorem dL_law_496 : decode cL_law 496 = .ok (.invokevirtual 61, 3) := by decide +kernel
theorem dL_law_499 : decode cL_law 499 = .ok (.iload 5, 2) := by decide +kernel
theorem dL_law_501 : decode cL_law 501 = .ok (.if_icmp .eq 5, 3) := by decide +kernel
theorem dL_law_504 : decode cL_law 504 = .ok (.iconst 0, 1) := by decide +kernel
theorem dL_law_505 : decode cL_law 505 = .ok (.ireturn, 1) := by decide +kernel
theorem dL_law_506 : decode cL_law 506 = .ok (.iload 5, 2) := by decide +kernel
theorem dL_law_508 : decode cL_law 508 = .ok (.ifCond .ne 15, 3) := by decide +kernel
theorem dL_law_511 : decode cL_law 511 = .ok (.aload_n 3, 1) := by decide +kernel
theorem dL_law_512 : decode cL_law 512 = .ok (.iconst 0, 1) := by decide +kernel
theorem dL_law_513 : decode cL_law 513 = .ok (.laload, 1) := by decide +kernel
theorem dL_law_514 : decode cL_law 514 = .ok (.iload 6, 2) := by decide +kernel
theorem dL_law_516 : decode cL_law 516 = .ok (.i2l, 1) := by decide +kernel
theorem dL_law_517 : decode cL_law 517 = .ok (.lcmp, 1) := by decide +kernel
theorem dL_law_518 : decode cL_law 518 = .ok (.ifCond .eq 5, 3) := by decide +kernel
theorem dL_law_521 : decode cL_law 521 = .ok (.iconst 0, 1) := by decide +kernel
theorem dL_law_522 : decode cL_law 522 = .ok (.ireturn, 1) := by decide +kernel
theorem dL_law_523 : decode cL_law 523 = .ok (.goto 311, 3) := by decide +kernel
theorem dL_law_526 : decode cL_law 526 = .ok (.aload_n 1, 1) := by decide +kernel
theorem dL_law_527 : decode cL_law 527 = .ok (.aload_n 0, 1) := by decide +kernel
theorem dL_law_528 : decode cL_law 528 = .ok (.iload 4, 2) := by decide +kernel
theorem dL_law_530 : decode cL_law 530 = .ok (.iconst 1, 1) := by decide +kernel
theorem dL_law_531 : decode cL_law 531 = .ok (.iadd, 1) := by decide +kernel
theorem dL_law_532 : decode cL_law 532 = .ok (.iaload, 1) := by decide +kernel
theorem dL_law_533 : decode cL_law 533 = .ok (.aload_n 3, 1) := by decide +kernel
theorem dL_law_534 : decode cL_law 534 = .ok (.invokestatic 95, 3) := by decide +kernel
theorem dL_law_537 : decode cL_law 537 = .ok (.istore 5, 2) := by decide +kernel
theorem dL_law_539 : decode cL_law 539 = .ok (.aload_n 2, 1) := by decide +kernel
theorem dL_law_540 : decode cL_law 540 = .ok (.aload_n 0, 1) := by decide +kernel
theorem dL_law_541 : decode cL_law 541 = .ok (.iload 4, 2) := by decide +kernel
theorem dL_law_543 : decode cL_law 543 = .ok (.iconst 1, 1) := by decide +kernel
theorem dL_law_544 : decode cL_law 544 = .ok (.iadd, 1) := by decide +kernel
theorem dL_law_545 : decode cL_law 545 = .ok (.iaload, 1) := by decide +kernel
theorem dL_law_546 : decode cL_law 546 = .ok (.invokevirtual 97, 3) := by decide +kernel
theorem dL_law_549 : decode cL_law 549 = .ok (.lstore 6, 2) := by decide +kernel
theorem dL_law_551 : decode cL_law 551 = .ok (.aload_n 2, 1) := by decide +kernel
theorem dL_law_552 : decode cL_law 552 = .ok (.invokevirtual 61, 3) := by decide +kernel
theorem dL_law_555 : decode cL_law 555 = .ok (.iload 5, 2) := by decide +kernel
theorem dL_law_557 : decode cL_law 557 = .ok (.if_icmp .eq 5, 3) := by decide +kernel
theorem dL_law_560 : decode cL_law 560 = .ok (.iconst 0, 1) := by decide +kernel
theorem dL_law_561 : decode cL_law 561 = .ok (.ireturn, 1) := by decide +kernel
theorem dL_law_562 : decode cL_law 562 = .ok (.iload 5, 2) := by decide +kernel
theorem dL_law_564 : decode cL_law 564 = .ok (.ifCond .ne 14, 3) := by decide +kernel
theorem dL_law_567 : decode cL_law 567 = .ok (.aload_n 3, 1) := by decide +kernel
theorem dL_law_568 : decode cL_law 568 = .ok (.iconst 0, 1) := by decide +kernel
theorem dL_law_569 : decode cL_law 569 = .ok (.laload, 1) := by decide +kernel
theorem dL_law_570 : decode cL_law 570 = .ok (.lload 6, 2) := by decide +kernel
theorem dL_law_572 : decode cL_law 572 = .ok (.lcmp, 1) := by decide +kernel
theorem dL_law_573 : decode cL_law 573 = .ok (.ifCond .eq 5, 3) := by decide +kernel
theorem dL_law_576 : decode cL_law 576 = .ok (.iconst 0, 1) := by decide +kernel
theorem dL_law_577 : decode cL_law 577 = .ok (.ireturn, 1) := by decide +kernel
theorem dL_law_578 : decode cL_law 578 = .ok (.goto 256, 3) := by decide +kernel
theorem dL_law_581 : decode cL_law 581 = .ok (.aload_n 1, 1) := by decide +kernel
theorem dL_law_582 : decode cL_law 582 = .ok (.aload_n 0, 1) := by decide +kernel
theorem dL_law_583 : decode cL_law 583 = .ok (.iload 4, 2) := by decide +kernel
theorem dL_law_585 : decode cL_law 585 = .ok (.iconst 1, 1) := by decide +kernel
theorem dL_law_586 : decode cL_law 586 = .ok (.iadd, 1) := by decide +kernel
theorem dL_law_587 : decode cL_law 587 = .ok (.iaload, 1) := by decide +kernel
theorem dL_law_588 : decode cL_law 588 = .ok (.aload_n 0, 1) := by decide +kernel
theorem dL_law_589 : decode cL_law 589 = .ok (.iload 4, 2) := by decide +kernel
theorem dL_law_591 : decode cL_law 591 = .ok (.iconst 2, 1) := by decide +kernel
theorem dL_law_592 : decode cL_law 592 = .ok (.iadd, 1) := by decide +kernel
theorem dL_law_593 : decode cL_law 593 = .ok (.iaload, 1) := by decide +kernel
theorem dL_law_594 : decode cL_law 594 = .ok (.aload_n 3, 1) := by decide +kernel
theorem dL_law_595 : decode cL_law 595 = .ok (.invokestatic 98, 3) := by decide +kernel
theorem dL_law_598 : decode cL_law 598 = .ok (.istore 5, 2) := by decide +kernel
theorem dL_law_600 : decode cL_law 600 = .ok (.aload_n 2, 1) := by decide +kernel
theorem dL_law_601 : decode cL_law 601 = .ok (.aload_n 0, 1) := by decide +kernel
theorem dL_law_602 : decode cL_law 602 = .ok (.iload 4, 2) := by decide +kernel
theorem dL_law_604 : decode cL_law 604 = .ok (.iconst 1, 1) := by decide +kernel
theorem dL_law_605 : decode cL_law 605 = .ok (.iadd, 1) := by decide +kernel
theorem dL_law_606 : decode cL_law 606 = .ok (.iaload, 1) := by decide +kernel
theorem dL_law_607 : decode cL_law 607 = .ok (.aload_n 0, 1) := by decide +kernel
theorem dL_law_608 : decode cL_law 608 = .ok (.iload 4, 2) := by decide +kernel
theorem dL_law_610 : decode cL_law 610 = .ok (.iconst 2, 1) := by decide +kernel
theorem dL_law_611 : decode cL_law 611 = .ok (.iadd, 1) := by decide +kernel
theorem dL_law_612 : decode cL_law 612 = .ok (.iaload, 1) := by decide +kernel
theorem dL_law_613 : decode cL_law 613 = .ok (.invokevirtual 100, 3) := by decide +kernel
theorem dL_law_616 : decode cL_law 616 = .ok (.istore 6, 2) := by decide +kernel
theorem dL_law_618 : decode cL_law 618 = .ok (.aload_n 2, 1) := by decide +kernel
theorem dL_law_619 : decode cL_law 619 = .ok (.invokevirtual 61, 3) := by decide +kernel
theorem dL_law_622 : decode cL_law 622 = .ok (.iload 5, 2) := by decide +kernel
theorem dL_law_624 : decode cL_law 624 = .ok (.if_icmp .eq 5, 3) := by decide +kernel
theorem dL_law_627 : decode cL_law 627 = .ok (.iconst 0, 1) := by decide +kernel
theorem dL_law_628 : decode cL_law 628 = .ok (.ireturn, 1) := by decide +kernel
theorem dL_law_629 : decode cL_law 629 = .ok (.iload 5, 2) := by decide +kernel
theorem dL_law_631 : decode cL_law 631 = .ok (.ifCond .ne 15, 3) := by decide +kernel
theorem dL_law_634 : decode cL_law 634 = .ok (.aload_n 3, 1) := by decide +kernel
theorem dL_law_635 : decode cL_law 635 = .ok (.iconst 0, 1) := by decide +kernel
theorem dL_law_636 : decode cL_law 636 = .ok (.laload, 1) := by decide +kernel
theorem dL_law_637 : decode cL_law 637 = .ok (.iload 6, 2) := by decide +kernel
theorem dL_law_639 : decode cL_law 639 = .ok (.i2l, 1) := by decide +kernel
theorem dL_law_640 : decode cL_law 640 = .ok (.lcmp, 1) := by decide +kernel
theorem dL_law_641 : decode cL_law 641 = .ok (.ifCond .eq 5, 3) := by decide +kernel
theorem dL_law_644 : decode cL_law 644 = .ok (.iconst 0, 1) := by decide +kernel
theorem dL_law_645 : decode cL_law 645 = .ok (.ireturn, 1) := by decide +kernel
theorem dL_law_646 : decode cL_law 646 = .ok (.goto 188, 3) := by decide +kernel
theorem dL_law_649 : decode cL_law 649 = .ok (.aload_n 1, 1) := by decide +kernel
theorem dL_law_650 : decode cL_law 650 = .ok (.aload_n 0, 1) := by decide +kernel
theorem dL_law_651 : decode cL_law 651 = .ok (.iload 4, 2) := by decide +kernel
theorem dL_law_653 : decode cL_law 653 = .ok (.iconst 1, 1) := by decide +kernel
theorem dL_law_654 : decode cL_law 654 = .ok (.iadd, 1) := by decide +kernel
theorem dL_law_655 : decode cL_law 655 = .ok (.iaload, 1) := by decide +kernel
theorem dL_law_656 : decode cL_law 656 = .ok (.invokestatic 101, 3) := by decide +kernel
theorem dL_law_659 : decode cL_law 659 = .ok (.istore 5, 2) := by decide +kernel
theorem dL_law_661 : decode cL_law 661 = .ok (.aload_n 2, 1) := by decide +kernel
theorem dL_law_662 : decode cL_law 662 = .ok (.aload_n 0, 1) := by decide +kernel
theorem dL_law_663 : decode cL_law 663 = .ok (.iload 4, 2) := by decide +kernel
theorem dL_law_665 : decode cL_law 665 = .ok (.iconst 1, 1) := by decide +kernel
theorem dL_law_666 : decode cL_law 666 = .ok (.iadd, 1) := by decide +kernel
theorem dL_law_667 : decode cL_law 667 = .ok (.iaload, 1) := by decide +kernel
theorem dL_law_668 : decode cL_law 668 = .ok (.invokevirtual 103, 3) := by decide +kernel
theorem dL_law_671 : decode cL_law 671 = .ok (.aload_n 2, 1) := by decide +kernel
theorem dL_law_672 : decode cL_law 672 = .ok (.invokevirtual 61, 3) := by decide +kernel
theorem dL_law_675 : decode cL_law 675 = .ok (.iload 5, 2) := by decide +kernel
theorem dL_law_677 : decode cL_law 677 = .ok (.if_icmp .eq 5, 3) := by decide +kernel
theorem dL_law_680 : decode cL_law 680 = .ok (.iconst 0, 1) := by decide +kernel
theorem dL_law_681 : decode cL_law 681 = .ok (.ireturn, 1) := by decide +kernel
theorem dL_law_682 : decode cL_law 682 = .ok (.goto 152, 3) := by decide +kernel
theorem dL_law_685 : decode cL_law 685 = .ok (.aload_n 1, 1) := by decide +kernel
theorem dL_law_686 : decode cL_law 686 = .ok (.invokevirtual 104, 3) := by decide +kernel
theorem dL_law_689 : decode cL_law 689 = .ok (.aload_n 2, 1) := by decide +kernel
theorem dL_law_690 : decode cL_law 690 = .ok (.invokevirtual 108, 3) := by decide +kernel
theorem dL_law_693 : decode cL_law 693 = .ok (.lcmp, 1) := by decide +kernel
theorem dL_law_694 : decode cL_law 694 = .ok (.ifCond .eq 140, 3) := by decide +kernel
theorem dL_law_697 : decode cL_law 697 = .ok (.iconst 0, 1) := by decide +kernel
theorem dL_law_698 : decode cL_law 698 = .ok (.ireturn, 1) := by decide +kernel
theorem dL_law_699 : decode cL_law 699 = .ok (.aload_n 1, 1) := by decide +kernel
theorem dL_law_700 : decode cL_law 700 = .ok (.aload_n 0, 1) := by decide +kernel
theorem dL_law_701 : decode cL_law 701 = .ok (.iload 4, 2) := by decide +kernel
theorem dL_law_703 : decode cL_law 703 = .ok (.iconst 1, 1) := by decide +kernel
theorem dL_law_704 : decode cL_law 704 = .ok (.iadd, 1) := by decide +kernel
theorem dL_law_705 : decode cL_law 705 = .ok (.iaload, 1) := by decide +kernel
theorem dL_law_706 : decode cL_law 706 = .ok (.aload_n 0, 1) := by decide +kernel
theorem dL_law_707 : decode cL_law 707 = .ok (.iload 4, 2) := by decide +kernel
theorem dL_law_709 : decode cL_law 709 = .ok (.iconst 2, 1) := by decide +kernel
theorem dL_law_710 : decode cL_law 710 = .ok (.iadd, 1) := by decide +kernel
theorem dL_law_711 : decode cL_law 711 = .ok (.iaload, 1) := by decide +kernel
theorem dL_law_712 : decode cL_law 712 = .ok (.aload_n 3, 1) := by decide +kernel
theorem dL_law_713 : decode cL_law 713 = .ok (.invokestatic 109, 3) := by decide +kernel
theorem dL_law_716 : decode cL_law 716 = .ok (.istore 5, 2) := by decide +kernel
theorem dL_law_718 : decode cL_law 718 = .ok (.aload_n 2, 1) := by decide +kernel
theorem dL_law_719 : decode cL_law 719 = .ok (.aload_n 0, 1) := by decide +kernel
theorem dL_law_720 : decode cL_law 720 = .ok (.iload 4, 2) := by decide +kernel
theorem dL_law_722 : decode cL_law 722 = .ok (.iconst 1, 1) := by decide +kernel
theorem dL_law_723 : decode cL_law 723 = .ok (.iadd, 1) := by decide +kernel
theorem dL_law_724 : decode cL_law 724 = .ok (.iaload, 1) := by decide +kernel
theorem dL_law_725 : decode cL_law 725 = .ok (.aload_n 0, 1) := by decide +kernel
theorem dL_law_726 : decode cL_law 726 = .ok (.iload 4, 2) := by decide +kernel
theorem dL_law_728 : decode cL_law 728 = .ok (.iconst 2, 1) := by decide +kernel
theorem dL_law_729 : decode cL_law 729 = .ok (.iadd, 1) := by decide +kernel
theorem dL_law_730 : decode cL_law 730 = .ok (.iaload, 1) := by decide +kernel
theorem dL_law_731 : decode cL_law 731 = .ok (.invokevirtual 111, 3) := by decide +kernel
theorem dL_law_734 : decode cL_law 734 = .ok (.lstore 6, 2) := by decide +kernel
theorem dL_law_736 : decode cL_law 736 = .ok (.aload_n 2, 1) := by decide +kernel
theorem dL_law_737 : decode cL_law 737 = .ok (.invokevirtual 61, 3) := by decide +kernel
theorem dL_law_740 : decode cL_law 740 = .ok (.iload 5, 2) := by decide +kernel
theorem dL_law_742 : decode cL_law 742 = .ok (.if_icmp .eq 5, 3) := by decide +kernel
theorem dL_law_745 : decode cL_law 745 = .ok (.iconst 0, 1) := by decide +kernel
theorem dL_law_746 : decode cL_law 746 = .ok (.ireturn, 1) := by decide +kernel
theorem dL_law_747 : decode cL_law 747 = .ok (.iload 5, 2) := by decide +kernel
theorem dL_law_749 : decode cL_law 749 = .ok (.ifCond .ne 14, 3) := by decide +kernel
theorem dL_law_752 : decode cL_law 752 = .ok (.aload_n 3, 1) := by decide +kernel
theorem dL_law_753 : decode cL_law 753 = .ok (.iconst 0, 1) := by decide +kernel
theorem dL_law_754 : decode cL_law 754 = .ok (.laload, 1) := by decide +kernel
theorem dL_law_755 : decode cL_law 755 = .ok (.lload 6, 2) := by decide +kernel
theorem dL_law_757 : decode cL_law 757 = .ok (.lcmp, 1) := by decide +kernel
theorem dL_law_758 : decode cL_law 758 = .ok (.ifCond .eq 5, 3) := by decide +kernel
theorem dL_law_761 : decode cL_law 761 = .ok (.iconst 0, 1) := by decide +kernel
theorem dL_law_762 : decode cL_law 762 = .ok (.ireturn, 1) := by decide +kernel
theorem dL_law_763 : decode cL_law 763 = .ok (.goto 71, 3) := by decide +kernel
theorem dL_law_766 : decode cL_law 766 = .ok (.aload_n 1, 1) := by decide +kernel
theorem dL_law_767 : decode cL_law 767 = .ok (.aload_n 0, 1) := by decide +kernel
theorem dL_law_768 : decode cL_law 768 = .ok (.iload 4, 2) := by decide +kernel
theorem dL_law_770 : decode cL_law 770 = .ok (.iconst 1, 1) := by decide +kernel
theorem dL_law_771 : decode cL_law 771 = .ok (.iadd, 1) := by decide +kernel
theorem dL_law_772 : decode cL_law 772 = .ok (.iaload, 1) := by decide +kernel
theorem dL_law_773 : decode cL_law 773 = .ok (.aload_n 0, 1) := by decide +kernel
theorem dL_law_774 : decode cL_law 774 = .ok (.iload 4, 2) := by decide +kernel
theorem dL_law_776 : decode cL_law 776 = .ok (.iconst 2, 1) := by decide +kernel
theorem dL_law_777 : decode cL_law 777 = .ok (.iadd, 1) := by decide +kernel
theorem dL_law_778 : decode cL_law 778 = .ok (.iaload, 1) := by decide +kernel
theorem dL_law_779 : decode cL_law 779 = .ok (.aload_n 3, 1) := by decide +kernel
theorem dL_law_780 : decode cL_law 780 = .ok (.invokestatic 112, 3) := by decide +kernel
theorem dL_law_783 : decode cL_law 783 = .ok (.istore 5, 2) := by decide +kernel
theorem dL_law_785 : decode cL_law 785 = .ok (.aload_n 2, 1) := by decide +kernel
theorem dL_law_786 : decode cL_law 786 = .ok (.aload_n 0, 1) := by decide +kernel
theorem dL_law_787 : decode cL_law 787 = .ok (.iload 4, 2) := by decide +kernel
theorem dL_law_789 : decode cL_law 789 = .ok (.iconst 1, 1) := by decide +kernel
theorem dL_law_790 : decode cL_law 790 = .ok (.iadd, 1) := by decide +kernel
theorem dL_law_791 : decode cL_law 791 = .ok (.iaload, 1) := by decide +kernel
theorem dL_law_792 : decode cL_law 792 = .ok (.aload_n 0, 1) := by decide +kernel
theorem dL_law_793 : decode cL_law 793 = .ok (.iload 4, 2) := by decide +kernel
theorem dL_law_795 : decode cL_law 795 = .ok (.iconst 2, 1) := by decide +kernel
theorem dL_law_796 : decode cL_law 796 = .ok (.iadd, 1) := by decide +kernel
theorem dL_law_797 : decode cL_law 797 = .ok (.iaload, 1) := by decide +kernel
theorem dL_law_798 : decode cL_law 798 = .ok (.invokevirtual 114, 3) := by decide +kernel
theorem dL_law_801 : decode cL_law 801 = .ok (.istore 6, 2) := by decide +kernel
theorem dL_law_803 : decode cL_law 803 = .ok (.aload_n 2, 1) := by decide +kernel
theorem dL_law_804 : decode cL_law 804 = .ok (.invokevirtual 61, 3) := by decide +kernel
theorem dL_law_807 : decode cL_law 807 = .ok (.iload 5, 2) := by decide +kernel
theorem dL_law_809 : decode cL_law 809 = .ok (.if_icmp .eq 5, 3) := by decide +kernel
theorem dL_law_812 : decode cL_law 812 = .ok (.iconst 0, 1) := by decide +kernel
theorem dL_law_813 : decode cL_law 813 = .ok (.ireturn, 1) := by decide +kernel
theorem dL_law_814 : decode cL_law 814 = .ok (.iload 5, 2) := by decide +kernel
theorem dL_law_816 : decode cL_law 816 = .ok (.ifCond .ne 15, 3) := by decide +kernel
theorem dL_law_819 : decode cL_law 819 = .ok (.aload_n 3, 1) := by decide +kernel
theorem dL_law_820 : decode cL_law 820 = .ok (.iconst 0, 1) := by decide +kernel
theorem dL_law_821 : decode cL_law 821 = .ok (.laload, 1) := by decide +kernel
theorem dL_law_822 : decode cL_law 822 = .ok (.iload 6, 2) := by decide +kernel
theorem dL_law_824 : decode cL_law 824 = .ok (.i2l, 1) := by decide +kernel
theorem dL_law_825 : decode cL_law 825 = .ok (.lcmp, 1) := by decide +kernel
theorem dL_law_826 : decode cL_law 826 = .ok (.ifCond .eq 5, 3) := by decide +kernel
theorem dL_law_829 : decode cL_law 829 = .ok (.iconst 0, 1) := by decide +kernel
theorem dL_law_830 : decode cL_law 830 = .ok (.ireturn, 1) := by decide +kernel
theorem dL_law_831 : decode cL_law 831 = .ok (.goto 3, 3) := by decide +kernel
theorem dL_law_834 : decode cL_law 834 = .ok (.iinc 4 4, 3) := by decide +kernel
theorem dL_law_837 : decode cL_law 837 = .ok (.goto (-814), 3) := by decide +kernel
theorem dL_law_840 : decode cL_law 840 = .ok (.iconst 1, 1) := by decide +kernel
theorem dL_law_841 : decode cL_law 841 = .ok (.ireturn, 1) := by decide +kernel
abbrev vwCl : List vw_C := [(RX0, TX0, 4), (RX1, TX1, 5), (RX2, TX2, 4), (RX3, TX3, 3), (RX4, TX4, 7), (RX5, TX5, 17)]
end
section
abbrev Zi : Nat → Int32 := fun _ => 0
abbrev Zl : Nat → Int64 := fun _ => 0
/-- a contract's start: the cells, the classes, the two array classes -/
abbrev pPre (dC : Nat → ClassId) (dI : Nat → Nat → Nat) (cI cJ : ClassId) (sz : Nat) (ws : va_W) : State → Prop := fun U => U.heap.size = sz ∧ va_P (dC, dI) vwCl ws U.heap ∧ va_K (dC, dI) vwCl [(cI, .int), (cJ, .long)] U ∧ va_D (fun _ => True) ws
/-- .. and its end -/
abbrev pPost (dC : Nat → ClassId) (dI : Nat → Nat → Nat) (A : Nat → Prop) (ws' : va_W) : Unit → State → Prop := fun _ t => va_P (dC, dI) vwCl ws' t.heap ∧ va_D A ws'
theorem vp_c {i : Int32} {n : Nat} (h : ¬ (i < 0 ∨ n ≤ i.toNatClampNeg)) : vp_in i n := h
section BASE
variable {p : Program} {l : Launch} {e : Env} {R : Room} {s : State} {m : MethodId} {args : Array Value} {below : List Frame} {meth : Method} {c : Code} {H : Heap} {locs : List Loc} {cells slots : Nat} {Q : State → Prop}
variable {cc : ByteArray} {pc : Nat} {ls : Array Slot} {rest : List Value} {D : va_G} {cl : List vw_C} {A : Nat → Prop} {ws : va_W} {H0 : Heap} {cI cJ : ClassId}
theorem lc_i {x v : Int32} (h : x = v) (k : W p l e R s m args below meth c H locs cells slots Q (F0 m pc ls (.int v :: rest))) : W p l e R s m args below meth c H locs cells slots Q (F0 m pc ls (.int x :: rest)) := by subst h; exact k
theorem lc_l {x v : Int64} (h : x = v) (k : W p l e R s m args below meth c H locs cells slots Q (F0 m pc ls (.long v :: rest))) : W p l e R s m args below meth c H locs cells slots Q (F0 m pc ls (.long x :: rest)) := by subst h; exact k
/-- a new row of ints; its class is the one that is known -/
theorem vn_I {N' : Nat} {n : Int32} (hx : p.tables.exec = Jvm.exec) (hb : c.code = cc) (harr : (Cond.arrayClass .int).before args s = true) (hK : va_K D cl [(cI, .int), (cJ, .long)] s) (hP : va_P D cl ws H) (hD : va_D A ws) (hS : va_S A H0 H locs) (hA : ∀ q, H0.size ≤ q → A q)
    (hn : ¬ n < 0) (hN : n.toNatClampNeg = N') (hby : N' * componentBytes .int ≤ 536870912) (hc : cells + 1 ≤ R.cells) (hs : slots + N' ≤ R.slots) (hdg : decode cc pc = .ok (.newarray .int, 2))
    (kk : ∀ (q : Nat) (H1 : Heap), va_P D cl (ws ++ [(q, .inl (cI, N', .inl Zi))]) H1 → va_D A (ws ++ [(q, .inl (cI, N', .inl Zi))]) → va_S A H0 H1 locs → W p l e R s m args below meth c H1 locs (cells + 1) (slots + N') Q (F0 m (pc + 2) ls (.ref q :: rest))) : W p l e R s m args below meth c H locs cells slots Q (F0 m pc ls (.int n :: rest)) := by
  refine va_newa (atype := .int) hx hb (show (Cond.arrayClass (newarray.typeOf .int)).before args s = true from harr) (ty := .int) rfl hK hP hD hS hA (a0 := (N', .inl Zi)) (fun cA => by rw [vp_cell_i]; rfl) hn hN hby hc hs hdg (fun q cA H1 hK1 hP1 hD1 hS1 => ?_)
  have h1 : s.vm.findClass ("[" ++ FieldType.int.toString) = some cI := (hK1.2 0 _ rfl).2
  have h2 : s.vm.findClass ("[" ++ FieldType.int.toString) = some cA := (hK1.2 2 _ rfl).2
  cases Option.some.inj (h1.symm.trans h2)
  exact kk q H1 hP1 hD1 hS1
/-- a new row of longs -/
theorem vn_J {N' : Nat} {n : Int32} (hx : p.tables.exec = Jvm.exec) (hb : c.code = cc) (harr : (Cond.arrayClass .long).before args s = true) (hK : va_K D cl [(cI, .int), (cJ, .long)] s) (hP : va_P D cl ws H) (hD : va_D A ws) (hS : va_S A H0 H locs) (hA : ∀ q, H0.size ≤ q → A q)
    (hn : ¬ n < 0) (hN : n.toNatClampNeg = N') (hby : N' * componentBytes .long ≤ 536870912) (hc : cells + 1 ≤ R.cells) (hs : slots + N' ≤ R.slots) (hdg : decode cc pc = .ok (.newarray .long, 2))
    (kk : ∀ (q : Nat) (H1 : Heap), va_P D cl (ws ++ [(q, .inl (cJ, N', .inr (.inl Zl)))]) H1 → va_D A (ws ++ [(q, .inl (cJ, N', .inr (.inl Zl)))]) → va_S A H0 H1 locs → W p l e R s m args below meth c H1 locs (cells + 1) (slots + N') Q (F0 m (pc + 2) ls (.ref q :: rest))) : W p l e R s m args below meth c H locs cells slots Q (F0 m pc ls (.int n :: rest)) := by
  refine va_newa (atype := .long) hx hb (show (Cond.arrayClass (newarray.typeOf .long)).before args s = true from harr) (ty := .long) rfl hK hP hD hS hA (a0 := (N', .inr (.inl Zl))) (fun cA => by rw [vp_cell_l]; rfl) hn hN hby hc hs hdg (fun q cA H1 hK1 hP1 hD1 hS1 => ?_)
  have h1 : s.vm.findClass ("[" ++ FieldType.long.toString) = some cJ := (hK1.2 1 _ rfl).2
  have h2 : s.vm.findClass ("[" ++ FieldType.long.toString) = some cA := (hK1.2 2 _ rfl).2
  cases Option.some.inj (h1.symm.trans h2)
  exact kk q H1 hP1 hD1 hS1
/-- a loop that counts i up to N; x is what it changes beside -/
theorem lq_loop {α : Type} {nL : Nat} (wsf : α → va_W) (lvf : Nat → α → List (Nat × Value)) (Inv : Nat → α → Prop) (N : Nat) (x0 : α) (i0 : Nat) (h0 : Inv i0 x0) (hi : i0 ≤ N)
    (hP : va_P D cl (wsf x0) H) (hD : va_D A (wsf x0)) (hS : va_S A H0 H locs) (hl : lv_has ls nL (lvf i0 x0))
    (hexit : ∀ (x : α) (H : Heap) (locs : List Loc) (ls : Array Slot), Inv N x → va_P D cl (wsf x) H → va_D A (wsf x) → va_S A H0 H locs → lv_has ls nL (lvf N x) → W p l e R s m args below meth c H locs cells slots Q (F0 m pc ls []))
    (hstep : ∀ (i : Nat) (x : α) (H : Heap) (locs : List Loc) (ls : Array Slot), i < N → Inv i x → va_P D cl (wsf x) H → va_D A (wsf x) → va_S A H0 H locs → lv_has ls nL (lvf i x) →
      (∀ (x' : α) (H' : Heap) (locs' : List Loc) (ls' : Array Slot), Inv (i + 1) x' → va_P D cl (wsf x') H' → va_D A (wsf x') → va_S A H0 H' locs' → lv_has ls' nL (lvf (i + 1) x') → W p l e R s m args below meth c H' locs' cells slots Q (F0 m pc ls' [])) →
      W p l e R s m args below meth c H locs cells slots Q (F0 m pc ls [])) :
    W p l e R s m args below meth c H locs cells slots Q (F0 m pc ls []) := by
  have key : ∀ (n i : Nat), i + n = N → ∀ (x : α) (H : Heap) (locs : List Loc) (ls : Array Slot), Inv i x → va_P D cl (wsf x) H → va_D A (wsf x) → va_S A H0 H locs → lv_has ls nL (lvf i x) → W p l e R s m args below meth c H locs cells slots Q (F0 m pc ls []) := by
    intro n
    induction n with
    | zero =>
      intro i hn x H locs ls hI hP hD hS hl
      have hn : i = N := by omega
      subst hn
      exact hexit x H locs ls hI hP hD hS hl
    | succ n ih =>
      intro i hn x H locs ls hI hP hD hS hl
      exact hstep i x H locs ls (by omega) hI hP hD hS hl (fun x' H' locs' ls' => ih (i + 1) (by omega) x' H' locs' ls')
  exact key (N - i0) i0 (by omega) x0 H locs ls h0 hP hD hS hl
end BASE
/-- rows that agree below their length are one -/
theorem ar_eq {D : va_G} {cl : List vw_C} {H : Heap} {a n : Nat} {cA : ClassId} {f g : Nat → Int32} (h : ∀ j, j < n → f j = g j) : va_at D cl (a, .inl (cA, n, .inl f)) H → va_at D cl (a, .inl (cA, n, .inl g)) H := by
  intro hq
  show H[a]? = some (vp_cell cA (n, .inl g))
  have e : vp_cell cA (n, .inl f) = vp_cell cA (n, .inl g) := by
    rw [vp_cell_i, vp_cell_i]
    unfold arrV
    have e2 : (fun j : Fin n => Value.int (f j.val)) = fun j : Fin n => Value.int (g j.val) := funext fun j => by rw [h j.val j.isLt]
    rw [e2]
  rw [← e]
  exact hq
theorem fl_inv {f : Nat → Int32} {v : Int32} {i : Nat} (hI : ∀ j, j < i → f j = v) : ∀ j, j < i + 1 → upd f i v j = v := fun j hj => by
  by_cases h : j = i
  · subst h
    exact pk_us
  · rw [pk_un h]
    exact hI j (by omega)
end
section
set_option maxHeartbeats 4000000 in
set_option maxRecDepth 100000 in
theorem c_J7_fill_53178 (l : Launch) (dC : Nat → ClassId) (dI : Nat → Nat → Nat) (cI cJ : ClassId) (a : Nat) (sz : Nat) (n : Nat) (f : Nat → Int32) (v : Int32) (hn : n < 2 ^ 31) : Met l yJ7_fill_53178 wsJ7_fill_53178 ({ frames := 0, cells := 0, slots := 0, locals := 0 }) (va_Pc [.ref a, .int v] (pPre dC dI cI cJ sz [(a, .inl (cI, n, .inl f))])) (va_Qv (fun _ : Unit => True) (pPost dC dI (va_A [(a, .inl (cI, n, .inl f))] sz) [(a, .inl (cI, n, .inl ((fun _ => v))))]) (va_A [(a, .inl (cI, n, .inl f))] sz)) 0 0 (va_A [(a, .inl (cI, n, .inl f))] sz) := by
  refine Met.ofW (cc := cJ7_fill_53178) (maxL := 4) (ret := none) (by decide) rfl ?_
  intro p e s m args below meth c s₁ B hml hv
  obtain ⟨rfl, hsz, hP, hK, hD0⟩ := hv
  have hx := B.exec
  have hb := B.bytes
  have hr := B.returns
  have hts := atoms_spec (ws := wsJ7_fill_53178) B.pre
  have hown : s.vm.findClass RJ7 = some m.cls := findClass_of_methodNamed B.named
  have hlocks := B.notSynchronized
  subst hsz
  have hD := hD0.self (sz := s.heap.size)
  generalize hAe : va_A [(a, .inl (cI, n, .inl f))] s.heap.size = A at hD ⊢
  have hA : ∀ q : Nat, s.heap.size ≤ q → A q := fun q h => by rw [← hAe]; exact Or.inr h
  have hS : va_S A s.heap s.heap [] := va_S.rf
  have hP : va_P (dC, dI) vwCl [(a, .inl (cI, n, .inl f))] s.heap := hP
  have hl := lv_entry ([.ref a, .int v]) (n := 4) (Nat.le_of_ble_eq_true rfl)
  rw [lg_entry_eq]
  generalize (lg_sl ([.ref a, .int v]) ++ List.replicate (4 - (lg_sl ([.ref a, .int v])).length) Slot.unset).toArray = ls at hl ⊢
  have hl : lv_has ls 4 [(0, .ref a), (1, .int v)] := hl
  refine lv_iconst (v := 0) hx hb dJ7_fill_53178_0 (by decide) ?_
  refine lv_istore_n (lv' := [(2, .int 0), (0, .ref a), (1, .int v)]) hx hb dJ7_fill_53178_1 rfl hl (by decide) rfl (fun ls hl => ?_)
  refine lv_aload_n hx hb dJ7_fill_53178_2 rfl (lv_at hl 1 rfl) ?_
  refine va_alen hx hb hK hP 0 0 rfl rfl (v := nI n) rfl dJ7_fill_53178_3 ?_
  refine lv_istore_n (lv' := [(3, .int (nI n)), (2, .int 0), (0, .ref a), (1, .int v)]) hx hb dJ7_fill_53178_4 rfl hl (by decide) rfl (fun ls hl => ?_)
  refine lq_loop (α := Nat → Int32) (nL := 4) (fun f9 => [(a, .inl (cI, n, .inl f9))]) (fun i f9 => [(3, .int (nI n)), (2, .int (nI i)), (0, .ref a), (1, .int v)]) (fun i f9 => ∀ j, j < i → f9 j = v) n f 0 (fun j hj => absurd hj (Nat.not_lt_zero j)) (Nat.zero_le _) hP hD hS (lv_sub hl [0, 1, 2, 3] rfl) (fun f9 H locs ls hI hP hD hS hl => ?_) (fun i f9 H locs ls hlt hI hP hD hS hl ih => ?_)
  · skip
    have hP : va_P (dC, dI) vwCl [(a, .inl (cI, n, .inl f9))] H := hP
    have hD : va_D A [(a, .inl (cI, n, .inl f9))] := hD
    have hl : lv_has ls 4 [(3, .int (nI n)), (2, .int (nI n)), (0, .ref a), (1, .int v)] := hl
    have hI : ∀ j, j < n → f9 j = v := hI
    refine lv_iload_n hx hb dJ7_fill_53178_5 rfl (lv_at hl 1 rfl) ?_
    refine lv_iload_n hx hb dJ7_fill_53178_6 rfl (lv_at hl 0 rfl) ?_
    refine lv_icmp_ge (tgt := 20) hx hb dJ7_fill_53178_7 (by decide) (fun c_1 => ?_) (fun c_1 => ?_)
    rotate_left
    · exact absurd (nI_le (a := n) (b := n) (Nat.le_refl _) hn) c_1
    have hP9 : va_P (dC, dI) vwCl [(a, .inl (cI, n, .inl (fun _ => v)))] H := fun k q hq => by
      match k, hq with
      | 0, hq => cases hq; exact ar_eq hI (hP 0 _ rfl)
      | k + 1, hq => simp at hq
    have hD9 : va_D A [(a, .inl (cI, n, .inl (fun _ => v)))] := hD.set (p := 0) rfl
    exact W.vret hx hb hr (fun t ht hW => ⟨⟨(), rfl, trivial, by rw [ht]; exact hP9, hD9⟩, hS.F ht⟩) hS.2.2 dJ7_fill_53178_20
  · skip
    have hP : va_P (dC, dI) vwCl [(a, .inl (cI, n, .inl f9))] H := hP
    have hD : va_D A [(a, .inl (cI, n, .inl f9))] := hD
    have hl : lv_has ls 4 [(3, .int (nI n)), (2, .int (nI i)), (0, .ref a), (1, .int v)] := hl
    have hI : ∀ j, j < i → f9 j = v := hI
    refine lv_iload_n hx hb dJ7_fill_53178_5 rfl (lv_at hl 1 rfl) ?_
    refine lv_iload_n hx hb dJ7_fill_53178_6 rfl (lv_at hl 0 rfl) ?_
    refine lv_icmp_ge (tgt := 20) hx hb dJ7_fill_53178_7 (by decide) (fun c_2 => ?_) (fun c_2 => ?_)
    · exact absurd c_2 (nI_ge (b := n) hlt hn)
    refine lv_aload_n hx hb dJ7_fill_53178_10 rfl (lv_at hl 2 rfl) ?_
    refine lv_iload_n hx hb dJ7_fill_53178_11 rfl (lv_at hl 1 rfl) ?_
    refine lv_iload_n hx hb dJ7_fill_53178_12 rfl (lv_at hl 3 rfl) ?_
    refine va_iast hx hb hK hP hD hS 0 0 rfl rfl (vp_in_nI (show i < n from by omega) (by omega)) dJ7_fill_53178_13 (fun H locs hP hD hS => ?_)
    rw [nI_clamp (show i < 2 ^ 31 from by omega)] at hP hD
    have hP : va_P (dC, dI) vwCl [(a, .inl (cI, n, .inl (upd f9 i v)))] H := hP
    have hD : va_D A [(a, .inl (cI, n, .inl (upd f9 i v)))] := hD
    refine lv_iinc (v := nI (i + 1)) (lv' := [(2, .int (nI (i + 1))), (3, .int (nI n)), (0, .ref a), (1, .int v)]) hx hb dJ7_fill_53178_14 hl (k := 1) rfl (nI_1 _) (by decide) rfl (fun ls hl => ?_)
    refine lv_goto (tgt := 5) hx hb dJ7_fill_53178_17 (by decide) ?_
    exact ih (upd f9 i v) H locs ls (fl_inv hI) hP hD hS (lv_sub hl [1, 0, 2, 3] rfl)
end
section
set_option maxHeartbeats 4000000 in
set_option maxRecDepth 100000 in
theorem c_X0_init (l : Launch) (dC : Nat → ClassId) (dI : Nat → Nat → Nat) (cI cJ : ClassId) (h : Nat) (sz : Nat) : Met l yX0_init wsX0_init ({ frames := 1, cells := 2, slots := 1640, locals := 12 }) (va_Pc [.ref h] (pPre dC dI cI cJ sz [(h, .inr (0, [.null, .null, .int 0, .int 0]))])) (va_Qv (fun _ : Nat → Nat => True) (fun u t => va_P (dC, dI) vwCl [(h, .inr (0, [.ref (u 0), .ref (u 1), .int 1, .int 0])), ((u 0), .inl (cI, 1600, .inl Zi)), ((u 1), .inl (cI, 40, .inl Zi))] t.heap ∧ va_D (va_A [(h, .inr (0, [.null, .null, .int 0, .int 0]))] sz) [(h, .inr (0, [.ref (u 0), .ref (u 1), .int 1, .int 0])), ((u 0), .inl (cI, 1600, .inl Zi)), ((u 1), .inl (cI, 40, .inl Zi))]) (va_A [(h, .inr (0, [.null, .null, .int 0, .int 0]))] sz)) 2 1640 (va_A [(h, .inr (0, [.null, .null, .int 0, .int 0]))] sz) := by
  refine Met.ofW (cc := cX0_init) (maxL := 1) (ret := none) (by decide) rfl ?_
  intro p e s m args below meth c s₁ B hml hv
  obtain ⟨rfl, hsz, hP, hK, hD0⟩ := hv
  have hx := B.exec
  have hb := B.bytes
  have hr := B.returns
  have hts := atoms_spec (ws := wsX0_init) B.pre
  have hown : s.vm.findClass RX0 = some m.cls := findClass_of_methodNamed B.named
  have hlocks := B.notSynchronized
  have hin : meth.name = "<init>" := (name_of_methodNamed B.named B.method).1
  subst hsz
  have hD := hD0.self (sz := s.heap.size)
  generalize hAe : va_A [(h, .inr (0, [.null, .null, .int 0, .int 0]))] s.heap.size = A at hD ⊢
  have hA : ∀ q : Nat, s.heap.size ≤ q → A q := fun q h => by rw [← hAe]; exact Or.inr h
  have hS : va_S A s.heap s.heap [] := va_S.rf
  have hP : va_P (dC, dI) vwCl [(h, .inr (0, [.null, .null, .int 0, .int 0]))] s.heap := hP
  have hl := lv_entry ([.ref h]) (n := 1) (Nat.le_of_ble_eq_true rfl)
  rw [lg_entry_eq]
  generalize (lg_sl ([.ref h]) ++ List.replicate (1 - (lg_sl ([.ref h])).length) Slot.unset).toArray = ls at hl ⊢
  have hl : lv_has ls 1 [(0, .ref h)] := hl
  have i_0 : ∀ w ∈ wsX00, w ∈ wsX0_init := by decide +kernel
  have k_0 := hts (.methodLink RX0 3 objectInit) (by decide +kernel)
  have k_1 := hts (.instanceMethod objectInit) (by decide +kernel)
  have k_2 := hts (.code objectInit ⟨#[0xb1]⟩ 1 none) (by decide +kernel)
  have k_3 := hts (.arrayClass .int) (by decide +kernel)
  have k_4 := hts (.fieldLink RX0 9 "CommunityLevels$Graph" "weight" "[I") (by decide +kernel)
  have k_5 := hts (.fieldLink RX0 15 "CommunityLevels$Graph" "degree" "[I") (by decide +kernel)
  have k_6 := hts (.fieldLink RX0 18 "CommunityLevels$Graph" "size" "I") (by decide +kernel)
  have k_7 := hts (.fieldLink RX0 22 "CommunityLevels$Graph" "total" "I") (by decide +kernel)
  refine lv_aload_n hx hb dX0_init_0 rfl (lv_at hl 0 rfl) ?_
  refine W.objInit hx hb hown k_0 k_1 k_2 rfl (by rw [hml]; exact hl.1) rfl dX0_init_1 (Nat.le_of_ble_eq_true rfl) (Nat.le_of_ble_eq_true rfl) ?_
  refine W.eq (g2 := F0 m 4 ls []) rfl ?_
  refine lv_aload_n hx hb dX0_init_4 rfl (lv_at hl 0 rfl) ?_
  refine lv_sipush (v := 1600) hx hb dX0_init_5 (by decide) ?_
  refine vn_I (N' := 1600) hx hb k_3 hK hP hD hS hA (by decide) (by decide) (by decide) (Nat.le_of_ble_eq_true rfl) (Nat.le_of_ble_eq_true rfl) dX0_init_8 (fun q_1 H hP hD hS => ?_)
  refine W.widen (k := 1) (n := 1600) (by decide) (by decide) ?_
  have hP : va_P (dC, dI) vwCl [(h, .inr (0, [.null, .null, .int 0, .int 0])), (q_1, .inl (cI, 1600, .inl Zi))] H := hP
  have hD : va_D A [(h, .inr (0, [.null, .null, .int 0, .int 0])), (q_1, .inl (cI, 1600, .inl Zi))] := hD
  refine va_putF (D := (dC, dI)) (ci := 0) (v := .ref q_1) (ty := .array .int) (C := RX0) (T := TX0) (N := 4) hx hb hts i_0 tyX0 tyX0_ok nmX0 hown hK hP hD hS 0 rfl rfl 0 (by decide) k_4 (fun _ h9 => h9) rfl hin rfl (by decide +kernel) rfl rfl (Nat.le_of_ble_eq_true rfl) dX0_init_10 (fun H locs hP hD hS => ?_)
  have hP : va_P (dC, dI) vwCl [(h, .inr (0, [.ref q_1, .null, .int 0, .int 0])), (q_1, .inl (cI, 1600, .inl Zi))] H := hP
  have hD : va_D A [(h, .inr (0, [.ref q_1, .null, .int 0, .int 0])), (q_1, .inl (cI, 1600, .inl Zi))] := hD
  refine lv_aload_n hx hb dX0_init_13 rfl (lv_at hl 0 rfl) ?_
  refine lv_bipush (v := 40) hx hb dX0_init_14 (by decide) ?_
  refine vn_I (N' := 40) hx hb k_3 hK hP hD hS hA (by decide) (by decide) (by decide) (Nat.le_of_ble_eq_true rfl) (Nat.le_of_ble_eq_true rfl) dX0_init_16 (fun q_2 H hP hD hS => ?_)
  refine W.widen (k := 2) (n := 1640) (by decide) (by decide) ?_
  have hP : va_P (dC, dI) vwCl [(h, .inr (0, [.ref q_1, .null, .int 0, .int 0])), (q_1, .inl (cI, 1600, .inl Zi)), (q_2, .inl (cI, 40, .inl Zi))] H := hP
  have hD : va_D A [(h, .inr (0, [.ref q_1, .null, .int 0, .int 0])), (q_1, .inl (cI, 1600, .inl Zi)), (q_2, .inl (cI, 40, .inl Zi))] := hD
  refine va_putF (D := (dC, dI)) (ci := 0) (v := .ref q_2) (ty := .array .int) (C := RX0) (T := TX0) (N := 4) hx hb hts i_0 tyX0 tyX0_ok nmX0 hown hK hP hD hS 0 rfl rfl 1 (by decide) k_5 (fun _ h9 => h9) rfl hin rfl (by decide +kernel) rfl rfl (Nat.le_of_ble_eq_true rfl) dX0_init_18 (fun H locs hP hD hS => ?_)
  have hP : va_P (dC, dI) vwCl [(h, .inr (0, [.ref q_1, .ref q_2, .int 0, .int 0])), (q_1, .inl (cI, 1600, .inl Zi)), (q_2, .inl (cI, 40, .inl Zi))] H := hP
  have hD : va_D A [(h, .inr (0, [.ref q_1, .ref q_2, .int 0, .int 0])), (q_1, .inl (cI, 1600, .inl Zi)), (q_2, .inl (cI, 40, .inl Zi))] := hD
  refine lv_aload_n hx hb dX0_init_21 rfl (lv_at hl 0 rfl) ?_
  refine lv_iconst (v := 1) hx hb dX0_init_22 (by decide) ?_
  refine va_put (D := (dC, dI)) (ci := 0) (v := .int 1) (ty := .int) (C := RX0) (T := TX0) (N := 4) hx hb hts i_0 tyX0 tyX0_ok nmX0 hown hK hP hD hS 0 rfl rfl 2 (by decide) k_6 (fun _ h9 => h9) rfl (by decide +kernel) rfl rfl (Nat.le_of_ble_eq_true rfl) dX0_init_23 (fun H locs hP hD hS => ?_)
  have hP : va_P (dC, dI) vwCl [(h, .inr (0, [.ref q_1, .ref q_2, .int 1, .int 0])), (q_1, .inl (cI, 1600, .inl Zi)), (q_2, .inl (cI, 40, .inl Zi))] H := hP
  have hD : va_D A [(h, .inr (0, [.ref q_1, .ref q_2, .int 1, .int 0])), (q_1, .inl (cI, 1600, .inl Zi)), (q_2, .inl (cI, 40, .inl Zi))] := hD
  refine lv_aload_n hx hb dX0_init_26 rfl (lv_at hl 0 rfl) ?_
  refine lv_iconst (v := 0) hx hb dX0_init_27 (by decide) ?_
  refine va_put (D := (dC, dI)) (ci := 0) (v := .int 0) (ty := .int) (C := RX0) (T := TX0) (N := 4) hx hb hts i_0 tyX0 tyX0_ok nmX0 hown hK hP hD hS 0 rfl rfl 3 (by decide) k_7 (fun _ h9 => h9) rfl (by decide +kernel) rfl rfl (Nat.le_of_ble_eq_true rfl) dX0_init_28 (fun H locs hP hD hS => ?_)
  have hP : va_P (dC, dI) vwCl [(h, .inr (0, [.ref q_1, .ref q_2, .int 1, .int 0])), (q_1, .inl (cI, 1600, .inl Zi)), (q_2, .inl (cI, 40, .inl Zi))] H := hP
  have hD : va_D A [(h, .inr (0, [.ref q_1, .ref q_2, .int 1, .int 0])), (q_1, .inl (cI, 1600, .inl Zi)), (q_2, .inl (cI, 40, .inl Zi))] := hD
  have hP9 := hP.sub (ws' := [(h, .inr (0, [.ref q_1, .ref q_2, .int 1, .int 0])), (q_1, .inl (cI, 1600, .inl Zi)), (q_2, .inl (cI, 40, .inl Zi))]) [0, 1, 2] rfl
  have hD9 := hD.sub (ws' := [(h, .inr (0, [.ref q_1, .ref q_2, .int 1, .int 0])), (q_1, .inl (cI, 1600, .inl Zi)), (q_2, .inl (cI, 40, .inl Zi))]) [0, 1, 2] (by decide) rfl
  exact W.vret hx hb hr (fun t ht hW => ⟨⟨(fun j => ([q_1, q_2] : List Nat).getD j 0), rfl, trivial, by rw [ht]; exact hP9, hD9⟩, hS.F ht⟩) hS.2.2 dX0_init_31
set_option maxHeartbeats 4000000 in
set_option maxRecDepth 100000 in
theorem c_X1_init (l : Launch) (dC : Nat → ClassId) (dI : Nat → Nat → Nat) (cI cJ : ClassId) (h : Nat) (sz : Nat) : Met l yX1_init wsX1_init ({ frames := 1, cells := 5, slots := 200, locals := 12 }) (va_Pc [.ref h] (pPre dC dI cI cJ sz [(h, .inr (1, [.null, .null, .null, .null, .null]))])) (va_Qv (fun _ : Nat → Nat => True) (fun u t => va_P (dC, dI) vwCl [(h, .inr (1, [.ref (u 0), .ref (u 1), .ref (u 2), .ref (u 3), .ref (u 4)])), ((u 0), .inl (cI, 40, .inl Zi)), ((u 1), .inl (cI, 40, .inl Zi)), ((u 2), .inl (cI, 40, .inl Zi)), ((u 3), .inl (cI, 40, .inl Zi)), ((u 4), .inl (cI, 40, .inl Zi))] t.heap ∧ va_D (va_A [(h, .inr (1, [.null, .null, .null, .null, .null]))] sz) [(h, .inr (1, [.ref (u 0), .ref (u 1), .ref (u 2), .ref (u 3), .ref (u 4)])), ((u 0), .inl (cI, 40, .inl Zi)), ((u 1), .inl (cI, 40, .inl Zi)), ((u 2), .inl (cI, 40, .inl Zi)), ((u 3), .inl (cI, 40, .inl Zi)), ((u 4), .inl (cI, 40, .inl Zi))]) (va_A [(h, .inr (1, [.null, .null, .null, .null, .null]))] sz)) 5 200 (va_A [(h, .inr (1, [.null, .null, .null, .null, .null]))] sz) := by
  refine Met.ofW (cc := cX1_init) (maxL := 1) (ret := none) (by decide) rfl ?_
  intro p e s m args below meth c s₁ B hml hv
  obtain ⟨rfl, hsz, hP, hK, hD0⟩ := hv
  have hx := B.exec
  have hb := B.bytes
  have hr := B.returns
  have hts := atoms_spec (ws := wsX1_init) B.pre
  have hown : s.vm.findClass RX1 = some m.cls := findClass_of_methodNamed B.named
  have hlocks := B.notSynchronized
  have hin : meth.name = "<init>" := (name_of_methodNamed B.named B.method).1
  subst hsz
  have hD := hD0.self (sz := s.heap.size)
  generalize hAe : va_A [(h, .inr (1, [.null, .null, .null, .null, .null]))] s.heap.size = A at hD ⊢
  have hA : ∀ q : Nat, s.heap.size ≤ q → A q := fun q h => by rw [← hAe]; exact Or.inr h
  have hS : va_S A s.heap s.heap [] := va_S.rf
  have hP : va_P (dC, dI) vwCl [(h, .inr (1, [.null, .null, .null, .null, .null]))] s.heap := hP
  have hl := lv_entry ([.ref h]) (n := 1) (Nat.le_of_ble_eq_true rfl)
  rw [lg_entry_eq]
  generalize (lg_sl ([.ref h]) ++ List.replicate (1 - (lg_sl ([.ref h])).length) Slot.unset).toArray = ls at hl ⊢
  have hl : lv_has ls 1 [(0, .ref h)] := hl
  have i_1 : ∀ w ∈ wsX10, w ∈ wsX1_init := by decide +kernel
  have k_0 := hts (.methodLink RX1 3 objectInit) (by decide +kernel)
  have k_1 := hts (.instanceMethod objectInit) (by decide +kernel)
  have k_2 := hts (.code objectInit ⟨#[0xb1]⟩ 1 none) (by decide +kernel)
  have k_3 := hts (.arrayClass .int) (by decide +kernel)
  have k_4 := hts (.fieldLink RX1 9 "CommunityLevels$Groups" "home" "[I") (by decide +kernel)
  have k_5 := hts (.fieldLink RX1 15 "CommunityLevels$Groups" "count" "[I") (by decide +kernel)
  have k_6 := hts (.fieldLink RX1 18 "CommunityLevels$Groups" "degree" "[I") (by decide +kernel)
  have k_7 := hts (.fieldLink RX1 21 "CommunityLevels$Groups" "link" "[I") (by decide +kernel)
  have k_8 := hts (.fieldLink RX1 24 "CommunityLevels$Groups" "number" "[I") (by decide +kernel)
  refine lv_aload_n hx hb dX1_init_0 rfl (lv_at hl 0 rfl) ?_
  refine W.objInit hx hb hown k_0 k_1 k_2 rfl (by rw [hml]; exact hl.1) rfl dX1_init_1 (Nat.le_of_ble_eq_true rfl) (Nat.le_of_ble_eq_true rfl) ?_
  refine W.eq (g2 := F0 m 4 ls []) rfl ?_
  refine lv_aload_n hx hb dX1_init_4 rfl (lv_at hl 0 rfl) ?_
  refine lv_bipush (v := 40) hx hb dX1_init_5 (by decide) ?_
  refine vn_I (N' := 40) hx hb k_3 hK hP hD hS hA (by decide) (by decide) (by decide) (Nat.le_of_ble_eq_true rfl) (Nat.le_of_ble_eq_true rfl) dX1_init_7 (fun q_1 H hP hD hS => ?_)
  refine W.widen (k := 1) (n := 40) (by decide) (by decide) ?_
  have hP : va_P (dC, dI) vwCl [(h, .inr (1, [.null, .null, .null, .null, .null])), (q_1, .inl (cI, 40, .inl Zi))] H := hP
  have hD : va_D A [(h, .inr (1, [.null, .null, .null, .null, .null])), (q_1, .inl (cI, 40, .inl Zi))] := hD
  refine va_putF (D := (dC, dI)) (ci := 1) (v := .ref q_1) (ty := .array .int) (C := RX1) (T := TX1) (N := 5) hx hb hts i_1 tyX1 tyX1_ok nmX1 hown hK hP hD hS 0 rfl rfl 0 (by decide) k_4 (fun _ h9 => h9) rfl hin rfl (by decide +kernel) rfl rfl (Nat.le_of_ble_eq_true rfl) dX1_init_9 (fun H locs hP hD hS => ?_)
  have hP : va_P (dC, dI) vwCl [(h, .inr (1, [.ref q_1, .null, .null, .null, .null])), (q_1, .inl (cI, 40, .inl Zi))] H := hP
  have hD : va_D A [(h, .inr (1, [.ref q_1, .null, .null, .null, .null])), (q_1, .inl (cI, 40, .inl Zi))] := hD
  refine lv_aload_n hx hb dX1_init_12 rfl (lv_at hl 0 rfl) ?_
  refine lv_bipush (v := 40) hx hb dX1_init_13 (by decide) ?_
  refine vn_I (N' := 40) hx hb k_3 hK hP hD hS hA (by decide) (by decide) (by decide) (Nat.le_of_ble_eq_true rfl) (Nat.le_of_ble_eq_true rfl) dX1_init_15 (fun q_2 H hP hD hS => ?_)
  refine W.widen (k := 2) (n := 80) (by decide) (by decide) ?_
  have hP : va_P (dC, dI) vwCl [(h, .inr (1, [.ref q_1, .null, .null, .null, .null])), (q_1, .inl (cI, 40, .inl Zi)), (q_2, .inl (cI, 40, .inl Zi))] H := hP
  have hD : va_D A [(h, .inr (1, [.ref q_1, .null, .null, .null, .null])), (q_1, .inl (cI, 40, .inl Zi)), (q_2, .inl (cI, 40, .inl Zi))] := hD
  refine va_putF (D := (dC, dI)) (ci := 1) (v := .ref q_2) (ty := .array .int) (C := RX1) (T := TX1) (N := 5) hx hb hts i_1 tyX1 tyX1_ok nmX1 hown hK hP hD hS 0 rfl rfl 1 (by decide) k_5 (fun _ h9 => h9) rfl hin rfl (by decide +kernel) rfl rfl (Nat.le_of_ble_eq_true rfl) dX1_init_17 (fun H locs hP hD hS => ?_)
  have hP : va_P (dC, dI) vwCl [(h, .inr (1, [.ref q_1, .ref q_2, .null, .null, .null])), (q_1, .inl (cI, 40, .inl Zi)), (q_2, .inl (cI, 40, .inl Zi))] H := hP
  have hD : va_D A [(h, .inr (1, [.ref q_1, .ref q_2, .null, .null, .null])), (q_1, .inl (cI, 40, .inl Zi)), (q_2, .inl (cI, 40, .inl Zi))] := hD
  refine lv_aload_n hx hb dX1_init_20 rfl (lv_at hl 0 rfl) ?_
  refine lv_bipush (v := 40) hx hb dX1_init_21 (by decide) ?_
  refine vn_I (N' := 40) hx hb k_3 hK hP hD hS hA (by decide) (by decide) (by decide) (Nat.le_of_ble_eq_true rfl) (Nat.le_of_ble_eq_true rfl) dX1_init_23 (fun q_3 H hP hD hS => ?_)
  refine W.widen (k := 3) (n := 120) (by decide) (by decide) ?_
  have hP : va_P (dC, dI) vwCl [(h, .inr (1, [.ref q_1, .ref q_2, .null, .null, .null])), (q_1, .inl (cI, 40, .inl Zi)), (q_2, .inl (cI, 40, .inl Zi)), (q_3, .inl (cI, 40, .inl Zi))] H := hP
  have hD : va_D A [(h, .inr (1, [.ref q_1, .ref q_2, .null, .null, .null])), (q_1, .inl (cI, 40, .inl Zi)), (q_2, .inl (cI, 40, .inl Zi)), (q_3, .inl (cI, 40, .inl Zi))] := hD
  refine va_putF (D := (dC, dI)) (ci := 1) (v := .ref q_3) (ty := .array .int) (C := RX1) (T := TX1) (N := 5) hx hb hts i_1 tyX1 tyX1_ok nmX1 hown hK hP hD hS 0 rfl rfl 2 (by decide) k_6 (fun _ h9 => h9) rfl hin rfl (by decide +kernel) rfl rfl (Nat.le_of_ble_eq_true rfl) dX1_init_25 (fun H locs hP hD hS => ?_)
  have hP : va_P (dC, dI) vwCl [(h, .inr (1, [.ref q_1, .ref q_2, .ref q_3, .null, .null])), (q_1, .inl (cI, 40, .inl Zi)), (q_2, .inl (cI, 40, .inl Zi)), (q_3, .inl (cI, 40, .inl Zi))] H := hP
  have hD : va_D A [(h, .inr (1, [.ref q_1, .ref q_2, .ref q_3, .null, .null])), (q_1, .inl (cI, 40, .inl Zi)), (q_2, .inl (cI, 40, .inl Zi)), (q_3, .inl (cI, 40, .inl Zi))] := hD
  refine lv_aload_n hx hb dX1_init_28 rfl (lv_at hl 0 rfl) ?_
  refine lv_bipush (v := 40) hx hb dX1_init_29 (by decide) ?_
  refine vn_I (N' := 40) hx hb k_3 hK hP hD hS hA (by decide) (by decide) (by decide) (Nat.le_of_ble_eq_true rfl) (Nat.le_of_ble_eq_true rfl) dX1_init_31 (fun q_4 H hP hD hS => ?_)
  refine W.widen (k := 4) (n := 160) (by decide) (by decide) ?_
  have hP : va_P (dC, dI) vwCl [(h, .inr (1, [.ref q_1, .ref q_2, .ref q_3, .null, .null])), (q_1, .inl (cI, 40, .inl Zi)), (q_2, .inl (cI, 40, .inl Zi)), (q_3, .inl (cI, 40, .inl Zi)), (q_4, .inl (cI, 40, .inl Zi))] H := hP
  have hD : va_D A [(h, .inr (1, [.ref q_1, .ref q_2, .ref q_3, .null, .null])), (q_1, .inl (cI, 40, .inl Zi)), (q_2, .inl (cI, 40, .inl Zi)), (q_3, .inl (cI, 40, .inl Zi)), (q_4, .inl (cI, 40, .inl Zi))] := hD
  refine va_putF (D := (dC, dI)) (ci := 1) (v := .ref q_4) (ty := .array .int) (C := RX1) (T := TX1) (N := 5) hx hb hts i_1 tyX1 tyX1_ok nmX1 hown hK hP hD hS 0 rfl rfl 3 (by decide) k_7 (fun _ h9 => h9) rfl hin rfl (by decide +kernel) rfl rfl (Nat.le_of_ble_eq_true rfl) dX1_init_33 (fun H locs hP hD hS => ?_)
  have hP : va_P (dC, dI) vwCl [(h, .inr (1, [.ref q_1, .ref q_2, .ref q_3, .ref q_4, .null])), (q_1, .inl (cI, 40, .inl Zi)), (q_2, .inl (cI, 40, .inl Zi)), (q_3, .inl (cI, 40, .inl Zi)), (q_4, .inl (cI, 40, .inl Zi))] H := hP
  have hD : va_D A [(h, .inr (1, [.ref q_1, .ref q_2, .ref q_3, .ref q_4, .null])), (q_1, .inl (cI, 40, .inl Zi)), (q_2, .inl (cI, 40, .inl Zi)), (q_3, .inl (cI, 40, .inl Zi)), (q_4, .inl (cI, 40, .inl Zi))] := hD
  refine lv_aload_n hx hb dX1_init_36 rfl (lv_at hl 0 rfl) ?_
  refine lv_bipush (v := 40) hx hb dX1_init_37 (by decide) ?_
  refine vn_I (N' := 40) hx hb k_3 hK hP hD hS hA (by decide) (by decide) (by decide) (Nat.le_of_ble_eq_true rfl) (Nat.le_of_ble_eq_true rfl) dX1_init_39 (fun q_5 H hP hD hS => ?_)
  refine W.widen (k := 5) (n := 200) (by decide) (by decide) ?_
  have hP : va_P (dC, dI) vwCl [(h, .inr (1, [.ref q_1, .ref q_2, .ref q_3, .ref q_4, .null])), (q_1, .inl (cI, 40, .inl Zi)), (q_2, .inl (cI, 40, .inl Zi)), (q_3, .inl (cI, 40, .inl Zi)), (q_4, .inl (cI, 40, .inl Zi)), (q_5, .inl (cI, 40, .inl Zi))] H := hP
  have hD : va_D A [(h, .inr (1, [.ref q_1, .ref q_2, .ref q_3, .ref q_4, .null])), (q_1, .inl (cI, 40, .inl Zi)), (q_2, .inl (cI, 40, .inl Zi)), (q_3, .inl (cI, 40, .inl Zi)), (q_4, .inl (cI, 40, .inl Zi)), (q_5, .inl (cI, 40, .inl Zi))] := hD
  refine va_putF (D := (dC, dI)) (ci := 1) (v := .ref q_5) (ty := .array .int) (C := RX1) (T := TX1) (N := 5) hx hb hts i_1 tyX1 tyX1_ok nmX1 hown hK hP hD hS 0 rfl rfl 4 (by decide) k_8 (fun _ h9 => h9) rfl hin rfl (by decide +kernel) rfl rfl (Nat.le_of_ble_eq_true rfl) dX1_init_41 (fun H locs hP hD hS => ?_)
  have hP : va_P (dC, dI) vwCl [(h, .inr (1, [.ref q_1, .ref q_2, .ref q_3, .ref q_4, .ref q_5])), (q_1, .inl (cI, 40, .inl Zi)), (q_2, .inl (cI, 40, .inl Zi)), (q_3, .inl (cI, 40, .inl Zi)), (q_4, .inl (cI, 40, .inl Zi)), (q_5, .inl (cI, 40, .inl Zi))] H := hP
  have hD : va_D A [(h, .inr (1, [.ref q_1, .ref q_2, .ref q_3, .ref q_4, .ref q_5])), (q_1, .inl (cI, 40, .inl Zi)), (q_2, .inl (cI, 40, .inl Zi)), (q_3, .inl (cI, 40, .inl Zi)), (q_4, .inl (cI, 40, .inl Zi)), (q_5, .inl (cI, 40, .inl Zi))] := hD
  have hP9 := hP.sub (ws' := [(h, .inr (1, [.ref q_1, .ref q_2, .ref q_3, .ref q_4, .ref q_5])), (q_1, .inl (cI, 40, .inl Zi)), (q_2, .inl (cI, 40, .inl Zi)), (q_3, .inl (cI, 40, .inl Zi)), (q_4, .inl (cI, 40, .inl Zi)), (q_5, .inl (cI, 40, .inl Zi))]) [0, 1, 2, 3, 4, 5] rfl
  have hD9 := hD.sub (ws' := [(h, .inr (1, [.ref q_1, .ref q_2, .ref q_3, .ref q_4, .ref q_5])), (q_1, .inl (cI, 40, .inl Zi)), (q_2, .inl (cI, 40, .inl Zi)), (q_3, .inl (cI, 40, .inl Zi)), (q_4, .inl (cI, 40, .inl Zi)), (q_5, .inl (cI, 40, .inl Zi))]) [0, 1, 2, 3, 4, 5] (by decide) rfl
  exact W.vret hx hb hr (fun t ht hW => ⟨⟨(fun j => ([q_1, q_2, q_3, q_4, q_5] : List Nat).getD j 0), rfl, trivial, by rw [ht]; exact hP9, hD9⟩, hS.F ht⟩) hS.2.2 dX1_init_44
set_option maxHeartbeats 4000000 in
set_option maxRecDepth 100000 in
theorem c_X2_init (l : Launch) (dC : Nat → ClassId) (dI : Nat → Nat → Nat) (cI cJ : ClassId) (h : Nat) (sz : Nat) : Met l yX2_init wsX2_init ({ frames := 1, cells := 3, slots := 1800, locals := 12 }) (va_Pc [.ref h] (pPre dC dI cI cJ sz [(h, .inr (2, [.null, .null, .null, .int 0]))])) (va_Qv (fun _ : Nat → Nat => True) (fun u t => va_P (dC, dI) vwCl [(h, .inr (2, [.ref (u 0), .ref (u 1), .ref (u 2), .int 0])), ((u 0), .inl (cI, 160, .inl Zi)), ((u 1), .inl (cI, 1600, .inl Zi)), ((u 2), .inl (cJ, 40, .inr (.inl Zl)))] t.heap ∧ va_D (va_A [(h, .inr (2, [.null, .null, .null, .int 0]))] sz) [(h, .inr (2, [.ref (u 0), .ref (u 1), .ref (u 2), .int 0])), ((u 0), .inl (cI, 160, .inl Zi)), ((u 1), .inl (cI, 1600, .inl Zi)), ((u 2), .inl (cJ, 40, .inr (.inl Zl)))]) (va_A [(h, .inr (2, [.null, .null, .null, .int 0]))] sz)) 3 1800 (va_A [(h, .inr (2, [.null, .null, .null, .int 0]))] sz) := by
  refine Met.ofW (cc := cX2_init) (maxL := 1) (ret := none) (by decide) rfl ?_
  intro p e s m args below meth c s₁ B hml hv
  obtain ⟨rfl, hsz, hP, hK, hD0⟩ := hv
  have hx := B.exec
  have hb := B.bytes
  have hr := B.returns
  have hts := atoms_spec (ws := wsX2_init) B.pre
  have hown : s.vm.findClass RX2 = some m.cls := findClass_of_methodNamed B.named
  have hlocks := B.notSynchronized
  have hin : meth.name = "<init>" := (name_of_methodNamed B.named B.method).1
  subst hsz
  have hD := hD0.self (sz := s.heap.size)
  generalize hAe : va_A [(h, .inr (2, [.null, .null, .null, .int 0]))] s.heap.size = A at hD ⊢
  have hA : ∀ q : Nat, s.heap.size ≤ q → A q := fun q h => by rw [← hAe]; exact Or.inr h
  have hS : va_S A s.heap s.heap [] := va_S.rf
  have hP : va_P (dC, dI) vwCl [(h, .inr (2, [.null, .null, .null, .int 0]))] s.heap := hP
  have hl := lv_entry ([.ref h]) (n := 1) (Nat.le_of_ble_eq_true rfl)
  rw [lg_entry_eq]
  generalize (lg_sl ([.ref h]) ++ List.replicate (1 - (lg_sl ([.ref h])).length) Slot.unset).toArray = ls at hl ⊢
  have hl : lv_has ls 1 [(0, .ref h)] := hl
  have i_2 : ∀ w ∈ wsX20, w ∈ wsX2_init := by decide +kernel
  have k_0 := hts (.methodLink RX2 3 objectInit) (by decide +kernel)
  have k_1 := hts (.instanceMethod objectInit) (by decide +kernel)
  have k_2 := hts (.code objectInit ⟨#[0xb1]⟩ 1 none) (by decide +kernel)
  have k_3 := hts (.arrayClass .int) (by decide +kernel)
  have k_4 := hts (.fieldLink RX2 9 "CommunityLevels$LevelTable" "facts" "[I") (by decide +kernel)
  have k_5 := hts (.fieldLink RX2 15 "CommunityLevels$LevelTable" "homes" "[I") (by decide +kernel)
  have k_6 := hts (.arrayClass .long) (by decide +kernel)
  have k_7 := hts (.fieldLink RX2 18 "CommunityLevels$LevelTable" "scores" "[J") (by decide +kernel)
  have k_8 := hts (.fieldLink RX2 22 "CommunityLevels$LevelTable" "size" "I") (by decide +kernel)
  refine lv_aload_n hx hb dX2_init_0 rfl (lv_at hl 0 rfl) ?_
  refine W.objInit hx hb hown k_0 k_1 k_2 rfl (by rw [hml]; exact hl.1) rfl dX2_init_1 (Nat.le_of_ble_eq_true rfl) (Nat.le_of_ble_eq_true rfl) ?_
  refine W.eq (g2 := F0 m 4 ls []) rfl ?_
  refine lv_aload_n hx hb dX2_init_4 rfl (lv_at hl 0 rfl) ?_
  refine lv_sipush (v := 160) hx hb dX2_init_5 (by decide) ?_
  refine vn_I (N' := 160) hx hb k_3 hK hP hD hS hA (by decide) (by decide) (by decide) (Nat.le_of_ble_eq_true rfl) (Nat.le_of_ble_eq_true rfl) dX2_init_8 (fun q_1 H hP hD hS => ?_)
  refine W.widen (k := 1) (n := 160) (by decide) (by decide) ?_
  have hP : va_P (dC, dI) vwCl [(h, .inr (2, [.null, .null, .null, .int 0])), (q_1, .inl (cI, 160, .inl Zi))] H := hP
  have hD : va_D A [(h, .inr (2, [.null, .null, .null, .int 0])), (q_1, .inl (cI, 160, .inl Zi))] := hD
  refine va_putF (D := (dC, dI)) (ci := 2) (v := .ref q_1) (ty := .array .int) (C := RX2) (T := TX2) (N := 4) hx hb hts i_2 tyX2 tyX2_ok nmX2 hown hK hP hD hS 0 rfl rfl 0 (by decide) k_4 (fun _ h9 => h9) rfl hin rfl (by decide +kernel) rfl rfl (Nat.le_of_ble_eq_true rfl) dX2_init_10 (fun H locs hP hD hS => ?_)
  have hP : va_P (dC, dI) vwCl [(h, .inr (2, [.ref q_1, .null, .null, .int 0])), (q_1, .inl (cI, 160, .inl Zi))] H := hP
  have hD : va_D A [(h, .inr (2, [.ref q_1, .null, .null, .int 0])), (q_1, .inl (cI, 160, .inl Zi))] := hD
  refine lv_aload_n hx hb dX2_init_13 rfl (lv_at hl 0 rfl) ?_
  refine lv_sipush (v := 1600) hx hb dX2_init_14 (by decide) ?_
  refine vn_I (N' := 1600) hx hb k_3 hK hP hD hS hA (by decide) (by decide) (by decide) (Nat.le_of_ble_eq_true rfl) (Nat.le_of_ble_eq_true rfl) dX2_init_17 (fun q_2 H hP hD hS => ?_)
  refine W.widen (k := 2) (n := 1760) (by decide) (by decide) ?_
  have hP : va_P (dC, dI) vwCl [(h, .inr (2, [.ref q_1, .null, .null, .int 0])), (q_1, .inl (cI, 160, .inl Zi)), (q_2, .inl (cI, 1600, .inl Zi))] H := hP
  have hD : va_D A [(h, .inr (2, [.ref q_1, .null, .null, .int 0])), (q_1, .inl (cI, 160, .inl Zi)), (q_2, .inl (cI, 1600, .inl Zi))] := hD
  refine va_putF (D := (dC, dI)) (ci := 2) (v := .ref q_2) (ty := .array .int) (C := RX2) (T := TX2) (N := 4) hx hb hts i_2 tyX2 tyX2_ok nmX2 hown hK hP hD hS 0 rfl rfl 1 (by decide) k_5 (fun _ h9 => h9) rfl hin rfl (by decide +kernel) rfl rfl (Nat.le_of_ble_eq_true rfl) dX2_init_19 (fun H locs hP hD hS => ?_)
  have hP : va_P (dC, dI) vwCl [(h, .inr (2, [.ref q_1, .ref q_2, .null, .int 0])), (q_1, .inl (cI, 160, .inl Zi)), (q_2, .inl (cI, 1600, .inl Zi))] H := hP
  have hD : va_D A [(h, .inr (2, [.ref q_1, .ref q_2, .null, .int 0])), (q_1, .inl (cI, 160, .inl Zi)), (q_2, .inl (cI, 1600, .inl Zi))] := hD
  refine lv_aload_n hx hb dX2_init_22 rfl (lv_at hl 0 rfl) ?_
  refine lv_bipush (v := 40) hx hb dX2_init_23 (by decide) ?_
  refine vn_J (N' := 40) hx hb k_6 hK hP hD hS hA (by decide) (by decide) (by decide) (Nat.le_of_ble_eq_true rfl) (Nat.le_of_ble_eq_true rfl) dX2_init_25 (fun q_3 H hP hD hS => ?_)
  refine W.widen (k := 3) (n := 1800) (by decide) (by decide) ?_
  have hP : va_P (dC, dI) vwCl [(h, .inr (2, [.ref q_1, .ref q_2, .null, .int 0])), (q_1, .inl (cI, 160, .inl Zi)), (q_2, .inl (cI, 1600, .inl Zi)), (q_3, .inl (cJ, 40, .inr (.inl Zl)))] H := hP
  have hD : va_D A [(h, .inr (2, [.ref q_1, .ref q_2, .null, .int 0])), (q_1, .inl (cI, 160, .inl Zi)), (q_2, .inl (cI, 1600, .inl Zi)), (q_3, .inl (cJ, 40, .inr (.inl Zl)))] := hD
  refine va_putF (D := (dC, dI)) (ci := 2) (v := .ref q_3) (ty := .array .long) (C := RX2) (T := TX2) (N := 4) hx hb hts i_2 tyX2 tyX2_ok nmX2 hown hK hP hD hS 0 rfl rfl 2 (by decide) k_7 (fun _ h9 => h9) rfl hin rfl (by decide +kernel) rfl rfl (Nat.le_of_ble_eq_true rfl) dX2_init_27 (fun H locs hP hD hS => ?_)
  have hP : va_P (dC, dI) vwCl [(h, .inr (2, [.ref q_1, .ref q_2, .ref q_3, .int 0])), (q_1, .inl (cI, 160, .inl Zi)), (q_2, .inl (cI, 1600, .inl Zi)), (q_3, .inl (cJ, 40, .inr (.inl Zl)))] H := hP
  have hD : va_D A [(h, .inr (2, [.ref q_1, .ref q_2, .ref q_3, .int 0])), (q_1, .inl (cI, 160, .inl Zi)), (q_2, .inl (cI, 1600, .inl Zi)), (q_3, .inl (cJ, 40, .inr (.inl Zl)))] := hD
  refine lv_aload_n hx hb dX2_init_30 rfl (lv_at hl 0 rfl) ?_
  refine lv_iconst (v := 0) hx hb dX2_init_31 (by decide) ?_
  refine va_put (D := (dC, dI)) (ci := 2) (v := .int 0) (ty := .int) (C := RX2) (T := TX2) (N := 4) hx hb hts i_2 tyX2 tyX2_ok nmX2 hown hK hP hD hS 0 rfl rfl 3 (by decide) k_8 (fun _ h9 => h9) rfl (by decide +kernel) rfl rfl (Nat.le_of_ble_eq_true rfl) dX2_init_32 (fun H locs hP hD hS => ?_)
  have hP : va_P (dC, dI) vwCl [(h, .inr (2, [.ref q_1, .ref q_2, .ref q_3, .int 0])), (q_1, .inl (cI, 160, .inl Zi)), (q_2, .inl (cI, 1600, .inl Zi)), (q_3, .inl (cJ, 40, .inr (.inl Zl)))] H := hP
  have hD : va_D A [(h, .inr (2, [.ref q_1, .ref q_2, .ref q_3, .int 0])), (q_1, .inl (cI, 160, .inl Zi)), (q_2, .inl (cI, 1600, .inl Zi)), (q_3, .inl (cJ, 40, .inr (.inl Zl)))] := hD
  have hP9 := hP.sub (ws' := [(h, .inr (2, [.ref q_1, .ref q_2, .ref q_3, .int 0])), (q_1, .inl (cI, 160, .inl Zi)), (q_2, .inl (cI, 1600, .inl Zi)), (q_3, .inl (cJ, 40, .inr (.inl Zl)))]) [0, 1, 2, 3] rfl
  have hD9 := hD.sub (ws' := [(h, .inr (2, [.ref q_1, .ref q_2, .ref q_3, .int 0])), (q_1, .inl (cI, 160, .inl Zi)), (q_2, .inl (cI, 1600, .inl Zi)), (q_3, .inl (cJ, 40, .inr (.inl Zl)))]) [0, 1, 2, 3] (by decide) rfl
  exact W.vret hx hb hr (fun t ht hW => ⟨⟨(fun j => ([q_1, q_2, q_3] : List Nat).getD j 0), rfl, trivial, by rw [ht]; exact hP9, hD9⟩, hS.F ht⟩) hS.2.2 dX2_init_35
set_option maxHeartbeats 4000000 in
set_option maxRecDepth 100000 in
theorem c_X3_init (l : Launch) (dC : Nat → ClassId) (dI : Nat → Nat → Nat) (cI cJ : ClassId) (h : Nat) (sz : Nat) : Met l yX3_init wsX3_init ({ frames := 1, cells := 2, slots := 2000, locals := 12 }) (va_Pc [.ref h] (pPre dC dI cI cJ sz [(h, .inr (3, [.null, .null, .int 0]))])) (va_Qv (fun _ : Nat → Nat => True) (fun u t => va_P (dC, dI) vwCl [(h, .inr (3, [.ref (u 0), .ref (u 1), .int 0])), ((u 0), .inl (cI, 1600, .inl Zi)), ((u 1), .inl (cJ, 400, .inr (.inl Zl)))] t.heap ∧ va_D (va_A [(h, .inr (3, [.null, .null, .int 0]))] sz) [(h, .inr (3, [.ref (u 0), .ref (u 1), .int 0])), ((u 0), .inl (cI, 1600, .inl Zi)), ((u 1), .inl (cJ, 400, .inr (.inl Zl)))]) (va_A [(h, .inr (3, [.null, .null, .int 0]))] sz)) 2 2000 (va_A [(h, .inr (3, [.null, .null, .int 0]))] sz) := by
  refine Met.ofW (cc := cX3_init) (maxL := 1) (ret := none) (by decide) rfl ?_
  intro p e s m args below meth c s₁ B hml hv
  obtain ⟨rfl, hsz, hP, hK, hD0⟩ := hv
  have hx := B.exec
  have hb := B.bytes
  have hr := B.returns
  have hts := atoms_spec (ws := wsX3_init) B.pre
  have hown : s.vm.findClass RX3 = some m.cls := findClass_of_methodNamed B.named
  have hlocks := B.notSynchronized
  have hin : meth.name = "<init>" := (name_of_methodNamed B.named B.method).1
  subst hsz
  have hD := hD0.self (sz := s.heap.size)
  generalize hAe : va_A [(h, .inr (3, [.null, .null, .int 0]))] s.heap.size = A at hD ⊢
  have hA : ∀ q : Nat, s.heap.size ≤ q → A q := fun q h => by rw [← hAe]; exact Or.inr h
  have hS : va_S A s.heap s.heap [] := va_S.rf
  have hP : va_P (dC, dI) vwCl [(h, .inr (3, [.null, .null, .int 0]))] s.heap := hP
  have hl := lv_entry ([.ref h]) (n := 1) (Nat.le_of_ble_eq_true rfl)
  rw [lg_entry_eq]
  generalize (lg_sl ([.ref h]) ++ List.replicate (1 - (lg_sl ([.ref h])).length) Slot.unset).toArray = ls at hl ⊢
  have hl : lv_has ls 1 [(0, .ref h)] := hl
  have i_3 : ∀ w ∈ wsX30, w ∈ wsX3_init := by decide +kernel
  have k_0 := hts (.methodLink RX3 3 objectInit) (by decide +kernel)
  have k_1 := hts (.instanceMethod objectInit) (by decide +kernel)
  have k_2 := hts (.code objectInit ⟨#[0xb1]⟩ 1 none) (by decide +kernel)
  have k_3 := hts (.arrayClass .int) (by decide +kernel)
  have k_4 := hts (.fieldLink RX3 9 "CommunityLevels$MoveLog" "facts" "[I") (by decide +kernel)
  have k_5 := hts (.arrayClass .long) (by decide +kernel)
  have k_6 := hts (.fieldLink RX3 15 "CommunityLevels$MoveLog" "gains" "[J") (by decide +kernel)
  have k_7 := hts (.fieldLink RX3 19 "CommunityLevels$MoveLog" "size" "I") (by decide +kernel)
  refine lv_aload_n hx hb dX3_init_0 rfl (lv_at hl 0 rfl) ?_
  refine W.objInit hx hb hown k_0 k_1 k_2 rfl (by rw [hml]; exact hl.1) rfl dX3_init_1 (Nat.le_of_ble_eq_true rfl) (Nat.le_of_ble_eq_true rfl) ?_
  refine W.eq (g2 := F0 m 4 ls []) rfl ?_
  refine lv_aload_n hx hb dX3_init_4 rfl (lv_at hl 0 rfl) ?_
  refine lv_sipush (v := 1600) hx hb dX3_init_5 (by decide) ?_
  refine vn_I (N' := 1600) hx hb k_3 hK hP hD hS hA (by decide) (by decide) (by decide) (Nat.le_of_ble_eq_true rfl) (Nat.le_of_ble_eq_true rfl) dX3_init_8 (fun q_1 H hP hD hS => ?_)
  refine W.widen (k := 1) (n := 1600) (by decide) (by decide) ?_
  have hP : va_P (dC, dI) vwCl [(h, .inr (3, [.null, .null, .int 0])), (q_1, .inl (cI, 1600, .inl Zi))] H := hP
  have hD : va_D A [(h, .inr (3, [.null, .null, .int 0])), (q_1, .inl (cI, 1600, .inl Zi))] := hD
  refine va_putF (D := (dC, dI)) (ci := 3) (v := .ref q_1) (ty := .array .int) (C := RX3) (T := TX3) (N := 3) hx hb hts i_3 tyX3 tyX3_ok nmX3 hown hK hP hD hS 0 rfl rfl 0 (by decide) k_4 (fun _ h9 => h9) rfl hin rfl (by decide +kernel) rfl rfl (Nat.le_of_ble_eq_true rfl) dX3_init_10 (fun H locs hP hD hS => ?_)
  have hP : va_P (dC, dI) vwCl [(h, .inr (3, [.ref q_1, .null, .int 0])), (q_1, .inl (cI, 1600, .inl Zi))] H := hP
  have hD : va_D A [(h, .inr (3, [.ref q_1, .null, .int 0])), (q_1, .inl (cI, 1600, .inl Zi))] := hD
  refine lv_aload_n hx hb dX3_init_13 rfl (lv_at hl 0 rfl) ?_
  refine lv_sipush (v := 400) hx hb dX3_init_14 (by decide) ?_
  refine vn_J (N' := 400) hx hb k_5 hK hP hD hS hA (by decide) (by decide) (by decide) (Nat.le_of_ble_eq_true rfl) (Nat.le_of_ble_eq_true rfl) dX3_init_17 (fun q_2 H hP hD hS => ?_)
  refine W.widen (k := 2) (n := 2000) (by decide) (by decide) ?_
  have hP : va_P (dC, dI) vwCl [(h, .inr (3, [.ref q_1, .null, .int 0])), (q_1, .inl (cI, 1600, .inl Zi)), (q_2, .inl (cJ, 400, .inr (.inl Zl)))] H := hP
  have hD : va_D A [(h, .inr (3, [.ref q_1, .null, .int 0])), (q_1, .inl (cI, 1600, .inl Zi)), (q_2, .inl (cJ, 400, .inr (.inl Zl)))] := hD
  refine va_putF (D := (dC, dI)) (ci := 3) (v := .ref q_2) (ty := .array .long) (C := RX3) (T := TX3) (N := 3) hx hb hts i_3 tyX3 tyX3_ok nmX3 hown hK hP hD hS 0 rfl rfl 1 (by decide) k_6 (fun _ h9 => h9) rfl hin rfl (by decide +kernel) rfl rfl (Nat.le_of_ble_eq_true rfl) dX3_init_19 (fun H locs hP hD hS => ?_)
  have hP : va_P (dC, dI) vwCl [(h, .inr (3, [.ref q_1, .ref q_2, .int 0])), (q_1, .inl (cI, 1600, .inl Zi)), (q_2, .inl (cJ, 400, .inr (.inl Zl)))] H := hP
  have hD : va_D A [(h, .inr (3, [.ref q_1, .ref q_2, .int 0])), (q_1, .inl (cI, 1600, .inl Zi)), (q_2, .inl (cJ, 400, .inr (.inl Zl)))] := hD
  refine lv_aload_n hx hb dX3_init_22 rfl (lv_at hl 0 rfl) ?_
  refine lv_iconst (v := 0) hx hb dX3_init_23 (by decide) ?_
  refine va_put (D := (dC, dI)) (ci := 3) (v := .int 0) (ty := .int) (C := RX3) (T := TX3) (N := 3) hx hb hts i_3 tyX3 tyX3_ok nmX3 hown hK hP hD hS 0 rfl rfl 2 (by decide) k_7 (fun _ h9 => h9) rfl (by decide +kernel) rfl rfl (Nat.le_of_ble_eq_true rfl) dX3_init_24 (fun H locs hP hD hS => ?_)
  have hP : va_P (dC, dI) vwCl [(h, .inr (3, [.ref q_1, .ref q_2, .int 0])), (q_1, .inl (cI, 1600, .inl Zi)), (q_2, .inl (cJ, 400, .inr (.inl Zl)))] H := hP
  have hD : va_D A [(h, .inr (3, [.ref q_1, .ref q_2, .int 0])), (q_1, .inl (cI, 1600, .inl Zi)), (q_2, .inl (cJ, 400, .inr (.inl Zl)))] := hD
  have hP9 := hP.sub (ws' := [(h, .inr (3, [.ref q_1, .ref q_2, .int 0])), (q_1, .inl (cI, 1600, .inl Zi)), (q_2, .inl (cJ, 400, .inr (.inl Zl)))]) [0, 1, 2] rfl
  have hD9 := hD.sub (ws' := [(h, .inr (3, [.ref q_1, .ref q_2, .int 0])), (q_1, .inl (cI, 1600, .inl Zi)), (q_2, .inl (cJ, 400, .inr (.inl Zl)))]) [0, 1, 2] (by decide) rfl
  exact W.vret hx hb hr (fun t ht hW => ⟨⟨(fun j => ([q_1, q_2] : List Nat).getD j 0), rfl, trivial, by rw [ht]; exact hP9, hD9⟩, hS.F ht⟩) hS.2.2 dX3_init_27
set_option maxHeartbeats 4000000 in
set_option maxRecDepth 100000 in
theorem c_X4_init (l : Launch) (dC : Nat → ClassId) (dI : Nat → Nat → Nat) (cI cJ : ClassId) (h : Nat) (sz : Nat) : Met l yX4_init wsX4_init ({ frames := 2, cells := 26, slots := 7545, locals := 32 }) (va_Pc [.ref h] (pPre dC dI cI cJ sz [(h, .inr (4, [.null, .null, .null, .null, .null, .null, .null]))])) (va_Qv (fun _ : Nat → Nat => True) (fun u t => va_P (dC, dI) vwCl [(h, .inr (4, [.ref (u 0), .ref (u 3), .ref (u 9), .ref (u 13), .ref (u 16), .ref (u 19), .ref (u 25)])), ((u 0), .inr (0, [.ref (u 1), .ref (u 2), .int 1, .int 0])), ((u 1), .inl (cI, 1600, .inl Zi)), ((u 2), .inl (cI, 40, .inl Zi)), ((u 3), .inr (1, [.ref (u 4), .ref (u 5), .ref (u 6), .ref (u 7), .ref (u 8)])), ((u 4), .inl (cI, 40, .inl Zi)), ((u 5), .inl (cI, 40, .inl Zi)), ((u 6), .inl (cI, 40, .inl Zi)), ((u 7), .inl (cI, 40, .inl Zi)), ((u 8), .inl (cI, 40, .inl Zi)), ((u 9), .inr (2, [.ref (u 10), .ref (u 11), .ref (u 12), .int 0])), ((u 10), .inl (cI, 160, .inl Zi)), ((u 11), .inl (cI, 1600, .inl Zi)), ((u 12), .inl (cJ, 40, .inr (.inl Zl))), ((u 13), .inr (3, [.ref (u 14), .ref (u 15), .int 0])), ((u 14), .inl (cI, 1600, .inl Zi)), ((u 15), .inl (cJ, 400, .inr (.inl Zl))), ((u 16), .inr (0, [.ref (u 17), .ref (u 18), .int 1, .int 0])), ((u 17), .inl (cI, 1600, .inl Zi)), ((u 18), .inl (cI, 40, .inl Zi)), ((u 19), .inr (1, [.ref (u 20), .ref (u 21), .ref (u 22), .ref (u 23), .ref (u 24)])), ((u 20), .inl (cI, 40, .inl Zi)), ((u 21), .inl (cI, 40, .inl Zi)), ((u 22), .inl (cI, 40, .inl Zi)), ((u 23), .inl (cI, 40, .inl Zi)), ((u 24), .inl (cI, 40, .inl Zi)), ((u 25), .inl (cI, 40, .inl Zi))] t.heap ∧ va_D (va_A [(h, .inr (4, [.null, .null, .null, .null, .null, .null, .null]))] sz) [(h, .inr (4, [.ref (u 0), .ref (u 3), .ref (u 9), .ref (u 13), .ref (u 16), .ref (u 19), .ref (u 25)])), ((u 0), .inr (0, [.ref (u 1), .ref (u 2), .int 1, .int 0])), ((u 1), .inl (cI, 1600, .inl Zi)), ((u 2), .inl (cI, 40, .inl Zi)), ((u 3), .inr (1, [.ref (u 4), .ref (u 5), .ref (u 6), .ref (u 7), .ref (u 8)])), ((u 4), .inl (cI, 40, .inl Zi)), ((u 5), .inl (cI, 40, .inl Zi)), ((u 6), .inl (cI, 40, .inl Zi)), ((u 7), .inl (cI, 40, .inl Zi)), ((u 8), .inl (cI, 40, .inl Zi)), ((u 9), .inr (2, [.ref (u 10), .ref (u 11), .ref (u 12), .int 0])), ((u 10), .inl (cI, 160, .inl Zi)), ((u 11), .inl (cI, 1600, .inl Zi)), ((u 12), .inl (cJ, 40, .inr (.inl Zl))), ((u 13), .inr (3, [.ref (u 14), .ref (u 15), .int 0])), ((u 14), .inl (cI, 1600, .inl Zi)), ((u 15), .inl (cJ, 400, .inr (.inl Zl))), ((u 16), .inr (0, [.ref (u 17), .ref (u 18), .int 1, .int 0])), ((u 17), .inl (cI, 1600, .inl Zi)), ((u 18), .inl (cI, 40, .inl Zi)), ((u 19), .inr (1, [.ref (u 20), .ref (u 21), .ref (u 22), .ref (u 23), .ref (u 24)])), ((u 20), .inl (cI, 40, .inl Zi)), ((u 21), .inl (cI, 40, .inl Zi)), ((u 22), .inl (cI, 40, .inl Zi)), ((u 23), .inl (cI, 40, .inl Zi)), ((u 24), .inl (cI, 40, .inl Zi)), ((u 25), .inl (cI, 40, .inl Zi))]) (va_A [(h, .inr (4, [.null, .null, .null, .null, .null, .null, .null]))] sz)) 26 7545 (va_A [(h, .inr (4, [.null, .null, .null, .null, .null, .null, .null]))] sz) := by
  refine Met.ofW (cc := cX4_init) (maxL := 1) (ret := none) (by decide) rfl ?_
  intro p e s m args below meth c s₁ B hml hv
  obtain ⟨rfl, hsz, hP, hK, hD0⟩ := hv
  have hx := B.exec
  have hb := B.bytes
  have hr := B.returns
  have hts := atoms_spec (ws := wsX4_init) B.pre
  have hown : s.vm.findClass RX4 = some m.cls := findClass_of_methodNamed B.named
  have hlocks := B.notSynchronized
  have hin : meth.name = "<init>" := (name_of_methodNamed B.named B.method).1
  subst hsz
  have hD := hD0.self (sz := s.heap.size)
  generalize hAe : va_A [(h, .inr (4, [.null, .null, .null, .null, .null, .null, .null]))] s.heap.size = A at hD ⊢
  have hA : ∀ q : Nat, s.heap.size ≤ q → A q := fun q h => by rw [← hAe]; exact Or.inr h
  have hS : va_S A s.heap s.heap [] := va_S.rf
  have hP : va_P (dC, dI) vwCl [(h, .inr (4, [.null, .null, .null, .null, .null, .null, .null]))] s.heap := hP
  have hl := lv_entry ([.ref h]) (n := 1) (Nat.le_of_ble_eq_true rfl)
  rw [lg_entry_eq]
  generalize (lg_sl ([.ref h]) ++ List.replicate (1 - (lg_sl ([.ref h])).length) Slot.unset).toArray = ls at hl ⊢
  have hl : lv_has ls 1 [(0, .ref h)] := hl
  have i_0 : ∀ w ∈ wsX00, w ∈ wsX4_init := by decide +kernel
  have i_1 : ∀ w ∈ wsX10, w ∈ wsX4_init := by decide +kernel
  have i_2 : ∀ w ∈ wsX20, w ∈ wsX4_init := by decide +kernel
  have i_3 : ∀ w ∈ wsX30, w ∈ wsX4_init := by decide +kernel
  have i_4 : ∀ w ∈ wsX40, w ∈ wsX4_init := by decide +kernel
  have k_0 := hts (.methodLink RX4 1 objectInit) (by decide +kernel)
  have k_1 := hts (.instanceMethod objectInit) (by decide +kernel)
  have k_2 := hts (.code objectInit ⟨#[0xb1]⟩ 1 none) (by decide +kernel)
  have k_3 := hts (.classLink RX4 7 RX0) (by decide +kernel)
  have k_4 := hts (.instantiable RX0 4) (by decide +kernel)
  have k_5 := hts (.initialized RX0) (by decide +kernel)
  have k_6 := hts (.methodLink RX4 9 yX0_init) (by decide +kernel)
  have k_7 := hts (.instanceMethod yX0_init) (by decide +kernel)
  have k_8 := hts (.fieldLink RX4 10 "CommunityLevels" "told" "LCommunityLevels$Graph;") (by decide +kernel)
  have k_9 := hts (.classLink RX4 16 RX1) (by decide +kernel)
  have k_10 := hts (.instantiable RX1 5) (by decide +kernel)
  have k_11 := hts (.initialized RX1) (by decide +kernel)
  have k_12 := hts (.methodLink RX4 18 yX1_init) (by decide +kernel)
  have k_13 := hts (.instanceMethod yX1_init) (by decide +kernel)
  have k_14 := hts (.fieldLink RX4 19 "CommunityLevels" "mine" "LCommunityLevels$Groups;") (by decide +kernel)
  have k_15 := hts (.classLink RX4 23 RX2) (by decide +kernel)
  have k_16 := hts (.instantiable RX2 4) (by decide +kernel)
  have k_17 := hts (.initialized RX2) (by decide +kernel)
  have k_18 := hts (.methodLink RX4 25 yX2_init) (by decide +kernel)
  have k_19 := hts (.instanceMethod yX2_init) (by decide +kernel)
  have k_20 := hts (.fieldLink RX4 26 "CommunityLevels" "table" "LCommunityLevels$LevelTable;") (by decide +kernel)
  have k_21 := hts (.classLink RX4 30 RX3) (by decide +kernel)
  have k_22 := hts (.instantiable RX3 3) (by decide +kernel)
  have k_23 := hts (.initialized RX3) (by decide +kernel)
  have k_24 := hts (.methodLink RX4 32 yX3_init) (by decide +kernel)
  have k_25 := hts (.instanceMethod yX3_init) (by decide +kernel)
  have k_26 := hts (.fieldLink RX4 33 "CommunityLevels" "log" "LCommunityLevels$MoveLog;") (by decide +kernel)
  have k_27 := hts (.fieldLink RX4 37 "CommunityLevels" "graph" "LCommunityLevels$Graph;") (by decide +kernel)
  have k_28 := hts (.fieldLink RX4 40 "CommunityLevels" "groups" "LCommunityLevels$Groups;") (by decide +kernel)
  have k_29 := hts (.arrayClass .int) (by decide +kernel)
  have k_30 := hts (.fieldLink RX4 43 "CommunityLevels" "within" "[I") (by decide +kernel)
  refine lv_aload_n hx hb dX4_init_0 rfl (lv_at hl 0 rfl) ?_
  refine W.objInit hx hb hown k_0 k_1 k_2 rfl (by rw [hml]; exact hl.1) rfl dX4_init_1 (Nat.le_of_ble_eq_true rfl) (Nat.le_of_ble_eq_true rfl) ?_
  refine W.eq (g2 := F0 m 4 ls []) rfl ?_
  refine lv_aload_n hx hb dX4_init_4 rfl (lv_at hl 0 rfl) ?_
  refine va_new (ci := 0) (fs := [.null, .null, .int 0, .int 0]) (C := RX0) (T := TX0) (N := 4) hx hb hts i_0 tyX0 tyX0_ok hown k_3 k_4 k_5 hK hP hD hS hA rfl (by decide) (Nat.le_of_ble_eq_true rfl) (Nat.le_of_ble_eq_true rfl) dX4_init_5 (fun q_1 H hP hD hS => ?_)
  refine W.widen (k := 1) (n := 4) (by decide) (by decide) ?_
  have hP : va_P (dC, dI) vwCl [(h, .inr (4, [.null, .null, .null, .null, .null, .null, .null])), (q_1, .inr (0, [.null, .null, .int 0, .int 0]))] H := hP
  have hD : va_D A [(h, .inr (4, [.null, .null, .null, .null, .null, .null, .null])), (q_1, .inr (0, [.null, .null, .int 0, .int 0]))] := hD
  refine lv_dup hx hb dX4_init_8 rfl ?_
  have hPc := hP.sub (ws' := [(q_1, .inr (0, [.null, .null, .int 0, .int 0]))]) [1] rfl
  have hDc := hD.sub (ws' := [(q_1, .inr (0, [.null, .null, .int 0, .int 0]))]) [1] (by decide) rfl
  have hFc := va_free (wc := [(q_1, .inr (0, [.null, .null, .int 0, .int 0]))]) hD hS hA [1] rfl
  refine va_callv (va_runI (As := []) (rest := [.ref q_1, .ref h]) ⟨hx, hb, hml, hown, hts⟩ (c_X0_init l dC dI cI cJ q_1 H.size) (cwI 0 hts gX4_init_X0_init rfl rfl rfl k_5 k_6 k_7 rfl (by decide +kernel) ⟨Nat.le_of_ble_eq_true rfl, Nat.le_of_ble_eq_true rfl⟩) ⟨fun a U g mk q => by obtain ⟨q0, q1, qP, qK, qD⟩ := q; exact ⟨q0, q1, qP, va_K.moved (u := U) (U := U.calling g mk a) (Vm.Alike.refl U.vm) qK, qD⟩, fun U hU hW => ⟨rfl, by rw [hU], by rw [hU]; exact hPc, va_K.moved hW.alike hK, hDc.weaken (fun _ _ _ _ => trivial)⟩⟩ rfl rfl hl.1 rfl (lv_room (Nat.le_of_ble_eq_true rfl)) dX4_init_9 ⟨Nat.le_of_ble_eq_true rfl, Nat.le_of_ble_eq_true rfl⟩) hS (fun q _ h => hFc q h) hFc (fun u_3 t H1 locs ht hvm hw hB hz1 hk1 hS => ?_)
  obtain ⟨hP1, hD1⟩ := hB
  rw [ht] at hP1
  obtain ⟨hP, hD⟩ := va_join (wr := [(h, .inr (4, [.null, .null, .null, .null, .null, .null, .null]))]) (w1 := [(q_1, .inr (0, [.ref (u_3 0), .ref (u_3 1), .int 1, .int 0])), ((u_3 0), .inl (cI, 1600, .inl Zi)), ((u_3 1), .inl (cI, 40, .inl Zi))]) hP hD [1] [0] rfl rfl (by decide) (by decide) hk1 hFc hP1 hD1
  generalize H1 = H at hP hS ⊢
  have hP : va_P (dC, dI) vwCl [(h, .inr (4, [.null, .null, .null, .null, .null, .null, .null])), (q_1, .inr (0, [.ref (u_3 0), .ref (u_3 1), .int 1, .int 0])), ((u_3 0), .inl (cI, 1600, .inl Zi)), ((u_3 1), .inl (cI, 40, .inl Zi))] H := hP
  have hD : va_D A [(h, .inr (4, [.null, .null, .null, .null, .null, .null, .null])), (q_1, .inr (0, [.ref (u_3 0), .ref (u_3 1), .int 1, .int 0])), ((u_3 0), .inl (cI, 1600, .inl Zi)), ((u_3 1), .inl (cI, 40, .inl Zi))] := hD
  refine W.widen (k := 3) (n := 1644) (by decide) (by decide) ?_
  refine va_putF (D := (dC, dI)) (ci := 4) (v := .ref q_1) (ty := .object "CommunityLevels$Graph") (C := RX4) (T := TX4) (N := 7) hx hb hts i_4 tyX4 tyX4_ok nmX4 hown hK hP hD hS 0 rfl rfl 0 (by decide) k_8 (fun _ h9 => h9) rfl hin rfl (by decide +kernel) rfl rfl (Nat.le_of_ble_eq_true rfl) dX4_init_12 (fun H locs hP hD hS => ?_)
  have hP : va_P (dC, dI) vwCl [(h, .inr (4, [.ref q_1, .null, .null, .null, .null, .null, .null])), (q_1, .inr (0, [.ref (u_3 0), .ref (u_3 1), .int 1, .int 0])), ((u_3 0), .inl (cI, 1600, .inl Zi)), ((u_3 1), .inl (cI, 40, .inl Zi))] H := hP
  have hD : va_D A [(h, .inr (4, [.ref q_1, .null, .null, .null, .null, .null, .null])), (q_1, .inr (0, [.ref (u_3 0), .ref (u_3 1), .int 1, .int 0])), ((u_3 0), .inl (cI, 1600, .inl Zi)), ((u_3 1), .inl (cI, 40, .inl Zi))] := hD
  refine lv_aload_n hx hb dX4_init_15 rfl (lv_at hl 0 rfl) ?_
  refine va_new (ci := 1) (fs := [.null, .null, .null, .null, .null]) (C := RX1) (T := TX1) (N := 5) hx hb hts i_1 tyX1 tyX1_ok hown k_9 k_10 k_11 hK hP hD hS hA rfl (by decide) (Nat.le_of_ble_eq_true rfl) (Nat.le_of_ble_eq_true rfl) dX4_init_16 (fun q_4 H hP hD hS => ?_)
  refine W.widen (k := 4) (n := 1649) (by decide) (by decide) ?_
  have hP : va_P (dC, dI) vwCl [(h, .inr (4, [.ref q_1, .null, .null, .null, .null, .null, .null])), (q_1, .inr (0, [.ref (u_3 0), .ref (u_3 1), .int 1, .int 0])), ((u_3 0), .inl (cI, 1600, .inl Zi)), ((u_3 1), .inl (cI, 40, .inl Zi)), (q_4, .inr (1, [.null, .null, .null, .null, .null]))] H := hP
  have hD : va_D A [(h, .inr (4, [.ref q_1, .null, .null, .null, .null, .null, .null])), (q_1, .inr (0, [.ref (u_3 0), .ref (u_3 1), .int 1, .int 0])), ((u_3 0), .inl (cI, 1600, .inl Zi)), ((u_3 1), .inl (cI, 40, .inl Zi)), (q_4, .inr (1, [.null, .null, .null, .null, .null]))] := hD
  refine lv_dup hx hb dX4_init_19 rfl ?_
  have hPc := hP.sub (ws' := [(q_4, .inr (1, [.null, .null, .null, .null, .null]))]) [4] rfl
  have hDc := hD.sub (ws' := [(q_4, .inr (1, [.null, .null, .null, .null, .null]))]) [4] (by decide) rfl
  have hFc := va_free (wc := [(q_4, .inr (1, [.null, .null, .null, .null, .null]))]) hD hS hA [4] rfl
  refine va_callv (va_runI (As := []) (rest := [.ref q_4, .ref h]) ⟨hx, hb, hml, hown, hts⟩ (c_X1_init l dC dI cI cJ q_4 H.size) (cwI 0 hts gX4_init_X1_init rfl rfl rfl k_11 k_12 k_13 rfl (by decide +kernel) ⟨Nat.le_of_ble_eq_true rfl, Nat.le_of_ble_eq_true rfl⟩) ⟨fun a U g mk q => by obtain ⟨q0, q1, qP, qK, qD⟩ := q; exact ⟨q0, q1, qP, va_K.moved (u := U) (U := U.calling g mk a) (Vm.Alike.refl U.vm) qK, qD⟩, fun U hU hW => ⟨rfl, by rw [hU], by rw [hU]; exact hPc, va_K.moved hW.alike hK, hDc.weaken (fun _ _ _ _ => trivial)⟩⟩ rfl rfl hl.1 rfl (lv_room (Nat.le_of_ble_eq_true rfl)) dX4_init_20 ⟨Nat.le_of_ble_eq_true rfl, Nat.le_of_ble_eq_true rfl⟩) hS (fun q _ h => hFc q h) hFc (fun u_6 t H1 locs ht hvm hw hB hz1 hk1 hS => ?_)
  obtain ⟨hP1, hD1⟩ := hB
  rw [ht] at hP1
  obtain ⟨hP, hD⟩ := va_join (wr := [(h, .inr (4, [.ref q_1, .null, .null, .null, .null, .null, .null])), (q_1, .inr (0, [.ref (u_3 0), .ref (u_3 1), .int 1, .int 0])), ((u_3 0), .inl (cI, 1600, .inl Zi)), ((u_3 1), .inl (cI, 40, .inl Zi))]) (w1 := [(q_4, .inr (1, [.ref (u_6 0), .ref (u_6 1), .ref (u_6 2), .ref (u_6 3), .ref (u_6 4)])), ((u_6 0), .inl (cI, 40, .inl Zi)), ((u_6 1), .inl (cI, 40, .inl Zi)), ((u_6 2), .inl (cI, 40, .inl Zi)), ((u_6 3), .inl (cI, 40, .inl Zi)), ((u_6 4), .inl (cI, 40, .inl Zi))]) hP hD [4] [0, 1, 2, 3] rfl rfl (by decide) (by decide) hk1 hFc hP1 hD1
  generalize H1 = H at hP hS ⊢
  have hP : va_P (dC, dI) vwCl [(h, .inr (4, [.ref q_1, .null, .null, .null, .null, .null, .null])), (q_1, .inr (0, [.ref (u_3 0), .ref (u_3 1), .int 1, .int 0])), ((u_3 0), .inl (cI, 1600, .inl Zi)), ((u_3 1), .inl (cI, 40, .inl Zi)), (q_4, .inr (1, [.ref (u_6 0), .ref (u_6 1), .ref (u_6 2), .ref (u_6 3), .ref (u_6 4)])), ((u_6 0), .inl (cI, 40, .inl Zi)), ((u_6 1), .inl (cI, 40, .inl Zi)), ((u_6 2), .inl (cI, 40, .inl Zi)), ((u_6 3), .inl (cI, 40, .inl Zi)), ((u_6 4), .inl (cI, 40, .inl Zi))] H := hP
  have hD : va_D A [(h, .inr (4, [.ref q_1, .null, .null, .null, .null, .null, .null])), (q_1, .inr (0, [.ref (u_3 0), .ref (u_3 1), .int 1, .int 0])), ((u_3 0), .inl (cI, 1600, .inl Zi)), ((u_3 1), .inl (cI, 40, .inl Zi)), (q_4, .inr (1, [.ref (u_6 0), .ref (u_6 1), .ref (u_6 2), .ref (u_6 3), .ref (u_6 4)])), ((u_6 0), .inl (cI, 40, .inl Zi)), ((u_6 1), .inl (cI, 40, .inl Zi)), ((u_6 2), .inl (cI, 40, .inl Zi)), ((u_6 3), .inl (cI, 40, .inl Zi)), ((u_6 4), .inl (cI, 40, .inl Zi))] := hD
  refine W.widen (k := 9) (n := 1849) (by decide) (by decide) ?_
  refine va_putF (D := (dC, dI)) (ci := 4) (v := .ref q_4) (ty := .object "CommunityLevels$Groups") (C := RX4) (T := TX4) (N := 7) hx hb hts i_4 tyX4 tyX4_ok nmX4 hown hK hP hD hS 0 rfl rfl 1 (by decide) k_14 (fun _ h9 => h9) rfl hin rfl (by decide +kernel) rfl rfl (Nat.le_of_ble_eq_true rfl) dX4_init_23 (fun H locs hP hD hS => ?_)
  have hP : va_P (dC, dI) vwCl [(h, .inr (4, [.ref q_1, .ref q_4, .null, .null, .null, .null, .null])), (q_1, .inr (0, [.ref (u_3 0), .ref (u_3 1), .int 1, .int 0])), ((u_3 0), .inl (cI, 1600, .inl Zi)), ((u_3 1), .inl (cI, 40, .inl Zi)), (q_4, .inr (1, [.ref (u_6 0), .ref (u_6 1), .ref (u_6 2), .ref (u_6 3), .ref (u_6 4)])), ((u_6 0), .inl (cI, 40, .inl Zi)), ((u_6 1), .inl (cI, 40, .inl Zi)), ((u_6 2), .inl (cI, 40, .inl Zi)), ((u_6 3), .inl (cI, 40, .inl Zi)), ((u_6 4), .inl (cI, 40, .inl Zi))] H := hP
  have hD : va_D A [(h, .inr (4, [.ref q_1, .ref q_4, .null, .null, .null, .null, .null])), (q_1, .inr (0, [.ref (u_3 0), .ref (u_3 1), .int 1, .int 0])), ((u_3 0), .inl (cI, 1600, .inl Zi)), ((u_3 1), .inl (cI, 40, .inl Zi)), (q_4, .inr (1, [.ref (u_6 0), .ref (u_6 1), .ref (u_6 2), .ref (u_6 3), .ref (u_6 4)])), ((u_6 0), .inl (cI, 40, .inl Zi)), ((u_6 1), .inl (cI, 40, .inl Zi)), ((u_6 2), .inl (cI, 40, .inl Zi)), ((u_6 3), .inl (cI, 40, .inl Zi)), ((u_6 4), .inl (cI, 40, .inl Zi))] := hD
  refine lv_aload_n hx hb dX4_init_26 rfl (lv_at hl 0 rfl) ?_
  refine va_new (ci := 2) (fs := [.null, .null, .null, .int 0]) (C := RX2) (T := TX2) (N := 4) hx hb hts i_2 tyX2 tyX2_ok hown k_15 k_16 k_17 hK hP hD hS hA rfl (by decide) (Nat.le_of_ble_eq_true rfl) (Nat.le_of_ble_eq_true rfl) dX4_init_27 (fun q_7 H hP hD hS => ?_)
  refine W.widen (k := 10) (n := 1853) (by decide) (by decide) ?_
  have hP : va_P (dC, dI) vwCl [(h, .inr (4, [.ref q_1, .ref q_4, .null, .null, .null, .null, .null])), (q_1, .inr (0, [.ref (u_3 0), .ref (u_3 1), .int 1, .int 0])), ((u_3 0), .inl (cI, 1600, .inl Zi)), ((u_3 1), .inl (cI, 40, .inl Zi)), (q_4, .inr (1, [.ref (u_6 0), .ref (u_6 1), .ref (u_6 2), .ref (u_6 3), .ref (u_6 4)])), ((u_6 0), .inl (cI, 40, .inl Zi)), ((u_6 1), .inl (cI, 40, .inl Zi)), ((u_6 2), .inl (cI, 40, .inl Zi)), ((u_6 3), .inl (cI, 40, .inl Zi)), ((u_6 4), .inl (cI, 40, .inl Zi)), (q_7, .inr (2, [.null, .null, .null, .int 0]))] H := hP
  have hD : va_D A [(h, .inr (4, [.ref q_1, .ref q_4, .null, .null, .null, .null, .null])), (q_1, .inr (0, [.ref (u_3 0), .ref (u_3 1), .int 1, .int 0])), ((u_3 0), .inl (cI, 1600, .inl Zi)), ((u_3 1), .inl (cI, 40, .inl Zi)), (q_4, .inr (1, [.ref (u_6 0), .ref (u_6 1), .ref (u_6 2), .ref (u_6 3), .ref (u_6 4)])), ((u_6 0), .inl (cI, 40, .inl Zi)), ((u_6 1), .inl (cI, 40, .inl Zi)), ((u_6 2), .inl (cI, 40, .inl Zi)), ((u_6 3), .inl (cI, 40, .inl Zi)), ((u_6 4), .inl (cI, 40, .inl Zi)), (q_7, .inr (2, [.null, .null, .null, .int 0]))] := hD
  refine lv_dup hx hb dX4_init_30 rfl ?_
  have hPc := hP.sub (ws' := [(q_7, .inr (2, [.null, .null, .null, .int 0]))]) [10] rfl
  have hDc := hD.sub (ws' := [(q_7, .inr (2, [.null, .null, .null, .int 0]))]) [10] (by decide) rfl
  have hFc := va_free (wc := [(q_7, .inr (2, [.null, .null, .null, .int 0]))]) hD hS hA [10] rfl
  refine va_callv (va_runI (As := []) (rest := [.ref q_7, .ref h]) ⟨hx, hb, hml, hown, hts⟩ (c_X2_init l dC dI cI cJ q_7 H.size) (cwI 0 hts gX4_init_X2_init rfl rfl rfl k_17 k_18 k_19 rfl (by decide +kernel) ⟨Nat.le_of_ble_eq_true rfl, Nat.le_of_ble_eq_true rfl⟩) ⟨fun a U g mk q => by obtain ⟨q0, q1, qP, qK, qD⟩ := q; exact ⟨q0, q1, qP, va_K.moved (u := U) (U := U.calling g mk a) (Vm.Alike.refl U.vm) qK, qD⟩, fun U hU hW => ⟨rfl, by rw [hU], by rw [hU]; exact hPc, va_K.moved hW.alike hK, hDc.weaken (fun _ _ _ _ => trivial)⟩⟩ rfl rfl hl.1 rfl (lv_room (Nat.le_of_ble_eq_true rfl)) dX4_init_31 ⟨Nat.le_of_ble_eq_true rfl, Nat.le_of_ble_eq_true rfl⟩) hS (fun q _ h => hFc q h) hFc (fun u_9 t H1 locs ht hvm hw hB hz1 hk1 hS => ?_)
  obtain ⟨hP1, hD1⟩ := hB
  rw [ht] at hP1
  obtain ⟨hP, hD⟩ := va_join (wr := [(h, .inr (4, [.ref q_1, .ref q_4, .null, .null, .null, .null, .null])), (q_1, .inr (0, [.ref (u_3 0), .ref (u_3 1), .int 1, .int 0])), ((u_3 0), .inl (cI, 1600, .inl Zi)), ((u_3 1), .inl (cI, 40, .inl Zi)), (q_4, .inr (1, [.ref (u_6 0), .ref (u_6 1), .ref (u_6 2), .ref (u_6 3), .ref (u_6 4)])), ((u_6 0), .inl (cI, 40, .inl Zi)), ((u_6 1), .inl (cI, 40, .inl Zi)), ((u_6 2), .inl (cI, 40, .inl Zi)), ((u_6 3), .inl (cI, 40, .inl Zi)), ((u_6 4), .inl (cI, 40, .inl Zi))]) (w1 := [(q_7, .inr (2, [.ref (u_9 0), .ref (u_9 1), .ref (u_9 2), .int 0])), ((u_9 0), .inl (cI, 160, .inl Zi)), ((u_9 1), .inl (cI, 1600, .inl Zi)), ((u_9 2), .inl (cJ, 40, .inr (.inl Zl)))]) hP hD [10] [0, 1, 2, 3, 4, 5, 6, 7, 8, 9] rfl rfl (by decide) (by decide) hk1 hFc hP1 hD1
  generalize H1 = H at hP hS ⊢
  have hP : va_P (dC, dI) vwCl [(h, .inr (4, [.ref q_1, .ref q_4, .null, .null, .null, .null, .null])), (q_1, .inr (0, [.ref (u_3 0), .ref (u_3 1), .int 1, .int 0])), ((u_3 0), .inl (cI, 1600, .inl Zi)), ((u_3 1), .inl (cI, 40, .inl Zi)), (q_4, .inr (1, [.ref (u_6 0), .ref (u_6 1), .ref (u_6 2), .ref (u_6 3), .ref (u_6 4)])), ((u_6 0), .inl (cI, 40, .inl Zi)), ((u_6 1), .inl (cI, 40, .inl Zi)), ((u_6 2), .inl (cI, 40, .inl Zi)), ((u_6 3), .inl (cI, 40, .inl Zi)), ((u_6 4), .inl (cI, 40, .inl Zi)), (q_7, .inr (2, [.ref (u_9 0), .ref (u_9 1), .ref (u_9 2), .int 0])), ((u_9 0), .inl (cI, 160, .inl Zi)), ((u_9 1), .inl (cI, 1600, .inl Zi)), ((u_9 2), .inl (cJ, 40, .inr (.inl Zl)))] H := hP
  have hD : va_D A [(h, .inr (4, [.ref q_1, .ref q_4, .null, .null, .null, .null, .null])), (q_1, .inr (0, [.ref (u_3 0), .ref (u_3 1), .int 1, .int 0])), ((u_3 0), .inl (cI, 1600, .inl Zi)), ((u_3 1), .inl (cI, 40, .inl Zi)), (q_4, .inr (1, [.ref (u_6 0), .ref (u_6 1), .ref (u_6 2), .ref (u_6 3), .ref (u_6 4)])), ((u_6 0), .inl (cI, 40, .inl Zi)), ((u_6 1), .inl (cI, 40, .inl Zi)), ((u_6 2), .inl (cI, 40, .inl Zi)), ((u_6 3), .inl (cI, 40, .inl Zi)), ((u_6 4), .inl (cI, 40, .inl Zi)), (q_7, .inr (2, [.ref (u_9 0), .ref (u_9 1), .ref (u_9 2), .int 0])), ((u_9 0), .inl (cI, 160, .inl Zi)), ((u_9 1), .inl (cI, 1600, .inl Zi)), ((u_9 2), .inl (cJ, 40, .inr (.inl Zl)))] := hD
  refine W.widen (k := 13) (n := 3653) (by decide) (by decide) ?_
  refine va_putF (D := (dC, dI)) (ci := 4) (v := .ref q_7) (ty := .object "CommunityLevels$LevelTable") (C := RX4) (T := TX4) (N := 7) hx hb hts i_4 tyX4 tyX4_ok nmX4 hown hK hP hD hS 0 rfl rfl 2 (by decide) k_20 (fun _ h9 => h9) rfl hin rfl (by decide +kernel) rfl rfl (Nat.le_of_ble_eq_true rfl) dX4_init_34 (fun H locs hP hD hS => ?_)
  have hP : va_P (dC, dI) vwCl [(h, .inr (4, [.ref q_1, .ref q_4, .ref q_7, .null, .null, .null, .null])), (q_1, .inr (0, [.ref (u_3 0), .ref (u_3 1), .int 1, .int 0])), ((u_3 0), .inl (cI, 1600, .inl Zi)), ((u_3 1), .inl (cI, 40, .inl Zi)), (q_4, .inr (1, [.ref (u_6 0), .ref (u_6 1), .ref (u_6 2), .ref (u_6 3), .ref (u_6 4)])), ((u_6 0), .inl (cI, 40, .inl Zi)), ((u_6 1), .inl (cI, 40, .inl Zi)), ((u_6 2), .inl (cI, 40, .inl Zi)), ((u_6 3), .inl (cI, 40, .inl Zi)), ((u_6 4), .inl (cI, 40, .inl Zi)), (q_7, .inr (2, [.ref (u_9 0), .ref (u_9 1), .ref (u_9 2), .int 0])), ((u_9 0), .inl (cI, 160, .inl Zi)), ((u_9 1), .inl (cI, 1600, .inl Zi)), ((u_9 2), .inl (cJ, 40, .inr (.inl Zl)))] H := hP
  have hD : va_D A [(h, .inr (4, [.ref q_1, .ref q_4, .ref q_7, .null, .null, .null, .null])), (q_1, .inr (0, [.ref (u_3 0), .ref (u_3 1), .int 1, .int 0])), ((u_3 0), .inl (cI, 1600, .inl Zi)), ((u_3 1), .inl (cI, 40, .inl Zi)), (q_4, .inr (1, [.ref (u_6 0), .ref (u_6 1), .ref (u_6 2), .ref (u_6 3), .ref (u_6 4)])), ((u_6 0), .inl (cI, 40, .inl Zi)), ((u_6 1), .inl (cI, 40, .inl Zi)), ((u_6 2), .inl (cI, 40, .inl Zi)), ((u_6 3), .inl (cI, 40, .inl Zi)), ((u_6 4), .inl (cI, 40, .inl Zi)), (q_7, .inr (2, [.ref (u_9 0), .ref (u_9 1), .ref (u_9 2), .int 0])), ((u_9 0), .inl (cI, 160, .inl Zi)), ((u_9 1), .inl (cI, 1600, .inl Zi)), ((u_9 2), .inl (cJ, 40, .inr (.inl Zl)))] := hD
  refine lv_aload_n hx hb dX4_init_37 rfl (lv_at hl 0 rfl) ?_
  refine va_new (ci := 3) (fs := [.null, .null, .int 0]) (C := RX3) (T := TX3) (N := 3) hx hb hts i_3 tyX3 tyX3_ok hown k_21 k_22 k_23 hK hP hD hS hA rfl (by decide) (Nat.le_of_ble_eq_true rfl) (Nat.le_of_ble_eq_true rfl) dX4_init_38 (fun q_10 H hP hD hS => ?_)
  refine W.widen (k := 14) (n := 3656) (by decide) (by decide) ?_
  have hP : va_P (dC, dI) vwCl [(h, .inr (4, [.ref q_1, .ref q_4, .ref q_7, .null, .null, .null, .null])), (q_1, .inr (0, [.ref (u_3 0), .ref (u_3 1), .int 1, .int 0])), ((u_3 0), .inl (cI, 1600, .inl Zi)), ((u_3 1), .inl (cI, 40, .inl Zi)), (q_4, .inr (1, [.ref (u_6 0), .ref (u_6 1), .ref (u_6 2), .ref (u_6 3), .ref (u_6 4)])), ((u_6 0), .inl (cI, 40, .inl Zi)), ((u_6 1), .inl (cI, 40, .inl Zi)), ((u_6 2), .inl (cI, 40, .inl Zi)), ((u_6 3), .inl (cI, 40, .inl Zi)), ((u_6 4), .inl (cI, 40, .inl Zi)), (q_7, .inr (2, [.ref (u_9 0), .ref (u_9 1), .ref (u_9 2), .int 0])), ((u_9 0), .inl (cI, 160, .inl Zi)), ((u_9 1), .inl (cI, 1600, .inl Zi)), ((u_9 2), .inl (cJ, 40, .inr (.inl Zl))), (q_10, .inr (3, [.null, .null, .int 0]))] H := hP
  have hD : va_D A [(h, .inr (4, [.ref q_1, .ref q_4, .ref q_7, .null, .null, .null, .null])), (q_1, .inr (0, [.ref (u_3 0), .ref (u_3 1), .int 1, .int 0])), ((u_3 0), .inl (cI, 1600, .inl Zi)), ((u_3 1), .inl (cI, 40, .inl Zi)), (q_4, .inr (1, [.ref (u_6 0), .ref (u_6 1), .ref (u_6 2), .ref (u_6 3), .ref (u_6 4)])), ((u_6 0), .inl (cI, 40, .inl Zi)), ((u_6 1), .inl (cI, 40, .inl Zi)), ((u_6 2), .inl (cI, 40, .inl Zi)), ((u_6 3), .inl (cI, 40, .inl Zi)), ((u_6 4), .inl (cI, 40, .inl Zi)), (q_7, .inr (2, [.ref (u_9 0), .ref (u_9 1), .ref (u_9 2), .int 0])), ((u_9 0), .inl (cI, 160, .inl Zi)), ((u_9 1), .inl (cI, 1600, .inl Zi)), ((u_9 2), .inl (cJ, 40, .inr (.inl Zl))), (q_10, .inr (3, [.null, .null, .int 0]))] := hD
  refine lv_dup hx hb dX4_init_41 rfl ?_
  have hPc := hP.sub (ws' := [(q_10, .inr (3, [.null, .null, .int 0]))]) [14] rfl
  have hDc := hD.sub (ws' := [(q_10, .inr (3, [.null, .null, .int 0]))]) [14] (by decide) rfl
  have hFc := va_free (wc := [(q_10, .inr (3, [.null, .null, .int 0]))]) hD hS hA [14] rfl
  refine va_callv (va_runI (As := []) (rest := [.ref q_10, .ref h]) ⟨hx, hb, hml, hown, hts⟩ (c_X3_init l dC dI cI cJ q_10 H.size) (cwI 0 hts gX4_init_X3_init rfl rfl rfl k_23 k_24 k_25 rfl (by decide +kernel) ⟨Nat.le_of_ble_eq_true rfl, Nat.le_of_ble_eq_true rfl⟩) ⟨fun a U g mk q => by obtain ⟨q0, q1, qP, qK, qD⟩ := q; exact ⟨q0, q1, qP, va_K.moved (u := U) (U := U.calling g mk a) (Vm.Alike.refl U.vm) qK, qD⟩, fun U hU hW => ⟨rfl, by rw [hU], by rw [hU]; exact hPc, va_K.moved hW.alike hK, hDc.weaken (fun _ _ _ _ => trivial)⟩⟩ rfl rfl hl.1 rfl (lv_room (Nat.le_of_ble_eq_true rfl)) dX4_init_42 ⟨Nat.le_of_ble_eq_true rfl, Nat.le_of_ble_eq_true rfl⟩) hS (fun q _ h => hFc q h) hFc (fun u_12 t H1 locs ht hvm hw hB hz1 hk1 hS => ?_)
  obtain ⟨hP1, hD1⟩ := hB
  rw [ht] at hP1
  obtain ⟨hP, hD⟩ := va_join (wr := [(h, .inr (4, [.ref q_1, .ref q_4, .ref q_7, .null, .null, .null, .null])), (q_1, .inr (0, [.ref (u_3 0), .ref (u_3 1), .int 1, .int 0])), ((u_3 0), .inl (cI, 1600, .inl Zi)), ((u_3 1), .inl (cI, 40, .inl Zi)), (q_4, .inr (1, [.ref (u_6 0), .ref (u_6 1), .ref (u_6 2), .ref (u_6 3), .ref (u_6 4)])), ((u_6 0), .inl (cI, 40, .inl Zi)), ((u_6 1), .inl (cI, 40, .inl Zi)), ((u_6 2), .inl (cI, 40, .inl Zi)), ((u_6 3), .inl (cI, 40, .inl Zi)), ((u_6 4), .inl (cI, 40, .inl Zi)), (q_7, .inr (2, [.ref (u_9 0), .ref (u_9 1), .ref (u_9 2), .int 0])), ((u_9 0), .inl (cI, 160, .inl Zi)), ((u_9 1), .inl (cI, 1600, .inl Zi)), ((u_9 2), .inl (cJ, 40, .inr (.inl Zl)))]) (w1 := [(q_10, .inr (3, [.ref (u_12 0), .ref (u_12 1), .int 0])), ((u_12 0), .inl (cI, 1600, .inl Zi)), ((u_12 1), .inl (cJ, 400, .inr (.inl Zl)))]) hP hD [14] [0, 1, 2, 3, 4, 5, 6, 7, 8, 9, 10, 11, 12, 13] rfl rfl (by decide) (by decide) hk1 hFc hP1 hD1
  generalize H1 = H at hP hS ⊢
  have hP : va_P (dC, dI) vwCl [(h, .inr (4, [.ref q_1, .ref q_4, .ref q_7, .null, .null, .null, .null])), (q_1, .inr (0, [.ref (u_3 0), .ref (u_3 1), .int 1, .int 0])), ((u_3 0), .inl (cI, 1600, .inl Zi)), ((u_3 1), .inl (cI, 40, .inl Zi)), (q_4, .inr (1, [.ref (u_6 0), .ref (u_6 1), .ref (u_6 2), .ref (u_6 3), .ref (u_6 4)])), ((u_6 0), .inl (cI, 40, .inl Zi)), ((u_6 1), .inl (cI, 40, .inl Zi)), ((u_6 2), .inl (cI, 40, .inl Zi)), ((u_6 3), .inl (cI, 40, .inl Zi)), ((u_6 4), .inl (cI, 40, .inl Zi)), (q_7, .inr (2, [.ref (u_9 0), .ref (u_9 1), .ref (u_9 2), .int 0])), ((u_9 0), .inl (cI, 160, .inl Zi)), ((u_9 1), .inl (cI, 1600, .inl Zi)), ((u_9 2), .inl (cJ, 40, .inr (.inl Zl))), (q_10, .inr (3, [.ref (u_12 0), .ref (u_12 1), .int 0])), ((u_12 0), .inl (cI, 1600, .inl Zi)), ((u_12 1), .inl (cJ, 400, .inr (.inl Zl)))] H := hP
  have hD : va_D A [(h, .inr (4, [.ref q_1, .ref q_4, .ref q_7, .null, .null, .null, .null])), (q_1, .inr (0, [.ref (u_3 0), .ref (u_3 1), .int 1, .int 0])), ((u_3 0), .inl (cI, 1600, .inl Zi)), ((u_3 1), .inl (cI, 40, .inl Zi)), (q_4, .inr (1, [.ref (u_6 0), .ref (u_6 1), .ref (u_6 2), .ref (u_6 3), .ref (u_6 4)])), ((u_6 0), .inl (cI, 40, .inl Zi)), ((u_6 1), .inl (cI, 40, .inl Zi)), ((u_6 2), .inl (cI, 40, .inl Zi)), ((u_6 3), .inl (cI, 40, .inl Zi)), ((u_6 4), .inl (cI, 40, .inl Zi)), (q_7, .inr (2, [.ref (u_9 0), .ref (u_9 1), .ref (u_9 2), .int 0])), ((u_9 0), .inl (cI, 160, .inl Zi)), ((u_9 1), .inl (cI, 1600, .inl Zi)), ((u_9 2), .inl (cJ, 40, .inr (.inl Zl))), (q_10, .inr (3, [.ref (u_12 0), .ref (u_12 1), .int 0])), ((u_12 0), .inl (cI, 1600, .inl Zi)), ((u_12 1), .inl (cJ, 400, .inr (.inl Zl)))] := hD
  refine W.widen (k := 16) (n := 5656) (by decide) (by decide) ?_
  refine va_putF (D := (dC, dI)) (ci := 4) (v := .ref q_10) (ty := .object "CommunityLevels$MoveLog") (C := RX4) (T := TX4) (N := 7) hx hb hts i_4 tyX4 tyX4_ok nmX4 hown hK hP hD hS 0 rfl rfl 3 (by decide) k_26 (fun _ h9 => h9) rfl hin rfl (by decide +kernel) rfl rfl (Nat.le_of_ble_eq_true rfl) dX4_init_45 (fun H locs hP hD hS => ?_)
  have hP : va_P (dC, dI) vwCl [(h, .inr (4, [.ref q_1, .ref q_4, .ref q_7, .ref q_10, .null, .null, .null])), (q_1, .inr (0, [.ref (u_3 0), .ref (u_3 1), .int 1, .int 0])), ((u_3 0), .inl (cI, 1600, .inl Zi)), ((u_3 1), .inl (cI, 40, .inl Zi)), (q_4, .inr (1, [.ref (u_6 0), .ref (u_6 1), .ref (u_6 2), .ref (u_6 3), .ref (u_6 4)])), ((u_6 0), .inl (cI, 40, .inl Zi)), ((u_6 1), .inl (cI, 40, .inl Zi)), ((u_6 2), .inl (cI, 40, .inl Zi)), ((u_6 3), .inl (cI, 40, .inl Zi)), ((u_6 4), .inl (cI, 40, .inl Zi)), (q_7, .inr (2, [.ref (u_9 0), .ref (u_9 1), .ref (u_9 2), .int 0])), ((u_9 0), .inl (cI, 160, .inl Zi)), ((u_9 1), .inl (cI, 1600, .inl Zi)), ((u_9 2), .inl (cJ, 40, .inr (.inl Zl))), (q_10, .inr (3, [.ref (u_12 0), .ref (u_12 1), .int 0])), ((u_12 0), .inl (cI, 1600, .inl Zi)), ((u_12 1), .inl (cJ, 400, .inr (.inl Zl)))] H := hP
  have hD : va_D A [(h, .inr (4, [.ref q_1, .ref q_4, .ref q_7, .ref q_10, .null, .null, .null])), (q_1, .inr (0, [.ref (u_3 0), .ref (u_3 1), .int 1, .int 0])), ((u_3 0), .inl (cI, 1600, .inl Zi)), ((u_3 1), .inl (cI, 40, .inl Zi)), (q_4, .inr (1, [.ref (u_6 0), .ref (u_6 1), .ref (u_6 2), .ref (u_6 3), .ref (u_6 4)])), ((u_6 0), .inl (cI, 40, .inl Zi)), ((u_6 1), .inl (cI, 40, .inl Zi)), ((u_6 2), .inl (cI, 40, .inl Zi)), ((u_6 3), .inl (cI, 40, .inl Zi)), ((u_6 4), .inl (cI, 40, .inl Zi)), (q_7, .inr (2, [.ref (u_9 0), .ref (u_9 1), .ref (u_9 2), .int 0])), ((u_9 0), .inl (cI, 160, .inl Zi)), ((u_9 1), .inl (cI, 1600, .inl Zi)), ((u_9 2), .inl (cJ, 40, .inr (.inl Zl))), (q_10, .inr (3, [.ref (u_12 0), .ref (u_12 1), .int 0])), ((u_12 0), .inl (cI, 1600, .inl Zi)), ((u_12 1), .inl (cJ, 400, .inr (.inl Zl)))] := hD
  refine lv_aload_n hx hb dX4_init_48 rfl (lv_at hl 0 rfl) ?_
  refine va_new (ci := 0) (fs := [.null, .null, .int 0, .int 0]) (C := RX0) (T := TX0) (N := 4) hx hb hts i_0 tyX0 tyX0_ok hown k_3 k_4 k_5 hK hP hD hS hA rfl (by decide) (Nat.le_of_ble_eq_true rfl) (Nat.le_of_ble_eq_true rfl) dX4_init_49 (fun q_13 H hP hD hS => ?_)
  refine W.widen (k := 17) (n := 5660) (by decide) (by decide) ?_
  have hP : va_P (dC, dI) vwCl [(h, .inr (4, [.ref q_1, .ref q_4, .ref q_7, .ref q_10, .null, .null, .null])), (q_1, .inr (0, [.ref (u_3 0), .ref (u_3 1), .int 1, .int 0])), ((u_3 0), .inl (cI, 1600, .inl Zi)), ((u_3 1), .inl (cI, 40, .inl Zi)), (q_4, .inr (1, [.ref (u_6 0), .ref (u_6 1), .ref (u_6 2), .ref (u_6 3), .ref (u_6 4)])), ((u_6 0), .inl (cI, 40, .inl Zi)), ((u_6 1), .inl (cI, 40, .inl Zi)), ((u_6 2), .inl (cI, 40, .inl Zi)), ((u_6 3), .inl (cI, 40, .inl Zi)), ((u_6 4), .inl (cI, 40, .inl Zi)), (q_7, .inr (2, [.ref (u_9 0), .ref (u_9 1), .ref (u_9 2), .int 0])), ((u_9 0), .inl (cI, 160, .inl Zi)), ((u_9 1), .inl (cI, 1600, .inl Zi)), ((u_9 2), .inl (cJ, 40, .inr (.inl Zl))), (q_10, .inr (3, [.ref (u_12 0), .ref (u_12 1), .int 0])), ((u_12 0), .inl (cI, 1600, .inl Zi)), ((u_12 1), .inl (cJ, 400, .inr (.inl Zl))), (q_13, .inr (0, [.null, .null, .int 0, .int 0]))] H := hP
  have hD : va_D A [(h, .inr (4, [.ref q_1, .ref q_4, .ref q_7, .ref q_10, .null, .null, .null])), (q_1, .inr (0, [.ref (u_3 0), .ref (u_3 1), .int 1, .int 0])), ((u_3 0), .inl (cI, 1600, .inl Zi)), ((u_3 1), .inl (cI, 40, .inl Zi)), (q_4, .inr (1, [.ref (u_6 0), .ref (u_6 1), .ref (u_6 2), .ref (u_6 3), .ref (u_6 4)])), ((u_6 0), .inl (cI, 40, .inl Zi)), ((u_6 1), .inl (cI, 40, .inl Zi)), ((u_6 2), .inl (cI, 40, .inl Zi)), ((u_6 3), .inl (cI, 40, .inl Zi)), ((u_6 4), .inl (cI, 40, .inl Zi)), (q_7, .inr (2, [.ref (u_9 0), .ref (u_9 1), .ref (u_9 2), .int 0])), ((u_9 0), .inl (cI, 160, .inl Zi)), ((u_9 1), .inl (cI, 1600, .inl Zi)), ((u_9 2), .inl (cJ, 40, .inr (.inl Zl))), (q_10, .inr (3, [.ref (u_12 0), .ref (u_12 1), .int 0])), ((u_12 0), .inl (cI, 1600, .inl Zi)), ((u_12 1), .inl (cJ, 400, .inr (.inl Zl))), (q_13, .inr (0, [.null, .null, .int 0, .int 0]))] := hD
  refine lv_dup hx hb dX4_init_52 rfl ?_
  have hPc := hP.sub (ws' := [(q_13, .inr (0, [.null, .null, .int 0, .int 0]))]) [17] rfl
  have hDc := hD.sub (ws' := [(q_13, .inr (0, [.null, .null, .int 0, .int 0]))]) [17] (by decide) rfl
  have hFc := va_free (wc := [(q_13, .inr (0, [.null, .null, .int 0, .int 0]))]) hD hS hA [17] rfl
  refine va_callv (va_runI (As := []) (rest := [.ref q_13, .ref h]) ⟨hx, hb, hml, hown, hts⟩ (c_X0_init l dC dI cI cJ q_13 H.size) (cwI 0 hts gX4_init_X0_init rfl rfl rfl k_5 k_6 k_7 rfl (by decide +kernel) ⟨Nat.le_of_ble_eq_true rfl, Nat.le_of_ble_eq_true rfl⟩) ⟨fun a U g mk q => by obtain ⟨q0, q1, qP, qK, qD⟩ := q; exact ⟨q0, q1, qP, va_K.moved (u := U) (U := U.calling g mk a) (Vm.Alike.refl U.vm) qK, qD⟩, fun U hU hW => ⟨rfl, by rw [hU], by rw [hU]; exact hPc, va_K.moved hW.alike hK, hDc.weaken (fun _ _ _ _ => trivial)⟩⟩ rfl rfl hl.1 rfl (lv_room (Nat.le_of_ble_eq_true rfl)) dX4_init_53 ⟨Nat.le_of_ble_eq_true rfl, Nat.le_of_ble_eq_true rfl⟩) hS (fun q _ h => hFc q h) hFc (fun u_15 t H1 locs ht hvm hw hB hz1 hk1 hS => ?_)
  obtain ⟨hP1, hD1⟩ := hB
  rw [ht] at hP1
  obtain ⟨hP, hD⟩ := va_join (wr := [(h, .inr (4, [.ref q_1, .ref q_4, .ref q_7, .ref q_10, .null, .null, .null])), (q_1, .inr (0, [.ref (u_3 0), .ref (u_3 1), .int 1, .int 0])), ((u_3 0), .inl (cI, 1600, .inl Zi)), ((u_3 1), .inl (cI, 40, .inl Zi)), (q_4, .inr (1, [.ref (u_6 0), .ref (u_6 1), .ref (u_6 2), .ref (u_6 3), .ref (u_6 4)])), ((u_6 0), .inl (cI, 40, .inl Zi)), ((u_6 1), .inl (cI, 40, .inl Zi)), ((u_6 2), .inl (cI, 40, .inl Zi)), ((u_6 3), .inl (cI, 40, .inl Zi)), ((u_6 4), .inl (cI, 40, .inl Zi)), (q_7, .inr (2, [.ref (u_9 0), .ref (u_9 1), .ref (u_9 2), .int 0])), ((u_9 0), .inl (cI, 160, .inl Zi)), ((u_9 1), .inl (cI, 1600, .inl Zi)), ((u_9 2), .inl (cJ, 40, .inr (.inl Zl))), (q_10, .inr (3, [.ref (u_12 0), .ref (u_12 1), .int 0])), ((u_12 0), .inl (cI, 1600, .inl Zi)), ((u_12 1), .inl (cJ, 400, .inr (.inl Zl)))]) (w1 := [(q_13, .inr (0, [.ref (u_15 0), .ref (u_15 1), .int 1, .int 0])), ((u_15 0), .inl (cI, 1600, .inl Zi)), ((u_15 1), .inl (cI, 40, .inl Zi))]) hP hD [17] [0, 1, 2, 3, 4, 5, 6, 7, 8, 9, 10, 11, 12, 13, 14, 15, 16] rfl rfl (by decide) (by decide) hk1 hFc hP1 hD1
  generalize H1 = H at hP hS ⊢
  have hP : va_P (dC, dI) vwCl [(h, .inr (4, [.ref q_1, .ref q_4, .ref q_7, .ref q_10, .null, .null, .null])), (q_1, .inr (0, [.ref (u_3 0), .ref (u_3 1), .int 1, .int 0])), ((u_3 0), .inl (cI, 1600, .inl Zi)), ((u_3 1), .inl (cI, 40, .inl Zi)), (q_4, .inr (1, [.ref (u_6 0), .ref (u_6 1), .ref (u_6 2), .ref (u_6 3), .ref (u_6 4)])), ((u_6 0), .inl (cI, 40, .inl Zi)), ((u_6 1), .inl (cI, 40, .inl Zi)), ((u_6 2), .inl (cI, 40, .inl Zi)), ((u_6 3), .inl (cI, 40, .inl Zi)), ((u_6 4), .inl (cI, 40, .inl Zi)), (q_7, .inr (2, [.ref (u_9 0), .ref (u_9 1), .ref (u_9 2), .int 0])), ((u_9 0), .inl (cI, 160, .inl Zi)), ((u_9 1), .inl (cI, 1600, .inl Zi)), ((u_9 2), .inl (cJ, 40, .inr (.inl Zl))), (q_10, .inr (3, [.ref (u_12 0), .ref (u_12 1), .int 0])), ((u_12 0), .inl (cI, 1600, .inl Zi)), ((u_12 1), .inl (cJ, 400, .inr (.inl Zl))), (q_13, .inr (0, [.ref (u_15 0), .ref (u_15 1), .int 1, .int 0])), ((u_15 0), .inl (cI, 1600, .inl Zi)), ((u_15 1), .inl (cI, 40, .inl Zi))] H := hP
  have hD : va_D A [(h, .inr (4, [.ref q_1, .ref q_4, .ref q_7, .ref q_10, .null, .null, .null])), (q_1, .inr (0, [.ref (u_3 0), .ref (u_3 1), .int 1, .int 0])), ((u_3 0), .inl (cI, 1600, .inl Zi)), ((u_3 1), .inl (cI, 40, .inl Zi)), (q_4, .inr (1, [.ref (u_6 0), .ref (u_6 1), .ref (u_6 2), .ref (u_6 3), .ref (u_6 4)])), ((u_6 0), .inl (cI, 40, .inl Zi)), ((u_6 1), .inl (cI, 40, .inl Zi)), ((u_6 2), .inl (cI, 40, .inl Zi)), ((u_6 3), .inl (cI, 40, .inl Zi)), ((u_6 4), .inl (cI, 40, .inl Zi)), (q_7, .inr (2, [.ref (u_9 0), .ref (u_9 1), .ref (u_9 2), .int 0])), ((u_9 0), .inl (cI, 160, .inl Zi)), ((u_9 1), .inl (cI, 1600, .inl Zi)), ((u_9 2), .inl (cJ, 40, .inr (.inl Zl))), (q_10, .inr (3, [.ref (u_12 0), .ref (u_12 1), .int 0])), ((u_12 0), .inl (cI, 1600, .inl Zi)), ((u_12 1), .inl (cJ, 400, .inr (.inl Zl))), (q_13, .inr (0, [.ref (u_15 0), .ref (u_15 1), .int 1, .int 0])), ((u_15 0), .inl (cI, 1600, .inl Zi)), ((u_15 1), .inl (cI, 40, .inl Zi))] := hD
  refine W.widen (k := 19) (n := 7300) (by decide) (by decide) ?_
  refine va_putF (D := (dC, dI)) (ci := 4) (v := .ref q_13) (ty := .object "CommunityLevels$Graph") (C := RX4) (T := TX4) (N := 7) hx hb hts i_4 tyX4 tyX4_ok nmX4 hown hK hP hD hS 0 rfl rfl 4 (by decide) k_27 (fun _ h9 => h9) rfl hin rfl (by decide +kernel) rfl rfl (Nat.le_of_ble_eq_true rfl) dX4_init_56 (fun H locs hP hD hS => ?_)
  have hP : va_P (dC, dI) vwCl [(h, .inr (4, [.ref q_1, .ref q_4, .ref q_7, .ref q_10, .ref q_13, .null, .null])), (q_1, .inr (0, [.ref (u_3 0), .ref (u_3 1), .int 1, .int 0])), ((u_3 0), .inl (cI, 1600, .inl Zi)), ((u_3 1), .inl (cI, 40, .inl Zi)), (q_4, .inr (1, [.ref (u_6 0), .ref (u_6 1), .ref (u_6 2), .ref (u_6 3), .ref (u_6 4)])), ((u_6 0), .inl (cI, 40, .inl Zi)), ((u_6 1), .inl (cI, 40, .inl Zi)), ((u_6 2), .inl (cI, 40, .inl Zi)), ((u_6 3), .inl (cI, 40, .inl Zi)), ((u_6 4), .inl (cI, 40, .inl Zi)), (q_7, .inr (2, [.ref (u_9 0), .ref (u_9 1), .ref (u_9 2), .int 0])), ((u_9 0), .inl (cI, 160, .inl Zi)), ((u_9 1), .inl (cI, 1600, .inl Zi)), ((u_9 2), .inl (cJ, 40, .inr (.inl Zl))), (q_10, .inr (3, [.ref (u_12 0), .ref (u_12 1), .int 0])), ((u_12 0), .inl (cI, 1600, .inl Zi)), ((u_12 1), .inl (cJ, 400, .inr (.inl Zl))), (q_13, .inr (0, [.ref (u_15 0), .ref (u_15 1), .int 1, .int 0])), ((u_15 0), .inl (cI, 1600, .inl Zi)), ((u_15 1), .inl (cI, 40, .inl Zi))] H := hP
  have hD : va_D A [(h, .inr (4, [.ref q_1, .ref q_4, .ref q_7, .ref q_10, .ref q_13, .null, .null])), (q_1, .inr (0, [.ref (u_3 0), .ref (u_3 1), .int 1, .int 0])), ((u_3 0), .inl (cI, 1600, .inl Zi)), ((u_3 1), .inl (cI, 40, .inl Zi)), (q_4, .inr (1, [.ref (u_6 0), .ref (u_6 1), .ref (u_6 2), .ref (u_6 3), .ref (u_6 4)])), ((u_6 0), .inl (cI, 40, .inl Zi)), ((u_6 1), .inl (cI, 40, .inl Zi)), ((u_6 2), .inl (cI, 40, .inl Zi)), ((u_6 3), .inl (cI, 40, .inl Zi)), ((u_6 4), .inl (cI, 40, .inl Zi)), (q_7, .inr (2, [.ref (u_9 0), .ref (u_9 1), .ref (u_9 2), .int 0])), ((u_9 0), .inl (cI, 160, .inl Zi)), ((u_9 1), .inl (cI, 1600, .inl Zi)), ((u_9 2), .inl (cJ, 40, .inr (.inl Zl))), (q_10, .inr (3, [.ref (u_12 0), .ref (u_12 1), .int 0])), ((u_12 0), .inl (cI, 1600, .inl Zi)), ((u_12 1), .inl (cJ, 400, .inr (.inl Zl))), (q_13, .inr (0, [.ref (u_15 0), .ref (u_15 1), .int 1, .int 0])), ((u_15 0), .inl (cI, 1600, .inl Zi)), ((u_15 1), .inl (cI, 40, .inl Zi))] := hD
  refine lv_aload_n hx hb dX4_init_59 rfl (lv_at hl 0 rfl) ?_
  refine va_new (ci := 1) (fs := [.null, .null, .null, .null, .null]) (C := RX1) (T := TX1) (N := 5) hx hb hts i_1 tyX1 tyX1_ok hown k_9 k_10 k_11 hK hP hD hS hA rfl (by decide) (Nat.le_of_ble_eq_true rfl) (Nat.le_of_ble_eq_true rfl) dX4_init_60 (fun q_16 H hP hD hS => ?_)
  refine W.widen (k := 20) (n := 7305) (by decide) (by decide) ?_
  have hP : va_P (dC, dI) vwCl [(h, .inr (4, [.ref q_1, .ref q_4, .ref q_7, .ref q_10, .ref q_13, .null, .null])), (q_1, .inr (0, [.ref (u_3 0), .ref (u_3 1), .int 1, .int 0])), ((u_3 0), .inl (cI, 1600, .inl Zi)), ((u_3 1), .inl (cI, 40, .inl Zi)), (q_4, .inr (1, [.ref (u_6 0), .ref (u_6 1), .ref (u_6 2), .ref (u_6 3), .ref (u_6 4)])), ((u_6 0), .inl (cI, 40, .inl Zi)), ((u_6 1), .inl (cI, 40, .inl Zi)), ((u_6 2), .inl (cI, 40, .inl Zi)), ((u_6 3), .inl (cI, 40, .inl Zi)), ((u_6 4), .inl (cI, 40, .inl Zi)), (q_7, .inr (2, [.ref (u_9 0), .ref (u_9 1), .ref (u_9 2), .int 0])), ((u_9 0), .inl (cI, 160, .inl Zi)), ((u_9 1), .inl (cI, 1600, .inl Zi)), ((u_9 2), .inl (cJ, 40, .inr (.inl Zl))), (q_10, .inr (3, [.ref (u_12 0), .ref (u_12 1), .int 0])), ((u_12 0), .inl (cI, 1600, .inl Zi)), ((u_12 1), .inl (cJ, 400, .inr (.inl Zl))), (q_13, .inr (0, [.ref (u_15 0), .ref (u_15 1), .int 1, .int 0])), ((u_15 0), .inl (cI, 1600, .inl Zi)), ((u_15 1), .inl (cI, 40, .inl Zi)), (q_16, .inr (1, [.null, .null, .null, .null, .null]))] H := hP
  have hD : va_D A [(h, .inr (4, [.ref q_1, .ref q_4, .ref q_7, .ref q_10, .ref q_13, .null, .null])), (q_1, .inr (0, [.ref (u_3 0), .ref (u_3 1), .int 1, .int 0])), ((u_3 0), .inl (cI, 1600, .inl Zi)), ((u_3 1), .inl (cI, 40, .inl Zi)), (q_4, .inr (1, [.ref (u_6 0), .ref (u_6 1), .ref (u_6 2), .ref (u_6 3), .ref (u_6 4)])), ((u_6 0), .inl (cI, 40, .inl Zi)), ((u_6 1), .inl (cI, 40, .inl Zi)), ((u_6 2), .inl (cI, 40, .inl Zi)), ((u_6 3), .inl (cI, 40, .inl Zi)), ((u_6 4), .inl (cI, 40, .inl Zi)), (q_7, .inr (2, [.ref (u_9 0), .ref (u_9 1), .ref (u_9 2), .int 0])), ((u_9 0), .inl (cI, 160, .inl Zi)), ((u_9 1), .inl (cI, 1600, .inl Zi)), ((u_9 2), .inl (cJ, 40, .inr (.inl Zl))), (q_10, .inr (3, [.ref (u_12 0), .ref (u_12 1), .int 0])), ((u_12 0), .inl (cI, 1600, .inl Zi)), ((u_12 1), .inl (cJ, 400, .inr (.inl Zl))), (q_13, .inr (0, [.ref (u_15 0), .ref (u_15 1), .int 1, .int 0])), ((u_15 0), .inl (cI, 1600, .inl Zi)), ((u_15 1), .inl (cI, 40, .inl Zi)), (q_16, .inr (1, [.null, .null, .null, .null, .null]))] := hD
  refine lv_dup hx hb dX4_init_63 rfl ?_
  have hPc := hP.sub (ws' := [(q_16, .inr (1, [.null, .null, .null, .null, .null]))]) [20] rfl
  have hDc := hD.sub (ws' := [(q_16, .inr (1, [.null, .null, .null, .null, .null]))]) [20] (by decide) rfl
  have hFc := va_free (wc := [(q_16, .inr (1, [.null, .null, .null, .null, .null]))]) hD hS hA [20] rfl
  refine va_callv (va_runI (As := []) (rest := [.ref q_16, .ref h]) ⟨hx, hb, hml, hown, hts⟩ (c_X1_init l dC dI cI cJ q_16 H.size) (cwI 0 hts gX4_init_X1_init rfl rfl rfl k_11 k_12 k_13 rfl (by decide +kernel) ⟨Nat.le_of_ble_eq_true rfl, Nat.le_of_ble_eq_true rfl⟩) ⟨fun a U g mk q => by obtain ⟨q0, q1, qP, qK, qD⟩ := q; exact ⟨q0, q1, qP, va_K.moved (u := U) (U := U.calling g mk a) (Vm.Alike.refl U.vm) qK, qD⟩, fun U hU hW => ⟨rfl, by rw [hU], by rw [hU]; exact hPc, va_K.moved hW.alike hK, hDc.weaken (fun _ _ _ _ => trivial)⟩⟩ rfl rfl hl.1 rfl (lv_room (Nat.le_of_ble_eq_true rfl)) dX4_init_64 ⟨Nat.le_of_ble_eq_true rfl, Nat.le_of_ble_eq_true rfl⟩) hS (fun q _ h => hFc q h) hFc (fun u_18 t H1 locs ht hvm hw hB hz1 hk1 hS => ?_)
  obtain ⟨hP1, hD1⟩ := hB
  rw [ht] at hP1
  obtain ⟨hP, hD⟩ := va_join (wr := [(h, .inr (4, [.ref q_1, .ref q_4, .ref q_7, .ref q_10, .ref q_13, .null, .null])), (q_1, .inr (0, [.ref (u_3 0), .ref (u_3 1), .int 1, .int 0])), ((u_3 0), .inl (cI, 1600, .inl Zi)), ((u_3 1), .inl (cI, 40, .inl Zi)), (q_4, .inr (1, [.ref (u_6 0), .ref (u_6 1), .ref (u_6 2), .ref (u_6 3), .ref (u_6 4)])), ((u_6 0), .inl (cI, 40, .inl Zi)), ((u_6 1), .inl (cI, 40, .inl Zi)), ((u_6 2), .inl (cI, 40, .inl Zi)), ((u_6 3), .inl (cI, 40, .inl Zi)), ((u_6 4), .inl (cI, 40, .inl Zi)), (q_7, .inr (2, [.ref (u_9 0), .ref (u_9 1), .ref (u_9 2), .int 0])), ((u_9 0), .inl (cI, 160, .inl Zi)), ((u_9 1), .inl (cI, 1600, .inl Zi)), ((u_9 2), .inl (cJ, 40, .inr (.inl Zl))), (q_10, .inr (3, [.ref (u_12 0), .ref (u_12 1), .int 0])), ((u_12 0), .inl (cI, 1600, .inl Zi)), ((u_12 1), .inl (cJ, 400, .inr (.inl Zl))), (q_13, .inr (0, [.ref (u_15 0), .ref (u_15 1), .int 1, .int 0])), ((u_15 0), .inl (cI, 1600, .inl Zi)), ((u_15 1), .inl (cI, 40, .inl Zi))]) (w1 := [(q_16, .inr (1, [.ref (u_18 0), .ref (u_18 1), .ref (u_18 2), .ref (u_18 3), .ref (u_18 4)])), ((u_18 0), .inl (cI, 40, .inl Zi)), ((u_18 1), .inl (cI, 40, .inl Zi)), ((u_18 2), .inl (cI, 40, .inl Zi)), ((u_18 3), .inl (cI, 40, .inl Zi)), ((u_18 4), .inl (cI, 40, .inl Zi))]) hP hD [20] [0, 1, 2, 3, 4, 5, 6, 7, 8, 9, 10, 11, 12, 13, 14, 15, 16, 17, 18, 19] rfl rfl (by decide) (by decide) hk1 hFc hP1 hD1
  generalize H1 = H at hP hS ⊢
  have hP : va_P (dC, dI) vwCl [(h, .inr (4, [.ref q_1, .ref q_4, .ref q_7, .ref q_10, .ref q_13, .null, .null])), (q_1, .inr (0, [.ref (u_3 0), .ref (u_3 1), .int 1, .int 0])), ((u_3 0), .inl (cI, 1600, .inl Zi)), ((u_3 1), .inl (cI, 40, .inl Zi)), (q_4, .inr (1, [.ref (u_6 0), .ref (u_6 1), .ref (u_6 2), .ref (u_6 3), .ref (u_6 4)])), ((u_6 0), .inl (cI, 40, .inl Zi)), ((u_6 1), .inl (cI, 40, .inl Zi)), ((u_6 2), .inl (cI, 40, .inl Zi)), ((u_6 3), .inl (cI, 40, .inl Zi)), ((u_6 4), .inl (cI, 40, .inl Zi)), (q_7, .inr (2, [.ref (u_9 0), .ref (u_9 1), .ref (u_9 2), .int 0])), ((u_9 0), .inl (cI, 160, .inl Zi)), ((u_9 1), .inl (cI, 1600, .inl Zi)), ((u_9 2), .inl (cJ, 40, .inr (.inl Zl))), (q_10, .inr (3, [.ref (u_12 0), .ref (u_12 1), .int 0])), ((u_12 0), .inl (cI, 1600, .inl Zi)), ((u_12 1), .inl (cJ, 400, .inr (.inl Zl))), (q_13, .inr (0, [.ref (u_15 0), .ref (u_15 1), .int 1, .int 0])), ((u_15 0), .inl (cI, 1600, .inl Zi)), ((u_15 1), .inl (cI, 40, .inl Zi)), (q_16, .inr (1, [.ref (u_18 0), .ref (u_18 1), .ref (u_18 2), .ref (u_18 3), .ref (u_18 4)])), ((u_18 0), .inl (cI, 40, .inl Zi)), ((u_18 1), .inl (cI, 40, .inl Zi)), ((u_18 2), .inl (cI, 40, .inl Zi)), ((u_18 3), .inl (cI, 40, .inl Zi)), ((u_18 4), .inl (cI, 40, .inl Zi))] H := hP
  have hD : va_D A [(h, .inr (4, [.ref q_1, .ref q_4, .ref q_7, .ref q_10, .ref q_13, .null, .null])), (q_1, .inr (0, [.ref (u_3 0), .ref (u_3 1), .int 1, .int 0])), ((u_3 0), .inl (cI, 1600, .inl Zi)), ((u_3 1), .inl (cI, 40, .inl Zi)), (q_4, .inr (1, [.ref (u_6 0), .ref (u_6 1), .ref (u_6 2), .ref (u_6 3), .ref (u_6 4)])), ((u_6 0), .inl (cI, 40, .inl Zi)), ((u_6 1), .inl (cI, 40, .inl Zi)), ((u_6 2), .inl (cI, 40, .inl Zi)), ((u_6 3), .inl (cI, 40, .inl Zi)), ((u_6 4), .inl (cI, 40, .inl Zi)), (q_7, .inr (2, [.ref (u_9 0), .ref (u_9 1), .ref (u_9 2), .int 0])), ((u_9 0), .inl (cI, 160, .inl Zi)), ((u_9 1), .inl (cI, 1600, .inl Zi)), ((u_9 2), .inl (cJ, 40, .inr (.inl Zl))), (q_10, .inr (3, [.ref (u_12 0), .ref (u_12 1), .int 0])), ((u_12 0), .inl (cI, 1600, .inl Zi)), ((u_12 1), .inl (cJ, 400, .inr (.inl Zl))), (q_13, .inr (0, [.ref (u_15 0), .ref (u_15 1), .int 1, .int 0])), ((u_15 0), .inl (cI, 1600, .inl Zi)), ((u_15 1), .inl (cI, 40, .inl Zi)), (q_16, .inr (1, [.ref (u_18 0), .ref (u_18 1), .ref (u_18 2), .ref (u_18 3), .ref (u_18 4)])), ((u_18 0), .inl (cI, 40, .inl Zi)), ((u_18 1), .inl (cI, 40, .inl Zi)), ((u_18 2), .inl (cI, 40, .inl Zi)), ((u_18 3), .inl (cI, 40, .inl Zi)), ((u_18 4), .inl (cI, 40, .inl Zi))] := hD
  refine W.widen (k := 25) (n := 7505) (by decide) (by decide) ?_
  refine va_putF (D := (dC, dI)) (ci := 4) (v := .ref q_16) (ty := .object "CommunityLevels$Groups") (C := RX4) (T := TX4) (N := 7) hx hb hts i_4 tyX4 tyX4_ok nmX4 hown hK hP hD hS 0 rfl rfl 5 (by decide) k_28 (fun _ h9 => h9) rfl hin rfl (by decide +kernel) rfl rfl (Nat.le_of_ble_eq_true rfl) dX4_init_67 (fun H locs hP hD hS => ?_)
  have hP : va_P (dC, dI) vwCl [(h, .inr (4, [.ref q_1, .ref q_4, .ref q_7, .ref q_10, .ref q_13, .ref q_16, .null])), (q_1, .inr (0, [.ref (u_3 0), .ref (u_3 1), .int 1, .int 0])), ((u_3 0), .inl (cI, 1600, .inl Zi)), ((u_3 1), .inl (cI, 40, .inl Zi)), (q_4, .inr (1, [.ref (u_6 0), .ref (u_6 1), .ref (u_6 2), .ref (u_6 3), .ref (u_6 4)])), ((u_6 0), .inl (cI, 40, .inl Zi)), ((u_6 1), .inl (cI, 40, .inl Zi)), ((u_6 2), .inl (cI, 40, .inl Zi)), ((u_6 3), .inl (cI, 40, .inl Zi)), ((u_6 4), .inl (cI, 40, .inl Zi)), (q_7, .inr (2, [.ref (u_9 0), .ref (u_9 1), .ref (u_9 2), .int 0])), ((u_9 0), .inl (cI, 160, .inl Zi)), ((u_9 1), .inl (cI, 1600, .inl Zi)), ((u_9 2), .inl (cJ, 40, .inr (.inl Zl))), (q_10, .inr (3, [.ref (u_12 0), .ref (u_12 1), .int 0])), ((u_12 0), .inl (cI, 1600, .inl Zi)), ((u_12 1), .inl (cJ, 400, .inr (.inl Zl))), (q_13, .inr (0, [.ref (u_15 0), .ref (u_15 1), .int 1, .int 0])), ((u_15 0), .inl (cI, 1600, .inl Zi)), ((u_15 1), .inl (cI, 40, .inl Zi)), (q_16, .inr (1, [.ref (u_18 0), .ref (u_18 1), .ref (u_18 2), .ref (u_18 3), .ref (u_18 4)])), ((u_18 0), .inl (cI, 40, .inl Zi)), ((u_18 1), .inl (cI, 40, .inl Zi)), ((u_18 2), .inl (cI, 40, .inl Zi)), ((u_18 3), .inl (cI, 40, .inl Zi)), ((u_18 4), .inl (cI, 40, .inl Zi))] H := hP
  have hD : va_D A [(h, .inr (4, [.ref q_1, .ref q_4, .ref q_7, .ref q_10, .ref q_13, .ref q_16, .null])), (q_1, .inr (0, [.ref (u_3 0), .ref (u_3 1), .int 1, .int 0])), ((u_3 0), .inl (cI, 1600, .inl Zi)), ((u_3 1), .inl (cI, 40, .inl Zi)), (q_4, .inr (1, [.ref (u_6 0), .ref (u_6 1), .ref (u_6 2), .ref (u_6 3), .ref (u_6 4)])), ((u_6 0), .inl (cI, 40, .inl Zi)), ((u_6 1), .inl (cI, 40, .inl Zi)), ((u_6 2), .inl (cI, 40, .inl Zi)), ((u_6 3), .inl (cI, 40, .inl Zi)), ((u_6 4), .inl (cI, 40, .inl Zi)), (q_7, .inr (2, [.ref (u_9 0), .ref (u_9 1), .ref (u_9 2), .int 0])), ((u_9 0), .inl (cI, 160, .inl Zi)), ((u_9 1), .inl (cI, 1600, .inl Zi)), ((u_9 2), .inl (cJ, 40, .inr (.inl Zl))), (q_10, .inr (3, [.ref (u_12 0), .ref (u_12 1), .int 0])), ((u_12 0), .inl (cI, 1600, .inl Zi)), ((u_12 1), .inl (cJ, 400, .inr (.inl Zl))), (q_13, .inr (0, [.ref (u_15 0), .ref (u_15 1), .int 1, .int 0])), ((u_15 0), .inl (cI, 1600, .inl Zi)), ((u_15 1), .inl (cI, 40, .inl Zi)), (q_16, .inr (1, [.ref (u_18 0), .ref (u_18 1), .ref (u_18 2), .ref (u_18 3), .ref (u_18 4)])), ((u_18 0), .inl (cI, 40, .inl Zi)), ((u_18 1), .inl (cI, 40, .inl Zi)), ((u_18 2), .inl (cI, 40, .inl Zi)), ((u_18 3), .inl (cI, 40, .inl Zi)), ((u_18 4), .inl (cI, 40, .inl Zi))] := hD
  refine lv_aload_n hx hb dX4_init_70 rfl (lv_at hl 0 rfl) ?_
  refine lv_bipush (v := 40) hx hb dX4_init_71 (by decide) ?_
  refine vn_I (N' := 40) hx hb k_29 hK hP hD hS hA (by decide) (by decide) (by decide) (Nat.le_of_ble_eq_true rfl) (Nat.le_of_ble_eq_true rfl) dX4_init_73 (fun q_19 H hP hD hS => ?_)
  refine W.widen (k := 26) (n := 7545) (by decide) (by decide) ?_
  have hP : va_P (dC, dI) vwCl [(h, .inr (4, [.ref q_1, .ref q_4, .ref q_7, .ref q_10, .ref q_13, .ref q_16, .null])), (q_1, .inr (0, [.ref (u_3 0), .ref (u_3 1), .int 1, .int 0])), ((u_3 0), .inl (cI, 1600, .inl Zi)), ((u_3 1), .inl (cI, 40, .inl Zi)), (q_4, .inr (1, [.ref (u_6 0), .ref (u_6 1), .ref (u_6 2), .ref (u_6 3), .ref (u_6 4)])), ((u_6 0), .inl (cI, 40, .inl Zi)), ((u_6 1), .inl (cI, 40, .inl Zi)), ((u_6 2), .inl (cI, 40, .inl Zi)), ((u_6 3), .inl (cI, 40, .inl Zi)), ((u_6 4), .inl (cI, 40, .inl Zi)), (q_7, .inr (2, [.ref (u_9 0), .ref (u_9 1), .ref (u_9 2), .int 0])), ((u_9 0), .inl (cI, 160, .inl Zi)), ((u_9 1), .inl (cI, 1600, .inl Zi)), ((u_9 2), .inl (cJ, 40, .inr (.inl Zl))), (q_10, .inr (3, [.ref (u_12 0), .ref (u_12 1), .int 0])), ((u_12 0), .inl (cI, 1600, .inl Zi)), ((u_12 1), .inl (cJ, 400, .inr (.inl Zl))), (q_13, .inr (0, [.ref (u_15 0), .ref (u_15 1), .int 1, .int 0])), ((u_15 0), .inl (cI, 1600, .inl Zi)), ((u_15 1), .inl (cI, 40, .inl Zi)), (q_16, .inr (1, [.ref (u_18 0), .ref (u_18 1), .ref (u_18 2), .ref (u_18 3), .ref (u_18 4)])), ((u_18 0), .inl (cI, 40, .inl Zi)), ((u_18 1), .inl (cI, 40, .inl Zi)), ((u_18 2), .inl (cI, 40, .inl Zi)), ((u_18 3), .inl (cI, 40, .inl Zi)), ((u_18 4), .inl (cI, 40, .inl Zi)), (q_19, .inl (cI, 40, .inl Zi))] H := hP
  have hD : va_D A [(h, .inr (4, [.ref q_1, .ref q_4, .ref q_7, .ref q_10, .ref q_13, .ref q_16, .null])), (q_1, .inr (0, [.ref (u_3 0), .ref (u_3 1), .int 1, .int 0])), ((u_3 0), .inl (cI, 1600, .inl Zi)), ((u_3 1), .inl (cI, 40, .inl Zi)), (q_4, .inr (1, [.ref (u_6 0), .ref (u_6 1), .ref (u_6 2), .ref (u_6 3), .ref (u_6 4)])), ((u_6 0), .inl (cI, 40, .inl Zi)), ((u_6 1), .inl (cI, 40, .inl Zi)), ((u_6 2), .inl (cI, 40, .inl Zi)), ((u_6 3), .inl (cI, 40, .inl Zi)), ((u_6 4), .inl (cI, 40, .inl Zi)), (q_7, .inr (2, [.ref (u_9 0), .ref (u_9 1), .ref (u_9 2), .int 0])), ((u_9 0), .inl (cI, 160, .inl Zi)), ((u_9 1), .inl (cI, 1600, .inl Zi)), ((u_9 2), .inl (cJ, 40, .inr (.inl Zl))), (q_10, .inr (3, [.ref (u_12 0), .ref (u_12 1), .int 0])), ((u_12 0), .inl (cI, 1600, .inl Zi)), ((u_12 1), .inl (cJ, 400, .inr (.inl Zl))), (q_13, .inr (0, [.ref (u_15 0), .ref (u_15 1), .int 1, .int 0])), ((u_15 0), .inl (cI, 1600, .inl Zi)), ((u_15 1), .inl (cI, 40, .inl Zi)), (q_16, .inr (1, [.ref (u_18 0), .ref (u_18 1), .ref (u_18 2), .ref (u_18 3), .ref (u_18 4)])), ((u_18 0), .inl (cI, 40, .inl Zi)), ((u_18 1), .inl (cI, 40, .inl Zi)), ((u_18 2), .inl (cI, 40, .inl Zi)), ((u_18 3), .inl (cI, 40, .inl Zi)), ((u_18 4), .inl (cI, 40, .inl Zi)), (q_19, .inl (cI, 40, .inl Zi))] := hD
  refine va_putF (D := (dC, dI)) (ci := 4) (v := .ref q_19) (ty := .array .int) (C := RX4) (T := TX4) (N := 7) hx hb hts i_4 tyX4 tyX4_ok nmX4 hown hK hP hD hS 0 rfl rfl 6 (by decide) k_30 (fun _ h9 => h9) rfl hin rfl (by decide +kernel) rfl rfl (Nat.le_of_ble_eq_true rfl) dX4_init_75 (fun H locs hP hD hS => ?_)
  have hP : va_P (dC, dI) vwCl [(h, .inr (4, [.ref q_1, .ref q_4, .ref q_7, .ref q_10, .ref q_13, .ref q_16, .ref q_19])), (q_1, .inr (0, [.ref (u_3 0), .ref (u_3 1), .int 1, .int 0])), ((u_3 0), .inl (cI, 1600, .inl Zi)), ((u_3 1), .inl (cI, 40, .inl Zi)), (q_4, .inr (1, [.ref (u_6 0), .ref (u_6 1), .ref (u_6 2), .ref (u_6 3), .ref (u_6 4)])), ((u_6 0), .inl (cI, 40, .inl Zi)), ((u_6 1), .inl (cI, 40, .inl Zi)), ((u_6 2), .inl (cI, 40, .inl Zi)), ((u_6 3), .inl (cI, 40, .inl Zi)), ((u_6 4), .inl (cI, 40, .inl Zi)), (q_7, .inr (2, [.ref (u_9 0), .ref (u_9 1), .ref (u_9 2), .int 0])), ((u_9 0), .inl (cI, 160, .inl Zi)), ((u_9 1), .inl (cI, 1600, .inl Zi)), ((u_9 2), .inl (cJ, 40, .inr (.inl Zl))), (q_10, .inr (3, [.ref (u_12 0), .ref (u_12 1), .int 0])), ((u_12 0), .inl (cI, 1600, .inl Zi)), ((u_12 1), .inl (cJ, 400, .inr (.inl Zl))), (q_13, .inr (0, [.ref (u_15 0), .ref (u_15 1), .int 1, .int 0])), ((u_15 0), .inl (cI, 1600, .inl Zi)), ((u_15 1), .inl (cI, 40, .inl Zi)), (q_16, .inr (1, [.ref (u_18 0), .ref (u_18 1), .ref (u_18 2), .ref (u_18 3), .ref (u_18 4)])), ((u_18 0), .inl (cI, 40, .inl Zi)), ((u_18 1), .inl (cI, 40, .inl Zi)), ((u_18 2), .inl (cI, 40, .inl Zi)), ((u_18 3), .inl (cI, 40, .inl Zi)), ((u_18 4), .inl (cI, 40, .inl Zi)), (q_19, .inl (cI, 40, .inl Zi))] H := hP
  have hD : va_D A [(h, .inr (4, [.ref q_1, .ref q_4, .ref q_7, .ref q_10, .ref q_13, .ref q_16, .ref q_19])), (q_1, .inr (0, [.ref (u_3 0), .ref (u_3 1), .int 1, .int 0])), ((u_3 0), .inl (cI, 1600, .inl Zi)), ((u_3 1), .inl (cI, 40, .inl Zi)), (q_4, .inr (1, [.ref (u_6 0), .ref (u_6 1), .ref (u_6 2), .ref (u_6 3), .ref (u_6 4)])), ((u_6 0), .inl (cI, 40, .inl Zi)), ((u_6 1), .inl (cI, 40, .inl Zi)), ((u_6 2), .inl (cI, 40, .inl Zi)), ((u_6 3), .inl (cI, 40, .inl Zi)), ((u_6 4), .inl (cI, 40, .inl Zi)), (q_7, .inr (2, [.ref (u_9 0), .ref (u_9 1), .ref (u_9 2), .int 0])), ((u_9 0), .inl (cI, 160, .inl Zi)), ((u_9 1), .inl (cI, 1600, .inl Zi)), ((u_9 2), .inl (cJ, 40, .inr (.inl Zl))), (q_10, .inr (3, [.ref (u_12 0), .ref (u_12 1), .int 0])), ((u_12 0), .inl (cI, 1600, .inl Zi)), ((u_12 1), .inl (cJ, 400, .inr (.inl Zl))), (q_13, .inr (0, [.ref (u_15 0), .ref (u_15 1), .int 1, .int 0])), ((u_15 0), .inl (cI, 1600, .inl Zi)), ((u_15 1), .inl (cI, 40, .inl Zi)), (q_16, .inr (1, [.ref (u_18 0), .ref (u_18 1), .ref (u_18 2), .ref (u_18 3), .ref (u_18 4)])), ((u_18 0), .inl (cI, 40, .inl Zi)), ((u_18 1), .inl (cI, 40, .inl Zi)), ((u_18 2), .inl (cI, 40, .inl Zi)), ((u_18 3), .inl (cI, 40, .inl Zi)), ((u_18 4), .inl (cI, 40, .inl Zi)), (q_19, .inl (cI, 40, .inl Zi))] := hD
  have hP9 := hP.sub (ws' := [(h, .inr (4, [.ref q_1, .ref q_4, .ref q_7, .ref q_10, .ref q_13, .ref q_16, .ref q_19])), (q_1, .inr (0, [.ref (u_3 0), .ref (u_3 1), .int 1, .int 0])), ((u_3 0), .inl (cI, 1600, .inl Zi)), ((u_3 1), .inl (cI, 40, .inl Zi)), (q_4, .inr (1, [.ref (u_6 0), .ref (u_6 1), .ref (u_6 2), .ref (u_6 3), .ref (u_6 4)])), ((u_6 0), .inl (cI, 40, .inl Zi)), ((u_6 1), .inl (cI, 40, .inl Zi)), ((u_6 2), .inl (cI, 40, .inl Zi)), ((u_6 3), .inl (cI, 40, .inl Zi)), ((u_6 4), .inl (cI, 40, .inl Zi)), (q_7, .inr (2, [.ref (u_9 0), .ref (u_9 1), .ref (u_9 2), .int 0])), ((u_9 0), .inl (cI, 160, .inl Zi)), ((u_9 1), .inl (cI, 1600, .inl Zi)), ((u_9 2), .inl (cJ, 40, .inr (.inl Zl))), (q_10, .inr (3, [.ref (u_12 0), .ref (u_12 1), .int 0])), ((u_12 0), .inl (cI, 1600, .inl Zi)), ((u_12 1), .inl (cJ, 400, .inr (.inl Zl))), (q_13, .inr (0, [.ref (u_15 0), .ref (u_15 1), .int 1, .int 0])), ((u_15 0), .inl (cI, 1600, .inl Zi)), ((u_15 1), .inl (cI, 40, .inl Zi)), (q_16, .inr (1, [.ref (u_18 0), .ref (u_18 1), .ref (u_18 2), .ref (u_18 3), .ref (u_18 4)])), ((u_18 0), .inl (cI, 40, .inl Zi)), ((u_18 1), .inl (cI, 40, .inl Zi)), ((u_18 2), .inl (cI, 40, .inl Zi)), ((u_18 3), .inl (cI, 40, .inl Zi)), ((u_18 4), .inl (cI, 40, .inl Zi)), (q_19, .inl (cI, 40, .inl Zi))]) [0, 1, 2, 3, 4, 5, 6, 7, 8, 9, 10, 11, 12, 13, 14, 15, 16, 17, 18, 19, 20, 21, 22, 23, 24, 25, 26] rfl
  have hD9 := hD.sub (ws' := [(h, .inr (4, [.ref q_1, .ref q_4, .ref q_7, .ref q_10, .ref q_13, .ref q_16, .ref q_19])), (q_1, .inr (0, [.ref (u_3 0), .ref (u_3 1), .int 1, .int 0])), ((u_3 0), .inl (cI, 1600, .inl Zi)), ((u_3 1), .inl (cI, 40, .inl Zi)), (q_4, .inr (1, [.ref (u_6 0), .ref (u_6 1), .ref (u_6 2), .ref (u_6 3), .ref (u_6 4)])), ((u_6 0), .inl (cI, 40, .inl Zi)), ((u_6 1), .inl (cI, 40, .inl Zi)), ((u_6 2), .inl (cI, 40, .inl Zi)), ((u_6 3), .inl (cI, 40, .inl Zi)), ((u_6 4), .inl (cI, 40, .inl Zi)), (q_7, .inr (2, [.ref (u_9 0), .ref (u_9 1), .ref (u_9 2), .int 0])), ((u_9 0), .inl (cI, 160, .inl Zi)), ((u_9 1), .inl (cI, 1600, .inl Zi)), ((u_9 2), .inl (cJ, 40, .inr (.inl Zl))), (q_10, .inr (3, [.ref (u_12 0), .ref (u_12 1), .int 0])), ((u_12 0), .inl (cI, 1600, .inl Zi)), ((u_12 1), .inl (cJ, 400, .inr (.inl Zl))), (q_13, .inr (0, [.ref (u_15 0), .ref (u_15 1), .int 1, .int 0])), ((u_15 0), .inl (cI, 1600, .inl Zi)), ((u_15 1), .inl (cI, 40, .inl Zi)), (q_16, .inr (1, [.ref (u_18 0), .ref (u_18 1), .ref (u_18 2), .ref (u_18 3), .ref (u_18 4)])), ((u_18 0), .inl (cI, 40, .inl Zi)), ((u_18 1), .inl (cI, 40, .inl Zi)), ((u_18 2), .inl (cI, 40, .inl Zi)), ((u_18 3), .inl (cI, 40, .inl Zi)), ((u_18 4), .inl (cI, 40, .inl Zi)), (q_19, .inl (cI, 40, .inl Zi))]) [0, 1, 2, 3, 4, 5, 6, 7, 8, 9, 10, 11, 12, 13, 14, 15, 16, 17, 18, 19, 20, 21, 22, 23, 24, 25, 26] (by decide) rfl
  exact W.vret hx hb hr (fun t ht hW => ⟨⟨(fun j => ([q_1, (u_3 0), (u_3 1), q_4, (u_6 0), (u_6 1), (u_6 2), (u_6 3), (u_6 4), q_7, (u_9 0), (u_9 1), (u_9 2), q_10, (u_12 0), (u_12 1), q_13, (u_15 0), (u_15 1), q_16, (u_18 0), (u_18 1), (u_18 2), (u_18 3), (u_18 4), q_19] : List Nat).getD j 0), rfl, trivial, by rw [ht]; exact hP9, hD9⟩, hS.F ht⟩) hS.2.2 dX4_init_78
set_option maxHeartbeats 4000000 in
set_option maxRecDepth 100000 in
theorem c_X5_init (l : Launch) (dC : Nat → ClassId) (dI : Nat → Nat → Nat) (cI cJ : ClassId) (h : Nat) (sz : Nat) : Met l yX5_init wsX5_init ({ frames := 1, cells := 11, slots := 8765, locals := 12 }) (va_Pc [.ref h] (pPre dC dI cI cJ sz [(h, .inr (5, [.int 0, .null, .null, .int 0, .null, .null, .null, .int 0, .null, .null, .null, .int 0, .null, .null, .int 0, .null, .long 0]))])) (va_Qv (fun _ : Nat → Nat => True) (fun u t => va_P (dC, dI) vwCl [(h, .inr (5, [.int 1, .ref (u 0), .ref (u 1), .int 0, .ref (u 2), .ref (u 3), .ref (u 4), .int 0, .ref (u 5), .ref (u 6), .ref (u 7), .int 0, .ref (u 8), .ref (u 9), .int 0, .ref (u 10), .long 0])), ((u 0), .inl (cI, 1600, .inl Zi)), ((u 1), .inl (cI, 40, .inl (upd Zi 0 0))), ((u 2), .inl (cJ, 1600, .inr (.inl Zl))), ((u 3), .inl (cI, 40, .inl Zi)), ((u 4), .inl (cJ, 1600, .inr (.inl Zl))), ((u 5), .inl (cI, 164, .inl Zi)), ((u 6), .inl (cJ, 41, .inr (.inl Zl))), ((u 7), .inl (cI, 1640, .inl Zi)), ((u 8), .inl (cI, 1600, .inl Zi)), ((u 9), .inl (cJ, 400, .inr (.inl Zl))), ((u 10), .inl (cJ, 40, .inr (.inl Zl)))] t.heap ∧ va_D (va_A [(h, .inr (5, [.int 0, .null, .null, .int 0, .null, .null, .null, .int 0, .null, .null, .null, .int 0, .null, .null, .int 0, .null, .long 0]))] sz) [(h, .inr (5, [.int 1, .ref (u 0), .ref (u 1), .int 0, .ref (u 2), .ref (u 3), .ref (u 4), .int 0, .ref (u 5), .ref (u 6), .ref (u 7), .int 0, .ref (u 8), .ref (u 9), .int 0, .ref (u 10), .long 0])), ((u 0), .inl (cI, 1600, .inl Zi)), ((u 1), .inl (cI, 40, .inl (upd Zi 0 0))), ((u 2), .inl (cJ, 1600, .inr (.inl Zl))), ((u 3), .inl (cI, 40, .inl Zi)), ((u 4), .inl (cJ, 1600, .inr (.inl Zl))), ((u 5), .inl (cI, 164, .inl Zi)), ((u 6), .inl (cJ, 41, .inr (.inl Zl))), ((u 7), .inl (cI, 1640, .inl Zi)), ((u 8), .inl (cI, 1600, .inl Zi)), ((u 9), .inl (cJ, 400, .inr (.inl Zl))), ((u 10), .inl (cJ, 40, .inr (.inl Zl)))]) (va_A [(h, .inr (5, [.int 0, .null, .null, .int 0, .null, .null, .null, .int 0, .null, .null, .null, .int 0, .null, .null, .int 0, .null, .long 0]))] sz)) 11 8765 (va_A [(h, .inr (5, [.int 0, .null, .null, .int 0, .null, .null, .null, .int 0, .null, .null, .null, .int 0, .null, .null, .int 0, .null, .long 0]))] sz) := by
  refine Met.ofW (cc := cX5_init) (maxL := 1) (ret := none) (by decide) rfl ?_
  intro p e s m args below meth c s₁ B hml hv
  obtain ⟨rfl, hsz, hP, hK, hD0⟩ := hv
  have hx := B.exec
  have hb := B.bytes
  have hr := B.returns
  have hts := atoms_spec (ws := wsX5_init) B.pre
  have hown : s.vm.findClass RX5 = some m.cls := findClass_of_methodNamed B.named
  have hlocks := B.notSynchronized
  have hin : meth.name = "<init>" := (name_of_methodNamed B.named B.method).1
  subst hsz
  have hD := hD0.self (sz := s.heap.size)
  generalize hAe : va_A [(h, .inr (5, [.int 0, .null, .null, .int 0, .null, .null, .null, .int 0, .null, .null, .null, .int 0, .null, .null, .int 0, .null, .long 0]))] s.heap.size = A at hD ⊢
  have hA : ∀ q : Nat, s.heap.size ≤ q → A q := fun q h => by rw [← hAe]; exact Or.inr h
  have hS : va_S A s.heap s.heap [] := va_S.rf
  have hP : va_P (dC, dI) vwCl [(h, .inr (5, [.int 0, .null, .null, .int 0, .null, .null, .null, .int 0, .null, .null, .null, .int 0, .null, .null, .int 0, .null, .long 0]))] s.heap := hP
  have hl := lv_entry ([.ref h]) (n := 1) (Nat.le_of_ble_eq_true rfl)
  rw [lg_entry_eq]
  generalize (lg_sl ([.ref h]) ++ List.replicate (1 - (lg_sl ([.ref h])).length) Slot.unset).toArray = ls at hl ⊢
  have hl : lv_has ls 1 [(0, .ref h)] := hl
  have i_5 : ∀ w ∈ wsX50, w ∈ wsX5_init := by decide +kernel
  have k_0 := hts (.methodLink RX5 1 objectInit) (by decide +kernel)
  have k_1 := hts (.instanceMethod objectInit) (by decide +kernel)
  have k_2 := hts (.code objectInit ⟨#[0xb1]⟩ 1 none) (by decide +kernel)
  have k_3 := hts (.fieldLink RX5 7 "CommunityLevelsModel" "n" "I") (by decide +kernel)
  have k_4 := hts (.arrayClass .int) (by decide +kernel)
  have k_5 := hts (.fieldLink RX5 13 "CommunityLevelsModel" "weight" "[I") (by decide +kernel)
  have k_6 := hts (.fieldLink RX5 17 "CommunityLevelsModel" "own" "[I") (by decide +kernel)
  have k_7 := hts (.arrayClass .long) (by decide +kernel)
  have k_8 := hts (.fieldLink RX5 20 "CommunityLevelsModel" "between" "[J") (by decide +kernel)
  have k_9 := hts (.fieldLink RX5 24 "CommunityLevelsModel" "community" "[I") (by decide +kernel)
  have k_10 := hts (.fieldLink RX5 27 "CommunityLevelsModel" "fresh" "[J") (by decide +kernel)
  have k_11 := hts (.fieldLink RX5 30 "CommunityLevelsModel" "told" "[I") (by decide +kernel)
  have k_12 := hts (.fieldLink RX5 33 "CommunityLevelsModel" "reached" "[J") (by decide +kernel)
  have k_13 := hts (.fieldLink RX5 36 "CommunityLevelsModel" "placed" "[I") (by decide +kernel)
  have k_14 := hts (.fieldLink RX5 39 "CommunityLevelsModel" "moved" "[I") (by decide +kernel)
  have k_15 := hts (.fieldLink RX5 42 "CommunityLevelsModel" "gained" "[J") (by decide +kernel)
  have k_16 := hts (.fieldLink RX5 45 "CommunityLevelsModel" "degrees" "[J") (by decide +kernel)
  refine lv_aload_n hx hb dX5_init_0 rfl (lv_at hl 0 rfl) ?_
  refine W.objInit hx hb hown k_0 k_1 k_2 rfl (by rw [hml]; exact hl.1) rfl dX5_init_1 (Nat.le_of_ble_eq_true rfl) (Nat.le_of_ble_eq_true rfl) ?_
  refine W.eq (g2 := F0 m 4 ls []) rfl ?_
  refine lv_aload_n hx hb dX5_init_4 rfl (lv_at hl 0 rfl) ?_
  refine lv_iconst (v := 1) hx hb dX5_init_5 (by decide) ?_
  refine va_put (D := (dC, dI)) (ci := 5) (v := .int 1) (ty := .int) (C := RX5) (T := TX5) (N := 17) hx hb hts i_5 tyX5 tyX5_ok nmX5 hown hK hP hD hS 0 rfl rfl 0 (by decide) k_3 (fun _ h9 => h9) rfl (by decide +kernel) rfl rfl (Nat.le_of_ble_eq_true rfl) dX5_init_6 (fun H locs hP hD hS => ?_)
  have hP : va_P (dC, dI) vwCl [(h, .inr (5, [.int 1, .null, .null, .int 0, .null, .null, .null, .int 0, .null, .null, .null, .int 0, .null, .null, .int 0, .null, .long 0]))] H := hP
  have hD : va_D A [(h, .inr (5, [.int 1, .null, .null, .int 0, .null, .null, .null, .int 0, .null, .null, .null, .int 0, .null, .null, .int 0, .null, .long 0]))] := hD
  refine lv_aload_n hx hb dX5_init_9 rfl (lv_at hl 0 rfl) ?_
  refine lv_sipush (v := 1600) hx hb dX5_init_10 (by decide) ?_
  refine vn_I (N' := 1600) hx hb k_4 hK hP hD hS hA (by decide) (by decide) (by decide) (Nat.le_of_ble_eq_true rfl) (Nat.le_of_ble_eq_true rfl) dX5_init_13 (fun q_1 H hP hD hS => ?_)
  refine W.widen (k := 1) (n := 1600) (by decide) (by decide) ?_
  have hP : va_P (dC, dI) vwCl [(h, .inr (5, [.int 1, .null, .null, .int 0, .null, .null, .null, .int 0, .null, .null, .null, .int 0, .null, .null, .int 0, .null, .long 0])), (q_1, .inl (cI, 1600, .inl Zi))] H := hP
  have hD : va_D A [(h, .inr (5, [.int 1, .null, .null, .int 0, .null, .null, .null, .int 0, .null, .null, .null, .int 0, .null, .null, .int 0, .null, .long 0])), (q_1, .inl (cI, 1600, .inl Zi))] := hD
  refine va_putF (D := (dC, dI)) (ci := 5) (v := .ref q_1) (ty := .array .int) (C := RX5) (T := TX5) (N := 17) hx hb hts i_5 tyX5 tyX5_ok nmX5 hown hK hP hD hS 0 rfl rfl 1 (by decide) k_5 (fun _ h9 => h9) rfl hin rfl (by decide +kernel) rfl rfl (Nat.le_of_ble_eq_true rfl) dX5_init_15 (fun H locs hP hD hS => ?_)
  have hP : va_P (dC, dI) vwCl [(h, .inr (5, [.int 1, .ref q_1, .null, .int 0, .null, .null, .null, .int 0, .null, .null, .null, .int 0, .null, .null, .int 0, .null, .long 0])), (q_1, .inl (cI, 1600, .inl Zi))] H := hP
  have hD : va_D A [(h, .inr (5, [.int 1, .ref q_1, .null, .int 0, .null, .null, .null, .int 0, .null, .null, .null, .int 0, .null, .null, .int 0, .null, .long 0])), (q_1, .inl (cI, 1600, .inl Zi))] := hD
  refine lv_aload_n hx hb dX5_init_18 rfl (lv_at hl 0 rfl) ?_
  refine lv_bipush (v := 40) hx hb dX5_init_19 (by decide) ?_
  refine vn_I (N' := 40) hx hb k_4 hK hP hD hS hA (by decide) (by decide) (by decide) (Nat.le_of_ble_eq_true rfl) (Nat.le_of_ble_eq_true rfl) dX5_init_21 (fun q_2 H hP hD hS => ?_)
  refine W.widen (k := 2) (n := 1640) (by decide) (by decide) ?_
  have hP : va_P (dC, dI) vwCl [(h, .inr (5, [.int 1, .ref q_1, .null, .int 0, .null, .null, .null, .int 0, .null, .null, .null, .int 0, .null, .null, .int 0, .null, .long 0])), (q_1, .inl (cI, 1600, .inl Zi)), (q_2, .inl (cI, 40, .inl Zi))] H := hP
  have hD : va_D A [(h, .inr (5, [.int 1, .ref q_1, .null, .int 0, .null, .null, .null, .int 0, .null, .null, .null, .int 0, .null, .null, .int 0, .null, .long 0])), (q_1, .inl (cI, 1600, .inl Zi)), (q_2, .inl (cI, 40, .inl Zi))] := hD
  refine va_putF (D := (dC, dI)) (ci := 5) (v := .ref q_2) (ty := .array .int) (C := RX5) (T := TX5) (N := 17) hx hb hts i_5 tyX5 tyX5_ok nmX5 hown hK hP hD hS 0 rfl rfl 2 (by decide) k_6 (fun _ h9 => h9) rfl hin rfl (by decide +kernel) rfl rfl (Nat.le_of_ble_eq_true rfl) dX5_init_23 (fun H locs hP hD hS => ?_)
  have hP : va_P (dC, dI) vwCl [(h, .inr (5, [.int 1, .ref q_1, .ref q_2, .int 0, .null, .null, .null, .int 0, .null, .null, .null, .int 0, .null, .null, .int 0, .null, .long 0])), (q_1, .inl (cI, 1600, .inl Zi)), (q_2, .inl (cI, 40, .inl Zi))] H := hP
  have hD : va_D A [(h, .inr (5, [.int 1, .ref q_1, .ref q_2, .int 0, .null, .null, .null, .int 0, .null, .null, .null, .int 0, .null, .null, .int 0, .null, .long 0])), (q_1, .inl (cI, 1600, .inl Zi)), (q_2, .inl (cI, 40, .inl Zi))] := hD
  refine lv_aload_n hx hb dX5_init_26 rfl (lv_at hl 0 rfl) ?_
  refine lv_sipush (v := 1600) hx hb dX5_init_27 (by decide) ?_
  refine vn_J (N' := 1600) hx hb k_7 hK hP hD hS hA (by decide) (by decide) (by decide) (Nat.le_of_ble_eq_true rfl) (Nat.le_of_ble_eq_true rfl) dX5_init_30 (fun q_3 H hP hD hS => ?_)
  refine W.widen (k := 3) (n := 3240) (by decide) (by decide) ?_
  have hP : va_P (dC, dI) vwCl [(h, .inr (5, [.int 1, .ref q_1, .ref q_2, .int 0, .null, .null, .null, .int 0, .null, .null, .null, .int 0, .null, .null, .int 0, .null, .long 0])), (q_1, .inl (cI, 1600, .inl Zi)), (q_2, .inl (cI, 40, .inl Zi)), (q_3, .inl (cJ, 1600, .inr (.inl Zl)))] H := hP
  have hD : va_D A [(h, .inr (5, [.int 1, .ref q_1, .ref q_2, .int 0, .null, .null, .null, .int 0, .null, .null, .null, .int 0, .null, .null, .int 0, .null, .long 0])), (q_1, .inl (cI, 1600, .inl Zi)), (q_2, .inl (cI, 40, .inl Zi)), (q_3, .inl (cJ, 1600, .inr (.inl Zl)))] := hD
  refine va_putF (D := (dC, dI)) (ci := 5) (v := .ref q_3) (ty := .array .long) (C := RX5) (T := TX5) (N := 17) hx hb hts i_5 tyX5 tyX5_ok nmX5 hown hK hP hD hS 0 rfl rfl 4 (by decide) k_8 (fun _ h9 => h9) rfl hin rfl (by decide +kernel) rfl rfl (Nat.le_of_ble_eq_true rfl) dX5_init_32 (fun H locs hP hD hS => ?_)
  have hP : va_P (dC, dI) vwCl [(h, .inr (5, [.int 1, .ref q_1, .ref q_2, .int 0, .ref q_3, .null, .null, .int 0, .null, .null, .null, .int 0, .null, .null, .int 0, .null, .long 0])), (q_1, .inl (cI, 1600, .inl Zi)), (q_2, .inl (cI, 40, .inl Zi)), (q_3, .inl (cJ, 1600, .inr (.inl Zl)))] H := hP
  have hD : va_D A [(h, .inr (5, [.int 1, .ref q_1, .ref q_2, .int 0, .ref q_3, .null, .null, .int 0, .null, .null, .null, .int 0, .null, .null, .int 0, .null, .long 0])), (q_1, .inl (cI, 1600, .inl Zi)), (q_2, .inl (cI, 40, .inl Zi)), (q_3, .inl (cJ, 1600, .inr (.inl Zl)))] := hD
  refine lv_aload_n hx hb dX5_init_35 rfl (lv_at hl 0 rfl) ?_
  refine lv_bipush (v := 40) hx hb dX5_init_36 (by decide) ?_
  refine vn_I (N' := 40) hx hb k_4 hK hP hD hS hA (by decide) (by decide) (by decide) (Nat.le_of_ble_eq_true rfl) (Nat.le_of_ble_eq_true rfl) dX5_init_38 (fun q_4 H hP hD hS => ?_)
  refine W.widen (k := 4) (n := 3280) (by decide) (by decide) ?_
  have hP : va_P (dC, dI) vwCl [(h, .inr (5, [.int 1, .ref q_1, .ref q_2, .int 0, .ref q_3, .null, .null, .int 0, .null, .null, .null, .int 0, .null, .null, .int 0, .null, .long 0])), (q_1, .inl (cI, 1600, .inl Zi)), (q_2, .inl (cI, 40, .inl Zi)), (q_3, .inl (cJ, 1600, .inr (.inl Zl))), (q_4, .inl (cI, 40, .inl Zi))] H := hP
  have hD : va_D A [(h, .inr (5, [.int 1, .ref q_1, .ref q_2, .int 0, .ref q_3, .null, .null, .int 0, .null, .null, .null, .int 0, .null, .null, .int 0, .null, .long 0])), (q_1, .inl (cI, 1600, .inl Zi)), (q_2, .inl (cI, 40, .inl Zi)), (q_3, .inl (cJ, 1600, .inr (.inl Zl))), (q_4, .inl (cI, 40, .inl Zi))] := hD
  refine va_putF (D := (dC, dI)) (ci := 5) (v := .ref q_4) (ty := .array .int) (C := RX5) (T := TX5) (N := 17) hx hb hts i_5 tyX5 tyX5_ok nmX5 hown hK hP hD hS 0 rfl rfl 5 (by decide) k_9 (fun _ h9 => h9) rfl hin rfl (by decide +kernel) rfl rfl (Nat.le_of_ble_eq_true rfl) dX5_init_40 (fun H locs hP hD hS => ?_)
  have hP : va_P (dC, dI) vwCl [(h, .inr (5, [.int 1, .ref q_1, .ref q_2, .int 0, .ref q_3, .ref q_4, .null, .int 0, .null, .null, .null, .int 0, .null, .null, .int 0, .null, .long 0])), (q_1, .inl (cI, 1600, .inl Zi)), (q_2, .inl (cI, 40, .inl Zi)), (q_3, .inl (cJ, 1600, .inr (.inl Zl))), (q_4, .inl (cI, 40, .inl Zi))] H := hP
  have hD : va_D A [(h, .inr (5, [.int 1, .ref q_1, .ref q_2, .int 0, .ref q_3, .ref q_4, .null, .int 0, .null, .null, .null, .int 0, .null, .null, .int 0, .null, .long 0])), (q_1, .inl (cI, 1600, .inl Zi)), (q_2, .inl (cI, 40, .inl Zi)), (q_3, .inl (cJ, 1600, .inr (.inl Zl))), (q_4, .inl (cI, 40, .inl Zi))] := hD
  refine lv_aload_n hx hb dX5_init_43 rfl (lv_at hl 0 rfl) ?_
  refine lv_sipush (v := 1600) hx hb dX5_init_44 (by decide) ?_
  refine vn_J (N' := 1600) hx hb k_7 hK hP hD hS hA (by decide) (by decide) (by decide) (Nat.le_of_ble_eq_true rfl) (Nat.le_of_ble_eq_true rfl) dX5_init_47 (fun q_5 H hP hD hS => ?_)
  refine W.widen (k := 5) (n := 4880) (by decide) (by decide) ?_
  have hP : va_P (dC, dI) vwCl [(h, .inr (5, [.int 1, .ref q_1, .ref q_2, .int 0, .ref q_3, .ref q_4, .null, .int 0, .null, .null, .null, .int 0, .null, .null, .int 0, .null, .long 0])), (q_1, .inl (cI, 1600, .inl Zi)), (q_2, .inl (cI, 40, .inl Zi)), (q_3, .inl (cJ, 1600, .inr (.inl Zl))), (q_4, .inl (cI, 40, .inl Zi)), (q_5, .inl (cJ, 1600, .inr (.inl Zl)))] H := hP
  have hD : va_D A [(h, .inr (5, [.int 1, .ref q_1, .ref q_2, .int 0, .ref q_3, .ref q_4, .null, .int 0, .null, .null, .null, .int 0, .null, .null, .int 0, .null, .long 0])), (q_1, .inl (cI, 1600, .inl Zi)), (q_2, .inl (cI, 40, .inl Zi)), (q_3, .inl (cJ, 1600, .inr (.inl Zl))), (q_4, .inl (cI, 40, .inl Zi)), (q_5, .inl (cJ, 1600, .inr (.inl Zl)))] := hD
  refine va_putF (D := (dC, dI)) (ci := 5) (v := .ref q_5) (ty := .array .long) (C := RX5) (T := TX5) (N := 17) hx hb hts i_5 tyX5 tyX5_ok nmX5 hown hK hP hD hS 0 rfl rfl 6 (by decide) k_10 (fun _ h9 => h9) rfl hin rfl (by decide +kernel) rfl rfl (Nat.le_of_ble_eq_true rfl) dX5_init_49 (fun H locs hP hD hS => ?_)
  have hP : va_P (dC, dI) vwCl [(h, .inr (5, [.int 1, .ref q_1, .ref q_2, .int 0, .ref q_3, .ref q_4, .ref q_5, .int 0, .null, .null, .null, .int 0, .null, .null, .int 0, .null, .long 0])), (q_1, .inl (cI, 1600, .inl Zi)), (q_2, .inl (cI, 40, .inl Zi)), (q_3, .inl (cJ, 1600, .inr (.inl Zl))), (q_4, .inl (cI, 40, .inl Zi)), (q_5, .inl (cJ, 1600, .inr (.inl Zl)))] H := hP
  have hD : va_D A [(h, .inr (5, [.int 1, .ref q_1, .ref q_2, .int 0, .ref q_3, .ref q_4, .ref q_5, .int 0, .null, .null, .null, .int 0, .null, .null, .int 0, .null, .long 0])), (q_1, .inl (cI, 1600, .inl Zi)), (q_2, .inl (cI, 40, .inl Zi)), (q_3, .inl (cJ, 1600, .inr (.inl Zl))), (q_4, .inl (cI, 40, .inl Zi)), (q_5, .inl (cJ, 1600, .inr (.inl Zl)))] := hD
  refine lv_aload_n hx hb dX5_init_52 rfl (lv_at hl 0 rfl) ?_
  refine lv_sipush (v := 164) hx hb dX5_init_53 (by decide) ?_
  refine vn_I (N' := 164) hx hb k_4 hK hP hD hS hA (by decide) (by decide) (by decide) (Nat.le_of_ble_eq_true rfl) (Nat.le_of_ble_eq_true rfl) dX5_init_56 (fun q_6 H hP hD hS => ?_)
  refine W.widen (k := 6) (n := 5044) (by decide) (by decide) ?_
  have hP : va_P (dC, dI) vwCl [(h, .inr (5, [.int 1, .ref q_1, .ref q_2, .int 0, .ref q_3, .ref q_4, .ref q_5, .int 0, .null, .null, .null, .int 0, .null, .null, .int 0, .null, .long 0])), (q_1, .inl (cI, 1600, .inl Zi)), (q_2, .inl (cI, 40, .inl Zi)), (q_3, .inl (cJ, 1600, .inr (.inl Zl))), (q_4, .inl (cI, 40, .inl Zi)), (q_5, .inl (cJ, 1600, .inr (.inl Zl))), (q_6, .inl (cI, 164, .inl Zi))] H := hP
  have hD : va_D A [(h, .inr (5, [.int 1, .ref q_1, .ref q_2, .int 0, .ref q_3, .ref q_4, .ref q_5, .int 0, .null, .null, .null, .int 0, .null, .null, .int 0, .null, .long 0])), (q_1, .inl (cI, 1600, .inl Zi)), (q_2, .inl (cI, 40, .inl Zi)), (q_3, .inl (cJ, 1600, .inr (.inl Zl))), (q_4, .inl (cI, 40, .inl Zi)), (q_5, .inl (cJ, 1600, .inr (.inl Zl))), (q_6, .inl (cI, 164, .inl Zi))] := hD
  refine va_putF (D := (dC, dI)) (ci := 5) (v := .ref q_6) (ty := .array .int) (C := RX5) (T := TX5) (N := 17) hx hb hts i_5 tyX5 tyX5_ok nmX5 hown hK hP hD hS 0 rfl rfl 8 (by decide) k_11 (fun _ h9 => h9) rfl hin rfl (by decide +kernel) rfl rfl (Nat.le_of_ble_eq_true rfl) dX5_init_58 (fun H locs hP hD hS => ?_)
  have hP : va_P (dC, dI) vwCl [(h, .inr (5, [.int 1, .ref q_1, .ref q_2, .int 0, .ref q_3, .ref q_4, .ref q_5, .int 0, .ref q_6, .null, .null, .int 0, .null, .null, .int 0, .null, .long 0])), (q_1, .inl (cI, 1600, .inl Zi)), (q_2, .inl (cI, 40, .inl Zi)), (q_3, .inl (cJ, 1600, .inr (.inl Zl))), (q_4, .inl (cI, 40, .inl Zi)), (q_5, .inl (cJ, 1600, .inr (.inl Zl))), (q_6, .inl (cI, 164, .inl Zi))] H := hP
  have hD : va_D A [(h, .inr (5, [.int 1, .ref q_1, .ref q_2, .int 0, .ref q_3, .ref q_4, .ref q_5, .int 0, .ref q_6, .null, .null, .int 0, .null, .null, .int 0, .null, .long 0])), (q_1, .inl (cI, 1600, .inl Zi)), (q_2, .inl (cI, 40, .inl Zi)), (q_3, .inl (cJ, 1600, .inr (.inl Zl))), (q_4, .inl (cI, 40, .inl Zi)), (q_5, .inl (cJ, 1600, .inr (.inl Zl))), (q_6, .inl (cI, 164, .inl Zi))] := hD
  refine lv_aload_n hx hb dX5_init_61 rfl (lv_at hl 0 rfl) ?_
  refine lv_bipush (v := 41) hx hb dX5_init_62 (by decide) ?_
  refine vn_J (N' := 41) hx hb k_7 hK hP hD hS hA (by decide) (by decide) (by decide) (Nat.le_of_ble_eq_true rfl) (Nat.le_of_ble_eq_true rfl) dX5_init_64 (fun q_7 H hP hD hS => ?_)
  refine W.widen (k := 7) (n := 5085) (by decide) (by decide) ?_
  have hP : va_P (dC, dI) vwCl [(h, .inr (5, [.int 1, .ref q_1, .ref q_2, .int 0, .ref q_3, .ref q_4, .ref q_5, .int 0, .ref q_6, .null, .null, .int 0, .null, .null, .int 0, .null, .long 0])), (q_1, .inl (cI, 1600, .inl Zi)), (q_2, .inl (cI, 40, .inl Zi)), (q_3, .inl (cJ, 1600, .inr (.inl Zl))), (q_4, .inl (cI, 40, .inl Zi)), (q_5, .inl (cJ, 1600, .inr (.inl Zl))), (q_6, .inl (cI, 164, .inl Zi)), (q_7, .inl (cJ, 41, .inr (.inl Zl)))] H := hP
  have hD : va_D A [(h, .inr (5, [.int 1, .ref q_1, .ref q_2, .int 0, .ref q_3, .ref q_4, .ref q_5, .int 0, .ref q_6, .null, .null, .int 0, .null, .null, .int 0, .null, .long 0])), (q_1, .inl (cI, 1600, .inl Zi)), (q_2, .inl (cI, 40, .inl Zi)), (q_3, .inl (cJ, 1600, .inr (.inl Zl))), (q_4, .inl (cI, 40, .inl Zi)), (q_5, .inl (cJ, 1600, .inr (.inl Zl))), (q_6, .inl (cI, 164, .inl Zi)), (q_7, .inl (cJ, 41, .inr (.inl Zl)))] := hD
  refine va_putF (D := (dC, dI)) (ci := 5) (v := .ref q_7) (ty := .array .long) (C := RX5) (T := TX5) (N := 17) hx hb hts i_5 tyX5 tyX5_ok nmX5 hown hK hP hD hS 0 rfl rfl 9 (by decide) k_12 (fun _ h9 => h9) rfl hin rfl (by decide +kernel) rfl rfl (Nat.le_of_ble_eq_true rfl) dX5_init_66 (fun H locs hP hD hS => ?_)
  have hP : va_P (dC, dI) vwCl [(h, .inr (5, [.int 1, .ref q_1, .ref q_2, .int 0, .ref q_3, .ref q_4, .ref q_5, .int 0, .ref q_6, .ref q_7, .null, .int 0, .null, .null, .int 0, .null, .long 0])), (q_1, .inl (cI, 1600, .inl Zi)), (q_2, .inl (cI, 40, .inl Zi)), (q_3, .inl (cJ, 1600, .inr (.inl Zl))), (q_4, .inl (cI, 40, .inl Zi)), (q_5, .inl (cJ, 1600, .inr (.inl Zl))), (q_6, .inl (cI, 164, .inl Zi)), (q_7, .inl (cJ, 41, .inr (.inl Zl)))] H := hP
  have hD : va_D A [(h, .inr (5, [.int 1, .ref q_1, .ref q_2, .int 0, .ref q_3, .ref q_4, .ref q_5, .int 0, .ref q_6, .ref q_7, .null, .int 0, .null, .null, .int 0, .null, .long 0])), (q_1, .inl (cI, 1600, .inl Zi)), (q_2, .inl (cI, 40, .inl Zi)), (q_3, .inl (cJ, 1600, .inr (.inl Zl))), (q_4, .inl (cI, 40, .inl Zi)), (q_5, .inl (cJ, 1600, .inr (.inl Zl))), (q_6, .inl (cI, 164, .inl Zi)), (q_7, .inl (cJ, 41, .inr (.inl Zl)))] := hD
  refine lv_aload_n hx hb dX5_init_69 rfl (lv_at hl 0 rfl) ?_
  refine lv_sipush (v := 1640) hx hb dX5_init_70 (by decide) ?_
  refine vn_I (N' := 1640) hx hb k_4 hK hP hD hS hA (by decide) (by decide) (by decide) (Nat.le_of_ble_eq_true rfl) (Nat.le_of_ble_eq_true rfl) dX5_init_73 (fun q_8 H hP hD hS => ?_)
  refine W.widen (k := 8) (n := 6725) (by decide) (by decide) ?_
  have hP : va_P (dC, dI) vwCl [(h, .inr (5, [.int 1, .ref q_1, .ref q_2, .int 0, .ref q_3, .ref q_4, .ref q_5, .int 0, .ref q_6, .ref q_7, .null, .int 0, .null, .null, .int 0, .null, .long 0])), (q_1, .inl (cI, 1600, .inl Zi)), (q_2, .inl (cI, 40, .inl Zi)), (q_3, .inl (cJ, 1600, .inr (.inl Zl))), (q_4, .inl (cI, 40, .inl Zi)), (q_5, .inl (cJ, 1600, .inr (.inl Zl))), (q_6, .inl (cI, 164, .inl Zi)), (q_7, .inl (cJ, 41, .inr (.inl Zl))), (q_8, .inl (cI, 1640, .inl Zi))] H := hP
  have hD : va_D A [(h, .inr (5, [.int 1, .ref q_1, .ref q_2, .int 0, .ref q_3, .ref q_4, .ref q_5, .int 0, .ref q_6, .ref q_7, .null, .int 0, .null, .null, .int 0, .null, .long 0])), (q_1, .inl (cI, 1600, .inl Zi)), (q_2, .inl (cI, 40, .inl Zi)), (q_3, .inl (cJ, 1600, .inr (.inl Zl))), (q_4, .inl (cI, 40, .inl Zi)), (q_5, .inl (cJ, 1600, .inr (.inl Zl))), (q_6, .inl (cI, 164, .inl Zi)), (q_7, .inl (cJ, 41, .inr (.inl Zl))), (q_8, .inl (cI, 1640, .inl Zi))] := hD
  refine va_putF (D := (dC, dI)) (ci := 5) (v := .ref q_8) (ty := .array .int) (C := RX5) (T := TX5) (N := 17) hx hb hts i_5 tyX5 tyX5_ok nmX5 hown hK hP hD hS 0 rfl rfl 10 (by decide) k_13 (fun _ h9 => h9) rfl hin rfl (by decide +kernel) rfl rfl (Nat.le_of_ble_eq_true rfl) dX5_init_75 (fun H locs hP hD hS => ?_)
  have hP : va_P (dC, dI) vwCl [(h, .inr (5, [.int 1, .ref q_1, .ref q_2, .int 0, .ref q_3, .ref q_4, .ref q_5, .int 0, .ref q_6, .ref q_7, .ref q_8, .int 0, .null, .null, .int 0, .null, .long 0])), (q_1, .inl (cI, 1600, .inl Zi)), (q_2, .inl (cI, 40, .inl Zi)), (q_3, .inl (cJ, 1600, .inr (.inl Zl))), (q_4, .inl (cI, 40, .inl Zi)), (q_5, .inl (cJ, 1600, .inr (.inl Zl))), (q_6, .inl (cI, 164, .inl Zi)), (q_7, .inl (cJ, 41, .inr (.inl Zl))), (q_8, .inl (cI, 1640, .inl Zi))] H := hP
  have hD : va_D A [(h, .inr (5, [.int 1, .ref q_1, .ref q_2, .int 0, .ref q_3, .ref q_4, .ref q_5, .int 0, .ref q_6, .ref q_7, .ref q_8, .int 0, .null, .null, .int 0, .null, .long 0])), (q_1, .inl (cI, 1600, .inl Zi)), (q_2, .inl (cI, 40, .inl Zi)), (q_3, .inl (cJ, 1600, .inr (.inl Zl))), (q_4, .inl (cI, 40, .inl Zi)), (q_5, .inl (cJ, 1600, .inr (.inl Zl))), (q_6, .inl (cI, 164, .inl Zi)), (q_7, .inl (cJ, 41, .inr (.inl Zl))), (q_8, .inl (cI, 1640, .inl Zi))] := hD
  refine lv_aload_n hx hb dX5_init_78 rfl (lv_at hl 0 rfl) ?_
  refine lv_sipush (v := 1600) hx hb dX5_init_79 (by decide) ?_
  refine vn_I (N' := 1600) hx hb k_4 hK hP hD hS hA (by decide) (by decide) (by decide) (Nat.le_of_ble_eq_true rfl) (Nat.le_of_ble_eq_true rfl) dX5_init_82 (fun q_9 H hP hD hS => ?_)
  refine W.widen (k := 9) (n := 8325) (by decide) (by decide) ?_
  have hP : va_P (dC, dI) vwCl [(h, .inr (5, [.int 1, .ref q_1, .ref q_2, .int 0, .ref q_3, .ref q_4, .ref q_5, .int 0, .ref q_6, .ref q_7, .ref q_8, .int 0, .null, .null, .int 0, .null, .long 0])), (q_1, .inl (cI, 1600, .inl Zi)), (q_2, .inl (cI, 40, .inl Zi)), (q_3, .inl (cJ, 1600, .inr (.inl Zl))), (q_4, .inl (cI, 40, .inl Zi)), (q_5, .inl (cJ, 1600, .inr (.inl Zl))), (q_6, .inl (cI, 164, .inl Zi)), (q_7, .inl (cJ, 41, .inr (.inl Zl))), (q_8, .inl (cI, 1640, .inl Zi)), (q_9, .inl (cI, 1600, .inl Zi))] H := hP
  have hD : va_D A [(h, .inr (5, [.int 1, .ref q_1, .ref q_2, .int 0, .ref q_3, .ref q_4, .ref q_5, .int 0, .ref q_6, .ref q_7, .ref q_8, .int 0, .null, .null, .int 0, .null, .long 0])), (q_1, .inl (cI, 1600, .inl Zi)), (q_2, .inl (cI, 40, .inl Zi)), (q_3, .inl (cJ, 1600, .inr (.inl Zl))), (q_4, .inl (cI, 40, .inl Zi)), (q_5, .inl (cJ, 1600, .inr (.inl Zl))), (q_6, .inl (cI, 164, .inl Zi)), (q_7, .inl (cJ, 41, .inr (.inl Zl))), (q_8, .inl (cI, 1640, .inl Zi)), (q_9, .inl (cI, 1600, .inl Zi))] := hD
  refine va_putF (D := (dC, dI)) (ci := 5) (v := .ref q_9) (ty := .array .int) (C := RX5) (T := TX5) (N := 17) hx hb hts i_5 tyX5 tyX5_ok nmX5 hown hK hP hD hS 0 rfl rfl 12 (by decide) k_14 (fun _ h9 => h9) rfl hin rfl (by decide +kernel) rfl rfl (Nat.le_of_ble_eq_true rfl) dX5_init_84 (fun H locs hP hD hS => ?_)
  have hP : va_P (dC, dI) vwCl [(h, .inr (5, [.int 1, .ref q_1, .ref q_2, .int 0, .ref q_3, .ref q_4, .ref q_5, .int 0, .ref q_6, .ref q_7, .ref q_8, .int 0, .ref q_9, .null, .int 0, .null, .long 0])), (q_1, .inl (cI, 1600, .inl Zi)), (q_2, .inl (cI, 40, .inl Zi)), (q_3, .inl (cJ, 1600, .inr (.inl Zl))), (q_4, .inl (cI, 40, .inl Zi)), (q_5, .inl (cJ, 1600, .inr (.inl Zl))), (q_6, .inl (cI, 164, .inl Zi)), (q_7, .inl (cJ, 41, .inr (.inl Zl))), (q_8, .inl (cI, 1640, .inl Zi)), (q_9, .inl (cI, 1600, .inl Zi))] H := hP
  have hD : va_D A [(h, .inr (5, [.int 1, .ref q_1, .ref q_2, .int 0, .ref q_3, .ref q_4, .ref q_5, .int 0, .ref q_6, .ref q_7, .ref q_8, .int 0, .ref q_9, .null, .int 0, .null, .long 0])), (q_1, .inl (cI, 1600, .inl Zi)), (q_2, .inl (cI, 40, .inl Zi)), (q_3, .inl (cJ, 1600, .inr (.inl Zl))), (q_4, .inl (cI, 40, .inl Zi)), (q_5, .inl (cJ, 1600, .inr (.inl Zl))), (q_6, .inl (cI, 164, .inl Zi)), (q_7, .inl (cJ, 41, .inr (.inl Zl))), (q_8, .inl (cI, 1640, .inl Zi)), (q_9, .inl (cI, 1600, .inl Zi))] := hD
  refine lv_aload_n hx hb dX5_init_87 rfl (lv_at hl 0 rfl) ?_
  refine lv_sipush (v := 400) hx hb dX5_init_88 (by decide) ?_
  refine vn_J (N' := 400) hx hb k_7 hK hP hD hS hA (by decide) (by decide) (by decide) (Nat.le_of_ble_eq_true rfl) (Nat.le_of_ble_eq_true rfl) dX5_init_91 (fun q_10 H hP hD hS => ?_)
  refine W.widen (k := 10) (n := 8725) (by decide) (by decide) ?_
  have hP : va_P (dC, dI) vwCl [(h, .inr (5, [.int 1, .ref q_1, .ref q_2, .int 0, .ref q_3, .ref q_4, .ref q_5, .int 0, .ref q_6, .ref q_7, .ref q_8, .int 0, .ref q_9, .null, .int 0, .null, .long 0])), (q_1, .inl (cI, 1600, .inl Zi)), (q_2, .inl (cI, 40, .inl Zi)), (q_3, .inl (cJ, 1600, .inr (.inl Zl))), (q_4, .inl (cI, 40, .inl Zi)), (q_5, .inl (cJ, 1600, .inr (.inl Zl))), (q_6, .inl (cI, 164, .inl Zi)), (q_7, .inl (cJ, 41, .inr (.inl Zl))), (q_8, .inl (cI, 1640, .inl Zi)), (q_9, .inl (cI, 1600, .inl Zi)), (q_10, .inl (cJ, 400, .inr (.inl Zl)))] H := hP
  have hD : va_D A [(h, .inr (5, [.int 1, .ref q_1, .ref q_2, .int 0, .ref q_3, .ref q_4, .ref q_5, .int 0, .ref q_6, .ref q_7, .ref q_8, .int 0, .ref q_9, .null, .int 0, .null, .long 0])), (q_1, .inl (cI, 1600, .inl Zi)), (q_2, .inl (cI, 40, .inl Zi)), (q_3, .inl (cJ, 1600, .inr (.inl Zl))), (q_4, .inl (cI, 40, .inl Zi)), (q_5, .inl (cJ, 1600, .inr (.inl Zl))), (q_6, .inl (cI, 164, .inl Zi)), (q_7, .inl (cJ, 41, .inr (.inl Zl))), (q_8, .inl (cI, 1640, .inl Zi)), (q_9, .inl (cI, 1600, .inl Zi)), (q_10, .inl (cJ, 400, .inr (.inl Zl)))] := hD
  refine va_putF (D := (dC, dI)) (ci := 5) (v := .ref q_10) (ty := .array .long) (C := RX5) (T := TX5) (N := 17) hx hb hts i_5 tyX5 tyX5_ok nmX5 hown hK hP hD hS 0 rfl rfl 13 (by decide) k_15 (fun _ h9 => h9) rfl hin rfl (by decide +kernel) rfl rfl (Nat.le_of_ble_eq_true rfl) dX5_init_93 (fun H locs hP hD hS => ?_)
  have hP : va_P (dC, dI) vwCl [(h, .inr (5, [.int 1, .ref q_1, .ref q_2, .int 0, .ref q_3, .ref q_4, .ref q_5, .int 0, .ref q_6, .ref q_7, .ref q_8, .int 0, .ref q_9, .ref q_10, .int 0, .null, .long 0])), (q_1, .inl (cI, 1600, .inl Zi)), (q_2, .inl (cI, 40, .inl Zi)), (q_3, .inl (cJ, 1600, .inr (.inl Zl))), (q_4, .inl (cI, 40, .inl Zi)), (q_5, .inl (cJ, 1600, .inr (.inl Zl))), (q_6, .inl (cI, 164, .inl Zi)), (q_7, .inl (cJ, 41, .inr (.inl Zl))), (q_8, .inl (cI, 1640, .inl Zi)), (q_9, .inl (cI, 1600, .inl Zi)), (q_10, .inl (cJ, 400, .inr (.inl Zl)))] H := hP
  have hD : va_D A [(h, .inr (5, [.int 1, .ref q_1, .ref q_2, .int 0, .ref q_3, .ref q_4, .ref q_5, .int 0, .ref q_6, .ref q_7, .ref q_8, .int 0, .ref q_9, .ref q_10, .int 0, .null, .long 0])), (q_1, .inl (cI, 1600, .inl Zi)), (q_2, .inl (cI, 40, .inl Zi)), (q_3, .inl (cJ, 1600, .inr (.inl Zl))), (q_4, .inl (cI, 40, .inl Zi)), (q_5, .inl (cJ, 1600, .inr (.inl Zl))), (q_6, .inl (cI, 164, .inl Zi)), (q_7, .inl (cJ, 41, .inr (.inl Zl))), (q_8, .inl (cI, 1640, .inl Zi)), (q_9, .inl (cI, 1600, .inl Zi)), (q_10, .inl (cJ, 400, .inr (.inl Zl)))] := hD
  refine lv_aload_n hx hb dX5_init_96 rfl (lv_at hl 0 rfl) ?_
  refine lv_bipush (v := 40) hx hb dX5_init_97 (by decide) ?_
  refine vn_J (N' := 40) hx hb k_7 hK hP hD hS hA (by decide) (by decide) (by decide) (Nat.le_of_ble_eq_true rfl) (Nat.le_of_ble_eq_true rfl) dX5_init_99 (fun q_11 H hP hD hS => ?_)
  refine W.widen (k := 11) (n := 8765) (by decide) (by decide) ?_
  have hP : va_P (dC, dI) vwCl [(h, .inr (5, [.int 1, .ref q_1, .ref q_2, .int 0, .ref q_3, .ref q_4, .ref q_5, .int 0, .ref q_6, .ref q_7, .ref q_8, .int 0, .ref q_9, .ref q_10, .int 0, .null, .long 0])), (q_1, .inl (cI, 1600, .inl Zi)), (q_2, .inl (cI, 40, .inl Zi)), (q_3, .inl (cJ, 1600, .inr (.inl Zl))), (q_4, .inl (cI, 40, .inl Zi)), (q_5, .inl (cJ, 1600, .inr (.inl Zl))), (q_6, .inl (cI, 164, .inl Zi)), (q_7, .inl (cJ, 41, .inr (.inl Zl))), (q_8, .inl (cI, 1640, .inl Zi)), (q_9, .inl (cI, 1600, .inl Zi)), (q_10, .inl (cJ, 400, .inr (.inl Zl))), (q_11, .inl (cJ, 40, .inr (.inl Zl)))] H := hP
  have hD : va_D A [(h, .inr (5, [.int 1, .ref q_1, .ref q_2, .int 0, .ref q_3, .ref q_4, .ref q_5, .int 0, .ref q_6, .ref q_7, .ref q_8, .int 0, .ref q_9, .ref q_10, .int 0, .null, .long 0])), (q_1, .inl (cI, 1600, .inl Zi)), (q_2, .inl (cI, 40, .inl Zi)), (q_3, .inl (cJ, 1600, .inr (.inl Zl))), (q_4, .inl (cI, 40, .inl Zi)), (q_5, .inl (cJ, 1600, .inr (.inl Zl))), (q_6, .inl (cI, 164, .inl Zi)), (q_7, .inl (cJ, 41, .inr (.inl Zl))), (q_8, .inl (cI, 1640, .inl Zi)), (q_9, .inl (cI, 1600, .inl Zi)), (q_10, .inl (cJ, 400, .inr (.inl Zl))), (q_11, .inl (cJ, 40, .inr (.inl Zl)))] := hD
  refine va_putF (D := (dC, dI)) (ci := 5) (v := .ref q_11) (ty := .array .long) (C := RX5) (T := TX5) (N := 17) hx hb hts i_5 tyX5 tyX5_ok nmX5 hown hK hP hD hS 0 rfl rfl 15 (by decide) k_16 (fun _ h9 => h9) rfl hin rfl (by decide +kernel) rfl rfl (Nat.le_of_ble_eq_true rfl) dX5_init_101 (fun H locs hP hD hS => ?_)
  have hP : va_P (dC, dI) vwCl [(h, .inr (5, [.int 1, .ref q_1, .ref q_2, .int 0, .ref q_3, .ref q_4, .ref q_5, .int 0, .ref q_6, .ref q_7, .ref q_8, .int 0, .ref q_9, .ref q_10, .int 0, .ref q_11, .long 0])), (q_1, .inl (cI, 1600, .inl Zi)), (q_2, .inl (cI, 40, .inl Zi)), (q_3, .inl (cJ, 1600, .inr (.inl Zl))), (q_4, .inl (cI, 40, .inl Zi)), (q_5, .inl (cJ, 1600, .inr (.inl Zl))), (q_6, .inl (cI, 164, .inl Zi)), (q_7, .inl (cJ, 41, .inr (.inl Zl))), (q_8, .inl (cI, 1640, .inl Zi)), (q_9, .inl (cI, 1600, .inl Zi)), (q_10, .inl (cJ, 400, .inr (.inl Zl))), (q_11, .inl (cJ, 40, .inr (.inl Zl)))] H := hP
  have hD : va_D A [(h, .inr (5, [.int 1, .ref q_1, .ref q_2, .int 0, .ref q_3, .ref q_4, .ref q_5, .int 0, .ref q_6, .ref q_7, .ref q_8, .int 0, .ref q_9, .ref q_10, .int 0, .ref q_11, .long 0])), (q_1, .inl (cI, 1600, .inl Zi)), (q_2, .inl (cI, 40, .inl Zi)), (q_3, .inl (cJ, 1600, .inr (.inl Zl))), (q_4, .inl (cI, 40, .inl Zi)), (q_5, .inl (cJ, 1600, .inr (.inl Zl))), (q_6, .inl (cI, 164, .inl Zi)), (q_7, .inl (cJ, 41, .inr (.inl Zl))), (q_8, .inl (cI, 1640, .inl Zi)), (q_9, .inl (cI, 1600, .inl Zi)), (q_10, .inl (cJ, 400, .inr (.inl Zl))), (q_11, .inl (cJ, 40, .inr (.inl Zl)))] := hD
  refine lv_aload_n hx hb dX5_init_104 rfl (lv_at hl 0 rfl) ?_
  refine va_get (D := (dC, dI)) (ci := 5) (v := .ref q_2) (C := RX5) (T := TX5) (N := 17) hx hb hts i_5 hown hK hP 0 rfl rfl 2 (by decide) k_6 (fun _ h9 => h9) rfl dX5_init_105 ?_
  refine lv_iconst (v := 0) hx hb dX5_init_108 (by decide) ?_
  refine lv_iconst (v := 0) hx hb dX5_init_109 (by decide) ?_
  refine va_iast hx hb hK hP hD hS 2 0 rfl rfl (vp_c (by decide)) dX5_init_110 (fun H locs hP hD hS => ?_)
  have hP : va_P (dC, dI) vwCl [(h, .inr (5, [.int 1, .ref q_1, .ref q_2, .int 0, .ref q_3, .ref q_4, .ref q_5, .int 0, .ref q_6, .ref q_7, .ref q_8, .int 0, .ref q_9, .ref q_10, .int 0, .ref q_11, .long 0])), (q_1, .inl (cI, 1600, .inl Zi)), (q_2, .inl (cI, 40, .inl (upd Zi 0 0))), (q_3, .inl (cJ, 1600, .inr (.inl Zl))), (q_4, .inl (cI, 40, .inl Zi)), (q_5, .inl (cJ, 1600, .inr (.inl Zl))), (q_6, .inl (cI, 164, .inl Zi)), (q_7, .inl (cJ, 41, .inr (.inl Zl))), (q_8, .inl (cI, 1640, .inl Zi)), (q_9, .inl (cI, 1600, .inl Zi)), (q_10, .inl (cJ, 400, .inr (.inl Zl))), (q_11, .inl (cJ, 40, .inr (.inl Zl)))] H := hP
  have hD : va_D A [(h, .inr (5, [.int 1, .ref q_1, .ref q_2, .int 0, .ref q_3, .ref q_4, .ref q_5, .int 0, .ref q_6, .ref q_7, .ref q_8, .int 0, .ref q_9, .ref q_10, .int 0, .ref q_11, .long 0])), (q_1, .inl (cI, 1600, .inl Zi)), (q_2, .inl (cI, 40, .inl (upd Zi 0 0))), (q_3, .inl (cJ, 1600, .inr (.inl Zl))), (q_4, .inl (cI, 40, .inl Zi)), (q_5, .inl (cJ, 1600, .inr (.inl Zl))), (q_6, .inl (cI, 164, .inl Zi)), (q_7, .inl (cJ, 41, .inr (.inl Zl))), (q_8, .inl (cI, 1640, .inl Zi)), (q_9, .inl (cI, 1600, .inl Zi)), (q_10, .inl (cJ, 400, .inr (.inl Zl))), (q_11, .inl (cJ, 40, .inr (.inl Zl)))] := hD
  have hP9 := hP.sub (ws' := [(h, .inr (5, [.int 1, .ref q_1, .ref q_2, .int 0, .ref q_3, .ref q_4, .ref q_5, .int 0, .ref q_6, .ref q_7, .ref q_8, .int 0, .ref q_9, .ref q_10, .int 0, .ref q_11, .long 0])), (q_1, .inl (cI, 1600, .inl Zi)), (q_2, .inl (cI, 40, .inl (upd Zi 0 0))), (q_3, .inl (cJ, 1600, .inr (.inl Zl))), (q_4, .inl (cI, 40, .inl Zi)), (q_5, .inl (cJ, 1600, .inr (.inl Zl))), (q_6, .inl (cI, 164, .inl Zi)), (q_7, .inl (cJ, 41, .inr (.inl Zl))), (q_8, .inl (cI, 1640, .inl Zi)), (q_9, .inl (cI, 1600, .inl Zi)), (q_10, .inl (cJ, 400, .inr (.inl Zl))), (q_11, .inl (cJ, 40, .inr (.inl Zl)))]) [0, 1, 2, 3, 4, 5, 6, 7, 8, 9, 10, 11] rfl
  have hD9 := hD.sub (ws' := [(h, .inr (5, [.int 1, .ref q_1, .ref q_2, .int 0, .ref q_3, .ref q_4, .ref q_5, .int 0, .ref q_6, .ref q_7, .ref q_8, .int 0, .ref q_9, .ref q_10, .int 0, .ref q_11, .long 0])), (q_1, .inl (cI, 1600, .inl Zi)), (q_2, .inl (cI, 40, .inl (upd Zi 0 0))), (q_3, .inl (cJ, 1600, .inr (.inl Zl))), (q_4, .inl (cI, 40, .inl Zi)), (q_5, .inl (cJ, 1600, .inr (.inl Zl))), (q_6, .inl (cI, 164, .inl Zi)), (q_7, .inl (cJ, 41, .inr (.inl Zl))), (q_8, .inl (cI, 1640, .inl Zi)), (q_9, .inl (cI, 1600, .inl Zi)), (q_10, .inl (cJ, 400, .inr (.inl Zl))), (q_11, .inl (cJ, 40, .inr (.inl Zl)))]) [0, 1, 2, 3, 4, 5, 6, 7, 8, 9, 10, 11] (by decide) rfl
  exact W.vret hx hb hr (fun t ht hW => ⟨⟨(fun j => ([q_1, q_2, q_3, q_4, q_5, q_6, q_7, q_8, q_9, q_10, q_11] : List Nat).getD j 0), rfl, trivial, by rw [ht]; exact hP9, hD9⟩, hS.F ht⟩) hS.2.2 dX5_init_111
end
section
set_option maxHeartbeats 4000000 in
set_option maxRecDepth 100000 in
theorem c_X0_between (l : Launch) (dC : Nat → ClassId) (dI : Nat → Nat → Nat) (cI cJ : ClassId) (g w d : Nat) (sz : Nat) (fW : Nat → Int32) (z : Int32) (tt : Int32) : Met l yX0_between wsX0_between ({ frames := 0, cells := 0, slots := 0, locals := 0 }) (va_Pc [.ref g, .int 0, .int 0] (pPre dC dI cI cJ sz [(g, .inr (0, [.ref w, .ref d, .int z, .int tt])), (w, .inl (cI, 1600, .inl fW))])) (va_Qi (fun (r : Int32) (_ : Unit) => r = fW 0) (pPost dC dI (va_A [(g, .inr (0, [.ref w, .ref d, .int z, .int tt])), (w, .inl (cI, 1600, .inl fW))] sz) [(g, .inr (0, [.ref w, .ref d, .int z, .int tt])), (w, .inl (cI, 1600, .inl fW))]) (va_A [(g, .inr (0, [.ref w, .ref d, .int z, .int tt])), (w, .inl (cI, 1600, .inl fW))] sz)) 0 0 (va_A [(g, .inr (0, [.ref w, .ref d, .int z, .int tt])), (w, .inl (cI, 1600, .inl fW))] sz) := by
  refine Met.ofW (cc := cX0_between) (maxL := 3) (ret := (some .int)) (by decide) rfl ?_
  intro p e s m args below meth c s₁ B hml hv
  obtain ⟨rfl, hsz, hP, hK, hD0⟩ := hv
  have hx := B.exec
  have hb := B.bytes
  have hr := B.returns
  have hts := atoms_spec (ws := wsX0_between) B.pre
  have hown : s.vm.findClass RX0 = some m.cls := findClass_of_methodNamed B.named
  have hlocks := B.notSynchronized
  subst hsz
  have hD := hD0.self (sz := s.heap.size)
  generalize hAe : va_A [(g, .inr (0, [.ref w, .ref d, .int z, .int tt])), (w, .inl (cI, 1600, .inl fW))] s.heap.size = A at hD ⊢
  have hA : ∀ q : Nat, s.heap.size ≤ q → A q := fun q h => by rw [← hAe]; exact Or.inr h
  have hS : va_S A s.heap s.heap [] := va_S.rf
  have hP : va_P (dC, dI) vwCl [(g, .inr (0, [.ref w, .ref d, .int z, .int tt])), (w, .inl (cI, 1600, .inl fW))] s.heap := hP
  have hl := lv_entry ([.ref g, .int 0, .int 0]) (n := 3) (Nat.le_of_ble_eq_true rfl)
  rw [lg_entry_eq]
  generalize (lg_sl ([.ref g, .int 0, .int 0]) ++ List.replicate (3 - (lg_sl ([.ref g, .int 0, .int 0])).length) Slot.unset).toArray = ls at hl ⊢
  have hl : lv_has ls 3 [(0, .ref g), (1, .int 0), (2, .int 0)] := hl
  have i_0 : ∀ w ∈ wsX00, w ∈ wsX0_between := by decide +kernel
  have k_0 := hts (.fieldLink RX0 9 "CommunityLevels$Graph" "weight" "[I") (by decide +kernel)
  refine lv_aload_n hx hb dX0_between_0 rfl (lv_at hl 0 rfl) ?_
  refine va_get (D := (dC, dI)) (ci := 0) (v := .ref w) (C := RX0) (T := TX0) (N := 4) hx hb hts i_0 hown hK hP 0 rfl rfl 0 (by decide) k_0 (fun _ h9 => h9) rfl dX0_between_1 ?_
  refine lv_iload_n hx hb dX0_between_4 rfl (lv_at hl 1 rfl) ?_
  refine lv_bipush (v := 40) hx hb dX0_between_5 (by decide) ?_
  refine lv_imul hx hb dX0_between_7 ?_
  refine lc_i (v := 0) (by first | rfl | decide) ?_
  refine lv_iload_n hx hb dX0_between_8 rfl (lv_at hl 2 rfl) ?_
  refine lv_iadd hx hb dX0_between_9 ?_
  refine lc_i (v := 0) (by first | rfl | decide) ?_
  refine va_iald hx hb hK hP 1 0 rfl rfl (vp_c (by decide)) dX0_between_10 ?_
  refine lc_i (v := fW 0) (by first | rfl | decide) ?_
  have hP9 := hP.sub (ws' := [(g, .inr (0, [.ref w, .ref d, .int z, .int tt])), (w, .inl (cI, 1600, .inl fW))]) [0, 1] rfl
  have hD9 := hD.sub (ws' := [(g, .inr (0, [.ref w, .ref d, .int z, .int tt])), (w, .inl (cI, 1600, .inl fW))]) [0, 1] (by decide) rfl
  exact W.iret (v := fW 0) hx hb hr (fun t ht hW => ⟨⟨_, (), rfl, rfl, by rw [ht]; exact hP9, hD9⟩, hS.F ht⟩) hS.2.2 dX0_between_11
set_option maxHeartbeats 4000000 in
set_option maxRecDepth 100000 in
theorem c_X0_empty (l : Launch) (dC : Nat → ClassId) (dI : Nat → Nat → Nat) (cI cJ : ClassId) (g w d : Nat) (sz : Nat) (fW : Nat → Int32) (fD : Nat → Int32) (z : Int32) (tt : Int32) (n : Int32) : Met l yX0_empty wsX0_empty ({ frames := 1, cells := 0, slots := 0, locals := 23 }) (va_Pc [.ref g, .int n] (pPre dC dI cI cJ sz [(g, .inr (0, [.ref w, .ref d, .int z, .int tt])), (w, .inl (cI, 1600, .inl fW)), (d, .inl (cI, 40, .inl fD))])) (va_Qv (fun _ : Unit => True) (pPost dC dI (va_A [(g, .inr (0, [.ref w, .ref d, .int z, .int tt])), (w, .inl (cI, 1600, .inl fW)), (d, .inl (cI, 40, .inl fD))] sz) [(g, .inr (0, [.ref w, .ref d, .int n, .int 0])), (w, .inl (cI, 1600, .inl Zi)), (d, .inl (cI, 40, .inl Zi))]) (va_A [(g, .inr (0, [.ref w, .ref d, .int z, .int tt])), (w, .inl (cI, 1600, .inl fW)), (d, .inl (cI, 40, .inl fD))] sz)) 0 0 (va_A [(g, .inr (0, [.ref w, .ref d, .int z, .int tt])), (w, .inl (cI, 1600, .inl fW)), (d, .inl (cI, 40, .inl fD))] sz) := by
  refine Met.ofW (cc := cX0_empty) (maxL := 2) (ret := none) (by decide) rfl ?_
  intro p e s m args below meth c s₁ B hml hv
  obtain ⟨rfl, hsz, hP, hK, hD0⟩ := hv
  have hx := B.exec
  have hb := B.bytes
  have hr := B.returns
  have hts := atoms_spec (ws := wsX0_empty) B.pre
  have hown : s.vm.findClass RX0 = some m.cls := findClass_of_methodNamed B.named
  have hlocks := B.notSynchronized
  subst hsz
  have hD := hD0.self (sz := s.heap.size)
  generalize hAe : va_A [(g, .inr (0, [.ref w, .ref d, .int z, .int tt])), (w, .inl (cI, 1600, .inl fW)), (d, .inl (cI, 40, .inl fD))] s.heap.size = A at hD ⊢
  have hA : ∀ q : Nat, s.heap.size ≤ q → A q := fun q h => by rw [← hAe]; exact Or.inr h
  have hS : va_S A s.heap s.heap [] := va_S.rf
  have hP : va_P (dC, dI) vwCl [(g, .inr (0, [.ref w, .ref d, .int z, .int tt])), (w, .inl (cI, 1600, .inl fW)), (d, .inl (cI, 40, .inl fD))] s.heap := hP
  have hl := lv_entry ([.ref g, .int n]) (n := 2) (Nat.le_of_ble_eq_true rfl)
  rw [lg_entry_eq]
  generalize (lg_sl ([.ref g, .int n]) ++ List.replicate (2 - (lg_sl ([.ref g, .int n])).length) Slot.unset).toArray = ls at hl ⊢
  have hl : lv_has ls 2 [(0, .ref g), (1, .int n)] := hl
  have i_0 : ∀ w ∈ wsX00, w ∈ wsX0_empty := by decide +kernel
  have k_0 := hts (.fieldLink RX0 9 "CommunityLevels$Graph" "weight" "[I") (by decide +kernel)
  have k_1 := hts (.fieldLink RX0 15 "CommunityLevels$Graph" "degree" "[I") (by decide +kernel)
  have k_2 := hts (.fieldLink RX0 18 "CommunityLevels$Graph" "size" "I") (by decide +kernel)
  have k_3 := hts (.fieldLink RX0 22 "CommunityLevels$Graph" "total" "I") (by decide +kernel)
  refine lv_aload_n hx hb dX0_empty_0 rfl (lv_at hl 0 rfl) ?_
  refine va_get (D := (dC, dI)) (ci := 0) (v := .ref w) (C := RX0) (T := TX0) (N := 4) hx hb hts i_0 hown hK hP 0 rfl rfl 0 (by decide) k_0 (fun _ h9 => h9) rfl dX0_empty_1 ?_
  refine lv_iconst (v := 0) hx hb dX0_empty_4 (by decide) ?_
  have hPc := hP.sub (ws' := [(w, .inl (cI, 1600, .inl fW))]) [1] rfl
  have hDc := hD.sub (ws' := [(w, .inl (cI, 1600, .inl fW))]) [1] (by decide) rfl
  have hFc := va_free (wc := [(w, .inl (cI, 1600, .inl fW))]) hD hS hA [1] rfl
  refine va_callv (va_runS (As := [.ref w, .int 0]) (rest := []) ⟨hx, hb, hml, hown, hts⟩ (c_J7_fill_53178 l dC dI cI cJ w s.heap.size 1600 fW 0 (by decide)) (va_cwS 2 hts gX0_empty_J7_fill_53178 rfl rfl rfl (by decide +kernel) ⟨Nat.le_of_ble_eq_true rfl, Nat.le_of_ble_eq_true rfl⟩) ⟨fun a U g mk q => by obtain ⟨q0, q1, qP, qK, qD⟩ := q; exact ⟨q0, q1, qP, va_K.moved (u := U) (U := U.calling g mk a) (Vm.Alike.refl U.vm) qK, qD⟩, fun U hU hW => ⟨rfl, by rw [hU], by rw [hU]; exact hPc, va_K.moved hW.alike hK, hDc.weaken (fun _ _ _ _ => trivial)⟩⟩ rfl rfl hl.1 rfl (lv_room (Nat.le_of_ble_eq_true rfl)) dX0_empty_5 ⟨Nat.le_of_ble_eq_true rfl, Nat.le_of_ble_eq_true rfl⟩) hS (fun q _ h => hFc q h) hFc (fun u_2 t H1 locs ht hvm hw hB hz1 hk1 hS => ?_)
  obtain ⟨hP1, hD1⟩ := hB
  rw [ht] at hP1
  obtain ⟨hP, hD⟩ := va_join (wr := [(g, .inr (0, [.ref w, .ref d, .int z, .int tt])), (d, .inl (cI, 40, .inl fD))]) (w1 := [(w, .inl (cI, 1600, .inl Zi))]) hP hD [1] [0, 2] rfl rfl (by decide) (by decide) hk1 hFc hP1 hD1
  generalize H1 = H at hP hS ⊢
  have hP : va_P (dC, dI) vwCl [(g, .inr (0, [.ref w, .ref d, .int z, .int tt])), (d, .inl (cI, 40, .inl fD)), (w, .inl (cI, 1600, .inl Zi))] H := hP
  have hD : va_D A [(g, .inr (0, [.ref w, .ref d, .int z, .int tt])), (d, .inl (cI, 40, .inl fD)), (w, .inl (cI, 1600, .inl Zi))] := hD
  refine lv_aload_n hx hb dX0_empty_8 rfl (lv_at hl 0 rfl) ?_
  refine va_get (D := (dC, dI)) (ci := 0) (v := .ref d) (C := RX0) (T := TX0) (N := 4) hx hb hts i_0 hown hK hP 0 rfl rfl 1 (by decide) k_1 (fun _ h9 => h9) rfl dX0_empty_9 ?_
  refine lv_iconst (v := 0) hx hb dX0_empty_12 (by decide) ?_
  have hPc := hP.sub (ws' := [(d, .inl (cI, 40, .inl fD))]) [1] rfl
  have hDc := hD.sub (ws' := [(d, .inl (cI, 40, .inl fD))]) [1] (by decide) rfl
  have hFc := va_free (wc := [(d, .inl (cI, 40, .inl fD))]) hD hS hA [1] rfl
  refine va_callv (va_runS (As := [.ref d, .int 0]) (rest := []) ⟨hx, hb, hml, hown, hts⟩ (c_J7_fill_53178 l dC dI cI cJ d H.size 40 fD 0 (by decide)) (va_cwS 2 hts gX0_empty_J7_fill_53178 rfl rfl rfl (by decide +kernel) ⟨Nat.le_of_ble_eq_true rfl, Nat.le_of_ble_eq_true rfl⟩) ⟨fun a U g mk q => by obtain ⟨q0, q1, qP, qK, qD⟩ := q; exact ⟨q0, q1, qP, va_K.moved (u := U) (U := U.calling g mk a) (Vm.Alike.refl U.vm) qK, qD⟩, fun U hU hW => ⟨rfl, by rw [hU], by rw [hU]; exact hPc, va_K.moved hW.alike hK, hDc.weaken (fun _ _ _ _ => trivial)⟩⟩ rfl rfl hl.1 rfl (lv_room (Nat.le_of_ble_eq_true rfl)) dX0_empty_13 ⟨Nat.le_of_ble_eq_true rfl, Nat.le_of_ble_eq_true rfl⟩) hS (fun q _ h => hFc q h) hFc (fun u_4 t H1 locs ht hvm hw hB hz1 hk1 hS => ?_)
  obtain ⟨hP1, hD1⟩ := hB
  rw [ht] at hP1
  obtain ⟨hP, hD⟩ := va_join (wr := [(g, .inr (0, [.ref w, .ref d, .int z, .int tt])), (w, .inl (cI, 1600, .inl Zi))]) (w1 := [(d, .inl (cI, 40, .inl Zi))]) hP hD [1] [0, 2] rfl rfl (by decide) (by decide) hk1 hFc hP1 hD1
  generalize H1 = H at hP hS ⊢
  have hP : va_P (dC, dI) vwCl [(g, .inr (0, [.ref w, .ref d, .int z, .int tt])), (w, .inl (cI, 1600, .inl Zi)), (d, .inl (cI, 40, .inl Zi))] H := hP
  have hD : va_D A [(g, .inr (0, [.ref w, .ref d, .int z, .int tt])), (w, .inl (cI, 1600, .inl Zi)), (d, .inl (cI, 40, .inl Zi))] := hD
  refine lv_aload_n hx hb dX0_empty_16 rfl (lv_at hl 0 rfl) ?_
  refine lv_iload_n hx hb dX0_empty_17 rfl (lv_at hl 1 rfl) ?_
  refine va_put (D := (dC, dI)) (ci := 0) (v := .int n) (ty := .int) (C := RX0) (T := TX0) (N := 4) hx hb hts i_0 tyX0 tyX0_ok nmX0 hown hK hP hD hS 0 rfl rfl 2 (by decide) k_2 (fun _ h9 => h9) rfl (by decide +kernel) rfl rfl (Nat.le_of_ble_eq_true rfl) dX0_empty_18 (fun H locs hP hD hS => ?_)
  have hP : va_P (dC, dI) vwCl [(g, .inr (0, [.ref w, .ref d, .int n, .int tt])), (w, .inl (cI, 1600, .inl Zi)), (d, .inl (cI, 40, .inl Zi))] H := hP
  have hD : va_D A [(g, .inr (0, [.ref w, .ref d, .int n, .int tt])), (w, .inl (cI, 1600, .inl Zi)), (d, .inl (cI, 40, .inl Zi))] := hD
  refine lv_aload_n hx hb dX0_empty_21 rfl (lv_at hl 0 rfl) ?_
  refine lv_iconst (v := 0) hx hb dX0_empty_22 (by decide) ?_
  refine va_put (D := (dC, dI)) (ci := 0) (v := .int 0) (ty := .int) (C := RX0) (T := TX0) (N := 4) hx hb hts i_0 tyX0 tyX0_ok nmX0 hown hK hP hD hS 0 rfl rfl 3 (by decide) k_3 (fun _ h9 => h9) rfl (by decide +kernel) rfl rfl (Nat.le_of_ble_eq_true rfl) dX0_empty_23 (fun H locs hP hD hS => ?_)
  have hP : va_P (dC, dI) vwCl [(g, .inr (0, [.ref w, .ref d, .int n, .int 0])), (w, .inl (cI, 1600, .inl Zi)), (d, .inl (cI, 40, .inl Zi))] H := hP
  have hD : va_D A [(g, .inr (0, [.ref w, .ref d, .int n, .int 0])), (w, .inl (cI, 1600, .inl Zi)), (d, .inl (cI, 40, .inl Zi))] := hD
  have hP9 := hP.sub (ws' := [(g, .inr (0, [.ref w, .ref d, .int n, .int 0])), (w, .inl (cI, 1600, .inl Zi)), (d, .inl (cI, 40, .inl Zi))]) [0, 1, 2] rfl
  have hD9 := hD.sub (ws' := [(g, .inr (0, [.ref w, .ref d, .int n, .int 0])), (w, .inl (cI, 1600, .inl Zi)), (d, .inl (cI, 40, .inl Zi))]) [0, 1, 2] (by decide) rfl
  exact W.vret hx hb hr (fun t ht hW => ⟨⟨(), rfl, trivial, by rw [ht]; exact hP9, hD9⟩, hS.F ht⟩) hS.2.2 dX0_empty_26
set_option maxHeartbeats 4000000 in
set_option maxRecDepth 100000 in
theorem c_X0_add (l : Launch) (dC : Nat → ClassId) (dI : Nat → Nat → Nat) (cI cJ : ClassId) (g w d : Nat) (sz : Nat) (n : Int32) : Met l yX0_add wsX0_add ({ frames := 0, cells := 0, slots := 0, locals := 0 }) (va_Pc [.ref g, .int 0, .int 0, .int n] (pPre dC dI cI cJ sz [(g, .inr (0, [.ref w, .ref d, .int 1, .int 0])), (w, .inl (cI, 1600, .inl Zi)), (d, .inl (cI, 40, .inl Zi))])) (va_Qv (fun _ : Unit => True) (pPost dC dI (va_A [(g, .inr (0, [.ref w, .ref d, .int 1, .int 0])), (w, .inl (cI, 1600, .inl Zi)), (d, .inl (cI, 40, .inl Zi))] sz) []) (va_A [(g, .inr (0, [.ref w, .ref d, .int 1, .int 0])), (w, .inl (cI, 1600, .inl Zi)), (d, .inl (cI, 40, .inl Zi))] sz)) 0 0 (va_A [(g, .inr (0, [.ref w, .ref d, .int 1, .int 0])), (w, .inl (cI, 1600, .inl Zi)), (d, .inl (cI, 40, .inl Zi))] sz) := by
  refine Met.ofW (cc := cX0_add) (maxL := 4) (ret := none) (by decide) rfl ?_
  intro p e s m args below meth c s₁ B hml hv
  obtain ⟨rfl, hsz, hP, hK, hD0⟩ := hv
  have hx := B.exec
  have hb := B.bytes
  have hr := B.returns
  have hts := atoms_spec (ws := wsX0_add) B.pre
  have hown : s.vm.findClass RX0 = some m.cls := findClass_of_methodNamed B.named
  have hlocks := B.notSynchronized
  subst hsz
  have hD := hD0.self (sz := s.heap.size)
  generalize hAe : va_A [(g, .inr (0, [.ref w, .ref d, .int 1, .int 0])), (w, .inl (cI, 1600, .inl Zi)), (d, .inl (cI, 40, .inl Zi))] s.heap.size = A at hD ⊢
  have hA : ∀ q : Nat, s.heap.size ≤ q → A q := fun q h => by rw [← hAe]; exact Or.inr h
  have hS : va_S A s.heap s.heap [] := va_S.rf
  have hP : va_P (dC, dI) vwCl [(g, .inr (0, [.ref w, .ref d, .int 1, .int 0])), (w, .inl (cI, 1600, .inl Zi)), (d, .inl (cI, 40, .inl Zi))] s.heap := hP
  have hl := lv_entry ([.ref g, .int 0, .int 0, .int n]) (n := 4) (Nat.le_of_ble_eq_true rfl)
  rw [lg_entry_eq]
  generalize (lg_sl ([.ref g, .int 0, .int 0, .int n]) ++ List.replicate (4 - (lg_sl ([.ref g, .int 0, .int 0, .int n])).length) Slot.unset).toArray = ls at hl ⊢
  have hl : lv_has ls 4 [(0, .ref g), (1, .int 0), (2, .int 0), (3, .int n)] := hl
  have i_0 : ∀ w ∈ wsX00, w ∈ wsX0_add := by decide +kernel
  have k_0 := hts (.fieldLink RX0 9 "CommunityLevels$Graph" "weight" "[I") (by decide +kernel)
  have k_1 := hts (.fieldLink RX0 15 "CommunityLevels$Graph" "degree" "[I") (by decide +kernel)
  have k_2 := hts (.fieldLink RX0 22 "CommunityLevels$Graph" "total" "I") (by decide +kernel)
  refine lv_aload_n hx hb dX0_add_0 rfl (lv_at hl 0 rfl) ?_
  refine va_get (D := (dC, dI)) (ci := 0) (v := .ref w) (C := RX0) (T := TX0) (N := 4) hx hb hts i_0 hown hK hP 0 rfl rfl 0 (by decide) k_0 (fun _ h9 => h9) rfl dX0_add_1 ?_
  refine lv_iload_n hx hb dX0_add_4 rfl (lv_at hl 1 rfl) ?_
  refine lv_bipush (v := 40) hx hb dX0_add_5 (by decide) ?_
  refine lv_imul hx hb dX0_add_7 ?_
  refine lc_i (v := 0) (by first | rfl | decide) ?_
  refine lv_iload_n hx hb dX0_add_8 rfl (lv_at hl 2 rfl) ?_
  refine lv_iadd hx hb dX0_add_9 ?_
  refine lc_i (v := 0) (by first | rfl | decide) ?_
  refine lv_dup2_11 hx hb dX0_add_10 rfl rfl ?_
  refine va_iald hx hb hK hP 1 0 rfl rfl (vp_c (by decide)) dX0_add_11 ?_
  refine lc_i (v := 0) (by first | rfl | decide) ?_
  refine lv_iload_n hx hb dX0_add_12 rfl (lv_at hl 3 rfl) ?_
  refine lv_iadd hx hb dX0_add_13 ?_
  refine va_iast hx hb hK hP hD hS 1 0 rfl rfl (vp_c (by decide)) dX0_add_14 (fun H locs hP hD hS => ?_)
  have hP : va_P (dC, dI) vwCl [(g, .inr (0, [.ref w, .ref d, .int 1, .int 0])), (w, .inl (cI, 1600, .inl (upd Zi 0 (0 + n)))), (d, .inl (cI, 40, .inl Zi))] H := hP
  have hD : va_D A [(g, .inr (0, [.ref w, .ref d, .int 1, .int 0])), (w, .inl (cI, 1600, .inl (upd Zi 0 (0 + n)))), (d, .inl (cI, 40, .inl Zi))] := hD
  refine lv_iload_n hx hb dX0_add_15 rfl (lv_at hl 1 rfl) ?_
  refine lv_iload_n hx hb dX0_add_16 rfl (lv_at hl 2 rfl) ?_
  refine lv_icmp_eq (tgt := 35) hx hb dX0_add_17 (by decide) (fun c_1 => ?_) (fun c_1 => ?_)
  rotate_left
  · exact absurd (by decide) c_1
  refine lv_aload_n hx hb dX0_add_35 rfl (lv_at hl 0 rfl) ?_
  refine va_get (D := (dC, dI)) (ci := 0) (v := .ref d) (C := RX0) (T := TX0) (N := 4) hx hb hts i_0 hown hK hP 0 rfl rfl 1 (by decide) k_1 (fun _ h9 => h9) rfl dX0_add_36 ?_
  refine lv_iload_n hx hb dX0_add_39 rfl (lv_at hl 1 rfl) ?_
  refine lv_dup2_11 hx hb dX0_add_40 rfl rfl ?_
  refine va_iald hx hb hK hP 2 0 rfl rfl (vp_c (by decide)) dX0_add_41 ?_
  refine lc_i (v := 0) (by first | rfl | decide) ?_
  refine lv_iload_n hx hb dX0_add_42 rfl (lv_at hl 3 rfl) ?_
  refine lv_iadd hx hb dX0_add_43 ?_
  refine va_iast hx hb hK hP hD hS 2 0 rfl rfl (vp_c (by decide)) dX0_add_44 (fun H locs hP hD hS => ?_)
  have hP : va_P (dC, dI) vwCl [(g, .inr (0, [.ref w, .ref d, .int 1, .int 0])), (w, .inl (cI, 1600, .inl (upd Zi 0 (0 + n)))), (d, .inl (cI, 40, .inl (upd Zi 0 (0 + n))))] H := hP
  have hD : va_D A [(g, .inr (0, [.ref w, .ref d, .int 1, .int 0])), (w, .inl (cI, 1600, .inl (upd Zi 0 (0 + n)))), (d, .inl (cI, 40, .inl (upd Zi 0 (0 + n))))] := hD
  refine lv_aload_n hx hb dX0_add_45 rfl (lv_at hl 0 rfl) ?_
  refine va_get (D := (dC, dI)) (ci := 0) (v := .ref d) (C := RX0) (T := TX0) (N := 4) hx hb hts i_0 hown hK hP 0 rfl rfl 1 (by decide) k_1 (fun _ h9 => h9) rfl dX0_add_46 ?_
  refine lv_iload_n hx hb dX0_add_49 rfl (lv_at hl 2 rfl) ?_
  refine lv_dup2_11 hx hb dX0_add_50 rfl rfl ?_
  refine va_iald hx hb hK hP 2 0 rfl rfl (vp_c (by decide)) dX0_add_51 ?_
  refine lc_i (v := 0 + n) (by first | rfl | decide) ?_
  refine lv_iload_n hx hb dX0_add_52 rfl (lv_at hl 3 rfl) ?_
  refine lv_iadd hx hb dX0_add_53 ?_
  refine va_iast hx hb hK hP hD hS 2 0 rfl rfl (vp_c (by decide)) dX0_add_54 (fun H locs hP hD hS => ?_)
  have hP : va_P (dC, dI) vwCl [(g, .inr (0, [.ref w, .ref d, .int 1, .int 0])), (w, .inl (cI, 1600, .inl (upd Zi 0 (0 + n)))), (d, .inl (cI, 40, .inl (upd (upd Zi 0 (0 + n)) 0 ((0 + n) + n))))] H := hP
  have hD : va_D A [(g, .inr (0, [.ref w, .ref d, .int 1, .int 0])), (w, .inl (cI, 1600, .inl (upd Zi 0 (0 + n)))), (d, .inl (cI, 40, .inl (upd (upd Zi 0 (0 + n)) 0 ((0 + n) + n))))] := hD
  refine lv_aload_n hx hb dX0_add_55 rfl (lv_at hl 0 rfl) ?_
  refine lv_dup hx hb dX0_add_56 rfl ?_
  refine va_get (D := (dC, dI)) (ci := 0) (v := .int 0) (C := RX0) (T := TX0) (N := 4) hx hb hts i_0 hown hK hP 0 rfl rfl 3 (by decide) k_2 (fun _ h9 => h9) rfl dX0_add_57 ?_
  refine lv_iload_n hx hb dX0_add_60 rfl (lv_at hl 3 rfl) ?_
  refine lv_iadd hx hb dX0_add_61 ?_
  refine va_put (D := (dC, dI)) (ci := 0) (v := .int (0 + n)) (ty := .int) (C := RX0) (T := TX0) (N := 4) hx hb hts i_0 tyX0 tyX0_ok nmX0 hown hK hP hD hS 0 rfl rfl 3 (by decide) k_2 (fun _ h9 => h9) rfl (by decide +kernel) rfl rfl (Nat.le_of_ble_eq_true rfl) dX0_add_62 (fun H locs hP hD hS => ?_)
  have hP : va_P (dC, dI) vwCl [(g, .inr (0, [.ref w, .ref d, .int 1, .int (0 + n)])), (w, .inl (cI, 1600, .inl (upd Zi 0 (0 + n)))), (d, .inl (cI, 40, .inl (upd (upd Zi 0 (0 + n)) 0 ((0 + n) + n))))] H := hP
  have hD : va_D A [(g, .inr (0, [.ref w, .ref d, .int 1, .int (0 + n)])), (w, .inl (cI, 1600, .inl (upd Zi 0 (0 + n)))), (d, .inl (cI, 40, .inl (upd (upd Zi 0 (0 + n)) 0 ((0 + n) + n))))] := hD
  have hP9 := hP.sub (ws' := []) [] rfl
  have hD9 := hD.sub (ws' := []) [] (by decide) rfl
  exact W.vret hx hb hr (fun t ht hW => ⟨⟨(), rfl, trivial, by rw [ht]; exact hP9, hD9⟩, hS.F ht⟩) hS.2.2 dX0_add_65
set_option maxHeartbeats 4000000 in
set_option maxRecDepth 100000 in
theorem c_X0_contract (l : Launch) (dC : Nat → ClassId) (dI : Nat → Nat → Nat) (cI cJ : ClassId) (g w d g2 w2 d2 ia : Nat) (sz : Nat) (fW : Nat → Int32) (fD : Nat → Int32) (z : Int32) (tt : Int32) (fA : Nat → Int32) : Met l yX0_contract wsX0_contract ({ frames := 2, cells := 0, slots := 0, locals := 44 }) (va_Pc [.ref g, .ref g2, .ref ia, .int 1] (pPre dC dI cI cJ sz [(g, .inr (0, [.ref w, .ref d, .int z, .int tt])), (w, .inl (cI, 1600, .inl fW)), (d, .inl (cI, 40, .inl fD)), (g2, .inr (0, [.ref w2, .ref d2, .int 1, .int 0])), (w2, .inl (cI, 1600, .inl Zi)), (ia, .inl (cI, 40, .inl fA))])) (va_Qv (fun _ : Unit => True) (pPost dC dI (va_A [(g, .inr (0, [.ref w, .ref d, .int z, .int tt])), (w, .inl (cI, 1600, .inl fW)), (d, .inl (cI, 40, .inl fD)), (g2, .inr (0, [.ref w2, .ref d2, .int 1, .int 0])), (w2, .inl (cI, 1600, .inl Zi)), (ia, .inl (cI, 40, .inl fA))] sz) [(g, .inr (0, [.ref w, .ref d, .int 1, .int 0])), (w, .inl (cI, 1600, .inl Zi)), (d, .inl (cI, 40, .inl Zi)), (g2, .inr (0, [.ref w2, .ref d2, .int 1, .int 0])), (w2, .inl (cI, 1600, .inl Zi)), (ia, .inl (cI, 40, .inl fA))]) (va_A [(g, .inr (0, [.ref w, .ref d, .int z, .int tt])), (w, .inl (cI, 1600, .inl fW)), (d, .inl (cI, 40, .inl fD)), (g2, .inr (0, [.ref w2, .ref d2, .int 1, .int 0])), (w2, .inl (cI, 1600, .inl Zi)), (ia, .inl (cI, 40, .inl fA))] sz)) 0 0 (va_A [(g, .inr (0, [.ref w, .ref d, .int z, .int tt])), (w, .inl (cI, 1600, .inl fW)), (d, .inl (cI, 40, .inl fD)), (g2, .inr (0, [.ref w2, .ref d2, .int 1, .int 0])), (w2, .inl (cI, 1600, .inl Zi)), (ia, .inl (cI, 40, .inl fA))] sz) := by
  refine Met.ofW (cc := cX0_contract) (maxL := 7) (ret := none) (by decide) rfl ?_
  intro p e s m args below meth c s₁ B hml hv
  obtain ⟨rfl, hsz, hP, hK, hD0⟩ := hv
  have hx := B.exec
  have hb := B.bytes
  have hr := B.returns
  have hts := atoms_spec (ws := wsX0_contract) B.pre
  have hown : s.vm.findClass RX0 = some m.cls := findClass_of_methodNamed B.named
  have hlocks := B.notSynchronized
  subst hsz
  have hD := hD0.self (sz := s.heap.size)
  generalize hAe : va_A [(g, .inr (0, [.ref w, .ref d, .int z, .int tt])), (w, .inl (cI, 1600, .inl fW)), (d, .inl (cI, 40, .inl fD)), (g2, .inr (0, [.ref w2, .ref d2, .int 1, .int 0])), (w2, .inl (cI, 1600, .inl Zi)), (ia, .inl (cI, 40, .inl fA))] s.heap.size = A at hD ⊢
  have hA : ∀ q : Nat, s.heap.size ≤ q → A q := fun q h => by rw [← hAe]; exact Or.inr h
  have hS : va_S A s.heap s.heap [] := va_S.rf
  have hP : va_P (dC, dI) vwCl [(g, .inr (0, [.ref w, .ref d, .int z, .int tt])), (w, .inl (cI, 1600, .inl fW)), (d, .inl (cI, 40, .inl fD)), (g2, .inr (0, [.ref w2, .ref d2, .int 1, .int 0])), (w2, .inl (cI, 1600, .inl Zi)), (ia, .inl (cI, 40, .inl fA))] s.heap := hP
  have hl := lv_entry ([.ref g, .ref g2, .ref ia, .int 1]) (n := 7) (Nat.le_of_ble_eq_true rfl)
  rw [lg_entry_eq]
  generalize (lg_sl ([.ref g, .ref g2, .ref ia, .int 1]) ++ List.replicate (7 - (lg_sl ([.ref g, .ref g2, .ref ia, .int 1])).length) Slot.unset).toArray = ls at hl ⊢
  have hl : lv_has ls 7 [(0, .ref g), (1, .ref g2), (2, .ref ia), (3, .int 1)] := hl
  have i_0 : ∀ w ∈ wsX00, w ∈ wsX0_contract := by decide +kernel
  have k_0 := hts (.fieldLink RX0 18 "CommunityLevels$Graph" "size" "I") (by decide +kernel)
  refine lv_aload_n hx hb dX0_contract_0 rfl (lv_at hl 0 rfl) ?_
  refine lv_iload_n hx hb dX0_contract_1 rfl (lv_at hl 3 rfl) ?_
  have hPc := hP.sub (ws' := [(g, .inr (0, [.ref w, .ref d, .int z, .int tt])), (w, .inl (cI, 1600, .inl fW)), (d, .inl (cI, 40, .inl fD))]) [0, 1, 2] rfl
  have hDc := hD.sub (ws' := [(g, .inr (0, [.ref w, .ref d, .int z, .int tt])), (w, .inl (cI, 1600, .inl fW)), (d, .inl (cI, 40, .inl fD))]) [0, 1, 2] (by decide) rfl
  have hFc := va_free (wc := [(g, .inr (0, [.ref w, .ref d, .int z, .int tt])), (w, .inl (cI, 1600, .inl fW)), (d, .inl (cI, 40, .inl fD))]) hD hS hA [0, 1, 2] rfl
  refine va_callv (va_runV (As := [.int 1]) (rest := []) ⟨hx, hb, hml, hown, hts⟩ (c_X0_empty l dC dI cI cJ g w d s.heap.size fW fD z tt 1) (cwV 1 hts gX0_contract_X0_empty rfl rfl rfl (by decide +kernel) ⟨Nat.le_of_ble_eq_true rfl, Nat.le_of_ble_eq_true rfl⟩) ⟨fun a U g mk q => by obtain ⟨q0, q1, qP, qK, qD⟩ := q; exact ⟨q0, q1, qP, va_K.moved (u := U) (U := U.calling g mk a) (Vm.Alike.refl U.vm) qK, qD⟩, va_recv hK hPc (ci := 0) (q0 := 0) rfl rfl, fun U hU hW => ⟨rfl, by rw [hU], by rw [hU]; exact hPc, va_K.moved hW.alike hK, hDc.weaken (fun _ _ _ _ => trivial)⟩⟩ rfl rfl hl.1 rfl (lv_room (Nat.le_of_ble_eq_true rfl)) dX0_contract_2 ⟨Nat.le_of_ble_eq_true rfl, Nat.le_of_ble_eq_true rfl⟩) hS (fun q _ h => hFc q h) hFc (fun u_2 t H1 locs ht hvm hw hB hz1 hk1 hS => ?_)
  obtain ⟨hP1, hD1⟩ := hB
  rw [ht] at hP1
  obtain ⟨hP, hD⟩ := va_join (wr := [(g2, .inr (0, [.ref w2, .ref d2, .int 1, .int 0])), (w2, .inl (cI, 1600, .inl Zi)), (ia, .inl (cI, 40, .inl fA))]) (w1 := [(g, .inr (0, [.ref w, .ref d, .int 1, .int 0])), (w, .inl (cI, 1600, .inl Zi)), (d, .inl (cI, 40, .inl Zi))]) hP hD [0, 1, 2] [3, 4, 5] rfl rfl (by decide) (by decide) hk1 hFc hP1 hD1
  generalize H1 = H at hP hS ⊢
  have hP : va_P (dC, dI) vwCl [(g2, .inr (0, [.ref w2, .ref d2, .int 1, .int 0])), (w2, .inl (cI, 1600, .inl Zi)), (ia, .inl (cI, 40, .inl fA)), (g, .inr (0, [.ref w, .ref d, .int 1, .int 0])), (w, .inl (cI, 1600, .inl Zi)), (d, .inl (cI, 40, .inl Zi))] H := hP
  have hD : va_D A [(g2, .inr (0, [.ref w2, .ref d2, .int 1, .int 0])), (w2, .inl (cI, 1600, .inl Zi)), (ia, .inl (cI, 40, .inl fA)), (g, .inr (0, [.ref w, .ref d, .int 1, .int 0])), (w, .inl (cI, 1600, .inl Zi)), (d, .inl (cI, 40, .inl Zi))] := hD
  refine lv_iconst (v := 0) hx hb dX0_contract_5 (by decide) ?_
  refine lv_istore (lv' := [(4, .int 0), (0, .ref g), (1, .ref g2), (2, .ref ia), (3, .int 1)]) hx hb dX0_contract_6 hl (by decide) rfl (fun ls hl => ?_)
  refine lv_iload hx hb dX0_contract_8 (lv_at hl 0 rfl) ?_
  refine lv_aload_n hx hb dX0_contract_10 rfl (lv_at hl 2 rfl) ?_
  refine va_get (D := (dC, dI)) (ci := 0) (v := .int 1) (C := RX0) (T := TX0) (N := 4) hx hb hts i_0 hown hK hP 0 rfl rfl 2 (by decide) k_0 (fun _ h9 => h9) rfl dX0_contract_11 ?_
  refine lv_icmp_ge (tgt := 71) hx hb dX0_contract_14 (by decide) (fun c_3 => ?_) (fun c_3 => ?_)
  · exact absurd c_3 (by decide)
  refine lv_iload hx hb dX0_contract_17 (lv_at hl 0 rfl) ?_
  refine lv_istore (lv' := [(5, .int 0), (4, .int 0), (0, .ref g), (1, .ref g2), (2, .ref ia), (3, .int 1)]) hx hb dX0_contract_19 hl (by decide) rfl (fun ls hl => ?_)
  refine lv_iload hx hb dX0_contract_21 (lv_at hl 0 rfl) ?_
  refine lv_aload_n hx hb dX0_contract_23 rfl (lv_at hl 3 rfl) ?_
  refine va_get (D := (dC, dI)) (ci := 0) (v := .int 1) (C := RX0) (T := TX0) (N := 4) hx hb hts i_0 hown hK hP 0 rfl rfl 2 (by decide) k_0 (fun _ h9 => h9) rfl dX0_contract_24 ?_
  refine lv_icmp_ge (tgt := 65) hx hb dX0_contract_27 (by decide) (fun c_4 => ?_) (fun c_4 => ?_)
  · exact absurd c_4 (by decide)
  refine lv_aload_n hx hb dX0_contract_30 rfl (lv_at hl 3 rfl) ?_
  refine lv_iload hx hb dX0_contract_31 (lv_at hl 1 rfl) ?_
  refine lv_iload hx hb dX0_contract_33 (lv_at hl 0 rfl) ?_
  have hPc := hP.sub (ws' := [(g2, .inr (0, [.ref w2, .ref d2, .int 1, .int 0])), (w2, .inl (cI, 1600, .inl Zi))]) [0, 1] rfl
  have hDc := hD.sub (ws' := [(g2, .inr (0, [.ref w2, .ref d2, .int 1, .int 0])), (w2, .inl (cI, 1600, .inl Zi))]) [0, 1] (by decide) rfl
  have hFc := va_free (wc := [(g2, .inr (0, [.ref w2, .ref d2, .int 1, .int 0])), (w2, .inl (cI, 1600, .inl Zi))]) hD hS hA [0, 1] rfl
  refine va_calli (va_runV (As := [.int 0, .int 0]) (rest := []) ⟨hx, hb, hml, hown, hts⟩ (c_X0_between l dC dI cI cJ g2 w2 d2 H.size Zi 1 0) (cwV 2 hts gX0_contract_X0_between rfl rfl rfl (by decide +kernel) ⟨Nat.le_of_ble_eq_true rfl, Nat.le_of_ble_eq_true rfl⟩) ⟨fun a U g mk q => by obtain ⟨q0, q1, qP, qK, qD⟩ := q; exact ⟨q0, q1, qP, va_K.moved (u := U) (U := U.calling g mk a) (Vm.Alike.refl U.vm) qK, qD⟩, va_recv hK hPc (ci := 0) (q0 := 0) rfl rfl, fun U hU hW => ⟨rfl, by rw [hU], by rw [hU]; exact hPc, va_K.moved hW.alike hK, hDc.weaken (fun _ _ _ _ => trivial)⟩⟩ rfl rfl hl.1 rfl (lv_room (Nat.le_of_ble_eq_true rfl)) dX0_contract_35 ⟨Nat.le_of_ble_eq_true rfl, Nat.le_of_ble_eq_true rfl⟩) hS (fun q _ h => hFc q h) hFc (fun r_5 u_6 t H1 locs ht hvm hw hB hz1 hk1 hS => ?_)
  obtain ⟨hP1, hD1⟩ := hB
  rw [ht] at hP1
  obtain ⟨hP, hD⟩ := va_join (wr := [(ia, .inl (cI, 40, .inl fA)), (g, .inr (0, [.ref w, .ref d, .int 1, .int 0])), (w, .inl (cI, 1600, .inl Zi)), (d, .inl (cI, 40, .inl Zi))]) (w1 := [(g2, .inr (0, [.ref w2, .ref d2, .int 1, .int 0])), (w2, .inl (cI, 1600, .inl Zi))]) hP hD [0, 1] [2, 3, 4, 5] rfl rfl (by decide) (by decide) hk1 hFc hP1 hD1
  generalize H1 = H at hP hS ⊢
  have hP : va_P (dC, dI) vwCl [(ia, .inl (cI, 40, .inl fA)), (g, .inr (0, [.ref w, .ref d, .int 1, .int 0])), (w, .inl (cI, 1600, .inl Zi)), (d, .inl (cI, 40, .inl Zi)), (g2, .inr (0, [.ref w2, .ref d2, .int 1, .int 0])), (w2, .inl (cI, 1600, .inl Zi))] H := hP
  have hD : va_D A [(ia, .inl (cI, 40, .inl fA)), (g, .inr (0, [.ref w, .ref d, .int 1, .int 0])), (w, .inl (cI, 1600, .inl Zi)), (d, .inl (cI, 40, .inl Zi)), (g2, .inr (0, [.ref w2, .ref d2, .int 1, .int 0])), (w2, .inl (cI, 1600, .inl Zi))] := hD
  obtain rfl : r_5 = 0 := hw
  refine lv_istore (lv' := [(6, .int 0), (5, .int 0), (4, .int 0), (0, .ref g), (1, .ref g2), (2, .ref ia), (3, .int 1)]) hx hb dX0_contract_38 hl (by decide) rfl (fun ls hl => ?_)
  refine lv_iload hx hb dX0_contract_40 (lv_at hl 0 rfl) ?_
  refine lv_if_eq (tgt := 59) hx hb dX0_contract_42 (by decide) (fun c_7 => ?_) (fun c_7 => ?_)
  rotate_left
  · exact absurd (by decide) c_7
  refine lv_iinc (v := 1) (lv' := [(5, .int 1), (6, .int 0), (4, .int 0), (0, .ref g), (1, .ref g2), (2, .ref ia), (3, .int 1)]) hx hb dX0_contract_59 hl (k := 1) rfl (by decide) (by decide) rfl (fun ls hl => ?_)
  refine lv_goto (tgt := 21) hx hb dX0_contract_62 (by decide) ?_
  refine lv_iload hx hb dX0_contract_21 (lv_at hl 0 rfl) ?_
  refine lv_aload_n hx hb dX0_contract_23 rfl (lv_at hl 4 rfl) ?_
  refine va_get (D := (dC, dI)) (ci := 0) (v := .int 1) (C := RX0) (T := TX0) (N := 4) hx hb hts i_0 hown hK hP 4 rfl rfl 2 (by decide) k_0 (fun _ h9 => h9) rfl dX0_contract_24 ?_
  refine lv_icmp_ge (tgt := 65) hx hb dX0_contract_27 (by decide) (fun c_8 => ?_) (fun c_8 => ?_)
  rotate_left
  · exact absurd (by decide) c_8
  refine lv_iinc (v := 1) (lv' := [(4, .int 1), (5, .int 1), (6, .int 0), (0, .ref g), (1, .ref g2), (2, .ref ia), (3, .int 1)]) hx hb dX0_contract_65 hl (k := 2) rfl (by decide) (by decide) rfl (fun ls hl => ?_)
  refine lv_goto (tgt := 8) hx hb dX0_contract_68 (by decide) ?_
  refine lv_iload hx hb dX0_contract_8 (lv_at hl 0 rfl) ?_
  refine lv_aload_n hx hb dX0_contract_10 rfl (lv_at hl 4 rfl) ?_
  refine va_get (D := (dC, dI)) (ci := 0) (v := .int 1) (C := RX0) (T := TX0) (N := 4) hx hb hts i_0 hown hK hP 4 rfl rfl 2 (by decide) k_0 (fun _ h9 => h9) rfl dX0_contract_11 ?_
  refine lv_icmp_ge (tgt := 71) hx hb dX0_contract_14 (by decide) (fun c_9 => ?_) (fun c_9 => ?_)
  rotate_left
  · exact absurd (by decide) c_9
  have hP9 := hP.sub (ws' := [(g, .inr (0, [.ref w, .ref d, .int 1, .int 0])), (w, .inl (cI, 1600, .inl Zi)), (d, .inl (cI, 40, .inl Zi)), (g2, .inr (0, [.ref w2, .ref d2, .int 1, .int 0])), (w2, .inl (cI, 1600, .inl Zi)), (ia, .inl (cI, 40, .inl fA))]) [1, 2, 3, 4, 5, 0] rfl
  have hD9 := hD.sub (ws' := [(g, .inr (0, [.ref w, .ref d, .int 1, .int 0])), (w, .inl (cI, 1600, .inl Zi)), (d, .inl (cI, 40, .inl Zi)), (g2, .inr (0, [.ref w2, .ref d2, .int 1, .int 0])), (w2, .inl (cI, 1600, .inl Zi)), (ia, .inl (cI, 40, .inl fA))]) [1, 2, 3, 4, 5, 0] (by decide) rfl
  exact W.vret hx hb hr (fun t ht hW => ⟨⟨(), rfl, trivial, by rw [ht]; exact hP9, hD9⟩, hS.F ht⟩) hS.2.2 dX0_contract_71
end
section
set_option maxHeartbeats 4000000 in
set_option maxRecDepth 100000 in
theorem c_X1_separate (l : Launch) (dC : Nat → ClassId) (dI : Nat → Nat → Nat) (cI cJ : ClassId) (gr gh gc gd gl gn : Nat) (sz : Nat) (fh : Nat → Int32) : Met l yX1_separate wsX1_separate ({ frames := 0, cells := 0, slots := 0, locals := 0 }) (va_Pc [.ref gr, .int 1] (pPre dC dI cI cJ sz [(gr, .inr (1, [.ref gh, .ref gc, .ref gd, .ref gl, .ref gn])), (gh, .inl (cI, 40, .inl fh))])) (va_Qv (fun _ : Unit => True) (pPost dC dI (va_A [(gr, .inr (1, [.ref gh, .ref gc, .ref gd, .ref gl, .ref gn])), (gh, .inl (cI, 40, .inl fh))] sz) [(gr, .inr (1, [.ref gh, .ref gc, .ref gd, .ref gl, .ref gn])), (gh, .inl (cI, 40, .inl (upd fh 0 0)))]) (va_A [(gr, .inr (1, [.ref gh, .ref gc, .ref gd, .ref gl, .ref gn])), (gh, .inl (cI, 40, .inl fh))] sz)) 0 0 (va_A [(gr, .inr (1, [.ref gh, .ref gc, .ref gd, .ref gl, .ref gn])), (gh, .inl (cI, 40, .inl fh))] sz) := by
  refine Met.ofW (cc := cX1_separate) (maxL := 3) (ret := none) (by decide) rfl ?_
  intro p e s m args below meth c s₁ B hml hv
  obtain ⟨rfl, hsz, hP, hK, hD0⟩ := hv
  have hx := B.exec
  have hb := B.bytes
  have hr := B.returns
  have hts := atoms_spec (ws := wsX1_separate) B.pre
  have hown : s.vm.findClass RX1 = some m.cls := findClass_of_methodNamed B.named
  have hlocks := B.notSynchronized
  subst hsz
  have hD := hD0.self (sz := s.heap.size)
  generalize hAe : va_A [(gr, .inr (1, [.ref gh, .ref gc, .ref gd, .ref gl, .ref gn])), (gh, .inl (cI, 40, .inl fh))] s.heap.size = A at hD ⊢
  have hA : ∀ q : Nat, s.heap.size ≤ q → A q := fun q h => by rw [← hAe]; exact Or.inr h
  have hS : va_S A s.heap s.heap [] := va_S.rf
  have hP : va_P (dC, dI) vwCl [(gr, .inr (1, [.ref gh, .ref gc, .ref gd, .ref gl, .ref gn])), (gh, .inl (cI, 40, .inl fh))] s.heap := hP
  have hl := lv_entry ([.ref gr, .int 1]) (n := 3) (Nat.le_of_ble_eq_true rfl)
  rw [lg_entry_eq]
  generalize (lg_sl ([.ref gr, .int 1]) ++ List.replicate (3 - (lg_sl ([.ref gr, .int 1])).length) Slot.unset).toArray = ls at hl ⊢
  have hl : lv_has ls 3 [(0, .ref gr), (1, .int 1)] := hl
  have i_1 : ∀ w ∈ wsX10, w ∈ wsX1_separate := by decide +kernel
  have k_0 := hts (.fieldLink RX1 9 "CommunityLevels$Groups" "home" "[I") (by decide +kernel)
  refine lv_iconst (v := 0) hx hb dX1_separate_0 (by decide) ?_
  refine lv_istore_n (lv' := [(2, .int 0), (0, .ref gr), (1, .int 1)]) hx hb dX1_separate_1 rfl hl (by decide) rfl (fun ls hl => ?_)
  refine lv_iload_n hx hb dX1_separate_2 rfl (lv_at hl 0 rfl) ?_
  refine lv_iload_n hx hb dX1_separate_3 rfl (lv_at hl 2 rfl) ?_
  refine lv_icmp_ge (tgt := 20) hx hb dX1_separate_4 (by decide) (fun c_1 => ?_) (fun c_1 => ?_)
  · exact absurd c_1 (by decide)
  refine lv_aload_n hx hb dX1_separate_7 rfl (lv_at hl 1 rfl) ?_
  refine va_get (D := (dC, dI)) (ci := 1) (v := .ref gh) (C := RX1) (T := TX1) (N := 5) hx hb hts i_1 hown hK hP 0 rfl rfl 0 (by decide) k_0 (fun _ h9 => h9) rfl dX1_separate_8 ?_
  refine lv_iload_n hx hb dX1_separate_11 rfl (lv_at hl 0 rfl) ?_
  refine lv_iload_n hx hb dX1_separate_12 rfl (lv_at hl 0 rfl) ?_
  refine va_iast hx hb hK hP hD hS 1 0 rfl rfl (vp_c (by decide)) dX1_separate_13 (fun H locs hP hD hS => ?_)
  have hP : va_P (dC, dI) vwCl [(gr, .inr (1, [.ref gh, .ref gc, .ref gd, .ref gl, .ref gn])), (gh, .inl (cI, 40, .inl (upd fh 0 0)))] H := hP
  have hD : va_D A [(gr, .inr (1, [.ref gh, .ref gc, .ref gd, .ref gl, .ref gn])), (gh, .inl (cI, 40, .inl (upd fh 0 0)))] := hD
  refine lv_iinc (v := 1) (lv' := [(2, .int 1), (0, .ref gr), (1, .int 1)]) hx hb dX1_separate_14 hl (k := 0) rfl (by decide) (by decide) rfl (fun ls hl => ?_)
  refine lv_goto (tgt := 2) hx hb dX1_separate_17 (by decide) ?_
  refine lv_iload_n hx hb dX1_separate_2 rfl (lv_at hl 0 rfl) ?_
  refine lv_iload_n hx hb dX1_separate_3 rfl (lv_at hl 2 rfl) ?_
  refine lv_icmp_ge (tgt := 20) hx hb dX1_separate_4 (by decide) (fun c_2 => ?_) (fun c_2 => ?_)
  rotate_left
  · exact absurd (by decide) c_2
  have hP9 := hP.sub (ws' := [(gr, .inr (1, [.ref gh, .ref gc, .ref gd, .ref gl, .ref gn])), (gh, .inl (cI, 40, .inl (upd fh 0 0)))]) [0, 1] rfl
  have hD9 := hD.sub (ws' := [(gr, .inr (1, [.ref gh, .ref gc, .ref gd, .ref gl, .ref gn])), (gh, .inl (cI, 40, .inl (upd fh 0 0)))]) [0, 1] (by decide) rfl
  exact W.vret hx hb hr (fun t ht hW => ⟨⟨(), rfl, trivial, by rw [ht]; exact hP9, hD9⟩, hS.F ht⟩) hS.2.2 dX1_separate_20
set_option maxHeartbeats 4000000 in
set_option maxRecDepth 100000 in
theorem c_X1_tally (l : Launch) (dC : Nat → ClassId) (dI : Nat → Nat → Nat) (cI cJ : ClassId) (gr gh gc gd gl gn g w d : Nat) (sz : Nat) (fh : Nat → Int32) (fc : Nat → Int32) (fd : Nat → Int32) (hz : fh 0 = 0) : Met l yX1_tally wsX1_tally ({ frames := 1, cells := 0, slots := 0, locals := 23 }) (va_Pc [.ref gr, .ref g] (pPre dC dI cI cJ sz [(gr, .inr (1, [.ref gh, .ref gc, .ref gd, .ref gl, .ref gn])), (gh, .inl (cI, 40, .inl fh)), (gc, .inl (cI, 40, .inl fc)), (gd, .inl (cI, 40, .inl fd)), (g, .inr (0, [.ref w, .ref d, .int 1, .int 0])), (d, .inl (cI, 40, .inl Zi))])) (va_Qv (fun _ : Unit => True) (pPost dC dI (va_A [(gr, .inr (1, [.ref gh, .ref gc, .ref gd, .ref gl, .ref gn])), (gh, .inl (cI, 40, .inl fh)), (gc, .inl (cI, 40, .inl fc)), (gd, .inl (cI, 40, .inl fd)), (g, .inr (0, [.ref w, .ref d, .int 1, .int 0])), (d, .inl (cI, 40, .inl Zi))] sz) [(gr, .inr (1, [.ref gh, .ref gc, .ref gd, .ref gl, .ref gn])), (gh, .inl (cI, 40, .inl fh)), (gc, .inl (cI, 40, .inl (upd Zi 0 1))), (gd, .inl (cI, 40, .inl (upd Zi 0 0))), (g, .inr (0, [.ref w, .ref d, .int 1, .int 0])), (d, .inl (cI, 40, .inl Zi))]) (va_A [(gr, .inr (1, [.ref gh, .ref gc, .ref gd, .ref gl, .ref gn])), (gh, .inl (cI, 40, .inl fh)), (gc, .inl (cI, 40, .inl fc)), (gd, .inl (cI, 40, .inl fd)), (g, .inr (0, [.ref w, .ref d, .int 1, .int 0])), (d, .inl (cI, 40, .inl Zi))] sz)) 0 0 (va_A [(gr, .inr (1, [.ref gh, .ref gc, .ref gd, .ref gl, .ref gn])), (gh, .inl (cI, 40, .inl fh)), (gc, .inl (cI, 40, .inl fc)), (gd, .inl (cI, 40, .inl fd)), (g, .inr (0, [.ref w, .ref d, .int 1, .int 0])), (d, .inl (cI, 40, .inl Zi))] sz) := by
  refine Met.ofW (cc := cX1_tally) (maxL := 3) (ret := none) (by decide) rfl ?_
  intro p e s m args below meth c s₁ B hml hv
  obtain ⟨rfl, hsz, hP, hK, hD0⟩ := hv
  have hx := B.exec
  have hb := B.bytes
  have hr := B.returns
  have hts := atoms_spec (ws := wsX1_tally) B.pre
  have hown : s.vm.findClass RX1 = some m.cls := findClass_of_methodNamed B.named
  have hlocks := B.notSynchronized
  subst hsz
  have hD := hD0.self (sz := s.heap.size)
  generalize hAe : va_A [(gr, .inr (1, [.ref gh, .ref gc, .ref gd, .ref gl, .ref gn])), (gh, .inl (cI, 40, .inl fh)), (gc, .inl (cI, 40, .inl fc)), (gd, .inl (cI, 40, .inl fd)), (g, .inr (0, [.ref w, .ref d, .int 1, .int 0])), (d, .inl (cI, 40, .inl Zi))] s.heap.size = A at hD ⊢
  have hA : ∀ q : Nat, s.heap.size ≤ q → A q := fun q h => by rw [← hAe]; exact Or.inr h
  have hS : va_S A s.heap s.heap [] := va_S.rf
  have hP : va_P (dC, dI) vwCl [(gr, .inr (1, [.ref gh, .ref gc, .ref gd, .ref gl, .ref gn])), (gh, .inl (cI, 40, .inl fh)), (gc, .inl (cI, 40, .inl fc)), (gd, .inl (cI, 40, .inl fd)), (g, .inr (0, [.ref w, .ref d, .int 1, .int 0])), (d, .inl (cI, 40, .inl Zi))] s.heap := hP
  have hl := lv_entry ([.ref gr, .ref g]) (n := 3) (Nat.le_of_ble_eq_true rfl)
  rw [lg_entry_eq]
  generalize (lg_sl ([.ref gr, .ref g]) ++ List.replicate (3 - (lg_sl ([.ref gr, .ref g])).length) Slot.unset).toArray = ls at hl ⊢
  have hl : lv_has ls 3 [(0, .ref gr), (1, .ref g)] := hl
  have i_0 : ∀ w ∈ wsX00, w ∈ wsX1_tally := by decide +kernel
  have i_1 : ∀ w ∈ wsX10, w ∈ wsX1_tally := by decide +kernel
  have k_0 := hts (.fieldLink RX1 15 "CommunityLevels$Groups" "count" "[I") (by decide +kernel)
  have k_1 := hts (.fieldLink RX1 18 "CommunityLevels$Groups" "degree" "[I") (by decide +kernel)
  have k_2 := hts (.fieldLink RX1 33 "CommunityLevels$Graph" "size" "I") (by decide +kernel)
  have k_3 := hts (.fieldLink RX1 9 "CommunityLevels$Groups" "home" "[I") (by decide +kernel)
  have k_4 := hts (.fieldLink RX1 39 "CommunityLevels$Graph" "degree" "[I") (by decide +kernel)
  refine lv_aload_n hx hb dX1_tally_0 rfl (lv_at hl 0 rfl) ?_
  refine va_get (D := (dC, dI)) (ci := 1) (v := .ref gc) (C := RX1) (T := TX1) (N := 5) hx hb hts i_1 hown hK hP 0 rfl rfl 1 (by decide) k_0 (fun _ h9 => h9) rfl dX1_tally_1 ?_
  refine lv_iconst (v := 0) hx hb dX1_tally_4 (by decide) ?_
  have hPc := hP.sub (ws' := [(gc, .inl (cI, 40, .inl fc))]) [2] rfl
  have hDc := hD.sub (ws' := [(gc, .inl (cI, 40, .inl fc))]) [2] (by decide) rfl
  have hFc := va_free (wc := [(gc, .inl (cI, 40, .inl fc))]) hD hS hA [2] rfl
  refine va_callv (va_runS (As := [.ref gc, .int 0]) (rest := []) ⟨hx, hb, hml, hown, hts⟩ (c_J7_fill_53178 l dC dI cI cJ gc s.heap.size 40 fc 0 (by decide)) (va_cwS 2 hts gX1_tally_J7_fill_53178 rfl rfl rfl (by decide +kernel) ⟨Nat.le_of_ble_eq_true rfl, Nat.le_of_ble_eq_true rfl⟩) ⟨fun a U g mk q => by obtain ⟨q0, q1, qP, qK, qD⟩ := q; exact ⟨q0, q1, qP, va_K.moved (u := U) (U := U.calling g mk a) (Vm.Alike.refl U.vm) qK, qD⟩, fun U hU hW => ⟨rfl, by rw [hU], by rw [hU]; exact hPc, va_K.moved hW.alike hK, hDc.weaken (fun _ _ _ _ => trivial)⟩⟩ rfl rfl hl.1 rfl (lv_room (Nat.le_of_ble_eq_true rfl)) dX1_tally_5 ⟨Nat.le_of_ble_eq_true rfl, Nat.le_of_ble_eq_true rfl⟩) hS (fun q _ h => hFc q h) hFc (fun u_2 t H1 locs ht hvm hw hB hz1 hk1 hS => ?_)
  obtain ⟨hP1, hD1⟩ := hB
  rw [ht] at hP1
  obtain ⟨hP, hD⟩ := va_join (wr := [(gr, .inr (1, [.ref gh, .ref gc, .ref gd, .ref gl, .ref gn])), (gh, .inl (cI, 40, .inl fh)), (gd, .inl (cI, 40, .inl fd)), (g, .inr (0, [.ref w, .ref d, .int 1, .int 0])), (d, .inl (cI, 40, .inl Zi))]) (w1 := [(gc, .inl (cI, 40, .inl Zi))]) hP hD [2] [0, 1, 3, 4, 5] rfl rfl (by decide) (by decide) hk1 hFc hP1 hD1
  generalize H1 = H at hP hS ⊢
  have hP : va_P (dC, dI) vwCl [(gr, .inr (1, [.ref gh, .ref gc, .ref gd, .ref gl, .ref gn])), (gh, .inl (cI, 40, .inl fh)), (gd, .inl (cI, 40, .inl fd)), (g, .inr (0, [.ref w, .ref d, .int 1, .int 0])), (d, .inl (cI, 40, .inl Zi)), (gc, .inl (cI, 40, .inl Zi))] H := hP
  have hD : va_D A [(gr, .inr (1, [.ref gh, .ref gc, .ref gd, .ref gl, .ref gn])), (gh, .inl (cI, 40, .inl fh)), (gd, .inl (cI, 40, .inl fd)), (g, .inr (0, [.ref w, .ref d, .int 1, .int 0])), (d, .inl (cI, 40, .inl Zi)), (gc, .inl (cI, 40, .inl Zi))] := hD
  refine lv_aload_n hx hb dX1_tally_8 rfl (lv_at hl 0 rfl) ?_
  refine va_get (D := (dC, dI)) (ci := 1) (v := .ref gd) (C := RX1) (T := TX1) (N := 5) hx hb hts i_1 hown hK hP 0 rfl rfl 2 (by decide) k_1 (fun _ h9 => h9) rfl dX1_tally_9 ?_
  refine lv_iconst (v := 0) hx hb dX1_tally_12 (by decide) ?_
  have hPc := hP.sub (ws' := [(gd, .inl (cI, 40, .inl fd))]) [2] rfl
  have hDc := hD.sub (ws' := [(gd, .inl (cI, 40, .inl fd))]) [2] (by decide) rfl
  have hFc := va_free (wc := [(gd, .inl (cI, 40, .inl fd))]) hD hS hA [2] rfl
  refine va_callv (va_runS (As := [.ref gd, .int 0]) (rest := []) ⟨hx, hb, hml, hown, hts⟩ (c_J7_fill_53178 l dC dI cI cJ gd H.size 40 fd 0 (by decide)) (va_cwS 2 hts gX1_tally_J7_fill_53178 rfl rfl rfl (by decide +kernel) ⟨Nat.le_of_ble_eq_true rfl, Nat.le_of_ble_eq_true rfl⟩) ⟨fun a U g mk q => by obtain ⟨q0, q1, qP, qK, qD⟩ := q; exact ⟨q0, q1, qP, va_K.moved (u := U) (U := U.calling g mk a) (Vm.Alike.refl U.vm) qK, qD⟩, fun U hU hW => ⟨rfl, by rw [hU], by rw [hU]; exact hPc, va_K.moved hW.alike hK, hDc.weaken (fun _ _ _ _ => trivial)⟩⟩ rfl rfl hl.1 rfl (lv_room (Nat.le_of_ble_eq_true rfl)) dX1_tally_13 ⟨Nat.le_of_ble_eq_true rfl, Nat.le_of_ble_eq_true rfl⟩) hS (fun q _ h => hFc q h) hFc (fun u_4 t H1 locs ht hvm hw hB hz1 hk1 hS => ?_)
  obtain ⟨hP1, hD1⟩ := hB
  rw [ht] at hP1
  obtain ⟨hP, hD⟩ := va_join (wr := [(gr, .inr (1, [.ref gh, .ref gc, .ref gd, .ref gl, .ref gn])), (gh, .inl (cI, 40, .inl fh)), (g, .inr (0, [.ref w, .ref d, .int 1, .int 0])), (d, .inl (cI, 40, .inl Zi)), (gc, .inl (cI, 40, .inl Zi))]) (w1 := [(gd, .inl (cI, 40, .inl Zi))]) hP hD [2] [0, 1, 3, 4, 5] rfl rfl (by decide) (by decide) hk1 hFc hP1 hD1
  generalize H1 = H at hP hS ⊢
  have hP : va_P (dC, dI) vwCl [(gr, .inr (1, [.ref gh, .ref gc, .ref gd, .ref gl, .ref gn])), (gh, .inl (cI, 40, .inl fh)), (g, .inr (0, [.ref w, .ref d, .int 1, .int 0])), (d, .inl (cI, 40, .inl Zi)), (gc, .inl (cI, 40, .inl Zi)), (gd, .inl (cI, 40, .inl Zi))] H := hP
  have hD : va_D A [(gr, .inr (1, [.ref gh, .ref gc, .ref gd, .ref gl, .ref gn])), (gh, .inl (cI, 40, .inl fh)), (g, .inr (0, [.ref w, .ref d, .int 1, .int 0])), (d, .inl (cI, 40, .inl Zi)), (gc, .inl (cI, 40, .inl Zi)), (gd, .inl (cI, 40, .inl Zi))] := hD
  refine lv_iconst (v := 0) hx hb dX1_tally_16 (by decide) ?_
  refine lv_istore_n (lv' := [(2, .int 0), (0, .ref gr), (1, .ref g)]) hx hb dX1_tally_17 rfl hl (by decide) rfl (fun ls hl => ?_)
  refine lv_iload_n hx hb dX1_tally_18 rfl (lv_at hl 0 rfl) ?_
  refine lv_aload_n hx hb dX1_tally_19 rfl (lv_at hl 2 rfl) ?_
  refine va_get (D := (dC, dI)) (ci := 0) (v := .int 1) (C := RX0) (T := TX0) (N := 4) hx hb hts i_0 hown hK hP 2 rfl rfl 2 (by decide) k_2 (fun _ h9 => h9) rfl dX1_tally_20 ?_
  refine lv_icmp_ge (tgt := 67) hx hb dX1_tally_23 (by decide) (fun c_5 => ?_) (fun c_5 => ?_)
  · exact absurd c_5 (by decide)
  refine lv_aload_n hx hb dX1_tally_26 rfl (lv_at hl 1 rfl) ?_
  refine va_get (D := (dC, dI)) (ci := 1) (v := .ref gc) (C := RX1) (T := TX1) (N := 5) hx hb hts i_1 hown hK hP 0 rfl rfl 1 (by decide) k_0 (fun _ h9 => h9) rfl dX1_tally_27 ?_
  refine lv_aload_n hx hb dX1_tally_30 rfl (lv_at hl 1 rfl) ?_
  refine va_get (D := (dC, dI)) (ci := 1) (v := .ref gh) (C := RX1) (T := TX1) (N := 5) hx hb hts i_1 hown hK hP 0 rfl rfl 0 (by decide) k_3 (fun _ h9 => h9) rfl dX1_tally_31 ?_
  refine lv_iload_n hx hb dX1_tally_34 rfl (lv_at hl 0 rfl) ?_
  refine va_iald hx hb hK hP 1 0 rfl rfl (vp_c (by decide)) dX1_tally_35 ?_
  refine lc_i (v := 0) hz ?_
  refine lv_dup2_11 hx hb dX1_tally_36 rfl rfl ?_
  refine va_iald hx hb hK hP 4 0 rfl rfl (vp_c (by decide)) dX1_tally_37 ?_
  refine lc_i (v := 0) (by first | rfl | decide) ?_
  refine lv_iconst (v := 1) hx hb dX1_tally_38 (by decide) ?_
  refine lv_iadd hx hb dX1_tally_39 ?_
  refine lc_i (v := 1) (by first | rfl | decide) ?_
  refine va_iast hx hb hK hP hD hS 4 0 rfl rfl (vp_c (by decide)) dX1_tally_40 (fun H locs hP hD hS => ?_)
  have hP : va_P (dC, dI) vwCl [(gr, .inr (1, [.ref gh, .ref gc, .ref gd, .ref gl, .ref gn])), (gh, .inl (cI, 40, .inl fh)), (g, .inr (0, [.ref w, .ref d, .int 1, .int 0])), (d, .inl (cI, 40, .inl Zi)), (gc, .inl (cI, 40, .inl (upd Zi 0 1))), (gd, .inl (cI, 40, .inl Zi))] H := hP
  have hD : va_D A [(gr, .inr (1, [.ref gh, .ref gc, .ref gd, .ref gl, .ref gn])), (gh, .inl (cI, 40, .inl fh)), (g, .inr (0, [.ref w, .ref d, .int 1, .int 0])), (d, .inl (cI, 40, .inl Zi)), (gc, .inl (cI, 40, .inl (upd Zi 0 1))), (gd, .inl (cI, 40, .inl Zi))] := hD
  refine lv_aload_n hx hb dX1_tally_41 rfl (lv_at hl 1 rfl) ?_
  refine va_get (D := (dC, dI)) (ci := 1) (v := .ref gd) (C := RX1) (T := TX1) (N := 5) hx hb hts i_1 hown hK hP 0 rfl rfl 2 (by decide) k_1 (fun _ h9 => h9) rfl dX1_tally_42 ?_
  refine lv_aload_n hx hb dX1_tally_45 rfl (lv_at hl 1 rfl) ?_
  refine va_get (D := (dC, dI)) (ci := 1) (v := .ref gh) (C := RX1) (T := TX1) (N := 5) hx hb hts i_1 hown hK hP 0 rfl rfl 0 (by decide) k_3 (fun _ h9 => h9) rfl dX1_tally_46 ?_
  refine lv_iload_n hx hb dX1_tally_49 rfl (lv_at hl 0 rfl) ?_
  refine va_iald hx hb hK hP 1 0 rfl rfl (vp_c (by decide)) dX1_tally_50 ?_
  refine lc_i (v := 0) hz ?_
  refine lv_dup2_11 hx hb dX1_tally_51 rfl rfl ?_
  refine va_iald hx hb hK hP 5 0 rfl rfl (vp_c (by decide)) dX1_tally_52 ?_
  refine lc_i (v := 0) (by first | rfl | decide) ?_
  refine lv_aload_n hx hb dX1_tally_53 rfl (lv_at hl 2 rfl) ?_
  refine va_get (D := (dC, dI)) (ci := 0) (v := .ref d) (C := RX0) (T := TX0) (N := 4) hx hb hts i_0 hown hK hP 2 rfl rfl 1 (by decide) k_4 (fun _ h9 => h9) rfl dX1_tally_54 ?_
  refine lv_iload_n hx hb dX1_tally_57 rfl (lv_at hl 0 rfl) ?_
  refine va_iald hx hb hK hP 3 0 rfl rfl (vp_c (by decide)) dX1_tally_58 ?_
  refine lc_i (v := 0) (by first | rfl | decide) ?_
  refine lv_iadd hx hb dX1_tally_59 ?_
  refine lc_i (v := 0) (by first | rfl | decide) ?_
  refine va_iast hx hb hK hP hD hS 5 0 rfl rfl (vp_c (by decide)) dX1_tally_60 (fun H locs hP hD hS => ?_)
  have hP : va_P (dC, dI) vwCl [(gr, .inr (1, [.ref gh, .ref gc, .ref gd, .ref gl, .ref gn])), (gh, .inl (cI, 40, .inl fh)), (g, .inr (0, [.ref w, .ref d, .int 1, .int 0])), (d, .inl (cI, 40, .inl Zi)), (gc, .inl (cI, 40, .inl (upd Zi 0 1))), (gd, .inl (cI, 40, .inl (upd Zi 0 0)))] H := hP
  have hD : va_D A [(gr, .inr (1, [.ref gh, .ref gc, .ref gd, .ref gl, .ref gn])), (gh, .inl (cI, 40, .inl fh)), (g, .inr (0, [.ref w, .ref d, .int 1, .int 0])), (d, .inl (cI, 40, .inl Zi)), (gc, .inl (cI, 40, .inl (upd Zi 0 1))), (gd, .inl (cI, 40, .inl (upd Zi 0 0)))] := hD
  refine lv_iinc (v := 1) (lv' := [(2, .int 1), (0, .ref gr), (1, .ref g)]) hx hb dX1_tally_61 hl (k := 0) rfl (by decide) (by decide) rfl (fun ls hl => ?_)
  refine lv_goto (tgt := 18) hx hb dX1_tally_64 (by decide) ?_
  refine lv_iload_n hx hb dX1_tally_18 rfl (lv_at hl 0 rfl) ?_
  refine lv_aload_n hx hb dX1_tally_19 rfl (lv_at hl 2 rfl) ?_
  refine va_get (D := (dC, dI)) (ci := 0) (v := .int 1) (C := RX0) (T := TX0) (N := 4) hx hb hts i_0 hown hK hP 2 rfl rfl 2 (by decide) k_2 (fun _ h9 => h9) rfl dX1_tally_20 ?_
  refine lv_icmp_ge (tgt := 67) hx hb dX1_tally_23 (by decide) (fun c_6 => ?_) (fun c_6 => ?_)
  rotate_left
  · exact absurd (by decide) c_6
  have hP9 := hP.sub (ws' := [(gr, .inr (1, [.ref gh, .ref gc, .ref gd, .ref gl, .ref gn])), (gh, .inl (cI, 40, .inl fh)), (gc, .inl (cI, 40, .inl (upd Zi 0 1))), (gd, .inl (cI, 40, .inl (upd Zi 0 0))), (g, .inr (0, [.ref w, .ref d, .int 1, .int 0])), (d, .inl (cI, 40, .inl Zi))]) [0, 1, 4, 5, 2, 3] rfl
  have hD9 := hD.sub (ws' := [(gr, .inr (1, [.ref gh, .ref gc, .ref gd, .ref gl, .ref gn])), (gh, .inl (cI, 40, .inl fh)), (gc, .inl (cI, 40, .inl (upd Zi 0 1))), (gd, .inl (cI, 40, .inl (upd Zi 0 0))), (g, .inr (0, [.ref w, .ref d, .int 1, .int 0])), (d, .inl (cI, 40, .inl Zi))]) [0, 1, 4, 5, 2, 3] (by decide) rfl
  exact W.vret hx hb hr (fun t ht hW => ⟨⟨(), rfl, trivial, by rw [ht]; exact hP9, hD9⟩, hS.F ht⟩) hS.2.2 dX1_tally_67
set_option maxHeartbeats 4000000 in
set_option maxRecDepth 100000 in
theorem c_X1_tie (l : Launch) (dC : Nat → ClassId) (dI : Nat → Nat → Nat) (cI cJ : ClassId) (gr gh gc gd gl gn g w d : Nat) (sz : Nat) (fl : Nat → Int32) : Met l yX1_tie wsX1_tie ({ frames := 1, cells := 0, slots := 0, locals := 23 }) (va_Pc [.ref gr, .ref g, .int 0] (pPre dC dI cI cJ sz [(gr, .inr (1, [.ref gh, .ref gc, .ref gd, .ref gl, .ref gn])), (gl, .inl (cI, 40, .inl fl)), (g, .inr (0, [.ref w, .ref d, .int 1, .int 0]))])) (va_Qv (fun _ : Unit => True) (pPost dC dI (va_A [(gr, .inr (1, [.ref gh, .ref gc, .ref gd, .ref gl, .ref gn])), (gl, .inl (cI, 40, .inl fl)), (g, .inr (0, [.ref w, .ref d, .int 1, .int 0]))] sz) [(gr, .inr (1, [.ref gh, .ref gc, .ref gd, .ref gl, .ref gn])), (gl, .inl (cI, 40, .inl Zi)), (g, .inr (0, [.ref w, .ref d, .int 1, .int 0]))]) (va_A [(gr, .inr (1, [.ref gh, .ref gc, .ref gd, .ref gl, .ref gn])), (gl, .inl (cI, 40, .inl fl)), (g, .inr (0, [.ref w, .ref d, .int 1, .int 0]))] sz)) 0 0 (va_A [(gr, .inr (1, [.ref gh, .ref gc, .ref gd, .ref gl, .ref gn])), (gl, .inl (cI, 40, .inl fl)), (g, .inr (0, [.ref w, .ref d, .int 1, .int 0]))] sz) := by
  refine Met.ofW (cc := cX1_tie) (maxL := 4) (ret := none) (by decide) rfl ?_
  intro p e s m args below meth c s₁ B hml hv
  obtain ⟨rfl, hsz, hP, hK, hD0⟩ := hv
  have hx := B.exec
  have hb := B.bytes
  have hr := B.returns
  have hts := atoms_spec (ws := wsX1_tie) B.pre
  have hown : s.vm.findClass RX1 = some m.cls := findClass_of_methodNamed B.named
  have hlocks := B.notSynchronized
  subst hsz
  have hD := hD0.self (sz := s.heap.size)
  generalize hAe : va_A [(gr, .inr (1, [.ref gh, .ref gc, .ref gd, .ref gl, .ref gn])), (gl, .inl (cI, 40, .inl fl)), (g, .inr (0, [.ref w, .ref d, .int 1, .int 0]))] s.heap.size = A at hD ⊢
  have hA : ∀ q : Nat, s.heap.size ≤ q → A q := fun q h => by rw [← hAe]; exact Or.inr h
  have hS : va_S A s.heap s.heap [] := va_S.rf
  have hP : va_P (dC, dI) vwCl [(gr, .inr (1, [.ref gh, .ref gc, .ref gd, .ref gl, .ref gn])), (gl, .inl (cI, 40, .inl fl)), (g, .inr (0, [.ref w, .ref d, .int 1, .int 0]))] s.heap := hP
  have hl := lv_entry ([.ref gr, .ref g, .int 0]) (n := 4) (Nat.le_of_ble_eq_true rfl)
  rw [lg_entry_eq]
  generalize (lg_sl ([.ref gr, .ref g, .int 0]) ++ List.replicate (4 - (lg_sl ([.ref gr, .ref g, .int 0])).length) Slot.unset).toArray = ls at hl ⊢
  have hl : lv_has ls 4 [(0, .ref gr), (1, .ref g), (2, .int 0)] := hl
  have i_0 : ∀ w ∈ wsX00, w ∈ wsX1_tie := by decide +kernel
  have i_1 : ∀ w ∈ wsX10, w ∈ wsX1_tie := by decide +kernel
  have k_0 := hts (.fieldLink RX1 21 "CommunityLevels$Groups" "link" "[I") (by decide +kernel)
  have k_1 := hts (.fieldLink RX1 33 "CommunityLevels$Graph" "size" "I") (by decide +kernel)
  refine lv_aload_n hx hb dX1_tie_0 rfl (lv_at hl 0 rfl) ?_
  refine va_get (D := (dC, dI)) (ci := 1) (v := .ref gl) (C := RX1) (T := TX1) (N := 5) hx hb hts i_1 hown hK hP 0 rfl rfl 3 (by decide) k_0 (fun _ h9 => h9) rfl dX1_tie_1 ?_
  refine lv_iconst (v := 0) hx hb dX1_tie_4 (by decide) ?_
  have hPc := hP.sub (ws' := [(gl, .inl (cI, 40, .inl fl))]) [1] rfl
  have hDc := hD.sub (ws' := [(gl, .inl (cI, 40, .inl fl))]) [1] (by decide) rfl
  have hFc := va_free (wc := [(gl, .inl (cI, 40, .inl fl))]) hD hS hA [1] rfl
  refine va_callv (va_runS (As := [.ref gl, .int 0]) (rest := []) ⟨hx, hb, hml, hown, hts⟩ (c_J7_fill_53178 l dC dI cI cJ gl s.heap.size 40 fl 0 (by decide)) (va_cwS 2 hts gX1_tie_J7_fill_53178 rfl rfl rfl (by decide +kernel) ⟨Nat.le_of_ble_eq_true rfl, Nat.le_of_ble_eq_true rfl⟩) ⟨fun a U g mk q => by obtain ⟨q0, q1, qP, qK, qD⟩ := q; exact ⟨q0, q1, qP, va_K.moved (u := U) (U := U.calling g mk a) (Vm.Alike.refl U.vm) qK, qD⟩, fun U hU hW => ⟨rfl, by rw [hU], by rw [hU]; exact hPc, va_K.moved hW.alike hK, hDc.weaken (fun _ _ _ _ => trivial)⟩⟩ rfl rfl hl.1 rfl (lv_room (Nat.le_of_ble_eq_true rfl)) dX1_tie_5 ⟨Nat.le_of_ble_eq_true rfl, Nat.le_of_ble_eq_true rfl⟩) hS (fun q _ h => hFc q h) hFc (fun u_2 t H1 locs ht hvm hw hB hz1 hk1 hS => ?_)
  obtain ⟨hP1, hD1⟩ := hB
  rw [ht] at hP1
  obtain ⟨hP, hD⟩ := va_join (wr := [(gr, .inr (1, [.ref gh, .ref gc, .ref gd, .ref gl, .ref gn])), (g, .inr (0, [.ref w, .ref d, .int 1, .int 0]))]) (w1 := [(gl, .inl (cI, 40, .inl Zi))]) hP hD [1] [0, 2] rfl rfl (by decide) (by decide) hk1 hFc hP1 hD1
  generalize H1 = H at hP hS ⊢
  have hP : va_P (dC, dI) vwCl [(gr, .inr (1, [.ref gh, .ref gc, .ref gd, .ref gl, .ref gn])), (g, .inr (0, [.ref w, .ref d, .int 1, .int 0])), (gl, .inl (cI, 40, .inl Zi))] H := hP
  have hD : va_D A [(gr, .inr (1, [.ref gh, .ref gc, .ref gd, .ref gl, .ref gn])), (g, .inr (0, [.ref w, .ref d, .int 1, .int 0])), (gl, .inl (cI, 40, .inl Zi))] := hD
  refine lv_iconst (v := 0) hx hb dX1_tie_8 (by decide) ?_
  refine lv_istore_n (lv' := [(3, .int 0), (0, .ref gr), (1, .ref g), (2, .int 0)]) hx hb dX1_tie_9 rfl hl (by decide) rfl (fun ls hl => ?_)
  refine lv_iload_n hx hb dX1_tie_10 rfl (lv_at hl 0 rfl) ?_
  refine lv_aload_n hx hb dX1_tie_11 rfl (lv_at hl 2 rfl) ?_
  refine va_get (D := (dC, dI)) (ci := 0) (v := .int 1) (C := RX0) (T := TX0) (N := 4) hx hb hts i_0 hown hK hP 1 rfl rfl 2 (by decide) k_1 (fun _ h9 => h9) rfl dX1_tie_12 ?_
  refine lv_icmp_ge (tgt := 49) hx hb dX1_tie_15 (by decide) (fun c_3 => ?_) (fun c_3 => ?_)
  · exact absurd c_3 (by decide)
  refine lv_iload_n hx hb dX1_tie_18 rfl (lv_at hl 0 rfl) ?_
  refine lv_iload_n hx hb dX1_tie_19 rfl (lv_at hl 3 rfl) ?_
  refine lv_icmp_eq (tgt := 43) hx hb dX1_tie_20 (by decide) (fun c_4 => ?_) (fun c_4 => ?_)
  rotate_left
  · exact absurd (by decide) c_4
  refine lv_iinc (v := 1) (lv' := [(3, .int 1), (0, .ref gr), (1, .ref g), (2, .int 0)]) hx hb dX1_tie_43 hl (k := 0) rfl (by decide) (by decide) rfl (fun ls hl => ?_)
  refine lv_goto (tgt := 10) hx hb dX1_tie_46 (by decide) ?_
  refine lv_iload_n hx hb dX1_tie_10 rfl (lv_at hl 0 rfl) ?_
  refine lv_aload_n hx hb dX1_tie_11 rfl (lv_at hl 2 rfl) ?_
  refine va_get (D := (dC, dI)) (ci := 0) (v := .int 1) (C := RX0) (T := TX0) (N := 4) hx hb hts i_0 hown hK hP 1 rfl rfl 2 (by decide) k_1 (fun _ h9 => h9) rfl dX1_tie_12 ?_
  refine lv_icmp_ge (tgt := 49) hx hb dX1_tie_15 (by decide) (fun c_5 => ?_) (fun c_5 => ?_)
  rotate_left
  · exact absurd (by decide) c_5
  have hP9 := hP.sub (ws' := [(gr, .inr (1, [.ref gh, .ref gc, .ref gd, .ref gl, .ref gn])), (gl, .inl (cI, 40, .inl Zi)), (g, .inr (0, [.ref w, .ref d, .int 1, .int 0]))]) [0, 2, 1] rfl
  have hD9 := hD.sub (ws' := [(gr, .inr (1, [.ref gh, .ref gc, .ref gd, .ref gl, .ref gn])), (gl, .inl (cI, 40, .inl Zi)), (g, .inr (0, [.ref w, .ref d, .int 1, .int 0]))]) [0, 2, 1] (by decide) rfl
  exact W.vret hx hb hr (fun t ht hW => ⟨⟨(), rfl, trivial, by rw [ht]; exact hP9, hD9⟩, hS.F ht⟩) hS.2.2 dX1_tie_49
set_option maxHeartbeats 4000000 in
set_option maxRecDepth 100000 in
theorem c_X1_score (l : Launch) (dC : Nat → ClassId) (dI : Nat → Nat → Nat) (cI cJ : ClassId) (gr gh gc gd gl gn g w d : Nat) (sz : Nat) (fh : Nat → Int32) (hz : fh 0 = 0) : Met l yX1_score wsX1_score ({ frames := 1, cells := 0, slots := 0, locals := 22 }) (va_Pc [.ref gr, .ref g] (pPre dC dI cI cJ sz [(gr, .inr (1, [.ref gh, .ref gc, .ref gd, .ref gl, .ref gn])), (gh, .inl (cI, 40, .inl fh)), (gd, .inl (cI, 40, .inl (upd Zi 0 0))), (g, .inr (0, [.ref w, .ref d, .int 1, .int 0])), (w, .inl (cI, 1600, .inl Zi))])) (va_Ql (fun (r : Int64) (_ : Unit) => r = 0) (pPost dC dI (va_A [(gr, .inr (1, [.ref gh, .ref gc, .ref gd, .ref gl, .ref gn])), (gh, .inl (cI, 40, .inl fh)), (gd, .inl (cI, 40, .inl (upd Zi 0 0))), (g, .inr (0, [.ref w, .ref d, .int 1, .int 0])), (w, .inl (cI, 1600, .inl Zi))] sz) [(gr, .inr (1, [.ref gh, .ref gc, .ref gd, .ref gl, .ref gn])), (gh, .inl (cI, 40, .inl fh)), (gd, .inl (cI, 40, .inl (upd Zi 0 0))), (g, .inr (0, [.ref w, .ref d, .int 1, .int 0])), (w, .inl (cI, 1600, .inl Zi))]) (va_A [(gr, .inr (1, [.ref gh, .ref gc, .ref gd, .ref gl, .ref gn])), (gh, .inl (cI, 40, .inl fh)), (gd, .inl (cI, 40, .inl (upd Zi 0 0))), (g, .inr (0, [.ref w, .ref d, .int 1, .int 0])), (w, .inl (cI, 1600, .inl Zi))] sz)) 0 0 (va_A [(gr, .inr (1, [.ref gh, .ref gc, .ref gd, .ref gl, .ref gn])), (gh, .inl (cI, 40, .inl fh)), (gd, .inl (cI, 40, .inl (upd Zi 0 0))), (g, .inr (0, [.ref w, .ref d, .int 1, .int 0])), (w, .inl (cI, 1600, .inl Zi))] sz) := by
  refine Met.ofW (cc := cX1_score) (maxL := 7) (ret := (some .long)) (by decide) rfl ?_
  intro p e s m args below meth c s₁ B hml hv
  obtain ⟨rfl, hsz, hP, hK, hD0⟩ := hv
  have hx := B.exec
  have hb := B.bytes
  have hr := B.returns
  have hts := atoms_spec (ws := wsX1_score) B.pre
  have hown : s.vm.findClass RX1 = some m.cls := findClass_of_methodNamed B.named
  have hlocks := B.notSynchronized
  subst hsz
  have hD := hD0.self (sz := s.heap.size)
  generalize hAe : va_A [(gr, .inr (1, [.ref gh, .ref gc, .ref gd, .ref gl, .ref gn])), (gh, .inl (cI, 40, .inl fh)), (gd, .inl (cI, 40, .inl (upd Zi 0 0))), (g, .inr (0, [.ref w, .ref d, .int 1, .int 0])), (w, .inl (cI, 1600, .inl Zi))] s.heap.size = A at hD ⊢
  have hA : ∀ q : Nat, s.heap.size ≤ q → A q := fun q h => by rw [← hAe]; exact Or.inr h
  have hS : va_S A s.heap s.heap [] := va_S.rf
  have hP : va_P (dC, dI) vwCl [(gr, .inr (1, [.ref gh, .ref gc, .ref gd, .ref gl, .ref gn])), (gh, .inl (cI, 40, .inl fh)), (gd, .inl (cI, 40, .inl (upd Zi 0 0))), (g, .inr (0, [.ref w, .ref d, .int 1, .int 0])), (w, .inl (cI, 1600, .inl Zi))] s.heap := hP
  have hl := lv_entry ([.ref gr, .ref g]) (n := 7) (Nat.le_of_ble_eq_true rfl)
  rw [lg_entry_eq]
  generalize (lg_sl ([.ref gr, .ref g]) ++ List.replicate (7 - (lg_sl ([.ref gr, .ref g])).length) Slot.unset).toArray = ls at hl ⊢
  have hl : lv_has ls 7 [(0, .ref gr), (1, .ref g)] := hl
  have i_0 : ∀ w ∈ wsX00, w ∈ wsX1_score := by decide +kernel
  have i_1 : ∀ w ∈ wsX10, w ∈ wsX1_score := by decide +kernel
  have k_0 := hts (.fieldLink RX1 33 "CommunityLevels$Graph" "size" "I") (by decide +kernel)
  have k_1 := hts (.fieldLink RX1 9 "CommunityLevels$Groups" "home" "[I") (by decide +kernel)
  have k_2 := hts (.constantLong RX1 44 (4)) (by decide +kernel)
  have k_3 := hts (.fieldLink RX1 46 "CommunityLevels$Graph" "total" "I") (by decide +kernel)
  have k_4 := hts (.fieldLink RX1 18 "CommunityLevels$Groups" "degree" "[I") (by decide +kernel)
  refine lv_lconst (v := 0) hx hb dX1_score_0 (by decide) ?_
  refine lv_lstore_n (lv' := [(2, .long 0), (0, .ref gr), (1, .ref g)]) hx hb dX1_score_1 rfl hl (by decide) rfl (fun ls hl => ?_)
  refine lv_iconst (v := 0) hx hb dX1_score_2 (by decide) ?_
  refine lv_istore (lv' := [(4, .int 0), (2, .long 0), (0, .ref gr), (1, .ref g)]) hx hb dX1_score_3 hl (by decide) rfl (fun ls hl => ?_)
  refine lv_iload hx hb dX1_score_5 (lv_at hl 0 rfl) ?_
  refine lv_aload_n hx hb dX1_score_7 rfl (lv_at hl 3 rfl) ?_
  refine va_get (D := (dC, dI)) (ci := 0) (v := .int 1) (C := RX0) (T := TX0) (N := 4) hx hb hts i_0 hown hK hP 3 rfl rfl 2 (by decide) k_0 (fun _ h9 => h9) rfl dX1_score_8 ?_
  refine lv_icmp_ge (tgt := 68) hx hb dX1_score_11 (by decide) (fun c_1 => ?_) (fun c_1 => ?_)
  · exact absurd c_1 (by decide)
  refine lv_iload hx hb dX1_score_14 (lv_at hl 0 rfl) ?_
  refine lv_istore (lv' := [(5, .int 0), (4, .int 0), (2, .long 0), (0, .ref gr), (1, .ref g)]) hx hb dX1_score_16 hl (by decide) rfl (fun ls hl => ?_)
  refine lv_iload hx hb dX1_score_18 (lv_at hl 0 rfl) ?_
  refine lv_aload_n hx hb dX1_score_20 rfl (lv_at hl 4 rfl) ?_
  refine va_get (D := (dC, dI)) (ci := 0) (v := .int 1) (C := RX0) (T := TX0) (N := 4) hx hb hts i_0 hown hK hP 3 rfl rfl 2 (by decide) k_0 (fun _ h9 => h9) rfl dX1_score_21 ?_
  refine lv_icmp_ge (tgt := 62) hx hb dX1_score_24 (by decide) (fun c_2 => ?_) (fun c_2 => ?_)
  · exact absurd c_2 (by decide)
  refine lv_aload_n hx hb dX1_score_27 rfl (lv_at hl 3 rfl) ?_
  refine va_get (D := (dC, dI)) (ci := 1) (v := .ref gh) (C := RX1) (T := TX1) (N := 5) hx hb hts i_1 hown hK hP 0 rfl rfl 0 (by decide) k_1 (fun _ h9 => h9) rfl dX1_score_28 ?_
  refine lv_iload hx hb dX1_score_31 (lv_at hl 1 rfl) ?_
  refine va_iald hx hb hK hP 1 0 rfl rfl (vp_c (by decide)) dX1_score_33 ?_
  refine lc_i (v := 0) hz ?_
  refine lv_aload_n hx hb dX1_score_34 rfl (lv_at hl 3 rfl) ?_
  refine va_get (D := (dC, dI)) (ci := 1) (v := .ref gh) (C := RX1) (T := TX1) (N := 5) hx hb hts i_1 hown hK hP 0 rfl rfl 0 (by decide) k_1 (fun _ h9 => h9) rfl dX1_score_35 ?_
  refine lv_iload hx hb dX1_score_38 (lv_at hl 0 rfl) ?_
  refine va_iald hx hb hK hP 1 0 rfl rfl (vp_c (by decide)) dX1_score_40 ?_
  refine lc_i (v := 0) hz ?_
  refine lv_icmp_ne (tgt := 56) hx hb dX1_score_41 (by decide) (fun c_3 => ?_) (fun c_3 => ?_)
  · exact absurd c_3 (by decide)
  refine lv_lload_n hx hb dX1_score_44 rfl (lv_at hl 2 rfl) ?_
  refine lv_aload_n hx hb dX1_score_45 rfl (lv_at hl 4 rfl) ?_
  refine lv_iload hx hb dX1_score_46 (lv_at hl 1 rfl) ?_
  refine lv_iload hx hb dX1_score_48 (lv_at hl 0 rfl) ?_
  have hPc := hP.sub (ws' := [(g, .inr (0, [.ref w, .ref d, .int 1, .int 0])), (w, .inl (cI, 1600, .inl Zi))]) [3, 4] rfl
  have hDc := hD.sub (ws' := [(g, .inr (0, [.ref w, .ref d, .int 1, .int 0])), (w, .inl (cI, 1600, .inl Zi))]) [3, 4] (by decide) rfl
  have hFc := va_free (wc := [(g, .inr (0, [.ref w, .ref d, .int 1, .int 0])), (w, .inl (cI, 1600, .inl Zi))]) hD hS hA [3, 4] rfl
  refine va_calli (va_runV (As := [.int 0, .int 0]) (rest := [.long 0]) ⟨hx, hb, hml, hown, hts⟩ (c_X0_between l dC dI cI cJ g w d s.heap.size Zi 1 0) (cwV 2 hts gX1_score_X0_between rfl rfl rfl (by decide +kernel) ⟨Nat.le_of_ble_eq_true rfl, Nat.le_of_ble_eq_true rfl⟩) ⟨fun a U g mk q => by obtain ⟨q0, q1, qP, qK, qD⟩ := q; exact ⟨q0, q1, qP, va_K.moved (u := U) (U := U.calling g mk a) (Vm.Alike.refl U.vm) qK, qD⟩, va_recv hK hPc (ci := 0) (q0 := 0) rfl rfl, fun U hU hW => ⟨rfl, by rw [hU], by rw [hU]; exact hPc, va_K.moved hW.alike hK, hDc.weaken (fun _ _ _ _ => trivial)⟩⟩ rfl rfl hl.1 rfl (lv_room (Nat.le_of_ble_eq_true rfl)) dX1_score_50 ⟨Nat.le_of_ble_eq_true rfl, Nat.le_of_ble_eq_true rfl⟩) hS (fun q _ h => hFc q h) hFc (fun r_4 u_5 t H1 locs ht hvm hw hB hz1 hk1 hS => ?_)
  obtain ⟨hP1, hD1⟩ := hB
  rw [ht] at hP1
  obtain ⟨hP, hD⟩ := va_join (wr := [(gr, .inr (1, [.ref gh, .ref gc, .ref gd, .ref gl, .ref gn])), (gh, .inl (cI, 40, .inl fh)), (gd, .inl (cI, 40, .inl (upd Zi 0 0)))]) (w1 := [(g, .inr (0, [.ref w, .ref d, .int 1, .int 0])), (w, .inl (cI, 1600, .inl Zi))]) hP hD [3, 4] [0, 1, 2] rfl rfl (by decide) (by decide) hk1 hFc hP1 hD1
  generalize H1 = H at hP hS ⊢
  have hP : va_P (dC, dI) vwCl [(gr, .inr (1, [.ref gh, .ref gc, .ref gd, .ref gl, .ref gn])), (gh, .inl (cI, 40, .inl fh)), (gd, .inl (cI, 40, .inl (upd Zi 0 0))), (g, .inr (0, [.ref w, .ref d, .int 1, .int 0])), (w, .inl (cI, 1600, .inl Zi))] H := hP
  have hD : va_D A [(gr, .inr (1, [.ref gh, .ref gc, .ref gd, .ref gl, .ref gn])), (gh, .inl (cI, 40, .inl fh)), (gd, .inl (cI, 40, .inl (upd Zi 0 0))), (g, .inr (0, [.ref w, .ref d, .int 1, .int 0])), (w, .inl (cI, 1600, .inl Zi))] := hD
  obtain rfl : r_4 = 0 := hw
  refine lv_i2l (v := 0) hx hb dX1_score_53 (by decide) ?_
  refine lv_ladd hx hb dX1_score_54 ?_
  refine lc_l (v := 0) (by first | rfl | decide) ?_
  refine lv_lstore_n (lv' := [(2, .long 0), (5, .int 0), (4, .int 0), (0, .ref gr), (1, .ref g)]) hx hb dX1_score_55 rfl hl (by decide) rfl (fun ls hl => ?_)
  refine lv_iinc (v := 1) (lv' := [(5, .int 1), (2, .long 0), (4, .int 0), (0, .ref gr), (1, .ref g)]) hx hb dX1_score_56 hl (k := 1) rfl (by decide) (by decide) rfl (fun ls hl => ?_)
  refine lv_goto (tgt := 18) hx hb dX1_score_59 (by decide) ?_
  refine lv_iload hx hb dX1_score_18 (lv_at hl 0 rfl) ?_
  refine lv_aload_n hx hb dX1_score_20 rfl (lv_at hl 4 rfl) ?_
  refine va_get (D := (dC, dI)) (ci := 0) (v := .int 1) (C := RX0) (T := TX0) (N := 4) hx hb hts i_0 hown hK hP 3 rfl rfl 2 (by decide) k_0 (fun _ h9 => h9) rfl dX1_score_21 ?_
  refine lv_icmp_ge (tgt := 62) hx hb dX1_score_24 (by decide) (fun c_6 => ?_) (fun c_6 => ?_)
  rotate_left
  · exact absurd (by decide) c_6
  refine lv_iinc (v := 1) (lv' := [(4, .int 1), (5, .int 1), (2, .long 0), (0, .ref gr), (1, .ref g)]) hx hb dX1_score_62 hl (k := 2) rfl (by decide) (by decide) rfl (fun ls hl => ?_)
  refine lv_goto (tgt := 5) hx hb dX1_score_65 (by decide) ?_
  refine lv_iload hx hb dX1_score_5 (lv_at hl 0 rfl) ?_
  refine lv_aload_n hx hb dX1_score_7 rfl (lv_at hl 4 rfl) ?_
  refine va_get (D := (dC, dI)) (ci := 0) (v := .int 1) (C := RX0) (T := TX0) (N := 4) hx hb hts i_0 hown hK hP 3 rfl rfl 2 (by decide) k_0 (fun _ h9 => h9) rfl dX1_score_8 ?_
  refine lv_icmp_ge (tgt := 68) hx hb dX1_score_11 (by decide) (fun c_7 => ?_) (fun c_7 => ?_)
  rotate_left
  · exact absurd (by decide) c_7
  refine lv_ldc2 (own := RX1) (v := 4) hx hb hown k_2 dX1_score_68 ?_
  refine lv_aload_n hx hb dX1_score_71 rfl (lv_at hl 4 rfl) ?_
  refine va_get (D := (dC, dI)) (ci := 0) (v := .int 0) (C := RX0) (T := TX0) (N := 4) hx hb hts i_0 hown hK hP 3 rfl rfl 3 (by decide) k_3 (fun _ h9 => h9) rfl dX1_score_72 ?_
  refine lv_i2l (v := 0) hx hb dX1_score_75 (by decide) ?_
  refine lv_lmul hx hb dX1_score_76 ?_
  refine lc_l (v := 0) (by first | rfl | decide) ?_
  refine lv_lload_n hx hb dX1_score_77 rfl (lv_at hl 2 rfl) ?_
  refine lv_lmul hx hb dX1_score_78 ?_
  refine lc_l (v := 0) (by first | rfl | decide) ?_
  refine lv_lstore (lv' := [(4, .long 0), (2, .long 0), (0, .ref gr), (1, .ref g)]) hx hb dX1_score_79 hl (by decide) rfl (fun ls hl => ?_)
  refine lv_iconst (v := 0) hx hb dX1_score_81 (by decide) ?_
  refine lv_istore (lv' := [(6, .int 0), (4, .long 0), (2, .long 0), (0, .ref gr), (1, .ref g)]) hx hb dX1_score_82 hl (by decide) rfl (fun ls hl => ?_)
  refine lv_iload hx hb dX1_score_84 (lv_at hl 0 rfl) ?_
  refine lv_aload_n hx hb dX1_score_86 rfl (lv_at hl 4 rfl) ?_
  refine va_get (D := (dC, dI)) (ci := 0) (v := .int 1) (C := RX0) (T := TX0) (N := 4) hx hb hts i_0 hown hK hP 3 rfl rfl 2 (by decide) k_0 (fun _ h9 => h9) rfl dX1_score_87 ?_
  refine lv_icmp_ge (tgt := 121) hx hb dX1_score_90 (by decide) (fun c_8 => ?_) (fun c_8 => ?_)
  · exact absurd c_8 (by decide)
  refine lv_lload hx hb dX1_score_93 (lv_at hl 1 rfl) ?_
  refine lv_aload_n hx hb dX1_score_95 rfl (lv_at hl 3 rfl) ?_
  refine va_get (D := (dC, dI)) (ci := 1) (v := .ref gd) (C := RX1) (T := TX1) (N := 5) hx hb hts i_1 hown hK hP 0 rfl rfl 2 (by decide) k_4 (fun _ h9 => h9) rfl dX1_score_96 ?_
  refine lv_iload hx hb dX1_score_99 (lv_at hl 0 rfl) ?_
  refine va_iald hx hb hK hP 2 0 rfl rfl (vp_c (by decide)) dX1_score_101 ?_
  refine lc_i (v := 0) (by first | rfl | decide) ?_
  refine lv_i2l (v := 0) hx hb dX1_score_102 (by decide) ?_
  refine lv_aload_n hx hb dX1_score_103 rfl (lv_at hl 3 rfl) ?_
  refine va_get (D := (dC, dI)) (ci := 1) (v := .ref gd) (C := RX1) (T := TX1) (N := 5) hx hb hts i_1 hown hK hP 0 rfl rfl 2 (by decide) k_4 (fun _ h9 => h9) rfl dX1_score_104 ?_
  refine lv_iload hx hb dX1_score_107 (lv_at hl 0 rfl) ?_
  refine va_iald hx hb hK hP 2 0 rfl rfl (vp_c (by decide)) dX1_score_109 ?_
  refine lc_i (v := 0) (by first | rfl | decide) ?_
  refine lv_i2l (v := 0) hx hb dX1_score_110 (by decide) ?_
  refine lv_lmul hx hb dX1_score_111 ?_
  refine lc_l (v := 0) (by first | rfl | decide) ?_
  refine lv_lsub hx hb dX1_score_112 ?_
  refine lc_l (v := 0) (by first | rfl | decide) ?_
  refine lv_lstore (lv' := [(4, .long 0), (6, .int 0), (2, .long 0), (0, .ref gr), (1, .ref g)]) hx hb dX1_score_113 hl (by decide) rfl (fun ls hl => ?_)
  refine lv_iinc (v := 1) (lv' := [(6, .int 1), (4, .long 0), (2, .long 0), (0, .ref gr), (1, .ref g)]) hx hb dX1_score_115 hl (k := 1) rfl (by decide) (by decide) rfl (fun ls hl => ?_)
  refine lv_goto (tgt := 84) hx hb dX1_score_118 (by decide) ?_
  refine lv_iload hx hb dX1_score_84 (lv_at hl 0 rfl) ?_
  refine lv_aload_n hx hb dX1_score_86 rfl (lv_at hl 4 rfl) ?_
  refine va_get (D := (dC, dI)) (ci := 0) (v := .int 1) (C := RX0) (T := TX0) (N := 4) hx hb hts i_0 hown hK hP 3 rfl rfl 2 (by decide) k_0 (fun _ h9 => h9) rfl dX1_score_87 ?_
  refine lv_icmp_ge (tgt := 121) hx hb dX1_score_90 (by decide) (fun c_9 => ?_) (fun c_9 => ?_)
  rotate_left
  · exact absurd (by decide) c_9
  refine lv_lload hx hb dX1_score_121 (lv_at hl 1 rfl) ?_
  have hP9 := hP.sub (ws' := [(gr, .inr (1, [.ref gh, .ref gc, .ref gd, .ref gl, .ref gn])), (gh, .inl (cI, 40, .inl fh)), (gd, .inl (cI, 40, .inl (upd Zi 0 0))), (g, .inr (0, [.ref w, .ref d, .int 1, .int 0])), (w, .inl (cI, 1600, .inl Zi))]) [0, 1, 2, 3, 4] rfl
  have hD9 := hD.sub (ws' := [(gr, .inr (1, [.ref gh, .ref gc, .ref gd, .ref gl, .ref gn])), (gh, .inl (cI, 40, .inl fh)), (gd, .inl (cI, 40, .inl (upd Zi 0 0))), (g, .inr (0, [.ref w, .ref d, .int 1, .int 0])), (w, .inl (cI, 1600, .inl Zi))]) [0, 1, 2, 3, 4] (by decide) rfl
  exact W.lret (v := 0) hx hb hr (fun t ht hW => ⟨⟨_, (), rfl, rfl, by rw [ht]; exact hP9, hD9⟩, hS.F ht⟩) hS.2.2 dX1_score_123
set_option maxHeartbeats 4000000 in
set_option maxRecDepth 100000 in
theorem c_X1_gainInto (l : Launch) (dC : Nat → ClassId) (dI : Nat → Nat → Nat) (cI cJ : ClassId) (gr gh gc gd gl gn g w d : Nat) (sz : Nat) (fh : Nat → Int32) (hz : fh 0 = 0) : Met l yX1_gainInto wsX1_gainInto ({ frames := 0, cells := 0, slots := 0, locals := 0 }) (va_Pc [.ref gr, .ref g, .int 0, .int 0] (pPre dC dI cI cJ sz [(gr, .inr (1, [.ref gh, .ref gc, .ref gd, .ref gl, .ref gn])), (gh, .inl (cI, 40, .inl fh)), (g, .inr (0, [.ref w, .ref d, .int 1, .int 0]))])) (va_Ql (fun (r : Int64) (_ : Unit) => r = 0) (pPost dC dI (va_A [(gr, .inr (1, [.ref gh, .ref gc, .ref gd, .ref gl, .ref gn])), (gh, .inl (cI, 40, .inl fh)), (g, .inr (0, [.ref w, .ref d, .int 1, .int 0]))] sz) [(gr, .inr (1, [.ref gh, .ref gc, .ref gd, .ref gl, .ref gn])), (gh, .inl (cI, 40, .inl fh)), (g, .inr (0, [.ref w, .ref d, .int 1, .int 0]))]) (va_A [(gr, .inr (1, [.ref gh, .ref gc, .ref gd, .ref gl, .ref gn])), (gh, .inl (cI, 40, .inl fh)), (g, .inr (0, [.ref w, .ref d, .int 1, .int 0]))] sz)) 0 0 (va_A [(gr, .inr (1, [.ref gh, .ref gc, .ref gd, .ref gl, .ref gn])), (gh, .inl (cI, 40, .inl fh)), (g, .inr (0, [.ref w, .ref d, .int 1, .int 0]))] sz) := by
  refine Met.ofW (cc := cX1_gainInto) (maxL := 11) (ret := (some .long)) (by decide) rfl ?_
  intro p e s m args below meth c s₁ B hml hv
  obtain ⟨rfl, hsz, hP, hK, hD0⟩ := hv
  have hx := B.exec
  have hb := B.bytes
  have hr := B.returns
  have hts := atoms_spec (ws := wsX1_gainInto) B.pre
  have hown : s.vm.findClass RX1 = some m.cls := findClass_of_methodNamed B.named
  have hlocks := B.notSynchronized
  subst hsz
  have hD := hD0.self (sz := s.heap.size)
  generalize hAe : va_A [(gr, .inr (1, [.ref gh, .ref gc, .ref gd, .ref gl, .ref gn])), (gh, .inl (cI, 40, .inl fh)), (g, .inr (0, [.ref w, .ref d, .int 1, .int 0]))] s.heap.size = A at hD ⊢
  have hA : ∀ q : Nat, s.heap.size ≤ q → A q := fun q h => by rw [← hAe]; exact Or.inr h
  have hS : va_S A s.heap s.heap [] := va_S.rf
  have hP : va_P (dC, dI) vwCl [(gr, .inr (1, [.ref gh, .ref gc, .ref gd, .ref gl, .ref gn])), (gh, .inl (cI, 40, .inl fh)), (g, .inr (0, [.ref w, .ref d, .int 1, .int 0]))] s.heap := hP
  have hl := lv_entry ([.ref gr, .ref g, .int 0, .int 0]) (n := 11) (Nat.le_of_ble_eq_true rfl)
  rw [lg_entry_eq]
  generalize (lg_sl ([.ref gr, .ref g, .int 0, .int 0]) ++ List.replicate (11 - (lg_sl ([.ref gr, .ref g, .int 0, .int 0])).length) Slot.unset).toArray = ls at hl ⊢
  have hl : lv_has ls 11 [(0, .ref gr), (1, .ref g), (2, .int 0), (3, .int 0)] := hl
  have i_1 : ∀ w ∈ wsX10, w ∈ wsX1_gainInto := by decide +kernel
  have k_0 := hts (.fieldLink RX1 9 "CommunityLevels$Groups" "home" "[I") (by decide +kernel)
  refine lv_aload_n hx hb dX1_gainInto_0 rfl (lv_at hl 0 rfl) ?_
  refine va_get (D := (dC, dI)) (ci := 1) (v := .ref gh) (C := RX1) (T := TX1) (N := 5) hx hb hts i_1 hown hK hP 0 rfl rfl 0 (by decide) k_0 (fun _ h9 => h9) rfl dX1_gainInto_1 ?_
  refine lv_iload_n hx hb dX1_gainInto_4 rfl (lv_at hl 2 rfl) ?_
  refine va_iald hx hb hK hP 1 0 rfl rfl (vp_c (by decide)) dX1_gainInto_5 ?_
  refine lc_i (v := 0) hz ?_
  refine lv_istore (lv' := [(4, .int 0), (0, .ref gr), (1, .ref g), (2, .int 0), (3, .int 0)]) hx hb dX1_gainInto_6 hl (by decide) rfl (fun ls hl => ?_)
  refine lv_iload_n hx hb dX1_gainInto_8 rfl (lv_at hl 4 rfl) ?_
  refine lv_iload hx hb dX1_gainInto_9 (lv_at hl 0 rfl) ?_
  refine lv_icmp_ne (tgt := 16) hx hb dX1_gainInto_11 (by decide) (fun c_1 => ?_) (fun c_1 => ?_)
  · exact absurd c_1 (by decide)
  refine lv_lconst (v := 0) hx hb dX1_gainInto_14 (by decide) ?_
  have hP9 := hP.sub (ws' := [(gr, .inr (1, [.ref gh, .ref gc, .ref gd, .ref gl, .ref gn])), (gh, .inl (cI, 40, .inl fh)), (g, .inr (0, [.ref w, .ref d, .int 1, .int 0]))]) [0, 1, 2] rfl
  have hD9 := hD.sub (ws' := [(gr, .inr (1, [.ref gh, .ref gc, .ref gd, .ref gl, .ref gn])), (gh, .inl (cI, 40, .inl fh)), (g, .inr (0, [.ref w, .ref d, .int 1, .int 0]))]) [0, 1, 2] (by decide) rfl
  exact W.lret (v := 0) hx hb hr (fun t ht hW => ⟨⟨_, (), rfl, rfl, by rw [ht]; exact hP9, hD9⟩, hS.F ht⟩) hS.2.2 dX1_gainInto_15
set_option maxHeartbeats 4000000 in
set_option maxRecDepth 100000 in
theorem c_X1_choose (l : Launch) (dC : Nat → ClassId) (dI : Nat → Nat → Nat) (cI cJ : ClassId) (gr gh gc gd gl gn g w d : Nat) (sz : Nat) (fh : Nat → Int32) (hz : fh 0 = 0) : Met l yX1_choose wsX1_choose ({ frames := 0, cells := 0, slots := 0, locals := 0 }) (va_Pc [.ref gr, .ref g, .int 0] (pPre dC dI cI cJ sz [(gr, .inr (1, [.ref gh, .ref gc, .ref gd, .ref gl, .ref gn])), (gh, .inl (cI, 40, .inl fh)), (gc, .inl (cI, 40, .inl (upd Zi 0 1))), (g, .inr (0, [.ref w, .ref d, .int 1, .int 0]))])) (va_Qi (fun (r : Int32) (_ : Unit) => r = (-1)) (pPost dC dI (va_A [(gr, .inr (1, [.ref gh, .ref gc, .ref gd, .ref gl, .ref gn])), (gh, .inl (cI, 40, .inl fh)), (gc, .inl (cI, 40, .inl (upd Zi 0 1))), (g, .inr (0, [.ref w, .ref d, .int 1, .int 0]))] sz) [(gr, .inr (1, [.ref gh, .ref gc, .ref gd, .ref gl, .ref gn])), (gh, .inl (cI, 40, .inl fh)), (gc, .inl (cI, 40, .inl (upd Zi 0 1))), (g, .inr (0, [.ref w, .ref d, .int 1, .int 0]))]) (va_A [(gr, .inr (1, [.ref gh, .ref gc, .ref gd, .ref gl, .ref gn])), (gh, .inl (cI, 40, .inl fh)), (gc, .inl (cI, 40, .inl (upd Zi 0 1))), (g, .inr (0, [.ref w, .ref d, .int 1, .int 0]))] sz)) 0 0 (va_A [(gr, .inr (1, [.ref gh, .ref gc, .ref gd, .ref gl, .ref gn])), (gh, .inl (cI, 40, .inl fh)), (gc, .inl (cI, 40, .inl (upd Zi 0 1))), (g, .inr (0, [.ref w, .ref d, .int 1, .int 0]))] sz) := by
  refine Met.ofW (cc := cX1_choose) (maxL := 10) (ret := (some .int)) (by decide) rfl ?_
  intro p e s m args below meth c s₁ B hml hv
  obtain ⟨rfl, hsz, hP, hK, hD0⟩ := hv
  have hx := B.exec
  have hb := B.bytes
  have hr := B.returns
  have hts := atoms_spec (ws := wsX1_choose) B.pre
  have hown : s.vm.findClass RX1 = some m.cls := findClass_of_methodNamed B.named
  have hlocks := B.notSynchronized
  subst hsz
  have hD := hD0.self (sz := s.heap.size)
  generalize hAe : va_A [(gr, .inr (1, [.ref gh, .ref gc, .ref gd, .ref gl, .ref gn])), (gh, .inl (cI, 40, .inl fh)), (gc, .inl (cI, 40, .inl (upd Zi 0 1))), (g, .inr (0, [.ref w, .ref d, .int 1, .int 0]))] s.heap.size = A at hD ⊢
  have hA : ∀ q : Nat, s.heap.size ≤ q → A q := fun q h => by rw [← hAe]; exact Or.inr h
  have hS : va_S A s.heap s.heap [] := va_S.rf
  have hP : va_P (dC, dI) vwCl [(gr, .inr (1, [.ref gh, .ref gc, .ref gd, .ref gl, .ref gn])), (gh, .inl (cI, 40, .inl fh)), (gc, .inl (cI, 40, .inl (upd Zi 0 1))), (g, .inr (0, [.ref w, .ref d, .int 1, .int 0]))] s.heap := hP
  have hl := lv_entry ([.ref gr, .ref g, .int 0]) (n := 10) (Nat.le_of_ble_eq_true rfl)
  rw [lg_entry_eq]
  generalize (lg_sl ([.ref gr, .ref g, .int 0]) ++ List.replicate (10 - (lg_sl ([.ref gr, .ref g, .int 0])).length) Slot.unset).toArray = ls at hl ⊢
  have hl : lv_has ls 10 [(0, .ref gr), (1, .ref g), (2, .int 0)] := hl
  have i_0 : ∀ w ∈ wsX00, w ∈ wsX1_choose := by decide +kernel
  have i_1 : ∀ w ∈ wsX10, w ∈ wsX1_choose := by decide +kernel
  have k_0 := hts (.fieldLink RX1 9 "CommunityLevels$Groups" "home" "[I") (by decide +kernel)
  have k_1 := hts (.fieldLink RX1 33 "CommunityLevels$Graph" "size" "I") (by decide +kernel)
  have k_2 := hts (.fieldLink RX1 15 "CommunityLevels$Groups" "count" "[I") (by decide +kernel)
  refine lv_aload_n hx hb dX1_choose_0 rfl (lv_at hl 0 rfl) ?_
  refine va_get (D := (dC, dI)) (ci := 1) (v := .ref gh) (C := RX1) (T := TX1) (N := 5) hx hb hts i_1 hown hK hP 0 rfl rfl 0 (by decide) k_0 (fun _ h9 => h9) rfl dX1_choose_1 ?_
  refine lv_iload_n hx hb dX1_choose_4 rfl (lv_at hl 2 rfl) ?_
  refine va_iald hx hb hK hP 1 0 rfl rfl (vp_c (by decide)) dX1_choose_5 ?_
  refine lc_i (v := 0) hz ?_
  refine lv_istore_n (lv' := [(3, .int 0), (0, .ref gr), (1, .ref g), (2, .int 0)]) hx hb dX1_choose_6 rfl hl (by decide) rfl (fun ls hl => ?_)
  refine lv_iconst (v := (-1)) hx hb dX1_choose_7 (by decide) ?_
  refine lv_istore (lv' := [(4, .int (-1)), (3, .int 0), (0, .ref gr), (1, .ref g), (2, .int 0)]) hx hb dX1_choose_8 hl (by decide) rfl (fun ls hl => ?_)
  refine lv_lconst (v := 0) hx hb dX1_choose_10 (by decide) ?_
  refine lv_lstore (lv' := [(5, .long 0), (4, .int (-1)), (3, .int 0), (0, .ref gr), (1, .ref g), (2, .int 0)]) hx hb dX1_choose_11 hl (by decide) rfl (fun ls hl => ?_)
  refine lv_iconst (v := 0) hx hb dX1_choose_13 (by decide) ?_
  refine lv_istore (lv' := [(7, .int 0), (5, .long 0), (4, .int (-1)), (3, .int 0), (0, .ref gr), (1, .ref g), (2, .int 0)]) hx hb dX1_choose_14 hl (by decide) rfl (fun ls hl => ?_)
  refine lv_iload hx hb dX1_choose_16 (lv_at hl 0 rfl) ?_
  refine lv_aload_n hx hb dX1_choose_18 rfl (lv_at hl 5 rfl) ?_
  refine va_get (D := (dC, dI)) (ci := 0) (v := .int 1) (C := RX0) (T := TX0) (N := 4) hx hb hts i_0 hown hK hP 3 rfl rfl 2 (by decide) k_1 (fun _ h9 => h9) rfl dX1_choose_19 ?_
  refine lv_icmp_ge (tgt := 77) hx hb dX1_choose_22 (by decide) (fun c_1 => ?_) (fun c_1 => ?_)
  · exact absurd c_1 (by decide)
  refine lv_iload hx hb dX1_choose_25 (lv_at hl 0 rfl) ?_
  refine lv_iload_n hx hb dX1_choose_27 rfl (lv_at hl 3 rfl) ?_
  refine lv_icmp_eq (tgt := 52) hx hb dX1_choose_28 (by decide) (fun c_2 => ?_) (fun c_2 => ?_)
  rotate_left
  · exact absurd (by decide) c_2
  refine lv_lconst (v := 0) hx hb dX1_choose_52 (by decide) ?_
  refine lv_lstore (lv' := [(8, .long 0), (7, .int 0), (5, .long 0), (4, .int (-1)), (3, .int 0), (0, .ref gr), (1, .ref g), (2, .int 0)]) hx hb dX1_choose_53 hl (by decide) rfl (fun ls hl => ?_)
  refine lv_lload hx hb dX1_choose_55 (lv_at hl 0 rfl) ?_
  refine lv_lload hx hb dX1_choose_57 (lv_at hl 2 rfl) ?_
  refine W.lcmp hx hb dX1_choose_59 ?_
  refine lc_i (v := 0) (by first | rfl | decide) ?_
  refine lv_if_le (tgt := 71) hx hb dX1_choose_60 (by decide) (fun c_3 => ?_) (fun c_3 => ?_)
  rotate_left
  · exact absurd (by decide) c_3
  refine lv_iinc (v := 1) (lv' := [(7, .int 1), (8, .long 0), (5, .long 0), (4, .int (-1)), (3, .int 0), (0, .ref gr), (1, .ref g), (2, .int 0)]) hx hb dX1_choose_71 hl (k := 1) rfl (by decide) (by decide) rfl (fun ls hl => ?_)
  refine lv_goto (tgt := 16) hx hb dX1_choose_74 (by decide) ?_
  refine lv_iload hx hb dX1_choose_16 (lv_at hl 0 rfl) ?_
  refine lv_aload_n hx hb dX1_choose_18 rfl (lv_at hl 6 rfl) ?_
  refine va_get (D := (dC, dI)) (ci := 0) (v := .int 1) (C := RX0) (T := TX0) (N := 4) hx hb hts i_0 hown hK hP 3 rfl rfl 2 (by decide) k_1 (fun _ h9 => h9) rfl dX1_choose_19 ?_
  refine lv_icmp_ge (tgt := 77) hx hb dX1_choose_22 (by decide) (fun c_4 => ?_) (fun c_4 => ?_)
  rotate_left
  · exact absurd (by decide) c_4
  refine lv_aload_n hx hb dX1_choose_77 rfl (lv_at hl 5 rfl) ?_
  refine va_get (D := (dC, dI)) (ci := 1) (v := .ref gc) (C := RX1) (T := TX1) (N := 5) hx hb hts i_1 hown hK hP 0 rfl rfl 1 (by decide) k_2 (fun _ h9 => h9) rfl dX1_choose_78 ?_
  refine lv_iload_n hx hb dX1_choose_81 rfl (lv_at hl 4 rfl) ?_
  refine va_iald hx hb hK hP 2 0 rfl rfl (vp_c (by decide)) dX1_choose_82 ?_
  refine lc_i (v := 1) (by first | rfl | decide) ?_
  refine lv_iconst (v := 1) hx hb dX1_choose_83 (by decide) ?_
  refine lv_icmp_le (tgt := 98) hx hb dX1_choose_84 (by decide) (fun c_5 => ?_) (fun c_5 => ?_)
  rotate_left
  · exact absurd (by decide) c_5
  refine lv_iconst (v := (-1)) hx hb dX1_choose_98 (by decide) ?_
  refine lv_istore (lv' := [(7, .int (-1)), (8, .long 0), (5, .long 0), (4, .int (-1)), (3, .int 0), (0, .ref gr), (1, .ref g), (2, .int 0)]) hx hb dX1_choose_99 hl (by decide) rfl (fun ls hl => ?_)
  refine lv_iload hx hb dX1_choose_101 (lv_at hl 0 rfl) ?_
  refine lv_iconst (v := (-1)) hx hb dX1_choose_103 (by decide) ?_
  refine lv_icmp_eq (tgt := 125) hx hb dX1_choose_104 (by decide) (fun c_6 => ?_) (fun c_6 => ?_)
  rotate_left
  · exact absurd (by decide) c_6
  refine lv_iload hx hb dX1_choose_125 (lv_at hl 3 rfl) ?_
  have hP9 := hP.sub (ws' := [(gr, .inr (1, [.ref gh, .ref gc, .ref gd, .ref gl, .ref gn])), (gh, .inl (cI, 40, .inl fh)), (gc, .inl (cI, 40, .inl (upd Zi 0 1))), (g, .inr (0, [.ref w, .ref d, .int 1, .int 0]))]) [0, 1, 2, 3] rfl
  have hD9 := hD.sub (ws' := [(gr, .inr (1, [.ref gh, .ref gc, .ref gd, .ref gl, .ref gn])), (gh, .inl (cI, 40, .inl fh)), (gc, .inl (cI, 40, .inl (upd Zi 0 1))), (g, .inr (0, [.ref w, .ref d, .int 1, .int 0]))]) [0, 1, 2, 3] (by decide) rfl
  exact W.iret (v := (-1)) hx hb hr (fun t ht hW => ⟨⟨_, (), rfl, rfl, by rw [ht]; exact hP9, hD9⟩, hS.F ht⟩) hS.2.2 dX1_choose_127
set_option maxHeartbeats 4000000 in
set_option maxRecDepth 100000 in
theorem c_X1_renumber (l : Launch) (dC : Nat → ClassId) (dI : Nat → Nat → Nat) (cI cJ : ClassId) (gr gh gc gd gl gn : Nat) (sz : Nat) (fh : Nat → Int32) (fn : Nat → Int32) (hz : fh 0 = 0) : Met l yX1_renumber wsX1_renumber ({ frames := 1, cells := 0, slots := 0, locals := 23 }) (va_Pc [.ref gr, .int 1] (pPre dC dI cI cJ sz [(gr, .inr (1, [.ref gh, .ref gc, .ref gd, .ref gl, .ref gn])), (gh, .inl (cI, 40, .inl fh)), (gn, .inl (cI, 40, .inl fn))])) (va_Qi (fun (r : Int32) (_ : Unit) => r = 1) (pPost dC dI (va_A [(gr, .inr (1, [.ref gh, .ref gc, .ref gd, .ref gl, .ref gn])), (gh, .inl (cI, 40, .inl fh)), (gn, .inl (cI, 40, .inl fn))] sz) [(gr, .inr (1, [.ref gh, .ref gc, .ref gd, .ref gl, .ref gn])), (gh, .inl (cI, 40, .inl (upd fh 0 0)))]) (va_A [(gr, .inr (1, [.ref gh, .ref gc, .ref gd, .ref gl, .ref gn])), (gh, .inl (cI, 40, .inl fh)), (gn, .inl (cI, 40, .inl fn))] sz)) 0 0 (va_A [(gr, .inr (1, [.ref gh, .ref gc, .ref gd, .ref gl, .ref gn])), (gh, .inl (cI, 40, .inl fh)), (gn, .inl (cI, 40, .inl fn))] sz) := by
  refine Met.ofW (cc := cX1_renumber) (maxL := 5) (ret := (some .int)) (by decide) rfl ?_
  intro p e s m args below meth c s₁ B hml hv
  obtain ⟨rfl, hsz, hP, hK, hD0⟩ := hv
  have hx := B.exec
  have hb := B.bytes
  have hr := B.returns
  have hts := atoms_spec (ws := wsX1_renumber) B.pre
  have hown : s.vm.findClass RX1 = some m.cls := findClass_of_methodNamed B.named
  have hlocks := B.notSynchronized
  subst hsz
  have hD := hD0.self (sz := s.heap.size)
  generalize hAe : va_A [(gr, .inr (1, [.ref gh, .ref gc, .ref gd, .ref gl, .ref gn])), (gh, .inl (cI, 40, .inl fh)), (gn, .inl (cI, 40, .inl fn))] s.heap.size = A at hD ⊢
  have hA : ∀ q : Nat, s.heap.size ≤ q → A q := fun q h => by rw [← hAe]; exact Or.inr h
  have hS : va_S A s.heap s.heap [] := va_S.rf
  have hP : va_P (dC, dI) vwCl [(gr, .inr (1, [.ref gh, .ref gc, .ref gd, .ref gl, .ref gn])), (gh, .inl (cI, 40, .inl fh)), (gn, .inl (cI, 40, .inl fn))] s.heap := hP
  have hl := lv_entry ([.ref gr, .int 1]) (n := 5) (Nat.le_of_ble_eq_true rfl)
  rw [lg_entry_eq]
  generalize (lg_sl ([.ref gr, .int 1]) ++ List.replicate (5 - (lg_sl ([.ref gr, .int 1])).length) Slot.unset).toArray = ls at hl ⊢
  have hl : lv_has ls 5 [(0, .ref gr), (1, .int 1)] := hl
  have i_1 : ∀ w ∈ wsX10, w ∈ wsX1_renumber := by decide +kernel
  have k_0 := hts (.fieldLink RX1 24 "CommunityLevels$Groups" "number" "[I") (by decide +kernel)
  have k_1 := hts (.fieldLink RX1 9 "CommunityLevels$Groups" "home" "[I") (by decide +kernel)
  refine lv_aload_n hx hb dX1_renumber_0 rfl (lv_at hl 0 rfl) ?_
  refine va_get (D := (dC, dI)) (ci := 1) (v := .ref gn) (C := RX1) (T := TX1) (N := 5) hx hb hts i_1 hown hK hP 0 rfl rfl 4 (by decide) k_0 (fun _ h9 => h9) rfl dX1_renumber_1 ?_
  refine lv_iconst (v := (-1)) hx hb dX1_renumber_4 (by decide) ?_
  have hPc := hP.sub (ws' := [(gn, .inl (cI, 40, .inl fn))]) [2] rfl
  have hDc := hD.sub (ws' := [(gn, .inl (cI, 40, .inl fn))]) [2] (by decide) rfl
  have hFc := va_free (wc := [(gn, .inl (cI, 40, .inl fn))]) hD hS hA [2] rfl
  refine va_callv (va_runS (As := [.ref gn, .int (-1)]) (rest := []) ⟨hx, hb, hml, hown, hts⟩ (c_J7_fill_53178 l dC dI cI cJ gn s.heap.size 40 fn (-1) (by decide)) (va_cwS 2 hts gX1_renumber_J7_fill_53178 rfl rfl rfl (by decide +kernel) ⟨Nat.le_of_ble_eq_true rfl, Nat.le_of_ble_eq_true rfl⟩) ⟨fun a U g mk q => by obtain ⟨q0, q1, qP, qK, qD⟩ := q; exact ⟨q0, q1, qP, va_K.moved (u := U) (U := U.calling g mk a) (Vm.Alike.refl U.vm) qK, qD⟩, fun U hU hW => ⟨rfl, by rw [hU], by rw [hU]; exact hPc, va_K.moved hW.alike hK, hDc.weaken (fun _ _ _ _ => trivial)⟩⟩ rfl rfl hl.1 rfl (lv_room (Nat.le_of_ble_eq_true rfl)) dX1_renumber_5 ⟨Nat.le_of_ble_eq_true rfl, Nat.le_of_ble_eq_true rfl⟩) hS (fun q _ h => hFc q h) hFc (fun u_2 t H1 locs ht hvm hw hB hz1 hk1 hS => ?_)
  obtain ⟨hP1, hD1⟩ := hB
  rw [ht] at hP1
  obtain ⟨hP, hD⟩ := va_join (wr := [(gr, .inr (1, [.ref gh, .ref gc, .ref gd, .ref gl, .ref gn])), (gh, .inl (cI, 40, .inl fh))]) (w1 := [(gn, .inl (cI, 40, .inl ((fun _ => (-1)))))]) hP hD [2] [0, 1] rfl rfl (by decide) (by decide) hk1 hFc hP1 hD1
  generalize H1 = H at hP hS ⊢
  have hP : va_P (dC, dI) vwCl [(gr, .inr (1, [.ref gh, .ref gc, .ref gd, .ref gl, .ref gn])), (gh, .inl (cI, 40, .inl fh)), (gn, .inl (cI, 40, .inl ((fun _ => (-1)))))] H := hP
  have hD : va_D A [(gr, .inr (1, [.ref gh, .ref gc, .ref gd, .ref gl, .ref gn])), (gh, .inl (cI, 40, .inl fh)), (gn, .inl (cI, 40, .inl ((fun _ => (-1)))))] := hD
  refine lv_iconst (v := 0) hx hb dX1_renumber_8 (by decide) ?_
  refine lv_istore_n (lv' := [(2, .int 0), (0, .ref gr), (1, .int 1)]) hx hb dX1_renumber_9 rfl hl (by decide) rfl (fun ls hl => ?_)
  refine lv_iconst (v := 0) hx hb dX1_renumber_10 (by decide) ?_
  refine lv_istore_n (lv' := [(3, .int 0), (2, .int 0), (0, .ref gr), (1, .int 1)]) hx hb dX1_renumber_11 rfl hl (by decide) rfl (fun ls hl => ?_)
  refine lv_iload_n hx hb dX1_renumber_12 rfl (lv_at hl 0 rfl) ?_
  refine lv_iload_n hx hb dX1_renumber_13 rfl (lv_at hl 3 rfl) ?_
  refine lv_icmp_ge (tgt := 66) hx hb dX1_renumber_14 (by decide) (fun c_3 => ?_) (fun c_3 => ?_)
  · exact absurd c_3 (by decide)
  refine lv_aload_n hx hb dX1_renumber_17 rfl (lv_at hl 2 rfl) ?_
  refine va_get (D := (dC, dI)) (ci := 1) (v := .ref gh) (C := RX1) (T := TX1) (N := 5) hx hb hts i_1 hown hK hP 0 rfl rfl 0 (by decide) k_1 (fun _ h9 => h9) rfl dX1_renumber_18 ?_
  refine lv_iload_n hx hb dX1_renumber_21 rfl (lv_at hl 0 rfl) ?_
  refine va_iald hx hb hK hP 1 0 rfl rfl (vp_c (by decide)) dX1_renumber_22 ?_
  refine lc_i (v := 0) hz ?_
  refine lv_istore (lv' := [(4, .int 0), (3, .int 0), (2, .int 0), (0, .ref gr), (1, .int 1)]) hx hb dX1_renumber_23 hl (by decide) rfl (fun ls hl => ?_)
  refine lv_aload_n hx hb dX1_renumber_25 rfl (lv_at hl 3 rfl) ?_
  refine va_get (D := (dC, dI)) (ci := 1) (v := .ref gn) (C := RX1) (T := TX1) (N := 5) hx hb hts i_1 hown hK hP 0 rfl rfl 4 (by decide) k_0 (fun _ h9 => h9) rfl dX1_renumber_26 ?_
  refine lv_iload hx hb dX1_renumber_29 (lv_at hl 0 rfl) ?_
  refine va_iald hx hb hK hP 2 0 rfl rfl (vp_c (by decide)) dX1_renumber_31 ?_
  refine lc_i (v := (-1)) (by first | rfl | decide) ?_
  refine lv_iconst (v := (-1)) hx hb dX1_renumber_32 (by decide) ?_
  refine lv_icmp_ne (tgt := 47) hx hb dX1_renumber_33 (by decide) (fun c_4 => ?_) (fun c_4 => ?_)
  · exact absurd c_4 (by decide)
  refine lv_aload_n hx hb dX1_renumber_36 rfl (lv_at hl 3 rfl) ?_
  refine va_get (D := (dC, dI)) (ci := 1) (v := .ref gn) (C := RX1) (T := TX1) (N := 5) hx hb hts i_1 hown hK hP 0 rfl rfl 4 (by decide) k_0 (fun _ h9 => h9) rfl dX1_renumber_37 ?_
  refine lv_iload hx hb dX1_renumber_40 (lv_at hl 0 rfl) ?_
  refine lv_iload_n hx hb dX1_renumber_42 rfl (lv_at hl 2 rfl) ?_
  refine va_iast hx hb hK hP hD hS 2 0 rfl rfl (vp_c (by decide)) dX1_renumber_43 (fun H locs hP hD hS => ?_)
  have hP : va_P (dC, dI) vwCl [(gr, .inr (1, [.ref gh, .ref gc, .ref gd, .ref gl, .ref gn])), (gh, .inl (cI, 40, .inl fh)), (gn, .inl (cI, 40, .inl (upd ((fun _ => (-1))) 0 0)))] H := hP
  have hD : va_D A [(gr, .inr (1, [.ref gh, .ref gc, .ref gd, .ref gl, .ref gn])), (gh, .inl (cI, 40, .inl fh)), (gn, .inl (cI, 40, .inl (upd ((fun _ => (-1))) 0 0)))] := hD
  refine lv_iinc (v := 1) (lv' := [(2, .int 1), (4, .int 0), (3, .int 0), (0, .ref gr), (1, .int 1)]) hx hb dX1_renumber_44 hl (k := 2) rfl (by decide) (by decide) rfl (fun ls hl => ?_)
  refine lv_aload_n hx hb dX1_renumber_47 rfl (lv_at hl 3 rfl) ?_
  refine va_get (D := (dC, dI)) (ci := 1) (v := .ref gh) (C := RX1) (T := TX1) (N := 5) hx hb hts i_1 hown hK hP 0 rfl rfl 0 (by decide) k_1 (fun _ h9 => h9) rfl dX1_renumber_48 ?_
  refine lv_iload_n hx hb dX1_renumber_51 rfl (lv_at hl 2 rfl) ?_
  refine lv_aload_n hx hb dX1_renumber_52 rfl (lv_at hl 3 rfl) ?_
  refine va_get (D := (dC, dI)) (ci := 1) (v := .ref gn) (C := RX1) (T := TX1) (N := 5) hx hb hts i_1 hown hK hP 0 rfl rfl 4 (by decide) k_0 (fun _ h9 => h9) rfl dX1_renumber_53 ?_
  refine lv_iload hx hb dX1_renumber_56 (lv_at hl 1 rfl) ?_
  refine va_iald hx hb hK hP 2 0 rfl rfl (vp_c (by decide)) dX1_renumber_58 ?_
  refine lc_i (v := 0) (by first | rfl | decide) ?_
  refine va_iast hx hb hK hP hD hS 1 0 rfl rfl (vp_c (by decide)) dX1_renumber_59 (fun H locs hP hD hS => ?_)
  have hP : va_P (dC, dI) vwCl [(gr, .inr (1, [.ref gh, .ref gc, .ref gd, .ref gl, .ref gn])), (gh, .inl (cI, 40, .inl (upd fh 0 0))), (gn, .inl (cI, 40, .inl (upd ((fun _ => (-1))) 0 0)))] H := hP
  have hD : va_D A [(gr, .inr (1, [.ref gh, .ref gc, .ref gd, .ref gl, .ref gn])), (gh, .inl (cI, 40, .inl (upd fh 0 0))), (gn, .inl (cI, 40, .inl (upd ((fun _ => (-1))) 0 0)))] := hD
  refine lv_iinc (v := 1) (lv' := [(3, .int 1), (2, .int 1), (4, .int 0), (0, .ref gr), (1, .int 1)]) hx hb dX1_renumber_60 hl (k := 2) rfl (by decide) (by decide) rfl (fun ls hl => ?_)
  refine lv_goto (tgt := 12) hx hb dX1_renumber_63 (by decide) ?_
  refine lv_iload_n hx hb dX1_renumber_12 rfl (lv_at hl 0 rfl) ?_
  refine lv_iload_n hx hb dX1_renumber_13 rfl (lv_at hl 4 rfl) ?_
  refine lv_icmp_ge (tgt := 66) hx hb dX1_renumber_14 (by decide) (fun c_5 => ?_) (fun c_5 => ?_)
  rotate_left
  · exact absurd (by decide) c_5
  refine lv_iload_n hx hb dX1_renumber_66 rfl (lv_at hl 1 rfl) ?_
  have hP9 := hP.sub (ws' := [(gr, .inr (1, [.ref gh, .ref gc, .ref gd, .ref gl, .ref gn])), (gh, .inl (cI, 40, .inl (upd fh 0 0)))]) [0, 1] rfl
  have hD9 := hD.sub (ws' := [(gr, .inr (1, [.ref gh, .ref gc, .ref gd, .ref gl, .ref gn])), (gh, .inl (cI, 40, .inl (upd fh 0 0)))]) [0, 1] (by decide) rfl
  exact W.iret (v := 1) hx hb hr (fun t ht hW => ⟨⟨_, (), rfl, rfl, by rw [ht]; exact hP9, hD9⟩, hS.F ht⟩) hS.2.2 dX1_renumber_67
end
section
set_option maxHeartbeats 4000000 in
set_option maxRecDepth 100000 in
theorem c_X2_append (l : Launch) (dC : Nat → ClassId) (dI : Nat → Nat → Nat) (cI cJ : ClassId) (t tf th tc ia : Nat) (sz : Nat) (fA : Nat → Int32) : Met l yX2_append wsX2_append ({ frames := 1, cells := 0, slots := 0, locals := 40 }) (va_Pc [.ref t, .ref ia, .long 0, .int 1, .int 1, .int 1, .int 0] (pPre dC dI cI cJ sz [(t, .inr (2, [.ref tf, .ref th, .ref tc, .int 0])), (tf, .inl (cI, 160, .inl Zi)), (th, .inl (cI, 1600, .inl Zi)), (tc, .inl (cJ, 40, .inr (.inl Zl))), (ia, .inl (cI, 40, .inl fA))])) (va_Qv (fun _ : Unit => True) (pPost dC dI (va_A [(t, .inr (2, [.ref tf, .ref th, .ref tc, .int 0])), (tf, .inl (cI, 160, .inl Zi)), (th, .inl (cI, 1600, .inl Zi)), (tc, .inl (cJ, 40, .inr (.inl Zl))), (ia, .inl (cI, 40, .inl fA))] sz) [(t, .inr (2, [.ref tf, .ref th, .ref tc, .int 1])), (ia, .inl (cI, 40, .inl fA))]) (va_A [(t, .inr (2, [.ref tf, .ref th, .ref tc, .int 0])), (tf, .inl (cI, 160, .inl Zi)), (th, .inl (cI, 1600, .inl Zi)), (tc, .inl (cJ, 40, .inr (.inl Zl))), (ia, .inl (cI, 40, .inl fA))] sz)) 0 0 (va_A [(t, .inr (2, [.ref tf, .ref th, .ref tc, .int 0])), (tf, .inl (cI, 160, .inl Zi)), (th, .inl (cI, 1600, .inl Zi)), (tc, .inl (cJ, 40, .inr (.inl Zl))), (ia, .inl (cI, 40, .inl fA))] sz) := by
  refine Met.ofW (cc := cX2_append) (maxL := 8) (ret := none) (by decide) rfl ?_
  intro p e s m args below meth c s₁ B hml hv
  obtain ⟨rfl, hsz, hP, hK, hD0⟩ := hv
  have hx := B.exec
  have hb := B.bytes
  have hr := B.returns
  have hts := atoms_spec (ws := wsX2_append) B.pre
  have hown : s.vm.findClass RX2 = some m.cls := findClass_of_methodNamed B.named
  have hlocks := B.notSynchronized
  subst hsz
  have hD := hD0.self (sz := s.heap.size)
  generalize hAe : va_A [(t, .inr (2, [.ref tf, .ref th, .ref tc, .int 0])), (tf, .inl (cI, 160, .inl Zi)), (th, .inl (cI, 1600, .inl Zi)), (tc, .inl (cJ, 40, .inr (.inl Zl))), (ia, .inl (cI, 40, .inl fA))] s.heap.size = A at hD ⊢
  have hA : ∀ q : Nat, s.heap.size ≤ q → A q := fun q h => by rw [← hAe]; exact Or.inr h
  have hS : va_S A s.heap s.heap [] := va_S.rf
  have hP : va_P (dC, dI) vwCl [(t, .inr (2, [.ref tf, .ref th, .ref tc, .int 0])), (tf, .inl (cI, 160, .inl Zi)), (th, .inl (cI, 1600, .inl Zi)), (tc, .inl (cJ, 40, .inr (.inl Zl))), (ia, .inl (cI, 40, .inl fA))] s.heap := hP
  have hl := lv_entry ([.ref t, .ref ia, .long 0, .int 1, .int 1, .int 1, .int 0]) (n := 8) (Nat.le_of_ble_eq_true rfl)
  rw [lg_entry_eq]
  generalize (lg_sl ([.ref t, .ref ia, .long 0, .int 1, .int 1, .int 1, .int 0]) ++ List.replicate (8 - (lg_sl ([.ref t, .ref ia, .long 0, .int 1, .int 1, .int 1, .int 0])).length) Slot.unset).toArray = ls at hl ⊢
  have hl : lv_has ls 8 [(0, .ref t), (1, .ref ia), (2, .long 0), (4, .int 1), (5, .int 1), (6, .int 1), (7, .int 0)] := hl
  have i_2 : ∀ w ∈ wsX20, w ∈ wsX2_append := by decide +kernel
  have k_0 := hts (.fieldLink RX2 22 "CommunityLevels$LevelTable" "size" "I") (by decide +kernel)
  have k_1 := hts (.fieldLink RX2 15 "CommunityLevels$LevelTable" "homes" "[I") (by decide +kernel)
  have k_2 := hts (.methodLink RX2 26 arraycopyName) (by decide +kernel)
  have k_3 := hts (.native arraycopyName) (by decide +kernel)
  have k_4 := hts (.static arraycopyName) (by decide +kernel)
  have k_5 := hts (.initialized "java/lang/System") (by decide +kernel)
  have k_6 := hts (.fieldLink RX2 18 "CommunityLevels$LevelTable" "scores" "[J") (by decide +kernel)
  have k_7 := hts (.fieldLink RX2 9 "CommunityLevels$LevelTable" "facts" "[I") (by decide +kernel)
  refine lv_aload_n hx hb dX2_append_0 rfl (lv_at hl 0 rfl) ?_
  refine va_get (D := (dC, dI)) (ci := 2) (v := .int 0) (C := RX2) (T := TX2) (N := 4) hx hb hts i_2 hown hK hP 0 rfl rfl 3 (by decide) k_0 (fun _ h9 => h9) rfl dX2_append_1 ?_
  refine lv_bipush (v := 40) hx hb dX2_append_4 (by decide) ?_
  refine lv_icmp_ge (tgt := 105) hx hb dX2_append_6 (by decide) (fun c_1 => ?_) (fun c_1 => ?_)
  · exact absurd c_1 (by decide)
  refine lv_aload_n hx hb dX2_append_9 rfl (lv_at hl 1 rfl) ?_
  refine lv_iconst (v := 0) hx hb dX2_append_10 (by decide) ?_
  refine lv_aload_n hx hb dX2_append_11 rfl (lv_at hl 0 rfl) ?_
  refine va_get (D := (dC, dI)) (ci := 2) (v := .ref th) (C := RX2) (T := TX2) (N := 4) hx hb hts i_2 hown hK hP 0 rfl rfl 1 (by decide) k_1 (fun _ h9 => h9) rfl dX2_append_12 ?_
  refine lv_aload_n hx hb dX2_append_15 rfl (lv_at hl 0 rfl) ?_
  refine va_get (D := (dC, dI)) (ci := 2) (v := .int 0) (C := RX2) (T := TX2) (N := 4) hx hb hts i_2 hown hK hP 0 rfl rfl 3 (by decide) k_0 (fun _ h9 => h9) rfl dX2_append_16 ?_
  refine lv_bipush (v := 40) hx hb dX2_append_19 (by decide) ?_
  refine lv_imul hx hb dX2_append_21 ?_
  refine lc_i (v := 0) (by first | rfl | decide) ?_
  refine lv_bipush (v := 40) hx hb dX2_append_22 (by decide) ?_
  refine va_copyi hx hb (by rw [hml]; exact hl.1.symm) hown k_2 k_3 k_4 k_5 hK hP hD hS 4 2 0 0 (ty := .int) rfl rfl rfl rfl rfl (by decide) (by decide) (by decide) (by decide) (by decide) (fun _ _ => rfl) (Nat.le_of_ble_eq_true rfl) (Nat.le_of_ble_eq_true rfl) dX2_append_24 (fun H locs hP hD hS => ?_)
  have hP : va_P (dC, dI) vwCl [(t, .inr (2, [.ref tf, .ref th, .ref tc, .int 0])), (tf, .inl (cI, 160, .inl Zi)), (th, .inl (cI, 1600, .inl ((va_cpy fA Zi 0 0 40)))), (tc, .inl (cJ, 40, .inr (.inl Zl))), (ia, .inl (cI, 40, .inl fA))] H := hP
  have hD : va_D A [(t, .inr (2, [.ref tf, .ref th, .ref tc, .int 0])), (tf, .inl (cI, 160, .inl Zi)), (th, .inl (cI, 1600, .inl ((va_cpy fA Zi 0 0 40)))), (tc, .inl (cJ, 40, .inr (.inl Zl))), (ia, .inl (cI, 40, .inl fA))] := hD
  refine lv_aload_n hx hb dX2_append_27 rfl (lv_at hl 0 rfl) ?_
  refine va_get (D := (dC, dI)) (ci := 2) (v := .ref tc) (C := RX2) (T := TX2) (N := 4) hx hb hts i_2 hown hK hP 0 rfl rfl 2 (by decide) k_6 (fun _ h9 => h9) rfl dX2_append_28 ?_
  refine lv_aload_n hx hb dX2_append_31 rfl (lv_at hl 0 rfl) ?_
  refine va_get (D := (dC, dI)) (ci := 2) (v := .int 0) (C := RX2) (T := TX2) (N := 4) hx hb hts i_2 hown hK hP 0 rfl rfl 3 (by decide) k_0 (fun _ h9 => h9) rfl dX2_append_32 ?_
  refine lv_lload_n hx hb dX2_append_35 rfl (lv_at hl 2 rfl) ?_
  refine va_last hx hb hK hP hD hS 3 1 rfl rfl (vp_c (by decide)) dX2_append_36 (fun H locs hP hD hS => ?_)
  have hP : va_P (dC, dI) vwCl [(t, .inr (2, [.ref tf, .ref th, .ref tc, .int 0])), (tf, .inl (cI, 160, .inl Zi)), (th, .inl (cI, 1600, .inl ((va_cpy fA Zi 0 0 40)))), (tc, .inl (cJ, 40, .inr (.inl (vp_updL Zl 0 0)))), (ia, .inl (cI, 40, .inl fA))] H := hP
  have hD : va_D A [(t, .inr (2, [.ref tf, .ref th, .ref tc, .int 0])), (tf, .inl (cI, 160, .inl Zi)), (th, .inl (cI, 1600, .inl ((va_cpy fA Zi 0 0 40)))), (tc, .inl (cJ, 40, .inr (.inl (vp_updL Zl 0 0)))), (ia, .inl (cI, 40, .inl fA))] := hD
  refine lv_aload_n hx hb dX2_append_37 rfl (lv_at hl 0 rfl) ?_
  refine va_get (D := (dC, dI)) (ci := 2) (v := .ref tf) (C := RX2) (T := TX2) (N := 4) hx hb hts i_2 hown hK hP 0 rfl rfl 0 (by decide) k_7 (fun _ h9 => h9) rfl dX2_append_38 ?_
  refine lv_aload_n hx hb dX2_append_41 rfl (lv_at hl 0 rfl) ?_
  refine va_get (D := (dC, dI)) (ci := 2) (v := .int 0) (C := RX2) (T := TX2) (N := 4) hx hb hts i_2 hown hK hP 0 rfl rfl 3 (by decide) k_0 (fun _ h9 => h9) rfl dX2_append_42 ?_
  refine lv_iconst (v := 4) hx hb dX2_append_45 (by decide) ?_
  refine lv_imul hx hb dX2_append_46 ?_
  refine lc_i (v := 0) (by first | rfl | decide) ?_
  refine lv_iload hx hb dX2_append_47 (lv_at hl 3 rfl) ?_
  refine va_iast hx hb hK hP hD hS 1 0 rfl rfl (vp_c (by decide)) dX2_append_49 (fun H locs hP hD hS => ?_)
  have hP : va_P (dC, dI) vwCl [(t, .inr (2, [.ref tf, .ref th, .ref tc, .int 0])), (tf, .inl (cI, 160, .inl (upd Zi 0 1))), (th, .inl (cI, 1600, .inl ((va_cpy fA Zi 0 0 40)))), (tc, .inl (cJ, 40, .inr (.inl (vp_updL Zl 0 0)))), (ia, .inl (cI, 40, .inl fA))] H := hP
  have hD : va_D A [(t, .inr (2, [.ref tf, .ref th, .ref tc, .int 0])), (tf, .inl (cI, 160, .inl (upd Zi 0 1))), (th, .inl (cI, 1600, .inl ((va_cpy fA Zi 0 0 40)))), (tc, .inl (cJ, 40, .inr (.inl (vp_updL Zl 0 0)))), (ia, .inl (cI, 40, .inl fA))] := hD
  refine lv_aload_n hx hb dX2_append_50 rfl (lv_at hl 0 rfl) ?_
  refine va_get (D := (dC, dI)) (ci := 2) (v := .ref tf) (C := RX2) (T := TX2) (N := 4) hx hb hts i_2 hown hK hP 0 rfl rfl 0 (by decide) k_7 (fun _ h9 => h9) rfl dX2_append_51 ?_
  refine lv_aload_n hx hb dX2_append_54 rfl (lv_at hl 0 rfl) ?_
  refine va_get (D := (dC, dI)) (ci := 2) (v := .int 0) (C := RX2) (T := TX2) (N := 4) hx hb hts i_2 hown hK hP 0 rfl rfl 3 (by decide) k_0 (fun _ h9 => h9) rfl dX2_append_55 ?_
  refine lv_iconst (v := 4) hx hb dX2_append_58 (by decide) ?_
  refine lv_imul hx hb dX2_append_59 ?_
  refine lc_i (v := 0) (by first | rfl | decide) ?_
  refine lv_iconst (v := 1) hx hb dX2_append_60 (by decide) ?_
  refine lv_iadd hx hb dX2_append_61 ?_
  refine lc_i (v := 1) (by first | rfl | decide) ?_
  refine lv_iload hx hb dX2_append_62 (lv_at hl 4 rfl) ?_
  refine va_iast hx hb hK hP hD hS 1 0 rfl rfl (vp_c (by decide)) dX2_append_64 (fun H locs hP hD hS => ?_)
  have hP : va_P (dC, dI) vwCl [(t, .inr (2, [.ref tf, .ref th, .ref tc, .int 0])), (tf, .inl (cI, 160, .inl (upd (upd Zi 0 1) 1 1))), (th, .inl (cI, 1600, .inl ((va_cpy fA Zi 0 0 40)))), (tc, .inl (cJ, 40, .inr (.inl (vp_updL Zl 0 0)))), (ia, .inl (cI, 40, .inl fA))] H := hP
  have hD : va_D A [(t, .inr (2, [.ref tf, .ref th, .ref tc, .int 0])), (tf, .inl (cI, 160, .inl (upd (upd Zi 0 1) 1 1))), (th, .inl (cI, 1600, .inl ((va_cpy fA Zi 0 0 40)))), (tc, .inl (cJ, 40, .inr (.inl (vp_updL Zl 0 0)))), (ia, .inl (cI, 40, .inl fA))] := hD
  refine lv_aload_n hx hb dX2_append_65 rfl (lv_at hl 0 rfl) ?_
  refine va_get (D := (dC, dI)) (ci := 2) (v := .ref tf) (C := RX2) (T := TX2) (N := 4) hx hb hts i_2 hown hK hP 0 rfl rfl 0 (by decide) k_7 (fun _ h9 => h9) rfl dX2_append_66 ?_
  refine lv_aload_n hx hb dX2_append_69 rfl (lv_at hl 0 rfl) ?_
  refine va_get (D := (dC, dI)) (ci := 2) (v := .int 0) (C := RX2) (T := TX2) (N := 4) hx hb hts i_2 hown hK hP 0 rfl rfl 3 (by decide) k_0 (fun _ h9 => h9) rfl dX2_append_70 ?_
  refine lv_iconst (v := 4) hx hb dX2_append_73 (by decide) ?_
  refine lv_imul hx hb dX2_append_74 ?_
  refine lc_i (v := 0) (by first | rfl | decide) ?_
  refine lv_iconst (v := 2) hx hb dX2_append_75 (by decide) ?_
  refine lv_iadd hx hb dX2_append_76 ?_
  refine lc_i (v := 2) (by first | rfl | decide) ?_
  refine lv_iload hx hb dX2_append_77 (lv_at hl 5 rfl) ?_
  refine va_iast hx hb hK hP hD hS 1 0 rfl rfl (vp_c (by decide)) dX2_append_79 (fun H locs hP hD hS => ?_)
  have hP : va_P (dC, dI) vwCl [(t, .inr (2, [.ref tf, .ref th, .ref tc, .int 0])), (tf, .inl (cI, 160, .inl (upd (upd (upd Zi 0 1) 1 1) 2 1))), (th, .inl (cI, 1600, .inl ((va_cpy fA Zi 0 0 40)))), (tc, .inl (cJ, 40, .inr (.inl (vp_updL Zl 0 0)))), (ia, .inl (cI, 40, .inl fA))] H := hP
  have hD : va_D A [(t, .inr (2, [.ref tf, .ref th, .ref tc, .int 0])), (tf, .inl (cI, 160, .inl (upd (upd (upd Zi 0 1) 1 1) 2 1))), (th, .inl (cI, 1600, .inl ((va_cpy fA Zi 0 0 40)))), (tc, .inl (cJ, 40, .inr (.inl (vp_updL Zl 0 0)))), (ia, .inl (cI, 40, .inl fA))] := hD
  refine lv_aload_n hx hb dX2_append_80 rfl (lv_at hl 0 rfl) ?_
  refine va_get (D := (dC, dI)) (ci := 2) (v := .ref tf) (C := RX2) (T := TX2) (N := 4) hx hb hts i_2 hown hK hP 0 rfl rfl 0 (by decide) k_7 (fun _ h9 => h9) rfl dX2_append_81 ?_
  refine lv_aload_n hx hb dX2_append_84 rfl (lv_at hl 0 rfl) ?_
  refine va_get (D := (dC, dI)) (ci := 2) (v := .int 0) (C := RX2) (T := TX2) (N := 4) hx hb hts i_2 hown hK hP 0 rfl rfl 3 (by decide) k_0 (fun _ h9 => h9) rfl dX2_append_85 ?_
  refine lv_iconst (v := 4) hx hb dX2_append_88 (by decide) ?_
  refine lv_imul hx hb dX2_append_89 ?_
  refine lc_i (v := 0) (by first | rfl | decide) ?_
  refine lv_iconst (v := 3) hx hb dX2_append_90 (by decide) ?_
  refine lv_iadd hx hb dX2_append_91 ?_
  refine lc_i (v := 3) (by first | rfl | decide) ?_
  refine lv_iload hx hb dX2_append_92 (lv_at hl 6 rfl) ?_
  refine va_iast hx hb hK hP hD hS 1 0 rfl rfl (vp_c (by decide)) dX2_append_94 (fun H locs hP hD hS => ?_)
  have hP : va_P (dC, dI) vwCl [(t, .inr (2, [.ref tf, .ref th, .ref tc, .int 0])), (tf, .inl (cI, 160, .inl (upd (upd (upd (upd Zi 0 1) 1 1) 2 1) 3 0))), (th, .inl (cI, 1600, .inl ((va_cpy fA Zi 0 0 40)))), (tc, .inl (cJ, 40, .inr (.inl (vp_updL Zl 0 0)))), (ia, .inl (cI, 40, .inl fA))] H := hP
  have hD : va_D A [(t, .inr (2, [.ref tf, .ref th, .ref tc, .int 0])), (tf, .inl (cI, 160, .inl (upd (upd (upd (upd Zi 0 1) 1 1) 2 1) 3 0))), (th, .inl (cI, 1600, .inl ((va_cpy fA Zi 0 0 40)))), (tc, .inl (cJ, 40, .inr (.inl (vp_updL Zl 0 0)))), (ia, .inl (cI, 40, .inl fA))] := hD
  refine lv_aload_n hx hb dX2_append_95 rfl (lv_at hl 0 rfl) ?_
  refine lv_dup hx hb dX2_append_96 rfl ?_
  refine va_get (D := (dC, dI)) (ci := 2) (v := .int 0) (C := RX2) (T := TX2) (N := 4) hx hb hts i_2 hown hK hP 0 rfl rfl 3 (by decide) k_0 (fun _ h9 => h9) rfl dX2_append_97 ?_
  refine lv_iconst (v := 1) hx hb dX2_append_100 (by decide) ?_
  refine lv_iadd hx hb dX2_append_101 ?_
  refine lc_i (v := 1) (by first | rfl | decide) ?_
  refine va_put (D := (dC, dI)) (ci := 2) (v := .int 1) (ty := .int) (C := RX2) (T := TX2) (N := 4) hx hb hts i_2 tyX2 tyX2_ok nmX2 hown hK hP hD hS 0 rfl rfl 3 (by decide) k_0 (fun _ h9 => h9) rfl (by decide +kernel) rfl rfl (Nat.le_of_ble_eq_true rfl) dX2_append_102 (fun H locs hP hD hS => ?_)
  have hP : va_P (dC, dI) vwCl [(t, .inr (2, [.ref tf, .ref th, .ref tc, .int 1])), (tf, .inl (cI, 160, .inl (upd (upd (upd (upd Zi 0 1) 1 1) 2 1) 3 0))), (th, .inl (cI, 1600, .inl ((va_cpy fA Zi 0 0 40)))), (tc, .inl (cJ, 40, .inr (.inl (vp_updL Zl 0 0)))), (ia, .inl (cI, 40, .inl fA))] H := hP
  have hD : va_D A [(t, .inr (2, [.ref tf, .ref th, .ref tc, .int 1])), (tf, .inl (cI, 160, .inl (upd (upd (upd (upd Zi 0 1) 1 1) 2 1) 3 0))), (th, .inl (cI, 1600, .inl ((va_cpy fA Zi 0 0 40)))), (tc, .inl (cJ, 40, .inr (.inl (vp_updL Zl 0 0)))), (ia, .inl (cI, 40, .inl fA))] := hD
  have hP9 := hP.sub (ws' := [(t, .inr (2, [.ref tf, .ref th, .ref tc, .int 1])), (ia, .inl (cI, 40, .inl fA))]) [0, 4] rfl
  have hD9 := hD.sub (ws' := [(t, .inr (2, [.ref tf, .ref th, .ref tc, .int 1])), (ia, .inl (cI, 40, .inl fA))]) [0, 4] (by decide) rfl
  exact W.vret hx hb hr (fun t ht hW => ⟨⟨(), rfl, trivial, by rw [ht]; exact hP9, hD9⟩, hS.F ht⟩) hS.2.2 dX2_append_105
end
section
theorem tst : (vx_atS RX4 51 "java/lang/IllegalArgumentException" ["java/lang/RuntimeException", "java/lang/Exception"]).filter (fun w => !goodWord w) = [] := by decide +kernel
end
