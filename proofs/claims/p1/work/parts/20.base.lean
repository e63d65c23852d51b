abbrev Zi : Nat → Int32 := fun _ => 0
abbrev Zl : Nat → Int64 := fun _ => 0
/-- a contract's start: the cells, the classes, the two array classes -/
abbrev pPre (dC : Nat → ClassId) (dI : Nat → Nat → Nat) (cI cJ : ClassId) (sz : Nat) (ws : va_W) : State → Prop := fun U => U.heap.size = sz ∧ va_P (dC, dI) vwCl ws U.heap ∧ va_K (dC, dI) vwCl [(cI, .int), (cJ, .long)] U ∧ va_D (fun _ => True) ws
/-- .. and its end -/
abbrev pPost (dC : Nat → ClassId) (dI : Nat → Nat → Nat) (A : Nat → Prop) (ws' : va_W) : Unit → State → Prop := fun _ t => va_P (dC, dI) vwCl ws' t.heap ∧ va_D A ws'
theorem vp_c {i : Int32} {n : Nat} (h : ¬ (i < 0 ∨ n ≤ i.toNatClampNeg)) : vp_in i n := h
section BASE
variable {p : Program} {l : Launch} {e : Env} {R : Room} {s : State} {m : MethodId} {args : Array Value} {below : List Frame} {meth : Method} {c : Code} {H : Heap} {locs : List Loc} {cells slots : Nat} {Q : State → Prop}
variable {cc : ByteArray} {pc : Nat} {ls : Array Slot} {rest : List Value} {D : va_G} {cl : List vw_C} {A : Nat → Prop} {ws : va_W} {H0 : Heap} {cI cJ : ClassId}
theorem lc_i {x v : Int32} (h : x = v) (k : W p l e R s m args below meth c H locs cells slots Q (F0 m pc ls (.int v :: rest))) : W p l e R s m args below meth c H locs cells slots Q (F0 m pc ls (.int x :: rest)) := by subst h; exact k
theorem lc_l {x v : Int64} (h : x = v) (k : W p l e R s m args below meth c H locs cells slots Q (F0 m pc ls (.long v :: rest))) : W p l e R s m args below meth c H locs cells slots Q (F0 m pc ls (.long x :: rest)) := by subst h; exact k
/-- a new row of ints; its class is the one that is known -/
theorem vn_I {N' : Nat} {n : Int32} (hx : p.tables.exec = Jvm.exec) (hb : c.code = cc) (harr : (Cond.arrayClass .int).before args s = true) (hK : va_K D cl [(cI, .int), (cJ, .long)] s) (hP : va_P D cl ws H) (hD : va_D A ws) (hS : va_S A H0 H locs) (hA : ∀ q, H0.size ≤ q → A q)
    (hn : ¬ n < 0) (hN : n.toNatClampNeg = N') (hby : N' * componentBytes .int ≤ 536870912) (hc : cells + 1 ≤ R.cells) (hs : slots + N' ≤ R.slots) (hdg : decode cc pc = .ok (.newarray .int, 2))
    (kk : ∀ (q : Nat) (H1 : Heap), va_P D cl (ws ++ [(q, .inl (cI, N', .inl Zi))]) H1 → va_D A (ws ++ [(q, .inl (cI, N', .inl Zi))]) → va_S A H0 H1 locs → W p l e R s m args below meth c H1 locs (cells + 1) (slots + N') Q (F0 m (pc + 2) ls (.ref q :: rest))) : W p l e R s m args below meth c H locs cells slots Q (F0 m pc ls (.int n :: rest)) := by
  refine va_newa (atype := .int) hx hb (show (Cond.arrayClass (newarray.typeOf .int)).before args s = true from harr) (ty := .int) rfl hK hP hD hS hA (a0 := (N', .inl Zi)) (fun cA => by rw [vp_cell_i]; rfl) hn hN hby hc hs hdg (fun q cA H1 hK1 hP1 hD1 hS1 => ?_)
  have h1 : s.vm.findClass ("[" ++ FieldType.int.toString) = some cI := (hK1.2 0 _ rfl).2
  have h2 : s.vm.findClass ("[" ++ FieldType.int.toString) = some cA := (hK1.2 2 _ rfl).2
  cases Option.some.inj (h1.symm.trans h2)
  exact kk q H1 hP1 hD1 hS1
/-- a new row of longs -/
theorem vn_J {N' : Nat} {n : Int32} (hx : p.tables.exec = Jvm.exec) (hb : c.code = cc) (harr : (Cond.arrayClass .long).before args s = true) (hK : va_K D cl [(cI, .int), (cJ, .long)] s) (hP : va_P D cl ws H) (hD : va_D A ws) (hS : va_S A H0 H locs) (hA : ∀ q, H0.size ≤ q → A q)
    (hn : ¬ n < 0) (hN : n.toNatClampNeg = N') (hby : N' * componentBytes .long ≤ 536870912) (hc : cells + 1 ≤ R.cells) (hs : slots + N' ≤ R.slots) (hdg : decode cc pc = .ok (.newarray .long, 2))
    (kk : ∀ (q : Nat) (H1 : Heap), va_P D cl (ws ++ [(q, .inl (cJ, N', .inr (.inl Zl)))]) H1 → va_D A (ws ++ [(q, .inl (cJ, N', .inr (.inl Zl)))]) → va_S A H0 H1 locs → W p l e R s m args below meth c H1 locs (cells + 1) (slots + N') Q (F0 m (pc + 2) ls (.ref q :: rest))) : W p l e R s m args below meth c H locs cells slots Q (F0 m pc ls (.int n :: rest)) := by
  refine va_newa (atype := .long) hx hb (show (Cond.arrayClass (newarray.typeOf .long)).before args s = true from harr) (ty := .long) rfl hK hP hD hS hA (a0 := (N', .inr (.inl Zl))) (fun cA => by rw [vp_cell_l]; rfl) hn hN hby hc hs hdg (fun q cA H1 hK1 hP1 hD1 hS1 => ?_)
  have h1 : s.vm.findClass ("[" ++ FieldType.long.toString) = some cJ := (hK1.2 1 _ rfl).2
  have h2 : s.vm.findClass ("[" ++ FieldType.long.toString) = some cA := (hK1.2 2 _ rfl).2
  cases Option.some.inj (h1.symm.trans h2)
  exact kk q H1 hP1 hD1 hS1
/-- a loop that counts i up to N; x is what it changes beside -/
theorem lq_loop {α : Type} {nL : Nat} (wsf : α → va_W) (lvf : Nat → α → List (Nat × Value)) (Inv : Nat → α → Prop) (N : Nat) (x0 : α) (i0 : Nat) (h0 : Inv i0 x0) (hi : i0 ≤ N)
    (hP : va_P D cl (wsf x0) H) (hD : va_D A (wsf x0)) (hS : va_S A H0 H locs) (hl : lv_has ls nL (lvf i0 x0))
    (hexit : ∀ (x : α) (H : Heap) (locs : List Loc) (ls : Array Slot), Inv N x → va_P D cl (wsf x) H → va_D A (wsf x) → va_S A H0 H locs → lv_has ls nL (lvf N x) → W p l e R s m args below meth c H locs cells slots Q (F0 m pc ls []))
    (hstep : ∀ (i : Nat) (x : α) (H : Heap) (locs : List Loc) (ls : Array Slot), i < N → Inv i x → va_P D cl (wsf x) H → va_D A (wsf x) → va_S A H0 H locs → lv_has ls nL (lvf i x) →
      (∀ (x' : α) (H' : Heap) (locs' : List Loc) (ls' : Array Slot), Inv (i + 1) x' → va_P D cl (wsf x') H' → va_D A (wsf x') → va_S A H0 H' locs' → lv_has ls' nL (lvf (i + 1) x') → W p l e R s m args below meth c H' locs' cells slots Q (F0 m pc ls' [])) →
      W p l e R s m args below meth c H locs cells slots Q (F0 m pc ls [])) :
    W p l e R s m args below meth c H locs cells slots Q (F0 m pc ls []) := by
  have key : ∀ (n i : Nat), i + n = N → ∀ (x : α) (H : Heap) (locs : List Loc) (ls : Array Slot), Inv i x → va_P D cl (wsf x) H → va_D A (wsf x) → va_S A H0 H locs → lv_has ls nL (lvf i x) → W p l e R s m args below meth c H locs cells slots Q (F0 m pc ls []) := by
    intro n
    induction n with
    | zero =>
      intro i hn x H locs ls hI hP hD hS hl
      have hn : i = N := by omega
      subst hn
      exact hexit x H locs ls hI hP hD hS hl
    | succ n ih =>
      intro i hn x H locs ls hI hP hD hS hl
      exact hstep i x H locs ls (by omega) hI hP hD hS hl (fun x' H' locs' ls' => ih (i + 1) (by omega) x' H' locs' ls')
  exact key (N - i0) i0 (by omega) x0 H locs ls h0 hP hD hS hl
end BASE
/-- rows that agree below their length are one -/
theorem ar_eq {D : va_G} {cl : List vw_C} {H : Heap} {a n : Nat} {cA : ClassId} {f g : Nat → Int32} (h : ∀ j, j < n → f j = g j) : va_at D cl (a, .inl (cA, n, .inl f)) H → va_at D cl (a, .inl (cA, n, .inl g)) H := by
  intro hq
  show H[a]? = some (vp_cell cA (n, .inl g))
  have e : vp_cell cA (n, .inl f) = vp_cell cA (n, .inl g) := by
    rw [vp_cell_i, vp_cell_i]
    unfold arrV
    have e2 : (fun j : Fin n => Value.int (f j.val)) = fun j : Fin n => Value.int (g j.val) := funext fun j => by rw [h j.val j.isLt]
    rw [e2]
  rw [← e]
  exact hq
theorem fl_inv {f : Nat → Int32} {v : Int32} {i : Nat} (hI : ∀ j, j < i → f j = v) : ∀ j, j < i + 1 → upd f i v j = v := fun j hj => by
  by_cases h : j = i
  · subst h
    exact pk_us
  · rw [pk_un h]
    exact hI j (by omega)
/-- words of a throw that no step keeps by itself -/
def vzB : List Cond := [.declares (Bundle.initS "java/lang/RuntimeException"), .declares (Bundle.initS "java/lang/Exception"), .declares (Bundle.initS "java/lang/Throwable"), .castable "java/lang/IllegalArgumentException" "java/lang/IllegalArgumentException", .castable "java/lang/IndexOutOfBoundsException" "java/lang/IndexOutOfBoundsException"]
/-- the class's texts, by their places -/
def vzS : List (Nat × String) := [(49, "there are 1 to 40 nodes"), (67, "a weight is not below 0"), (79, "the sum of all weights is below 2^29"), (146, "what is 0 .. 4"), (152, "there is no such node"), (154, "a community's number is 0 .. N - 1"), (156, "there is no such level"), (158, "there is no such move among the first 400"), (160, "what is 0 .. 3")]
theorem vz_on : ∀ w ∈ vzB, w.onTables = true := by decide +kernel
theorem vz_bad (w : Cond) (h : w ∈ vzB) : ∀ {A : Array Value} {U : State}, va_Nw w U → w.before A U = true := fun {_ _} hn => hn.use (vz_on w h)
theorem vz_warm {s U : State} (hW : s.WarmedH U.vm) : ∀ w ∈ vzB, va_Nw w s → va_Nw w U := by
  intro w h
  simp only [vzB, List.mem_cons, List.mem_nil_iff, or_false] at h
  rcases h with rfl | rfl | rfl | rfl | rfl
  · exact va_Nw.warmD hW
  · exact va_Nw.warmD hW
  · exact va_Nw.warmD hW
  · exact va_Nw.warmC hW
  · exact va_Nw.warmC hW
/-- what a throw needs of the start: the two statics of Throwable outside A, those words, the texts -/
def vz (A : Nat → Prop) (U : State) (H : Heap) : Prop := vx_Zq Bundle.tN "UNASSIGNED_STACK" Bundle.steD A U H ∧ vx_Zq Bundle.tN "SUPPRESSED_SENTINEL" Bundle.listD A U H ∧ (∀ w ∈ vzB, va_Nw w U) ∧ va_Nc "java/lang/IllegalArgumentException" "java/lang/IndexOutOfBoundsException" U ∧ ∀ x ∈ vzS, ∃ sa, vk_R RX4 x.1 x.2 sa U
theorem vz.moved {A : Nat → Prop} {s U : State} {H : Heap} (h : vz A s H) (hW : s.WarmedH U.vm) : vz A U H := ⟨h.1.moved hW.alike, h.2.1.moved hW.alike, fun w hw => vz_warm hW w hw (h.2.2.1 w hw), h.2.2.2.1.moved hW.alike, fun x hx => (h.2.2.2.2 x hx).imp fun _ hr => vk_R.warm hW hr⟩
theorem vz.kept {A : Nat → Prop} {U : State} {H H1 : Heap} (h : vz A U H) (hq : ∀ a : Nat, a < H.size → ¬ A a → H1[a]? = H[a]?) : vz A U H1 := ⟨h.1.kept hq, h.2.1.kept hq, h.2.2⟩
theorem vz.narrow {A B : Nat → Prop} {U : State} {H : Heap} (h : vz A U H) (hAB : ∀ q, B q → A q) : vz B U H := ⟨h.1.narrow hAB, h.2.1.narrow hAB, h.2.2⟩
/-- the start of a contract of a method that throws -/
abbrev pPreX (dC : Nat → ClassId) (dI : Nat → Nat → Nat) (cI cJ : ClassId) (sz : Nat) (ws : va_W) : State → Prop := fun U => U.heap.size = sz ∧ va_P (dC, dI) vwCl ws U.heap ∧ va_K (dC, dI) vwCl [(cI, .int), (cJ, .long)] U ∧ va_D (fun _ => True) ws ∧ vz (va_A ws sz) U U.heap
