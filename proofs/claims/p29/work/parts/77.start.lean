/-! THE CLAIM OUT OF ONE WALK OF THE LAW'S BODY. Your part is whole_start (and what it stands on); all else here is the same for every law, but numbers. -/
def R_law : String := "HallHeatingLaw"
def lw_P (b : Addr) (xs : List Int32) (args : Array Value) (s : State) : Prop := args = #[.ref b] ∧ s.IntsAt b xs ∧ xs.length ≤ 260 ∧ (Jvm.Cond.and given_1 narrow_1).before args s = true
def lw_Q (_ : Array Value) (s : State) (o : Outcome) (t : State) : Prop := o = .returned (some (.int 1)) ∧ Framed s o t [] 600086 7301442
def lw_Z (below : List Frame) (a : Array Value) (s : State) : State → Prop := fun t => ∃ o, t.status = .running ∧ Ended t below o ∧ lw_Q a s o t
/-- the law's own end, with 1 on the stack, nothing written that was there before, its room as the claim has it -/
theorem lw_ret {p : Program} {l : Launch} {e : Env} {s : State} {m : MethodId} {below : List Frame} {meth : Method} {c : Code} {b : Nat} (hx : p.tables.exec = Jvm.exec) (hb : c.code = code) (hr : meth.sig.returnType = ret) (hlocks : meth.locks = false) {pc : Nat} {H : Heap} {ls : Array Slot} (hdg : decode code pc = .ok (.ireturn, 1)) : W p l e room_1 s m #[Value.ref b] below meth c H [] 600086 7301442 (lw_Z below #[Value.ref b] s) (F0 m pc ls [.int 1]) := by
  intro T hT X
  obtain ⟨fs, hret, hrun, hended, hW, hframe⟩ := X.leave (v := some (.int 1)) (hlocks := hlocks) (fun h => by rw [hr] at h; cases h)
  have hmeth' : T.vm.method? m = some meth := X.method'
  refine ⟨T.setFrames fs, ?_, .returned (some (.int 1)), hrun, hended, rfl, ⟨_, rfl⟩, hW, hframe⟩
  jvm_step X.here [X.here.top, hx, hb, hdg, hmeth', hr, ret, narrow_b1]
  (try refine ⟨rfl, ?_⟩); (try refine ⟨rfl, ?_⟩)
  first | (intro acts; rw [hret _ acts rfl rfl rfl]) | rw [hret _ _ rfl rfl rfl]
  exact Steps.refl _
/-- what holds at the law's entry: the machine, the code, the tables' words (any of lw_tbl by 'hts w (by decide +kernel)'), the script of L ints xs at the cell b, what the Statement gives of the start (any of its parts by flat_of_before) -/
def lw_At (p : Program) (s : State) (m : MethodId) (meth : Method) (c : Code) (b L : Nat) (xs : Nat → Int32) : Prop :=
  p.tables.exec = Jvm.exec ∧ c.code = code ∧ meth.sig.returnType = ret ∧ c.maxLocals = 7 ∧ s.vm.findClass R_law = some m.cls ∧ (∀ w ∈ lw_tbl, w.before #[Value.ref b] s = true) ∧ va_X b L xs s s.heap ∧ b < s.heap.size ∧ meth.locks = false ∧ (Jvm.Cond.and given_1 narrow_1).before #[Value.ref b] s = true
/-- what the launch and the tables give at the start -/
theorem law_EX {s : State} {b : Nat} (hts : ∀ w ∈ lw_tbl, w.before #[Value.ref b] s = true) (hgv : (Jvm.Cond.and given_1 narrow_1).before #[Value.ref b] s = true) : EX s := by
  have hg := flat_of_before _ hgv
  refine ⟨fun w hw => ?_, ?_, ?_, ?_⟩
  · obtain ⟨h1, h2⟩ := List.mem_filter.mp hw
    have h3 := hts w h1
    cases w <;> first | exact va_Nw.of rfl h3 | (simp [shpW] at h2)
  · exact List.forall_mem_cons.mpr ⟨by
      obtain ⟨a, -, -, -, ha, -⟩ := Cond.exactly_spec (hg _ (by decide +kernel : Cond.exactly (Term.string RX6 262) "java/lang/String" ∈ flatC (Jvm.Cond.and given_1 narrow_1)))
      exact ⟨a, vk_R.of (hts _ (List.mem_append_right _ (List.mem_of_getElem? (i := 482) (by decide +kernel)))) ha⟩, List.forall_mem_cons.mpr ⟨by
      obtain ⟨a, -, -, -, ha, -⟩ := Cond.exactly_spec (hg _ (by decide +kernel : Cond.exactly (Term.string RX6 61) "java/lang/String" ∈ flatC (Jvm.Cond.and given_1 narrow_1)))
      exact ⟨a, vk_R.of (hts _ (List.mem_append_right _ (List.mem_of_getElem? (i := 843) (by decide +kernel)))) ha⟩, List.forall_mem_cons.mpr ⟨by
      obtain ⟨a, -, -, -, ha, -⟩ := Cond.exactly_spec (hg _ (by decide +kernel : Cond.exactly (Term.string RX6 74) "java/lang/String" ∈ flatC (Jvm.Cond.and given_1 narrow_1)))
      exact ⟨a, vk_R.of (hts _ (List.mem_append_right _ (List.mem_of_getElem? (i := 369) (by decide +kernel)))) ha⟩, List.forall_mem_cons.mpr ⟨by
      obtain ⟨a, -, -, -, ha, -⟩ := Cond.exactly_spec (hg _ (by decide +kernel : Cond.exactly (Term.string RX6 266) "java/lang/String" ∈ flatC (Jvm.Cond.and given_1 narrow_1)))
      exact ⟨a, vk_R.of (hts _ (List.mem_append_right _ (List.mem_of_getElem? (i := 510) (by decide +kernel)))) ha⟩, List.forall_mem_cons.mpr ⟨by
      obtain ⟨a, -, -, -, ha, -⟩ := Cond.exactly_spec (hg _ (by decide +kernel : Cond.exactly (Term.string RX6 272) "java/lang/String" ∈ flatC (Jvm.Cond.and given_1 narrow_1)))
      exact ⟨a, vk_R.of (hts _ (List.mem_append_right _ (List.mem_of_getElem? (i := 561) (by decide +kernel)))) ha⟩, List.forall_mem_cons.mpr ⟨by
      obtain ⟨a, -, -, -, ha, -⟩ := Cond.exactly_spec (hg _ (by decide +kernel : Cond.exactly (Term.string RX6 277) "java/lang/String" ∈ flatC (Jvm.Cond.and given_1 narrow_1)))
      exact ⟨a, vk_R.of (hts _ (List.mem_append_right _ (List.mem_of_getElem? (i := 580) (by decide +kernel)))) ha⟩, List.forall_mem_cons.mpr ⟨by
      obtain ⟨a, -, -, -, ha, -⟩ := Cond.exactly_spec (hg _ (by decide +kernel : Cond.exactly (Term.string RX6 126) "java/lang/String" ∈ flatC (Jvm.Cond.and given_1 narrow_1)))
      exact ⟨a, vk_R.of (hts _ (List.mem_append_right _ (List.mem_of_getElem? (i := 643) (by decide +kernel)))) ha⟩, List.forall_mem_cons.mpr ⟨by
      obtain ⟨a, -, -, -, ha, -⟩ := Cond.exactly_spec (hg _ (by decide +kernel : Cond.exactly (Term.string RX6 138) "java/lang/String" ∈ flatC (Jvm.Cond.and given_1 narrow_1)))
      exact ⟨a, vk_R.of (hts _ (List.mem_append_right _ (List.mem_of_getElem? (i := 658) (by decide +kernel)))) ha⟩, List.forall_mem_cons.mpr ⟨by
      obtain ⟨a, -, -, -, ha, -⟩ := Cond.exactly_spec (hg _ (by decide +kernel : Cond.exactly (Term.string RX6 152) "java/lang/String" ∈ flatC (Jvm.Cond.and given_1 narrow_1)))
      exact ⟨a, vk_R.of (hts _ (List.mem_append_right _ (List.mem_of_getElem? (i := 672) (by decide +kernel)))) ha⟩, List.forall_mem_cons.mpr ⟨by
      obtain ⟨a, -, -, -, ha, -⟩ := Cond.exactly_spec (hg _ (by decide +kernel : Cond.exactly (Term.string RX6 161) "java/lang/String" ∈ flatC (Jvm.Cond.and given_1 narrow_1)))
      exact ⟨a, vk_R.of (hts _ (List.mem_append_right _ (List.mem_of_getElem? (i := 692) (by decide +kernel)))) ha⟩, List.forall_mem_cons.mpr ⟨by
      obtain ⟨a, -, -, -, ha, -⟩ := Cond.exactly_spec (hg _ (by decide +kernel : Cond.exactly (Term.string RX6 169) "java/lang/String" ∈ flatC (Jvm.Cond.and given_1 narrow_1)))
      exact ⟨a, vk_R.of (hts _ (List.mem_append_right _ (List.mem_of_getElem? (i := 704) (by decide +kernel)))) ha⟩, List.forall_mem_cons.mpr ⟨by
      obtain ⟨a, -, -, -, ha, -⟩ := Cond.exactly_spec (hg _ (by decide +kernel : Cond.exactly (Term.string RX6 181) "java/lang/String" ∈ flatC (Jvm.Cond.and given_1 narrow_1)))
      exact ⟨a, vk_R.of (hts _ (List.mem_append_right _ (List.mem_of_getElem? (i := 734) (by decide +kernel)))) ha⟩, List.forall_mem_cons.mpr ⟨by
      obtain ⟨a, -, -, -, ha, -⟩ := Cond.exactly_spec (hg _ (by decide +kernel : Cond.exactly (Term.string RX6 192) "java/lang/String" ∈ flatC (Jvm.Cond.and given_1 narrow_1)))
      exact ⟨a, vk_R.of (hts _ (List.mem_append_right _ (List.mem_of_getElem? (i := 870) (by decide +kernel)))) ha⟩, List.forall_mem_cons.mpr ⟨by
      obtain ⟨a, -, -, -, ha, -⟩ := Cond.exactly_spec (hg _ (by decide +kernel : Cond.exactly (Term.string RX6 227) "java/lang/String" ∈ flatC (Jvm.Cond.and given_1 narrow_1)))
      exact ⟨a, vk_R.of (hts _ (List.mem_append_right _ (List.mem_of_getElem? (i := 772) (by decide +kernel)))) ha⟩, List.forall_mem_cons.mpr ⟨by
      obtain ⟨a, -, -, -, ha, -⟩ := Cond.exactly_spec (hg _ (by decide +kernel : Cond.exactly (Term.string RX6 279) "java/lang/String" ∈ flatC (Jvm.Cond.and given_1 narrow_1)))
      exact ⟨a, vk_R.of (hts _ (List.mem_append_right _ (List.mem_of_getElem? (i := 438) (by decide +kernel)))) ha⟩, List.forall_mem_cons.mpr ⟨by
      obtain ⟨a, -, -, -, ha, -⟩ := Cond.exactly_spec (hg _ (by decide +kernel : Cond.exactly (Term.string RX6 260) "java/lang/String" ∈ flatC (Jvm.Cond.and given_1 narrow_1)))
      exact ⟨a, vk_R.of (hts _ (List.mem_append_right _ (List.mem_of_getElem? (i := 453) (by decide +kernel)))) ha⟩, fun _ h => absurd h List.not_mem_nil⟩⟩⟩⟩⟩⟩⟩⟩⟩⟩⟩⟩⟩⟩⟩⟩
  · exact List.forall_mem_cons.mpr ⟨va_AO.of (A := #[Value.ref b]) (hts _ (List.mem_append_right _ (List.mem_of_getElem? (i := 52) (by decide +kernel)))), List.forall_mem_cons.mpr ⟨va_AO.of (A := #[Value.ref b]) (hts _ (List.mem_append_right _ (List.mem_of_getElem? (i := 54) (by decide +kernel)))), List.forall_mem_cons.mpr ⟨va_AO.of (A := #[Value.ref b]) (hts _ (List.mem_append_right _ (List.mem_of_getElem? (i := 182) (by decide +kernel)))), fun _ h => absurd h List.not_mem_nil⟩⟩⟩
  · have k : ∀ C C', Cond.not (.castable C C') ∈ flatC (Jvm.Cond.and given_1 narrow_1) → va_Nc C C' s := fun C C' h => va_Nc.of (hg _ h)
    have h1 := k eA eS (by decide +kernel)
    have h2 := k eA eI (by decide +kernel)
    have h3 := k eS eA (by decide +kernel)
    have h4 := k eS eI (by decide +kernel)
    have h5 := k eI eA (by decide +kernel)
    have h6 := k eI eS (by decide +kernel)
    intro C hC C' hC' hne
    have q : ∀ X ∈ exN, X = eA ∨ X = eS ∨ X = eI := fun X hX => by simpa [exN] using hX
    rcases q C hC with rfl | rfl | rfl <;> rcases q C' hC' with rfl | rfl | rfl <;> first | exact absurd rfl hne | assumption
theorem law_ZQ {s : State} {b : Nat} (hts : ∀ w ∈ lw_tbl, w.before #[Value.ref b] s = true) (hgv : (Jvm.Cond.and given_1 narrow_1).before #[Value.ref b] s = true) : ZQ (fun q => s.heap.size ≤ q) s s.heap := by
  have hg := flat_of_before _ hgv
  exact ⟨vx_Zqof (hts _ (List.mem_append_right _ (List.mem_of_getElem? (i := 355) (by decide +kernel)))) (hts _ (List.mem_append_right _ (List.mem_of_getElem? (i := 8) (by decide +kernel)))) (hg _ (by decide +kernel)) (fun a h => Nat.not_le.mpr h), vx_Zqof (hts _ (List.mem_append_right _ (List.mem_of_getElem? (i := 357) (by decide +kernel)))) (hts _ (List.mem_append_right _ (List.mem_of_getElem? (i := 8) (by decide +kernel)))) (hg _ (by decide +kernel)) (fun a h => Nat.not_le.mpr h)⟩
theorem law_K {s : State} {b : Nat} (hts : ∀ w ∈ lw_tbl, w.before #[Value.ref b] s = true) (hE : EX s) : ∃ (D : va_G) (cs : Nat → ClassId), va_K D vwCl (tyl cs) s := by
  have hT : ∀ w ∈ TT, w.before #[Value.ref b] s = true := fun w hw => hts w (List.mem_filter.mp hw).1
  have hu : ∀ ci, ci < 7 → ∃ cC iS, u_Kn s (clR ci) (clT ci) (nF ci) cC iS := fun ci h => u_known (n := nF ci) hT (cl_in h) (hT _ (cl_7 (P := fun ci => Cond.instantiable (clR ci) (nF ci) ∈ TT) ins_X0 ins_X1 ins_X2 ins_X3 ins_X4 ins_X5 ins_X6 h))
  obtain ⟨c0, i0, -⟩ := hu 0 (by decide)
  have hv : ∀ ci, ∃ q : ClassId × (Nat → Nat), ci < 7 → u_Kn s (clR ci) (clT ci) (nF ci) q.1 q.2 := fun ci => by
    by_cases h : ci < 7
    · obtain ⟨c, i, hc⟩ := hu ci h
      exact ⟨(c, i), fun _ => hc⟩
    · exact ⟨(c0, i0), fun z => absurd z h⟩
  obtain ⟨f, hf⟩ := Classical.axiomOfChoice hv
  have ha : ∀ ty, Cond.arrayClass ty ∈ TT → ∃ cA kA comp, s.vm.findClass ("[" ++ ty.toString) = some cA ∧ s.vm.classes[cA]? = some kA ∧ kA.kind = .array comp ty := fun ty h => Cond.arrayClass_spec (hT _ h)
  have ho : ∀ C, C ∈ aoW → ∃ cA, ArrOfT s cA (.object C) ∧ va_RA s cA (.object C) := fun C hC => by
    obtain ⟨comp, cA, kA, h1, -, h3, h4, h5⟩ := Cond.arrayOver_spec (va_AO.use (A := #[Value.ref b]) (hE.2.2.1 C hC))
    exact ⟨cA, fun n z => ⟨fun k h => (by cases h), kA, h3, comp, h4⟩, kA, comp, h3, h4, h1, h5⟩
  obtain ⟨a0, k0, p0, x0, y0, z0⟩ := ha .int ar_int
  obtain ⟨a1, k1, p1, x1, y1, z1⟩ := ha .boolean ar_boolean
  obtain ⟨a3, q3⟩ := ho RX5 (by decide +kernel)
  obtain ⟨a4, q4⟩ := ho RX0 (by decide +kernel)
  obtain ⟨a5, q5⟩ := ho RX2 (by decide +kernel)
  refine ⟨(fun ci => (f ci).1, fun ci => (f ci).2), fun k => if k = 0 then a0 else if k = 1 then a1 else if k = 2 then a0 else if k = 3 then a3 else if k = 4 then a4 else a5, fun k q hq => ?_, fun k q hq => ?_⟩
  · match k, hq with
    | 0, hq => cases hq; exact hf 0 (by decide)
    | 1, hq => cases hq; exact hf 1 (by decide)
    | 2, hq => cases hq; exact hf 2 (by decide)
    | 3, hq => cases hq; exact hf 3 (by decide)
    | 4, hq => cases hq; exact hf 4 (by decide)
    | 5, hq => cases hq; exact hf 5 (by decide)
    | 6, hq => cases hq; exact hf 6 (by decide)
    | k + 7, hq => simp at hq
  · match k, hq with
    | 0, hq => cases hq; exact ⟨fun n z => ⟨fun k h => (by cases h), k0, y0, p0, z0⟩, x0⟩
    | 1, hq => cases hq; exact ⟨fun n z => ⟨fun k h => (by cases h), k1, y1, p1, z1⟩, x1⟩
    | 2, hq => cases hq; exact ⟨fun n z => ⟨fun k h => (by cases h), k0, y0, p0, z0⟩, x0⟩
    | 3, hq => cases hq; exact q3
    | 4, hq => cases hq; exact q4
    | 5, hq => cases hq; exact q5
    | k + 6, hq => simp at hq
/-- what stands in a larger room stands in a smaller one -/
theorem room_le {s : State} {pl : Platform} {R R2 : Room} (h : s.hasRoom pl R = true) (h1 : R2.frames ≤ R.frames) (h2 : R2.cells ≤ R.cells) (h3 : R2.slots ≤ R.slots) (h4 : R2.locals ≤ R.locals) : s.hasRoom pl R2 = true := by
  simp only [State.hasRoom, Bool.and_eq_true, decide_eq_true_eq] at h ⊢
  obtain ⟨⟨⟨⟨a, b1, b2, b3, b4, b5⟩, c⟩, d⟩, e⟩ := h
  exact ⟨⟨⟨⟨by omega, by omega, by omega, by omega, by omega, b5⟩, by omega⟩, by omega⟩, e⟩
theorem W.smaller {p : Program} {l : Launch} {e : Env} {R R2 : Room} {s : State} {m : MethodId} {args : Array Value} {below : List Frame} {meth : Method} {c : Code} {H : Heap} {locs : List Loc} {cells slots : Nat} {Q : State → Prop} {g : JFrame} (h1 : R2.frames ≤ R.frames) (h2 : R2.cells ≤ R.cells) (h3 : R2.slots ≤ R.slots) (h4 : R2.locals ≤ R.locals) (h : W p l e R2 s m args below meth c H locs cells slots Q g) : W p l e R s m args below meth c H locs cells slots Q g := fun T hT X => h T hT ⟨X.admits, X.cas, X.clock, X.frames, room_le X.room h1 h2 h3 h4, X.hears, X.method, X.code, X.here, X.tail, X.warmed, X.limits, X.bytes, X.same⟩
/-- the law's own end, in any room -/
theorem lw_retR {p : Program} {l : Launch} {e : Env} {R : Room} {s : State} {m : MethodId} {below : List Frame} {meth : Method} {c : Code} {b : Nat} (hx : p.tables.exec = Jvm.exec) (hb : c.code = code) (hr : meth.sig.returnType = ret) (hlocks : meth.locks = false) {pc : Nat} {H : Heap} {ls : Array Slot} (hdg : decode code pc = .ok (.ireturn, 1)) : W p l e R s m #[Value.ref b] below meth c H [] 600086 7301442 (lw_Z below #[Value.ref b] s) (F0 m pc ls [.int 1]) := by
  intro T hT X
  obtain ⟨fs, hret, hrun, hended, hW, hframe⟩ := X.leave (v := some (.int 1)) (hlocks := hlocks) (fun h => by rw [hr] at h; cases h)
  have hmeth' : T.vm.method? m = some meth := X.method'
  refine ⟨T.setFrames fs, ?_, .returned (some (.int 1)), hrun, hended, rfl, ⟨_, rfl⟩, hW, hframe⟩
  jvm_step X.here [X.here.top, hx, hb, hdg, hmeth', hr, ret, narrow_b1]
  (try refine ⟨rfl, ?_⟩); (try refine ⟨rfl, ?_⟩)
  first | (intro acts; rw [hret _ acts rfl rfl rfl]) | rw [hret _ _ rfl rfl rfl]
  exact Steps.refl _
