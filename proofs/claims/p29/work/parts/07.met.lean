/-! CONTRACTS over the abstract world: from σ with these arguments the method returns a value, and leaves a world, of P, or throws by X. -/
abbrev PT : Type := Sg → Option Value → Prop
abbrev XT : Type := Sg → String → Prop
def QP (D : va_G) (cs : Nat → ClassId) (a0 n : Nat) (A : Nat → Prop) (P : PT) : Array Value → State → Outcome → State → Prop := fun _ st oc t =>
  (∃ (r : Option Value) (σ : Sg), oc = .returned (r.map (cv a0)) ∧ P σ r ∧ Wd D cs a0 n σ t.heap) ∧ va_F A st t
def QX (D : va_G) (cs : Nat → ClassId) (a0 n : Nat) (A : Nat → Prop) (X : XT) : String → State → State → Prop := fun E st t =>
  (∃ σ : Sg, X σ E ∧ E ∈ exN ∧ Wd D cs a0 n σ t.heap) ∧ va_F A st t
def Ct (y : MethodName) (cc : ByteArray) (M : MT) (d mc ms n : Nat) (z : Bool) (σ : Sg) (av : List Value) (n' : Nat) (P : PT) (X : XT) : Prop :=
  ∀ (l : Launch), l.stackTraces = false → ∀ (D : va_G) (cs : Nat → ClassId) (a0 sz : Nat),
    vx_Met l y (.code y cc M.1 M.2.1 :: TT) (rmk d mc ms) (va_Pc (av.map (cv a0)) (fun U => U.heap.size = sz ∧ Pre D cs a0 n z σ U)) (QP D cs a0 n' (Wa a0 n sz) P) (QX D cs a0 n' (Wa a0 n sz) X) mc ms (Wa a0 n sz)
/-- the same of a method with a table of its own -/
def CtH (y : MethodName) (cc : ByteArray) (M : MT) (d mc ms n : Nat) (z : Bool) (σ : Sg) (av : List Value) (n' : Nat) (P : PT) (X : XT) : Prop :=
  ∀ (l : Launch), l.stackTraces = false → ∀ (D : va_G) (cs : Nat → ClassId) (a0 sz : Nat),
    vx_Met l y (.codeWith y cc M.1 M.2.1 M.2.2.1 :: TT) (rmk d mc ms) (va_Pc (av.map (cv a0)) (fun U => U.heap.size = sz ∧ Pre D cs a0 n z σ U)) (QP D cs a0 n' (Wa a0 n sz) P) (QX D cs a0 n' (Wa a0 n sz) X) mc ms (Wa a0 n sz)
/-- where a method's body has to come -/
def Qm (K : KT) (n' : Nat) (P : PT) (X : XT) (mc ms : Nat) : State → Prop :=
  match K with
  | (_, _, _, s, _, args, below, _, _, D, cs, a0, A0) => vx_MQ below (QP D cs a0 n' A0 P) (QX D cs a0 n' A0 X) args s mc ms A0
/-- an exception of the class E has come to this frame -/
def AX (K : KT) (own : String) (cc : ByteArray) (M : MT) (d mc ms : Nat) (Q : State → Prop) (n : Nat) (z : Option Nat) (σ : Sg) (cells slots pc : Nat) (ls : List (Option Value)) (E : String) : Prop :=
  match K with
  | (p, l, e, s, m, args, below, meth, c, D, cs, a0, A0) =>
    Cok (p, l, e, s, m, args, below, meth, c, D, cs, a0, A0) own cc M z → ∀ (H : Heap) (locs : List Loc) (la : Array Slot) (st : List Value) (q : Addr) (ce : Cell), Wd D cs a0 n σ H → (∀ i, i < n → A0 (a0 + i)) → va_S A0 s.heap H locs → lok a0 M.1 la ls → E ∈ exN → H[q]? = some ce → ce.vm = .none → s.vm.findClass E = some ce.cls →
      vx_W p l e (rmk d mc ms) s m args below meth c H locs cells slots Q (F0 m pc la st) q
section AWC
variable {K : KT} {own : String} {cc : ByteArray} {M : MT} {d mc ms : Nat} {Q : State → Prop} {n n' : Nat} {z : Option Nat} {σ : Sg} {cells slots pc : Nat} {ls : List (Option Value)} {st : List Value} {P : PT} {X : XT}
theorem aw_iret {v : Int32} (hd : decode cc pc = .ok (.ireturn, 1)) (hM : M.2.1 = some .int) (hc : cells ≤ mc ∧ slots ≤ ms) (hP : P σ (some (.int v))) : AW K own cc M d mc ms (Qm K n P X mc ms) n z σ cells slots pc ls [.int v] := by
  obtain ⟨p, l, e, s, m, args, below, meth, c, D, cs, a0, A0⟩ := K
  intro C H locs la hW hA hS hl
  obtain ⟨hx, hb, -, hr, -, -, -, -, -, hlk, -⟩ := id C
  exact W.widen hc.1 hc.2 (vx_ret (W.iret hx hb (hr.trans hM) (fun t ht hWt => ⟨⟨some (.int v), σ, rfl, hP, by rw [ht]; exact hW⟩, hS.F ht⟩) hS.2.2 hd hlk))
theorem aw_zret {v : Int32} (hd : decode cc pc = .ok (.ireturn, 1)) (hM : M.2.1 = some .boolean) (hv : v = 0 ∨ v = 1) (hc : cells ≤ mc ∧ slots ≤ ms) (hP : P σ (some (.int v))) : AW K own cc M d mc ms (Qm K n P X mc ms) n z σ cells slots pc ls [.int v] := by
  obtain ⟨p, l, e, s, m, args, below, meth, c, D, cs, a0, A0⟩ := K
  intro C H locs la hW hA hS hl
  obtain ⟨hx, hb, -, hr, -, -, -, -, -, hlk, -⟩ := id C
  have hn : narrow .boolean (.int v) = .int v := by rcases hv with rfl | rfl <;> rfl
  exact W.widen hc.1 hc.2 (vx_ret (W.zret hx hb (hr.trans hM) hn (fun t ht hWt => ⟨⟨some (.int v), σ, rfl, hP, by rw [ht]; exact hW⟩, hS.F ht⟩) hS.2.2 hd hlk))
theorem aw_lret {v : Int64} (hd : decode cc pc = .ok (.lreturn, 1)) (hM : M.2.1 = some .long) (hc : cells ≤ mc ∧ slots ≤ ms) (hP : P σ (some (.long v))) : AW K own cc M d mc ms (Qm K n P X mc ms) n z σ cells slots pc ls [.long v] := by
  obtain ⟨p, l, e, s, m, args, below, meth, c, D, cs, a0, A0⟩ := K
  intro C H locs la hW hA hS hl
  obtain ⟨hx, hb, -, hr, -, -, -, -, -, hlk, -⟩ := id C
  exact W.widen hc.1 hc.2 (vx_ret (W.lret hx hb (hr.trans hM) (fun t ht hWt => ⟨⟨some (.long v), σ, rfl, hP, by rw [ht]; exact hW⟩, hS.F ht⟩) hS.2.2 hd hlk))
theorem aw_vret (hd : decode cc pc = .ok (.return_, 1)) (hM : M.2.1 = none) (hc : cells ≤ mc ∧ slots ≤ ms) (hP : P σ none) : AW K own cc M d mc ms (Qm K n P X mc ms) n z σ cells slots pc ls [] := by
  obtain ⟨p, l, e, s, m, args, below, meth, c, D, cs, a0, A0⟩ := K
  intro C H locs la hW hA hS hl
  obtain ⟨hx, hb, -, hr, -, -, -, -, -, hlk, -⟩ := id C
  exact W.widen hc.1 hc.2 (vx_ret (W.vret hx hb (hr.trans hM) (fun t ht hWt => ⟨⟨none, σ, rfl, hP, by rw [ht]; exact hW⟩, hS.F ht⟩) hS.2.2 hd hlk))
theorem aw_aret {i : Nat} {C0 : String} (hd : decode cc pc = .ok (.areturn, 1)) (hM : M.2.1 = some (.object C0)) (hc : cells ≤ mc ∧ slots ≤ ms) (hP : P σ (some (.ref i))) : AW K own cc M d mc ms (Qm K n P X mc ms) n z σ cells slots pc ls [.ref i] := by
  obtain ⟨p, l, e, s, m, args, below, meth, c, D, cs, a0, A0⟩ := K
  intro C H locs la hW hA hS hl
  obtain ⟨hx, hb, -, hr, -, -, -, -, -, hlk, -⟩ := id C
  exact W.widen hc.1 hc.2 (vx_ret (W.aret (v := .ref (a0 + i)) hx hb (hr.trans hM) (Or.inl ⟨_, rfl⟩) (Or.inr ⟨_, rfl⟩) (fun t ht hWt => ⟨⟨some (.ref i), σ, rfl, hP, by rw [ht]; exact hW⟩, hS.F ht⟩) hS.2.2 hd hlk))
theorem aw_aretN {C0 : String} (hd : decode cc pc = .ok (.areturn, 1)) (hM : M.2.1 = some (.object C0)) (hc : cells ≤ mc ∧ slots ≤ ms) (hP : P σ (some .null)) : AW K own cc M d mc ms (Qm K n P X mc ms) n z σ cells slots pc ls [.null] := by
  obtain ⟨p, l, e, s, m, args, below, meth, c, D, cs, a0, A0⟩ := K
  intro C H locs la hW hA hS hl
  obtain ⟨hx, hb, -, hr, -, -, -, -, -, hlk, -⟩ := id C
  exact W.widen hc.1 hc.2 (vx_ret (W.aret (v := .null) hx hb (hr.trans hM) (Or.inl ⟨_, rfl⟩) (Or.inl rfl) (fun t ht hWt => ⟨⟨some .null, σ, rfl, hP, by rw [ht]; exact hW⟩, hS.F ht⟩) hS.2.2 hd hlk))
/-- an exception that goes on to the caller -/
theorem ax_out {E : String} (hM : M.2.2.1 = []) (hc : cells ≤ mc ∧ slots ≤ ms) (hX : X σ E) : AX K own cc M d mc ms (Qm K n P X mc ms) n z σ cells slots pc ls E := by
  obtain ⟨p, l, e, s, m, args, below, meth, c, D, cs, a0, A0⟩ := K
  intro C H locs la st q ce hW hA hS hl hE hq hv hcl
  obtain ⟨hx, hb, -, hr, ht, -, -, -, -, hlk, -⟩ := id C
  refine vx_out (fun x hx => ?_) hlk hq hv hcl (fun t ht hal => ⟨⟨σ, hX, hE, by rw [ht]; exact hW⟩, hS.F ht⟩) hS.2.2 hc.1 hc.2
  rw [ht, hM] at hx
  cases hx
/-- an exception that this method's table takes -/
theorem ax_catch {E : String} {x : ExceptionTableEntry} {pre suf : List ExceptionTableEntry} (hsp : tableOf M.2.2.1 = pre ++ x :: suf) (hpass : ∀ y ∈ pre, y.catchType ≠ 0 ∧ ∃ nm ∈ exN, E ≠ nm ∧ Cond.classLink own y.catchType nm ∈ TT) (hcov : covers x pc = true) (h0 : x.catchType ≠ 0) (hL : Cond.classLink own x.catchType E ∈ TT) (hcast : Cond.castable E E ∈ nW)
    (kk : ∀ q, AW K own cc M d mc ms Q n z σ cells slots x.handlerPc ls [.retAddr q]) : AX K own cc M d mc ms Q n z σ cells slots pc ls E := by
  obtain ⟨p, l, e, s, m, args, below, meth, c, D, cs, a0, A0⟩ := K
  intro C H locs la st q ce hW hA hS hl hE hq hv hcl
  obtain ⟨hx, hb, -, hr, ht, -, hown, hts, -, hlk, -, hEX, -⟩ := id C
  refine vx_catch hown pre x suf (ht.trans hsp) (fun y hy => Or.inr ?_) hcov h0 (hts _ hL) (va_Nw.use rfl (hEX.1 _ hcast)) hq hv hcl (kk q C H locs la hW hA hS hl)
  obtain ⟨h1, nm, h2, h3, h4⟩ := hpass y hy
  exact ⟨h1, nm, hts _ h4, hEX.2.2.2 E hE nm h2 h3⟩
/-- the names of what the throws here go through -/
def thN : List String := ["java/lang/RuntimeException", "java/lang/Exception"]
theorem thN_fit : ∀ x ∈ thN, Bundle.fit x = true := by decide +kernel
theorem exN_fit : ∀ x ∈ exN, Bundle.fit x = true := by decide +kernel
theorem aw_throw {ik is ic : Nat} {E text : String} (d0 : decode cc pc = .ok (.new ik, 3)) (d3 : decode cc (pc + 3) = .ok (.dup, 1)) (d4 : decode cc (pc + 4) = .ok (.ldc is, 2)) (d6 : decode cc (pc + 6) = .ok (.invokespecial ic, 3)) (d9 : decode cc (pc + 9) = .ok (.athrow, 1))
    (hown : own = RX6) (hk : Cond.classLink RX6 ik E ∈ TT) (hini : Cond.initialized E ∈ TT) (hs : (is, text) ∈ sW) (hE : E ∈ exN) (hat : ∀ w ∈ vx_atS RX6 ic E thN, w ∈ TT ∨ w ∈ nW) (hgood : ∀ w ∈ Cond.classLink RX6 ik E :: Cond.initialized E :: vx_atS RX6 ic E thN, vx_ot w = true)
    (hM : M.2.2.1 = []) (hd : 6 ≤ d) (hc : cells + 1 ≤ mc ∧ slots + 6 ≤ ms) (hst : (st.map fun v => v.category).sum ≤ 8) (hX : X σ E) : AW K own cc M d mc ms (Qm K n P X mc ms) n z σ cells slots pc ls st := by
  obtain ⟨p, l, e, s, m, args, below, meth, c, D, cs, a0, A0⟩ := K
  intro C H locs la hW hA hS hl
  obtain ⟨hx, hb, hml, hr, ht, -, how, hts, hfl, hlk, -, hEX, hZQ, -⟩ := id C
  subst hown
  obtain ⟨sa, hsa⟩ := hEX.2.1 _ hs
  have hsum : ((st.map (cv a0)).map fun v => v.category).sum = (st.map fun v => v.category).sum := by
    rw [List.map_map]
    congr 2
    funext v
    exact cv_cat a0 v
  have hfinal : va_S A0 s.heap H locs := hS
  refine vx_throwS (A := A0) (names := thN) (ik := ik) (is := is) (ic := ic) (text := text) hx hb hfl how (exN_fit E hE) thN_fit (hts _ hk) (hts _ hini) hsa (fun w hw => ?_) hgood hZQ.1 hZQ.2 hS (by rw [hml]; exact hl.1) d0 d3 d4 d6 d9 (fun x hx => ?_) (by show 2 + 3 < d; omega) (by rw [hsum]; show _ + (13 * (2 + 1) + 43) ≤ 39 * d; omega) hc.1 hc.2 hlk (fun t hal hsz hq => ?_) hS.2.2 hc.1 hc.2
  · rcases hat w hw with h | h
    · exact hts _ h
    · exact va_Nw.use (by
        have := (List.mem_filter.mp h).2
        cases w <;> first | rfl | (simp [shpW] at this)) (hEX.1 _ h)
  · rw [ht, hM] at hx
    cases hx
  · refine ⟨⟨σ, hX, hE, ⟨hW.1.kept (fun k x hk => hq x.1 (hW.1 k x hk).lt), Nat.le_trans hW.2 hsz⟩⟩, Nat.le_trans hS.1 hsz, fun q h1 h2 => ?_⟩
    rw [hq q (Nat.lt_of_lt_of_le h1 hS.1)]
    exact hS.2.1 q h1 h2
theorem aw_throwW {ik is ic : Nat} {E text : String} (d0 : decode cc pc = .ok (.new ik, 3)) (d3 : decode cc (pc + 3) = .ok (.dup, 1)) (d4 : decode cc (pc + 4) = .ok (.ldc_w is, 3)) (d6 : decode cc (pc + 7) = .ok (.invokespecial ic, 3)) (d9 : decode cc (pc + 10) = .ok (.athrow, 1))
    (hown : own = RX6) (hk : Cond.classLink RX6 ik E ∈ TT) (hini : Cond.initialized E ∈ TT) (hs : (is, text) ∈ sW) (hE : E ∈ exN) (hat : ∀ w ∈ vx_atS RX6 ic E thN, w ∈ TT ∨ w ∈ nW) (hgood : ∀ w ∈ Cond.classLink RX6 ik E :: Cond.initialized E :: vx_atS RX6 ic E thN, vx_ot w = true)
    (hM : M.2.2.1 = []) (hd : 6 ≤ d) (hc : cells + 1 ≤ mc ∧ slots + 6 ≤ ms) (hst : (st.map fun v => v.category).sum ≤ 8) (hX : X σ E) : AW K own cc M d mc ms (Qm K n P X mc ms) n z σ cells slots pc ls st := by
  obtain ⟨p, l, e, s, m, args, below, meth, c, D, cs, a0, A0⟩ := K
  intro C H locs la hW hA hS hl
  obtain ⟨hx, hb, hml, hr, ht, -, how, hts, hfl, hlk, -, hEX, hZQ, -⟩ := id C
  subst hown
  obtain ⟨sa, hsa⟩ := hEX.2.1 _ hs
  have hsum : ((st.map (cv a0)).map fun v => v.category).sum = (st.map fun v => v.category).sum := by
    rw [List.map_map]
    congr 2
    funext v
    exact cv_cat a0 v
  have hfinal : va_S A0 s.heap H locs := hS
  refine vx_throwSW (A := A0) (names := thN) (ik := ik) (is := is) (ic := ic) (text := text) hx hb hfl how (exN_fit E hE) thN_fit (hts _ hk) (hts _ hini) hsa (fun w hw => ?_) hgood hZQ.1 hZQ.2 hS (by rw [hml]; exact hl.1) d0 d3 d4 d6 d9 (fun x hx => ?_) (by show 2 + 3 < d; omega) (by rw [hsum]; show _ + (13 * (2 + 1) + 43) ≤ 39 * d; omega) hc.1 hc.2 hlk (fun t hal hsz hq => ?_) hS.2.2 hc.1 hc.2
  · rcases hat w hw with h | h
    · exact hts _ h
    · exact va_Nw.use (by
        have := (List.mem_filter.mp h).2
        cases w <;> first | rfl | (simp [shpW] at this)) (hEX.1 _ h)
  · rw [ht, hM] at hx
    cases hx
  · refine ⟨⟨σ, hX, hE, ⟨hW.1.kept (fun k x hk => hq x.1 (hW.1 k x hk).lt), Nat.le_trans hW.2 hsz⟩⟩, Nat.le_trans hS.1 hsz, fun q h1 h2 => ?_⟩
    rw [hq q (Nat.lt_of_lt_of_le h1 hS.1)]
    exact hS.2.1 q h1 h2
/-- a method's contract out of its body -/
theorem ct_of {y : MethodName} {z : Bool} {av : List Value} {ls0 : List (Option Value)} (k : Nat) (hy : plainName y.cls = true) (hM : M.2.2.1 = []) (hnm : M.2.2.2 = y.name) (hnd : nodbl av) (hls : lent av ++ List.replicate k none = ls0) (hlen : (lg_sl av).length ≤ M.1)
    (body : ∀ K : KT, AW K y.cls cc M d mc ms (Qm K n' P X mc ms) n (if z = true then some n else none) σ 0 0 0 ls0 []) : Ct y cc M d mc ms n z σ av n' P X := by
  intro l hfl D cs a0 sz
  refine vx_ofW (cc := cc) (maxL := M.1) (ret := M.2.1) hy rfl ?_
  intro p e s m args below meth c s₁ B hml hex hv
  obtain ⟨rfl, hsz, hW, hz, hK, hEX, hZQ⟩ := hv
  subst hsz
  have hts := atoms_spec (ws := .code y cc M.1 M.2.1 :: TT) B.pre
  have hlg : ∀ av : List Value, (lg_sl (av.map (cv a0))).length = (lg_sl av).length := by
    intro av
    induction av with
    | nil => rfl
    | cons v r ih =>
      have hc := cv_cat a0 v
      simp only [lg_sl, List.map_cons, List.flatMap_cons, List.length_append] at ih ⊢
      rw [hc, ih]
      split <;> rfl
  have hl := lok_entry (a0 := a0) (nL := M.1) hnd (by rw [hlg]; exact hlen) k
  rw [lg_entry_eq]
  generalize (lg_sl (av.map (cv a0)) ++ List.replicate (M.1 - (lg_sl (av.map (cv a0))).length) Slot.unset).toArray = la at hl ⊢
  rw [hls] at hl
  have hb := body (p, l, e, s, m, (av.map (cv a0)).toArray, below, meth, c, D, cs, a0, Wa a0 n s.heap.size)
  refine hb ⟨B.exec, B.bytes, hml, B.returns, ?_, ?_, findClass_of_methodNamed B.named, fun w hw => hts w (List.mem_cons_of_mem _ hw), hfl, B.notSynchronized, hK, hEX, hZQ, fun q hq => Or.inr hq, fun n0 h0 => ?_⟩ s.heap [] la hW (fun i hi => Or.inl ⟨by omega, by omega⟩) va_S.rf hl
  · rw [hM]
    match h : c.exceptionTable.toList with
    | [] => rfl
    | x :: r => exact (hex x (by rw [h]; exact List.mem_cons_self)).elim
  · rw [hnm]
    exact (name_of_methodNamed B.named B.method).1
  · cases z
    · simp at h0
    · simp at h0; subst h0; exact hz rfl
theorem ctH_of {y : MethodName} {z : Bool} {av : List Value} {ls0 : List (Option Value)} (k : Nat) (hy : plainName y.cls = true) (hnm : M.2.2.2 = y.name) (hnd : nodbl av) (hls : lent av ++ List.replicate k none = ls0) (hlen : (lg_sl av).length ≤ M.1)
    (body : ∀ K : KT, AW K y.cls cc M d mc ms (Qm K n' P X mc ms) n (if z = true then some n else none) σ 0 0 0 ls0 []) : CtH y cc M d mc ms n z σ av n' P X := by
  intro l hfl D cs a0 sz
  refine vx_ofWH (cc := cc) (maxL := M.1) (ret := M.2.1) (hh := M.2.2.1) hy rfl ?_
  intro p e s m args below meth c s₁ B hml hv
  obtain ⟨rfl, hsz, hW, hz, hK, hEX, hZQ⟩ := hv
  subst hsz
  have hts := atoms_spec (ws := .codeWith y cc M.1 M.2.1 M.2.2.1 :: TT) B.pre
  have hlg : ∀ av : List Value, (lg_sl (av.map (cv a0))).length = (lg_sl av).length := by
    intro av
    induction av with
    | nil => rfl
    | cons v r ih =>
      have hc := cv_cat a0 v
      simp only [lg_sl, List.map_cons, List.flatMap_cons, List.length_append] at ih ⊢
      rw [hc, ih]
      split <;> rfl
  have hl := lok_entry (a0 := a0) (nL := M.1) hnd (by rw [hlg]; exact hlen) k
  rw [lg_entry_eq]
  generalize (lg_sl (av.map (cv a0)) ++ List.replicate (M.1 - (lg_sl (av.map (cv a0))).length) Slot.unset).toArray = la at hl ⊢
  rw [hls] at hl
  have hb := body (p, l, e, s, m, (av.map (cv a0)).toArray, below, meth, c, D, cs, a0, Wa a0 n s.heap.size)
  refine hb ⟨B.exec, B.bytes, hml, B.returns, ?_, ?_, findClass_of_methodNamed B.named, fun w hw => hts w (List.mem_cons_of_mem _ hw), hfl, B.notSynchronized, hK, hEX, hZQ, fun q hq => Or.inr hq, fun n0 h0 => ?_⟩ s.heap [] la hW (fun i hi => Or.inl ⟨by omega, by omega⟩) va_S.rf hl
  · exact vx_table (x := y) B (hts _ List.mem_cons_self)
  · rw [hnm]
    exact (name_of_methodNamed B.named B.method).1
  · cases z
    · simp at h0
    · simp at h0; subst h0; exact hz rfl
end AWC
