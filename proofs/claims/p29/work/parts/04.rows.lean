/-- no two-place value stands there -/
def c1b : Option Value → Bool
  | some (.long _) => false
  | some (.double _) => false
  | _ => true
theorem c1b_cat {v : Value} (h : c1b (some v) = true) : v.category = 1 := by
  cases v <;> first | rfl | (simp [c1b] at h)
theorem lnc_0 (ls : List (Option Value)) : lnc ls 0 := fun j _ h => absurd h (Nat.succ_ne_zero j)
theorem lnc_s {ls : List (Option Value)} {i : Nat} {x : Option Value} (h : c1b x = true) (hx : ls[i]? = some x := by rfl) : lnc ls (i + 1) := fun j w hj hw => by
  have e : j = i := by omega
  subst e
  rw [hx] at hw
  cases hw
  exact c1b_cat h
/-! THE JUDGEMENT: from this frame over this world the machine comes to Q. Rows: one an instruction. -/
abbrev KT : Type := Program × Launch × Env × State × MethodId × Array Value × List Frame × Method × Code × va_G × (Nat → ClassId) × Nat × (Nat → Prop)
/-- of a method: places for locals, what it returns, its table, its name -/
abbrev MT : Type := Nat × Option FieldType × List (Nat × Nat × Nat × Nat) × String
def rmk (d mc ms : Nat) : Room := { frames := d, cells := mc, slots := ms, locals := 39 * d }
def Cok (K : KT) (own : String) (cc : ByteArray) (M : MT) (z : Option Nat) : Prop :=
  match K with
  | (p, l, _e, s, m, args, _below, meth, c, D, cs, a0, A0) =>
    p.tables.exec = Jvm.exec ∧ c.code = cc ∧ c.maxLocals = M.1 ∧ meth.sig.returnType = M.2.1 ∧ c.exceptionTable.toList = tableOf M.2.2.1 ∧ meth.name = M.2.2.2 ∧ s.vm.findClass own = some m.cls ∧ (∀ w ∈ TT, w.before args s = true) ∧ l.stackTraces = false ∧ meth.locks = false ∧ va_K D vwCl (tyl cs) s ∧ EX s ∧ ZQ A0 s s.heap ∧ (∀ q, s.heap.size ≤ q → A0 q) ∧ ∀ n0, z = some n0 → s.heap.size = a0 + n0
def AW (K : KT) (own : String) (cc : ByteArray) (M : MT) (d mc ms : Nat) (Q : State → Prop) (n : Nat) (z : Option Nat) (σ : Sg) (cells slots pc : Nat) (ls : List (Option Value)) (st : List Value) : Prop :=
  match K with
  | (p, l, e, s, m, args, below, meth, c, D, cs, a0, A0) =>
    Cok (p, l, e, s, m, args, below, meth, c, D, cs, a0, A0) own cc M z → ∀ (H : Heap) (locs : List Loc) (la : Array Slot), Wd D cs a0 n σ H → (∀ i, i < n → A0 (a0 + i)) → va_S A0 s.heap H locs → lok a0 M.1 la ls →
      W p l e (rmk d mc ms) s m args below meth c H locs cells slots Q (F0 m pc la (st.map (cv a0)))
section AWR
variable {K : KT} {own : String} {cc : ByteArray} {M : MT} {d mc ms : Nat} {Q : State → Prop} {n : Nat} {z : Option Nat} {σ : Sg} {cells slots pc : Nat} {ls : List (Option Value)} {st : List Value}
theorem AW.eqs {σ' : Sg} (h : σ = σ') (k : AW K own cc M d mc ms Q n z σ' cells slots pc ls st) : AW K own cc M d mc ms Q n z σ cells slots pc ls st := h ▸ k
theorem AW.widen {k1 k2 : Nat} (h1 : cells ≤ k1) (h2 : slots ≤ k2) (k : AW K own cc M d mc ms Q n z σ k1 k2 pc ls st) : AW K own cc M d mc ms Q n z σ cells slots pc ls st := by
  obtain ⟨p, l, e, s, m, args, below, meth, c, D, cs, a0, A0⟩ := K
  intro C H locs la hP hA hS hl
  exact W.widen h1 h2 (k C H locs la hP hA hS hl)
/-- fewer locals are known -/
theorem AW.loc {ls' : List (Option Value)} (h : ∀ (i : Nat) (v : Value), ls'[i]? = some (some v) → ls[i]? = some (some v)) (k : AW K own cc M d mc ms Q n z σ cells slots pc ls' st) : AW K own cc M d mc ms Q n z σ cells slots pc ls st := by
  obtain ⟨p, l, e, s, m, args, below, meth, c, D, cs, a0, A0⟩ := K
  intro C H locs la hP hA hS hl
  exact k C H locs la hP hA hS ⟨hl.1, hl.2.1, fun i v hi => hl.2.2 i v (h i v hi)⟩
theorem aw_iconst {c0 : Int} {v : Int32} (hd : decode cc pc = .ok (.iconst c0, 1)) (hv : Int32.ofInt c0 = v) (k : AW K own cc M d mc ms Q n z σ cells slots (pc + 1) ls (.int v :: st)) : AW K own cc M d mc ms Q n z σ cells slots pc ls st := by
  obtain ⟨p, l, e, s, m, args, below, meth, c, D, cs, a0, A0⟩ := K
  intro C H locs la hP hA hS hl
  exact lv_iconst C.1 C.2.1 hd hv (k C H locs la hP hA hS hl)
theorem aw_bipush {c0 : Int} {v : Int32} (hd : decode cc pc = .ok (.bipush c0, 2)) (hv : (Int8.ofInt c0).toInt32 = v) (k : AW K own cc M d mc ms Q n z σ cells slots (pc + 2) ls (.int v :: st)) : AW K own cc M d mc ms Q n z σ cells slots pc ls st := by
  obtain ⟨p, l, e, s, m, args, below, meth, c, D, cs, a0, A0⟩ := K
  intro C H locs la hP hA hS hl
  exact lv_bipush C.1 C.2.1 hd hv (k C H locs la hP hA hS hl)
theorem aw_sipush {c0 : Int} {v : Int32} (hd : decode cc pc = .ok (.sipush c0, 3)) (hv : (Int16.ofInt c0).toInt32 = v) (k : AW K own cc M d mc ms Q n z σ cells slots (pc + 3) ls (.int v :: st)) : AW K own cc M d mc ms Q n z σ cells slots pc ls st := by
  obtain ⟨p, l, e, s, m, args, below, meth, c, D, cs, a0, A0⟩ := K
  intro C H locs la hP hA hS hl
  exact lv_sipush C.1 C.2.1 hd hv (k C H locs la hP hA hS hl)
theorem aw_lconst {c0 : Fin 2} {v : Int64} (hd : decode cc pc = .ok (.lconst c0, 1)) (hv : Int64.ofNat (c0 : Nat) = v) (k : AW K own cc M d mc ms Q n z σ cells slots (pc + 1) ls (.long v :: st)) : AW K own cc M d mc ms Q n z σ cells slots pc ls st := by
  obtain ⟨p, l, e, s, m, args, below, meth, c, D, cs, a0, A0⟩ := K
  intro C H locs la hP hA hS hl
  exact lv_lconst C.1 C.2.1 hd hv (k C H locs la hP hA hS hl)
theorem aw_ldc {ix : Nat} {v : Int32} (hd : decode cc pc = .ok (.ldc ix, 2)) (hv : Cond.constant own ix v ∈ TT) (k : AW K own cc M d mc ms Q n z σ cells slots (pc + 2) ls (.int v :: st)) : AW K own cc M d mc ms Q n z σ cells slots pc ls st := by
  obtain ⟨p, l, e, s, m, args, below, meth, c, D, cs, a0, A0⟩ := K
  intro C H locs la hP hA hS hl
  exact lv_ldc C.1 C.2.1 C.2.2.2.2.2.2.1 (C.2.2.2.2.2.2.2.1 _ hv) hd (k C H locs la hP hA hS hl)
theorem aw_ldc2 {ix : Nat} {v : Int64} (hd : decode cc pc = .ok (.ldc2_w ix, 3)) (hv : Cond.constantLong own ix v ∈ TT) (k : AW K own cc M d mc ms Q n z σ cells slots (pc + 3) ls (.long v :: st)) : AW K own cc M d mc ms Q n z σ cells slots pc ls st := by
  obtain ⟨p, l, e, s, m, args, below, meth, c, D, cs, a0, A0⟩ := K
  intro C H locs la hP hA hS hl
  exact lv_ldc2 C.1 C.2.1 C.2.2.2.2.2.2.1 (C.2.2.2.2.2.2.2.1 _ hv) hd (k C H locs la hP hA hS hl)
theorem aw_null (hd : decode cc pc = .ok (.aconst_null, 1)) (k : AW K own cc M d mc ms Q n z σ cells slots (pc + 1) ls (.null :: st)) : AW K own cc M d mc ms Q n z σ cells slots pc ls st := by
  obtain ⟨p, l, e, s, m, args, below, meth, c, D, cs, a0, A0⟩ := K
  intro C H locs la hP hA hS hl
  exact lv_null C.1 C.2.1 hd (k C H locs la hP hA hS hl)
theorem aw_iadd {x y : Int32} (hd : decode cc pc = .ok (.iadd, 1)) (k : AW K own cc M d mc ms Q n z σ cells slots (pc + 1) ls (.int (x + y) :: st)) : AW K own cc M d mc ms Q n z σ cells slots pc ls (.int y :: .int x :: st) := by
  obtain ⟨p, l, e, s, m, args, below, meth, c, D, cs, a0, A0⟩ := K
  intro C H locs la hP hA hS hl
  exact lv_iadd C.1 C.2.1 hd (k C H locs la hP hA hS hl)
theorem aw_isub {x y : Int32} (hd : decode cc pc = .ok (.isub, 1)) (k : AW K own cc M d mc ms Q n z σ cells slots (pc + 1) ls (.int (x - y) :: st)) : AW K own cc M d mc ms Q n z σ cells slots pc ls (.int y :: .int x :: st) := by
  obtain ⟨p, l, e, s, m, args, below, meth, c, D, cs, a0, A0⟩ := K
  intro C H locs la hP hA hS hl
  exact lv_isub C.1 C.2.1 hd (k C H locs la hP hA hS hl)
theorem aw_imul {x y : Int32} (hd : decode cc pc = .ok (.imul, 1)) (k : AW K own cc M d mc ms Q n z σ cells slots (pc + 1) ls (.int (x * y) :: st)) : AW K own cc M d mc ms Q n z σ cells slots pc ls (.int y :: .int x :: st) := by
  obtain ⟨p, l, e, s, m, args, below, meth, c, D, cs, a0, A0⟩ := K
  intro C H locs la hP hA hS hl
  exact lv_imul C.1 C.2.1 hd (k C H locs la hP hA hS hl)
theorem aw_iand {x y : Int32} (hd : decode cc pc = .ok (.iand, 1)) (k : AW K own cc M d mc ms Q n z σ cells slots (pc + 1) ls (.int (x &&& y) :: st)) : AW K own cc M d mc ms Q n z σ cells slots pc ls (.int y :: .int x :: st) := by
  obtain ⟨p, l, e, s, m, args, below, meth, c, D, cs, a0, A0⟩ := K
  intro C H locs la hP hA hS hl
  exact lv_iand C.1 C.2.1 hd (k C H locs la hP hA hS hl)
theorem aw_idiv {x y : Int32} (hd : decode cc pc = .ok (.idiv, 1)) (hne : ¬ y = 0) (k : AW K own cc M d mc ms Q n z σ cells slots (pc + 1) ls (.int (x / y) :: st)) : AW K own cc M d mc ms Q n z σ cells slots pc ls (.int y :: .int x :: st) := by
  obtain ⟨p, l, e, s, m, args, below, meth, c, D, cs, a0, A0⟩ := K
  intro C H locs la hP hA hS hl
  exact lv_idiv C.1 C.2.1 hd hne (k C H locs la hP hA hS hl)
theorem aw_irem {x y : Int32} (hd : decode cc pc = .ok (.irem, 1)) (hne : ¬ y = 0) (k : AW K own cc M d mc ms Q n z σ cells slots (pc + 1) ls (.int (x - x / y * y) :: st)) : AW K own cc M d mc ms Q n z σ cells slots pc ls (.int y :: .int x :: st) := by
  obtain ⟨p, l, e, s, m, args, below, meth, c, D, cs, a0, A0⟩ := K
  intro C H locs la hP hA hS hl
  exact lv_irem C.1 C.2.1 hd hne (k C H locs la hP hA hS hl)
theorem aw_ladd {x y : Int64} (hd : decode cc pc = .ok (.ladd, 1)) (k : AW K own cc M d mc ms Q n z σ cells slots (pc + 1) ls (.long (x + y) :: st)) : AW K own cc M d mc ms Q n z σ cells slots pc ls (.long y :: .long x :: st) := by
  obtain ⟨p, l, e, s, m, args, below, meth, c, D, cs, a0, A0⟩ := K
  intro C H locs la hP hA hS hl
  exact lv_ladd C.1 C.2.1 hd (k C H locs la hP hA hS hl)
theorem aw_lsub {x y : Int64} (hd : decode cc pc = .ok (.lsub, 1)) (k : AW K own cc M d mc ms Q n z σ cells slots (pc + 1) ls (.long (x - y) :: st)) : AW K own cc M d mc ms Q n z σ cells slots pc ls (.long y :: .long x :: st) := by
  obtain ⟨p, l, e, s, m, args, below, meth, c, D, cs, a0, A0⟩ := K
  intro C H locs la hP hA hS hl
  exact lv_lsub C.1 C.2.1 hd (k C H locs la hP hA hS hl)
theorem aw_lmul {x y : Int64} (hd : decode cc pc = .ok (.lmul, 1)) (k : AW K own cc M d mc ms Q n z σ cells slots (pc + 1) ls (.long (x * y) :: st)) : AW K own cc M d mc ms Q n z σ cells slots pc ls (.long y :: .long x :: st) := by
  obtain ⟨p, l, e, s, m, args, below, meth, c, D, cs, a0, A0⟩ := K
  intro C H locs la hP hA hS hl
  exact lv_lmul C.1 C.2.1 hd (k C H locs la hP hA hS hl)
theorem aw_land {x y : Int64} (hd : decode cc pc = .ok (.land, 1)) (k : AW K own cc M d mc ms Q n z σ cells slots (pc + 1) ls (.long (x &&& y) :: st)) : AW K own cc M d mc ms Q n z σ cells slots pc ls (.long y :: .long x :: st) := by
  obtain ⟨p, l, e, s, m, args, below, meth, c, D, cs, a0, A0⟩ := K
  intro C H locs la hP hA hS hl
  exact lv_land C.1 C.2.1 hd (k C H locs la hP hA hS hl)
theorem aw_lor {x y : Int64} (hd : decode cc pc = .ok (.lor, 1)) (k : AW K own cc M d mc ms Q n z σ cells slots (pc + 1) ls (.long (x ||| y) :: st)) : AW K own cc M d mc ms Q n z σ cells slots pc ls (.long y :: .long x :: st) := by
  obtain ⟨p, l, e, s, m, args, below, meth, c, D, cs, a0, A0⟩ := K
  intro C H locs la hP hA hS hl
  exact lv_lor C.1 C.2.1 hd (k C H locs la hP hA hS hl)
theorem aw_ldiv {x y : Int64} (hd : decode cc pc = .ok (.ldiv, 1)) (hne : ¬ y = 0) (k : AW K own cc M d mc ms Q n z σ cells slots (pc + 1) ls (.long (x / y) :: st)) : AW K own cc M d mc ms Q n z σ cells slots pc ls (.long y :: .long x :: st) := by
  obtain ⟨p, l, e, s, m, args, below, meth, c, D, cs, a0, A0⟩ := K
  intro C H locs la hP hA hS hl
  exact lv_ldiv C.1 C.2.1 hd hne (k C H locs la hP hA hS hl)
theorem aw_lrem {x y : Int64} (hd : decode cc pc = .ok (.lrem, 1)) (hne : ¬ y = 0) (k : AW K own cc M d mc ms Q n z σ cells slots (pc + 1) ls (.long (x - x / y * y) :: st)) : AW K own cc M d mc ms Q n z σ cells slots pc ls (.long y :: .long x :: st) := by
  obtain ⟨p, l, e, s, m, args, below, meth, c, D, cs, a0, A0⟩ := K
  intro C H locs la hP hA hS hl
  exact lv_lrem C.1 C.2.1 hd hne (k C H locs la hP hA hS hl)
theorem aw_ineg {x : Int32} (hd : decode cc pc = .ok (.ineg, 1)) (k : AW K own cc M d mc ms Q n z σ cells slots (pc + 1) ls (.int (-x) :: st)) : AW K own cc M d mc ms Q n z σ cells slots pc ls (.int x :: st) := by
  obtain ⟨p, l, e, s, m, args, below, meth, c, D, cs, a0, A0⟩ := K
  intro C H locs la hP hA hS hl
  exact lv_ineg C.1 C.2.1 hd (k C H locs la hP hA hS hl)
theorem aw_i2l {x : Int32} (hd : decode cc pc = .ok (.i2l, 1)) (k : AW K own cc M d mc ms Q n z σ cells slots (pc + 1) ls (.long x.toInt64 :: st)) : AW K own cc M d mc ms Q n z σ cells slots pc ls (.int x :: st) := by
  obtain ⟨p, l, e, s, m, args, below, meth, c, D, cs, a0, A0⟩ := K
  intro C H locs la hP hA hS hl
  exact lv_i2l C.1 C.2.1 hd rfl (k C H locs la hP hA hS hl)
theorem aw_l2i {x : Int64} (hd : decode cc pc = .ok (.l2i, 1)) (k : AW K own cc M d mc ms Q n z σ cells slots (pc + 1) ls (.int x.toInt32 :: st)) : AW K own cc M d mc ms Q n z σ cells slots pc ls (.long x :: st) := by
  obtain ⟨p, l, e, s, m, args, below, meth, c, D, cs, a0, A0⟩ := K
  intro C H locs la hP hA hS hl
  exact lv_l2i C.1 C.2.1 hd rfl (k C H locs la hP hA hS hl)
theorem aw_lshl {x : Int64} {y : Int32} (hd : decode cc pc = .ok (.lshl, 1)) (k : AW K own cc M d mc ms Q n z σ cells slots (pc + 1) ls (.long (x <<< (y.toInt64 &&& 63)) :: st)) : AW K own cc M d mc ms Q n z σ cells slots pc ls (.int y :: .long x :: st) := by
  obtain ⟨p, l, e, s, m, args, below, meth, c, D, cs, a0, A0⟩ := K
  intro C H locs la hP hA hS hl
  exact lv_lshl C.1 C.2.1 hd rfl (k C H locs la hP hA hS hl)
theorem aw_lushr {x : Int64} {y : Int32} (hd : decode cc pc = .ok (.lushr, 1)) (k : AW K own cc M d mc ms Q n z σ cells slots (pc + 1) ls (.long (x.toUInt64 >>> (y.toInt64.toUInt64 &&& Int64.toUInt64 63)).toInt64 :: st)) : AW K own cc M d mc ms Q n z σ cells slots pc ls (.int y :: .long x :: st) := by
  obtain ⟨p, l, e, s, m, args, below, meth, c, D, cs, a0, A0⟩ := K
  intro C H locs la hP hA hS hl
  exact lv_lushr C.1 C.2.1 hd rfl (k C H locs la hP hA hS hl)
theorem aw_lcmp {x y : Int64} (hd : decode cc pc = .ok (.lcmp, 1)) (k : AW K own cc M d mc ms Q n z σ cells slots (pc + 1) ls (.int (lg_cmp x y) :: st)) : AW K own cc M d mc ms Q n z σ cells slots pc ls (.long y :: .long x :: st) := by
  obtain ⟨p, l, e, s, m, args, below, meth, c, D, cs, a0, A0⟩ := K
  intro C H locs la hP hA hS hl
  exact W.lcmp C.1 C.2.1 hd (k C H locs la hP hA hS hl)
theorem aw_dup {v : Value} (hd : decode cc pc = .ok (.dup, 1)) (hv : v.category = 1) (k : AW K own cc M d mc ms Q n z σ cells slots (pc + 1) ls (v :: v :: st)) : AW K own cc M d mc ms Q n z σ cells slots pc ls (v :: st) := by
  obtain ⟨p, l, e, s, m, args, below, meth, c, D, cs, a0, A0⟩ := K
  intro C H locs la hP hA hS hl
  exact lv_dup C.1 C.2.1 hd ((cv_cat a0 v).trans hv) (k C H locs la hP hA hS hl)
theorem aw_dup2 {v w : Value} (hd : decode cc pc = .ok (.dup2, 1)) (hv : v.category = 1) (hw : w.category = 1) (k : AW K own cc M d mc ms Q n z σ cells slots (pc + 1) ls (v :: w :: v :: w :: st)) : AW K own cc M d mc ms Q n z σ cells slots pc ls (v :: w :: st) := by
  obtain ⟨p, l, e, s, m, args, below, meth, c, D, cs, a0, A0⟩ := K
  intro C H locs la hP hA hS hl
  exact lv_dup2_11 C.1 C.2.1 hd ((cv_cat a0 v).trans hv) ((cv_cat a0 w).trans hw) (k C H locs la hP hA hS hl)
theorem aw_pop {v : Value} (hd : decode cc pc = .ok (.pop, 1)) (hv : v.category = 1) (k : AW K own cc M d mc ms Q n z σ cells slots (pc + 1) ls st) : AW K own cc M d mc ms Q n z σ cells slots pc ls (v :: st) := by
  obtain ⟨p, l, e, s, m, args, below, meth, c, D, cs, a0, A0⟩ := K
  intro C H locs la hP hA hS hl
  exact lv_pop C.1 C.2.1 hd ((cv_cat a0 v).trans hv) (k C H locs la hP hA hS hl)
theorem aw_if_eq {x : Int32} {off : Int} {tgt : Nat} (hd : decode cc pc = .ok (.ifCond .eq off, 3)) (ht : (pc : Int) + off = (tgt : Int)) (kt : x = 0 → AW K own cc M d mc ms Q n z σ cells slots tgt ls st) (kf : ¬ x = 0 → AW K own cc M d mc ms Q n z σ cells slots (pc + 3) ls st) : AW K own cc M d mc ms Q n z σ cells slots pc ls (.int x :: st) := by
  obtain ⟨p, l, e, s, m, args, below, meth, c, D, cs, a0, A0⟩ := K
  intro C H locs la hP hA hS hl
  exact lv_if_eq C.1 C.2.1 hd ht (fun h => kt h C H locs la hP hA hS hl) (fun h => kf h C H locs la hP hA hS hl)
theorem aw_if_ne {x : Int32} {off : Int} {tgt : Nat} (hd : decode cc pc = .ok (.ifCond .ne off, 3)) (ht : (pc : Int) + off = (tgt : Int)) (kt : ¬ x = 0 → AW K own cc M d mc ms Q n z σ cells slots tgt ls st) (kf : x = 0 → AW K own cc M d mc ms Q n z σ cells slots (pc + 3) ls st) : AW K own cc M d mc ms Q n z σ cells slots pc ls (.int x :: st) := by
  obtain ⟨p, l, e, s, m, args, below, meth, c, D, cs, a0, A0⟩ := K
  intro C H locs la hP hA hS hl
  exact lv_if_ne C.1 C.2.1 hd ht (fun h => kt h C H locs la hP hA hS hl) (fun h => kf h C H locs la hP hA hS hl)
theorem aw_if_lt {x : Int32} {off : Int} {tgt : Nat} (hd : decode cc pc = .ok (.ifCond .lt off, 3)) (ht : (pc : Int) + off = (tgt : Int)) (kt : x < 0 → AW K own cc M d mc ms Q n z σ cells slots tgt ls st) (kf : ¬ x < 0 → AW K own cc M d mc ms Q n z σ cells slots (pc + 3) ls st) : AW K own cc M d mc ms Q n z σ cells slots pc ls (.int x :: st) := by
  obtain ⟨p, l, e, s, m, args, below, meth, c, D, cs, a0, A0⟩ := K
  intro C H locs la hP hA hS hl
  exact lv_if_lt C.1 C.2.1 hd ht (fun h => kt h C H locs la hP hA hS hl) (fun h => kf h C H locs la hP hA hS hl)
theorem aw_if_ge {x : Int32} {off : Int} {tgt : Nat} (hd : decode cc pc = .ok (.ifCond .ge off, 3)) (ht : (pc : Int) + off = (tgt : Int)) (kt : 0 ≤ x → AW K own cc M d mc ms Q n z σ cells slots tgt ls st) (kf : ¬ 0 ≤ x → AW K own cc M d mc ms Q n z σ cells slots (pc + 3) ls st) : AW K own cc M d mc ms Q n z σ cells slots pc ls (.int x :: st) := by
  obtain ⟨p, l, e, s, m, args, below, meth, c, D, cs, a0, A0⟩ := K
  intro C H locs la hP hA hS hl
  exact lv_if_ge C.1 C.2.1 hd ht (fun h => kt h C H locs la hP hA hS hl) (fun h => kf h C H locs la hP hA hS hl)
theorem aw_if_gt {x : Int32} {off : Int} {tgt : Nat} (hd : decode cc pc = .ok (.ifCond .gt off, 3)) (ht : (pc : Int) + off = (tgt : Int)) (kt : 0 < x → AW K own cc M d mc ms Q n z σ cells slots tgt ls st) (kf : ¬ 0 < x → AW K own cc M d mc ms Q n z σ cells slots (pc + 3) ls st) : AW K own cc M d mc ms Q n z σ cells slots pc ls (.int x :: st) := by
  obtain ⟨p, l, e, s, m, args, below, meth, c, D, cs, a0, A0⟩ := K
  intro C H locs la hP hA hS hl
  exact lv_if_gt C.1 C.2.1 hd ht (fun h => kt h C H locs la hP hA hS hl) (fun h => kf h C H locs la hP hA hS hl)
theorem aw_if_le {x : Int32} {off : Int} {tgt : Nat} (hd : decode cc pc = .ok (.ifCond .le off, 3)) (ht : (pc : Int) + off = (tgt : Int)) (kt : x ≤ 0 → AW K own cc M d mc ms Q n z σ cells slots tgt ls st) (kf : ¬ x ≤ 0 → AW K own cc M d mc ms Q n z σ cells slots (pc + 3) ls st) : AW K own cc M d mc ms Q n z σ cells slots pc ls (.int x :: st) := by
  obtain ⟨p, l, e, s, m, args, below, meth, c, D, cs, a0, A0⟩ := K
  intro C H locs la hP hA hS hl
  exact lv_if_le C.1 C.2.1 hd ht (fun h => kt h C H locs la hP hA hS hl) (fun h => kf h C H locs la hP hA hS hl)
theorem aw_ic_eq {x y : Int32} {off : Int} {tgt : Nat} (hd : decode cc pc = .ok (.if_icmp .eq off, 3)) (ht : (pc : Int) + off = (tgt : Int)) (kt : x = y → AW K own cc M d mc ms Q n z σ cells slots tgt ls st) (kf : ¬ x = y → AW K own cc M d mc ms Q n z σ cells slots (pc + 3) ls st) : AW K own cc M d mc ms Q n z σ cells slots pc ls (.int y :: .int x :: st) := by
  obtain ⟨p, l, e, s, m, args, below, meth, c, D, cs, a0, A0⟩ := K
  intro C H locs la hP hA hS hl
  exact lv_icmp_eq C.1 C.2.1 hd ht (fun h => kt h C H locs la hP hA hS hl) (fun h => kf h C H locs la hP hA hS hl)
theorem aw_ic_ne {x y : Int32} {off : Int} {tgt : Nat} (hd : decode cc pc = .ok (.if_icmp .ne off, 3)) (ht : (pc : Int) + off = (tgt : Int)) (kt : ¬ x = y → AW K own cc M d mc ms Q n z σ cells slots tgt ls st) (kf : x = y → AW K own cc M d mc ms Q n z σ cells slots (pc + 3) ls st) : AW K own cc M d mc ms Q n z σ cells slots pc ls (.int y :: .int x :: st) := by
  obtain ⟨p, l, e, s, m, args, below, meth, c, D, cs, a0, A0⟩ := K
  intro C H locs la hP hA hS hl
  exact lv_icmp_ne C.1 C.2.1 hd ht (fun h => kt h C H locs la hP hA hS hl) (fun h => kf h C H locs la hP hA hS hl)
theorem aw_ic_lt {x y : Int32} {off : Int} {tgt : Nat} (hd : decode cc pc = .ok (.if_icmp .lt off, 3)) (ht : (pc : Int) + off = (tgt : Int)) (kt : x < y → AW K own cc M d mc ms Q n z σ cells slots tgt ls st) (kf : ¬ x < y → AW K own cc M d mc ms Q n z σ cells slots (pc + 3) ls st) : AW K own cc M d mc ms Q n z σ cells slots pc ls (.int y :: .int x :: st) := by
  obtain ⟨p, l, e, s, m, args, below, meth, c, D, cs, a0, A0⟩ := K
  intro C H locs la hP hA hS hl
  exact lv_icmp_lt C.1 C.2.1 hd ht (fun h => kt h C H locs la hP hA hS hl) (fun h => kf h C H locs la hP hA hS hl)
theorem aw_ic_ge {x y : Int32} {off : Int} {tgt : Nat} (hd : decode cc pc = .ok (.if_icmp .ge off, 3)) (ht : (pc : Int) + off = (tgt : Int)) (kt : y ≤ x → AW K own cc M d mc ms Q n z σ cells slots tgt ls st) (kf : ¬ y ≤ x → AW K own cc M d mc ms Q n z σ cells slots (pc + 3) ls st) : AW K own cc M d mc ms Q n z σ cells slots pc ls (.int y :: .int x :: st) := by
  obtain ⟨p, l, e, s, m, args, below, meth, c, D, cs, a0, A0⟩ := K
  intro C H locs la hP hA hS hl
  exact lv_icmp_ge C.1 C.2.1 hd ht (fun h => kt h C H locs la hP hA hS hl) (fun h => kf h C H locs la hP hA hS hl)
theorem aw_ic_gt {x y : Int32} {off : Int} {tgt : Nat} (hd : decode cc pc = .ok (.if_icmp .gt off, 3)) (ht : (pc : Int) + off = (tgt : Int)) (kt : y < x → AW K own cc M d mc ms Q n z σ cells slots tgt ls st) (kf : ¬ y < x → AW K own cc M d mc ms Q n z σ cells slots (pc + 3) ls st) : AW K own cc M d mc ms Q n z σ cells slots pc ls (.int y :: .int x :: st) := by
  obtain ⟨p, l, e, s, m, args, below, meth, c, D, cs, a0, A0⟩ := K
  intro C H locs la hP hA hS hl
  exact lv_icmp_gt C.1 C.2.1 hd ht (fun h => kt h C H locs la hP hA hS hl) (fun h => kf h C H locs la hP hA hS hl)
theorem aw_ic_le {x y : Int32} {off : Int} {tgt : Nat} (hd : decode cc pc = .ok (.if_icmp .le off, 3)) (ht : (pc : Int) + off = (tgt : Int)) (kt : x ≤ y → AW K own cc M d mc ms Q n z σ cells slots tgt ls st) (kf : ¬ x ≤ y → AW K own cc M d mc ms Q n z σ cells slots (pc + 3) ls st) : AW K own cc M d mc ms Q n z σ cells slots pc ls (.int y :: .int x :: st) := by
  obtain ⟨p, l, e, s, m, args, below, meth, c, D, cs, a0, A0⟩ := K
  intro C H locs la hP hA hS hl
  exact lv_icmp_le C.1 C.2.1 hd ht (fun h => kt h C H locs la hP hA hS hl) (fun h => kf h C H locs la hP hA hS hl)
theorem aw_goto {off : Int} {tgt : Nat} (hd : decode cc pc = .ok (.goto off, 3)) (ht : (pc : Int) + off = (tgt : Int)) (k : AW K own cc M d mc ms Q n z σ cells slots tgt ls st) : AW K own cc M d mc ms Q n z σ cells slots pc ls st := by
  obtain ⟨p, l, e, s, m, args, below, meth, c, D, cs, a0, A0⟩ := K
  intro C H locs la hP hA hS hl
  exact lv_goto C.1 C.2.1 hd ht (k C H locs la hP hA hS hl)
theorem aw_ifnull {i : Nat} {off : Int} (hd : decode cc pc = .ok (.ifnull off, 3)) (k : AW K own cc M d mc ms Q n z σ cells slots (pc + 3) ls st) : AW K own cc M d mc ms Q n z σ cells slots pc ls (.ref i :: st) := by
  obtain ⟨p, l, e, s, m, args, below, meth, c, D, cs, a0, A0⟩ := K
  intro C H locs la hP hA hS hl
  exact lv_ifnull C.1 C.2.1 hd (k C H locs la hP hA hS hl)
theorem aw_ifnullN {off : Int} {tgt : Nat} (hd : decode cc pc = .ok (.ifnull off, 3)) (ht : (pc : Int) + off = (tgt : Int)) (k : AW K own cc M d mc ms Q n z σ cells slots tgt ls st) : AW K own cc M d mc ms Q n z σ cells slots pc ls (.null :: st) := by
  obtain ⟨p, l, e, s, m, args, below, meth, c, D, cs, a0, A0⟩ := K
  intro C H locs la hP hA hS hl
  exact lv_ifnullN C.1 C.2.1 hd ht (k C H locs la hP hA hS hl)
theorem aw_ifnn {i : Nat} {off : Int} {tgt : Nat} (hd : decode cc pc = .ok (.ifnonnull off, 3)) (ht : (pc : Int) + off = (tgt : Int)) (k : AW K own cc M d mc ms Q n z σ cells slots tgt ls st) : AW K own cc M d mc ms Q n z σ cells slots pc ls (.ref i :: st) := by
  obtain ⟨p, l, e, s, m, args, below, meth, c, D, cs, a0, A0⟩ := K
  intro C H locs la hP hA hS hl
  exact lv_ifnonnull C.1 C.2.1 hd ht (k C H locs la hP hA hS hl)
theorem aw_ifnnN {off : Int} (hd : decode cc pc = .ok (.ifnonnull off, 3)) (k : AW K own cc M d mc ms Q n z σ cells slots (pc + 3) ls st) : AW K own cc M d mc ms Q n z σ cells slots pc ls (.null :: st) := by
  obtain ⟨p, l, e, s, m, args, below, meth, c, D, cs, a0, A0⟩ := K
  intro C H locs la hP hA hS hl
  exact lv_ifnonnullN C.1 C.2.1 hd (k C H locs la hP hA hS hl)
theorem aw_table {dflt lo hi : Int} {offs : Array Int} {len : Nat} {x : Int32} {off : Int} {tgt : Nat} (hd : decode cc pc = .ok (.tableswitch dflt lo hi offs, len)) (h1 : ¬ x.toInt < lo) (h2 : ¬ hi < x.toInt) (ho : offs[(x.toInt - lo).toNat]? = some off) (ht : (pc : Int) + off = (tgt : Int)) (k : AW K own cc M d mc ms Q n z σ cells slots tgt ls st) : AW K own cc M d mc ms Q n z σ cells slots pc ls (.int x :: st) := by
  obtain ⟨p, l, e, s, m, args, below, meth, c, D, cs, a0, A0⟩ := K
  intro C H locs la hP hA hS hl
  exact lv_tableIn C.1 C.2.1 hd h1 h2 ho ht (k C H locs la hP hA hS hl)
theorem aw_tableO {dflt lo hi : Int} {offs : Array Int} {len : Nat} {x : Int32} {tgt : Nat} (hd : decode cc pc = .ok (.tableswitch dflt lo hi offs, len)) (h : x.toInt < lo ∨ hi < x.toInt) (ht : (pc : Int) + dflt = (tgt : Int)) (k : AW K own cc M d mc ms Q n z σ cells slots tgt ls st) : AW K own cc M d mc ms Q n z σ cells slots pc ls (.int x :: st) := by
  obtain ⟨p, l, e, s, m, args, below, meth, c, D, cs, a0, A0⟩ := K
  intro C H locs la hP hA hS hl
  exact lv_tableOut C.1 C.2.1 hd h ht (k C H locs la hP hA hS hl)
theorem aw_lookup {dflt : Int} {ps : Array (Int × Int)} {len : Nat} {x : Int32} {off : Int} {tgt : Nat} (hd : decode cc pc = .ok (.lookupswitch dflt ps, len)) (hp : (ps.toList.zip (ps.toList.drop 1)).all (fun (a, next) => a.1 < next.1) = true) (ho : Op.lookupswitch.offset ps.toList dflt x.toInt = off) (ht : (pc : Int) + off = (tgt : Int)) (k : AW K own cc M d mc ms Q n z σ cells slots tgt ls st) : AW K own cc M d mc ms Q n z σ cells slots pc ls (.int x :: st) := by
  obtain ⟨p, l, e, s, m, args, below, meth, c, D, cs, a0, A0⟩ := K
  intro C H locs la hP hA hS hl
  exact lv_lookup C.1 C.2.1 hd hp ho ht (k C H locs la hP hA hS hl)
theorem aw_iload0 {v : Int32} {r : List (Option Value)} (hd : decode cc pc = .ok (.iload_n 0, 1)) (k : AW K own cc M d mc ms Q n z σ cells slots (pc + 1) (some (.int v) :: r) (.int v :: st)) : AW K own cc M d mc ms Q n z σ cells slots pc (some (.int v) :: r) st := by
  obtain ⟨p, l, e, s, m, args, below, meth, c, D, cs, a0, A0⟩ := K
  intro C H locs la hP hA hS hl
  exact lv_iload_n C.1 C.2.1 hd rfl (hl.at (i := 0) (v := .int v) rfl) (k C H locs la hP hA hS hl)
theorem aw_lload0 {v : Int64} {r : List (Option Value)} (hd : decode cc pc = .ok (.lload_n 0, 1)) (k : AW K own cc M d mc ms Q n z σ cells slots (pc + 1) (some (.long v) :: r) (.long v :: st)) : AW K own cc M d mc ms Q n z σ cells slots pc (some (.long v) :: r) st := by
  obtain ⟨p, l, e, s, m, args, below, meth, c, D, cs, a0, A0⟩ := K
  intro C H locs la hP hA hS hl
  exact lv_lload_n C.1 C.2.1 hd rfl (hl.at (i := 0) (v := .long v) rfl) (k C H locs la hP hA hS hl)
theorem aw_aload0 {v : Nat} {r : List (Option Value)} (hd : decode cc pc = .ok (.aload_n 0, 1)) (k : AW K own cc M d mc ms Q n z σ cells slots (pc + 1) (some (.ref v) :: r) (.ref v :: st)) : AW K own cc M d mc ms Q n z σ cells slots pc (some (.ref v) :: r) st := by
  obtain ⟨p, l, e, s, m, args, below, meth, c, D, cs, a0, A0⟩ := K
  intro C H locs la hP hA hS hl
  exact lv_aload_n C.1 C.2.1 hd rfl (hl.at (i := 0) (v := .ref v) rfl) (k C H locs la hP hA hS hl)
theorem aw_aload0N {r : List (Option Value)} (hd : decode cc pc = .ok (.aload_n 0, 1)) (k : AW K own cc M d mc ms Q n z σ cells slots (pc + 1) (some .null :: r) (.null :: st)) : AW K own cc M d mc ms Q n z σ cells slots pc (some .null :: r) st := by
  obtain ⟨p, l, e, s, m, args, below, meth, c, D, cs, a0, A0⟩ := K
  intro C H locs la hP hA hS hl
  exact lv_aload_nN C.1 C.2.1 hd rfl (hl.at (i := 0) (v := .null) rfl) (k C H locs la hP hA hS hl)
theorem aw_istore0 {y0 : Option Value} {v : Int32} {r : List (Option Value)} (hd : decode cc pc = .ok (.istore_n 0, 1)) (hL : 0 < M.1) (k : AW K own cc M d mc ms Q n z σ cells slots (pc + 1) (some (.int v) :: r) st) : AW K own cc M d mc ms Q n z σ cells slots pc (y0 :: r) (.int v :: st) := by
  obtain ⟨p, l, e, s, m, args, below, meth, c, D, cs, a0, A0⟩ := K
  intro C H locs la hP hA hS hl
  exact lv_istore_n C.1 C.2.1 hd rfl hl.has hL rfl (fun la2 hl2 => k C H locs la2 hP hA hS (lok.set1 (v := .int v) (lnc_0 _) hl2))
theorem aw_astore0 {y0 : Option Value} {v : Nat} {r : List (Option Value)} (hd : decode cc pc = .ok (.astore_n 0, 1)) (hL : 0 < M.1) (k : AW K own cc M d mc ms Q n z σ cells slots (pc + 1) (some (.ref v) :: r) st) : AW K own cc M d mc ms Q n z σ cells slots pc (y0 :: r) (.ref v :: st) := by
  obtain ⟨p, l, e, s, m, args, below, meth, c, D, cs, a0, A0⟩ := K
  intro C H locs la hP hA hS hl
  exact lv_astore_n C.1 C.2.1 hd rfl hl.has hL rfl (fun la2 hl2 => k C H locs la2 hP hA hS (lok.set1 (v := .ref v) (lnc_0 _) hl2))
theorem aw_astore0N {y0 : Option Value} {r : List (Option Value)} (hd : decode cc pc = .ok (.astore_n 0, 1)) (hL : 0 < M.1) (k : AW K own cc M d mc ms Q n z σ cells slots (pc + 1) (some (.null) :: r) st) : AW K own cc M d mc ms Q n z σ cells slots pc (y0 :: r) (.null :: st) := by
  obtain ⟨p, l, e, s, m, args, below, meth, c, D, cs, a0, A0⟩ := K
  intro C H locs la hP hA hS hl
  exact lv_astore_nN C.1 C.2.1 hd rfl hl.has hL rfl (fun la2 hl2 => k C H locs la2 hP hA hS (lok.set1 (v := .null) (lnc_0 _) hl2))
theorem aw_astore0E {y0 : Option Value} {v : Nat} {r : List (Option Value)} (hd : decode cc pc = .ok (.astore_n 0, 1)) (hL : 0 < M.1) (k : AW K own cc M d mc ms Q n z σ cells slots (pc + 1) (some (.retAddr v) :: r) st) : AW K own cc M d mc ms Q n z σ cells slots pc (y0 :: r) (.retAddr v :: st) := by
  obtain ⟨p, l, e, s, m, args, below, meth, c, D, cs, a0, A0⟩ := K
  intro C H locs la hP hA hS hl
  exact lv_astore_n C.1 C.2.1 hd rfl hl.has hL rfl (fun la2 hl2 => k C H locs la2 hP hA hS (lok.set1 (v := .retAddr v) (lnc_0 _) hl2))
theorem aw_lstore0 {y0 y1 : Option Value} {v : Int64} {r : List (Option Value)} (hd : decode cc pc = .ok (.lstore_n 0, 1)) (hL : 0 + 1 < M.1) (k : AW K own cc M d mc ms Q n z σ cells slots (pc + 1) (some (.long v) :: none :: r) st) : AW K own cc M d mc ms Q n z σ cells slots pc (y0 :: y1 :: r) (.long v :: st) := by
  obtain ⟨p, l, e, s, m, args, below, meth, c, D, cs, a0, A0⟩ := K
  intro C H locs la hP hA hS hl
  exact lv_lstore_n C.1 C.2.1 hd rfl hl.has hL rfl (fun la2 hl2 => k C H locs la2 hP hA hS (lok.set2 (v := .long v) (lnc_0 _) hl2))
theorem aw_iinc0 {v w : Int32} {c0 : Int} {r : List (Option Value)} (hd : decode cc pc = .ok (.iinc 0 c0, 3)) (hw : v + Int32.ofInt c0 = w) (hL : 0 < M.1) (k : AW K own cc M d mc ms Q n z σ cells slots (pc + 3) (some (.int w) :: r) st) : AW K own cc M d mc ms Q n z σ cells slots pc (some (.int v) :: r) st := by
  obtain ⟨p, l, e, s, m, args, below, meth, c, D, cs, a0, A0⟩ := K
  intro C H locs la hP hA hS hl
  obtain ⟨q, hq⟩ := List.getElem?_of_mem (lpr_mem (a0 := a0) (ls := (some (.int v) :: r)) (i := 0) (v := .int v) rfl)
  exact lv_iinc C.1 C.2.1 hd hl.has hq hw hL rfl (fun la2 hl2 => k C H locs la2 hP hA hS (lok.set1 (v := .int w) (lnc_0 _) hl2))
theorem aw_iload1 {x0 : Option Value} {v : Int32} {r : List (Option Value)} (hd : decode cc pc = .ok (.iload_n 1, 1)) (k : AW K own cc M d mc ms Q n z σ cells slots (pc + 1) (x0 :: some (.int v) :: r) (.int v :: st)) : AW K own cc M d mc ms Q n z σ cells slots pc (x0 :: some (.int v) :: r) st := by
  obtain ⟨p, l, e, s, m, args, below, meth, c, D, cs, a0, A0⟩ := K
  intro C H locs la hP hA hS hl
  exact lv_iload_n C.1 C.2.1 hd rfl (hl.at (i := 1) (v := .int v) rfl) (k C H locs la hP hA hS hl)
theorem aw_lload1 {x0 : Option Value} {v : Int64} {r : List (Option Value)} (hd : decode cc pc = .ok (.lload_n 1, 1)) (k : AW K own cc M d mc ms Q n z σ cells slots (pc + 1) (x0 :: some (.long v) :: r) (.long v :: st)) : AW K own cc M d mc ms Q n z σ cells slots pc (x0 :: some (.long v) :: r) st := by
  obtain ⟨p, l, e, s, m, args, below, meth, c, D, cs, a0, A0⟩ := K
  intro C H locs la hP hA hS hl
  exact lv_lload_n C.1 C.2.1 hd rfl (hl.at (i := 1) (v := .long v) rfl) (k C H locs la hP hA hS hl)
theorem aw_aload1 {x0 : Option Value} {v : Nat} {r : List (Option Value)} (hd : decode cc pc = .ok (.aload_n 1, 1)) (k : AW K own cc M d mc ms Q n z σ cells slots (pc + 1) (x0 :: some (.ref v) :: r) (.ref v :: st)) : AW K own cc M d mc ms Q n z σ cells slots pc (x0 :: some (.ref v) :: r) st := by
  obtain ⟨p, l, e, s, m, args, below, meth, c, D, cs, a0, A0⟩ := K
  intro C H locs la hP hA hS hl
  exact lv_aload_n C.1 C.2.1 hd rfl (hl.at (i := 1) (v := .ref v) rfl) (k C H locs la hP hA hS hl)
theorem aw_aload1N {x0 : Option Value} {r : List (Option Value)} (hd : decode cc pc = .ok (.aload_n 1, 1)) (k : AW K own cc M d mc ms Q n z σ cells slots (pc + 1) (x0 :: some .null :: r) (.null :: st)) : AW K own cc M d mc ms Q n z σ cells slots pc (x0 :: some .null :: r) st := by
  obtain ⟨p, l, e, s, m, args, below, meth, c, D, cs, a0, A0⟩ := K
  intro C H locs la hP hA hS hl
  exact lv_aload_nN C.1 C.2.1 hd rfl (hl.at (i := 1) (v := .null) rfl) (k C H locs la hP hA hS hl)
theorem aw_istore1 {x0 : Option Value} {y0 : Option Value} {v : Int32} {r : List (Option Value)} (hd : decode cc pc = .ok (.istore_n 1, 1)) (hL : 1 < M.1) (hn : c1b x0 = true) (k : AW K own cc M d mc ms Q n z σ cells slots (pc + 1) (x0 :: some (.int v) :: r) st) : AW K own cc M d mc ms Q n z σ cells slots pc (x0 :: y0 :: r) (.int v :: st) := by
  obtain ⟨p, l, e, s, m, args, below, meth, c, D, cs, a0, A0⟩ := K
  intro C H locs la hP hA hS hl
  exact lv_istore_n C.1 C.2.1 hd rfl hl.has hL rfl (fun la2 hl2 => k C H locs la2 hP hA hS (lok.set1 (v := .int v) (lnc_s hn) hl2))
theorem aw_astore1 {x0 : Option Value} {y0 : Option Value} {v : Nat} {r : List (Option Value)} (hd : decode cc pc = .ok (.astore_n 1, 1)) (hL : 1 < M.1) (hn : c1b x0 = true) (k : AW K own cc M d mc ms Q n z σ cells slots (pc + 1) (x0 :: some (.ref v) :: r) st) : AW K own cc M d mc ms Q n z σ cells slots pc (x0 :: y0 :: r) (.ref v :: st) := by
  obtain ⟨p, l, e, s, m, args, below, meth, c, D, cs, a0, A0⟩ := K
  intro C H locs la hP hA hS hl
  exact lv_astore_n C.1 C.2.1 hd rfl hl.has hL rfl (fun la2 hl2 => k C H locs la2 hP hA hS (lok.set1 (v := .ref v) (lnc_s hn) hl2))
theorem aw_astore1N {x0 : Option Value} {y0 : Option Value} {r : List (Option Value)} (hd : decode cc pc = .ok (.astore_n 1, 1)) (hL : 1 < M.1) (hn : c1b x0 = true) (k : AW K own cc M d mc ms Q n z σ cells slots (pc + 1) (x0 :: some (.null) :: r) st) : AW K own cc M d mc ms Q n z σ cells slots pc (x0 :: y0 :: r) (.null :: st) := by
  obtain ⟨p, l, e, s, m, args, below, meth, c, D, cs, a0, A0⟩ := K
  intro C H locs la hP hA hS hl
  exact lv_astore_nN C.1 C.2.1 hd rfl hl.has hL rfl (fun la2 hl2 => k C H locs la2 hP hA hS (lok.set1 (v := .null) (lnc_s hn) hl2))
theorem aw_astore1E {x0 : Option Value} {y0 : Option Value} {v : Nat} {r : List (Option Value)} (hd : decode cc pc = .ok (.astore_n 1, 1)) (hL : 1 < M.1) (hn : c1b x0 = true) (k : AW K own cc M d mc ms Q n z σ cells slots (pc + 1) (x0 :: some (.retAddr v) :: r) st) : AW K own cc M d mc ms Q n z σ cells slots pc (x0 :: y0 :: r) (.retAddr v :: st) := by
  obtain ⟨p, l, e, s, m, args, below, meth, c, D, cs, a0, A0⟩ := K
  intro C H locs la hP hA hS hl
  exact lv_astore_n C.1 C.2.1 hd rfl hl.has hL rfl (fun la2 hl2 => k C H locs la2 hP hA hS (lok.set1 (v := .retAddr v) (lnc_s hn) hl2))
theorem aw_lstore1 {x0 : Option Value} {y0 y1 : Option Value} {v : Int64} {r : List (Option Value)} (hd : decode cc pc = .ok (.lstore_n 1, 1)) (hL : 1 + 1 < M.1) (hn : c1b x0 = true) (k : AW K own cc M d mc ms Q n z σ cells slots (pc + 1) (x0 :: some (.long v) :: none :: r) st) : AW K own cc M d mc ms Q n z σ cells slots pc (x0 :: y0 :: y1 :: r) (.long v :: st) := by
  obtain ⟨p, l, e, s, m, args, below, meth, c, D, cs, a0, A0⟩ := K
  intro C H locs la hP hA hS hl
  exact lv_lstore_n C.1 C.2.1 hd rfl hl.has hL rfl (fun la2 hl2 => k C H locs la2 hP hA hS (lok.set2 (v := .long v) (lnc_s hn) hl2))
theorem aw_iinc1 {x0 : Option Value} {v w : Int32} {c0 : Int} {r : List (Option Value)} (hd : decode cc pc = .ok (.iinc 1 c0, 3)) (hw : v + Int32.ofInt c0 = w) (hL : 1 < M.1) (hn : c1b x0 = true) (k : AW K own cc M d mc ms Q n z σ cells slots (pc + 3) (x0 :: some (.int w) :: r) st) : AW K own cc M d mc ms Q n z σ cells slots pc (x0 :: some (.int v) :: r) st := by
  obtain ⟨p, l, e, s, m, args, below, meth, c, D, cs, a0, A0⟩ := K
  intro C H locs la hP hA hS hl
  obtain ⟨q, hq⟩ := List.getElem?_of_mem (lpr_mem (a0 := a0) (ls := (x0 :: some (.int v) :: r)) (i := 1) (v := .int v) rfl)
  exact lv_iinc C.1 C.2.1 hd hl.has hq hw hL rfl (fun la2 hl2 => k C H locs la2 hP hA hS (lok.set1 (v := .int w) (lnc_s hn) hl2))
theorem aw_iload2 {x0 x1 : Option Value} {v : Int32} {r : List (Option Value)} (hd : decode cc pc = .ok (.iload_n 2, 1)) (k : AW K own cc M d mc ms Q n z σ cells slots (pc + 1) (x0 :: x1 :: some (.int v) :: r) (.int v :: st)) : AW K own cc M d mc ms Q n z σ cells slots pc (x0 :: x1 :: some (.int v) :: r) st := by
  obtain ⟨p, l, e, s, m, args, below, meth, c, D, cs, a0, A0⟩ := K
  intro C H locs la hP hA hS hl
  exact lv_iload_n C.1 C.2.1 hd rfl (hl.at (i := 2) (v := .int v) rfl) (k C H locs la hP hA hS hl)
theorem aw_lload2 {x0 x1 : Option Value} {v : Int64} {r : List (Option Value)} (hd : decode cc pc = .ok (.lload_n 2, 1)) (k : AW K own cc M d mc ms Q n z σ cells slots (pc + 1) (x0 :: x1 :: some (.long v) :: r) (.long v :: st)) : AW K own cc M d mc ms Q n z σ cells slots pc (x0 :: x1 :: some (.long v) :: r) st := by
  obtain ⟨p, l, e, s, m, args, below, meth, c, D, cs, a0, A0⟩ := K
  intro C H locs la hP hA hS hl
  exact lv_lload_n C.1 C.2.1 hd rfl (hl.at (i := 2) (v := .long v) rfl) (k C H locs la hP hA hS hl)
theorem aw_aload2 {x0 x1 : Option Value} {v : Nat} {r : List (Option Value)} (hd : decode cc pc = .ok (.aload_n 2, 1)) (k : AW K own cc M d mc ms Q n z σ cells slots (pc + 1) (x0 :: x1 :: some (.ref v) :: r) (.ref v :: st)) : AW K own cc M d mc ms Q n z σ cells slots pc (x0 :: x1 :: some (.ref v) :: r) st := by
  obtain ⟨p, l, e, s, m, args, below, meth, c, D, cs, a0, A0⟩ := K
  intro C H locs la hP hA hS hl
  exact lv_aload_n C.1 C.2.1 hd rfl (hl.at (i := 2) (v := .ref v) rfl) (k C H locs la hP hA hS hl)
theorem aw_aload2N {x0 x1 : Option Value} {r : List (Option Value)} (hd : decode cc pc = .ok (.aload_n 2, 1)) (k : AW K own cc M d mc ms Q n z σ cells slots (pc + 1) (x0 :: x1 :: some .null :: r) (.null :: st)) : AW K own cc M d mc ms Q n z σ cells slots pc (x0 :: x1 :: some .null :: r) st := by
  obtain ⟨p, l, e, s, m, args, below, meth, c, D, cs, a0, A0⟩ := K
  intro C H locs la hP hA hS hl
  exact lv_aload_nN C.1 C.2.1 hd rfl (hl.at (i := 2) (v := .null) rfl) (k C H locs la hP hA hS hl)
theorem aw_istore2 {x0 x1 : Option Value} {y0 : Option Value} {v : Int32} {r : List (Option Value)} (hd : decode cc pc = .ok (.istore_n 2, 1)) (hL : 2 < M.1) (hn : c1b x1 = true) (k : AW K own cc M d mc ms Q n z σ cells slots (pc + 1) (x0 :: x1 :: some (.int v) :: r) st) : AW K own cc M d mc ms Q n z σ cells slots pc (x0 :: x1 :: y0 :: r) (.int v :: st) := by
  obtain ⟨p, l, e, s, m, args, below, meth, c, D, cs, a0, A0⟩ := K
  intro C H locs la hP hA hS hl
  exact lv_istore_n C.1 C.2.1 hd rfl hl.has hL rfl (fun la2 hl2 => k C H locs la2 hP hA hS (lok.set1 (v := .int v) (lnc_s hn) hl2))
theorem aw_astore2 {x0 x1 : Option Value} {y0 : Option Value} {v : Nat} {r : List (Option Value)} (hd : decode cc pc = .ok (.astore_n 2, 1)) (hL : 2 < M.1) (hn : c1b x1 = true) (k : AW K own cc M d mc ms Q n z σ cells slots (pc + 1) (x0 :: x1 :: some (.ref v) :: r) st) : AW K own cc M d mc ms Q n z σ cells slots pc (x0 :: x1 :: y0 :: r) (.ref v :: st) := by
  obtain ⟨p, l, e, s, m, args, below, meth, c, D, cs, a0, A0⟩ := K
  intro C H locs la hP hA hS hl
  exact lv_astore_n C.1 C.2.1 hd rfl hl.has hL rfl (fun la2 hl2 => k C H locs la2 hP hA hS (lok.set1 (v := .ref v) (lnc_s hn) hl2))
theorem aw_astore2N {x0 x1 : Option Value} {y0 : Option Value} {r : List (Option Value)} (hd : decode cc pc = .ok (.astore_n 2, 1)) (hL : 2 < M.1) (hn : c1b x1 = true) (k : AW K own cc M d mc ms Q n z σ cells slots (pc + 1) (x0 :: x1 :: some (.null) :: r) st) : AW K own cc M d mc ms Q n z σ cells slots pc (x0 :: x1 :: y0 :: r) (.null :: st) := by
  obtain ⟨p, l, e, s, m, args, below, meth, c, D, cs, a0, A0⟩ := K
  intro C H locs la hP hA hS hl
  exact lv_astore_nN C.1 C.2.1 hd rfl hl.has hL rfl (fun la2 hl2 => k C H locs la2 hP hA hS (lok.set1 (v := .null) (lnc_s hn) hl2))
theorem aw_astore2E {x0 x1 : Option Value} {y0 : Option Value} {v : Nat} {r : List (Option Value)} (hd : decode cc pc = .ok (.astore_n 2, 1)) (hL : 2 < M.1) (hn : c1b x1 = true) (k : AW K own cc M d mc ms Q n z σ cells slots (pc + 1) (x0 :: x1 :: some (.retAddr v) :: r) st) : AW K own cc M d mc ms Q n z σ cells slots pc (x0 :: x1 :: y0 :: r) (.retAddr v :: st) := by
  obtain ⟨p, l, e, s, m, args, below, meth, c, D, cs, a0, A0⟩ := K
  intro C H locs la hP hA hS hl
  exact lv_astore_n C.1 C.2.1 hd rfl hl.has hL rfl (fun la2 hl2 => k C H locs la2 hP hA hS (lok.set1 (v := .retAddr v) (lnc_s hn) hl2))
theorem aw_lstore2 {x0 x1 : Option Value} {y0 y1 : Option Value} {v : Int64} {r : List (Option Value)} (hd : decode cc pc = .ok (.lstore_n 2, 1)) (hL : 2 + 1 < M.1) (hn : c1b x1 = true) (k : AW K own cc M d mc ms Q n z σ cells slots (pc + 1) (x0 :: x1 :: some (.long v) :: none :: r) st) : AW K own cc M d mc ms Q n z σ cells slots pc (x0 :: x1 :: y0 :: y1 :: r) (.long v :: st) := by
  obtain ⟨p, l, e, s, m, args, below, meth, c, D, cs, a0, A0⟩ := K
  intro C H locs la hP hA hS hl
  exact lv_lstore_n C.1 C.2.1 hd rfl hl.has hL rfl (fun la2 hl2 => k C H locs la2 hP hA hS (lok.set2 (v := .long v) (lnc_s hn) hl2))
theorem aw_iinc2 {x0 x1 : Option Value} {v w : Int32} {c0 : Int} {r : List (Option Value)} (hd : decode cc pc = .ok (.iinc 2 c0, 3)) (hw : v + Int32.ofInt c0 = w) (hL : 2 < M.1) (hn : c1b x1 = true) (k : AW K own cc M d mc ms Q n z σ cells slots (pc + 3) (x0 :: x1 :: some (.int w) :: r) st) : AW K own cc M d mc ms Q n z σ cells slots pc (x0 :: x1 :: some (.int v) :: r) st := by
  obtain ⟨p, l, e, s, m, args, below, meth, c, D, cs, a0, A0⟩ := K
  intro C H locs la hP hA hS hl
  obtain ⟨q, hq⟩ := List.getElem?_of_mem (lpr_mem (a0 := a0) (ls := (x0 :: x1 :: some (.int v) :: r)) (i := 2) (v := .int v) rfl)
  exact lv_iinc C.1 C.2.1 hd hl.has hq hw hL rfl (fun la2 hl2 => k C H locs la2 hP hA hS (lok.set1 (v := .int w) (lnc_s hn) hl2))
theorem aw_iload3 {x0 x1 x2 : Option Value} {v : Int32} {r : List (Option Value)} (hd : decode cc pc = .ok (.iload_n 3, 1)) (k : AW K own cc M d mc ms Q n z σ cells slots (pc + 1) (x0 :: x1 :: x2 :: some (.int v) :: r) (.int v :: st)) : AW K own cc M d mc ms Q n z σ cells slots pc (x0 :: x1 :: x2 :: some (.int v) :: r) st := by
  obtain ⟨p, l, e, s, m, args, below, meth, c, D, cs, a0, A0⟩ := K
  intro C H locs la hP hA hS hl
  exact lv_iload_n C.1 C.2.1 hd rfl (hl.at (i := 3) (v := .int v) rfl) (k C H locs la hP hA hS hl)
theorem aw_lload3 {x0 x1 x2 : Option Value} {v : Int64} {r : List (Option Value)} (hd : decode cc pc = .ok (.lload_n 3, 1)) (k : AW K own cc M d mc ms Q n z σ cells slots (pc + 1) (x0 :: x1 :: x2 :: some (.long v) :: r) (.long v :: st)) : AW K own cc M d mc ms Q n z σ cells slots pc (x0 :: x1 :: x2 :: some (.long v) :: r) st := by
  obtain ⟨p, l, e, s, m, args, below, meth, c, D, cs, a0, A0⟩ := K
  intro C H locs la hP hA hS hl
  exact lv_lload_n C.1 C.2.1 hd rfl (hl.at (i := 3) (v := .long v) rfl) (k C H locs la hP hA hS hl)
theorem aw_aload3 {x0 x1 x2 : Option Value} {v : Nat} {r : List (Option Value)} (hd : decode cc pc = .ok (.aload_n 3, 1)) (k : AW K own cc M d mc ms Q n z σ cells slots (pc + 1) (x0 :: x1 :: x2 :: some (.ref v) :: r) (.ref v :: st)) : AW K own cc M d mc ms Q n z σ cells slots pc (x0 :: x1 :: x2 :: some (.ref v) :: r) st := by
  obtain ⟨p, l, e, s, m, args, below, meth, c, D, cs, a0, A0⟩ := K
  intro C H locs la hP hA hS hl
  exact lv_aload_n C.1 C.2.1 hd rfl (hl.at (i := 3) (v := .ref v) rfl) (k C H locs la hP hA hS hl)
theorem aw_aload3N {x0 x1 x2 : Option Value} {r : List (Option Value)} (hd : decode cc pc = .ok (.aload_n 3, 1)) (k : AW K own cc M d mc ms Q n z σ cells slots (pc + 1) (x0 :: x1 :: x2 :: some .null :: r) (.null :: st)) : AW K own cc M d mc ms Q n z σ cells slots pc (x0 :: x1 :: x2 :: some .null :: r) st := by
  obtain ⟨p, l, e, s, m, args, below, meth, c, D, cs, a0, A0⟩ := K
  intro C H locs la hP hA hS hl
  exact lv_aload_nN C.1 C.2.1 hd rfl (hl.at (i := 3) (v := .null) rfl) (k C H locs la hP hA hS hl)
theorem aw_istore3 {x0 x1 x2 : Option Value} {y0 : Option Value} {v : Int32} {r : List (Option Value)} (hd : decode cc pc = .ok (.istore_n 3, 1)) (hL : 3 < M.1) (hn : c1b x2 = true) (k : AW K own cc M d mc ms Q n z σ cells slots (pc + 1) (x0 :: x1 :: x2 :: some (.int v) :: r) st) : AW K own cc M d mc ms Q n z σ cells slots pc (x0 :: x1 :: x2 :: y0 :: r) (.int v :: st) := by
  obtain ⟨p, l, e, s, m, args, below, meth, c, D, cs, a0, A0⟩ := K
  intro C H locs la hP hA hS hl
  exact lv_istore_n C.1 C.2.1 hd rfl hl.has hL rfl (fun la2 hl2 => k C H locs la2 hP hA hS (lok.set1 (v := .int v) (lnc_s hn) hl2))
theorem aw_astore3 {x0 x1 x2 : Option Value} {y0 : Option Value} {v : Nat} {r : List (Option Value)} (hd : decode cc pc = .ok (.astore_n 3, 1)) (hL : 3 < M.1) (hn : c1b x2 = true) (k : AW K own cc M d mc ms Q n z σ cells slots (pc + 1) (x0 :: x1 :: x2 :: some (.ref v) :: r) st) : AW K own cc M d mc ms Q n z σ cells slots pc (x0 :: x1 :: x2 :: y0 :: r) (.ref v :: st) := by
  obtain ⟨p, l, e, s, m, args, below, meth, c, D, cs, a0, A0⟩ := K
  intro C H locs la hP hA hS hl
  exact lv_astore_n C.1 C.2.1 hd rfl hl.has hL rfl (fun la2 hl2 => k C H locs la2 hP hA hS (lok.set1 (v := .ref v) (lnc_s hn) hl2))
theorem aw_astore3N {x0 x1 x2 : Option Value} {y0 : Option Value} {r : List (Option Value)} (hd : decode cc pc = .ok (.astore_n 3, 1)) (hL : 3 < M.1) (hn : c1b x2 = true) (k : AW K own cc M d mc ms Q n z σ cells slots (pc + 1) (x0 :: x1 :: x2 :: some (.null) :: r) st) : AW K own cc M d mc ms Q n z σ cells slots pc (x0 :: x1 :: x2 :: y0 :: r) (.null :: st) := by
  obtain ⟨p, l, e, s, m, args, below, meth, c, D, cs, a0, A0⟩ := K
  intro C H locs la hP hA hS hl
  exact lv_astore_nN C.1 C.2.1 hd rfl hl.has hL rfl (fun la2 hl2 => k C H locs la2 hP hA hS (lok.set1 (v := .null) (lnc_s hn) hl2))
theorem aw_astore3E {x0 x1 x2 : Option Value} {y0 : Option Value} {v : Nat} {r : List (Option Value)} (hd : decode cc pc = .ok (.astore_n 3, 1)) (hL : 3 < M.1) (hn : c1b x2 = true) (k : AW K own cc M d mc ms Q n z σ cells slots (pc + 1) (x0 :: x1 :: x2 :: some (.retAddr v) :: r) st) : AW K own cc M d mc ms Q n z σ cells slots pc (x0 :: x1 :: x2 :: y0 :: r) (.retAddr v :: st) := by
  obtain ⟨p, l, e, s, m, args, below, meth, c, D, cs, a0, A0⟩ := K
  intro C H locs la hP hA hS hl
  exact lv_astore_n C.1 C.2.1 hd rfl hl.has hL rfl (fun la2 hl2 => k C H locs la2 hP hA hS (lok.set1 (v := .retAddr v) (lnc_s hn) hl2))
theorem aw_lstore3 {x0 x1 x2 : Option Value} {y0 y1 : Option Value} {v : Int64} {r : List (Option Value)} (hd : decode cc pc = .ok (.lstore_n 3, 1)) (hL : 3 + 1 < M.1) (hn : c1b x2 = true) (k : AW K own cc M d mc ms Q n z σ cells slots (pc + 1) (x0 :: x1 :: x2 :: some (.long v) :: none :: r) st) : AW K own cc M d mc ms Q n z σ cells slots pc (x0 :: x1 :: x2 :: y0 :: y1 :: r) (.long v :: st) := by
  obtain ⟨p, l, e, s, m, args, below, meth, c, D, cs, a0, A0⟩ := K
  intro C H locs la hP hA hS hl
  exact lv_lstore_n C.1 C.2.1 hd rfl hl.has hL rfl (fun la2 hl2 => k C H locs la2 hP hA hS (lok.set2 (v := .long v) (lnc_s hn) hl2))
theorem aw_iinc3 {x0 x1 x2 : Option Value} {v w : Int32} {c0 : Int} {r : List (Option Value)} (hd : decode cc pc = .ok (.iinc 3 c0, 3)) (hw : v + Int32.ofInt c0 = w) (hL : 3 < M.1) (hn : c1b x2 = true) (k : AW K own cc M d mc ms Q n z σ cells slots (pc + 3) (x0 :: x1 :: x2 :: some (.int w) :: r) st) : AW K own cc M d mc ms Q n z σ cells slots pc (x0 :: x1 :: x2 :: some (.int v) :: r) st := by
  obtain ⟨p, l, e, s, m, args, below, meth, c, D, cs, a0, A0⟩ := K
  intro C H locs la hP hA hS hl
  obtain ⟨q, hq⟩ := List.getElem?_of_mem (lpr_mem (a0 := a0) (ls := (x0 :: x1 :: x2 :: some (.int v) :: r)) (i := 3) (v := .int v) rfl)
  exact lv_iinc C.1 C.2.1 hd hl.has hq hw hL rfl (fun la2 hl2 => k C H locs la2 hP hA hS (lok.set1 (v := .int w) (lnc_s hn) hl2))
theorem aw_iload4 {x0 x1 x2 x3 : Option Value} {v : Int32} {r : List (Option Value)} (hd : decode cc pc = .ok (.iload 4, 2)) (k : AW K own cc M d mc ms Q n z σ cells slots (pc + 2) (x0 :: x1 :: x2 :: x3 :: some (.int v) :: r) (.int v :: st)) : AW K own cc M d mc ms Q n z σ cells slots pc (x0 :: x1 :: x2 :: x3 :: some (.int v) :: r) st := by
  obtain ⟨p, l, e, s, m, args, below, meth, c, D, cs, a0, A0⟩ := K
  intro C H locs la hP hA hS hl
  exact lv_iload C.1 C.2.1 hd (hl.at (i := 4) (v := .int v) rfl) (k C H locs la hP hA hS hl)
theorem aw_lload4 {x0 x1 x2 x3 : Option Value} {v : Int64} {r : List (Option Value)} (hd : decode cc pc = .ok (.lload 4, 2)) (k : AW K own cc M d mc ms Q n z σ cells slots (pc + 2) (x0 :: x1 :: x2 :: x3 :: some (.long v) :: r) (.long v :: st)) : AW K own cc M d mc ms Q n z σ cells slots pc (x0 :: x1 :: x2 :: x3 :: some (.long v) :: r) st := by
  obtain ⟨p, l, e, s, m, args, below, meth, c, D, cs, a0, A0⟩ := K
  intro C H locs la hP hA hS hl
  exact lv_lload C.1 C.2.1 hd (hl.at (i := 4) (v := .long v) rfl) (k C H locs la hP hA hS hl)
theorem aw_aload4 {x0 x1 x2 x3 : Option Value} {v : Nat} {r : List (Option Value)} (hd : decode cc pc = .ok (.aload 4, 2)) (k : AW K own cc M d mc ms Q n z σ cells slots (pc + 2) (x0 :: x1 :: x2 :: x3 :: some (.ref v) :: r) (.ref v :: st)) : AW K own cc M d mc ms Q n z σ cells slots pc (x0 :: x1 :: x2 :: x3 :: some (.ref v) :: r) st := by
  obtain ⟨p, l, e, s, m, args, below, meth, c, D, cs, a0, A0⟩ := K
  intro C H locs la hP hA hS hl
  exact lv_aload C.1 C.2.1 hd (hl.at (i := 4) (v := .ref v) rfl) (k C H locs la hP hA hS hl)
theorem aw_aload4N {x0 x1 x2 x3 : Option Value} {r : List (Option Value)} (hd : decode cc pc = .ok (.aload 4, 2)) (k : AW K own cc M d mc ms Q n z σ cells slots (pc + 2) (x0 :: x1 :: x2 :: x3 :: some .null :: r) (.null :: st)) : AW K own cc M d mc ms Q n z σ cells slots pc (x0 :: x1 :: x2 :: x3 :: some .null :: r) st := by
  obtain ⟨p, l, e, s, m, args, below, meth, c, D, cs, a0, A0⟩ := K
  intro C H locs la hP hA hS hl
  exact lv_aloadN C.1 C.2.1 hd (hl.at (i := 4) (v := .null) rfl) (k C H locs la hP hA hS hl)
theorem aw_istore4 {x0 x1 x2 x3 : Option Value} {y0 : Option Value} {v : Int32} {r : List (Option Value)} (hd : decode cc pc = .ok (.istore 4, 2)) (hL : 4 < M.1) (hn : c1b x3 = true) (k : AW K own cc M d mc ms Q n z σ cells slots (pc + 2) (x0 :: x1 :: x2 :: x3 :: some (.int v) :: r) st) : AW K own cc M d mc ms Q n z σ cells slots pc (x0 :: x1 :: x2 :: x3 :: y0 :: r) (.int v :: st) := by
  obtain ⟨p, l, e, s, m, args, below, meth, c, D, cs, a0, A0⟩ := K
  intro C H locs la hP hA hS hl
  exact lv_istore C.1 C.2.1 hd hl.has hL rfl (fun la2 hl2 => k C H locs la2 hP hA hS (lok.set1 (v := .int v) (lnc_s hn) hl2))
theorem aw_astore4 {x0 x1 x2 x3 : Option Value} {y0 : Option Value} {v : Nat} {r : List (Option Value)} (hd : decode cc pc = .ok (.astore 4, 2)) (hL : 4 < M.1) (hn : c1b x3 = true) (k : AW K own cc M d mc ms Q n z σ cells slots (pc + 2) (x0 :: x1 :: x2 :: x3 :: some (.ref v) :: r) st) : AW K own cc M d mc ms Q n z σ cells slots pc (x0 :: x1 :: x2 :: x3 :: y0 :: r) (.ref v :: st) := by
  obtain ⟨p, l, e, s, m, args, below, meth, c, D, cs, a0, A0⟩ := K
  intro C H locs la hP hA hS hl
  exact lv_astore C.1 C.2.1 hd hl.has hL rfl (fun la2 hl2 => k C H locs la2 hP hA hS (lok.set1 (v := .ref v) (lnc_s hn) hl2))
theorem aw_astore4N {x0 x1 x2 x3 : Option Value} {y0 : Option Value} {r : List (Option Value)} (hd : decode cc pc = .ok (.astore 4, 2)) (hL : 4 < M.1) (hn : c1b x3 = true) (k : AW K own cc M d mc ms Q n z σ cells slots (pc + 2) (x0 :: x1 :: x2 :: x3 :: some (.null) :: r) st) : AW K own cc M d mc ms Q n z σ cells slots pc (x0 :: x1 :: x2 :: x3 :: y0 :: r) (.null :: st) := by
  obtain ⟨p, l, e, s, m, args, below, meth, c, D, cs, a0, A0⟩ := K
  intro C H locs la hP hA hS hl
  exact lv_astoreN C.1 C.2.1 hd hl.has hL rfl (fun la2 hl2 => k C H locs la2 hP hA hS (lok.set1 (v := .null) (lnc_s hn) hl2))
theorem aw_astore4E {x0 x1 x2 x3 : Option Value} {y0 : Option Value} {v : Nat} {r : List (Option Value)} (hd : decode cc pc = .ok (.astore 4, 2)) (hL : 4 < M.1) (hn : c1b x3 = true) (k : AW K own cc M d mc ms Q n z σ cells slots (pc + 2) (x0 :: x1 :: x2 :: x3 :: some (.retAddr v) :: r) st) : AW K own cc M d mc ms Q n z σ cells slots pc (x0 :: x1 :: x2 :: x3 :: y0 :: r) (.retAddr v :: st) := by
  obtain ⟨p, l, e, s, m, args, below, meth, c, D, cs, a0, A0⟩ := K
  intro C H locs la hP hA hS hl
  exact lv_astore C.1 C.2.1 hd hl.has hL rfl (fun la2 hl2 => k C H locs la2 hP hA hS (lok.set1 (v := .retAddr v) (lnc_s hn) hl2))
theorem aw_lstore4 {x0 x1 x2 x3 : Option Value} {y0 y1 : Option Value} {v : Int64} {r : List (Option Value)} (hd : decode cc pc = .ok (.lstore 4, 2)) (hL : 4 + 1 < M.1) (hn : c1b x3 = true) (k : AW K own cc M d mc ms Q n z σ cells slots (pc + 2) (x0 :: x1 :: x2 :: x3 :: some (.long v) :: none :: r) st) : AW K own cc M d mc ms Q n z σ cells slots pc (x0 :: x1 :: x2 :: x3 :: y0 :: y1 :: r) (.long v :: st) := by
  obtain ⟨p, l, e, s, m, args, below, meth, c, D, cs, a0, A0⟩ := K
  intro C H locs la hP hA hS hl
  exact lv_lstore C.1 C.2.1 hd hl.has hL rfl (fun la2 hl2 => k C H locs la2 hP hA hS (lok.set2 (v := .long v) (lnc_s hn) hl2))
theorem aw_iinc4 {x0 x1 x2 x3 : Option Value} {v w : Int32} {c0 : Int} {r : List (Option Value)} (hd : decode cc pc = .ok (.iinc 4 c0, 3)) (hw : v + Int32.ofInt c0 = w) (hL : 4 < M.1) (hn : c1b x3 = true) (k : AW K own cc M d mc ms Q n z σ cells slots (pc + 3) (x0 :: x1 :: x2 :: x3 :: some (.int w) :: r) st) : AW K own cc M d mc ms Q n z σ cells slots pc (x0 :: x1 :: x2 :: x3 :: some (.int v) :: r) st := by
  obtain ⟨p, l, e, s, m, args, below, meth, c, D, cs, a0, A0⟩ := K
  intro C H locs la hP hA hS hl
  obtain ⟨q, hq⟩ := List.getElem?_of_mem (lpr_mem (a0 := a0) (ls := (x0 :: x1 :: x2 :: x3 :: some (.int v) :: r)) (i := 4) (v := .int v) rfl)
  exact lv_iinc C.1 C.2.1 hd hl.has hq hw hL rfl (fun la2 hl2 => k C H locs la2 hP hA hS (lok.set1 (v := .int w) (lnc_s hn) hl2))
theorem aw_iload5 {x0 x1 x2 x3 x4 : Option Value} {v : Int32} {r : List (Option Value)} (hd : decode cc pc = .ok (.iload 5, 2)) (k : AW K own cc M d mc ms Q n z σ cells slots (pc + 2) (x0 :: x1 :: x2 :: x3 :: x4 :: some (.int v) :: r) (.int v :: st)) : AW K own cc M d mc ms Q n z σ cells slots pc (x0 :: x1 :: x2 :: x3 :: x4 :: some (.int v) :: r) st := by
  obtain ⟨p, l, e, s, m, args, below, meth, c, D, cs, a0, A0⟩ := K
  intro C H locs la hP hA hS hl
  exact lv_iload C.1 C.2.1 hd (hl.at (i := 5) (v := .int v) rfl) (k C H locs la hP hA hS hl)
theorem aw_lload5 {x0 x1 x2 x3 x4 : Option Value} {v : Int64} {r : List (Option Value)} (hd : decode cc pc = .ok (.lload 5, 2)) (k : AW K own cc M d mc ms Q n z σ cells slots (pc + 2) (x0 :: x1 :: x2 :: x3 :: x4 :: some (.long v) :: r) (.long v :: st)) : AW K own cc M d mc ms Q n z σ cells slots pc (x0 :: x1 :: x2 :: x3 :: x4 :: some (.long v) :: r) st := by
  obtain ⟨p, l, e, s, m, args, below, meth, c, D, cs, a0, A0⟩ := K
  intro C H locs la hP hA hS hl
  exact lv_lload C.1 C.2.1 hd (hl.at (i := 5) (v := .long v) rfl) (k C H locs la hP hA hS hl)
theorem aw_aload5 {x0 x1 x2 x3 x4 : Option Value} {v : Nat} {r : List (Option Value)} (hd : decode cc pc = .ok (.aload 5, 2)) (k : AW K own cc M d mc ms Q n z σ cells slots (pc + 2) (x0 :: x1 :: x2 :: x3 :: x4 :: some (.ref v) :: r) (.ref v :: st)) : AW K own cc M d mc ms Q n z σ cells slots pc (x0 :: x1 :: x2 :: x3 :: x4 :: some (.ref v) :: r) st := by
  obtain ⟨p, l, e, s, m, args, below, meth, c, D, cs, a0, A0⟩ := K
  intro C H locs la hP hA hS hl
  exact lv_aload C.1 C.2.1 hd (hl.at (i := 5) (v := .ref v) rfl) (k C H locs la hP hA hS hl)
theorem aw_aload5N {x0 x1 x2 x3 x4 : Option Value} {r : List (Option Value)} (hd : decode cc pc = .ok (.aload 5, 2)) (k : AW K own cc M d mc ms Q n z σ cells slots (pc + 2) (x0 :: x1 :: x2 :: x3 :: x4 :: some .null :: r) (.null :: st)) : AW K own cc M d mc ms Q n z σ cells slots pc (x0 :: x1 :: x2 :: x3 :: x4 :: some .null :: r) st := by
  obtain ⟨p, l, e, s, m, args, below, meth, c, D, cs, a0, A0⟩ := K
  intro C H locs la hP hA hS hl
  exact lv_aloadN C.1 C.2.1 hd (hl.at (i := 5) (v := .null) rfl) (k C H locs la hP hA hS hl)
theorem aw_istore5 {x0 x1 x2 x3 x4 : Option Value} {y0 : Option Value} {v : Int32} {r : List (Option Value)} (hd : decode cc pc = .ok (.istore 5, 2)) (hL : 5 < M.1) (hn : c1b x4 = true) (k : AW K own cc M d mc ms Q n z σ cells slots (pc + 2) (x0 :: x1 :: x2 :: x3 :: x4 :: some (.int v) :: r) st) : AW K own cc M d mc ms Q n z σ cells slots pc (x0 :: x1 :: x2 :: x3 :: x4 :: y0 :: r) (.int v :: st) := by
  obtain ⟨p, l, e, s, m, args, below, meth, c, D, cs, a0, A0⟩ := K
  intro C H locs la hP hA hS hl
  exact lv_istore C.1 C.2.1 hd hl.has hL rfl (fun la2 hl2 => k C H locs la2 hP hA hS (lok.set1 (v := .int v) (lnc_s hn) hl2))
theorem aw_astore5 {x0 x1 x2 x3 x4 : Option Value} {y0 : Option Value} {v : Nat} {r : List (Option Value)} (hd : decode cc pc = .ok (.astore 5, 2)) (hL : 5 < M.1) (hn : c1b x4 = true) (k : AW K own cc M d mc ms Q n z σ cells slots (pc + 2) (x0 :: x1 :: x2 :: x3 :: x4 :: some (.ref v) :: r) st) : AW K own cc M d mc ms Q n z σ cells slots pc (x0 :: x1 :: x2 :: x3 :: x4 :: y0 :: r) (.ref v :: st) := by
  obtain ⟨p, l, e, s, m, args, below, meth, c, D, cs, a0, A0⟩ := K
  intro C H locs la hP hA hS hl
  exact lv_astore C.1 C.2.1 hd hl.has hL rfl (fun la2 hl2 => k C H locs la2 hP hA hS (lok.set1 (v := .ref v) (lnc_s hn) hl2))
theorem aw_astore5N {x0 x1 x2 x3 x4 : Option Value} {y0 : Option Value} {r : List (Option Value)} (hd : decode cc pc = .ok (.astore 5, 2)) (hL : 5 < M.1) (hn : c1b x4 = true) (k : AW K own cc M d mc ms Q n z σ cells slots (pc + 2) (x0 :: x1 :: x2 :: x3 :: x4 :: some (.null) :: r) st) : AW K own cc M d mc ms Q n z σ cells slots pc (x0 :: x1 :: x2 :: x3 :: x4 :: y0 :: r) (.null :: st) := by
  obtain ⟨p, l, e, s, m, args, below, meth, c, D, cs, a0, A0⟩ := K
  intro C H locs la hP hA hS hl
  exact lv_astoreN C.1 C.2.1 hd hl.has hL rfl (fun la2 hl2 => k C H locs la2 hP hA hS (lok.set1 (v := .null) (lnc_s hn) hl2))
theorem aw_astore5E {x0 x1 x2 x3 x4 : Option Value} {y0 : Option Value} {v : Nat} {r : List (Option Value)} (hd : decode cc pc = .ok (.astore 5, 2)) (hL : 5 < M.1) (hn : c1b x4 = true) (k : AW K own cc M d mc ms Q n z σ cells slots (pc + 2) (x0 :: x1 :: x2 :: x3 :: x4 :: some (.retAddr v) :: r) st) : AW K own cc M d mc ms Q n z σ cells slots pc (x0 :: x1 :: x2 :: x3 :: x4 :: y0 :: r) (.retAddr v :: st) := by
  obtain ⟨p, l, e, s, m, args, below, meth, c, D, cs, a0, A0⟩ := K
  intro C H locs la hP hA hS hl
  exact lv_astore C.1 C.2.1 hd hl.has hL rfl (fun la2 hl2 => k C H locs la2 hP hA hS (lok.set1 (v := .retAddr v) (lnc_s hn) hl2))
theorem aw_lstore5 {x0 x1 x2 x3 x4 : Option Value} {y0 y1 : Option Value} {v : Int64} {r : List (Option Value)} (hd : decode cc pc = .ok (.lstore 5, 2)) (hL : 5 + 1 < M.1) (hn : c1b x4 = true) (k : AW K own cc M d mc ms Q n z σ cells slots (pc + 2) (x0 :: x1 :: x2 :: x3 :: x4 :: some (.long v) :: none :: r) st) : AW K own cc M d mc ms Q n z σ cells slots pc (x0 :: x1 :: x2 :: x3 :: x4 :: y0 :: y1 :: r) (.long v :: st) := by
  obtain ⟨p, l, e, s, m, args, below, meth, c, D, cs, a0, A0⟩ := K
  intro C H locs la hP hA hS hl
  exact lv_lstore C.1 C.2.1 hd hl.has hL rfl (fun la2 hl2 => k C H locs la2 hP hA hS (lok.set2 (v := .long v) (lnc_s hn) hl2))
theorem aw_iinc5 {x0 x1 x2 x3 x4 : Option Value} {v w : Int32} {c0 : Int} {r : List (Option Value)} (hd : decode cc pc = .ok (.iinc 5 c0, 3)) (hw : v + Int32.ofInt c0 = w) (hL : 5 < M.1) (hn : c1b x4 = true) (k : AW K own cc M d mc ms Q n z σ cells slots (pc + 3) (x0 :: x1 :: x2 :: x3 :: x4 :: some (.int w) :: r) st) : AW K own cc M d mc ms Q n z σ cells slots pc (x0 :: x1 :: x2 :: x3 :: x4 :: some (.int v) :: r) st := by
  obtain ⟨p, l, e, s, m, args, below, meth, c, D, cs, a0, A0⟩ := K
  intro C H locs la hP hA hS hl
  obtain ⟨q, hq⟩ := List.getElem?_of_mem (lpr_mem (a0 := a0) (ls := (x0 :: x1 :: x2 :: x3 :: x4 :: some (.int v) :: r)) (i := 5) (v := .int v) rfl)
  exact lv_iinc C.1 C.2.1 hd hl.has hq hw hL rfl (fun la2 hl2 => k C H locs la2 hP hA hS (lok.set1 (v := .int w) (lnc_s hn) hl2))
theorem aw_iload6 {x0 x1 x2 x3 x4 x5 : Option Value} {v : Int32} {r : List (Option Value)} (hd : decode cc pc = .ok (.iload 6, 2)) (k : AW K own cc M d mc ms Q n z σ cells slots (pc + 2) (x0 :: x1 :: x2 :: x3 :: x4 :: x5 :: some (.int v) :: r) (.int v :: st)) : AW K own cc M d mc ms Q n z σ cells slots pc (x0 :: x1 :: x2 :: x3 :: x4 :: x5 :: some (.int v) :: r) st := by
  obtain ⟨p, l, e, s, m, args, below, meth, c, D, cs, a0, A0⟩ := K
  intro C H locs la hP hA hS hl
  exact lv_iload C.1 C.2.1 hd (hl.at (i := 6) (v := .int v) rfl) (k C H locs la hP hA hS hl)
theorem aw_lload6 {x0 x1 x2 x3 x4 x5 : Option Value} {v : Int64} {r : List (Option Value)} (hd : decode cc pc = .ok (.lload 6, 2)) (k : AW K own cc M d mc ms Q n z σ cells slots (pc + 2) (x0 :: x1 :: x2 :: x3 :: x4 :: x5 :: some (.long v) :: r) (.long v :: st)) : AW K own cc M d mc ms Q n z σ cells slots pc (x0 :: x1 :: x2 :: x3 :: x4 :: x5 :: some (.long v) :: r) st := by
  obtain ⟨p, l, e, s, m, args, below, meth, c, D, cs, a0, A0⟩ := K
  intro C H locs la hP hA hS hl
  exact lv_lload C.1 C.2.1 hd (hl.at (i := 6) (v := .long v) rfl) (k C H locs la hP hA hS hl)
theorem aw_aload6 {x0 x1 x2 x3 x4 x5 : Option Value} {v : Nat} {r : List (Option Value)} (hd : decode cc pc = .ok (.aload 6, 2)) (k : AW K own cc M d mc ms Q n z σ cells slots (pc + 2) (x0 :: x1 :: x2 :: x3 :: x4 :: x5 :: some (.ref v) :: r) (.ref v :: st)) : AW K own cc M d mc ms Q n z σ cells slots pc (x0 :: x1 :: x2 :: x3 :: x4 :: x5 :: some (.ref v) :: r) st := by
  obtain ⟨p, l, e, s, m, args, below, meth, c, D, cs, a0, A0⟩ := K
  intro C H locs la hP hA hS hl
  exact lv_aload C.1 C.2.1 hd (hl.at (i := 6) (v := .ref v) rfl) (k C H locs la hP hA hS hl)
theorem aw_aload6N {x0 x1 x2 x3 x4 x5 : Option Value} {r : List (Option Value)} (hd : decode cc pc = .ok (.aload 6, 2)) (k : AW K own cc M d mc ms Q n z σ cells slots (pc + 2) (x0 :: x1 :: x2 :: x3 :: x4 :: x5 :: some .null :: r) (.null :: st)) : AW K own cc M d mc ms Q n z σ cells slots pc (x0 :: x1 :: x2 :: x3 :: x4 :: x5 :: some .null :: r) st := by
  obtain ⟨p, l, e, s, m, args, below, meth, c, D, cs, a0, A0⟩ := K
  intro C H locs la hP hA hS hl
  exact lv_aloadN C.1 C.2.1 hd (hl.at (i := 6) (v := .null) rfl) (k C H locs la hP hA hS hl)
theorem aw_istore6 {x0 x1 x2 x3 x4 x5 : Option Value} {y0 : Option Value} {v : Int32} {r : List (Option Value)} (hd : decode cc pc = .ok (.istore 6, 2)) (hL : 6 < M.1) (hn : c1b x5 = true) (k : AW K own cc M d mc ms Q n z σ cells slots (pc + 2) (x0 :: x1 :: x2 :: x3 :: x4 :: x5 :: some (.int v) :: r) st) : AW K own cc M d mc ms Q n z σ cells slots pc (x0 :: x1 :: x2 :: x3 :: x4 :: x5 :: y0 :: r) (.int v :: st) := by
  obtain ⟨p, l, e, s, m, args, below, meth, c, D, cs, a0, A0⟩ := K
  intro C H locs la hP hA hS hl
  exact lv_istore C.1 C.2.1 hd hl.has hL rfl (fun la2 hl2 => k C H locs la2 hP hA hS (lok.set1 (v := .int v) (lnc_s hn) hl2))
theorem aw_astore6 {x0 x1 x2 x3 x4 x5 : Option Value} {y0 : Option Value} {v : Nat} {r : List (Option Value)} (hd : decode cc pc = .ok (.astore 6, 2)) (hL : 6 < M.1) (hn : c1b x5 = true) (k : AW K own cc M d mc ms Q n z σ cells slots (pc + 2) (x0 :: x1 :: x2 :: x3 :: x4 :: x5 :: some (.ref v) :: r) st) : AW K own cc M d mc ms Q n z σ cells slots pc (x0 :: x1 :: x2 :: x3 :: x4 :: x5 :: y0 :: r) (.ref v :: st) := by
  obtain ⟨p, l, e, s, m, args, below, meth, c, D, cs, a0, A0⟩ := K
  intro C H locs la hP hA hS hl
  exact lv_astore C.1 C.2.1 hd hl.has hL rfl (fun la2 hl2 => k C H locs la2 hP hA hS (lok.set1 (v := .ref v) (lnc_s hn) hl2))
theorem aw_astore6N {x0 x1 x2 x3 x4 x5 : Option Value} {y0 : Option Value} {r : List (Option Value)} (hd : decode cc pc = .ok (.astore 6, 2)) (hL : 6 < M.1) (hn : c1b x5 = true) (k : AW K own cc M d mc ms Q n z σ cells slots (pc + 2) (x0 :: x1 :: x2 :: x3 :: x4 :: x5 :: some (.null) :: r) st) : AW K own cc M d mc ms Q n z σ cells slots pc (x0 :: x1 :: x2 :: x3 :: x4 :: x5 :: y0 :: r) (.null :: st) := by
  obtain ⟨p, l, e, s, m, args, below, meth, c, D, cs, a0, A0⟩ := K
  intro C H locs la hP hA hS hl
  exact lv_astoreN C.1 C.2.1 hd hl.has hL rfl (fun la2 hl2 => k C H locs la2 hP hA hS (lok.set1 (v := .null) (lnc_s hn) hl2))
theorem aw_astore6E {x0 x1 x2 x3 x4 x5 : Option Value} {y0 : Option Value} {v : Nat} {r : List (Option Value)} (hd : decode cc pc = .ok (.astore 6, 2)) (hL : 6 < M.1) (hn : c1b x5 = true) (k : AW K own cc M d mc ms Q n z σ cells slots (pc + 2) (x0 :: x1 :: x2 :: x3 :: x4 :: x5 :: some (.retAddr v) :: r) st) : AW K own cc M d mc ms Q n z σ cells slots pc (x0 :: x1 :: x2 :: x3 :: x4 :: x5 :: y0 :: r) (.retAddr v :: st) := by
  obtain ⟨p, l, e, s, m, args, below, meth, c, D, cs, a0, A0⟩ := K
  intro C H locs la hP hA hS hl
  exact lv_astore C.1 C.2.1 hd hl.has hL rfl (fun la2 hl2 => k C H locs la2 hP hA hS (lok.set1 (v := .retAddr v) (lnc_s hn) hl2))
theorem aw_lstore6 {x0 x1 x2 x3 x4 x5 : Option Value} {y0 y1 : Option Value} {v : Int64} {r : List (Option Value)} (hd : decode cc pc = .ok (.lstore 6, 2)) (hL : 6 + 1 < M.1) (hn : c1b x5 = true) (k : AW K own cc M d mc ms Q n z σ cells slots (pc + 2) (x0 :: x1 :: x2 :: x3 :: x4 :: x5 :: some (.long v) :: none :: r) st) : AW K own cc M d mc ms Q n z σ cells slots pc (x0 :: x1 :: x2 :: x3 :: x4 :: x5 :: y0 :: y1 :: r) (.long v :: st) := by
  obtain ⟨p, l, e, s, m, args, below, meth, c, D, cs, a0, A0⟩ := K
  intro C H locs la hP hA hS hl
  exact lv_lstore C.1 C.2.1 hd hl.has hL rfl (fun la2 hl2 => k C H locs la2 hP hA hS (lok.set2 (v := .long v) (lnc_s hn) hl2))
theorem aw_iinc6 {x0 x1 x2 x3 x4 x5 : Option Value} {v w : Int32} {c0 : Int} {r : List (Option Value)} (hd : decode cc pc = .ok (.iinc 6 c0, 3)) (hw : v + Int32.ofInt c0 = w) (hL : 6 < M.1) (hn : c1b x5 = true) (k : AW K own cc M d mc ms Q n z σ cells slots (pc + 3) (x0 :: x1 :: x2 :: x3 :: x4 :: x5 :: some (.int w) :: r) st) : AW K own cc M d mc ms Q n z σ cells slots pc (x0 :: x1 :: x2 :: x3 :: x4 :: x5 :: some (.int v) :: r) st := by
  obtain ⟨p, l, e, s, m, args, below, meth, c, D, cs, a0, A0⟩ := K
  intro C H locs la hP hA hS hl
  obtain ⟨q, hq⟩ := List.getElem?_of_mem (lpr_mem (a0 := a0) (ls := (x0 :: x1 :: x2 :: x3 :: x4 :: x5 :: some (.int v) :: r)) (i := 6) (v := .int v) rfl)
  exact lv_iinc C.1 C.2.1 hd hl.has hq hw hL rfl (fun la2 hl2 => k C H locs la2 hP hA hS (lok.set1 (v := .int w) (lnc_s hn) hl2))
theorem aw_iload7 {x0 x1 x2 x3 x4 x5 x6 : Option Value} {v : Int32} {r : List (Option Value)} (hd : decode cc pc = .ok (.iload 7, 2)) (k : AW K own cc M d mc ms Q n z σ cells slots (pc + 2) (x0 :: x1 :: x2 :: x3 :: x4 :: x5 :: x6 :: some (.int v) :: r) (.int v :: st)) : AW K own cc M d mc ms Q n z σ cells slots pc (x0 :: x1 :: x2 :: x3 :: x4 :: x5 :: x6 :: some (.int v) :: r) st := by
  obtain ⟨p, l, e, s, m, args, below, meth, c, D, cs, a0, A0⟩ := K
  intro C H locs la hP hA hS hl
  exact lv_iload C.1 C.2.1 hd (hl.at (i := 7) (v := .int v) rfl) (k C H locs la hP hA hS hl)
theorem aw_lload7 {x0 x1 x2 x3 x4 x5 x6 : Option Value} {v : Int64} {r : List (Option Value)} (hd : decode cc pc = .ok (.lload 7, 2)) (k : AW K own cc M d mc ms Q n z σ cells slots (pc + 2) (x0 :: x1 :: x2 :: x3 :: x4 :: x5 :: x6 :: some (.long v) :: r) (.long v :: st)) : AW K own cc M d mc ms Q n z σ cells slots pc (x0 :: x1 :: x2 :: x3 :: x4 :: x5 :: x6 :: some (.long v) :: r) st := by
  obtain ⟨p, l, e, s, m, args, below, meth, c, D, cs, a0, A0⟩ := K
  intro C H locs la hP hA hS hl
  exact lv_lload C.1 C.2.1 hd (hl.at (i := 7) (v := .long v) rfl) (k C H locs la hP hA hS hl)
theorem aw_aload7 {x0 x1 x2 x3 x4 x5 x6 : Option Value} {v : Nat} {r : List (Option Value)} (hd : decode cc pc = .ok (.aload 7, 2)) (k : AW K own cc M d mc ms Q n z σ cells slots (pc + 2) (x0 :: x1 :: x2 :: x3 :: x4 :: x5 :: x6 :: some (.ref v) :: r) (.ref v :: st)) : AW K own cc M d mc ms Q n z σ cells slots pc (x0 :: x1 :: x2 :: x3 :: x4 :: x5 :: x6 :: some (.ref v) :: r) st := by
  obtain ⟨p, l, e, s, m, args, below, meth, c, D, cs, a0, A0⟩ := K
  intro C H locs la hP hA hS hl
  exact lv_aload C.1 C.2.1 hd (hl.at (i := 7) (v := .ref v) rfl) (k C H locs la hP hA hS hl)
theorem aw_aload7N {x0 x1 x2 x3 x4 x5 x6 : Option Value} {r : List (Option Value)} (hd : decode cc pc = .ok (.aload 7, 2)) (k : AW K own cc M d mc ms Q n z σ cells slots (pc + 2) (x0 :: x1 :: x2 :: x3 :: x4 :: x5 :: x6 :: some .null :: r) (.null :: st)) : AW K own cc M d mc ms Q n z σ cells slots pc (x0 :: x1 :: x2 :: x3 :: x4 :: x5 :: x6 :: some .null :: r) st := by
  obtain ⟨p, l, e, s, m, args, below, meth, c, D, cs, a0, A0⟩ := K
  intro C H locs la hP hA hS hl
  exact lv_aloadN C.1 C.2.1 hd (hl.at (i := 7) (v := .null) rfl) (k C H locs la hP hA hS hl)
theorem aw_istore7 {x0 x1 x2 x3 x4 x5 x6 : Option Value} {y0 : Option Value} {v : Int32} {r : List (Option Value)} (hd : decode cc pc = .ok (.istore 7, 2)) (hL : 7 < M.1) (hn : c1b x6 = true) (k : AW K own cc M d mc ms Q n z σ cells slots (pc + 2) (x0 :: x1 :: x2 :: x3 :: x4 :: x5 :: x6 :: some (.int v) :: r) st) : AW K own cc M d mc ms Q n z σ cells slots pc (x0 :: x1 :: x2 :: x3 :: x4 :: x5 :: x6 :: y0 :: r) (.int v :: st) := by
  obtain ⟨p, l, e, s, m, args, below, meth, c, D, cs, a0, A0⟩ := K
  intro C H locs la hP hA hS hl
  exact lv_istore C.1 C.2.1 hd hl.has hL rfl (fun la2 hl2 => k C H locs la2 hP hA hS (lok.set1 (v := .int v) (lnc_s hn) hl2))
theorem aw_astore7 {x0 x1 x2 x3 x4 x5 x6 : Option Value} {y0 : Option Value} {v : Nat} {r : List (Option Value)} (hd : decode cc pc = .ok (.astore 7, 2)) (hL : 7 < M.1) (hn : c1b x6 = true) (k : AW K own cc M d mc ms Q n z σ cells slots (pc + 2) (x0 :: x1 :: x2 :: x3 :: x4 :: x5 :: x6 :: some (.ref v) :: r) st) : AW K own cc M d mc ms Q n z σ cells slots pc (x0 :: x1 :: x2 :: x3 :: x4 :: x5 :: x6 :: y0 :: r) (.ref v :: st) := by
  obtain ⟨p, l, e, s, m, args, below, meth, c, D, cs, a0, A0⟩ := K
  intro C H locs la hP hA hS hl
  exact lv_astore C.1 C.2.1 hd hl.has hL rfl (fun la2 hl2 => k C H locs la2 hP hA hS (lok.set1 (v := .ref v) (lnc_s hn) hl2))
theorem aw_astore7N {x0 x1 x2 x3 x4 x5 x6 : Option Value} {y0 : Option Value} {r : List (Option Value)} (hd : decode cc pc = .ok (.astore 7, 2)) (hL : 7 < M.1) (hn : c1b x6 = true) (k : AW K own cc M d mc ms Q n z σ cells slots (pc + 2) (x0 :: x1 :: x2 :: x3 :: x4 :: x5 :: x6 :: some (.null) :: r) st) : AW K own cc M d mc ms Q n z σ cells slots pc (x0 :: x1 :: x2 :: x3 :: x4 :: x5 :: x6 :: y0 :: r) (.null :: st) := by
  obtain ⟨p, l, e, s, m, args, below, meth, c, D, cs, a0, A0⟩ := K
  intro C H locs la hP hA hS hl
  exact lv_astoreN C.1 C.2.1 hd hl.has hL rfl (fun la2 hl2 => k C H locs la2 hP hA hS (lok.set1 (v := .null) (lnc_s hn) hl2))
theorem aw_astore7E {x0 x1 x2 x3 x4 x5 x6 : Option Value} {y0 : Option Value} {v : Nat} {r : List (Option Value)} (hd : decode cc pc = .ok (.astore 7, 2)) (hL : 7 < M.1) (hn : c1b x6 = true) (k : AW K own cc M d mc ms Q n z σ cells slots (pc + 2) (x0 :: x1 :: x2 :: x3 :: x4 :: x5 :: x6 :: some (.retAddr v) :: r) st) : AW K own cc M d mc ms Q n z σ cells slots pc (x0 :: x1 :: x2 :: x3 :: x4 :: x5 :: x6 :: y0 :: r) (.retAddr v :: st) := by
  obtain ⟨p, l, e, s, m, args, below, meth, c, D, cs, a0, A0⟩ := K
  intro C H locs la hP hA hS hl
  exact lv_astore C.1 C.2.1 hd hl.has hL rfl (fun la2 hl2 => k C H locs la2 hP hA hS (lok.set1 (v := .retAddr v) (lnc_s hn) hl2))
theorem aw_lstore7 {x0 x1 x2 x3 x4 x5 x6 : Option Value} {y0 y1 : Option Value} {v : Int64} {r : List (Option Value)} (hd : decode cc pc = .ok (.lstore 7, 2)) (hL : 7 + 1 < M.1) (hn : c1b x6 = true) (k : AW K own cc M d mc ms Q n z σ cells slots (pc + 2) (x0 :: x1 :: x2 :: x3 :: x4 :: x5 :: x6 :: some (.long v) :: none :: r) st) : AW K own cc M d mc ms Q n z σ cells slots pc (x0 :: x1 :: x2 :: x3 :: x4 :: x5 :: x6 :: y0 :: y1 :: r) (.long v :: st) := by
  obtain ⟨p, l, e, s, m, args, below, meth, c, D, cs, a0, A0⟩ := K
  intro C H locs la hP hA hS hl
  exact lv_lstore C.1 C.2.1 hd hl.has hL rfl (fun la2 hl2 => k C H locs la2 hP hA hS (lok.set2 (v := .long v) (lnc_s hn) hl2))
theorem aw_iinc7 {x0 x1 x2 x3 x4 x5 x6 : Option Value} {v w : Int32} {c0 : Int} {r : List (Option Value)} (hd : decode cc pc = .ok (.iinc 7 c0, 3)) (hw : v + Int32.ofInt c0 = w) (hL : 7 < M.1) (hn : c1b x6 = true) (k : AW K own cc M d mc ms Q n z σ cells slots (pc + 3) (x0 :: x1 :: x2 :: x3 :: x4 :: x5 :: x6 :: some (.int w) :: r) st) : AW K own cc M d mc ms Q n z σ cells slots pc (x0 :: x1 :: x2 :: x3 :: x4 :: x5 :: x6 :: some (.int v) :: r) st := by
  obtain ⟨p, l, e, s, m, args, below, meth, c, D, cs, a0, A0⟩ := K
  intro C H locs la hP hA hS hl
  obtain ⟨q, hq⟩ := List.getElem?_of_mem (lpr_mem (a0 := a0) (ls := (x0 :: x1 :: x2 :: x3 :: x4 :: x5 :: x6 :: some (.int v) :: r)) (i := 7) (v := .int v) rfl)
  exact lv_iinc C.1 C.2.1 hd hl.has hq hw hL rfl (fun la2 hl2 => k C H locs la2 hP hA hS (lok.set1 (v := .int w) (lnc_s hn) hl2))
theorem aw_iload8 {x0 x1 x2 x3 x4 x5 x6 x7 : Option Value} {v : Int32} {r : List (Option Value)} (hd : decode cc pc = .ok (.iload 8, 2)) (k : AW K own cc M d mc ms Q n z σ cells slots (pc + 2) (x0 :: x1 :: x2 :: x3 :: x4 :: x5 :: x6 :: x7 :: some (.int v) :: r) (.int v :: st)) : AW K own cc M d mc ms Q n z σ cells slots pc (x0 :: x1 :: x2 :: x3 :: x4 :: x5 :: x6 :: x7 :: some (.int v) :: r) st := by
  obtain ⟨p, l, e, s, m, args, below, meth, c, D, cs, a0, A0⟩ := K
  intro C H locs la hP hA hS hl
  exact lv_iload C.1 C.2.1 hd (hl.at (i := 8) (v := .int v) rfl) (k C H locs la hP hA hS hl)
theorem aw_lload8 {x0 x1 x2 x3 x4 x5 x6 x7 : Option Value} {v : Int64} {r : List (Option Value)} (hd : decode cc pc = .ok (.lload 8, 2)) (k : AW K own cc M d mc ms Q n z σ cells slots (pc + 2) (x0 :: x1 :: x2 :: x3 :: x4 :: x5 :: x6 :: x7 :: some (.long v) :: r) (.long v :: st)) : AW K own cc M d mc ms Q n z σ cells slots pc (x0 :: x1 :: x2 :: x3 :: x4 :: x5 :: x6 :: x7 :: some (.long v) :: r) st := by
  obtain ⟨p, l, e, s, m, args, below, meth, c, D, cs, a0, A0⟩ := K
  intro C H locs la hP hA hS hl
  exact lv_lload C.1 C.2.1 hd (hl.at (i := 8) (v := .long v) rfl) (k C H locs la hP hA hS hl)
theorem aw_aload8 {x0 x1 x2 x3 x4 x5 x6 x7 : Option Value} {v : Nat} {r : List (Option Value)} (hd : decode cc pc = .ok (.aload 8, 2)) (k : AW K own cc M d mc ms Q n z σ cells slots (pc + 2) (x0 :: x1 :: x2 :: x3 :: x4 :: x5 :: x6 :: x7 :: some (.ref v) :: r) (.ref v :: st)) : AW K own cc M d mc ms Q n z σ cells slots pc (x0 :: x1 :: x2 :: x3 :: x4 :: x5 :: x6 :: x7 :: some (.ref v) :: r) st := by
  obtain ⟨p, l, e, s, m, args, below, meth, c, D, cs, a0, A0⟩ := K
  intro C H locs la hP hA hS hl
  exact lv_aload C.1 C.2.1 hd (hl.at (i := 8) (v := .ref v) rfl) (k C H locs la hP hA hS hl)
theorem aw_aload8N {x0 x1 x2 x3 x4 x5 x6 x7 : Option Value} {r : List (Option Value)} (hd : decode cc pc = .ok (.aload 8, 2)) (k : AW K own cc M d mc ms Q n z σ cells slots (pc + 2) (x0 :: x1 :: x2 :: x3 :: x4 :: x5 :: x6 :: x7 :: some .null :: r) (.null :: st)) : AW K own cc M d mc ms Q n z σ cells slots pc (x0 :: x1 :: x2 :: x3 :: x4 :: x5 :: x6 :: x7 :: some .null :: r) st := by
  obtain ⟨p, l, e, s, m, args, below, meth, c, D, cs, a0, A0⟩ := K
  intro C H locs la hP hA hS hl
  exact lv_aloadN C.1 C.2.1 hd (hl.at (i := 8) (v := .null) rfl) (k C H locs la hP hA hS hl)
theorem aw_istore8 {x0 x1 x2 x3 x4 x5 x6 x7 : Option Value} {y0 : Option Value} {v : Int32} {r : List (Option Value)} (hd : decode cc pc = .ok (.istore 8, 2)) (hL : 8 < M.1) (hn : c1b x7 = true) (k : AW K own cc M d mc ms Q n z σ cells slots (pc + 2) (x0 :: x1 :: x2 :: x3 :: x4 :: x5 :: x6 :: x7 :: some (.int v) :: r) st) : AW K own cc M d mc ms Q n z σ cells slots pc (x0 :: x1 :: x2 :: x3 :: x4 :: x5 :: x6 :: x7 :: y0 :: r) (.int v :: st) := by
  obtain ⟨p, l, e, s, m, args, below, meth, c, D, cs, a0, A0⟩ := K
  intro C H locs la hP hA hS hl
  exact lv_istore C.1 C.2.1 hd hl.has hL rfl (fun la2 hl2 => k C H locs la2 hP hA hS (lok.set1 (v := .int v) (lnc_s hn) hl2))
theorem aw_astore8 {x0 x1 x2 x3 x4 x5 x6 x7 : Option Value} {y0 : Option Value} {v : Nat} {r : List (Option Value)} (hd : decode cc pc = .ok (.astore 8, 2)) (hL : 8 < M.1) (hn : c1b x7 = true) (k : AW K own cc M d mc ms Q n z σ cells slots (pc + 2) (x0 :: x1 :: x2 :: x3 :: x4 :: x5 :: x6 :: x7 :: some (.ref v) :: r) st) : AW K own cc M d mc ms Q n z σ cells slots pc (x0 :: x1 :: x2 :: x3 :: x4 :: x5 :: x6 :: x7 :: y0 :: r) (.ref v :: st) := by
  obtain ⟨p, l, e, s, m, args, below, meth, c, D, cs, a0, A0⟩ := K
  intro C H locs la hP hA hS hl
  exact lv_astore C.1 C.2.1 hd hl.has hL rfl (fun la2 hl2 => k C H locs la2 hP hA hS (lok.set1 (v := .ref v) (lnc_s hn) hl2))
theorem aw_astore8N {x0 x1 x2 x3 x4 x5 x6 x7 : Option Value} {y0 : Option Value} {r : List (Option Value)} (hd : decode cc pc = .ok (.astore 8, 2)) (hL : 8 < M.1) (hn : c1b x7 = true) (k : AW K own cc M d mc ms Q n z σ cells slots (pc + 2) (x0 :: x1 :: x2 :: x3 :: x4 :: x5 :: x6 :: x7 :: some (.null) :: r) st) : AW K own cc M d mc ms Q n z σ cells slots pc (x0 :: x1 :: x2 :: x3 :: x4 :: x5 :: x6 :: x7 :: y0 :: r) (.null :: st) := by
  obtain ⟨p, l, e, s, m, args, below, meth, c, D, cs, a0, A0⟩ := K
  intro C H locs la hP hA hS hl
  exact lv_astoreN C.1 C.2.1 hd hl.has hL rfl (fun la2 hl2 => k C H locs la2 hP hA hS (lok.set1 (v := .null) (lnc_s hn) hl2))
theorem aw_astore8E {x0 x1 x2 x3 x4 x5 x6 x7 : Option Value} {y0 : Option Value} {v : Nat} {r : List (Option Value)} (hd : decode cc pc = .ok (.astore 8, 2)) (hL : 8 < M.1) (hn : c1b x7 = true) (k : AW K own cc M d mc ms Q n z σ cells slots (pc + 2) (x0 :: x1 :: x2 :: x3 :: x4 :: x5 :: x6 :: x7 :: some (.retAddr v) :: r) st) : AW K own cc M d mc ms Q n z σ cells slots pc (x0 :: x1 :: x2 :: x3 :: x4 :: x5 :: x6 :: x7 :: y0 :: r) (.retAddr v :: st) := by
  obtain ⟨p, l, e, s, m, args, below, meth, c, D, cs, a0, A0⟩ := K
  intro C H locs la hP hA hS hl
  exact lv_astore C.1 C.2.1 hd hl.has hL rfl (fun la2 hl2 => k C H locs la2 hP hA hS (lok.set1 (v := .retAddr v) (lnc_s hn) hl2))
theorem aw_lstore8 {x0 x1 x2 x3 x4 x5 x6 x7 : Option Value} {y0 y1 : Option Value} {v : Int64} {r : List (Option Value)} (hd : decode cc pc = .ok (.lstore 8, 2)) (hL : 8 + 1 < M.1) (hn : c1b x7 = true) (k : AW K own cc M d mc ms Q n z σ cells slots (pc + 2) (x0 :: x1 :: x2 :: x3 :: x4 :: x5 :: x6 :: x7 :: some (.long v) :: none :: r) st) : AW K own cc M d mc ms Q n z σ cells slots pc (x0 :: x1 :: x2 :: x3 :: x4 :: x5 :: x6 :: x7 :: y0 :: y1 :: r) (.long v :: st) := by
  obtain ⟨p, l, e, s, m, args, below, meth, c, D, cs, a0, A0⟩ := K
  intro C H locs la hP hA hS hl
  exact lv_lstore C.1 C.2.1 hd hl.has hL rfl (fun la2 hl2 => k C H locs la2 hP hA hS (lok.set2 (v := .long v) (lnc_s hn) hl2))
theorem aw_iinc8 {x0 x1 x2 x3 x4 x5 x6 x7 : Option Value} {v w : Int32} {c0 : Int} {r : List (Option Value)} (hd : decode cc pc = .ok (.iinc 8 c0, 3)) (hw : v + Int32.ofInt c0 = w) (hL : 8 < M.1) (hn : c1b x7 = true) (k : AW K own cc M d mc ms Q n z σ cells slots (pc + 3) (x0 :: x1 :: x2 :: x3 :: x4 :: x5 :: x6 :: x7 :: some (.int w) :: r) st) : AW K own cc M d mc ms Q n z σ cells slots pc (x0 :: x1 :: x2 :: x3 :: x4 :: x5 :: x6 :: x7 :: some (.int v) :: r) st := by
  obtain ⟨p, l, e, s, m, args, below, meth, c, D, cs, a0, A0⟩ := K
  intro C H locs la hP hA hS hl
  obtain ⟨q, hq⟩ := List.getElem?_of_mem (lpr_mem (a0 := a0) (ls := (x0 :: x1 :: x2 :: x3 :: x4 :: x5 :: x6 :: x7 :: some (.int v) :: r)) (i := 8) (v := .int v) rfl)
  exact lv_iinc C.1 C.2.1 hd hl.has hq hw hL rfl (fun la2 hl2 => k C H locs la2 hP hA hS (lok.set1 (v := .int w) (lnc_s hn) hl2))
theorem aw_iload9 {x0 x1 x2 x3 x4 x5 x6 x7 x8 : Option Value} {v : Int32} {r : List (Option Value)} (hd : decode cc pc = .ok (.iload 9, 2)) (k : AW K own cc M d mc ms Q n z σ cells slots (pc + 2) (x0 :: x1 :: x2 :: x3 :: x4 :: x5 :: x6 :: x7 :: x8 :: some (.int v) :: r) (.int v :: st)) : AW K own cc M d mc ms Q n z σ cells slots pc (x0 :: x1 :: x2 :: x3 :: x4 :: x5 :: x6 :: x7 :: x8 :: some (.int v) :: r) st := by
  obtain ⟨p, l, e, s, m, args, below, meth, c, D, cs, a0, A0⟩ := K
  intro C H locs la hP hA hS hl
  exact lv_iload C.1 C.2.1 hd (hl.at (i := 9) (v := .int v) rfl) (k C H locs la hP hA hS hl)
theorem aw_lload9 {x0 x1 x2 x3 x4 x5 x6 x7 x8 : Option Value} {v : Int64} {r : List (Option Value)} (hd : decode cc pc = .ok (.lload 9, 2)) (k : AW K own cc M d mc ms Q n z σ cells slots (pc + 2) (x0 :: x1 :: x2 :: x3 :: x4 :: x5 :: x6 :: x7 :: x8 :: some (.long v) :: r) (.long v :: st)) : AW K own cc M d mc ms Q n z σ cells slots pc (x0 :: x1 :: x2 :: x3 :: x4 :: x5 :: x6 :: x7 :: x8 :: some (.long v) :: r) st := by
  obtain ⟨p, l, e, s, m, args, below, meth, c, D, cs, a0, A0⟩ := K
  intro C H locs la hP hA hS hl
  exact lv_lload C.1 C.2.1 hd (hl.at (i := 9) (v := .long v) rfl) (k C H locs la hP hA hS hl)
theorem aw_aload9 {x0 x1 x2 x3 x4 x5 x6 x7 x8 : Option Value} {v : Nat} {r : List (Option Value)} (hd : decode cc pc = .ok (.aload 9, 2)) (k : AW K own cc M d mc ms Q n z σ cells slots (pc + 2) (x0 :: x1 :: x2 :: x3 :: x4 :: x5 :: x6 :: x7 :: x8 :: some (.ref v) :: r) (.ref v :: st)) : AW K own cc M d mc ms Q n z σ cells slots pc (x0 :: x1 :: x2 :: x3 :: x4 :: x5 :: x6 :: x7 :: x8 :: some (.ref v) :: r) st := by
  obtain ⟨p, l, e, s, m, args, below, meth, c, D, cs, a0, A0⟩ := K
  intro C H locs la hP hA hS hl
  exact lv_aload C.1 C.2.1 hd (hl.at (i := 9) (v := .ref v) rfl) (k C H locs la hP hA hS hl)
theorem aw_aload9N {x0 x1 x2 x3 x4 x5 x6 x7 x8 : Option Value} {r : List (Option Value)} (hd : decode cc pc = .ok (.aload 9, 2)) (k : AW K own cc M d mc ms Q n z σ cells slots (pc + 2) (x0 :: x1 :: x2 :: x3 :: x4 :: x5 :: x6 :: x7 :: x8 :: some .null :: r) (.null :: st)) : AW K own cc M d mc ms Q n z σ cells slots pc (x0 :: x1 :: x2 :: x3 :: x4 :: x5 :: x6 :: x7 :: x8 :: some .null :: r) st := by
  obtain ⟨p, l, e, s, m, args, below, meth, c, D, cs, a0, A0⟩ := K
  intro C H locs la hP hA hS hl
  exact lv_aloadN C.1 C.2.1 hd (hl.at (i := 9) (v := .null) rfl) (k C H locs la hP hA hS hl)
theorem aw_istore9 {x0 x1 x2 x3 x4 x5 x6 x7 x8 : Option Value} {y0 : Option Value} {v : Int32} {r : List (Option Value)} (hd : decode cc pc = .ok (.istore 9, 2)) (hL : 9 < M.1) (hn : c1b x8 = true) (k : AW K own cc M d mc ms Q n z σ cells slots (pc + 2) (x0 :: x1 :: x2 :: x3 :: x4 :: x5 :: x6 :: x7 :: x8 :: some (.int v) :: r) st) : AW K own cc M d mc ms Q n z σ cells slots pc (x0 :: x1 :: x2 :: x3 :: x4 :: x5 :: x6 :: x7 :: x8 :: y0 :: r) (.int v :: st) := by
  obtain ⟨p, l, e, s, m, args, below, meth, c, D, cs, a0, A0⟩ := K
  intro C H locs la hP hA hS hl
  exact lv_istore C.1 C.2.1 hd hl.has hL rfl (fun la2 hl2 => k C H locs la2 hP hA hS (lok.set1 (v := .int v) (lnc_s hn) hl2))
theorem aw_astore9 {x0 x1 x2 x3 x4 x5 x6 x7 x8 : Option Value} {y0 : Option Value} {v : Nat} {r : List (Option Value)} (hd : decode cc pc = .ok (.astore 9, 2)) (hL : 9 < M.1) (hn : c1b x8 = true) (k : AW K own cc M d mc ms Q n z σ cells slots (pc + 2) (x0 :: x1 :: x2 :: x3 :: x4 :: x5 :: x6 :: x7 :: x8 :: some (.ref v) :: r) st) : AW K own cc M d mc ms Q n z σ cells slots pc (x0 :: x1 :: x2 :: x3 :: x4 :: x5 :: x6 :: x7 :: x8 :: y0 :: r) (.ref v :: st) := by
  obtain ⟨p, l, e, s, m, args, below, meth, c, D, cs, a0, A0⟩ := K
  intro C H locs la hP hA hS hl
  exact lv_astore C.1 C.2.1 hd hl.has hL rfl (fun la2 hl2 => k C H locs la2 hP hA hS (lok.set1 (v := .ref v) (lnc_s hn) hl2))
theorem aw_astore9N {x0 x1 x2 x3 x4 x5 x6 x7 x8 : Option Value} {y0 : Option Value} {r : List (Option Value)} (hd : decode cc pc = .ok (.astore 9, 2)) (hL : 9 < M.1) (hn : c1b x8 = true) (k : AW K own cc M d mc ms Q n z σ cells slots (pc + 2) (x0 :: x1 :: x2 :: x3 :: x4 :: x5 :: x6 :: x7 :: x8 :: some (.null) :: r) st) : AW K own cc M d mc ms Q n z σ cells slots pc (x0 :: x1 :: x2 :: x3 :: x4 :: x5 :: x6 :: x7 :: x8 :: y0 :: r) (.null :: st) := by
  obtain ⟨p, l, e, s, m, args, below, meth, c, D, cs, a0, A0⟩ := K
  intro C H locs la hP hA hS hl
  exact lv_astoreN C.1 C.2.1 hd hl.has hL rfl (fun la2 hl2 => k C H locs la2 hP hA hS (lok.set1 (v := .null) (lnc_s hn) hl2))
theorem aw_astore9E {x0 x1 x2 x3 x4 x5 x6 x7 x8 : Option Value} {y0 : Option Value} {v : Nat} {r : List (Option Value)} (hd : decode cc pc = .ok (.astore 9, 2)) (hL : 9 < M.1) (hn : c1b x8 = true) (k : AW K own cc M d mc ms Q n z σ cells slots (pc + 2) (x0 :: x1 :: x2 :: x3 :: x4 :: x5 :: x6 :: x7 :: x8 :: some (.retAddr v) :: r) st) : AW K own cc M d mc ms Q n z σ cells slots pc (x0 :: x1 :: x2 :: x3 :: x4 :: x5 :: x6 :: x7 :: x8 :: y0 :: r) (.retAddr v :: st) := by
  obtain ⟨p, l, e, s, m, args, below, meth, c, D, cs, a0, A0⟩ := K
  intro C H locs la hP hA hS hl
  exact lv_astore C.1 C.2.1 hd hl.has hL rfl (fun la2 hl2 => k C H locs la2 hP hA hS (lok.set1 (v := .retAddr v) (lnc_s hn) hl2))
theorem aw_lstore9 {x0 x1 x2 x3 x4 x5 x6 x7 x8 : Option Value} {y0 y1 : Option Value} {v : Int64} {r : List (Option Value)} (hd : decode cc pc = .ok (.lstore 9, 2)) (hL : 9 + 1 < M.1) (hn : c1b x8 = true) (k : AW K own cc M d mc ms Q n z σ cells slots (pc + 2) (x0 :: x1 :: x2 :: x3 :: x4 :: x5 :: x6 :: x7 :: x8 :: some (.long v) :: none :: r) st) : AW K own cc M d mc ms Q n z σ cells slots pc (x0 :: x1 :: x2 :: x3 :: x4 :: x5 :: x6 :: x7 :: x8 :: y0 :: y1 :: r) (.long v :: st) := by
  obtain ⟨p, l, e, s, m, args, below, meth, c, D, cs, a0, A0⟩ := K
  intro C H locs la hP hA hS hl
  exact lv_lstore C.1 C.2.1 hd hl.has hL rfl (fun la2 hl2 => k C H locs la2 hP hA hS (lok.set2 (v := .long v) (lnc_s hn) hl2))
theorem aw_iinc9 {x0 x1 x2 x3 x4 x5 x6 x7 x8 : Option Value} {v w : Int32} {c0 : Int} {r : List (Option Value)} (hd : decode cc pc = .ok (.iinc 9 c0, 3)) (hw : v + Int32.ofInt c0 = w) (hL : 9 < M.1) (hn : c1b x8 = true) (k : AW K own cc M d mc ms Q n z σ cells slots (pc + 3) (x0 :: x1 :: x2 :: x3 :: x4 :: x5 :: x6 :: x7 :: x8 :: some (.int w) :: r) st) : AW K own cc M d mc ms Q n z σ cells slots pc (x0 :: x1 :: x2 :: x3 :: x4 :: x5 :: x6 :: x7 :: x8 :: some (.int v) :: r) st := by
  obtain ⟨p, l, e, s, m, args, below, meth, c, D, cs, a0, A0⟩ := K
  intro C H locs la hP hA hS hl
  obtain ⟨q, hq⟩ := List.getElem?_of_mem (lpr_mem (a0 := a0) (ls := (x0 :: x1 :: x2 :: x3 :: x4 :: x5 :: x6 :: x7 :: x8 :: some (.int v) :: r)) (i := 9) (v := .int v) rfl)
  exact lv_iinc C.1 C.2.1 hd hl.has hq hw hL rfl (fun la2 hl2 => k C H locs la2 hP hA hS (lok.set1 (v := .int w) (lnc_s hn) hl2))
theorem aw_iload10 {x0 x1 x2 x3 x4 x5 x6 x7 x8 x9 : Option Value} {v : Int32} {r : List (Option Value)} (hd : decode cc pc = .ok (.iload 10, 2)) (k : AW K own cc M d mc ms Q n z σ cells slots (pc + 2) (x0 :: x1 :: x2 :: x3 :: x4 :: x5 :: x6 :: x7 :: x8 :: x9 :: some (.int v) :: r) (.int v :: st)) : AW K own cc M d mc ms Q n z σ cells slots pc (x0 :: x1 :: x2 :: x3 :: x4 :: x5 :: x6 :: x7 :: x8 :: x9 :: some (.int v) :: r) st := by
  obtain ⟨p, l, e, s, m, args, below, meth, c, D, cs, a0, A0⟩ := K
  intro C H locs la hP hA hS hl
  exact lv_iload C.1 C.2.1 hd (hl.at (i := 10) (v := .int v) rfl) (k C H locs la hP hA hS hl)
theorem aw_lload10 {x0 x1 x2 x3 x4 x5 x6 x7 x8 x9 : Option Value} {v : Int64} {r : List (Option Value)} (hd : decode cc pc = .ok (.lload 10, 2)) (k : AW K own cc M d mc ms Q n z σ cells slots (pc + 2) (x0 :: x1 :: x2 :: x3 :: x4 :: x5 :: x6 :: x7 :: x8 :: x9 :: some (.long v) :: r) (.long v :: st)) : AW K own cc M d mc ms Q n z σ cells slots pc (x0 :: x1 :: x2 :: x3 :: x4 :: x5 :: x6 :: x7 :: x8 :: x9 :: some (.long v) :: r) st := by
  obtain ⟨p, l, e, s, m, args, below, meth, c, D, cs, a0, A0⟩ := K
  intro C H locs la hP hA hS hl
  exact lv_lload C.1 C.2.1 hd (hl.at (i := 10) (v := .long v) rfl) (k C H locs la hP hA hS hl)
theorem aw_aload10 {x0 x1 x2 x3 x4 x5 x6 x7 x8 x9 : Option Value} {v : Nat} {r : List (Option Value)} (hd : decode cc pc = .ok (.aload 10, 2)) (k : AW K own cc M d mc ms Q n z σ cells slots (pc + 2) (x0 :: x1 :: x2 :: x3 :: x4 :: x5 :: x6 :: x7 :: x8 :: x9 :: some (.ref v) :: r) (.ref v :: st)) : AW K own cc M d mc ms Q n z σ cells slots pc (x0 :: x1 :: x2 :: x3 :: x4 :: x5 :: x6 :: x7 :: x8 :: x9 :: some (.ref v) :: r) st := by
  obtain ⟨p, l, e, s, m, args, below, meth, c, D, cs, a0, A0⟩ := K
  intro C H locs la hP hA hS hl
  exact lv_aload C.1 C.2.1 hd (hl.at (i := 10) (v := .ref v) rfl) (k C H locs la hP hA hS hl)
theorem aw_aload10N {x0 x1 x2 x3 x4 x5 x6 x7 x8 x9 : Option Value} {r : List (Option Value)} (hd : decode cc pc = .ok (.aload 10, 2)) (k : AW K own cc M d mc ms Q n z σ cells slots (pc + 2) (x0 :: x1 :: x2 :: x3 :: x4 :: x5 :: x6 :: x7 :: x8 :: x9 :: some .null :: r) (.null :: st)) : AW K own cc M d mc ms Q n z σ cells slots pc (x0 :: x1 :: x2 :: x3 :: x4 :: x5 :: x6 :: x7 :: x8 :: x9 :: some .null :: r) st := by
  obtain ⟨p, l, e, s, m, args, below, meth, c, D, cs, a0, A0⟩ := K
  intro C H locs la hP hA hS hl
  exact lv_aloadN C.1 C.2.1 hd (hl.at (i := 10) (v := .null) rfl) (k C H locs la hP hA hS hl)
theorem aw_istore10 {x0 x1 x2 x3 x4 x5 x6 x7 x8 x9 : Option Value} {y0 : Option Value} {v : Int32} {r : List (Option Value)} (hd : decode cc pc = .ok (.istore 10, 2)) (hL : 10 < M.1) (hn : c1b x9 = true) (k : AW K own cc M d mc ms Q n z σ cells slots (pc + 2) (x0 :: x1 :: x2 :: x3 :: x4 :: x5 :: x6 :: x7 :: x8 :: x9 :: some (.int v) :: r) st) : AW K own cc M d mc ms Q n z σ cells slots pc (x0 :: x1 :: x2 :: x3 :: x4 :: x5 :: x6 :: x7 :: x8 :: x9 :: y0 :: r) (.int v :: st) := by
  obtain ⟨p, l, e, s, m, args, below, meth, c, D, cs, a0, A0⟩ := K
  intro C H locs la hP hA hS hl
  exact lv_istore C.1 C.2.1 hd hl.has hL rfl (fun la2 hl2 => k C H locs la2 hP hA hS (lok.set1 (v := .int v) (lnc_s hn) hl2))
theorem aw_astore10 {x0 x1 x2 x3 x4 x5 x6 x7 x8 x9 : Option Value} {y0 : Option Value} {v : Nat} {r : List (Option Value)} (hd : decode cc pc = .ok (.astore 10, 2)) (hL : 10 < M.1) (hn : c1b x9 = true) (k : AW K own cc M d mc ms Q n z σ cells slots (pc + 2) (x0 :: x1 :: x2 :: x3 :: x4 :: x5 :: x6 :: x7 :: x8 :: x9 :: some (.ref v) :: r) st) : AW K own cc M d mc ms Q n z σ cells slots pc (x0 :: x1 :: x2 :: x3 :: x4 :: x5 :: x6 :: x7 :: x8 :: x9 :: y0 :: r) (.ref v :: st) := by
  obtain ⟨p, l, e, s, m, args, below, meth, c, D, cs, a0, A0⟩ := K
  intro C H locs la hP hA hS hl
  exact lv_astore C.1 C.2.1 hd hl.has hL rfl (fun la2 hl2 => k C H locs la2 hP hA hS (lok.set1 (v := .ref v) (lnc_s hn) hl2))
theorem aw_astore10N {x0 x1 x2 x3 x4 x5 x6 x7 x8 x9 : Option Value} {y0 : Option Value} {r : List (Option Value)} (hd : decode cc pc = .ok (.astore 10, 2)) (hL : 10 < M.1) (hn : c1b x9 = true) (k : AW K own cc M d mc ms Q n z σ cells slots (pc + 2) (x0 :: x1 :: x2 :: x3 :: x4 :: x5 :: x6 :: x7 :: x8 :: x9 :: some (.null) :: r) st) : AW K own cc M d mc ms Q n z σ cells slots pc (x0 :: x1 :: x2 :: x3 :: x4 :: x5 :: x6 :: x7 :: x8 :: x9 :: y0 :: r) (.null :: st) := by
  obtain ⟨p, l, e, s, m, args, below, meth, c, D, cs, a0, A0⟩ := K
  intro C H locs la hP hA hS hl
  exact lv_astoreN C.1 C.2.1 hd hl.has hL rfl (fun la2 hl2 => k C H locs la2 hP hA hS (lok.set1 (v := .null) (lnc_s hn) hl2))
theorem aw_astore10E {x0 x1 x2 x3 x4 x5 x6 x7 x8 x9 : Option Value} {y0 : Option Value} {v : Nat} {r : List (Option Value)} (hd : decode cc pc = .ok (.astore 10, 2)) (hL : 10 < M.1) (hn : c1b x9 = true) (k : AW K own cc M d mc ms Q n z σ cells slots (pc + 2) (x0 :: x1 :: x2 :: x3 :: x4 :: x5 :: x6 :: x7 :: x8 :: x9 :: some (.retAddr v) :: r) st) : AW K own cc M d mc ms Q n z σ cells slots pc (x0 :: x1 :: x2 :: x3 :: x4 :: x5 :: x6 :: x7 :: x8 :: x9 :: y0 :: r) (.retAddr v :: st) := by
  obtain ⟨p, l, e, s, m, args, below, meth, c, D, cs, a0, A0⟩ := K
  intro C H locs la hP hA hS hl
  exact lv_astore C.1 C.2.1 hd hl.has hL rfl (fun la2 hl2 => k C H locs la2 hP hA hS (lok.set1 (v := .retAddr v) (lnc_s hn) hl2))
theorem aw_lstore10 {x0 x1 x2 x3 x4 x5 x6 x7 x8 x9 : Option Value} {y0 y1 : Option Value} {v : Int64} {r : List (Option Value)} (hd : decode cc pc = .ok (.lstore 10, 2)) (hL : 10 + 1 < M.1) (hn : c1b x9 = true) (k : AW K own cc M d mc ms Q n z σ cells slots (pc + 2) (x0 :: x1 :: x2 :: x3 :: x4 :: x5 :: x6 :: x7 :: x8 :: x9 :: some (.long v) :: none :: r) st) : AW K own cc M d mc ms Q n z σ cells slots pc (x0 :: x1 :: x2 :: x3 :: x4 :: x5 :: x6 :: x7 :: x8 :: x9 :: y0 :: y1 :: r) (.long v :: st) := by
  obtain ⟨p, l, e, s, m, args, below, meth, c, D, cs, a0, A0⟩ := K
  intro C H locs la hP hA hS hl
  exact lv_lstore C.1 C.2.1 hd hl.has hL rfl (fun la2 hl2 => k C H locs la2 hP hA hS (lok.set2 (v := .long v) (lnc_s hn) hl2))
theorem aw_iinc10 {x0 x1 x2 x3 x4 x5 x6 x7 x8 x9 : Option Value} {v w : Int32} {c0 : Int} {r : List (Option Value)} (hd : decode cc pc = .ok (.iinc 10 c0, 3)) (hw : v + Int32.ofInt c0 = w) (hL : 10 < M.1) (hn : c1b x9 = true) (k : AW K own cc M d mc ms Q n z σ cells slots (pc + 3) (x0 :: x1 :: x2 :: x3 :: x4 :: x5 :: x6 :: x7 :: x8 :: x9 :: some (.int w) :: r) st) : AW K own cc M d mc ms Q n z σ cells slots pc (x0 :: x1 :: x2 :: x3 :: x4 :: x5 :: x6 :: x7 :: x8 :: x9 :: some (.int v) :: r) st := by
  obtain ⟨p, l, e, s, m, args, below, meth, c, D, cs, a0, A0⟩ := K
  intro C H locs la hP hA hS hl
  obtain ⟨q, hq⟩ := List.getElem?_of_mem (lpr_mem (a0 := a0) (ls := (x0 :: x1 :: x2 :: x3 :: x4 :: x5 :: x6 :: x7 :: x8 :: x9 :: some (.int v) :: r)) (i := 10) (v := .int v) rfl)
  exact lv_iinc C.1 C.2.1 hd hl.has hq hw hL rfl (fun la2 hl2 => k C H locs la2 hP hA hS (lok.set1 (v := .int w) (lnc_s hn) hl2))
theorem aw_iload11 {x0 x1 x2 x3 x4 x5 x6 x7 x8 x9 x10 : Option Value} {v : Int32} {r : List (Option Value)} (hd : decode cc pc = .ok (.iload 11, 2)) (k : AW K own cc M d mc ms Q n z σ cells slots (pc + 2) (x0 :: x1 :: x2 :: x3 :: x4 :: x5 :: x6 :: x7 :: x8 :: x9 :: x10 :: some (.int v) :: r) (.int v :: st)) : AW K own cc M d mc ms Q n z σ cells slots pc (x0 :: x1 :: x2 :: x3 :: x4 :: x5 :: x6 :: x7 :: x8 :: x9 :: x10 :: some (.int v) :: r) st := by
  obtain ⟨p, l, e, s, m, args, below, meth, c, D, cs, a0, A0⟩ := K
  intro C H locs la hP hA hS hl
  exact lv_iload C.1 C.2.1 hd (hl.at (i := 11) (v := .int v) rfl) (k C H locs la hP hA hS hl)
theorem aw_lload11 {x0 x1 x2 x3 x4 x5 x6 x7 x8 x9 x10 : Option Value} {v : Int64} {r : List (Option Value)} (hd : decode cc pc = .ok (.lload 11, 2)) (k : AW K own cc M d mc ms Q n z σ cells slots (pc + 2) (x0 :: x1 :: x2 :: x3 :: x4 :: x5 :: x6 :: x7 :: x8 :: x9 :: x10 :: some (.long v) :: r) (.long v :: st)) : AW K own cc M d mc ms Q n z σ cells slots pc (x0 :: x1 :: x2 :: x3 :: x4 :: x5 :: x6 :: x7 :: x8 :: x9 :: x10 :: some (.long v) :: r) st := by
  obtain ⟨p, l, e, s, m, args, below, meth, c, D, cs, a0, A0⟩ := K
  intro C H locs la hP hA hS hl
  exact lv_lload C.1 C.2.1 hd (hl.at (i := 11) (v := .long v) rfl) (k C H locs la hP hA hS hl)
theorem aw_aload11 {x0 x1 x2 x3 x4 x5 x6 x7 x8 x9 x10 : Option Value} {v : Nat} {r : List (Option Value)} (hd : decode cc pc = .ok (.aload 11, 2)) (k : AW K own cc M d mc ms Q n z σ cells slots (pc + 2) (x0 :: x1 :: x2 :: x3 :: x4 :: x5 :: x6 :: x7 :: x8 :: x9 :: x10 :: some (.ref v) :: r) (.ref v :: st)) : AW K own cc M d mc ms Q n z σ cells slots pc (x0 :: x1 :: x2 :: x3 :: x4 :: x5 :: x6 :: x7 :: x8 :: x9 :: x10 :: some (.ref v) :: r) st := by
  obtain ⟨p, l, e, s, m, args, below, meth, c, D, cs, a0, A0⟩ := K
  intro C H locs la hP hA hS hl
  exact lv_aload C.1 C.2.1 hd (hl.at (i := 11) (v := .ref v) rfl) (k C H locs la hP hA hS hl)
theorem aw_aload11N {x0 x1 x2 x3 x4 x5 x6 x7 x8 x9 x10 : Option Value} {r : List (Option Value)} (hd : decode cc pc = .ok (.aload 11, 2)) (k : AW K own cc M d mc ms Q n z σ cells slots (pc + 2) (x0 :: x1 :: x2 :: x3 :: x4 :: x5 :: x6 :: x7 :: x8 :: x9 :: x10 :: some .null :: r) (.null :: st)) : AW K own cc M d mc ms Q n z σ cells slots pc (x0 :: x1 :: x2 :: x3 :: x4 :: x5 :: x6 :: x7 :: x8 :: x9 :: x10 :: some .null :: r) st := by
  obtain ⟨p, l, e, s, m, args, below, meth, c, D, cs, a0, A0⟩ := K
  intro C H locs la hP hA hS hl
  exact lv_aloadN C.1 C.2.1 hd (hl.at (i := 11) (v := .null) rfl) (k C H locs la hP hA hS hl)
theorem aw_istore11 {x0 x1 x2 x3 x4 x5 x6 x7 x8 x9 x10 : Option Value} {y0 : Option Value} {v : Int32} {r : List (Option Value)} (hd : decode cc pc = .ok (.istore 11, 2)) (hL : 11 < M.1) (hn : c1b x10 = true) (k : AW K own cc M d mc ms Q n z σ cells slots (pc + 2) (x0 :: x1 :: x2 :: x3 :: x4 :: x5 :: x6 :: x7 :: x8 :: x9 :: x10 :: some (.int v) :: r) st) : AW K own cc M d mc ms Q n z σ cells slots pc (x0 :: x1 :: x2 :: x3 :: x4 :: x5 :: x6 :: x7 :: x8 :: x9 :: x10 :: y0 :: r) (.int v :: st) := by
  obtain ⟨p, l, e, s, m, args, below, meth, c, D, cs, a0, A0⟩ := K
  intro C H locs la hP hA hS hl
  exact lv_istore C.1 C.2.1 hd hl.has hL rfl (fun la2 hl2 => k C H locs la2 hP hA hS (lok.set1 (v := .int v) (lnc_s hn) hl2))
theorem aw_astore11 {x0 x1 x2 x3 x4 x5 x6 x7 x8 x9 x10 : Option Value} {y0 : Option Value} {v : Nat} {r : List (Option Value)} (hd : decode cc pc = .ok (.astore 11, 2)) (hL : 11 < M.1) (hn : c1b x10 = true) (k : AW K own cc M d mc ms Q n z σ cells slots (pc + 2) (x0 :: x1 :: x2 :: x3 :: x4 :: x5 :: x6 :: x7 :: x8 :: x9 :: x10 :: some (.ref v) :: r) st) : AW K own cc M d mc ms Q n z σ cells slots pc (x0 :: x1 :: x2 :: x3 :: x4 :: x5 :: x6 :: x7 :: x8 :: x9 :: x10 :: y0 :: r) (.ref v :: st) := by
  obtain ⟨p, l, e, s, m, args, below, meth, c, D, cs, a0, A0⟩ := K
  intro C H locs la hP hA hS hl
  exact lv_astore C.1 C.2.1 hd hl.has hL rfl (fun la2 hl2 => k C H locs la2 hP hA hS (lok.set1 (v := .ref v) (lnc_s hn) hl2))
theorem aw_astore11N {x0 x1 x2 x3 x4 x5 x6 x7 x8 x9 x10 : Option Value} {y0 : Option Value} {r : List (Option Value)} (hd : decode cc pc = .ok (.astore 11, 2)) (hL : 11 < M.1) (hn : c1b x10 = true) (k : AW K own cc M d mc ms Q n z σ cells slots (pc + 2) (x0 :: x1 :: x2 :: x3 :: x4 :: x5 :: x6 :: x7 :: x8 :: x9 :: x10 :: some (.null) :: r) st) : AW K own cc M d mc ms Q n z σ cells slots pc (x0 :: x1 :: x2 :: x3 :: x4 :: x5 :: x6 :: x7 :: x8 :: x9 :: x10 :: y0 :: r) (.null :: st) := by
  obtain ⟨p, l, e, s, m, args, below, meth, c, D, cs, a0, A0⟩ := K
  intro C H locs la hP hA hS hl
  exact lv_astoreN C.1 C.2.1 hd hl.has hL rfl (fun la2 hl2 => k C H locs la2 hP hA hS (lok.set1 (v := .null) (lnc_s hn) hl2))
theorem aw_astore11E {x0 x1 x2 x3 x4 x5 x6 x7 x8 x9 x10 : Option Value} {y0 : Option Value} {v : Nat} {r : List (Option Value)} (hd : decode cc pc = .ok (.astore 11, 2)) (hL : 11 < M.1) (hn : c1b x10 = true) (k : AW K own cc M d mc ms Q n z σ cells slots (pc + 2) (x0 :: x1 :: x2 :: x3 :: x4 :: x5 :: x6 :: x7 :: x8 :: x9 :: x10 :: some (.retAddr v) :: r) st) : AW K own cc M d mc ms Q n z σ cells slots pc (x0 :: x1 :: x2 :: x3 :: x4 :: x5 :: x6 :: x7 :: x8 :: x9 :: x10 :: y0 :: r) (.retAddr v :: st) := by
  obtain ⟨p, l, e, s, m, args, below, meth, c, D, cs, a0, A0⟩ := K
  intro C H locs la hP hA hS hl
  exact lv_astore C.1 C.2.1 hd hl.has hL rfl (fun la2 hl2 => k C H locs la2 hP hA hS (lok.set1 (v := .retAddr v) (lnc_s hn) hl2))
theorem aw_lstore11 {x0 x1 x2 x3 x4 x5 x6 x7 x8 x9 x10 : Option Value} {y0 y1 : Option Value} {v : Int64} {r : List (Option Value)} (hd : decode cc pc = .ok (.lstore 11, 2)) (hL : 11 + 1 < M.1) (hn : c1b x10 = true) (k : AW K own cc M d mc ms Q n z σ cells slots (pc + 2) (x0 :: x1 :: x2 :: x3 :: x4 :: x5 :: x6 :: x7 :: x8 :: x9 :: x10 :: some (.long v) :: none :: r) st) : AW K own cc M d mc ms Q n z σ cells slots pc (x0 :: x1 :: x2 :: x3 :: x4 :: x5 :: x6 :: x7 :: x8 :: x9 :: x10 :: y0 :: y1 :: r) (.long v :: st) := by
  obtain ⟨p, l, e, s, m, args, below, meth, c, D, cs, a0, A0⟩ := K
  intro C H locs la hP hA hS hl
  exact lv_lstore C.1 C.2.1 hd hl.has hL rfl (fun la2 hl2 => k C H locs la2 hP hA hS (lok.set2 (v := .long v) (lnc_s hn) hl2))
theorem aw_iinc11 {x0 x1 x2 x3 x4 x5 x6 x7 x8 x9 x10 : Option Value} {v w : Int32} {c0 : Int} {r : List (Option Value)} (hd : decode cc pc = .ok (.iinc 11 c0, 3)) (hw : v + Int32.ofInt c0 = w) (hL : 11 < M.1) (hn : c1b x10 = true) (k : AW K own cc M d mc ms Q n z σ cells slots (pc + 3) (x0 :: x1 :: x2 :: x3 :: x4 :: x5 :: x6 :: x7 :: x8 :: x9 :: x10 :: some (.int w) :: r) st) : AW K own cc M d mc ms Q n z σ cells slots pc (x0 :: x1 :: x2 :: x3 :: x4 :: x5 :: x6 :: x7 :: x8 :: x9 :: x10 :: some (.int v) :: r) st := by
  obtain ⟨p, l, e, s, m, args, below, meth, c, D, cs, a0, A0⟩ := K
  intro C H locs la hP hA hS hl
  obtain ⟨q, hq⟩ := List.getElem?_of_mem (lpr_mem (a0 := a0) (ls := (x0 :: x1 :: x2 :: x3 :: x4 :: x5 :: x6 :: x7 :: x8 :: x9 :: x10 :: some (.int v) :: r)) (i := 11) (v := .int v) rfl)
  exact lv_iinc C.1 C.2.1 hd hl.has hq hw hL rfl (fun la2 hl2 => k C H locs la2 hP hA hS (lok.set1 (v := .int w) (lnc_s hn) hl2))
end AWR
