/-! making, returning, calling -/
section AWN
variable {K : KT} {own : String} {cc : ByteArray} {M : MT} {d mc ms : Nat} {Q : State → Prop} {n n0 : Nat} {σ : Sg} {cells slots pc : Nat} {ls : List (Option Value)} {st : List Value}
theorem W.sized {p : Program} {l : Launch} {e : Env} {R : Room} {s : State} {m : MethodId} {args : Array Value} {below : List Frame} {meth : Method} {c : Code} {H : Heap} {locs : List Loc} {cells slots : Nat} {Q : State → Prop} {g : JFrame} (h : H.size ≤ s.heap.size + cells → W p l e R s m args below meth c H locs cells slots Q g) : W p l e R s m args below meth c H locs cells slots Q g := fun T hT X => by
  have h1 : T.heap.size ≤ s.heap.size + cells := X.same.2.2.1
  rw [hT] at h1
  exact h h1 T hT X
theorem wd_push {D : va_G} {cs : Nat → ClassId} {a0 n : Nat} {σ τ : Sg} {H H1 : Heap} (hP : Wd D cs a0 n σ H) (hz : H.size = a0 + n) (z1 : H1.size = H.size + 1) (o1 : ∀ q : Nat, q < H.size → H1[q]? = H[q]?) (hw : ∀ i, i < n → σ.1 i = τ.1 i ∧ σ.2.1 i = τ.2.1 i ∧ σ.2.2 i = τ.2.2 i) (he : va_at D vwCl (a0 + n, cE a0 cs τ n) H1) : Wd D cs a0 (n + 1) τ H1 := by
  refine ⟨?_, by omega⟩
  rw [← wl_push hw]
  refine (hP.1.kept (fun k x hx => o1 x.1 ((hP.1 k x hx).lt))).app (fun k x hx => ?_)
  have hk : k < 1 := (List.getElem?_eq_some_iff.mp hx).1
  rw [show k = 0 by omega] at hx
  cases hx
  exact he
theorem va_S_push {A : Nat → Prop} {H0 H H1 : Heap} {locs : List Loc} (hS : va_S A H0 H locs) (z1 : H1.size = H.size + 1) (o1 : ∀ q : Nat, q < H.size → H1[q]? = H[q]?) : va_S A H0 H1 locs :=
  ⟨Nat.le_trans hS.1 (by omega), fun x h1 h2 => (o1 x (Nat.lt_of_lt_of_le h1 hS.1)).trans (hS.2.1 x h1 h2), hS.2.2⟩
theorem aw_new {ix ci : Nat} (hd : decode cc pc = .ok (.new ix, 3)) (hc : ci < 7) (hL : Cond.classLink own ix (clR ci) ∈ TT) (hI : Cond.instantiable (clR ci) (nF ci) ∈ TT) (hJ : Cond.initialized (clR ci) ∈ TT) (hT : cT n = .inl ci) (hn : n = n0 + cells) (hr : cells + 1 ≤ mc ∧ slots + nF ci ≤ ms)
    (kk : AW K own cc M d mc ms Q (n + 1) (some n0) (sZ σ n) (cells + 1) (slots + nF ci) (pc + 3) ls (.ref n :: st)) : AW K own cc M d mc ms Q n (some n0) σ cells slots pc ls st := by
  obtain ⟨p, l, e, s, m, args, below, meth, c, D, cs, a0, A0⟩ := K
  intro C H locs la hP hA hS hl
  obtain ⟨hx, hb, -, -, -, -, hown, hts, -, -, hK, -, -, hA0, hz⟩ := id C
  refine W.sized fun hsz => ?_
  have hs0 : s.heap.size = a0 + n0 := hz n0 rfl
  have hsize : H.size = a0 + n := by have := hP.2; omega
  have hKn := hK.1 ci _ (cl_at hc)
  refine W.newcK (n := nF ci) hx hb hown (hts _ hL) (hts _ hI) (hts _ hJ) rfl hd hr.1 hr.2 hKn.2.1 hsize fun H1 kC hkC e1 z1 o1 => ?_
  have hat : va_at D vwCl (a0 + n, cE a0 cs (sZ σ n) n) H1 := by
    rw [cE_o hT]
    refine ⟨_, cl_at hc, (u_born (clY ci) hts (cl_in hc) hKn hkC e1 (cl_ty hc)).to (fun k hk => ?_)⟩
    show defaultValue (clY ci k) = vp_V _ k
    have e9 : vp_V ((List.range (nF ci)).map (fV a0 (sZ σ n) ci n)) k = fV a0 (sZ σ n) ci n k := by
      show (((List.range (nF ci)).map (fV a0 (sZ σ n) ci n)).getD k .null) = _
      rw [List.getD_eq_getElem?_getD, fV_at hk]
      rfl
    rw [e9]
    have e8 : fV a0 (sZ σ n) ci n k = if rF ci k = true then .null else .int 0 := by simp [fV, sZ, va_rf]
    rw [e8]
    exact cl_7 (P := fun ci => ∀ k, k < nF ci → defaultValue (clY ci k) = if rF ci k = true then Value.null else .int 0) (by decide +kernel) (by decide +kernel) (by decide +kernel) (by decide +kernel) (by decide +kernel) (by decide +kernel) (by decide +kernel) hc k hk
  refine kk C H1 locs la (wd_push hP hsize (by rw [z1, hsize]) (fun q hq => o1 q (by omega)) (fun i hi => sZ_off i hi) hat) (fun i hi => ?_) (va_S_push hS (by rw [z1, hsize]) (fun q hq => o1 q (by omega))) hl
  rcases Nat.lt_or_ge i n with h | h
  · exact hA i h
  · exact hA0 _ (by omega)
theorem aw_newarr {atype : ArrayType} {ty : FieldType} {kd len : Nat} {i : Int32} (hd : decode cc pc = .ok (.newarray atype, 2)) (hty : newarray.typeOf atype = ty) (hL : Cond.arrayClass ty ∈ TT) (hk : (kd = 0 ∧ ty = .int) ∨ (kd = 1 ∧ ty = .boolean)) (hT : cT n = .inr (kd, len)) (hi : i = nI len) (hn : n = n0 + cells) (hr : cells + 1 ≤ mc ∧ slots + len ≤ ms)
    (kk : AW K own cc M d mc ms Q (n + 1) (some n0) (sZ σ n) (cells + 1) (slots + len) (pc + 2) ls (.ref n :: st)) : AW K own cc M d mc ms Q n (some n0) σ cells slots pc ls (.int i :: st) := by
  obtain ⟨p, l, e, s, m, args, below, meth, c, D, cs, a0, A0⟩ := K
  intro C H locs la hP hA hS hl
  obtain ⟨hx, hb, -, -, -, -, hown, hts, -, -, hK, -, -, hA0, hz⟩ := id C
  subst hi
  subst hty
  refine W.sized fun hsz => ?_
  have hs0 : s.heap.size = a0 + n0 := hz n0 rfl
  have hsize : H.size = a0 + n := by have := hP.2; omega
  have hlen := (cT_len hT).1
  have hcl : (nI len).toNatClampNeg = len := nI_clamp (by omega)
  have hby : len * componentBytes (newarray.typeOf atype) ≤ 536870912 := by
    have : componentBytes (newarray.typeOf atype) ≤ 8 := by cases atype <;> decide
    have h2 := Nat.mul_le_mul hlen this
    omega
  refine va_newaK (N := len) hx hb (hts _ hL) rfl hd rfl (nI_pos (by omega)) hcl hby hr.1 hr.2 hsize fun H1 cA e1 z1 o1 hAr hNm => ?_
  have hcA : cA = cs kd := by
    rcases hk with ⟨rfl, hk⟩ | ⟨rfl, hk⟩
    · have := (hK.2 0 _ rfl).2; rw [hk] at hNm; exact Option.some.inj (hNm.symm.trans this)
    · have := (hK.2 1 _ rfl).2; rw [hk] at hNm; exact Option.some.inj (hNm.symm.trans this)
  have hat : va_at D vwCl (a0 + n, cE a0 cs (sZ σ n) n) H1 := by
    subst hcA
    rcases hk with ⟨rfl, hk⟩ | ⟨rfl, hk⟩
    · rw [cE_int hT (by decide)]
      show H1[a0 + n]? = some (vp_cell _ _)
      rw [e1, hk, vp_cell_i]
      simp [sZ, defaultValue]
    · rw [cE_int hT (by decide)]
      show H1[a0 + n]? = some (vp_cell _ _)
      rw [e1, hk, vp_cell_i]
      simp [sZ, defaultValue]
  refine kk C H1 locs la (wd_push hP hsize (by rw [z1, hsize]) (fun q hq => o1 q (by omega)) (fun i hi => sZ_off i hi) hat) (fun i hi => ?_) (va_S_push hS (by rw [z1, hsize]) (fun q hq => o1 q (by omega))) hl
  rcases Nat.lt_or_ge i n with h | h
  · exact hA i h
  · exact hA0 _ (by omega)
theorem aw_anew {ix kd len ci : Nat} {i : Int32} (hd : decode cc pc = .ok (.anewarray ix, 3)) (hL : Cond.classLink own ix (clR ci) ∈ TT) (hk : (kd = 3 ∧ ci = 5) ∨ (kd = 4 ∧ ci = 0) ∨ (kd = 5 ∧ ci = 2)) (hT : cT n = .inr (kd, len)) (hi : i = nI len) (hn : n = n0 + cells) (hr : cells + 1 ≤ mc ∧ slots + len ≤ ms)
    (kk : AW K own cc M d mc ms Q (n + 1) (some n0) (sZ σ n) (cells + 1) (slots + len) (pc + 3) ls (.ref n :: st)) : AW K own cc M d mc ms Q n (some n0) σ cells slots pc ls (.int i :: st) := by
  obtain ⟨p, l, e, s, m, args, below, meth, c, D, cs, a0, A0⟩ := K
  intro C H locs la hP hA hS hl
  obtain ⟨hx, hb, -, -, -, -, hown, hts, -, -, hK, hE, -, hA0, hz⟩ := id C
  subst hi
  refine W.sized fun hsz => ?_
  have hs0 : s.heap.size = a0 + n0 := hz n0 rfl
  have hsize : H.size = a0 + n := by have := hP.2; omega
  have hlen := (cT_len hT).1
  have hcl : (nI len).toNatClampNeg = len := nI_clamp (by omega)
  have hao : va_AO (clR ci) s := hE.2.2.1 _ (by rcases hk with ⟨-, rfl⟩ | ⟨-, rfl⟩ | ⟨-, rfl⟩ <;> decide +kernel)
  refine W.anew hx hb hown (hts _ hL) (va_AO.use hao) rfl hd rfl (nI_pos (by omega)) (by rw [hcl]; omega) hr.1 (by rw [hcl]; exact hr.2) fun cA kA comp f1 f2 f3 f4 => ?_
  rw [hcl]
  generalize hH1 : H.push ({ cls := cA, slots := Array.replicate len .null, vm := .none } : Cell) = H1
  have z1 : H1.size = H.size + 1 := by rw [← hH1, Array.size_push]
  have e1 : H1[H.size]? = some (arrV cA len (fun _ => .null)) := by rw [← hH1, Array.getElem?_push_size, ← arrV_new]
  have o1 : ∀ q : Nat, q < H.size → H1[q]? = H[q]? := fun q hq => by rw [← hH1, Array.getElem?_push, if_neg (Nat.ne_of_lt hq)]
  have hk2 : 2 < kd := by omega
  have hcA : cA = cs kd := by
    rcases hk with ⟨rfl, rfl⟩ | ⟨rfl, rfl⟩ | ⟨rfl, rfl⟩
    · obtain ⟨_, _, -, -, -, h⟩ := (hK.2 3 _ rfl).2; exact Option.some.inj (f1.symm.trans h)
    · obtain ⟨_, _, -, -, -, h⟩ := (hK.2 4 _ rfl).2; exact Option.some.inj (f1.symm.trans h)
    · obtain ⟨_, _, -, -, -, h⟩ := (hK.2 5 _ rfl).2; exact Option.some.inj (f1.symm.trans h)
  have hat : va_at D vwCl (a0 + n, cE a0 cs (sZ σ n) n) H1 := by
    subst hcA
    rw [cE_ref hT hk2]
    show H1[a0 + n]? = some (vp_cell _ _)
    rw [← hsize, e1, vp_cell_q]
    simp [sZ, va_rf]
  rw [hsize]
  refine kk C H1 locs la (wd_push hP hsize z1 o1 (fun i hi => sZ_off i hi) hat) (fun i hi => ?_) (va_S_push hS z1 o1) hl
  rcases Nat.lt_or_ge i n with h | h
  · exact hA i h
  · exact hA0 _ (by omega)
theorem aw_objInit {z : Option Nat} {ix a : Nat} (hd : decode cc pc = .ok (.invokespecial ix, 3)) (hL : Cond.methodLink own ix Lib.objectInit ∈ TT) (hI : Cond.instanceMethod Lib.objectInit ∈ TT) (hC : Cond.code Lib.objectInit ⟨#[0xb1]⟩ 1 none ∈ TT) (hr : 1 ≤ d) (hst : (st.map fun v => v.category).sum ≤ 8)
    (kk : AW K own cc M d mc ms Q n z σ cells slots (pc + 3) ls st) : AW K own cc M d mc ms Q n z σ cells slots pc ls (.ref a :: st) := by
  obtain ⟨p, l, e, s, m, args, below, meth, c, D, cs, a0, A0⟩ := K
  intro C H locs la hP hA hS hl
  obtain ⟨hx, hb, hml, -, -, -, hown, hts, -⟩ := id C
  have hsum : ((st.map (cv a0)).map fun v => v.category).sum = (st.map fun v => v.category).sum := by
    rw [List.map_map]
    congr 2
    funext v
    exact cv_cat a0 v
  refine W.objInit (rest := st.map (cv a0)) hx hb hown (hts _ hL) (hts _ hI) (hts _ hC) rfl (by rw [hml]; exact hl.1) rfl hd hr (by rw [hsum]; show 2 * 0 + _ + 12 ≤ 39 * d; omega) ?_
  exact kk C H locs la hP hA hS hl
end AWN
