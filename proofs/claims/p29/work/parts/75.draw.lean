/-! the law: the numbers drawn out of the script -/
/-- the script stands at b, and is not one of the cells that change -/
def SC (K : KT) (b L : Nat) (xs : Nat → Int32) : Prop :=
  match K with
  | (_, _, _, s, _, _, _, _, _, _, _, _, A0) => va_X b L xs s s.heap ∧ b < s.heap.size ∧ ¬ A0 b
/-- a contract of a method that reads the script -/
def CtX (b L : Nat) (xs : Nat → Int32) (y : MethodName) (cc : ByteArray) (M : MT) (d mc ms n : Nat) (σ : Sg) (av : List Value) (P : PT) (X : XT) : Prop :=
  ∀ (l : Launch), l.stackTraces = false → ∀ (D : va_G) (cs : Nat → ClassId) (a0 sz : Nat),
    vx_Met l y (.code y cc M.1 M.2.1 :: TT) (rmk d mc ms) (va_Pc (av.map (cv a0)) (fun U => U.heap.size = sz ∧ Pre D cs a0 n false σ U ∧ va_X b L xs U U.heap ∧ b < U.heap.size ∧ ¬ Wa a0 n sz b)) (QP D cs a0 n (Wa a0 n sz) P) (QX D cs a0 n (Wa a0 n sz) X) mc ms (Wa a0 n sz)
section SCR
variable {K : KT} {own : String} {cc cc' : ByteArray} {M M' : MT} {d mc ms d' mc' ms' : Nat} {Q : State → Prop} {n n' ix : Nat} {z : Option Nat} {σ : Sg} {cells slots pc : Nat} {ls : List (Option Value)} {st : List Value} {b L : Nat} {xs : Nat → Int32} {y : MethodName} {P P' : PT} {X : XT}
theorem aw_aload0E {v : Nat} {r : List (Option Value)} (hd : decode cc pc = .ok (.aload_n 0, 1)) (k : AW K own cc M d mc ms Q n z σ cells slots (pc + 1) (some (.retAddr v) :: r) (.retAddr v :: st)) : AW K own cc M d mc ms Q n z σ cells slots pc (some (.retAddr v) :: r) st := by
  obtain ⟨p, l, e, s, m, args, below, meth, c, D, cs, a0, A0⟩ := K
  intro C H locs la hP hA hS hl
  exact lv_aload_n C.1 C.2.1 hd rfl (hl.at (i := 0) (v := .retAddr v) rfl) (k C H locs la hP hA hS hl)
theorem aw_slen (hd : decode cc pc = .ok (.arraylength, 1)) (hX : SC K b L xs) (k : AW K own cc M d mc ms Q n z σ cells slots (pc + 1) ls (.int (nI L) :: st)) : AW K own cc M d mc ms Q n z σ cells slots pc ls (.retAddr b :: st) := by
  obtain ⟨p, l, e, s, m, args, below, meth, c, D, cs, a0, A0⟩ := K
  intro C H locs la hP hA hS hl
  exact va_slen C.1 C.2.1 hX.1 hX.2.1 hX.2.2 hS hd (k C H locs la hP hA hS hl)
theorem aw_sld {i : Int32} {j : Nat} (hd : decode cc pc = .ok (.iaload, 1)) (hX : SC K b L xs) (hL : L ≤ 3072) (hi : i = nI j) (hj : j < L) (k : AW K own cc M d mc ms Q n z σ cells slots (pc + 1) ls (.int (xs j) :: st)) : AW K own cc M d mc ms Q n z σ cells slots pc ls (.int i :: .retAddr b :: st) := by
  obtain ⟨p, l, e, s, m, args, below, meth, c, D, cs, a0, A0⟩ := K
  intro C H locs la hP hA hS hl
  subst hi
  refine va_sld C.1 C.2.1 hX.1 hX.2.1 hX.2.2 hS (vp_in_nI hj (by omega)) hd ?_
  rw [nI_clamp (by omega)]
  exact k C H locs la hP hA hS hl
theorem ctX_of {av : List Value} {ls0 : List (Option Value)} (k : Nat) (hy : plainName y.cls = true) (hM : M.2.2.1 = []) (hnm : M.2.2.2 = y.name) (hnd : nodbl av) (hls : lent av ++ List.replicate k none = ls0) (hlen : (lg_sl av).length ≤ M.1)
    (body : ∀ K : KT, SC K b L xs → AW K y.cls cc M d mc ms (Qm K n P X mc ms) n none σ 0 0 0 ls0 []) : CtX b L xs y cc M d mc ms n σ av P X := by
  intro l hfl D cs a0 sz
  refine vx_ofW (cc := cc) (maxL := M.1) (ret := M.2.1) hy rfl ?_
  intro p e s m args below meth c s₁ B hml hex hv
  obtain ⟨rfl, hsz, ⟨hW, hz, hK, hEX, hZQ⟩, hX1, hX2, hX3⟩ := hv
  subst hsz
  have hts := atoms_spec (ws := .code y cc M.1 M.2.1 :: TT) B.pre
  have hlg : ∀ av : List Value, (lg_sl (av.map (cv a0))).length = (lg_sl av).length := by
    intro av
    induction av with
    | nil => rfl
    | cons v r ih =>
      have hc := cv_cat a0 v
      simp only [lg_sl, List.map_cons, List.flatMap_cons, List.length_append] at ih ⊢
      rw [hc, ih]
      split <;> rfl
  have hl := lok_entry (a0 := a0) (nL := M.1) hnd (by rw [hlg]; exact hlen) k
  rw [lg_entry_eq]
  generalize (lg_sl (av.map (cv a0)) ++ List.replicate (M.1 - (lg_sl (av.map (cv a0))).length) Slot.unset).toArray = la at hl ⊢
  rw [hls] at hl
  have hb := body (p, l, e, s, m, (av.map (cv a0)).toArray, below, meth, c, D, cs, a0, Wa a0 n s.heap.size) ⟨hX1, hX2, hX3⟩
  refine hb ⟨B.exec, B.bytes, hml, B.returns, ?_, ?_, findClass_of_methodNamed B.named, fun w hw => hts w (List.mem_cons_of_mem _ hw), hfl, B.notSynchronized, hK, hEX, hZQ, fun q hq => Or.inr hq, fun n0 h0 => nomatch h0⟩ s.heap [] la hW (fun i hi => Or.inl ⟨by omega, by omega⟩) va_S.rf hl
  · rw [hM]
    match h : c.exceptionTable.toList with
    | [] => rfl
    | x :: r => exact (hex x (by rw [h]; exact List.mem_cons_self)).elim
  · rw [hnm]
    exact (name_of_methodNamed B.named B.method).1
theorem pcX_blind {av : List Value} {D : va_G} {cs : Nat → ClassId} {a0 sz : Nat} : FrameBlind (va_Pc (av.map (cv a0)) (fun U => U.heap.size = sz ∧ Pre D cs a0 n false σ U ∧ va_X b L xs U U.heap ∧ b < U.heap.size ∧ ¬ Wa a0 n sz b)) := fun _ U g mk h => ⟨h.1, h.2.1, h.2.2.1.blind, va_X.moved (Vm.Alike.refl _) h.2.2.2.1, h.2.2.2.2⟩
theorem aw_callSX {As : List Value} (hX : SC K b L xs) (hC : CtX b L xs y cc' M' d' mc' ms' n σ As P' XF) (hd : decode cc pc = .ok (.invokestatic ix, 3)) (hL : SL own ix y cc' M' As.length) (hr : Rm z false n n cells slots d mc ms d' mc' ms' M'.1) (hst : (st.map fun v => v.category).sum ≤ 8)
    (k : ∀ σ' r, P' σ' r → AW K own cc M d mc ms Q n z σ' (cells + mc') (slots + ms') (pc + 3) ls (r.toList ++ st)) : AW K own cc M d mc ms Q n z σ cells slots pc ls (As.reverse ++ st) := by
  obtain ⟨p, l, e, s, m, args, below, meth, c, D, cs, a0, A0⟩ := K
  intro C H locs la hW hA hS hl
  obtain ⟨hx, hb, hml, -, -, -, hown, hts, hfl, -⟩ := id C
  obtain ⟨hl1, hl2, hl3, hl4, hl5⟩ := hL
  obtain ⟨hzb, hn, hd1, hd2, hc1, hc2⟩ := hr
  obtain ⟨hX1, hX2, hX3⟩ := hX
  refine W.sized fun hsz => ?_
  have hq : H[b]? = s.heap[b]? := hS.2.1 b hX2 hX3
  have hb2 : b < H.size := Nat.lt_of_lt_of_le hX2 hS.1
  have hna : ¬ Wa a0 n H.size b := fun z => by
    rcases z with ⟨z1, z2⟩ | z
    · have := hA (b - a0) (by omega)
      rw [show a0 + (b - a0) = b by omega] at this
      exact hX3 this
    · omega
  refine aw_cont (X' := XF) (As := (As.map (cv a0)).toArray) C hW hA hS hl hn ?_ k (fun _ _ h => h.elim)
  exact vx_runS (As := As.map (cv a0)) ⟨hx, hb, hml, hown, hts⟩ (hC l hfl D cs a0 H.size) ⟨callB_of As.length hts (tt_code hl4) rfl rfl rfl (hts _ hl3) (hts _ hl1) hl5 ⟨hd1, hd2⟩, hts _ hl2⟩ ⟨pcX_blind, fun U hU hWU => ⟨rfl, (pre_of C hW hA hS hsz hzb U hU hWU).1, (pre_of C hW hA hS hsz hzb U hU hWU).2, va_X.moved hWU.alike (hX1.kept (by rw [hU]; exact hq)), by rw [hU]; exact hb2, hna⟩⟩ rfl (List.length_map _) hl.1 (by rw [List.map_append, List.map_reverse]) (by show 2 * 0 + _ ≤ 8; rw [cv_sum]; omega) hd ⟨hc1, hc2⟩
end SCR
set_option maxHeartbeats 4000000 in
theorem k_draw (b L : Nat) (xs : Nat → Int32) (hL : L ≤ 3072) (σ : Sg) {i : Int} (h0 : 0 ≤ i) (h1 : i < 1000) : CtX b L xs yL_draw cL_draw mL_draw 1 0 0 776 σ [.retAddr b, .int (iI i)] (rI fun τ y0 => τ = σ ∧ ∃ X : Int, 0 ≤ X ∧ X < 2147483648 ∧ iI X = y0) XF := by
  refine ctX_of (ls0 := [some (.retAddr b), some (.int (iI i))]) 0 (by decide +kernel) rfl rfl (fun x h => by simp at h) rfl (Nat.le_of_ble_eq_true rfl) (fun K hX => ?_)
  have J20 : ∀ v : Int32, AW K yL_draw.cls cL_draw mL_draw 1 0 0 (Qm K 776 (rI fun τ y0 => τ = σ ∧ ∃ X : Int, 0 ≤ X ∧ X < 2147483648 ∧ iI X = y0) XF 0 0) 776 none σ 0 0 20 [some (.retAddr b), some (.int (iI i))] [.int v] := by
    intro v
    refine aw_ldc (v := (2147483647 : Int32)) dL_draw_20 ki_L_8 ?_
    obtain ⟨j, hj, e⟩ := pk_andE v (m := (2147483647 : Int32)) 31 (by decide)
    refine aw_iand7 (v := nI j) dL_draw_22 e ?_
    exact aw_iret dL_draw_23 rfl ⟨by omega, by omega⟩ ⟨_, rfl, rfl, (j : Int), by omega, by omega, (nI_iI _).symm⟩
  refine aw_iload1 dL_draw_0 ?_
  refine aw_aload0E dL_draw_1 ?_
  refine aw_slen dL_draw_2 hX ?_
  rw [nI_iI]
  refine ai_ic_ge (tgt := 12) dL_draw_3 (by decide) (by omega) (by omega) (by omega) (by omega) (fun c_3 => ?_) (fun c_3 => ?_)
  · refine aw_ldc (v := (15593459 : Int32)) dL_draw_12 ki_L_7 ?_
    refine aw_iload1 dL_draw_14 ?_
    refine aw_imul dL_draw_15 ?_
    refine aw_sipush (v := iI 10439) dL_draw_16 (by decide) ?_
    refine aw_iadd dL_draw_19 ?_
    exact J20 _
  · refine aw_aload0E dL_draw_6 ?_
    refine aw_iload1 dL_draw_7 ?_
    refine aw_sld (j := i.toNat) dL_draw_8 hX hL (by rw [nI_iI]; congr 1; omega) (by omega) ?_
    refine aw_goto (tgt := 20) dL_draw_9 (by decide) ?_
    exact J20 _
