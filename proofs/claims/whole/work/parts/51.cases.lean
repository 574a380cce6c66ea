/-! the law: its cases -/
theorem and31 (x : Int32) : ∃ k, k < 32 ∧ x &&& 31 = nI k := by
  refine ⟨(x &&& 31).toBitVec.toNat, ?_, ?_⟩
  · have h : (x &&& 31).toBitVec.toNat = x.toBitVec.toNat &&& 31 := by
      rw [Int32.toBitVec_and, BitVec.toNat_and]
      rfl
    rw [h]
    exact Nat.lt_succ_of_le Nat.and_le_right
  · apply Int32.toBitVec_inj.mp
    show _ = BitVec.ofNat 32 _
    rw [BitVec.ofNat_toNat]
    exact (BitVec.setWidth_eq _).symm
/-- the script stands at b, and is not one of the cells that change -/
def SC (K : KT) (b L : Nat) (xs : Nat → Int32) : Prop :=
  match K with
  | (_, _, _, s, _, _, _, _, _, _, _, _, A0) => va_X b L xs s s.heap ∧ b < s.heap.size ∧ ¬ A0 b
section LAW
variable {K : KT} {own : String} {cc : ByteArray} {M : MT} {d mc ms : Nat} {Q : State → Prop} {n : Nat} {z : Option Nat} {σ : Sg} {cells slots pc : Nat} {ls : List (Option Value)} {st : List Value} {b L : Nat} {xs : Nat → Int32}
theorem aw_aload0E {v : Nat} {r : List (Option Value)} (hd : decode cc pc = .ok (.aload_n 0, 1)) (k : AW K own cc M d mc ms Q n z σ cells slots (pc + 1) (some (.retAddr v) :: r) (.retAddr v :: st)) : AW K own cc M d mc ms Q n z σ cells slots pc (some (.retAddr v) :: r) st := by
  obtain ⟨p, l, e, s, m, args, below, meth, c, D, cs, a0, A0⟩ := K
  intro C H locs la hP hA hS hl
  exact lv_aload_n C.1 C.2.1 hd rfl (hl.at (i := 0) (v := .retAddr v) rfl) (k C H locs la hP hA hS hl)
theorem aw_slen (hd : decode cc pc = .ok (.arraylength, 1)) (hX : SC K b L xs) (k : AW K own cc M d mc ms Q n z σ cells slots (pc + 1) ls (.int (nI L) :: st)) : AW K own cc M d mc ms Q n z σ cells slots pc ls (.retAddr b :: st) := by
  obtain ⟨p, l, e, s, m, args, below, meth, c, D, cs, a0, A0⟩ := K
  intro C H locs la hP hA hS hl
  exact va_slen C.1 C.2.1 hX.1 hX.2.1 hX.2.2 hS hd (k C H locs la hP hA hS hl)
theorem aw_sld {i : Int32} {j : Nat} (hd : decode cc pc = .ok (.iaload, 1)) (hX : SC K b L xs) (hL : L ≤ 3072) (hi : i = nI j) (hj : j < L) (k : AW K own cc M d mc ms Q n z σ cells slots (pc + 1) ls (.int (xs j) :: st)) : AW K own cc M d mc ms Q n z σ cells slots pc ls (.int i :: .retAddr b :: st) := by
  obtain ⟨p, l, e, s, m, args, below, meth, c, D, cs, a0, A0⟩ := K
  intro C H locs la hP hA hS hl
  subst hi
  refine va_sld C.1 C.2.1 hX.1 hX.2.1 hX.2.2 hS (vp_in_nI hj (by omega)) hd ?_
  rw [nI_clamp (by omega)]
  exact k C H locs la hP hA hS hl
end LAW
abbrev LT (tb : List (Nat × Nat × Nat × Nat)) (nm : String) : MT := (7, some .boolean, tb, nm)
abbrev lls (b j : Nat) (x5 x6 : Option Value) : List (Option Value) := [some (.retAddr b), some (.ref 0), some (.ref 388), some (.ref 396), some (.int (nI (6 * j))), x5, x6]
theorem sL_at {τ : Sg} {a k : Nat} {v : Int64} : (sL τ a k v).2.2 a k = v := if_pos ⟨rfl, rfl⟩
theorem toI64_inj {a b : Int32} (h : a.toInt64 = b.toInt64) : a = b := by
  have := congrArg Int64.toInt32 h
  simpa using this
def bI (x : Int32) : Int32 := if x = 0 then 0 else 1
theorem bI_01 {x : Int32} : bI x = 0 ∨ bI x = 1 := by
  unfold bI
  split
  · exact Or.inl rfl
  · exact Or.inr rfl
set_option maxHeartbeats 4000000 in
theorem law_append {K : KT} {b L : Nat} {xs : Nat → Int32} (hS : SC K b L xs) (hL : L ≤ 3072) (tb : List (Nat × Nat × Nat × Nat)) (nm : String) (Q : State → Prop) (j : Nat) (hj : 6 * j + 6 ≤ L) (σ : Sg) (hI : IV σ) (x5 x6 : Option Value) (nxt : ∀ σ2 y5 y6, IV σ2 → AW K RL cL_law (LT tb nm) 12 601024 7293034 Q NN (some 0) σ2 (397 + 8 * j + 8) (6392 + 48 * j + 48) 1735 (lls b j y5 y6) []) : AW K RL cL_law (LT tb nm) 12 601024 7293034 Q NN (some 0) σ (397 + 8 * j) (6392 + 48 * j) 160 (lls b j x5 x6) [] := by
  obtain ⟨cd, val, po, hC, hM⟩ := op_append σ (xs (6 * j + 1)) hI
  refine aw_aload1 dL_law_160 ?_
  refine aw_aload0E dL_law_161 ?_
  refine aw_iload4 dL_law_162 ?_
  refine aw_iconst (v := 1) dL_law_164 (by decide) ?_
  refine aw_iadd dL_law_165 ?_
  refine aw_sld (j := 6 * j + 1) dL_law_166 hS hL (nI_add (6 * j) 1) (by omega) ?_
  refine aw_aload3 dL_law_167 ?_
  refine aw_callSH (As := [.ref 0, .int (xs (6 * j + 1)), .ref 396]) (kL_append σ (xs (6 * j + 1)) cd val po hC) dL_law_168 sl_L_96 (Rm1 ⟨by decide, by decide, by omega, by omega⟩) (Nat.le_of_ble_eq_true rfl) (fun σ2 r h => ?_) (fun _ _ h => h.elim)
  obtain ⟨v, rfl, rfl, ha⟩ := h
  obtain ⟨P, hk, hP⟩ := hM σ2 ha
  refine aw_istore5 dL_law_171 (Nat.le_of_ble_eq_true rfl) rfl ?_
  refine aw_aload2 dL_law_173 ?_
  refine aw_aload0E dL_law_174 ?_
  refine aw_iload4 dL_law_175 ?_
  refine aw_iconst (v := 1) dL_law_177 (by decide) ?_
  refine aw_iadd dL_law_178 ?_
  refine aw_sld (j := 6 * j + 1) dL_law_179 hS hL (nI_add (6 * j) 1) (by omega) ?_
  refine aw_callV (As := [.int (xs (6 * j + 1))]) hk dL_law_180 vl_L_101 rfl (by decide) (Rm0 ⟨by decide, by decide, by omega, by omega⟩) (Nat.le_of_ble_eq_true rfl) (fun σ3 r h => ?_) (fun _ _ h => h.elim)
  obtain ⟨v2, rfl, hI3, ht, hlo, hv⟩ := hP σ3 r h
  refine aw_istore6 dL_law_183 (Nat.le_of_ble_eq_true rfl) rfl ?_
  refine aw_aload2 dL_law_185 ?_
  refine aw_VI0 (k_thrown σ3) dL_law_186 vl_L_102 rfl (by decide) ⟨by decide, by decide, by omega, by omega⟩ (Nat.le_of_ble_eq_true rfl) (fun σ_186 r_186 h_186 => ?_)
  obtain ⟨rfl, rfl⟩ := h_186
  refine aw_iload5 dL_law_189 ?_
  refine aw_ic_eq (tgt := 196) dL_law_191 (by decide) (fun c_191 => ?_) (fun c_191 => absurd ht c_191)
  refine aw_iload5 dL_law_196 ?_
  refine aw_if_ne (tgt := 213) dL_law_198 (by decide) (fun c_198 => ?_) (fun c_198 => ?_)
  · refine aw_goto (tgt := 1735) dL_law_213 (by decide) ?_
    exact nxt _ _ _ hI3
  · refine aw_aload3 dL_law_201 ?_
    refine aw_iconst (v := 0) dL_law_202 (by decide) ?_
    have h0 : cd = 0 := (by first | exact c_198 | exact Classical.not_not.mp c_198)
    have hout : σ3.2.2 396 0 = val.toInt64 := by
      rw [hlo]
      rcases ha with ⟨-, τ, -, rfl⟩ | ⟨q, -⟩
      · exact sL_at
      · exact absurd h0 q
    refine aw_lald (j := 0) dL_law_203 rfl (by decide) rfl (by decide) hout ?_
    refine aw_iload6 dL_law_204 ?_
    refine aw_i2l dL_law_206 ?_
    refine aw_lcmp dL_law_207 ?_
    refine aw_if_eq (tgt := 213) dL_law_208 (by decide) (fun c_208 => ?_) (fun c_208 => absurd (show lg_cmp _ _ = 0 from (lg_cmp_eq _ _).mpr (congrArg Int32.toInt64 (hv h0))) c_208)
    refine aw_goto (tgt := 1735) dL_law_213 (by decide) ?_
    exact nxt _ _ _ hI3
set_option maxHeartbeats 4000000 in
theorem law_clearText {K : KT} {b L : Nat} {xs : Nat → Int32} (hS : SC K b L xs) (hL : L ≤ 3072) (tb : List (Nat × Nat × Nat × Nat)) (nm : String) (Q : State → Prop) (j : Nat) (hj : 6 * j + 6 ≤ L) (σ : Sg) (hI : IV σ) (x5 x6 : Option Value) (nxt : ∀ σ2 y5 y6, IV σ2 → AW K RL cL_law (LT tb nm) 12 601024 7293034 Q NN (some 0) σ2 (397 + 8 * j + 8) (6392 + 48 * j + 48) 1735 (lls b j y5 y6) []) : AW K RL cL_law (LT tb nm) 12 601024 7293034 Q NN (some 0) σ (397 + 8 * j) (6392 + 48 * j) 216 (lls b j x5 x6) [] := by
  obtain ⟨val, po, hC, hM⟩ := op_clearText σ hI
  refine aw_aload1 dL_law_216 ?_
  refine aw_callV (As := []) hC dL_law_217 vl_L_105 rfl (by decide) (Rm0 ⟨by decide, by decide, by omega, by omega⟩) (Nat.le_of_ble_eq_true rfl) (fun σ2 r h => ?_) (fun _ _ h => h.elim)
  obtain ⟨v, rfl, -, hpo, rfl⟩ := h
  obtain ⟨P, hk, hP⟩ := hM σ2 hpo
  refine aw_aload2 dL_law_220 ?_
  refine aw_callV (As := []) hk dL_law_221 vl_L_108 rfl (by decide) (Rm0 ⟨by decide, by decide, by omega, by omega⟩) (Nat.le_of_ble_eq_true rfl) (fun σ3 r h => ?_) (fun _ _ h => h.elim)
  obtain ⟨v2, rfl, hI3, hv⟩ := hP σ3 r h
  refine aw_ic_eq (tgt := 1735) dL_law_224 (by decide) (fun c_224 => ?_) (fun c_224 => absurd hv c_224)
  refine AW.widen (k1 := 397 + 8 * j + 8) (k2 := 6392 + 48 * j + 48) (by omega) (by omega) ?_
  exact nxt _ _ _ hI3
set_option maxHeartbeats 4000000 in
theorem law_errorPosition {K : KT} {b L : Nat} {xs : Nat → Int32} (hS : SC K b L xs) (hL : L ≤ 3072) (tb : List (Nat × Nat × Nat × Nat)) (nm : String) (Q : State → Prop) (j : Nat) (hj : 6 * j + 6 ≤ L) (σ : Sg) (hI : IV σ) (x5 x6 : Option Value) (nxt : ∀ σ2 y5 y6, IV σ2 → AW K RL cL_law (LT tb nm) 12 601024 7293034 Q NN (some 0) σ2 (397 + 8 * j + 8) (6392 + 48 * j + 48) 1735 (lls b j y5 y6) []) : AW K RL cL_law (LT tb nm) 12 601024 7293034 Q NN (some 0) σ (397 + 8 * j) (6392 + 48 * j) 229 (lls b j x5 x6) [] := by
  obtain ⟨val, po, hC, hM⟩ := op_errorPosition σ hI
  refine aw_aload1 dL_law_229 ?_
  refine aw_callV (As := []) hC dL_law_230 vl_L_109 rfl (by decide) (Rm0 ⟨by decide, by decide, by omega, by omega⟩) (Nat.le_of_ble_eq_true rfl) (fun σ2 r h => ?_) (fun _ _ h => h.elim)
  obtain ⟨v, rfl, -, hpo, rfl⟩ := h
  obtain ⟨P, hk, hP⟩ := hM σ2 hpo
  refine aw_aload2 dL_law_233 ?_
  refine aw_callV (As := []) hk dL_law_234 vl_L_112 rfl (by decide) (Rm0 ⟨by decide, by decide, by omega, by omega⟩) (Nat.le_of_ble_eq_true rfl) (fun σ3 r h => ?_) (fun _ _ h => h.elim)
  obtain ⟨v2, rfl, hI3, hv⟩ := hP σ3 r h
  refine aw_ic_eq (tgt := 1735) dL_law_237 (by decide) (fun c_237 => ?_) (fun c_237 => absurd hv c_237)
  refine AW.widen (k1 := 397 + 8 * j + 8) (k2 := 6392 + 48 * j + 48) (by omega) (by omega) ?_
  exact nxt _ _ _ hI3
set_option maxHeartbeats 4000000 in
theorem law_load {K : KT} {b L : Nat} {xs : Nat → Int32} (hS : SC K b L xs) (hL : L ≤ 3072) (tb : List (Nat × Nat × Nat × Nat)) (nm : String) (Q : State → Prop) (j : Nat) (hj : 6 * j + 6 ≤ L) (σ : Sg) (hI : IV σ) (x5 x6 : Option Value) (nxt : ∀ σ2 y5 y6, IV σ2 → AW K RL cL_law (LT tb nm) 12 601024 7293034 Q NN (some 0) σ2 (397 + 8 * j + 8) (6392 + 48 * j + 48) 1735 (lls b j y5 y6) []) : AW K RL cL_law (LT tb nm) 12 601024 7293034 Q NN (some 0) σ (397 + 8 * j) (6392 + 48 * j) 242 (lls b j x5 x6) [] := by
  obtain ⟨cd, val, po, hC, hM⟩ := op_load σ  hI
  refine aw_aload1 dL_law_242 ?_
  refine aw_aload3 dL_law_243 ?_
  refine aw_callSH (As := [.ref 0, .ref 396]) (kL_load σ  cd val po hC) dL_law_244 sl_L_113 (Rm1 ⟨by decide, by decide, by omega, by omega⟩) (Nat.le_of_ble_eq_true rfl) (fun σ2 r h => ?_) (fun _ _ h => h.elim)
  obtain ⟨v, rfl, rfl, ha⟩ := h
  obtain ⟨P, hk, hP⟩ := hM σ2 ha
  refine aw_istore5 dL_law_247 (Nat.le_of_ble_eq_true rfl) rfl ?_
  refine aw_aload2 dL_law_249 ?_
  refine aw_callV (As := []) hk dL_law_250 vl_L_116 rfl (by decide) (Rm0 ⟨by decide, by decide, by omega, by omega⟩) (Nat.le_of_ble_eq_true rfl) (fun σ3 r h => ?_) (fun _ _ h => h.elim)
  obtain ⟨v2, rfl, hI3, ht, hlo, hv⟩ := hP σ3 r h
  refine aw_istore6 dL_law_253 (Nat.le_of_ble_eq_true rfl) rfl ?_
  refine aw_aload2 dL_law_255 ?_
  refine aw_VI0 (k_thrown σ3) dL_law_256 vl_L_102 rfl (by decide) ⟨by decide, by decide, by omega, by omega⟩ (Nat.le_of_ble_eq_true rfl) (fun σ_256 r_256 h_256 => ?_)
  obtain ⟨rfl, rfl⟩ := h_256
  refine aw_iload5 dL_law_259 ?_
  refine aw_ic_eq (tgt := 266) dL_law_261 (by decide) (fun c_261 => ?_) (fun c_261 => absurd ht c_261)
  refine aw_iload5 dL_law_266 ?_
  refine aw_if_ne (tgt := 283) dL_law_268 (by decide) (fun c_268 => ?_) (fun c_268 => ?_)
  · refine aw_goto (tgt := 1735) dL_law_283 (by decide) ?_
    exact nxt _ _ _ hI3
  · refine aw_aload3 dL_law_271 ?_
    refine aw_iconst (v := 0) dL_law_272 (by decide) ?_
    have h0 : cd = 0 := (by first | exact c_268 | exact Classical.not_not.mp c_268)
    have hout : σ3.2.2 396 0 = val.toInt64 := by
      rw [hlo]
      rcases ha with ⟨-, τ, -, rfl⟩ | ⟨q, -⟩
      · exact sL_at
      · exact absurd h0 q
    refine aw_lald (j := 0) dL_law_273 rfl (by decide) rfl (by decide) hout ?_
    refine aw_iload6 dL_law_274 ?_
    refine aw_i2l dL_law_276 ?_
    refine aw_lcmp dL_law_277 ?_
    refine aw_if_eq (tgt := 283) dL_law_278 (by decide) (fun c_278 => ?_) (fun c_278 => absurd (show lg_cmp _ _ = 0 from (lg_cmp_eq _ _).mpr (congrArg Int32.toInt64 (hv h0))) c_278)
    refine aw_goto (tgt := 1735) dL_law_283 (by decide) ?_
    exact nxt _ _ _ hI3
set_option maxHeartbeats 4000000 in
theorem law_about {K : KT} {b L : Nat} {xs : Nat → Int32} (hS : SC K b L xs) (hL : L ≤ 3072) (tb : List (Nat × Nat × Nat × Nat)) (nm : String) (Q : State → Prop) (j : Nat) (hj : 6 * j + 6 ≤ L) (σ : Sg) (hI : IV σ) (x5 x6 : Option Value) (nxt : ∀ σ2 y5 y6, IV σ2 → AW K RL cL_law (LT tb nm) 12 601024 7293034 Q NN (some 0) σ2 (397 + 8 * j + 8) (6392 + 48 * j + 48) 1735 (lls b j y5 y6) []) : AW K RL cL_law (LT tb nm) 12 601024 7293034 Q NN (some 0) σ (397 + 8 * j) (6392 + 48 * j) 286 (lls b j x5 x6) [] := by
  obtain ⟨cd, val, po, hC, hM⟩ := op_about σ (xs (6 * j + 1)) hI
  refine aw_aload1 dL_law_286 ?_
  refine aw_aload0E dL_law_287 ?_
  refine aw_iload4 dL_law_288 ?_
  refine aw_iconst (v := 1) dL_law_290 (by decide) ?_
  refine aw_iadd dL_law_291 ?_
  refine aw_sld (j := 6 * j + 1) dL_law_292 hS hL (nI_add (6 * j) 1) (by omega) ?_
  refine aw_aload3 dL_law_293 ?_
  refine aw_callSH (As := [.ref 0, .int (xs (6 * j + 1)), .ref 396]) (kL_about σ (xs (6 * j + 1)) cd val po hC) dL_law_294 sl_L_117 (Rm1 ⟨by decide, by decide, by omega, by omega⟩) (Nat.le_of_ble_eq_true rfl) (fun σ2 r h => ?_) (fun _ _ h => h.elim)
  obtain ⟨v, rfl, rfl, ha⟩ := h
  obtain ⟨P, hk, hP⟩ := hM σ2 ha
  refine aw_istore5 dL_law_297 (Nat.le_of_ble_eq_true rfl) rfl ?_
  refine aw_aload2 dL_law_299 ?_
  refine aw_aload0E dL_law_300 ?_
  refine aw_iload4 dL_law_301 ?_
  refine aw_iconst (v := 1) dL_law_303 (by decide) ?_
  refine aw_iadd dL_law_304 ?_
  refine aw_sld (j := 6 * j + 1) dL_law_305 hS hL (nI_add (6 * j) 1) (by omega) ?_
  refine aw_callV (As := [.int (xs (6 * j + 1))]) hk dL_law_306 vl_L_119 rfl (by decide) (Rm0 ⟨by decide, by decide, by omega, by omega⟩) (Nat.le_of_ble_eq_true rfl) (fun σ3 r h => ?_) (fun _ _ h => h.elim)
  obtain ⟨v2, rfl, hI3, ht, hlo, hv⟩ := hP σ3 r h
  refine aw_istore6 dL_law_309 (Nat.le_of_ble_eq_true rfl) rfl ?_
  refine aw_aload2 dL_law_311 ?_
  refine aw_VI0 (k_thrown σ3) dL_law_312 vl_L_102 rfl (by decide) ⟨by decide, by decide, by omega, by omega⟩ (Nat.le_of_ble_eq_true rfl) (fun σ_312 r_312 h_312 => ?_)
  obtain ⟨rfl, rfl⟩ := h_312
  refine aw_iload5 dL_law_315 ?_
  refine aw_ic_eq (tgt := 322) dL_law_317 (by decide) (fun c_317 => ?_) (fun c_317 => absurd ht c_317)
  refine aw_iload5 dL_law_322 ?_
  refine aw_if_ne (tgt := 339) dL_law_324 (by decide) (fun c_324 => ?_) (fun c_324 => ?_)
  · refine aw_goto (tgt := 1735) dL_law_339 (by decide) ?_
    exact nxt _ _ _ hI3
  · refine aw_aload3 dL_law_327 ?_
    refine aw_iconst (v := 0) dL_law_328 (by decide) ?_
    have h0 : cd = 0 := (by first | exact c_324 | exact Classical.not_not.mp c_324)
    have hout : σ3.2.2 396 0 = val.toInt64 := by
      rw [hlo]
      rcases ha with ⟨-, τ, -, rfl⟩ | ⟨q, -⟩
      · exact sL_at
      · exact absurd h0 q
    refine aw_lald (j := 0) dL_law_329 rfl (by decide) rfl (by decide) hout ?_
    refine aw_iload6 dL_law_330 ?_
    refine aw_i2l dL_law_332 ?_
    refine aw_lcmp dL_law_333 ?_
    refine aw_if_eq (tgt := 339) dL_law_334 (by decide) (fun c_334 => ?_) (fun c_334 => absurd (show lg_cmp _ _ = 0 from (lg_cmp_eq _ _).mpr (congrArg Int32.toInt64 (hv h0))) c_334)
    refine aw_goto (tgt := 1735) dL_law_339 (by decide) ?_
    exact nxt _ _ _ hI3
set_option maxHeartbeats 4000000 in
theorem law_room {K : KT} {b L : Nat} {xs : Nat → Int32} (hS : SC K b L xs) (hL : L ≤ 3072) (tb : List (Nat × Nat × Nat × Nat)) (nm : String) (Q : State → Prop) (j : Nat) (hj : 6 * j + 6 ≤ L) (σ : Sg) (hI : IV σ) (x5 x6 : Option Value) (nxt : ∀ σ2 y5 y6, IV σ2 → AW K RL cL_law (LT tb nm) 12 601024 7293034 Q NN (some 0) σ2 (397 + 8 * j + 8) (6392 + 48 * j + 48) 1735 (lls b j y5 y6) []) : AW K RL cL_law (LT tb nm) 12 601024 7293034 Q NN (some 0) σ (397 + 8 * j) (6392 + 48 * j) 342 (lls b j x5 x6) [] := by
  obtain ⟨cd, val, po, hC, hM⟩ := op_room σ (xs (6 * j + 1)) (xs (6 * j + 2)) hI
  refine aw_aload1 dL_law_342 ?_
  refine aw_aload0E dL_law_343 ?_
  refine aw_iload4 dL_law_344 ?_
  refine aw_iconst (v := 1) dL_law_346 (by decide) ?_
  refine aw_iadd dL_law_347 ?_
  refine aw_sld (j := 6 * j + 1) dL_law_348 hS hL (nI_add (6 * j) 1) (by omega) ?_
  refine aw_aload0E dL_law_349 ?_
  refine aw_iload4 dL_law_350 ?_
  refine aw_iconst (v := 2) dL_law_352 (by decide) ?_
  refine aw_iadd dL_law_353 ?_
  refine aw_sld (j := 6 * j + 2) dL_law_354 hS hL (nI_add (6 * j) 2) (by omega) ?_
  refine aw_aload3 dL_law_355 ?_
  refine aw_callSH (As := [.ref 0, .int (xs (6 * j + 1)), .int (xs (6 * j + 2)), .ref 396]) (kL_room σ (xs (6 * j + 1)) (xs (6 * j + 2)) cd val po hC) dL_law_356 sl_L_120 (Rm1 ⟨by decide, by decide, by omega, by omega⟩) (Nat.le_of_ble_eq_true rfl) (fun σ2 r h => ?_) (fun _ _ h => h.elim)
  obtain ⟨v, rfl, rfl, ha⟩ := h
  obtain ⟨P, hk, hP⟩ := hM σ2 ha
  refine aw_istore5 dL_law_359 (Nat.le_of_ble_eq_true rfl) rfl ?_
  refine aw_aload2 dL_law_361 ?_
  refine aw_aload0E dL_law_362 ?_
  refine aw_iload4 dL_law_363 ?_
  refine aw_iconst (v := 1) dL_law_365 (by decide) ?_
  refine aw_iadd dL_law_366 ?_
  refine aw_sld (j := 6 * j + 1) dL_law_367 hS hL (nI_add (6 * j) 1) (by omega) ?_
  refine aw_aload0E dL_law_368 ?_
  refine aw_iload4 dL_law_369 ?_
  refine aw_iconst (v := 2) dL_law_371 (by decide) ?_
  refine aw_iadd dL_law_372 ?_
  refine aw_sld (j := 6 * j + 2) dL_law_373 hS hL (nI_add (6 * j) 2) (by omega) ?_
  refine aw_callV (As := [.int (xs (6 * j + 1)), .int (xs (6 * j + 2))]) hk dL_law_374 vl_L_123 rfl (by decide) (Rm0 ⟨by decide, by decide, by omega, by omega⟩) (Nat.le_of_ble_eq_true rfl) (fun σ3 r h => ?_) (fun _ _ h => h.elim)
  obtain ⟨v2, rfl, hI3, ht, hlo, hv⟩ := hP σ3 r h
  refine aw_istore6 dL_law_377 (Nat.le_of_ble_eq_true rfl) rfl ?_
  refine aw_aload2 dL_law_379 ?_
  refine aw_VI0 (k_thrown σ3) dL_law_380 vl_L_102 rfl (by decide) ⟨by decide, by decide, by omega, by omega⟩ (Nat.le_of_ble_eq_true rfl) (fun σ_380 r_380 h_380 => ?_)
  obtain ⟨rfl, rfl⟩ := h_380
  refine aw_iload5 dL_law_383 ?_
  refine aw_ic_eq (tgt := 390) dL_law_385 (by decide) (fun c_385 => ?_) (fun c_385 => absurd ht c_385)
  refine aw_iload5 dL_law_390 ?_
  refine aw_if_ne (tgt := 407) dL_law_392 (by decide) (fun c_392 => ?_) (fun c_392 => ?_)
  · refine aw_goto (tgt := 1735) dL_law_407 (by decide) ?_
    exact nxt _ _ _ hI3
  · refine aw_aload3 dL_law_395 ?_
    refine aw_iconst (v := 0) dL_law_396 (by decide) ?_
    have h0 : cd = 0 := (by first | exact c_392 | exact Classical.not_not.mp c_392)
    have hout : σ3.2.2 396 0 = val.toInt64 := by
      rw [hlo]
      rcases ha with ⟨-, τ, -, rfl⟩ | ⟨q, -⟩
      · exact sL_at
      · exact absurd h0 q
    refine aw_lald (j := 0) dL_law_397 rfl (by decide) rfl (by decide) hout ?_
    refine aw_iload6 dL_law_398 ?_
    refine aw_i2l dL_law_400 ?_
    refine aw_lcmp dL_law_401 ?_
    refine aw_if_eq (tgt := 407) dL_law_402 (by decide) (fun c_402 => ?_) (fun c_402 => absurd (show lg_cmp _ _ = 0 from (lg_cmp_eq _ _).mpr (congrArg Int32.toInt64 (hv h0))) c_402)
    refine aw_goto (tgt := 1735) dL_law_407 (by decide) ?_
    exact nxt _ _ _ hI3
set_option maxHeartbeats 4000000 in
theorem law_owes {K : KT} {b L : Nat} {xs : Nat → Int32} (hS : SC K b L xs) (hL : L ≤ 3072) (tb : List (Nat × Nat × Nat × Nat)) (nm : String) (Q : State → Prop) (j : Nat) (hj : 6 * j + 6 ≤ L) (σ : Sg) (hI : IV σ) (x5 x6 : Option Value) (nxt : ∀ σ2 y5 y6, IV σ2 → AW K RL cL_law (LT tb nm) 12 601024 7293034 Q NN (some 0) σ2 (397 + 8 * j + 8) (6392 + 48 * j + 48) 1735 (lls b j y5 y6) []) : AW K RL cL_law (LT tb nm) 12 601024 7293034 Q NN (some 0) σ (397 + 8 * j) (6392 + 48 * j) 410 (lls b j x5 x6) [] := by
  obtain ⟨cd, val, po, hC, hM⟩ := op_owes σ (xs (6 * j + 1)) hI
  refine aw_aload1 dL_law_410 ?_
  refine aw_aload0E dL_law_411 ?_
  refine aw_iload4 dL_law_412 ?_
  refine aw_iconst (v := 1) dL_law_414 (by decide) ?_
  refine aw_iadd dL_law_415 ?_
  refine aw_sld (j := 6 * j + 1) dL_law_416 hS hL (nI_add (6 * j) 1) (by omega) ?_
  refine aw_aload3 dL_law_417 ?_
  refine aw_callSH (As := [.ref 0, .int (xs (6 * j + 1)), .ref 396]) (kL_owes σ (xs (6 * j + 1)) cd val po hC) dL_law_418 sl_L_124 (Rm1 ⟨by decide, by decide, by omega, by omega⟩) (Nat.le_of_ble_eq_true rfl) (fun σ2 r h => ?_) (fun _ _ h => h.elim)
  obtain ⟨v, rfl, rfl, ha⟩ := h
  obtain ⟨P, hk, hP⟩ := hM σ2 ha
  refine aw_istore5 dL_law_421 (Nat.le_of_ble_eq_true rfl) rfl ?_
  refine aw_aload2 dL_law_423 ?_
  refine aw_aload0E dL_law_424 ?_
  refine aw_iload4 dL_law_425 ?_
  refine aw_iconst (v := 1) dL_law_427 (by decide) ?_
  refine aw_iadd dL_law_428 ?_
  refine aw_sld (j := 6 * j + 1) dL_law_429 hS hL (nI_add (6 * j) 1) (by omega) ?_
  refine aw_callV (As := [.int (xs (6 * j + 1))]) hk dL_law_430 vl_L_126 rfl (by decide) (Rm0 ⟨by decide, by decide, by omega, by omega⟩) (Nat.le_of_ble_eq_true rfl) (fun σ3 r h => ?_) (fun _ _ h => h.elim)
  obtain ⟨v2, rfl, hI3, ht, hlo, hv⟩ := hP σ3 r h
  refine aw_istore6 dL_law_433 (Nat.le_of_ble_eq_true rfl) rfl ?_
  refine aw_aload2 dL_law_435 ?_
  refine aw_VI0 (k_thrown σ3) dL_law_436 vl_L_102 rfl (by decide) ⟨by decide, by decide, by omega, by omega⟩ (Nat.le_of_ble_eq_true rfl) (fun σ_436 r_436 h_436 => ?_)
  obtain ⟨rfl, rfl⟩ := h_436
  refine aw_iload5 dL_law_439 ?_
  refine aw_ic_eq (tgt := 446) dL_law_441 (by decide) (fun c_441 => ?_) (fun c_441 => absurd ht c_441)
  refine aw_iload5 dL_law_446 ?_
  refine aw_if_ne (tgt := 463) dL_law_448 (by decide) (fun c_448 => ?_) (fun c_448 => ?_)
  · refine aw_goto (tgt := 1735) dL_law_463 (by decide) ?_
    exact nxt _ _ _ hI3
  · refine aw_aload3 dL_law_451 ?_
    refine aw_iconst (v := 0) dL_law_452 (by decide) ?_
    have h0 : cd = 0 := (by first | exact c_448 | exact Classical.not_not.mp c_448)
    have hout : σ3.2.2 396 0 = val.toInt64 := by
      rw [hlo]
      rcases ha with ⟨-, τ, -, rfl⟩ | ⟨q, -⟩
      · exact sL_at
      · exact absurd h0 q
    refine aw_lald (j := 0) dL_law_453 rfl (by decide) rfl (by decide) hout ?_
    refine aw_iload6 dL_law_454 ?_
    refine aw_i2l dL_law_456 ?_
    refine aw_lcmp dL_law_457 ?_
    refine aw_if_eq (tgt := 463) dL_law_458 (by decide) (fun c_458 => ?_) (fun c_458 => absurd (show lg_cmp _ _ = 0 from (lg_cmp_eq _ _).mpr (congrArg Int32.toInt64 (hv h0))) c_458)
    refine aw_goto (tgt := 1735) dL_law_463 (by decide) ?_
    exact nxt _ _ _ hI3
set_option maxHeartbeats 4000000 in
theorem law_booking {K : KT} {b L : Nat} {xs : Nat → Int32} (hS : SC K b L xs) (hL : L ≤ 3072) (tb : List (Nat × Nat × Nat × Nat)) (nm : String) (Q : State → Prop) (j : Nat) (hj : 6 * j + 6 ≤ L) (σ : Sg) (hI : IV σ) (x5 x6 : Option Value) (nxt : ∀ σ2 y5 y6, IV σ2 → AW K RL cL_law (LT tb nm) 12 601024 7293034 Q NN (some 0) σ2 (397 + 8 * j + 8) (6392 + 48 * j + 48) 1735 (lls b j y5 y6) []) : AW K RL cL_law (LT tb nm) 12 601024 7293034 Q NN (some 0) σ (397 + 8 * j) (6392 + 48 * j) 466 (lls b j x5 x6) [] := by
  obtain ⟨cd, val, po, hC, hM⟩ := op_booking σ (xs (6 * j + 1)) (xs (6 * j + 2)) hI
  refine aw_aload1 dL_law_466 ?_
  refine aw_aload0E dL_law_467 ?_
  refine aw_iload4 dL_law_468 ?_
  refine aw_iconst (v := 1) dL_law_470 (by decide) ?_
  refine aw_iadd dL_law_471 ?_
  refine aw_sld (j := 6 * j + 1) dL_law_472 hS hL (nI_add (6 * j) 1) (by omega) ?_
  refine aw_aload0E dL_law_473 ?_
  refine aw_iload4 dL_law_474 ?_
  refine aw_iconst (v := 2) dL_law_476 (by decide) ?_
  refine aw_iadd dL_law_477 ?_
  refine aw_sld (j := 6 * j + 2) dL_law_478 hS hL (nI_add (6 * j) 2) (by omega) ?_
  refine aw_aload3 dL_law_479 ?_
  refine aw_callSH (As := [.ref 0, .int (xs (6 * j + 1)), .int (xs (6 * j + 2)), .ref 396]) (kL_booking σ (xs (6 * j + 1)) (xs (6 * j + 2)) cd val po hC) dL_law_480 sl_L_127 (Rm1 ⟨by decide, by decide, by omega, by omega⟩) (Nat.le_of_ble_eq_true rfl) (fun σ2 r h => ?_) (fun _ _ h => h.elim)
  obtain ⟨v, rfl, rfl, ha⟩ := h
  obtain ⟨P, hk, hP⟩ := hM σ2 ha
  refine aw_istore5 dL_law_483 (Nat.le_of_ble_eq_true rfl) rfl ?_
  refine aw_aload2 dL_law_485 ?_
  refine aw_aload0E dL_law_486 ?_
  refine aw_iload4 dL_law_487 ?_
  refine aw_iconst (v := 1) dL_law_489 (by decide) ?_
  refine aw_iadd dL_law_490 ?_
  refine aw_sld (j := 6 * j + 1) dL_law_491 hS hL (nI_add (6 * j) 1) (by omega) ?_
  refine aw_aload0E dL_law_492 ?_
  refine aw_iload4 dL_law_493 ?_
  refine aw_iconst (v := 2) dL_law_495 (by decide) ?_
  refine aw_iadd dL_law_496 ?_
  refine aw_sld (j := 6 * j + 2) dL_law_497 hS hL (nI_add (6 * j) 2) (by omega) ?_
  refine aw_callV (As := [.int (xs (6 * j + 1)), .int (xs (6 * j + 2))]) hk dL_law_498 vl_L_129 rfl (by decide) (Rm0 ⟨by decide, by decide, by omega, by omega⟩) (Nat.le_of_ble_eq_true rfl) (fun σ3 r h => ?_) (fun _ _ h => h.elim)
  obtain ⟨v2, rfl, hI3, ht, hlo, hv⟩ := hP σ3 r h
  refine aw_istore6 dL_law_501 (Nat.le_of_ble_eq_true rfl) rfl ?_
  refine aw_aload2 dL_law_503 ?_
  refine aw_VI0 (k_thrown σ3) dL_law_504 vl_L_102 rfl (by decide) ⟨by decide, by decide, by omega, by omega⟩ (Nat.le_of_ble_eq_true rfl) (fun σ_504 r_504 h_504 => ?_)
  obtain ⟨rfl, rfl⟩ := h_504
  refine aw_iload5 dL_law_507 ?_
  refine aw_ic_eq (tgt := 514) dL_law_509 (by decide) (fun c_509 => ?_) (fun c_509 => absurd ht c_509)
  refine aw_iload5 dL_law_514 ?_
  refine aw_if_ne (tgt := 531) dL_law_516 (by decide) (fun c_516 => ?_) (fun c_516 => ?_)
  · refine aw_goto (tgt := 1735) dL_law_531 (by decide) ?_
    exact nxt _ _ _ hI3
  · refine aw_aload3 dL_law_519 ?_
    refine aw_iconst (v := 0) dL_law_520 (by decide) ?_
    have h0 : cd = 0 := (by first | exact c_516 | exact Classical.not_not.mp c_516)
    have hout : σ3.2.2 396 0 = val.toInt64 := by
      rw [hlo]
      rcases ha with ⟨-, τ, -, rfl⟩ | ⟨q, -⟩
      · exact sL_at
      · exact absurd h0 q
    refine aw_lald (j := 0) dL_law_521 rfl (by decide) rfl (by decide) hout ?_
    refine aw_iload6 dL_law_522 ?_
    refine aw_i2l dL_law_524 ?_
    refine aw_lcmp dL_law_525 ?_
    refine aw_if_eq (tgt := 531) dL_law_526 (by decide) (fun c_526 => ?_) (fun c_526 => absurd (show lg_cmp _ _ = 0 from (lg_cmp_eq _ _).mpr (congrArg Int32.toInt64 (hv h0))) c_526)
    refine aw_goto (tgt := 1735) dL_law_531 (by decide) ?_
    exact nxt _ _ _ hI3
set_option maxHeartbeats 4000000 in
theorem law_addRoom {K : KT} {b L : Nat} {xs : Nat → Int32} (hS : SC K b L xs) (hL : L ≤ 3072) (tb : List (Nat × Nat × Nat × Nat)) (nm : String) (Q : State → Prop) (j : Nat) (hj : 6 * j + 6 ≤ L) (σ : Sg) (hI : IV σ) (x5 x6 : Option Value) (nxt : ∀ σ2 y5 y6, IV σ2 → AW K RL cL_law (LT tb nm) 12 601024 7293034 Q NN (some 0) σ2 (397 + 8 * j + 8) (6392 + 48 * j + 48) 1735 (lls b j y5 y6) []) : AW K RL cL_law (LT tb nm) 12 601024 7293034 Q NN (some 0) σ (397 + 8 * j) (6392 + 48 * j) 534 (lls b j x5 x6) [] := by
  obtain ⟨cd, val, po, hC, hM⟩ := op_addRoom σ (xs (6 * j + 1)) (xs (6 * j + 2)) (xs (6 * j + 3)) (xs (6 * j + 4)) hI
  refine aw_aload1 dL_law_534 ?_
  refine aw_aload0E dL_law_535 ?_
  refine aw_iload4 dL_law_536 ?_
  refine aw_iconst (v := 1) dL_law_538 (by decide) ?_
  refine aw_iadd dL_law_539 ?_
  refine aw_sld (j := 6 * j + 1) dL_law_540 hS hL (nI_add (6 * j) 1) (by omega) ?_
  refine aw_aload0E dL_law_541 ?_
  refine aw_iload4 dL_law_542 ?_
  refine aw_iconst (v := 2) dL_law_544 (by decide) ?_
  refine aw_iadd dL_law_545 ?_
  refine aw_sld (j := 6 * j + 2) dL_law_546 hS hL (nI_add (6 * j) 2) (by omega) ?_
  refine aw_aload0E dL_law_547 ?_
  refine aw_iload4 dL_law_548 ?_
  refine aw_iconst (v := 3) dL_law_550 (by decide) ?_
  refine aw_iadd dL_law_551 ?_
  refine aw_sld (j := 6 * j + 3) dL_law_552 hS hL (nI_add (6 * j) 3) (by omega) ?_
  refine aw_aload0E dL_law_553 ?_
  refine aw_iload4 dL_law_554 ?_
  refine aw_iconst (v := 4) dL_law_556 (by decide) ?_
  refine aw_iadd dL_law_557 ?_
  refine aw_sld (j := 6 * j + 4) dL_law_558 hS hL (nI_add (6 * j) 4) (by omega) ?_
  refine aw_aload3 dL_law_559 ?_
  refine aw_callSH (As := [.ref 0, .int (xs (6 * j + 1)), .int (xs (6 * j + 2)), .int (xs (6 * j + 3)), .int (xs (6 * j + 4)), .ref 396]) (kL_addRoom σ (xs (6 * j + 1)) (xs (6 * j + 2)) (xs (6 * j + 3)) (xs (6 * j + 4)) cd val po hC) dL_law_560 sl_L_130 (Rm1 ⟨by decide, by decide, by omega, by omega⟩) (Nat.le_of_ble_eq_true rfl) (fun σ2 r h => ?_) (fun _ _ h => h.elim)
  obtain ⟨v, rfl, rfl, ha⟩ := h
  obtain ⟨P, hk, hP⟩ := hM σ2 ha
  refine aw_istore5 dL_law_563 (Nat.le_of_ble_eq_true rfl) rfl ?_
  refine aw_aload2 dL_law_565 ?_
  refine aw_aload0E dL_law_566 ?_
  refine aw_iload4 dL_law_567 ?_
  refine aw_iconst (v := 1) dL_law_569 (by decide) ?_
  refine aw_iadd dL_law_570 ?_
  refine aw_sld (j := 6 * j + 1) dL_law_571 hS hL (nI_add (6 * j) 1) (by omega) ?_
  refine aw_aload0E dL_law_572 ?_
  refine aw_iload4 dL_law_573 ?_
  refine aw_iconst (v := 2) dL_law_575 (by decide) ?_
  refine aw_iadd dL_law_576 ?_
  refine aw_sld (j := 6 * j + 2) dL_law_577 hS hL (nI_add (6 * j) 2) (by omega) ?_
  refine aw_aload0E dL_law_578 ?_
  refine aw_iload4 dL_law_579 ?_
  refine aw_iconst (v := 3) dL_law_581 (by decide) ?_
  refine aw_iadd dL_law_582 ?_
  refine aw_sld (j := 6 * j + 3) dL_law_583 hS hL (nI_add (6 * j) 3) (by omega) ?_
  refine aw_aload0E dL_law_584 ?_
  refine aw_iload4 dL_law_585 ?_
  refine aw_iconst (v := 4) dL_law_587 (by decide) ?_
  refine aw_iadd dL_law_588 ?_
  refine aw_sld (j := 6 * j + 4) dL_law_589 hS hL (nI_add (6 * j) 4) (by omega) ?_
  refine aw_callV (As := [.int (xs (6 * j + 1)), .int (xs (6 * j + 2)), .int (xs (6 * j + 3)), .int (xs (6 * j + 4))]) hk dL_law_590 vl_L_133 rfl (by decide) (Rm0 ⟨by decide, by decide, by omega, by omega⟩) (Nat.le_of_ble_eq_true rfl) (fun σ3 r h => ?_) (fun _ _ h => h.elim)
  obtain ⟨v2, rfl, hI3, ht, hlo, hv⟩ := hP σ3 r h
  refine aw_istore6 dL_law_593 (Nat.le_of_ble_eq_true rfl) rfl ?_
  refine aw_aload2 dL_law_595 ?_
  refine aw_VI0 (k_thrown σ3) dL_law_596 vl_L_102 rfl (by decide) ⟨by decide, by decide, by omega, by omega⟩ (Nat.le_of_ble_eq_true rfl) (fun σ_596 r_596 h_596 => ?_)
  obtain ⟨rfl, rfl⟩ := h_596
  refine aw_iload5 dL_law_599 ?_
  refine aw_ic_eq (tgt := 606) dL_law_601 (by decide) (fun c_601 => ?_) (fun c_601 => absurd ht c_601)
  refine aw_iload5 dL_law_606 ?_
  refine aw_if_ne (tgt := 623) dL_law_608 (by decide) (fun c_608 => ?_) (fun c_608 => ?_)
  · refine aw_goto (tgt := 1735) dL_law_623 (by decide) ?_
    exact nxt _ _ _ hI3
  · refine aw_aload3 dL_law_611 ?_
    refine aw_iconst (v := 0) dL_law_612 (by decide) ?_
    have h0 : cd = 0 := (by first | exact c_608 | exact Classical.not_not.mp c_608)
    have hout : σ3.2.2 396 0 = val.toInt64 := by
      rw [hlo]
      rcases ha with ⟨-, τ, -, rfl⟩ | ⟨q, -⟩
      · exact sL_at
      · exact absurd h0 q
    refine aw_lald (j := 0) dL_law_613 rfl (by decide) rfl (by decide) hout ?_
    refine aw_iload6 dL_law_614 ?_
    refine aw_i2l dL_law_616 ?_
    refine aw_lcmp dL_law_617 ?_
    refine aw_if_eq (tgt := 623) dL_law_618 (by decide) (fun c_618 => ?_) (fun c_618 => absurd (show lg_cmp _ _ = 0 from (lg_cmp_eq _ _).mpr (congrArg Int32.toInt64 (hv h0))) c_618)
    refine aw_goto (tgt := 1735) dL_law_623 (by decide) ?_
    exact nxt _ _ _ hI3
set_option maxHeartbeats 4000000 in
theorem law_addGroup {K : KT} {b L : Nat} {xs : Nat → Int32} (hS : SC K b L xs) (hL : L ≤ 3072) (tb : List (Nat × Nat × Nat × Nat)) (nm : String) (Q : State → Prop) (j : Nat) (hj : 6 * j + 6 ≤ L) (σ : Sg) (hI : IV σ) (x5 x6 : Option Value) (nxt : ∀ σ2 y5 y6, IV σ2 → AW K RL cL_law (LT tb nm) 12 601024 7293034 Q NN (some 0) σ2 (397 + 8 * j + 8) (6392 + 48 * j + 48) 1735 (lls b j y5 y6) []) : AW K RL cL_law (LT tb nm) 12 601024 7293034 Q NN (some 0) σ (397 + 8 * j) (6392 + 48 * j) 626 (lls b j x5 x6) [] := by
  obtain ⟨cd, val, po, hC, hM⟩ := op_addGroup σ  hI
  refine aw_aload1 dL_law_626 ?_
  refine aw_aload3 dL_law_627 ?_
  refine aw_callSH (As := [.ref 0, .ref 396]) (kL_addGroup σ  cd val po hC) dL_law_628 sl_L_134 (Rm1 ⟨by decide, by decide, by omega, by omega⟩) (Nat.le_of_ble_eq_true rfl) (fun σ2 r h => ?_) (fun _ _ h => h.elim)
  obtain ⟨v, rfl, rfl, ha⟩ := h
  obtain ⟨P, hk, hP⟩ := hM σ2 ha
  refine aw_istore5 dL_law_631 (Nat.le_of_ble_eq_true rfl) rfl ?_
  refine aw_aload2 dL_law_633 ?_
  refine aw_callV (As := []) hk dL_law_634 vl_L_136 rfl (by decide) (Rm0 ⟨by decide, by decide, by omega, by omega⟩) (Nat.le_of_ble_eq_true rfl) (fun σ3 r h => ?_) (fun _ _ h => h.elim)
  obtain ⟨v2, rfl, hI3, ht, hlo, hv⟩ := hP σ3 r h
  refine aw_istore6 dL_law_637 (Nat.le_of_ble_eq_true rfl) rfl ?_
  refine aw_aload2 dL_law_639 ?_
  refine aw_VI0 (k_thrown σ3) dL_law_640 vl_L_102 rfl (by decide) ⟨by decide, by decide, by omega, by omega⟩ (Nat.le_of_ble_eq_true rfl) (fun σ_640 r_640 h_640 => ?_)
  obtain ⟨rfl, rfl⟩ := h_640
  refine aw_iload5 dL_law_643 ?_
  refine aw_ic_eq (tgt := 650) dL_law_645 (by decide) (fun c_645 => ?_) (fun c_645 => absurd ht c_645)
  refine aw_iload5 dL_law_650 ?_
  refine aw_if_ne (tgt := 667) dL_law_652 (by decide) (fun c_652 => ?_) (fun c_652 => ?_)
  · refine aw_goto (tgt := 1735) dL_law_667 (by decide) ?_
    exact nxt _ _ _ hI3
  · refine aw_aload3 dL_law_655 ?_
    refine aw_iconst (v := 0) dL_law_656 (by decide) ?_
    have h0 : cd = 0 := (by first | exact c_652 | exact Classical.not_not.mp c_652)
    have hout : σ3.2.2 396 0 = val.toInt64 := by
      rw [hlo]
      rcases ha with ⟨-, τ, -, rfl⟩ | ⟨q, -⟩
      · exact sL_at
      · exact absurd h0 q
    refine aw_lald (j := 0) dL_law_657 rfl (by decide) rfl (by decide) hout ?_
    refine aw_iload6 dL_law_658 ?_
    refine aw_i2l dL_law_660 ?_
    refine aw_lcmp dL_law_661 ?_
    refine aw_if_eq (tgt := 667) dL_law_662 (by decide) (fun c_662 => ?_) (fun c_662 => absurd (show lg_cmp _ _ = 0 from (lg_cmp_eq _ _).mpr (congrArg Int32.toInt64 (hv h0))) c_662)
    refine aw_goto (tgt := 1735) dL_law_667 (by decide) ?_
    exact nxt _ _ _ hI3
set_option maxHeartbeats 4000000 in
theorem law_book {K : KT} {b L : Nat} {xs : Nat → Int32} (hS : SC K b L xs) (hL : L ≤ 3072) (tb : List (Nat × Nat × Nat × Nat)) (nm : String) (Q : State → Prop) (j : Nat) (hj : 6 * j + 6 ≤ L) (σ : Sg) (hI : IV σ) (x5 x6 : Option Value) (nxt : ∀ σ2 y5 y6, IV σ2 → AW K RL cL_law (LT tb nm) 12 601024 7293034 Q NN (some 0) σ2 (397 + 8 * j + 8) (6392 + 48 * j + 48) 1735 (lls b j y5 y6) []) : AW K RL cL_law (LT tb nm) 12 601024 7293034 Q NN (some 0) σ (397 + 8 * j) (6392 + 48 * j) 670 (lls b j x5 x6) [] := by
  obtain ⟨cd, val, po, hC, hM⟩ := op_book σ (xs (6 * j + 1)) (xs (6 * j + 2)) (xs (6 * j + 3)) (xs (6 * j + 4)) (xs (6 * j + 5)) hI
  refine aw_aload1 dL_law_670 ?_
  refine aw_aload0E dL_law_671 ?_
  refine aw_iload4 dL_law_672 ?_
  refine aw_iconst (v := 1) dL_law_674 (by decide) ?_
  refine aw_iadd dL_law_675 ?_
  refine aw_sld (j := 6 * j + 1) dL_law_676 hS hL (nI_add (6 * j) 1) (by omega) ?_
  refine aw_aload0E dL_law_677 ?_
  refine aw_iload4 dL_law_678 ?_
  refine aw_iconst (v := 2) dL_law_680 (by decide) ?_
  refine aw_iadd dL_law_681 ?_
  refine aw_sld (j := 6 * j + 2) dL_law_682 hS hL (nI_add (6 * j) 2) (by omega) ?_
  refine aw_aload0E dL_law_683 ?_
  refine aw_iload4 dL_law_684 ?_
  refine aw_iconst (v := 3) dL_law_686 (by decide) ?_
  refine aw_iadd dL_law_687 ?_
  refine aw_sld (j := 6 * j + 3) dL_law_688 hS hL (nI_add (6 * j) 3) (by omega) ?_
  refine aw_aload0E dL_law_689 ?_
  refine aw_iload4 dL_law_690 ?_
  refine aw_iconst (v := 4) dL_law_692 (by decide) ?_
  refine aw_iadd dL_law_693 ?_
  refine aw_sld (j := 6 * j + 4) dL_law_694 hS hL (nI_add (6 * j) 4) (by omega) ?_
  refine aw_aload0E dL_law_695 ?_
  refine aw_iload4 dL_law_696 ?_
  refine aw_iconst (v := 5) dL_law_698 (by decide) ?_
  refine aw_iadd dL_law_699 ?_
  refine aw_sld (j := 6 * j + 5) dL_law_700 hS hL (nI_add (6 * j) 5) (by omega) ?_
  refine aw_aload3 dL_law_701 ?_
  refine aw_callSH (As := [.ref 0, .int (xs (6 * j + 1)), .int (xs (6 * j + 2)), .int (xs (6 * j + 3)), .int (xs (6 * j + 4)), .int (xs (6 * j + 5)), .ref 396]) (kL_book σ (xs (6 * j + 1)) (xs (6 * j + 2)) (xs (6 * j + 3)) (xs (6 * j + 4)) (xs (6 * j + 5)) cd val po hC) dL_law_702 sl_L_137 (Rm1 ⟨by decide, by decide, by omega, by omega⟩) (Nat.le_of_ble_eq_true rfl) (fun σ2 r h => ?_) (fun _ _ h => h.elim)
  obtain ⟨v, rfl, rfl, ha⟩ := h
  obtain ⟨P, hk, hP⟩ := hM σ2 ha
  refine aw_istore5 dL_law_705 (Nat.le_of_ble_eq_true rfl) rfl ?_
  refine aw_aload2 dL_law_707 ?_
  refine aw_aload0E dL_law_708 ?_
  refine aw_iload4 dL_law_709 ?_
  refine aw_iconst (v := 1) dL_law_711 (by decide) ?_
  refine aw_iadd dL_law_712 ?_
  refine aw_sld (j := 6 * j + 1) dL_law_713 hS hL (nI_add (6 * j) 1) (by omega) ?_
  refine aw_aload0E dL_law_714 ?_
  refine aw_iload4 dL_law_715 ?_
  refine aw_iconst (v := 2) dL_law_717 (by decide) ?_
  refine aw_iadd dL_law_718 ?_
  refine aw_sld (j := 6 * j + 2) dL_law_719 hS hL (nI_add (6 * j) 2) (by omega) ?_
  refine aw_aload0E dL_law_720 ?_
  refine aw_iload4 dL_law_721 ?_
  refine aw_iconst (v := 3) dL_law_723 (by decide) ?_
  refine aw_iadd dL_law_724 ?_
  refine aw_sld (j := 6 * j + 3) dL_law_725 hS hL (nI_add (6 * j) 3) (by omega) ?_
  refine aw_aload0E dL_law_726 ?_
  refine aw_iload4 dL_law_727 ?_
  refine aw_iconst (v := 4) dL_law_729 (by decide) ?_
  refine aw_iadd dL_law_730 ?_
  refine aw_sld (j := 6 * j + 4) dL_law_731 hS hL (nI_add (6 * j) 4) (by omega) ?_
  refine aw_aload0E dL_law_732 ?_
  refine aw_iload4 dL_law_733 ?_
  refine aw_iconst (v := 5) dL_law_735 (by decide) ?_
  refine aw_iadd dL_law_736 ?_
  refine aw_sld (j := 6 * j + 5) dL_law_737 hS hL (nI_add (6 * j) 5) (by omega) ?_
  refine aw_callV (As := [.int (xs (6 * j + 1)), .int (xs (6 * j + 2)), .int (xs (6 * j + 3)), .int (xs (6 * j + 4)), .int (xs (6 * j + 5))]) hk dL_law_738 vl_L_140 rfl (by decide) (Rm0 ⟨by decide, by decide, by omega, by omega⟩) (Nat.le_of_ble_eq_true rfl) (fun σ3 r h => ?_) (fun _ _ h => h.elim)
  obtain ⟨v2, rfl, hI3, ht, hlo, hv⟩ := hP σ3 r h
  refine aw_istore6 dL_law_741 (Nat.le_of_ble_eq_true rfl) rfl ?_
  refine aw_aload2 dL_law_743 ?_
  refine aw_VI0 (k_thrown σ3) dL_law_744 vl_L_102 rfl (by decide) ⟨by decide, by decide, by omega, by omega⟩ (Nat.le_of_ble_eq_true rfl) (fun σ_744 r_744 h_744 => ?_)
  obtain ⟨rfl, rfl⟩ := h_744
  refine aw_iload5 dL_law_747 ?_
  refine aw_ic_eq (tgt := 754) dL_law_749 (by decide) (fun c_749 => ?_) (fun c_749 => absurd ht c_749)
  refine aw_iload5 dL_law_754 ?_
  refine aw_if_ne (tgt := 771) dL_law_756 (by decide) (fun c_756 => ?_) (fun c_756 => ?_)
  · refine aw_goto (tgt := 1735) dL_law_771 (by decide) ?_
    exact nxt _ _ _ hI3
  · refine aw_aload3 dL_law_759 ?_
    refine aw_iconst (v := 0) dL_law_760 (by decide) ?_
    have h0 : cd = 0 := (by first | exact c_756 | exact Classical.not_not.mp c_756)
    have hout : σ3.2.2 396 0 = val.toInt64 := by
      rw [hlo]
      rcases ha with ⟨-, τ, -, rfl⟩ | ⟨q, -⟩
      · exact sL_at
      · exact absurd h0 q
    refine aw_lald (j := 0) dL_law_761 rfl (by decide) rfl (by decide) hout ?_
    refine aw_iload6 dL_law_762 ?_
    refine aw_i2l dL_law_764 ?_
    refine aw_lcmp dL_law_765 ?_
    refine aw_if_eq (tgt := 771) dL_law_766 (by decide) (fun c_766 => ?_) (fun c_766 => absurd (show lg_cmp _ _ = 0 from (lg_cmp_eq _ _).mpr (congrArg Int32.toInt64 (hv h0))) c_766)
    refine aw_goto (tgt := 1735) dL_law_771 (by decide) ?_
    exact nxt _ _ _ hI3
set_option maxHeartbeats 4000000 in
theorem law_cancel {K : KT} {b L : Nat} {xs : Nat → Int32} (hS : SC K b L xs) (hL : L ≤ 3072) (tb : List (Nat × Nat × Nat × Nat)) (nm : String) (Q : State → Prop) (j : Nat) (hj : 6 * j + 6 ≤ L) (σ : Sg) (hI : IV σ) (x5 x6 : Option Value) (nxt : ∀ σ2 y5 y6, IV σ2 → AW K RL cL_law (LT tb nm) 12 601024 7293034 Q NN (some 0) σ2 (397 + 8 * j + 8) (6392 + 48 * j + 48) 1735 (lls b j y5 y6) []) : AW K RL cL_law (LT tb nm) 12 601024 7293034 Q NN (some 0) σ (397 + 8 * j) (6392 + 48 * j) 774 (lls b j x5 x6) [] := by
  obtain ⟨cd, val, po, hC, hM⟩ := op_cancel σ (xs (6 * j + 1)) hI
  refine aw_aload1 dL_law_774 ?_
  refine aw_aload0E dL_law_775 ?_
  refine aw_iload4 dL_law_776 ?_
  refine aw_iconst (v := 1) dL_law_778 (by decide) ?_
  refine aw_iadd dL_law_779 ?_
  refine aw_sld (j := 6 * j + 1) dL_law_780 hS hL (nI_add (6 * j) 1) (by omega) ?_
  refine aw_aload3 dL_law_781 ?_
  refine aw_callSH (As := [.ref 0, .int (xs (6 * j + 1)), .ref 396]) (kL_cancel σ (xs (6 * j + 1)) cd val po hC) dL_law_782 sl_L_141 (Rm1 ⟨by decide, by decide, by omega, by omega⟩) (Nat.le_of_ble_eq_true rfl) (fun σ2 r h => ?_) (fun _ _ h => h.elim)
  obtain ⟨v, rfl, rfl, ha⟩ := h
  obtain ⟨P, hk, hP⟩ := hM σ2 ha
  refine aw_istore5 dL_law_785 (Nat.le_of_ble_eq_true rfl) rfl ?_
  refine aw_aload2 dL_law_787 ?_
  refine aw_aload0E dL_law_788 ?_
  refine aw_iload4 dL_law_789 ?_
  refine aw_iconst (v := 1) dL_law_791 (by decide) ?_
  refine aw_iadd dL_law_792 ?_
  refine aw_sld (j := 6 * j + 1) dL_law_793 hS hL (nI_add (6 * j) 1) (by omega) ?_
  refine aw_callV (As := [.int (xs (6 * j + 1))]) hk dL_law_794 vl_L_143 rfl (by decide) (Rm0 ⟨by decide, by decide, by omega, by omega⟩) (Nat.le_of_ble_eq_true rfl) (fun σ3 r h => ?_) (fun _ _ h => h.elim)
  obtain ⟨v2, rfl, hI3, ht, hlo, hv⟩ := hP σ3 r h
  refine aw_istore6 dL_law_797 (Nat.le_of_ble_eq_true rfl) rfl ?_
  refine aw_aload2 dL_law_799 ?_
  refine aw_VI0 (k_thrown σ3) dL_law_800 vl_L_102 rfl (by decide) ⟨by decide, by decide, by omega, by omega⟩ (Nat.le_of_ble_eq_true rfl) (fun σ_800 r_800 h_800 => ?_)
  obtain ⟨rfl, rfl⟩ := h_800
  refine aw_iload5 dL_law_803 ?_
  refine aw_ic_eq (tgt := 810) dL_law_805 (by decide) (fun c_805 => ?_) (fun c_805 => absurd ht c_805)
  refine aw_iload5 dL_law_810 ?_
  refine aw_if_ne (tgt := 827) dL_law_812 (by decide) (fun c_812 => ?_) (fun c_812 => ?_)
  · refine aw_goto (tgt := 1735) dL_law_827 (by decide) ?_
    exact nxt _ _ _ hI3
  · refine aw_aload3 dL_law_815 ?_
    refine aw_iconst (v := 0) dL_law_816 (by decide) ?_
    have h0 : cd = 0 := (by first | exact c_812 | exact Classical.not_not.mp c_812)
    have hout : σ3.2.2 396 0 = val.toInt64 := by
      rw [hlo]
      rcases ha with ⟨-, τ, -, rfl⟩ | ⟨q, -⟩
      · exact sL_at
      · exact absurd h0 q
    refine aw_lald (j := 0) dL_law_817 rfl (by decide) rfl (by decide) hout ?_
    refine aw_iload6 dL_law_818 ?_
    refine aw_i2l dL_law_820 ?_
    refine aw_lcmp dL_law_821 ?_
    refine aw_if_eq (tgt := 827) dL_law_822 (by decide) (fun c_822 => ?_) (fun c_822 => absurd (show lg_cmp _ _ = 0 from (lg_cmp_eq _ _).mpr (congrArg Int32.toInt64 (hv h0))) c_822)
    refine aw_goto (tgt := 1735) dL_law_827 (by decide) ?_
    exact nxt _ _ _ hI3
set_option maxHeartbeats 4000000 in
theorem law_prove {K : KT} {b L : Nat} {xs : Nat → Int32} (hS : SC K b L xs) (hL : L ≤ 3072) (tb : List (Nat × Nat × Nat × Nat)) (nm : String) (Q : State → Prop) (j : Nat) (hj : 6 * j + 6 ≤ L) (σ : Sg) (hI : IV σ) (x5 x6 : Option Value) (nxt : ∀ σ2 y5 y6, IV σ2 → AW K RL cL_law (LT tb nm) 12 601024 7293034 Q NN (some 0) σ2 (397 + 8 * j + 8) (6392 + 48 * j + 48) 1735 (lls b j y5 y6) []) : AW K RL cL_law (LT tb nm) 12 601024 7293034 Q NN (some 0) σ (397 + 8 * j) (6392 + 48 * j) 830 (lls b j x5 x6) [] := by
  obtain ⟨cd, val, po, hC, hM⟩ := op_prove σ (xs (6 * j + 1)) (bI (xs (6 * j + 2))) bI_01 hI
  refine aw_aload1 dL_law_830 ?_
  refine aw_aload0E dL_law_831 ?_
  refine aw_iload4 dL_law_832 ?_
  refine aw_iconst (v := 1) dL_law_834 (by decide) ?_
  refine aw_iadd dL_law_835 ?_
  refine aw_sld (j := 6 * j + 1) dL_law_836 hS hL (nI_add (6 * j) 1) (by omega) ?_
  refine AW.tern0 (E := (bI (xs (6 * j + 2)))) (pc2 := 851) (fun x_851 hx_851 => ?_) (fun J_851 => ?_)
  · subst hx_851
    refine aw_aload3 dL_law_851 ?_
    refine aw_callSH (As := [.ref 0, .int (xs (6 * j + 1)), .int (bI (xs (6 * j + 2))), .ref 396]) (kL_prove σ (xs (6 * j + 1)) (bI (xs (6 * j + 2))) cd val po hC) dL_law_852 sl_L_144 (Rm1 ⟨by decide, by decide, by omega, by omega⟩) (Nat.le_of_ble_eq_true rfl) (fun σ2 r h => ?_) (fun _ _ h => h.elim)
    obtain ⟨v, rfl, rfl, ha⟩ := h
    obtain ⟨P, hk, hP⟩ := hM σ2 ha
    refine aw_istore5 dL_law_855 (Nat.le_of_ble_eq_true rfl) rfl ?_
    refine aw_aload2 dL_law_857 ?_
    refine aw_aload0E dL_law_858 ?_
    refine aw_iload4 dL_law_859 ?_
    refine aw_iconst (v := 1) dL_law_861 (by decide) ?_
    refine aw_iadd dL_law_862 ?_
    refine aw_sld (j := 6 * j + 1) dL_law_863 hS hL (nI_add (6 * j) 1) (by omega) ?_
    refine AW.tern0 (E := (bI (xs (6 * j + 2)))) (pc2 := 878) (fun x_878 hx_878 => ?_) (fun J_878 => ?_)
    · subst hx_878
      refine aw_callV (As := [.int (xs (6 * j + 1)), .int (bI (xs (6 * j + 2)))]) hk dL_law_878 vl_L_147 rfl (by decide) (Rm0 ⟨by decide, by decide, by omega, by omega⟩) (Nat.le_of_ble_eq_true rfl) (fun σ3 r h => ?_) (fun _ _ h => h.elim)
      obtain ⟨v2, rfl, hI3, ht, hlo, hv⟩ := hP σ3 r h
      refine aw_istore6 dL_law_881 (Nat.le_of_ble_eq_true rfl) rfl ?_
      refine aw_aload2 dL_law_883 ?_
      refine aw_VI0 (k_thrown σ3) dL_law_884 vl_L_102 rfl (by decide) ⟨by decide, by decide, by omega, by omega⟩ (Nat.le_of_ble_eq_true rfl) (fun σ_884 r_884 h_884 => ?_)
      obtain ⟨rfl, rfl⟩ := h_884
      refine aw_iload5 dL_law_887 ?_
      refine aw_ic_eq (tgt := 894) dL_law_889 (by decide) (fun c_889 => ?_) (fun c_889 => absurd ht c_889)
      refine aw_iload5 dL_law_894 ?_
      refine aw_if_ne (tgt := 911) dL_law_896 (by decide) (fun c_896 => ?_) (fun c_896 => ?_)
      · refine aw_goto (tgt := 1735) dL_law_911 (by decide) ?_
        exact nxt _ _ _ hI3
      · refine aw_aload3 dL_law_899 ?_
        refine aw_iconst (v := 0) dL_law_900 (by decide) ?_
        have h0 : cd = 0 := (by first | exact c_896 | exact Classical.not_not.mp c_896)
        have hout : σ3.2.2 396 0 = val.toInt64 := by
          rw [hlo]
          rcases ha with ⟨-, τ, -, rfl⟩ | ⟨q, -⟩
          · exact sL_at
          · exact absurd h0 q
        refine aw_lald (j := 0) dL_law_901 rfl (by decide) rfl (by decide) hout ?_
        refine aw_iload6 dL_law_902 ?_
        refine aw_i2l dL_law_904 ?_
        refine aw_lcmp dL_law_905 ?_
        refine aw_if_eq (tgt := 911) dL_law_906 (by decide) (fun c_906 => ?_) (fun c_906 => absurd (show lg_cmp _ _ = 0 from (lg_cmp_eq _ _).mpr (congrArg Int32.toInt64 (hv h0))) c_906)
        refine aw_goto (tgt := 1735) dL_law_911 (by decide) ?_
        exact nxt _ _ _ hI3
    · refine aw_aload0E dL_law_864 ?_
      refine aw_iload4 dL_law_865 ?_
      refine aw_iconst (v := 2) dL_law_867 (by decide) ?_
      refine aw_iadd dL_law_868 ?_
      refine aw_sld (j := 6 * j + 2) dL_law_869 hS hL (nI_add (6 * j) 2) (by omega) ?_
      refine aw_if_eq (tgt := 877) dL_law_870 (by decide) (fun c_870 => ?_) (fun c_870 => ?_)
      · refine aw_iconst (v := 0) dL_law_877 (by decide) ?_
        exact J_878 _ (by first | exact (if_pos c_870).symm | exact (if_neg c_870).symm)
      · refine aw_iconst (v := 1) dL_law_873 (by decide) ?_
        refine aw_goto (tgt := 878) dL_law_874 (by decide) ?_
        exact J_878 _ (by first | exact (if_pos c_870).symm | exact (if_neg c_870).symm)
  · refine aw_aload0E dL_law_837 ?_
    refine aw_iload4 dL_law_838 ?_
    refine aw_iconst (v := 2) dL_law_840 (by decide) ?_
    refine aw_iadd dL_law_841 ?_
    refine aw_sld (j := 6 * j + 2) dL_law_842 hS hL (nI_add (6 * j) 2) (by omega) ?_
    refine aw_if_eq (tgt := 850) dL_law_843 (by decide) (fun c_843 => ?_) (fun c_843 => ?_)
    · refine aw_iconst (v := 0) dL_law_850 (by decide) ?_
      exact J_851 _ (by first | exact (if_pos c_843).symm | exact (if_neg c_843).symm)
    · refine aw_iconst (v := 1) dL_law_846 (by decide) ?_
      refine aw_goto (tgt := 851) dL_law_847 (by decide) ?_
      exact J_851 _ (by first | exact (if_pos c_843).symm | exact (if_neg c_843).symm)
set_option maxHeartbeats 4000000 in
theorem law_outside {K : KT} {b L : Nat} {xs : Nat → Int32} (hS : SC K b L xs) (hL : L ≤ 3072) (tb : List (Nat × Nat × Nat × Nat)) (nm : String) (Q : State → Prop) (j : Nat) (hj : 6 * j + 6 ≤ L) (σ : Sg) (hI : IV σ) (x5 x6 : Option Value) (nxt : ∀ σ2 y5 y6, IV σ2 → AW K RL cL_law (LT tb nm) 12 601024 7293034 Q NN (some 0) σ2 (397 + 8 * j + 8) (6392 + 48 * j + 48) 1735 (lls b j y5 y6) []) : AW K RL cL_law (LT tb nm) 12 601024 7293034 Q NN (some 0) σ (397 + 8 * j) (6392 + 48 * j) 914 (lls b j x5 x6) [] := by
  obtain ⟨cd, val, po, hC, hM⟩ := op_outside σ (xs (6 * j + 1)) hI
  refine aw_aload1 dL_law_914 ?_
  refine aw_aload0E dL_law_915 ?_
  refine aw_iload4 dL_law_916 ?_
  refine aw_iconst (v := 1) dL_law_918 (by decide) ?_
  refine aw_iadd dL_law_919 ?_
  refine aw_sld (j := 6 * j + 1) dL_law_920 hS hL (nI_add (6 * j) 1) (by omega) ?_
  refine aw_aload3 dL_law_921 ?_
  refine aw_callSH (As := [.ref 0, .int (xs (6 * j + 1)), .ref 396]) (kL_outside σ (xs (6 * j + 1)) cd val po hC) dL_law_922 sl_L_148 (Rm1 ⟨by decide, by decide, by omega, by omega⟩) (Nat.le_of_ble_eq_true rfl) (fun σ2 r h => ?_) (fun _ _ h => h.elim)
  obtain ⟨v, rfl, rfl, ha⟩ := h
  obtain ⟨P, hk, hP⟩ := hM σ2 ha
  refine aw_istore5 dL_law_925 (Nat.le_of_ble_eq_true rfl) rfl ?_
  refine aw_aload2 dL_law_927 ?_
  refine aw_aload0E dL_law_928 ?_
  refine aw_iload4 dL_law_929 ?_
  refine aw_iconst (v := 1) dL_law_931 (by decide) ?_
  refine aw_iadd dL_law_932 ?_
  refine aw_sld (j := 6 * j + 1) dL_law_933 hS hL (nI_add (6 * j) 1) (by omega) ?_
  refine aw_callV (As := [.int (xs (6 * j + 1))]) hk dL_law_934 vl_L_150 rfl (by decide) (Rm0 ⟨by decide, by decide, by omega, by omega⟩) (Nat.le_of_ble_eq_true rfl) (fun σ3 r h => ?_) (fun _ _ h => h.elim)
  obtain ⟨v2, rfl, hI3, ht, hlo, hv⟩ := hP σ3 r h
  refine aw_istore6 dL_law_937 (Nat.le_of_ble_eq_true rfl) rfl ?_
  refine aw_aload2 dL_law_939 ?_
  refine aw_VI0 (k_thrown σ3) dL_law_940 vl_L_102 rfl (by decide) ⟨by decide, by decide, by omega, by omega⟩ (Nat.le_of_ble_eq_true rfl) (fun σ_940 r_940 h_940 => ?_)
  obtain ⟨rfl, rfl⟩ := h_940
  refine aw_iload5 dL_law_943 ?_
  refine aw_ic_eq (tgt := 950) dL_law_945 (by decide) (fun c_945 => ?_) (fun c_945 => absurd ht c_945)
  refine aw_iload5 dL_law_950 ?_
  refine aw_if_ne (tgt := 967) dL_law_952 (by decide) (fun c_952 => ?_) (fun c_952 => ?_)
  · refine aw_goto (tgt := 1735) dL_law_967 (by decide) ?_
    exact nxt _ _ _ hI3
  · refine aw_aload3 dL_law_955 ?_
    refine aw_iconst (v := 0) dL_law_956 (by decide) ?_
    have h0 : cd = 0 := (by first | exact c_952 | exact Classical.not_not.mp c_952)
    have hout : σ3.2.2 396 0 = val.toInt64 := by
      rw [hlo]
      rcases ha with ⟨-, τ, -, rfl⟩ | ⟨q, -⟩
      · exact sL_at
      · exact absurd h0 q
    refine aw_lald (j := 0) dL_law_957 rfl (by decide) rfl (by decide) hout ?_
    refine aw_iload6 dL_law_958 ?_
    refine aw_i2l dL_law_960 ?_
    refine aw_lcmp dL_law_961 ?_
    refine aw_if_eq (tgt := 967) dL_law_962 (by decide) (fun c_962 => ?_) (fun c_962 => absurd (show lg_cmp _ _ = 0 from (lg_cmp_eq _ _).mpr (congrArg Int32.toInt64 (hv h0))) c_962)
    refine aw_goto (tgt := 1735) dL_law_967 (by decide) ?_
    exact nxt _ _ _ hI3
set_option maxHeartbeats 4000000 in
theorem law_pay {K : KT} {b L : Nat} {xs : Nat → Int32} (hS : SC K b L xs) (hL : L ≤ 3072) (tb : List (Nat × Nat × Nat × Nat)) (nm : String) (Q : State → Prop) (j : Nat) (hj : 6 * j + 6 ≤ L) (σ : Sg) (hI : IV σ) (x5 x6 : Option Value) (nxt : ∀ σ2 y5 y6, IV σ2 → AW K RL cL_law (LT tb nm) 12 601024 7293034 Q NN (some 0) σ2 (397 + 8 * j + 8) (6392 + 48 * j + 48) 1735 (lls b j y5 y6) []) : AW K RL cL_law (LT tb nm) 12 601024 7293034 Q NN (some 0) σ (397 + 8 * j) (6392 + 48 * j) 970 (lls b j x5 x6) [] := by
  obtain ⟨cd, val, po, hC, hM⟩ := op_pay σ (xs (6 * j + 1)) hI
  refine aw_aload1 dL_law_970 ?_
  refine aw_aload0E dL_law_971 ?_
  refine aw_iload4 dL_law_972 ?_
  refine aw_iconst (v := 1) dL_law_974 (by decide) ?_
  refine aw_iadd dL_law_975 ?_
  refine aw_sld (j := 6 * j + 1) dL_law_976 hS hL (nI_add (6 * j) 1) (by omega) ?_
  refine aw_aload3 dL_law_977 ?_
  refine aw_callSH (As := [.ref 0, .int (xs (6 * j + 1)), .ref 396]) (kL_pay σ (xs (6 * j + 1)) cd val po hC) dL_law_978 sl_L_151 (Rm1 ⟨by decide, by decide, by omega, by omega⟩) (Nat.le_of_ble_eq_true rfl) (fun σ2 r h => ?_) (fun _ _ h => h.elim)
  obtain ⟨v, rfl, rfl, ha⟩ := h
  obtain ⟨P, hk, hP⟩ := hM σ2 ha
  refine aw_istore5 dL_law_981 (Nat.le_of_ble_eq_true rfl) rfl ?_
  refine aw_aload2 dL_law_983 ?_
  refine aw_aload0E dL_law_984 ?_
  refine aw_iload4 dL_law_985 ?_
  refine aw_iconst (v := 1) dL_law_987 (by decide) ?_
  refine aw_iadd dL_law_988 ?_
  refine aw_sld (j := 6 * j + 1) dL_law_989 hS hL (nI_add (6 * j) 1) (by omega) ?_
  refine aw_callV (As := [.int (xs (6 * j + 1))]) hk dL_law_990 vl_L_153 rfl (by decide) (Rm0 ⟨by decide, by decide, by omega, by omega⟩) (Nat.le_of_ble_eq_true rfl) (fun σ3 r h => ?_) (fun _ _ h => h.elim)
  obtain ⟨v2, rfl, hI3, ht, hlo, hv⟩ := hP σ3 r h
  refine aw_istore6 dL_law_993 (Nat.le_of_ble_eq_true rfl) rfl ?_
  refine aw_aload2 dL_law_995 ?_
  refine aw_VI0 (k_thrown σ3) dL_law_996 vl_L_102 rfl (by decide) ⟨by decide, by decide, by omega, by omega⟩ (Nat.le_of_ble_eq_true rfl) (fun σ_996 r_996 h_996 => ?_)
  obtain ⟨rfl, rfl⟩ := h_996
  refine aw_iload5 dL_law_999 ?_
  refine aw_ic_eq (tgt := 1006) dL_law_1001 (by decide) (fun c_1001 => ?_) (fun c_1001 => absurd ht c_1001)
  refine aw_iload5 dL_law_1006 ?_
  refine aw_if_ne (tgt := 1023) dL_law_1008 (by decide) (fun c_1008 => ?_) (fun c_1008 => ?_)
  · refine aw_goto (tgt := 1735) dL_law_1023 (by decide) ?_
    exact nxt _ _ _ hI3
  · refine aw_aload3 dL_law_1011 ?_
    refine aw_iconst (v := 0) dL_law_1012 (by decide) ?_
    have h0 : cd = 0 := (by first | exact c_1008 | exact Classical.not_not.mp c_1008)
    have hout : σ3.2.2 396 0 = val.toInt64 := by
      rw [hlo]
      rcases ha with ⟨-, τ, -, rfl⟩ | ⟨q, -⟩
      · exact sL_at
      · exact absurd h0 q
    refine aw_lald (j := 0) dL_law_1013 rfl (by decide) rfl (by decide) hout ?_
    refine aw_iload6 dL_law_1014 ?_
    refine aw_i2l dL_law_1016 ?_
    refine aw_lcmp dL_law_1017 ?_
    refine aw_if_eq (tgt := 1023) dL_law_1018 (by decide) (fun c_1018 => ?_) (fun c_1018 => absurd (show lg_cmp _ _ = 0 from (lg_cmp_eq _ _).mpr (congrArg Int32.toInt64 (hv h0))) c_1018)
    refine aw_goto (tgt := 1735) dL_law_1023 (by decide) ?_
    exact nxt _ _ _ hI3
set_option maxHeartbeats 4000000 in
theorem law_pass {K : KT} {b L : Nat} {xs : Nat → Int32} (hS : SC K b L xs) (hL : L ≤ 3072) (tb : List (Nat × Nat × Nat × Nat)) (nm : String) (Q : State → Prop) (j : Nat) (hj : 6 * j + 6 ≤ L) (σ : Sg) (hI : IV σ) (x5 x6 : Option Value) (nxt : ∀ σ2 y5 y6, IV σ2 → AW K RL cL_law (LT tb nm) 12 601024 7293034 Q NN (some 0) σ2 (397 + 8 * j + 8) (6392 + 48 * j + 48) 1735 (lls b j y5 y6) []) : AW K RL cL_law (LT tb nm) 12 601024 7293034 Q NN (some 0) σ (397 + 8 * j) (6392 + 48 * j) 1026 (lls b j x5 x6) [] := by
  obtain ⟨cd, val, po, hC, hM⟩ := op_pass σ (xs (6 * j + 1)) hI
  refine aw_aload1 dL_law_1026 ?_
  refine aw_aload0E dL_law_1027 ?_
  refine aw_iload4 dL_law_1028 ?_
  refine aw_iconst (v := 1) dL_law_1030 (by decide) ?_
  refine aw_iadd dL_law_1031 ?_
  refine aw_sld (j := 6 * j + 1) dL_law_1032 hS hL (nI_add (6 * j) 1) (by omega) ?_
  refine aw_aload3 dL_law_1033 ?_
  refine aw_callSH (As := [.ref 0, .int (xs (6 * j + 1)), .ref 396]) (kL_pass σ (xs (6 * j + 1)) cd val po hC) dL_law_1034 sl_L_154 (Rm1 ⟨by decide, by decide, by omega, by omega⟩) (Nat.le_of_ble_eq_true rfl) (fun σ2 r h => ?_) (fun _ _ h => h.elim)
  obtain ⟨v, rfl, rfl, ha⟩ := h
  obtain ⟨P, hk, hP⟩ := hM σ2 ha
  refine aw_istore5 dL_law_1037 (Nat.le_of_ble_eq_true rfl) rfl ?_
  refine aw_aload2 dL_law_1039 ?_
  refine aw_aload0E dL_law_1040 ?_
  refine aw_iload4 dL_law_1041 ?_
  refine aw_iconst (v := 1) dL_law_1043 (by decide) ?_
  refine aw_iadd dL_law_1044 ?_
  refine aw_sld (j := 6 * j + 1) dL_law_1045 hS hL (nI_add (6 * j) 1) (by omega) ?_
  refine aw_callV (As := [.int (xs (6 * j + 1))]) hk dL_law_1046 vl_L_156 rfl (by decide) (Rm0 ⟨by decide, by decide, by omega, by omega⟩) (Nat.le_of_ble_eq_true rfl) (fun σ3 r h => ?_) (fun _ _ h => h.elim)
  obtain ⟨v2, rfl, hI3, ht, hlo, hv⟩ := hP σ3 r h
  refine aw_istore6 dL_law_1049 (Nat.le_of_ble_eq_true rfl) rfl ?_
  refine aw_aload2 dL_law_1051 ?_
  refine aw_VI0 (k_thrown σ3) dL_law_1052 vl_L_102 rfl (by decide) ⟨by decide, by decide, by omega, by omega⟩ (Nat.le_of_ble_eq_true rfl) (fun σ_1052 r_1052 h_1052 => ?_)
  obtain ⟨rfl, rfl⟩ := h_1052
  refine aw_iload5 dL_law_1055 ?_
  refine aw_ic_eq (tgt := 1062) dL_law_1057 (by decide) (fun c_1057 => ?_) (fun c_1057 => absurd ht c_1057)
  refine aw_iload5 dL_law_1062 ?_
  refine aw_if_ne (tgt := 1079) dL_law_1064 (by decide) (fun c_1064 => ?_) (fun c_1064 => ?_)
  · refine aw_goto (tgt := 1735) dL_law_1079 (by decide) ?_
    exact nxt _ _ _ hI3
  · refine aw_aload3 dL_law_1067 ?_
    refine aw_iconst (v := 0) dL_law_1068 (by decide) ?_
    have h0 : cd = 0 := (by first | exact c_1064 | exact Classical.not_not.mp c_1064)
    have hout : σ3.2.2 396 0 = val.toInt64 := by
      rw [hlo]
      rcases ha with ⟨-, τ, -, rfl⟩ | ⟨q, -⟩
      · exact sL_at
      · exact absurd h0 q
    refine aw_lald (j := 0) dL_law_1069 rfl (by decide) rfl (by decide) hout ?_
    refine aw_iload6 dL_law_1070 ?_
    refine aw_i2l dL_law_1072 ?_
    refine aw_lcmp dL_law_1073 ?_
    refine aw_if_eq (tgt := 1079) dL_law_1074 (by decide) (fun c_1074 => ?_) (fun c_1074 => absurd (show lg_cmp _ _ = 0 from (lg_cmp_eq _ _).mpr (congrArg Int32.toInt64 (hv h0))) c_1074)
    refine aw_goto (tgt := 1735) dL_law_1079 (by decide) ?_
    exact nxt _ _ _ hI3
set_option maxHeartbeats 4000000 in
theorem law_undo {K : KT} {b L : Nat} {xs : Nat → Int32} (hS : SC K b L xs) (hL : L ≤ 3072) (tb : List (Nat × Nat × Nat × Nat)) (nm : String) (Q : State → Prop) (j : Nat) (hj : 6 * j + 6 ≤ L) (σ : Sg) (hI : IV σ) (x5 x6 : Option Value) (nxt : ∀ σ2 y5 y6, IV σ2 → AW K RL cL_law (LT tb nm) 12 601024 7293034 Q NN (some 0) σ2 (397 + 8 * j + 8) (6392 + 48 * j + 48) 1735 (lls b j y5 y6) []) : AW K RL cL_law (LT tb nm) 12 601024 7293034 Q NN (some 0) σ (397 + 8 * j) (6392 + 48 * j) 1082 (lls b j x5 x6) [] := by
  obtain ⟨cd, val, po, hC, hM⟩ := op_undo σ  hI
  refine aw_aload1 dL_law_1082 ?_
  refine aw_aload3 dL_law_1083 ?_
  refine aw_callSH (As := [.ref 0, .ref 396]) (kL_undo σ  cd val po hC) dL_law_1084 sl_L_157 (Rm1 ⟨by decide, by decide, by omega, by omega⟩) (Nat.le_of_ble_eq_true rfl) (fun σ2 r h => ?_) (fun _ _ h => h.elim)
  obtain ⟨v, rfl, rfl, ha⟩ := h
  obtain ⟨P, hk, hP⟩ := hM σ2 ha
  refine aw_istore5 dL_law_1087 (Nat.le_of_ble_eq_true rfl) rfl ?_
  refine aw_aload2 dL_law_1089 ?_
  refine aw_callV (As := []) hk dL_law_1090 vl_L_159 rfl (by decide) (Rm0 ⟨by decide, by decide, by omega, by omega⟩) (Nat.le_of_ble_eq_true rfl) (fun σ3 r h => ?_) (fun _ _ h => h.elim)
  obtain ⟨v2, rfl, hI3, ht, hlo, hv⟩ := hP σ3 r h
  refine aw_istore6 dL_law_1093 (Nat.le_of_ble_eq_true rfl) rfl ?_
  refine aw_aload2 dL_law_1095 ?_
  refine aw_VI0 (k_thrown σ3) dL_law_1096 vl_L_102 rfl (by decide) ⟨by decide, by decide, by omega, by omega⟩ (Nat.le_of_ble_eq_true rfl) (fun σ_1096 r_1096 h_1096 => ?_)
  obtain ⟨rfl, rfl⟩ := h_1096
  refine aw_iload5 dL_law_1099 ?_
  refine aw_ic_eq (tgt := 1106) dL_law_1101 (by decide) (fun c_1101 => ?_) (fun c_1101 => absurd ht c_1101)
  refine aw_iload5 dL_law_1106 ?_
  refine aw_if_ne (tgt := 1123) dL_law_1108 (by decide) (fun c_1108 => ?_) (fun c_1108 => ?_)
  · refine aw_goto (tgt := 1735) dL_law_1123 (by decide) ?_
    exact nxt _ _ _ hI3
  · refine aw_aload3 dL_law_1111 ?_
    refine aw_iconst (v := 0) dL_law_1112 (by decide) ?_
    have h0 : cd = 0 := (by first | exact c_1108 | exact Classical.not_not.mp c_1108)
    have hout : σ3.2.2 396 0 = val.toInt64 := by
      rw [hlo]
      rcases ha with ⟨-, τ, -, rfl⟩ | ⟨q, -⟩
      · exact sL_at
      · exact absurd h0 q
    refine aw_lald (j := 0) dL_law_1113 rfl (by decide) rfl (by decide) hout ?_
    refine aw_iload6 dL_law_1114 ?_
    refine aw_i2l dL_law_1116 ?_
    refine aw_lcmp dL_law_1117 ?_
    refine aw_if_eq (tgt := 1123) dL_law_1118 (by decide) (fun c_1118 => ?_) (fun c_1118 => absurd (show lg_cmp _ _ = 0 from (lg_cmp_eq _ _).mpr (congrArg Int32.toInt64 (hv h0))) c_1118)
    refine aw_goto (tgt := 1735) dL_law_1123 (by decide) ?_
    exact nxt _ _ _ hI3
set_option maxHeartbeats 4000000 in
theorem law_later {K : KT} {b L : Nat} {xs : Nat → Int32} (hS : SC K b L xs) (hL : L ≤ 3072) (tb : List (Nat × Nat × Nat × Nat)) (nm : String) (Q : State → Prop) (j : Nat) (hj : 6 * j + 6 ≤ L) (σ : Sg) (hI : IV σ) (x5 x6 : Option Value) (nxt : ∀ σ2 y5 y6, IV σ2 → AW K RL cL_law (LT tb nm) 12 601024 7293034 Q NN (some 0) σ2 (397 + 8 * j + 8) (6392 + 48 * j + 48) 1735 (lls b j y5 y6) []) : AW K RL cL_law (LT tb nm) 12 601024 7293034 Q NN (some 0) σ (397 + 8 * j) (6392 + 48 * j) 1126 (lls b j x5 x6) [] := by
  obtain ⟨cd, val, po, hC, hM⟩ := op_later σ (xs (6 * j + 1)) (xs (6 * j + 2)) hI
  refine aw_aload1 dL_law_1126 ?_
  refine aw_aload0E dL_law_1127 ?_
  refine aw_iload4 dL_law_1128 ?_
  refine aw_iconst (v := 1) dL_law_1130 (by decide) ?_
  refine aw_iadd dL_law_1131 ?_
  refine aw_sld (j := 6 * j + 1) dL_law_1132 hS hL (nI_add (6 * j) 1) (by omega) ?_
  refine aw_aload0E dL_law_1133 ?_
  refine aw_iload4 dL_law_1134 ?_
  refine aw_iconst (v := 2) dL_law_1136 (by decide) ?_
  refine aw_iadd dL_law_1137 ?_
  refine aw_sld (j := 6 * j + 2) dL_law_1138 hS hL (nI_add (6 * j) 2) (by omega) ?_
  refine aw_aload3 dL_law_1139 ?_
  refine aw_callSH (As := [.ref 0, .int (xs (6 * j + 1)), .int (xs (6 * j + 2)), .ref 396]) (kL_later σ (xs (6 * j + 1)) (xs (6 * j + 2)) cd val po hC) dL_law_1140 sl_L_160 (Rm1 ⟨by decide, by decide, by omega, by omega⟩) (Nat.le_of_ble_eq_true rfl) (fun σ2 r h => ?_) (fun _ _ h => h.elim)
  obtain ⟨v, rfl, rfl, ha⟩ := h
  obtain ⟨P, hk, hP⟩ := hM σ2 ha
  refine aw_istore5 dL_law_1143 (Nat.le_of_ble_eq_true rfl) rfl ?_
  refine aw_aload2 dL_law_1145 ?_
  refine aw_aload0E dL_law_1146 ?_
  refine aw_iload4 dL_law_1147 ?_
  refine aw_iconst (v := 1) dL_law_1149 (by decide) ?_
  refine aw_iadd dL_law_1150 ?_
  refine aw_sld (j := 6 * j + 1) dL_law_1151 hS hL (nI_add (6 * j) 1) (by omega) ?_
  refine aw_aload0E dL_law_1152 ?_
  refine aw_iload4 dL_law_1153 ?_
  refine aw_iconst (v := 2) dL_law_1155 (by decide) ?_
  refine aw_iadd dL_law_1156 ?_
  refine aw_sld (j := 6 * j + 2) dL_law_1157 hS hL (nI_add (6 * j) 2) (by omega) ?_
  refine aw_callV (As := [.int (xs (6 * j + 1)), .int (xs (6 * j + 2))]) hk dL_law_1158 vl_L_162 rfl (by decide) (Rm0 ⟨by decide, by decide, by omega, by omega⟩) (Nat.le_of_ble_eq_true rfl) (fun σ3 r h => ?_) (fun _ _ h => h.elim)
  obtain ⟨v2, rfl, hI3, ht, hlo, hv⟩ := hP σ3 r h
  refine aw_istore6 dL_law_1161 (Nat.le_of_ble_eq_true rfl) rfl ?_
  refine aw_aload2 dL_law_1163 ?_
  refine aw_VI0 (k_thrown σ3) dL_law_1164 vl_L_102 rfl (by decide) ⟨by decide, by decide, by omega, by omega⟩ (Nat.le_of_ble_eq_true rfl) (fun σ_1164 r_1164 h_1164 => ?_)
  obtain ⟨rfl, rfl⟩ := h_1164
  refine aw_iload5 dL_law_1167 ?_
  refine aw_ic_eq (tgt := 1174) dL_law_1169 (by decide) (fun c_1169 => ?_) (fun c_1169 => absurd ht c_1169)
  refine aw_iload5 dL_law_1174 ?_
  refine aw_if_ne (tgt := 1191) dL_law_1176 (by decide) (fun c_1176 => ?_) (fun c_1176 => ?_)
  · refine aw_goto (tgt := 1735) dL_law_1191 (by decide) ?_
    exact nxt _ _ _ hI3
  · refine aw_aload3 dL_law_1179 ?_
    refine aw_iconst (v := 0) dL_law_1180 (by decide) ?_
    have h0 : cd = 0 := (by first | exact c_1176 | exact Classical.not_not.mp c_1176)
    have hout : σ3.2.2 396 0 = val.toInt64 := by
      rw [hlo]
      rcases ha with ⟨-, τ, -, rfl⟩ | ⟨q, -⟩
      · exact sL_at
      · exact absurd h0 q
    refine aw_lald (j := 0) dL_law_1181 rfl (by decide) rfl (by decide) hout ?_
    refine aw_iload6 dL_law_1182 ?_
    refine aw_i2l dL_law_1184 ?_
    refine aw_lcmp dL_law_1185 ?_
    refine aw_if_eq (tgt := 1191) dL_law_1186 (by decide) (fun c_1186 => ?_) (fun c_1186 => absurd (show lg_cmp _ _ = 0 from (lg_cmp_eq _ _).mpr (congrArg Int32.toInt64 (hv h0))) c_1186)
    refine aw_goto (tgt := 1735) dL_law_1191 (by decide) ?_
    exact nxt _ _ _ hI3
set_option maxHeartbeats 4000000 in
theorem law_begins {K : KT} {b L : Nat} {xs : Nat → Int32} (hS : SC K b L xs) (hL : L ≤ 3072) (tb : List (Nat × Nat × Nat × Nat)) (nm : String) (Q : State → Prop) (j : Nat) (hj : 6 * j + 6 ≤ L) (σ : Sg) (hI : IV σ) (x5 x6 : Option Value) (nxt : ∀ σ2 y5 y6, IV σ2 → AW K RL cL_law (LT tb nm) 12 601024 7293034 Q NN (some 0) σ2 (397 + 8 * j + 8) (6392 + 48 * j + 48) 1735 (lls b j y5 y6) []) : AW K RL cL_law (LT tb nm) 12 601024 7293034 Q NN (some 0) σ (397 + 8 * j) (6392 + 48 * j) 1194 (lls b j x5 x6) [] := by
  obtain ⟨cd, val, po, hC, hM⟩ := op_begins σ (xs (6 * j + 1)) hI
  refine aw_aload1 dL_law_1194 ?_
  refine aw_aload0E dL_law_1195 ?_
  refine aw_iload4 dL_law_1196 ?_
  refine aw_iconst (v := 1) dL_law_1198 (by decide) ?_
  refine aw_iadd dL_law_1199 ?_
  refine aw_sld (j := 6 * j + 1) dL_law_1200 hS hL (nI_add (6 * j) 1) (by omega) ?_
  refine aw_aload3 dL_law_1201 ?_
  refine aw_callSH (As := [.ref 0, .int (xs (6 * j + 1)), .ref 396]) (kL_begins σ (xs (6 * j + 1)) cd val po hC) dL_law_1202 sl_L_163 (Rm1 ⟨by decide, by decide, by omega, by omega⟩) (Nat.le_of_ble_eq_true rfl) (fun σ2 r h => ?_) (fun _ _ h => h.elim)
  obtain ⟨v, rfl, rfl, ha⟩ := h
  obtain ⟨P, hk, hP⟩ := hM σ2 ha
  refine aw_istore5 dL_law_1205 (Nat.le_of_ble_eq_true rfl) rfl ?_
  refine aw_aload2 dL_law_1207 ?_
  refine aw_aload0E dL_law_1208 ?_
  refine aw_iload4 dL_law_1209 ?_
  refine aw_iconst (v := 1) dL_law_1211 (by decide) ?_
  refine aw_iadd dL_law_1212 ?_
  refine aw_sld (j := 6 * j + 1) dL_law_1213 hS hL (nI_add (6 * j) 1) (by omega) ?_
  refine aw_callV (As := [.int (xs (6 * j + 1))]) hk dL_law_1214 vl_L_165 rfl (by decide) (Rm0 ⟨by decide, by decide, by omega, by omega⟩) (Nat.le_of_ble_eq_true rfl) (fun σ3 r h => ?_) (fun _ _ h => h.elim)
  obtain ⟨v2, rfl, hI3, ht, hlo, hv⟩ := hP σ3 r h
  refine aw_istore6 dL_law_1217 (Nat.le_of_ble_eq_true rfl) rfl ?_
  refine aw_aload2 dL_law_1219 ?_
  refine aw_VI0 (k_thrown σ3) dL_law_1220 vl_L_102 rfl (by decide) ⟨by decide, by decide, by omega, by omega⟩ (Nat.le_of_ble_eq_true rfl) (fun σ_1220 r_1220 h_1220 => ?_)
  obtain ⟨rfl, rfl⟩ := h_1220
  refine aw_iload5 dL_law_1223 ?_
  refine aw_ic_eq (tgt := 1230) dL_law_1225 (by decide) (fun c_1225 => ?_) (fun c_1225 => absurd ht c_1225)
  refine aw_iload5 dL_law_1230 ?_
  refine aw_if_ne (tgt := 1247) dL_law_1232 (by decide) (fun c_1232 => ?_) (fun c_1232 => ?_)
  · refine aw_goto (tgt := 1735) dL_law_1247 (by decide) ?_
    exact nxt _ _ _ hI3
  · refine aw_aload3 dL_law_1235 ?_
    refine aw_iconst (v := 0) dL_law_1236 (by decide) ?_
    have h0 : cd = 0 := (by first | exact c_1232 | exact Classical.not_not.mp c_1232)
    have hout : σ3.2.2 396 0 = val.toInt64 := by
      rw [hlo]
      rcases ha with ⟨-, τ, -, rfl⟩ | ⟨q, -⟩
      · exact sL_at
      · exact absurd h0 q
    refine aw_lald (j := 0) dL_law_1237 rfl (by decide) rfl (by decide) hout ?_
    refine aw_iload6 dL_law_1238 ?_
    refine aw_i2l dL_law_1240 ?_
    refine aw_lcmp dL_law_1241 ?_
    refine aw_if_eq (tgt := 1247) dL_law_1242 (by decide) (fun c_1242 => ?_) (fun c_1242 => absurd (show lg_cmp _ _ = 0 from (lg_cmp_eq _ _).mpr (congrArg Int32.toInt64 (hv h0))) c_1242)
    refine aw_goto (tgt := 1735) dL_law_1247 (by decide) ?_
    exact nxt _ _ _ hI3
set_option maxHeartbeats 4000000 in
theorem law_cost {K : KT} {b L : Nat} {xs : Nat → Int32} (hS : SC K b L xs) (hL : L ≤ 3072) (tb : List (Nat × Nat × Nat × Nat)) (nm : String) (Q : State → Prop) (j : Nat) (hj : 6 * j + 6 ≤ L) (σ : Sg) (hI : IV σ) (x5 x6 : Option Value) (nxt : ∀ σ2 y5 y6, IV σ2 → AW K RL cL_law (LT tb nm) 12 601024 7293034 Q NN (some 0) σ2 (397 + 8 * j + 8) (6392 + 48 * j + 48) 1735 (lls b j y5 y6) []) : AW K RL cL_law (LT tb nm) 12 601024 7293034 Q NN (some 0) σ (397 + 8 * j) (6392 + 48 * j) 1250 (lls b j x5 x6) [] := by
  obtain ⟨cd, val, po, hC, hM⟩ := op_cost σ (xs (6 * j + 1)) (xs (6 * j + 2)) (xs (6 * j + 3)) (xs (6 * j + 4)) (xs (6 * j + 5)) hI
  refine aw_aload1 dL_law_1250 ?_
  refine aw_aload0E dL_law_1251 ?_
  refine aw_iload4 dL_law_1252 ?_
  refine aw_iconst (v := 1) dL_law_1254 (by decide) ?_
  refine aw_iadd dL_law_1255 ?_
  refine aw_sld (j := 6 * j + 1) dL_law_1256 hS hL (nI_add (6 * j) 1) (by omega) ?_
  refine aw_aload0E dL_law_1257 ?_
  refine aw_iload4 dL_law_1258 ?_
  refine aw_iconst (v := 2) dL_law_1260 (by decide) ?_
  refine aw_iadd dL_law_1261 ?_
  refine aw_sld (j := 6 * j + 2) dL_law_1262 hS hL (nI_add (6 * j) 2) (by omega) ?_
  refine aw_aload0E dL_law_1263 ?_
  refine aw_iload4 dL_law_1264 ?_
  refine aw_iconst (v := 3) dL_law_1266 (by decide) ?_
  refine aw_iadd dL_law_1267 ?_
  refine aw_sld (j := 6 * j + 3) dL_law_1268 hS hL (nI_add (6 * j) 3) (by omega) ?_
  refine aw_aload0E dL_law_1269 ?_
  refine aw_iload4 dL_law_1270 ?_
  refine aw_iconst (v := 4) dL_law_1272 (by decide) ?_
  refine aw_iadd dL_law_1273 ?_
  refine aw_sld (j := 6 * j + 4) dL_law_1274 hS hL (nI_add (6 * j) 4) (by omega) ?_
  refine aw_aload0E dL_law_1275 ?_
  refine aw_iload4 dL_law_1276 ?_
  refine aw_iconst (v := 5) dL_law_1278 (by decide) ?_
  refine aw_iadd dL_law_1279 ?_
  refine aw_sld (j := 6 * j + 5) dL_law_1280 hS hL (nI_add (6 * j) 5) (by omega) ?_
  refine aw_aload3 dL_law_1281 ?_
  refine aw_callSH (As := [.ref 0, .int (xs (6 * j + 1)), .int (xs (6 * j + 2)), .int (xs (6 * j + 3)), .int (xs (6 * j + 4)), .int (xs (6 * j + 5)), .ref 396]) (kL_cost σ (xs (6 * j + 1)) (xs (6 * j + 2)) (xs (6 * j + 3)) (xs (6 * j + 4)) (xs (6 * j + 5)) cd val po hC) dL_law_1282 sl_L_166 (Rm1 ⟨by decide, by decide, by omega, by omega⟩) (Nat.le_of_ble_eq_true rfl) (fun σ2 r h => ?_) (fun _ _ h => h.elim)
  obtain ⟨v, rfl, rfl, ha⟩ := h
  obtain ⟨P, hk, hP⟩ := hM σ2 ha
  refine aw_istore5 dL_law_1285 (Nat.le_of_ble_eq_true rfl) rfl ?_
  refine aw_aload2 dL_law_1287 ?_
  refine aw_aload0E dL_law_1288 ?_
  refine aw_iload4 dL_law_1289 ?_
  refine aw_iconst (v := 1) dL_law_1291 (by decide) ?_
  refine aw_iadd dL_law_1292 ?_
  refine aw_sld (j := 6 * j + 1) dL_law_1293 hS hL (nI_add (6 * j) 1) (by omega) ?_
  refine aw_aload0E dL_law_1294 ?_
  refine aw_iload4 dL_law_1295 ?_
  refine aw_iconst (v := 2) dL_law_1297 (by decide) ?_
  refine aw_iadd dL_law_1298 ?_
  refine aw_sld (j := 6 * j + 2) dL_law_1299 hS hL (nI_add (6 * j) 2) (by omega) ?_
  refine aw_aload0E dL_law_1300 ?_
  refine aw_iload4 dL_law_1301 ?_
  refine aw_iconst (v := 3) dL_law_1303 (by decide) ?_
  refine aw_iadd dL_law_1304 ?_
  refine aw_sld (j := 6 * j + 3) dL_law_1305 hS hL (nI_add (6 * j) 3) (by omega) ?_
  refine aw_aload0E dL_law_1306 ?_
  refine aw_iload4 dL_law_1307 ?_
  refine aw_iconst (v := 4) dL_law_1309 (by decide) ?_
  refine aw_iadd dL_law_1310 ?_
  refine aw_sld (j := 6 * j + 4) dL_law_1311 hS hL (nI_add (6 * j) 4) (by omega) ?_
  refine aw_aload0E dL_law_1312 ?_
  refine aw_iload4 dL_law_1313 ?_
  refine aw_iconst (v := 5) dL_law_1315 (by decide) ?_
  refine aw_iadd dL_law_1316 ?_
  refine aw_sld (j := 6 * j + 5) dL_law_1317 hS hL (nI_add (6 * j) 5) (by omega) ?_
  refine aw_callV (As := [.int (xs (6 * j + 1)), .int (xs (6 * j + 2)), .int (xs (6 * j + 3)), .int (xs (6 * j + 4)), .int (xs (6 * j + 5))]) hk dL_law_1318 vl_L_168 rfl (by decide) (Rm0 ⟨by decide, by decide, by omega, by omega⟩) (Nat.le_of_ble_eq_true rfl) (fun σ3 r h => ?_) (fun _ _ h => h.elim)
  obtain ⟨v2, rfl, hI3, ht, hlo, hv⟩ := hP σ3 r h
  refine aw_istore6 dL_law_1321 (Nat.le_of_ble_eq_true rfl) rfl ?_
  refine aw_aload2 dL_law_1323 ?_
  refine aw_VI0 (k_thrown σ3) dL_law_1324 vl_L_102 rfl (by decide) ⟨by decide, by decide, by omega, by omega⟩ (Nat.le_of_ble_eq_true rfl) (fun σ_1324 r_1324 h_1324 => ?_)
  obtain ⟨rfl, rfl⟩ := h_1324
  refine aw_iload5 dL_law_1327 ?_
  refine aw_ic_eq (tgt := 1334) dL_law_1329 (by decide) (fun c_1329 => ?_) (fun c_1329 => absurd ht c_1329)
  refine aw_iload5 dL_law_1334 ?_
  refine aw_if_ne (tgt := 1351) dL_law_1336 (by decide) (fun c_1336 => ?_) (fun c_1336 => ?_)
  · refine aw_goto (tgt := 1735) dL_law_1351 (by decide) ?_
    exact nxt _ _ _ hI3
  · refine aw_aload3 dL_law_1339 ?_
    refine aw_iconst (v := 0) dL_law_1340 (by decide) ?_
    have h0 : cd = 0 := (by first | exact c_1336 | exact Classical.not_not.mp c_1336)
    have hout : σ3.2.2 396 0 = val.toInt64 := by
      rw [hlo]
      rcases ha with ⟨-, τ, -, rfl⟩ | ⟨q, -⟩
      · exact sL_at
      · exact absurd h0 q
    refine aw_lald (j := 0) dL_law_1341 rfl (by decide) rfl (by decide) hout ?_
    refine aw_iload6 dL_law_1342 ?_
    refine aw_i2l dL_law_1344 ?_
    refine aw_lcmp dL_law_1345 ?_
    refine aw_if_eq (tgt := 1351) dL_law_1346 (by decide) (fun c_1346 => ?_) (fun c_1346 => absurd (show lg_cmp _ _ = 0 from (lg_cmp_eq _ _).mpr (congrArg Int32.toInt64 (hv h0))) c_1346)
    refine aw_goto (tgt := 1735) dL_law_1351 (by decide) ?_
    exact nxt _ _ _ hI3
set_option maxHeartbeats 4000000 in
theorem law_willOwe {K : KT} {b L : Nat} {xs : Nat → Int32} (hS : SC K b L xs) (hL : L ≤ 3072) (tb : List (Nat × Nat × Nat × Nat)) (nm : String) (Q : State → Prop) (j : Nat) (hj : 6 * j + 6 ≤ L) (σ : Sg) (hI : IV σ) (x5 x6 : Option Value) (nxt : ∀ σ2 y5 y6, IV σ2 → AW K RL cL_law (LT tb nm) 12 601024 7293034 Q NN (some 0) σ2 (397 + 8 * j + 8) (6392 + 48 * j + 48) 1735 (lls b j y5 y6) []) : AW K RL cL_law (LT tb nm) 12 601024 7293034 Q NN (some 0) σ (397 + 8 * j) (6392 + 48 * j) 1354 (lls b j x5 x6) [] := by
  obtain ⟨cd, val, po, hC, hM⟩ := op_willOwe σ (xs (6 * j + 1)) hI
  refine aw_aload1 dL_law_1354 ?_
  refine aw_aload0E dL_law_1355 ?_
  refine aw_iload4 dL_law_1356 ?_
  refine aw_iconst (v := 1) dL_law_1358 (by decide) ?_
  refine aw_iadd dL_law_1359 ?_
  refine aw_sld (j := 6 * j + 1) dL_law_1360 hS hL (nI_add (6 * j) 1) (by omega) ?_
  refine aw_aload3 dL_law_1361 ?_
  refine aw_callSH (As := [.ref 0, .int (xs (6 * j + 1)), .ref 396]) (kL_willOwe σ (xs (6 * j + 1)) cd val po hC) dL_law_1362 sl_L_169 (Rm1 ⟨by decide, by decide, by omega, by omega⟩) (Nat.le_of_ble_eq_true rfl) (fun σ2 r h => ?_) (fun _ _ h => h.elim)
  obtain ⟨v, rfl, rfl, ha⟩ := h
  obtain ⟨P, hk, hP⟩ := hM σ2 ha
  refine aw_istore5 dL_law_1365 (Nat.le_of_ble_eq_true rfl) rfl ?_
  refine aw_aload2 dL_law_1367 ?_
  refine aw_aload0E dL_law_1368 ?_
  refine aw_iload4 dL_law_1369 ?_
  refine aw_iconst (v := 1) dL_law_1371 (by decide) ?_
  refine aw_iadd dL_law_1372 ?_
  refine aw_sld (j := 6 * j + 1) dL_law_1373 hS hL (nI_add (6 * j) 1) (by omega) ?_
  refine aw_callV (As := [.int (xs (6 * j + 1))]) hk dL_law_1374 vl_L_171 rfl (by decide) (Rm0 ⟨by decide, by decide, by omega, by omega⟩) (Nat.le_of_ble_eq_true rfl) (fun σ3 r h => ?_) (fun _ _ h => h.elim)
  obtain ⟨v2, rfl, hI3, ht, hlo, hv⟩ := hP σ3 r h
  refine aw_istore6 dL_law_1377 (Nat.le_of_ble_eq_true rfl) rfl ?_
  refine aw_aload2 dL_law_1379 ?_
  refine aw_VI0 (k_thrown σ3) dL_law_1380 vl_L_102 rfl (by decide) ⟨by decide, by decide, by omega, by omega⟩ (Nat.le_of_ble_eq_true rfl) (fun σ_1380 r_1380 h_1380 => ?_)
  obtain ⟨rfl, rfl⟩ := h_1380
  refine aw_iload5 dL_law_1383 ?_
  refine aw_ic_eq (tgt := 1390) dL_law_1385 (by decide) (fun c_1385 => ?_) (fun c_1385 => absurd ht c_1385)
  refine aw_iload5 dL_law_1390 ?_
  refine aw_if_ne (tgt := 1407) dL_law_1392 (by decide) (fun c_1392 => ?_) (fun c_1392 => ?_)
  · refine aw_goto (tgt := 1735) dL_law_1407 (by decide) ?_
    exact nxt _ _ _ hI3
  · refine aw_aload3 dL_law_1395 ?_
    refine aw_iconst (v := 0) dL_law_1396 (by decide) ?_
    have h0 : cd = 0 := (by first | exact c_1392 | exact Classical.not_not.mp c_1392)
    have hout : σ3.2.2 396 0 = val.toInt64 := by
      rw [hlo]
      rcases ha with ⟨-, τ, -, rfl⟩ | ⟨q, -⟩
      · exact sL_at
      · exact absurd h0 q
    refine aw_lald (j := 0) dL_law_1397 rfl (by decide) rfl (by decide) hout ?_
    refine aw_iload6 dL_law_1398 ?_
    refine aw_i2l dL_law_1400 ?_
    refine aw_lcmp dL_law_1401 ?_
    refine aw_if_eq (tgt := 1407) dL_law_1402 (by decide) (fun c_1402 => ?_) (fun c_1402 => absurd (show lg_cmp _ _ = 0 from (lg_cmp_eq _ _).mpr (congrArg Int32.toInt64 (hv h0))) c_1402)
    refine aw_goto (tgt := 1735) dL_law_1407 (by decide) ?_
    exact nxt _ _ _ hI3
set_option maxHeartbeats 4000000 in
theorem law_coldest {K : KT} {b L : Nat} {xs : Nat → Int32} (hS : SC K b L xs) (hL : L ≤ 3072) (tb : List (Nat × Nat × Nat × Nat)) (nm : String) (Q : State → Prop) (j : Nat) (hj : 6 * j + 6 ≤ L) (σ : Sg) (hI : IV σ) (x5 x6 : Option Value) (nxt : ∀ σ2 y5 y6, IV σ2 → AW K RL cL_law (LT tb nm) 12 601024 7293034 Q NN (some 0) σ2 (397 + 8 * j + 8) (6392 + 48 * j + 48) 1735 (lls b j y5 y6) []) : AW K RL cL_law (LT tb nm) 12 601024 7293034 Q NN (some 0) σ (397 + 8 * j) (6392 + 48 * j) 1410 (lls b j x5 x6) [] := by
  obtain ⟨val, po, hC, hM⟩ := op_coldest σ hI
  refine aw_aload1 dL_law_1410 ?_
  refine aw_callV (As := []) hC dL_law_1411 vl_L_172 rfl (by decide) (Rm0 ⟨by decide, by decide, by omega, by omega⟩) (Nat.le_of_ble_eq_true rfl) (fun σ2 r h => ?_) (fun _ _ h => h.elim)
  obtain ⟨v, rfl, -, hpo, rfl⟩ := h
  obtain ⟨P, hk, hP⟩ := hM σ2 hpo
  refine aw_aload2 dL_law_1414 ?_
  refine aw_callV (As := []) hk dL_law_1415 vl_L_175 rfl (by decide) (Rm0 ⟨by decide, by decide, by omega, by omega⟩) (Nat.le_of_ble_eq_true rfl) (fun σ3 r h => ?_) (fun _ _ h => h.elim)
  obtain ⟨v2, rfl, hI3, hv⟩ := hP σ3 r h
  refine aw_ic_eq (tgt := 1735) dL_law_1418 (by decide) (fun c_1418 => ?_) (fun c_1418 => absurd hv c_1418)
  refine AW.widen (k1 := 397 + 8 * j + 8) (k2 := 6392 + 48 * j + 48) (by omega) (by omega) ?_
  exact nxt _ _ _ hI3
set_option maxHeartbeats 4000000 in
theorem law_runScript {K : KT} {b L : Nat} {xs : Nat → Int32} (hS : SC K b L xs) (hL : L ≤ 3072) (tb : List (Nat × Nat × Nat × Nat)) (nm : String) (Q : State → Prop) (j : Nat) (hj : 6 * j + 6 ≤ L) (σ : Sg) (hI : IV σ) (x5 x6 : Option Value) (nxt : ∀ σ2 y5 y6, IV σ2 → AW K RL cL_law (LT tb nm) 12 601024 7293034 Q NN (some 0) σ2 (397 + 8 * j + 8) (6392 + 48 * j + 48) 1735 (lls b j y5 y6) []) : AW K RL cL_law (LT tb nm) 12 601024 7293034 Q NN (some 0) σ (397 + 8 * j) (6392 + 48 * j) 1423 (lls b j x5 x6) [] := by
  obtain ⟨cd, val, po, hC, hM⟩ := op_runScript σ (xs (6 * j + 1)) (((xs (6 * j + 2)).toInt64 <<< 32) ||| ((xs (6 * j + 3)).toInt64 &&& 4294967295)) hI
  refine aw_aload1 dL_law_1423 ?_
  refine aw_aload0E dL_law_1424 ?_
  refine aw_iload4 dL_law_1425 ?_
  refine aw_iconst (v := 1) dL_law_1427 (by decide) ?_
  refine aw_iadd dL_law_1428 ?_
  refine aw_sld (j := 6 * j + 1) dL_law_1429 hS hL (nI_add (6 * j) 1) (by omega) ?_
  refine aw_aload0E dL_law_1430 ?_
  refine aw_iload4 dL_law_1431 ?_
  refine aw_iconst (v := 2) dL_law_1433 (by decide) ?_
  refine aw_iadd dL_law_1434 ?_
  refine aw_sld (j := 6 * j + 2) dL_law_1435 hS hL (nI_add (6 * j) 2) (by omega) ?_
  refine aw_i2l dL_law_1436 ?_
  refine aw_bipush (v := 32) dL_law_1437 (by decide) ?_
  refine aw_lshl dL_law_1439 ?_
  refine aw_aload0E dL_law_1440 ?_
  refine aw_iload4 dL_law_1441 ?_
  refine aw_iconst (v := 3) dL_law_1443 (by decide) ?_
  refine aw_iadd dL_law_1444 ?_
  refine aw_sld (j := 6 * j + 3) dL_law_1445 hS hL (nI_add (6 * j) 3) (by omega) ?_
  refine aw_i2l dL_law_1446 ?_
  refine aw_ldc2 dL_law_1447 kl_L_176 ?_
  refine aw_land dL_law_1450 ?_
  refine aw_lor dL_law_1451 ?_
  refine aw_aload3 dL_law_1452 ?_
  refine aw_callSH (As := [.ref 0, .int (xs (6 * j + 1)), .long (((xs (6 * j + 2)).toInt64 <<< 32) ||| ((xs (6 * j + 3)).toInt64 &&& 4294967295)), .ref 396]) (kL_runScript σ (xs (6 * j + 1)) (((xs (6 * j + 2)).toInt64 <<< 32) ||| ((xs (6 * j + 3)).toInt64 &&& 4294967295)) cd val po hC) dL_law_1453 sl_L_178 (Rm1 ⟨by decide, by decide, by omega, by omega⟩) (Nat.le_of_ble_eq_true rfl) (fun σ2 r h => ?_) (fun _ _ h => h.elim)
  obtain ⟨v, rfl, rfl, ha⟩ := h
  obtain ⟨P, hk, hP⟩ := hM σ2 ha
  refine aw_istore5 dL_law_1456 (Nat.le_of_ble_eq_true rfl) rfl ?_
  refine aw_aload2 dL_law_1458 ?_
  refine aw_aload0E dL_law_1459 ?_
  refine aw_iload4 dL_law_1460 ?_
  refine aw_iconst (v := 1) dL_law_1462 (by decide) ?_
  refine aw_iadd dL_law_1463 ?_
  refine aw_sld (j := 6 * j + 1) dL_law_1464 hS hL (nI_add (6 * j) 1) (by omega) ?_
  refine aw_aload0E dL_law_1465 ?_
  refine aw_iload4 dL_law_1466 ?_
  refine aw_iconst (v := 2) dL_law_1468 (by decide) ?_
  refine aw_iadd dL_law_1469 ?_
  refine aw_sld (j := 6 * j + 2) dL_law_1470 hS hL (nI_add (6 * j) 2) (by omega) ?_
  refine aw_i2l dL_law_1471 ?_
  refine aw_bipush (v := 32) dL_law_1472 (by decide) ?_
  refine aw_lshl dL_law_1474 ?_
  refine aw_aload0E dL_law_1475 ?_
  refine aw_iload4 dL_law_1476 ?_
  refine aw_iconst (v := 3) dL_law_1478 (by decide) ?_
  refine aw_iadd dL_law_1479 ?_
  refine aw_sld (j := 6 * j + 3) dL_law_1480 hS hL (nI_add (6 * j) 3) (by omega) ?_
  refine aw_i2l dL_law_1481 ?_
  refine aw_ldc2 dL_law_1482 kl_L_176 ?_
  refine aw_land dL_law_1485 ?_
  refine aw_lor dL_law_1486 ?_
  refine aw_callV (As := [.int (xs (6 * j + 1)), .long (((xs (6 * j + 2)).toInt64 <<< 32) ||| ((xs (6 * j + 3)).toInt64 &&& 4294967295))]) hk dL_law_1487 vl_L_181 rfl (by decide) (Rm0 ⟨by decide, by decide, by omega, by omega⟩) (Nat.le_of_ble_eq_true rfl) (fun σ3 r h => ?_) (fun _ _ h => h.elim)
  obtain ⟨v2, rfl, hI3, ht, hlo, hv⟩ := hP σ3 r h
  refine aw_istore6 dL_law_1490 (Nat.le_of_ble_eq_true rfl) rfl ?_
  refine aw_aload2 dL_law_1492 ?_
  refine aw_VI0 (k_thrown σ3) dL_law_1493 vl_L_102 rfl (by decide) ⟨by decide, by decide, by omega, by omega⟩ (Nat.le_of_ble_eq_true rfl) (fun σ_1493 r_1493 h_1493 => ?_)
  obtain ⟨rfl, rfl⟩ := h_1493
  refine aw_iload5 dL_law_1496 ?_
  refine aw_ic_eq (tgt := 1503) dL_law_1498 (by decide) (fun c_1498 => ?_) (fun c_1498 => absurd ht c_1498)
  refine aw_iload5 dL_law_1503 ?_
  refine aw_if_ne (tgt := 1520) dL_law_1505 (by decide) (fun c_1505 => ?_) (fun c_1505 => ?_)
  · refine aw_goto (tgt := 1735) dL_law_1520 (by decide) ?_
    exact nxt _ _ _ hI3
  · refine aw_aload3 dL_law_1508 ?_
    refine aw_iconst (v := 0) dL_law_1509 (by decide) ?_
    have h0 : cd = 0 := (by first | exact c_1505 | exact Classical.not_not.mp c_1505)
    have hout : σ3.2.2 396 0 = val.toInt64 := by
      rw [hlo]
      rcases ha with ⟨-, τ, -, rfl⟩ | ⟨q, -⟩
      · exact sL_at
      · exact absurd h0 q
    refine aw_lald (j := 0) dL_law_1510 rfl (by decide) rfl (by decide) hout ?_
    refine aw_iload6 dL_law_1511 ?_
    refine aw_i2l dL_law_1513 ?_
    refine aw_lcmp dL_law_1514 ?_
    refine aw_if_eq (tgt := 1520) dL_law_1515 (by decide) (fun c_1515 => ?_) (fun c_1515 => absurd (show lg_cmp _ _ = 0 from (lg_cmp_eq _ _).mpr (congrArg Int32.toInt64 (hv h0))) c_1515)
    refine aw_goto (tgt := 1735) dL_law_1520 (by decide) ?_
    exact nxt _ _ _ hI3
set_option maxHeartbeats 4000000 in
theorem law_simulate {K : KT} {b L : Nat} {xs : Nat → Int32} (hS : SC K b L xs) (hL : L ≤ 3072) (tb : List (Nat × Nat × Nat × Nat)) (nm : String) (Q : State → Prop) (j : Nat) (hj : 6 * j + 6 ≤ L) (σ : Sg) (hI : IV σ) (x5 x6 : Option Value) (nxt : ∀ σ2 y5 y6, IV σ2 → AW K RL cL_law (LT tb nm) 12 601024 7293034 Q NN (some 0) σ2 (397 + 8 * j + 8) (6392 + 48 * j + 48) 1735 (lls b j y5 y6) []) : AW K RL cL_law (LT tb nm) 12 601024 7293034 Q NN (some 0) σ (397 + 8 * j) (6392 + 48 * j) 1523 (lls b j x5 x6) [] := by
  obtain ⟨cd, val, po, hC, hM⟩ := op_simulate σ (((xs (6 * j + 1)).toInt64 <<< 32) ||| ((xs (6 * j + 2)).toInt64 &&& 4294967295)) (xs (6 * j + 3)) hI
  refine aw_aload1 dL_law_1523 ?_
  refine aw_aload0E dL_law_1524 ?_
  refine aw_iload4 dL_law_1525 ?_
  refine aw_iconst (v := 1) dL_law_1527 (by decide) ?_
  refine aw_iadd dL_law_1528 ?_
  refine aw_sld (j := 6 * j + 1) dL_law_1529 hS hL (nI_add (6 * j) 1) (by omega) ?_
  refine aw_i2l dL_law_1530 ?_
  refine aw_bipush (v := 32) dL_law_1531 (by decide) ?_
  refine aw_lshl dL_law_1533 ?_
  refine aw_aload0E dL_law_1534 ?_
  refine aw_iload4 dL_law_1535 ?_
  refine aw_iconst (v := 2) dL_law_1537 (by decide) ?_
  refine aw_iadd dL_law_1538 ?_
  refine aw_sld (j := 6 * j + 2) dL_law_1539 hS hL (nI_add (6 * j) 2) (by omega) ?_
  refine aw_i2l dL_law_1540 ?_
  refine aw_ldc2 dL_law_1541 kl_L_176 ?_
  refine aw_land dL_law_1544 ?_
  refine aw_lor dL_law_1545 ?_
  refine aw_aload0E dL_law_1546 ?_
  refine aw_iload4 dL_law_1547 ?_
  refine aw_iconst (v := 3) dL_law_1549 (by decide) ?_
  refine aw_iadd dL_law_1550 ?_
  refine aw_sld (j := 6 * j + 3) dL_law_1551 hS hL (nI_add (6 * j) 3) (by omega) ?_
  refine aw_aload3 dL_law_1552 ?_
  refine aw_callSH (As := [.ref 0, .long (((xs (6 * j + 1)).toInt64 <<< 32) ||| ((xs (6 * j + 2)).toInt64 &&& 4294967295)), .int (xs (6 * j + 3)), .ref 396]) (kL_simulate σ (((xs (6 * j + 1)).toInt64 <<< 32) ||| ((xs (6 * j + 2)).toInt64 &&& 4294967295)) (xs (6 * j + 3)) cd val po hC) dL_law_1553 sl_L_182 (Rm1 ⟨by decide, by decide, by omega, by omega⟩) (Nat.le_of_ble_eq_true rfl) (fun σ2 r h => ?_) (fun _ _ h => h.elim)
  obtain ⟨v, rfl, rfl, ha⟩ := h
  obtain ⟨P, hk, hP⟩ := hM σ2 ha
  refine aw_istore5 dL_law_1556 (Nat.le_of_ble_eq_true rfl) rfl ?_
  refine aw_aload2 dL_law_1558 ?_
  refine aw_aload0E dL_law_1559 ?_
  refine aw_iload4 dL_law_1560 ?_
  refine aw_iconst (v := 1) dL_law_1562 (by decide) ?_
  refine aw_iadd dL_law_1563 ?_
  refine aw_sld (j := 6 * j + 1) dL_law_1564 hS hL (nI_add (6 * j) 1) (by omega) ?_
  refine aw_i2l dL_law_1565 ?_
  refine aw_bipush (v := 32) dL_law_1566 (by decide) ?_
  refine aw_lshl dL_law_1568 ?_
  refine aw_aload0E dL_law_1569 ?_
  refine aw_iload4 dL_law_1570 ?_
  refine aw_iconst (v := 2) dL_law_1572 (by decide) ?_
  refine aw_iadd dL_law_1573 ?_
  refine aw_sld (j := 6 * j + 2) dL_law_1574 hS hL (nI_add (6 * j) 2) (by omega) ?_
  refine aw_i2l dL_law_1575 ?_
  refine aw_ldc2 dL_law_1576 kl_L_176 ?_
  refine aw_land dL_law_1579 ?_
  refine aw_lor dL_law_1580 ?_
  refine aw_aload0E dL_law_1581 ?_
  refine aw_iload4 dL_law_1582 ?_
  refine aw_iconst (v := 3) dL_law_1584 (by decide) ?_
  refine aw_iadd dL_law_1585 ?_
  refine aw_sld (j := 6 * j + 3) dL_law_1586 hS hL (nI_add (6 * j) 3) (by omega) ?_
  refine aw_callV (As := [.long (((xs (6 * j + 1)).toInt64 <<< 32) ||| ((xs (6 * j + 2)).toInt64 &&& 4294967295)), .int (xs (6 * j + 3))]) hk dL_law_1587 vl_L_185 rfl (by decide) (Rm0 ⟨by decide, by decide, by omega, by omega⟩) (Nat.le_of_ble_eq_true rfl) (fun σ3 r h => ?_) (fun _ _ h => h.elim)
  obtain ⟨v2, rfl, hI3, ht, hlo, hv⟩ := hP σ3 r h
  refine aw_istore6 dL_law_1590 (Nat.le_of_ble_eq_true rfl) rfl ?_
  refine aw_aload2 dL_law_1592 ?_
  refine aw_VI0 (k_thrown σ3) dL_law_1593 vl_L_102 rfl (by decide) ⟨by decide, by decide, by omega, by omega⟩ (Nat.le_of_ble_eq_true rfl) (fun σ_1593 r_1593 h_1593 => ?_)
  obtain ⟨rfl, rfl⟩ := h_1593
  refine aw_iload5 dL_law_1596 ?_
  refine aw_ic_eq (tgt := 1603) dL_law_1598 (by decide) (fun c_1598 => ?_) (fun c_1598 => absurd ht c_1598)
  refine aw_iload5 dL_law_1603 ?_
  refine aw_if_ne (tgt := 1620) dL_law_1605 (by decide) (fun c_1605 => ?_) (fun c_1605 => ?_)
  · refine aw_goto (tgt := 1735) dL_law_1620 (by decide) ?_
    exact nxt _ _ _ hI3
  · refine aw_aload3 dL_law_1608 ?_
    refine aw_iconst (v := 0) dL_law_1609 (by decide) ?_
    have h0 : cd = 0 := (by first | exact c_1605 | exact Classical.not_not.mp c_1605)
    have hout : σ3.2.2 396 0 = val.toInt64 := by
      rw [hlo]
      rcases ha with ⟨-, τ, -, rfl⟩ | ⟨q, -⟩
      · exact sL_at
      · exact absurd h0 q
    refine aw_lald (j := 0) dL_law_1610 rfl (by decide) rfl (by decide) hout ?_
    refine aw_iload6 dL_law_1611 ?_
    refine aw_i2l dL_law_1613 ?_
    refine aw_lcmp dL_law_1614 ?_
    refine aw_if_eq (tgt := 1620) dL_law_1615 (by decide) (fun c_1615 => ?_) (fun c_1615 => absurd (show lg_cmp _ _ = 0 from (lg_cmp_eq _ _).mpr (congrArg Int32.toInt64 (hv h0))) c_1615)
    refine aw_goto (tgt := 1735) dL_law_1620 (by decide) ?_
    exact nxt _ _ _ hI3
set_option maxHeartbeats 4000000 in
theorem law_save {K : KT} {b L : Nat} {xs : Nat → Int32} (hS : SC K b L xs) (hL : L ≤ 3072) (tb : List (Nat × Nat × Nat × Nat)) (nm : String) (Q : State → Prop) (j : Nat) (hj : 6 * j + 6 ≤ L) (σ : Sg) (hI : IV σ) (x5 x6 : Option Value) (nxt : ∀ σ2 y5 y6, IV σ2 → AW K RL cL_law (LT tb nm) 12 601024 7293034 Q NN (some 0) σ2 (397 + 8 * j + 8) (6392 + 48 * j + 48) 1735 (lls b j y5 y6) []) : AW K RL cL_law (LT tb nm) 12 601024 7293034 Q NN (some 0) σ (397 + 8 * j) (6392 + 48 * j) 1623 (lls b j x5 x6) [] := by
  obtain ⟨cd, val, po, hC, hM⟩ := op_save σ (xs (6 * j + 1)) hI
  refine aw_aload1 dL_law_1623 ?_
  refine aw_aload0E dL_law_1624 ?_
  refine aw_iload4 dL_law_1625 ?_
  refine aw_iconst (v := 1) dL_law_1627 (by decide) ?_
  refine aw_iadd dL_law_1628 ?_
  refine aw_sld (j := 6 * j + 1) dL_law_1629 hS hL (nI_add (6 * j) 1) (by omega) ?_
  refine aw_aload3 dL_law_1630 ?_
  refine aw_callSH (As := [.ref 0, .int (xs (6 * j + 1)), .ref 396]) (kL_save σ (xs (6 * j + 1)) cd val po hC) dL_law_1631 sl_L_186 (Rm1 ⟨by decide, by decide, by omega, by omega⟩) (Nat.le_of_ble_eq_true rfl) (fun σ2 r h => ?_) (fun _ _ h => h.elim)
  obtain ⟨v, rfl, rfl, ha⟩ := h
  obtain ⟨P, hk, hP⟩ := hM σ2 ha
  refine aw_istore5 dL_law_1634 (Nat.le_of_ble_eq_true rfl) rfl ?_
  refine aw_aload2 dL_law_1636 ?_
  refine aw_aload0E dL_law_1637 ?_
  refine aw_iload4 dL_law_1638 ?_
  refine aw_iconst (v := 1) dL_law_1640 (by decide) ?_
  refine aw_iadd dL_law_1641 ?_
  refine aw_sld (j := 6 * j + 1) dL_law_1642 hS hL (nI_add (6 * j) 1) (by omega) ?_
  refine aw_callV (As := [.int (xs (6 * j + 1))]) hk dL_law_1643 vl_L_188 rfl (by decide) (Rm0 ⟨by decide, by decide, by omega, by omega⟩) (Nat.le_of_ble_eq_true rfl) (fun σ3 r h => ?_) (fun _ _ h => h.elim)
  obtain ⟨v2, rfl, hI3, ht, hlo, hv⟩ := hP σ3 r h
  refine aw_istore6 dL_law_1646 (Nat.le_of_ble_eq_true rfl) rfl ?_
  refine aw_aload2 dL_law_1648 ?_
  refine aw_VI0 (k_thrown σ3) dL_law_1649 vl_L_102 rfl (by decide) ⟨by decide, by decide, by omega, by omega⟩ (Nat.le_of_ble_eq_true rfl) (fun σ_1649 r_1649 h_1649 => ?_)
  obtain ⟨rfl, rfl⟩ := h_1649
  refine aw_iload5 dL_law_1652 ?_
  refine aw_ic_eq (tgt := 1659) dL_law_1654 (by decide) (fun c_1654 => ?_) (fun c_1654 => absurd ht c_1654)
  refine aw_iload5 dL_law_1659 ?_
  refine aw_if_ne (tgt := 1676) dL_law_1661 (by decide) (fun c_1661 => ?_) (fun c_1661 => ?_)
  · refine aw_goto (tgt := 1735) dL_law_1676 (by decide) ?_
    exact nxt _ _ _ hI3
  · refine aw_aload3 dL_law_1664 ?_
    refine aw_iconst (v := 0) dL_law_1665 (by decide) ?_
    have h0 : cd = 0 := (by first | exact c_1661 | exact Classical.not_not.mp c_1661)
    have hout : σ3.2.2 396 0 = val.toInt64 := by
      rw [hlo]
      rcases ha with ⟨-, τ, -, rfl⟩ | ⟨q, -⟩
      · exact sL_at
      · exact absurd h0 q
    refine aw_lald (j := 0) dL_law_1666 rfl (by decide) rfl (by decide) hout ?_
    refine aw_iload6 dL_law_1667 ?_
    refine aw_i2l dL_law_1669 ?_
    refine aw_lcmp dL_law_1670 ?_
    refine aw_if_eq (tgt := 1676) dL_law_1671 (by decide) (fun c_1671 => ?_) (fun c_1671 => absurd (show lg_cmp _ _ = 0 from (lg_cmp_eq _ _).mpr (congrArg Int32.toInt64 (hv h0))) c_1671)
    refine aw_goto (tgt := 1735) dL_law_1676 (by decide) ?_
    exact nxt _ _ _ hI3
set_option maxHeartbeats 4000000 in
theorem law_restore {K : KT} {b L : Nat} {xs : Nat → Int32} (hS : SC K b L xs) (hL : L ≤ 3072) (tb : List (Nat × Nat × Nat × Nat)) (nm : String) (Q : State → Prop) (j : Nat) (hj : 6 * j + 6 ≤ L) (σ : Sg) (hI : IV σ) (x5 x6 : Option Value) (nxt : ∀ σ2 y5 y6, IV σ2 → AW K RL cL_law (LT tb nm) 12 601024 7293034 Q NN (some 0) σ2 (397 + 8 * j + 8) (6392 + 48 * j + 48) 1735 (lls b j y5 y6) []) : AW K RL cL_law (LT tb nm) 12 601024 7293034 Q NN (some 0) σ (397 + 8 * j) (6392 + 48 * j) 1679 (lls b j x5 x6) [] := by
  obtain ⟨cd, val, po, hC, hM⟩ := op_restore σ (xs (6 * j + 1)) hI
  refine aw_aload1 dL_law_1679 ?_
  refine aw_aload0E dL_law_1680 ?_
  refine aw_iload4 dL_law_1681 ?_
  refine aw_iconst (v := 1) dL_law_1683 (by decide) ?_
  refine aw_iadd dL_law_1684 ?_
  refine aw_sld (j := 6 * j + 1) dL_law_1685 hS hL (nI_add (6 * j) 1) (by omega) ?_
  refine aw_aload3 dL_law_1686 ?_
  refine aw_callSH (As := [.ref 0, .int (xs (6 * j + 1)), .ref 396]) (kL_restore σ (xs (6 * j + 1)) cd val po hC) dL_law_1687 sl_L_189 (Rm1 ⟨by decide, by decide, by omega, by omega⟩) (Nat.le_of_ble_eq_true rfl) (fun σ2 r h => ?_) (fun _ _ h => h.elim)
  obtain ⟨v, rfl, rfl, ha⟩ := h
  obtain ⟨P, hk, hP⟩ := hM σ2 ha
  refine aw_istore5 dL_law_1690 (Nat.le_of_ble_eq_true rfl) rfl ?_
  refine aw_aload2 dL_law_1692 ?_
  refine aw_aload0E dL_law_1693 ?_
  refine aw_iload4 dL_law_1694 ?_
  refine aw_iconst (v := 1) dL_law_1696 (by decide) ?_
  refine aw_iadd dL_law_1697 ?_
  refine aw_sld (j := 6 * j + 1) dL_law_1698 hS hL (nI_add (6 * j) 1) (by omega) ?_
  refine aw_callV (As := [.int (xs (6 * j + 1))]) hk dL_law_1699 vl_L_191 rfl (by decide) (Rm0 ⟨by decide, by decide, by omega, by omega⟩) (Nat.le_of_ble_eq_true rfl) (fun σ3 r h => ?_) (fun _ _ h => h.elim)
  obtain ⟨v2, rfl, hI3, ht, hlo, hv⟩ := hP σ3 r h
  refine aw_istore6 dL_law_1702 (Nat.le_of_ble_eq_true rfl) rfl ?_
  refine aw_aload2 dL_law_1704 ?_
  refine aw_VI0 (k_thrown σ3) dL_law_1705 vl_L_102 rfl (by decide) ⟨by decide, by decide, by omega, by omega⟩ (Nat.le_of_ble_eq_true rfl) (fun σ_1705 r_1705 h_1705 => ?_)
  obtain ⟨rfl, rfl⟩ := h_1705
  refine aw_iload5 dL_law_1708 ?_
  refine aw_ic_eq (tgt := 1715) dL_law_1710 (by decide) (fun c_1710 => ?_) (fun c_1710 => absurd ht c_1710)
  refine aw_iload5 dL_law_1715 ?_
  refine aw_if_ne (tgt := 1732) dL_law_1717 (by decide) (fun c_1717 => ?_) (fun c_1717 => ?_)
  · refine aw_goto (tgt := 1735) dL_law_1732 (by decide) ?_
    exact nxt _ _ _ hI3
  · refine aw_aload3 dL_law_1720 ?_
    refine aw_iconst (v := 0) dL_law_1721 (by decide) ?_
    have h0 : cd = 0 := (by first | exact c_1717 | exact Classical.not_not.mp c_1717)
    have hout : σ3.2.2 396 0 = val.toInt64 := by
      rw [hlo]
      rcases ha with ⟨-, τ, -, rfl⟩ | ⟨q, -⟩
      · exact sL_at
      · exact absurd h0 q
    refine aw_lald (j := 0) dL_law_1722 rfl (by decide) rfl (by decide) hout ?_
    refine aw_iload6 dL_law_1723 ?_
    refine aw_i2l dL_law_1725 ?_
    refine aw_lcmp dL_law_1726 ?_
    refine aw_if_eq (tgt := 1732) dL_law_1727 (by decide) (fun c_1727 => ?_) (fun c_1727 => absurd (show lg_cmp _ _ = 0 from (lg_cmp_eq _ _).mpr (congrArg Int32.toInt64 (hv h0))) c_1727)
    refine aw_goto (tgt := 1735) dL_law_1732 (by decide) ?_
    exact nxt _ _ _ hI3
