/-! the reference: scripts and simulations -/
noncomputable def cI {α : Type} (p : Prop) (x : Option α) : Option α := @ite _ p (Classical.propDecidable p) x none
theorem cI_t {α : Type} {p : Prop} {x : Option α} (h : p) : cI p x = x := @if_pos _ (Classical.propDecidable p) h _ _ _
theorem cI_f {α : Type} {p : Prop} {x : Option α} (h : ¬ p) : cI p x = none := @if_neg _ (Classical.propDecidable p) h _ _ _
def tV (d3 d45 : Nat) : Int32 := if d3 = 1 then -nI d45 else nI d45
noncomputable def fDo3 (e : Rw) (nr nb d2 d3 d45 : Nat) : Option (Rw × Nat) := match fCur e d2 nb with
  | none => none
  | some b => cI (d2 < nr ∧ d3 ≤ 1 ∧ d45 = 0) (some (upd e (31 + 10 * b + 7) (nI d3), nb))
theorem fDo3_n {e : Rw} {nr nb d2 d3 d45 : Nat} (h : fCur e d2 nb = none) : fDo3 e nr nb d2 d3 d45 = none := by rw [fDo3, h]
theorem fDo3_s {e : Rw} {nr nb d2 d3 d45 b : Nat} (h : fCur e d2 nb = some b) : fDo3 e nr nb d2 d3 d45 = cI (d2 < nr ∧ d3 ≤ 1 ∧ d45 = 0) (some (upd e (31 + 10 * b + 7) (nI d3), nb)) := by rw [fDo3, h]
theorem fDo3_f {e : Rw} {nr nb d2 d3 d45 : Nat} (h : ¬ (d2 < nr ∧ d3 ≤ 1 ∧ d45 = 0)) : fDo3 e nr nb d2 d3 d45 = none := by
  unfold fDo3
  split
  · rfl
  · exact cI_f h
/-- a command by its digits: what the row becomes, and how many bookings there are then; none where it fails -/
noncomputable def fDo (e : Rw) (nr ng nb : Nat) (d2 d3 d45 d23 d345 c4 : Nat) : Nat → Option (Rw × Nat)
  | 1 => cI (d23 = 0 ∧ (1 ≤ nI d45 ∧ nI d45 ≤ 48) ∧ e 0 + nI d45 ≤ 240) (some (fHours e nr nb d45, nb))
  | 2 => cI (d2 = 0 ∧ d3 ≤ 1 ∧ -20 ≤ tV d3 d45 ∧ tV d3 d45 ≤ 25) (some (upd e 4 (tV d3 d45), nb))
  | 3 => fDo3 e nr nb d2 d3 d45
  | 4 => cI (d2 < ng ∧ d345 = 0) (some (upd e (25 + d2) 0, nb))
  | 5 => cI (d23 < nb ∧ d45 = 0 ∧ goesP e d23) (some (fDrop e d23, nb - 1))
  | 6 => cI (d2 < nr ∧ d3 = 0 ∧ nI d45 ≤ e (9 + 4 * d2 + 3)) (some (e, nb))
  | 7 => cI (d2 < ng ∧ e (25 + d2) ≤ nI d345) (some (e, nb))
  | 8 => cI (d23 < nb ∧ d45 < 2 ∧ (fEnd e d23 ≤ e 0 ↔ d45 = 1)) (some (e, nb))
  | 9 => cI (nI c4 ≤ e 5) (some (e, nb))
  | _ => none
noncomputable def fDoes (e : Rw) (nr ng nb c : Nat) : Option (Rw × Nat) := fDo e nr ng nb (c / 1000 % 10) (c / 100 % 10) (c % 100) (c / 100 % 100) (c % 1000) (c % 10000) (c / 10000)
def eD (σ : Sg) (e : Rw) (o : Option (Rw × Nat)) : PT := rI fun σ2 v => (v = 1 ∧ ∃ e2 nb2, o = some (e2, nb2) ∧ sA σ 392 e2 = σ2) ∨ (v = 0 ∧ o = none ∧ sA σ 392 e = σ2)
theorem eD_1 {σ : Sg} {e e2 : Rw} {o : Option (Rw × Nat)} {nb2 : Nat} (h : o = some (e2, nb2)) : eD σ e o (sA σ 392 e2) (some (.int 1)) := ⟨_, rfl, Or.inl ⟨rfl, _, _, h, rfl⟩⟩
theorem eD_0 {σ : Sg} {e : Rw} {o : Option (Rw × Nat)} (h : o = none) : eD σ e o (sA σ 392 e) (some (.int 0)) := ⟨_, rfl, Or.inr ⟨rfl, h, rfl⟩⟩
set_option maxHeartbeats 4000000 in
theorem k_does (σ : Sg) (e : Rw) (nr ng nb t : Nat) (c : Nat) (hM : MS σ) (hw : WF e nr ng nb t) (hc : c < 100000) : Ct yX7_does cX7_does mX7_does 9 0 0 NN false (sA σ 392 e) [.ref 388, .int (nI c)] NN (eD σ e (fDoes e nr ng nb c)) XF := by
  refine ct_of (ls0 := [some (.ref 388), some (.int (nI c)), none, none, none, none, none, none]) 6 (by decide +kernel) rfl rfl (ndR (ndI nd0)) rfl (Nat.le_of_ble_eq_true rfl) (fun K => ?_)
  have hnr4 := hw.nr4
  have hng6 := hw.ng6
  have hnb12 := hw.nb12
  refine aw_iload1 dX7_does_0 ?_
  refine aw_sipush (v := 10000) dX7_does_1 (by decide) ?_
  refine aw_idiv dX7_does_4 (by decide) ?_
  rw [show nI c / 10000 = nI (c / 10000) from pk_div (d := 10000) (by omega) (by decide) (by decide)]
  refine aw_istore2 dX7_does_5 (by decide) rfl ?_
  refine aw_iload1 dX7_does_6 ?_
  refine aw_sipush (v := 1000) dX7_does_7 (by decide) ?_
  refine aw_idiv dX7_does_10 (by decide) ?_
  rw [show nI c / 1000 = nI (c / 1000) from pk_div (d := 1000) (by omega) (by decide) (by decide)]
  refine aw_bipush (v := 10) dX7_does_11 (by decide) ?_
  refine aw_irem dX7_does_13 (by decide) ?_
  rw [show nI (c / 1000) - nI (c / 1000) / 10 * 10 = nI ((c / 1000) % 10) from pk_rem (d := 10) (by omega) (by decide) (by decide)]
  refine aw_istore3 dX7_does_14 (by decide) rfl ?_
  refine aw_iload1 dX7_does_15 ?_
  refine aw_bipush (v := 100) dX7_does_16 (by decide) ?_
  refine aw_idiv dX7_does_18 (by decide) ?_
  rw [show nI c / 100 = nI (c / 100) from pk_div (d := 100) (by omega) (by decide) (by decide)]
  refine aw_bipush (v := 10) dX7_does_19 (by decide) ?_
  refine aw_irem dX7_does_21 (by decide) ?_
  rw [show nI (c / 100) - nI (c / 100) / 10 * 10 = nI ((c / 100) % 10) from pk_rem (d := 10) (by omega) (by decide) (by decide)]
  refine aw_istore4 dX7_does_22 (by decide) rfl ?_
  refine aw_iload1 dX7_does_24 ?_
  refine aw_bipush (v := 100) dX7_does_25 (by decide) ?_
  refine aw_irem dX7_does_27 (by decide) ?_
  rw [show nI c - nI c / 100 * 100 = nI (c % 100) from pk_rem (d := 100) (by omega) (by decide) (by decide)]
  refine aw_istore5 dX7_does_28 (by decide) rfl ?_
  refine aw_iload1 dX7_does_30 ?_
  refine aw_bipush (v := 100) dX7_does_31 (by decide) ?_
  refine aw_idiv dX7_does_33 (by decide) ?_
  rw [show nI c / 100 = nI (c / 100) from pk_div (d := 100) (by omega) (by decide) (by decide)]
  refine aw_bipush (v := 100) dX7_does_34 (by decide) ?_
  refine aw_irem dX7_does_36 (by decide) ?_
  rw [show nI (c / 100) - nI (c / 100) / 100 * 100 = nI ((c / 100) % 100) from pk_rem (d := 100) (by omega) (by decide) (by decide)]
  refine aw_istore6 dX7_does_37 (by decide) rfl ?_
  refine aw_iload1 dX7_does_39 ?_
  refine aw_sipush (v := 1000) dX7_does_40 (by decide) ?_
  refine aw_irem dX7_does_43 (by decide) ?_
  rw [show nI c - nI c / 1000 * 1000 = nI (c % 1000) from pk_rem (d := 1000) (by omega) (by decide) (by decide)]
  refine aw_istore7 dX7_does_44 (by decide) rfl ?_
  refine aw_iload2 dX7_does_46 ?_
  have hd9 : c / 10000 = 0 ∨ c / 10000 = 1 ∨ c / 10000 = 2 ∨ c / 10000 = 3 ∨ c / 10000 = 4 ∨ c / 10000 = 5 ∨ c / 10000 = 6 ∨ c / 10000 = 7 ∨ c / 10000 = 8 ∨ c / 10000 = 9 := by omega
  rcases hd9 with hd | hd | hd | hd | hd | hd | hd | hd | hd | hd
  · have hf : fDoes e nr ng nb c = fDo e nr ng nb (c / 1000 % 10) (c / 100 % 10) (c % 100) (c / 100 % 100) (c % 1000) (c % 10000) 0 := by rw [fDoes, hd]
    refine aw_tableO (tgt := 456) dX7_does_47 (Or.inl (by rw [hd]; decide)) (by decide) ?_
    refine aw_iconst (v := 0) dX7_does_456 (by decide) ?_
    exact aw_zret dX7_does_457 rfl (by decide) (by decide) (eD_0 hf)
  · have hf : fDoes e nr ng nb c = fDo e nr ng nb (c / 1000 % 10) (c / 100 % 10) (c % 100) (c / 100 % 100) (c % 1000) (c % 10000) 1 := by rw [fDoes, hd]
    refine aw_table (off := 49) (tgt := 96) dX7_does_47 (by rw [hd]; decide) (by rw [hd]; decide) (by rw [hd]; rfl) (by decide) ?_
    refine aw_iload6 dX7_does_96 ?_
    refine aw_if_ne (tgt := 129) dX7_does_98 (by decide) (fun c_98 => ?_) (fun c_98 => ?_)
    · refine aw_iconst (v := 0) dX7_does_129 (by decide) ?_
      exact aw_zret dX7_does_130 rfl (by decide) (by decide) (eD_0 (hf.trans (cI_f (fun h => by
        first
          | exact c_98 (by rw [h.1]; rfl)
          | exact p_108 h.2.1
          | exact c_126 h.2.2))))
    · refine aw_iload5 dX7_does_101 ?_
      refine aw_i2l dX7_does_103 ?_
      refine aw_lconst (v := 1) dX7_does_104 (by decide) ?_
      refine aw_ldc2 dX7_does_105 kl_7_199 ?_
      refine aw_SI3 (k_inC _ _ _ _ 1 48 rfl rfl) dX7_does_108 sl_7_103 (by decide) (Nat.le_of_ble_eq_true rfl) (fun σ_108 r_108 h_108 => ?_)
      obtain ⟨rfl, h_108⟩ := h_108
      rcases h_108 with ⟨rfl, p_108⟩ | ⟨rfl, p_108⟩
      · refine aw_if_eq (tgt := 129) dX7_does_111 (by decide) (fun c_111 => absurd c_111 (by decide)) (fun _ => ?_)
        refine aw_aload0 dX7_does_114 ?_
        refine aw_getR dX7_does_115 fR_7_19 rfl (by decide) hM.trial ?_
        refine aw_iconst (v := 0) dX7_does_118 (by decide) ?_
        refine aw_iald (j := 0) dX7_does_119 rfl (by decide) rfl (by decide) sA_at ?_
        refine aw_iload5 dX7_does_120 ?_
        refine aw_iadd dX7_does_122 ?_
        refine aw_sipush (v := 240) dX7_does_123 (by decide) ?_
        refine aw_ic_le (tgt := 131) dX7_does_126 (by decide) (fun c_126 => ?_) (fun c_126 => ?_)
        · refine aw_aload0 dX7_does_131 ?_
          refine aw_getR dX7_does_132 fR_7_19 rfl (by decide) hM.trial ?_
          refine aw_iload5 dX7_does_135 ?_
          refine aw_SV2 (k_goHours _ 392 _ _ _ _ rfl (by decide) hw.nb hw.nb12 hw.nr hw.nr4 hw.who (by omega)) dX7_does_137 sl_7_94 (by decide) (Nat.le_of_ble_eq_true rfl) (fun σ_137 h_137 => ?_)
          obtain rfl := h_137
          refine aw_iconst (v := 1) dX7_does_140 (by decide) ?_
          exact aw_zret dX7_does_141 rfl (by decide) (by decide) (eD_1 (hf.trans (cI_t ⟨(nI_eq (b := 0) (by omega) (by omega)).mp  c_98, p_108, c_126⟩)))
        · refine aw_iconst (v := 0) dX7_does_129 (by decide) ?_
          exact aw_zret dX7_does_130 rfl (by decide) (by decide) (eD_0 (hf.trans (cI_f (fun h => by
            first
              | exact c_98 (by rw [h.1]; rfl)
              | exact p_108 h.2.1
              | exact c_126 h.2.2))))
      · refine aw_if_eq (tgt := 129) dX7_does_111 (by decide) (fun _ => ?_) (fun c_111 => absurd c_111 (by decide))
        refine aw_iconst (v := 0) dX7_does_129 (by decide) ?_
        exact aw_zret dX7_does_130 rfl (by decide) (by decide) (eD_0 (hf.trans (cI_f (fun h => by
          first
            | exact c_98 (by rw [h.1]; rfl)
            | exact p_108 h.2.1
            | exact c_126 h.2.2))))
  · have hf : fDoes e nr ng nb c = fDo e nr ng nb (c / 1000 % 10) (c / 100 % 10) (c % 100) (c / 100 % 100) (c % 1000) (c % 10000) 2 := by rw [fDoes, hd]
    refine aw_table (off := 95) (tgt := 142) dX7_does_47 (by rw [hd]; decide) (by rw [hd]; decide) (by rw [hd]; rfl) (by decide) ?_
    refine aw_iload3 dX7_does_142 ?_
    refine aw_if_ne (tgt := 172) dX7_does_143 (by decide) (fun c_143 => ?_) (fun c_143 => ?_)
    · refine aw_iconst (v := 0) dX7_does_172 (by decide) ?_
      exact aw_zret dX7_does_173 rfl (by decide) (by decide) (eD_0 (hf.trans (cI_f (fun h => by
        first
          | exact c_143 (by rw [h.1]; rfl)
          | exact absurd ((nI_ltI (a := 1) (by omega) (by omega)).mp c_149) (by have := h.2.1; omega)
          | exact p_166 h.2.2))))
    · refine aw_iload4 dX7_does_146 ?_
      refine aw_iconst (v := 1) dX7_does_148 (by decide) ?_
      refine aw_ic_gt (tgt := 172) dX7_does_149 (by decide) (fun c_149 => ?_) (fun c_149 => ?_)
      · refine aw_iconst (v := 0) dX7_does_172 (by decide) ?_
        exact aw_zret dX7_does_173 rfl (by decide) (by decide) (eD_0 (hf.trans (cI_f (fun h => by
          first
            | exact c_143 (by rw [h.1]; rfl)
            | exact absurd ((nI_ltI (a := 1) (by omega) (by omega)).mp c_149) (by have := h.2.1; omega)
            | exact p_166 h.2.2))))
      · refine AW.tern0 (E := (tV (c / 100 % 10) (c % 100))) (pc2 := 166) (fun x_166 hx_166 => ?_) (fun J_166 => ?_)
        · subst hx_166
          refine aw_SI1 (k_isOutside _ _) dX7_does_166 sl_7_196 (by decide) (Nat.le_of_ble_eq_true rfl) (fun σ_166 r_166 h_166 => ?_)
          obtain ⟨rfl, h_166⟩ := h_166
          rcases h_166 with ⟨rfl, p_166⟩ | ⟨rfl, p_166⟩
          · refine aw_if_ne (tgt := 174) dX7_does_169 (by decide) (fun _ => ?_) (fun c_169 => absurd c_169 (by decide))
            refine aw_aload0 dX7_does_174 ?_
            refine aw_getR dX7_does_175 fR_7_19 rfl (by decide) hM.trial ?_
            refine aw_iconst (v := 4) dX7_does_178 (by decide) ?_
            refine AW.tern0 (E := (tV (c / 100 % 10) (c % 100))) (pc2 := 193) (fun x_193 hx_193 => ?_) (fun J_193 => ?_)
            · subst hx_193
              refine aw_iast (j := 4) dX7_does_193 rfl (by decide) rfl (by decide) ?_
              refine AW.eqs sI_sA ?_
              refine aw_iconst (v := 1) dX7_does_194 (by decide) ?_
              exact aw_zret dX7_does_195 rfl (by decide) (by decide) (eD_1 (hf.trans (cI_t ⟨(nI_eq (b := 0) (by omega) (by omega)).mp  c_143, by have := mt (nI_ltI (a := 1) (by omega) (by omega)).mpr c_149; omega, p_166⟩)))
            · refine aw_iload4 dX7_does_179 ?_
              refine aw_iconst (v := 1) dX7_does_181 (by decide) ?_
              refine aw_ic_ne (tgt := 191) dX7_does_182 (by decide) (fun c_182 => ?_) (fun c_182 => ?_)
              · refine aw_iload5 dX7_does_191 ?_
                exact J_193 _ (by first | exact (if_pos ((nI_eq (b := 1) (by omega) (by omega)).mp c_182)).symm | exact (if_neg (fun h => c_182 (by rw [h]; rfl))).symm)
              · refine aw_iload5 dX7_does_185 ?_
                refine aw_ineg dX7_does_187 ?_
                refine aw_goto (tgt := 193) dX7_does_188 (by decide) ?_
                exact J_193 _ (by first | exact (if_pos ((nI_eq (b := 1) (by omega) (by omega)).mp c_182)).symm | exact (if_neg (fun h => c_182 (by rw [h]; rfl))).symm)
          · refine aw_if_ne (tgt := 174) dX7_does_169 (by decide) (fun c_169 => absurd c_169 (by decide)) (fun _ => ?_)
            refine aw_iconst (v := 0) dX7_does_172 (by decide) ?_
            exact aw_zret dX7_does_173 rfl (by decide) (by decide) (eD_0 (hf.trans (cI_f (fun h => by
              first
                | exact c_143 (by rw [h.1]; rfl)
                | exact absurd ((nI_ltI (a := 1) (by omega) (by omega)).mp c_149) (by have := h.2.1; omega)
                | exact p_166 h.2.2))))
        · refine aw_iload4 dX7_does_152 ?_
          refine aw_iconst (v := 1) dX7_does_154 (by decide) ?_
          refine aw_ic_ne (tgt := 164) dX7_does_155 (by decide) (fun c_155 => ?_) (fun c_155 => ?_)
          · refine aw_iload5 dX7_does_164 ?_
            exact J_166 _ (by first | exact (if_pos ((nI_eq (b := 1) (by omega) (by omega)).mp c_155)).symm | exact (if_neg (fun h => c_155 (by rw [h]; rfl))).symm)
          · refine aw_iload5 dX7_does_158 ?_
            refine aw_ineg dX7_does_160 ?_
            refine aw_goto (tgt := 166) dX7_does_161 (by decide) ?_
            exact J_166 _ (by first | exact (if_pos ((nI_eq (b := 1) (by omega) (by omega)).mp c_155)).symm | exact (if_neg (fun h => c_155 (by rw [h]; rfl))).symm)
  · have hf : fDoes e nr ng nb c = fDo e nr ng nb (c / 1000 % 10) (c / 100 % 10) (c % 100) (c / 100 % 100) (c % 1000) (c % 10000) 3 := by rw [fDoes, hd]
    refine aw_table (off := 149) (tgt := 196) dX7_does_47 (by rw [hd]; decide) (by rw [hd]; decide) (by rw [hd]; rfl) (by decide) ?_
    refine aw_iload3 dX7_does_196 ?_
    refine aw_aload0 dX7_does_197 ?_
    refine aw_getR dX7_does_198 fR_7_19 rfl (by decide) hM.trial ?_
    refine aw_iconst (v := 1) dX7_does_201 (by decide) ?_
    refine aw_iald (j := 1) dX7_does_202 rfl (by decide) rfl (by decide) (sA_at.trans hw.nr) ?_
    refine aw_ic_ge (tgt := 230) dX7_does_203 (by decide) (fun c_203 => ?_) (fun c_203 => ?_)
    · refine aw_iconst (v := 0) dX7_does_230 (by decide) ?_
      exact aw_zret dX7_does_231 rfl (by decide) (by decide) (eD_0 (hf.trans (by
        first
          | exact fDo3_n (oI_n (fun f hf => by have := fCur_lt hf; omega) c_227)
          | exact fDo3_f (fun h => by
              first
                | exact absurd ((nI_leI (by omega) (by omega)).mp c_203) (Nat.not_le.mpr h.1)
                | exact absurd ((nI_ltI (a := 1) (by omega) (by omega)).mp c_209) (by have := h.2.1; omega)
                | exact c_214 (by rw [h.2.2]; rfl)))))
    · refine aw_iload4 dX7_does_206 ?_
      refine aw_iconst (v := 1) dX7_does_208 (by decide) ?_
      refine aw_ic_gt (tgt := 230) dX7_does_209 (by decide) (fun c_209 => ?_) (fun c_209 => ?_)
      · refine aw_iconst (v := 0) dX7_does_230 (by decide) ?_
        exact aw_zret dX7_does_231 rfl (by decide) (by decide) (eD_0 (hf.trans (by
          first
            | exact fDo3_n (oI_n (fun f hf => by have := fCur_lt hf; omega) c_227)
            | exact fDo3_f (fun h => by
                first
                  | exact absurd ((nI_leI (by omega) (by omega)).mp c_203) (Nat.not_le.mpr h.1)
                  | exact absurd ((nI_ltI (a := 1) (by omega) (by omega)).mp c_209) (by have := h.2.1; omega)
                  | exact c_214 (by rw [h.2.2]; rfl)))))
      · refine aw_iload5 dX7_does_212 ?_
        refine aw_if_ne (tgt := 230) dX7_does_214 (by decide) (fun c_214 => ?_) (fun c_214 => ?_)
        · refine aw_iconst (v := 0) dX7_does_230 (by decide) ?_
          exact aw_zret dX7_does_231 rfl (by decide) (by decide) (eD_0 (hf.trans (by
            first
              | exact fDo3_n (oI_n (fun f hf => by have := fCur_lt hf; omega) c_227)
              | exact fDo3_f (fun h => by
                  first
                    | exact absurd ((nI_leI (by omega) (by omega)).mp c_203) (Nat.not_le.mpr h.1)
                    | exact absurd ((nI_ltI (a := 1) (by omega) (by omega)).mp c_209) (by have := h.2.1; omega)
                    | exact c_214 (by rw [h.2.2]; rfl)))))
        · refine aw_aload0 dX7_does_217 ?_
          refine aw_getR dX7_does_218 fR_7_19 rfl (by decide) hM.trial ?_
          refine aw_iload3 dX7_does_221 ?_
          refine aw_SI2 (k_currentOf _ 392 _ _ _ rfl (by decide) hw.nb hw.nb12) dX7_does_222 sl_7_67 (by decide) (Nat.le_of_ble_eq_true rfl) (fun σ_222 r_222 h_222 => ?_)
          obtain ⟨rfl, rfl⟩ := h_222
          refine aw_bipush (v := (-99)) dX7_does_225 (by decide) ?_
          refine aw_ic_ne (tgt := 232) dX7_does_227 (by decide) (fun c_227 => ?_) (fun c_227 => ?_)
          · obtain ⟨b, hb⟩ := oI_s c_227
            have hb12 := fCur_lt hb
            refine aw_aload0 dX7_does_232 ?_
            refine aw_getR dX7_does_233 fR_7_19 rfl (by decide) hM.trial ?_
            refine aw_aload0 dX7_does_236 ?_
            refine aw_getR dX7_does_237 fR_7_19 rfl (by decide) hM.trial ?_
            refine aw_iload3 dX7_does_240 ?_
            refine aw_SI2 (k_currentOf _ 392 _ _ _ rfl (by decide) hw.nb hw.nb12) dX7_does_241 sl_7_67 (by decide) (Nat.le_of_ble_eq_true rfl) (fun σ_241 r_241 h_241 => ?_)
            obtain ⟨rfl, rfl⟩ := h_241
            rw [hb]
            rw [show oI (some b) = nI b from rfl]
            refine aw_bipush (v := 7) dX7_does_244 (by decide) ?_
            refine aw_SI2 (k_bookAt _ _ 7) dX7_does_246 sl_7_49 (by decide) (Nat.le_of_ble_eq_true rfl) (fun σ_246 r_246 h_246 => ?_)
            obtain ⟨rfl, rfl⟩ := h_246
            refine aw_iload4 dX7_does_249 ?_
            refine aw_iast dX7_does_251 rfl (by decide) rfl (by omega) ?_
            refine AW.eqs sI_sA ?_
            refine aw_iconst (v := 1) dX7_does_252 (by decide) ?_
            exact aw_zret dX7_does_253 rfl (by decide) (by decide) (eD_1 (hf.trans ((fDo3_s hb).trans (cI_t ⟨by have := mt (nI_leI (by omega) (by omega)).mpr c_203; omega, by have := mt (nI_ltI (a := 1) (by omega) (by omega)).mpr c_209; omega, (nI_eq (b := 0) (by omega) (by omega)).mp  c_214⟩))))
          · refine aw_iconst (v := 0) dX7_does_230 (by decide) ?_
            exact aw_zret dX7_does_231 rfl (by decide) (by decide) (eD_0 (hf.trans (by
              first
                | exact fDo3_n (oI_n (fun f hf => by have := fCur_lt hf; omega) c_227)
                | exact fDo3_f (fun h => by
                    first
                      | exact absurd ((nI_leI (by omega) (by omega)).mp c_203) (Nat.not_le.mpr h.1)
                      | exact absurd ((nI_ltI (a := 1) (by omega) (by omega)).mp c_209) (by have := h.2.1; omega)
                      | exact c_214 (by rw [h.2.2]; rfl)))))
  · have hf : fDoes e nr ng nb c = fDo e nr ng nb (c / 1000 % 10) (c / 100 % 10) (c % 100) (c / 100 % 100) (c % 1000) (c % 10000) 4 := by rw [fDoes, hd]
    refine aw_table (off := 207) (tgt := 254) dX7_does_47 (by rw [hd]; decide) (by rw [hd]; decide) (by rw [hd]; rfl) (by decide) ?_
    refine aw_iload3 dX7_does_254 ?_
    refine aw_aload0 dX7_does_255 ?_
    refine aw_getR dX7_does_256 fR_7_19 rfl (by decide) hM.trial ?_
    refine aw_iconst (v := 2) dX7_does_259 (by decide) ?_
    refine aw_iald (j := 2) dX7_does_260 rfl (by decide) rfl (by decide) (sA_at.trans hw.ng) ?_
    refine aw_ic_ge (tgt := 269) dX7_does_261 (by decide) (fun c_261 => ?_) (fun c_261 => ?_)
    · refine aw_iconst (v := 0) dX7_does_269 (by decide) ?_
      exact aw_zret dX7_does_270 rfl (by decide) (by decide) (eD_0 (hf.trans (cI_f (fun h => by
        first
          | exact absurd ((nI_leI (by omega) (by omega)).mp c_261) (Nat.not_le.mpr h.1)
          | exact c_266 (by rw [h.2]; rfl)))))
    · refine aw_iload7 dX7_does_264 ?_
      refine aw_if_eq (tgt := 271) dX7_does_266 (by decide) (fun c_266 => ?_) (fun c_266 => ?_)
      · have hlt : c / 1000 % 10 < ng := by have := mt (nI_leI (by omega) (by omega)).mpr c_261; omega
        refine aw_aload0 dX7_does_271 ?_
        refine aw_getR dX7_does_272 fR_7_19 rfl (by decide) hM.trial ?_
        refine aw_bipush (v := 25) dX7_does_275 (by decide) ?_
        refine aw_iload3 dX7_does_277 ?_
        refine aw_iadd dX7_does_278 ?_
        refine aw_iconst (v := 0) dX7_does_279 (by decide) ?_
        refine aw_iast (j := 25 + c / 1000 % 10) dX7_does_280 rfl (by decide) (nI_add 25 _) (by omega) ?_
        refine AW.eqs sI_sA ?_
        refine aw_iconst (v := 1) dX7_does_281 (by decide) ?_
        exact aw_zret dX7_does_282 rfl (by decide) (by decide) (eD_1 (hf.trans (cI_t ⟨by have := mt (nI_leI (by omega) (by omega)).mpr c_261; omega, (nI_eq (b := 0) (by omega) (by omega)).mp  c_266⟩)))
      · refine aw_iconst (v := 0) dX7_does_269 (by decide) ?_
        exact aw_zret dX7_does_270 rfl (by decide) (by decide) (eD_0 (hf.trans (cI_f (fun h => by
          first
            | exact absurd ((nI_leI (by omega) (by omega)).mp c_261) (Nat.not_le.mpr h.1)
            | exact c_266 (by rw [h.2]; rfl)))))
  · have hf : fDoes e nr ng nb c = fDo e nr ng nb (c / 1000 % 10) (c / 100 % 10) (c % 100) (c / 100 % 100) (c % 1000) (c % 10000) 5 := by rw [fDoes, hd]
    refine aw_table (off := 236) (tgt := 283) dX7_does_47 (by rw [hd]; decide) (by rw [hd]; decide) (by rw [hd]; rfl) (by decide) ?_
    refine aw_iload6 dX7_does_283 ?_
    refine aw_aload0 dX7_does_285 ?_
    refine aw_getR dX7_does_286 fR_7_19 rfl (by decide) hM.trial ?_
    refine aw_iconst (v := 3) dX7_does_289 (by decide) ?_
    refine aw_iald (j := 3) dX7_does_290 rfl (by decide) rfl (by decide) (sA_at.trans hw.nb) ?_
    refine aw_ic_ge (tgt := 311) dX7_does_291 (by decide) (fun c_291 => ?_) (fun c_291 => ?_)
    · refine aw_iconst (v := 0) dX7_does_311 (by decide) ?_
      exact aw_zret dX7_does_312 rfl (by decide) (by decide) (eD_0 (hf.trans (cI_f (fun h => by
        first
          | exact absurd ((nI_leI (by omega) (by omega)).mp c_291) (Nat.not_le.mpr h.1)
          | exact c_296 (by rw [h.2.1]; rfl)
          | exact p_305 h.2.2))))
    · refine aw_iload5 dX7_does_294 ?_
      refine aw_if_ne (tgt := 311) dX7_does_296 (by decide) (fun c_296 => ?_) (fun c_296 => ?_)
      · refine aw_iconst (v := 0) dX7_does_311 (by decide) ?_
        exact aw_zret dX7_does_312 rfl (by decide) (by decide) (eD_0 (hf.trans (cI_f (fun h => by
          first
            | exact absurd ((nI_leI (by omega) (by omega)).mp c_291) (Nat.not_le.mpr h.1)
            | exact c_296 (by rw [h.2.1]; rfl)
            | exact p_305 h.2.2))))
      · have hlt : c / 100 % 100 < nb := by have := mt (nI_leI (by omega) (by omega)).mpr c_291; omega
        refine aw_aload0 dX7_does_299 ?_
        refine aw_getR dX7_does_300 fR_7_19 rfl (by decide) hM.trial ?_
        refine aw_iload6 dX7_does_303 ?_
        refine aw_SI2 (k_canCancel _ 392 _ (c / 100 % 100) rfl (by decide) (by omega)) dX7_does_305 sl_7_188 (by decide) (Nat.le_of_ble_eq_true rfl) (fun σ_305 r_305 h_305 => ?_)
        obtain ⟨rfl, h_305⟩ := h_305
        rcases h_305 with ⟨rfl, p_305⟩ | ⟨rfl, p_305⟩
        · refine aw_if_ne (tgt := 313) dX7_does_308 (by decide) (fun _ => ?_) (fun c_308 => absurd c_308 (by decide))
          refine aw_aload0 dX7_does_313 ?_
          refine aw_getR dX7_does_314 fR_7_19 rfl (by decide) hM.trial ?_
          refine aw_iload6 dX7_does_317 ?_
          refine aw_SV2 (k_drop _ 392 _ (c / 100 % 100) rfl (by decide) (by omega)) dX7_does_319 sl_7_191 (by decide) (Nat.le_of_ble_eq_true rfl) (fun σ_319 h_319 => ?_)
          obtain rfl := h_319
          refine aw_iconst (v := 1) dX7_does_322 (by decide) ?_
          exact aw_zret dX7_does_323 rfl (by decide) (by decide) (eD_1 (hf.trans (cI_t ⟨hlt, (nI_eq (b := 0) (by omega) (by omega)).mp  c_296, p_305⟩)))
        · refine aw_if_ne (tgt := 313) dX7_does_308 (by decide) (fun c_308 => absurd c_308 (by decide)) (fun _ => ?_)
          refine aw_iconst (v := 0) dX7_does_311 (by decide) ?_
          exact aw_zret dX7_does_312 rfl (by decide) (by decide) (eD_0 (hf.trans (cI_f (fun h => by
            first
              | exact absurd ((nI_leI (by omega) (by omega)).mp c_291) (Nat.not_le.mpr h.1)
              | exact c_296 (by rw [h.2.1]; rfl)
              | exact p_305 h.2.2))))
  · have hf : fDoes e nr ng nb c = fDo e nr ng nb (c / 1000 % 10) (c / 100 % 10) (c % 100) (c / 100 % 100) (c % 1000) (c % 10000) 6 := by rw [fDoes, hd]
    refine aw_table (off := 277) (tgt := 324) dX7_does_47 (by rw [hd]; decide) (by rw [hd]; decide) (by rw [hd]; rfl) (by decide) ?_
    refine aw_iload3 dX7_does_324 ?_
    refine aw_aload0 dX7_does_325 ?_
    refine aw_getR dX7_does_326 fR_7_19 rfl (by decide) hM.trial ?_
    refine aw_iconst (v := 1) dX7_does_329 (by decide) ?_
    refine aw_iald (j := 1) dX7_does_330 rfl (by decide) rfl (by decide) (sA_at.trans hw.nr) ?_
    refine aw_ic_ge (tgt := 358) dX7_does_331 (by decide) (fun c_331 => ?_) (fun c_331 => ?_)
    · refine aw_iconst (v := 0) dX7_does_358 (by decide) ?_
      exact aw_zret dX7_does_359 rfl (by decide) (by decide) (eD_0 (hf.trans (cI_f (fun h => by
        first
          | exact absurd ((nI_leI (by omega) (by omega)).mp c_331) (Nat.not_le.mpr h.1)
          | exact c_336 (by rw [h.2.1]; rfl)
          | exact Int32.not_lt.mpr h.2.2 c_351))))
    · refine aw_iload4 dX7_does_334 ?_
      refine aw_if_ne (tgt := 358) dX7_does_336 (by decide) (fun c_336 => ?_) (fun c_336 => ?_)
      · refine aw_iconst (v := 0) dX7_does_358 (by decide) ?_
        exact aw_zret dX7_does_359 rfl (by decide) (by decide) (eD_0 (hf.trans (cI_f (fun h => by
          first
            | exact absurd ((nI_leI (by omega) (by omega)).mp c_331) (Nat.not_le.mpr h.1)
            | exact c_336 (by rw [h.2.1]; rfl)
            | exact Int32.not_lt.mpr h.2.2 c_351))))
      · have hlt : c / 1000 % 10 < nr := by have := mt (nI_leI (by omega) (by omega)).mpr c_331; omega
        refine aw_aload0 dX7_does_339 ?_
        refine aw_getR dX7_does_340 fR_7_19 rfl (by decide) hM.trial ?_
        refine aw_iload3 dX7_does_343 ?_
        refine aw_iconst (v := 3) dX7_does_344 (by decide) ?_
        refine aw_SI2 (k_roomAt _ _ 3) dX7_does_345 sl_7_61 (by decide) (Nat.le_of_ble_eq_true rfl) (fun σ_345 r_345 h_345 => ?_)
        obtain ⟨rfl, rfl⟩ := h_345
        refine aw_iald dX7_does_348 rfl (by decide) rfl (by omega) sA_at ?_
        refine aw_iload5 dX7_does_349 ?_
        refine aw_ic_lt (tgt := 358) dX7_does_351 (by decide) (fun c_351 => ?_) (fun c_351 => ?_)
        · refine aw_iconst (v := 0) dX7_does_358 (by decide) ?_
          exact aw_zret dX7_does_359 rfl (by decide) (by decide) (eD_0 (hf.trans (cI_f (fun h => by
            first
              | exact absurd ((nI_leI (by omega) (by omega)).mp c_331) (Nat.not_le.mpr h.1)
              | exact c_336 (by rw [h.2.1]; rfl)
              | exact Int32.not_lt.mpr h.2.2 c_351))))
        · refine aw_iconst (v := 1) dX7_does_354 (by decide) ?_
          refine aw_goto (tgt := 359) dX7_does_355 (by decide) ?_
          exact aw_zret dX7_does_359 rfl (by decide) (by decide) (eD_1 (hf.trans (cI_t ⟨hlt, (nI_eq (b := 0) (by omega) (by omega)).mp  c_336, Int32.not_lt.mp c_351⟩)))
  · have hf : fDoes e nr ng nb c = fDo e nr ng nb (c / 1000 % 10) (c / 100 % 10) (c % 100) (c / 100 % 100) (c % 1000) (c % 10000) 7 := by rw [fDoes, hd]
    refine aw_table (off := 313) (tgt := 360) dX7_does_47 (by rw [hd]; decide) (by rw [hd]; decide) (by rw [hd]; rfl) (by decide) ?_
    refine aw_iload3 dX7_does_360 ?_
    refine aw_aload0 dX7_does_361 ?_
    refine aw_getR dX7_does_362 fR_7_19 rfl (by decide) hM.trial ?_
    refine aw_iconst (v := 2) dX7_does_365 (by decide) ?_
    refine aw_iald (j := 2) dX7_does_366 rfl (by decide) rfl (by decide) (sA_at.trans hw.ng) ?_
    refine aw_ic_ge (tgt := 388) dX7_does_367 (by decide) (fun c_367 => ?_) (fun c_367 => ?_)
    · refine aw_iconst (v := 0) dX7_does_388 (by decide) ?_
      exact aw_zret dX7_does_389 rfl (by decide) (by decide) (eD_0 (hf.trans (cI_f (fun h => by
        first
          | exact absurd ((nI_leI (by omega) (by omega)).mp c_367) (Nat.not_le.mpr h.1)
          | exact Int32.not_lt.mpr h.2 c_381))))
    · have hlt : c / 1000 % 10 < ng := by have := mt (nI_leI (by omega) (by omega)).mpr c_367; omega
      refine aw_aload0 dX7_does_370 ?_
      refine aw_getR dX7_does_371 fR_7_19 rfl (by decide) hM.trial ?_
      refine aw_bipush (v := 25) dX7_does_374 (by decide) ?_
      refine aw_iload3 dX7_does_376 ?_
      refine aw_iadd dX7_does_377 ?_
      refine aw_iald (j := 25 + c / 1000 % 10) dX7_does_378 rfl (by decide) (nI_add 25 _) (by omega) sA_at ?_
      refine aw_iload7 dX7_does_379 ?_
      refine aw_ic_gt (tgt := 388) dX7_does_381 (by decide) (fun c_381 => ?_) (fun c_381 => ?_)
      · refine aw_iconst (v := 0) dX7_does_388 (by decide) ?_
        exact aw_zret dX7_does_389 rfl (by decide) (by decide) (eD_0 (hf.trans (cI_f (fun h => by
          first
            | exact absurd ((nI_leI (by omega) (by omega)).mp c_367) (Nat.not_le.mpr h.1)
            | exact Int32.not_lt.mpr h.2 c_381))))
      · refine aw_iconst (v := 1) dX7_does_384 (by decide) ?_
        refine aw_goto (tgt := 389) dX7_does_385 (by decide) ?_
        exact aw_zret dX7_does_389 rfl (by decide) (by decide) (eD_1 (hf.trans (cI_t ⟨hlt, Int32.not_lt.mp c_381⟩)))
  · have hf : fDoes e nr ng nb c = fDo e nr ng nb (c / 1000 % 10) (c / 100 % 10) (c % 100) (c / 100 % 100) (c % 1000) (c % 10000) 8 := by rw [fDoes, hd]
    refine aw_table (off := 343) (tgt := 390) dX7_does_47 (by rw [hd]; decide) (by rw [hd]; decide) (by rw [hd]; rfl) (by decide) ?_
    refine aw_iload6 dX7_does_390 ?_
    refine aw_aload0 dX7_does_392 ?_
    refine aw_getR dX7_does_393 fR_7_19 rfl (by decide) hM.trial ?_
    refine aw_iconst (v := 3) dX7_does_396 (by decide) ?_
    refine aw_iald (j := 3) dX7_does_397 rfl (by decide) rfl (by decide) (sA_at.trans hw.nb) ?_
    refine aw_ic_ge (tgt := 434) dX7_does_398 (by decide) (fun c_398 => ?_) (fun c_398 => ?_)
    · refine aw_iconst (v := 0) dX7_does_434 (by decide) ?_
      exact aw_zret dX7_does_435 rfl (by decide) (by decide) (eD_0 (hf.trans (cI_f (fun h => by
        first
          | exact absurd ((nI_leI (by omega) (by omega)).mp c_398) (Nat.not_le.mpr h.1)
          | exact absurd ((nI_leI (a := 2) (by omega) (by omega)).mp c_404) (Nat.not_le.mpr h.2.1)
          | exact c_419 (by rw [h.2.2.mp p_413]; rfl)
          | exact p_413 (h.2.2.mpr ((nI_eq (b := 1) (by omega) (by omega)).mp  c_419))))))
    · refine aw_iload5 dX7_does_401 ?_
      refine aw_iconst (v := 2) dX7_does_403 (by decide) ?_
      refine aw_ic_ge (tgt := 434) dX7_does_404 (by decide) (fun c_404 => ?_) (fun c_404 => ?_)
      · refine aw_iconst (v := 0) dX7_does_434 (by decide) ?_
        exact aw_zret dX7_does_435 rfl (by decide) (by decide) (eD_0 (hf.trans (cI_f (fun h => by
          first
            | exact absurd ((nI_leI (by omega) (by omega)).mp c_398) (Nat.not_le.mpr h.1)
            | exact absurd ((nI_leI (a := 2) (by omega) (by omega)).mp c_404) (Nat.not_le.mpr h.2.1)
            | exact c_419 (by rw [h.2.2.mp p_413]; rfl)
            | exact p_413 (h.2.2.mpr ((nI_eq (b := 1) (by omega) (by omega)).mp  c_419))))))
      · have hlt : c / 100 % 100 < nb := by have := mt (nI_leI (by omega) (by omega)).mpr c_398; omega
        have h45 : c % 100 < 2 := by have := mt (nI_leI (a := 2) (by omega) (by omega)).mpr c_404; omega
        refine aw_aload0 dX7_does_407 ?_
        refine aw_getR dX7_does_408 fR_7_19 rfl (by decide) hM.trial ?_
        refine aw_iload6 dX7_does_411 ?_
        refine aw_SI2 (k_isOver _ 392 _ (c / 100 % 100) rfl (by decide) (by omega)) dX7_does_413 sl_7_57 (by decide) (Nat.le_of_ble_eq_true rfl) (fun σ_413 r_413 h_413 => ?_)
        obtain ⟨rfl, h_413⟩ := h_413
        rcases h_413 with ⟨rfl, p_413⟩ | ⟨rfl, p_413⟩
        · refine aw_iload5 dX7_does_416 ?_
          refine aw_iconst (v := 1) dX7_does_418 (by decide) ?_
          refine aw_ic_ne (tgt := 426) dX7_does_419 (by decide) (fun c_419 => ?_) (fun c_419 => ?_)
          · refine aw_iconst (v := 0) dX7_does_426 (by decide) ?_
            refine aw_ic_ne (tgt := 434) dX7_does_427 (by decide) (fun _ => ?_) (fun c_427 => absurd c_427 (by decide))
            refine aw_iconst (v := 0) dX7_does_434 (by decide) ?_
            exact aw_zret dX7_does_435 rfl (by decide) (by decide) (eD_0 (hf.trans (cI_f (fun h => by
              first
                | exact absurd ((nI_leI (by omega) (by omega)).mp c_398) (Nat.not_le.mpr h.1)
                | exact absurd ((nI_leI (a := 2) (by omega) (by omega)).mp c_404) (Nat.not_le.mpr h.2.1)
                | exact c_419 (by rw [h.2.2.mp p_413]; rfl)
                | exact p_413 (h.2.2.mpr ((nI_eq (b := 1) (by omega) (by omega)).mp  c_419))))))
          · refine aw_iconst (v := 1) dX7_does_422 (by decide) ?_
            refine aw_goto (tgt := 427) dX7_does_423 (by decide) ?_
            refine aw_ic_ne (tgt := 434) dX7_does_427 (by decide) (fun c_427 => absurd c_427 (by decide)) (fun _ => ?_)
            refine aw_iconst (v := 1) dX7_does_430 (by decide) ?_
            refine aw_goto (tgt := 435) dX7_does_431 (by decide) ?_
            exact aw_zret dX7_does_435 rfl (by decide) (by decide) (eD_1 (hf.trans (cI_t ⟨hlt, h45, by first | exact ⟨fun _ => (nI_eq (b := 1) (by omega) (by omega)).mp  c_419, fun _ => p_413⟩ | exact ⟨fun h => absurd h p_413, fun h => absurd (by rw [h]; rfl) c_419⟩⟩)))
        · refine aw_iload5 dX7_does_416 ?_
          refine aw_iconst (v := 1) dX7_does_418 (by decide) ?_
          refine aw_ic_ne (tgt := 426) dX7_does_419 (by decide) (fun c_419 => ?_) (fun c_419 => ?_)
          · refine aw_iconst (v := 0) dX7_does_426 (by decide) ?_
            refine aw_ic_ne (tgt := 434) dX7_does_427 (by decide) (fun c_427 => absurd c_427 (by decide)) (fun _ => ?_)
            refine aw_iconst (v := 1) dX7_does_430 (by decide) ?_
            refine aw_goto (tgt := 435) dX7_does_431 (by decide) ?_
            exact aw_zret dX7_does_435 rfl (by decide) (by decide) (eD_1 (hf.trans (cI_t ⟨hlt, h45, by first | exact ⟨fun _ => (nI_eq (b := 1) (by omega) (by omega)).mp  c_419, fun _ => p_413⟩ | exact ⟨fun h => absurd h p_413, fun h => absurd (by rw [h]; rfl) c_419⟩⟩)))
          · refine aw_iconst (v := 1) dX7_does_422 (by decide) ?_
            refine aw_goto (tgt := 427) dX7_does_423 (by decide) ?_
            refine aw_ic_ne (tgt := 434) dX7_does_427 (by decide) (fun _ => ?_) (fun c_427 => absurd c_427 (by decide))
            refine aw_iconst (v := 0) dX7_does_434 (by decide) ?_
            exact aw_zret dX7_does_435 rfl (by decide) (by decide) (eD_0 (hf.trans (cI_f (fun h => by
              first
                | exact absurd ((nI_leI (by omega) (by omega)).mp c_398) (Nat.not_le.mpr h.1)
                | exact absurd ((nI_leI (a := 2) (by omega) (by omega)).mp c_404) (Nat.not_le.mpr h.2.1)
                | exact c_419 (by rw [h.2.2.mp p_413]; rfl)
                | exact p_413 (h.2.2.mpr ((nI_eq (b := 1) (by omega) (by omega)).mp  c_419))))))
  · have hf : fDoes e nr ng nb c = fDo e nr ng nb (c / 1000 % 10) (c / 100 % 10) (c % 100) (c / 100 % 100) (c % 1000) (c % 10000) 9 := by rw [fDoes, hd]
    refine aw_table (off := 389) (tgt := 436) dX7_does_47 (by rw [hd]; decide) (by rw [hd]; decide) (by rw [hd]; rfl) (by decide) ?_
    refine aw_aload0 dX7_does_436 ?_
    refine aw_getR dX7_does_437 fR_7_19 rfl (by decide) hM.trial ?_
    refine aw_iconst (v := 5) dX7_does_440 (by decide) ?_
    refine aw_iald (j := 5) dX7_does_441 rfl (by decide) rfl (by decide) sA_at ?_
    refine aw_iload1 dX7_does_442 ?_
    refine aw_sipush (v := 10000) dX7_does_443 (by decide) ?_
    refine aw_irem dX7_does_446 (by decide) ?_
    rw [show nI c - nI c / 10000 * 10000 = nI (c % 10000) from pk_rem (d := 10000) (by omega) (by decide) (by decide)]
    refine aw_ic_lt (tgt := 454) dX7_does_447 (by decide) (fun c_447 => ?_) (fun c_447 => ?_)
    · refine aw_iconst (v := 0) dX7_does_454 (by decide) ?_
      exact aw_zret dX7_does_455 rfl (by decide) (by decide) (eD_0 (hf.trans (cI_f (fun h => by
        first
          | exact Int32.not_lt.mpr h c_447))))
    · refine aw_iconst (v := 1) dX7_does_450 (by decide) ?_
      refine aw_goto (tgt := 455) dX7_does_451 (by decide) ?_
      exact aw_zret dX7_does_455 rfl (by decide) (by decide) (eD_1 (hf.trans (cI_t (Int32.not_lt.mp c_447))))
