/-! the law: its start and its loop -/
abbrev LT (tb : List (Nat × Nat × Nat × Nat)) (nm : String) : MT := (7, some .boolean, tb, nm)
theorem NH.fr {σ τ : Sg} {h : Nat} (x : NH σ h) (f : ∀ i j, i < 388 → τ.1 i j = σ.1 i j ∧ τ.2.1 i j = σ.2.1 i j) (hh : h + 20 ≤ 388) : NH τ h :=
  ⟨⟨(f _ _ (by omega)).2.trans x.1.1, (f _ _ (by omega)).2.trans x.1.2.1, (f _ _ (by omega)).2.trans x.1.2.2.1, fun r hr => (f _ _ (by omega)).2.trans (x.1.2.2.2 r hr)⟩, fun j hj => (f _ _ (by omega)).2.trans (x.2.1 j hj), fun i j h1 h2 => (f _ _ (by omega)).1.trans (x.2.2 i j h1 h2)⟩
theorem NH.bb {τ : Sg} {h : Nat} (x : NH τ h) : BB τ h := ⟨id, ⟨fun _ h => h, fun _ _ _ _ h => h⟩, x.2.1⟩
theorem NH.sa {τ : Sg} {h : Nat} (x : NH τ h) (ht : HT h) : SA τ h (fClean (fun _ => 0)) := by
  refine ⟨id, 0, 0, 0, 0, by decide, ⟨ht, x.1, ⟨fun _ h => h, fun _ _ _ _ h => h⟩⟩, ⟨fun j hj => ?_, fun _ h => absurd h (Nat.not_lt_zero _), fun _ _ h => absurd h (Nat.not_lt_zero _), fun _ _ h => absurd h (Nat.not_lt_zero _), x.2.1⟩, WF.clean, fun _ h => absurd h (Nat.not_lt_zero _)⟩
  rw [x.2.2 h j (Nat.le_refl _) (by omega)]
  unfold isI at hj
  by_cases q : j = 1
  · subst q
    rw [if_pos ⟨rfl, rfl⟩]
    rfl
  · rw [if_neg (fun z => q z.2)]
    have h4 : hx j ≠ 4 := by
      unfold hx
      (repeat' split) <;> omega
    have h9 := hx_lt (j := j)
    rw [fClean, if_neg h4, if_pos (by omega)]
/-- what a new object stands for -/
abbrev s00 : AS := (fClean g00, 0, g00, 0, fun _ _ => 0, fun _ => false, fun _ _ => 0)
theorem init_CI {σ : Sg} (h : I7 σ) : CI σ s00 := by
  obtain ⟨⟨⟨a0, a1, a2, a3, a4, a5, a6, a7⟩, ⟨b0, b1, b2⟩, c, ⟨d0, d1, d2, d3⟩, e, g, k⟩, ⟨s0, s1⟩, n0, n1⟩ := h
  have hl : ∀ h, HL h → NH σ h := fun h hh => by
    rcases hh with rfl | rfl | rfl | rfl | rfl | ⟨q, hq, rfl⟩
    · exact c
    · exact g
    · exact k
    · exact n0
    · exact n1
    · exact d3 q hq
  refine ⟨⟨⟨⟨a0, a1, a2, a3, a4, a5, a6, a7⟩, b0, ⟨d0, fun q hq => d2 q hq⟩, fun s hs => ?_, fun h hh => (hl h hh).1⟩, fun h hh => (hl h hh).bb, ⟨b1 1, by decide, funext fun j => b2 j⟩, ⟨0, by decide, by decide, d1 1, d1 2, fun i hi => absurd hi (Nat.not_lt_zero _)⟩, fun s hs => ⟨e s, fun q => absurd q Bool.false_ne_true⟩⟩, (hl 3 (Or.inl rfl)).sa HT_3⟩
  rcases (show s = 0 ∨ s = 1 by omega) with rfl | rfl
  · exact s0
  · exact s1
theorem IS.s00 : IS s00 := ⟨GW.of WK.clean (by omega), fun i hi => absurd hi (Nat.not_lt_zero _), fun _ _ hb => (by cases hb), Nat.zero_le _⟩
theorem IS.fo {s : AS} (h : IS s) : IS (foS s) := by
  refine ⟨h.1, fun i hi => absurd hi (Nat.not_lt_zero _), fun i hi hb => ?_, Nat.zero_le _⟩
  show GW (savS (stS s) 1 (stG s) i)
  have hb' : savB (stB s) 1 i = true := hb
  unfold savB at hb'
  unfold savS
  by_cases q : i = 1
  · rw [if_pos q]; exact h.1
  · rw [if_neg q] at hb' ⊢; exact h.2.2.1 i hi hb'
theorem IS_told (s : AS) {x y : Int} (hx : 0 ≤ x) (hy : 0 ≤ y) : IS (aLoad (told s x y)) := by
  obtain ⟨g, e, hW⟩ := told_read s hx hy
  have hc : cLoad (told s x y) = 0 := by
    unfold cLoad
    rw [e]
    exact (cd1_0 rfl).symm
  unfold aLoad
  rw [if_pos hc, e]
  exact ⟨GW.of hW (by omega), fun i hi => absurd hi (Nat.not_lt_zero _), fun _ _ hb => (by cases hb), Nat.zero_le _⟩
def fuel (k : Nat) : Nat := 5600 + 18880 * (12 - (k + 5) / 6) + 32016 * (6 - k / 12) + 48 * (72 - k)
theorem fuel_1 : ∀ k, k < 72 → (k % 36 = 0 ∧ 1520 + fuel (k + 1) ≤ fuel k) ∨ (¬ k % 36 = 0 ∧ k % 6 = 0 ∧ 18928 + fuel (k + 1) ≤ fuel k) ∨ (¬ k % 36 = 0 ∧ ¬ k % 6 = 0 ∧ k % 12 = 11 ∧ 32064 + fuel (k + 1) ≤ fuel k) ∨ (¬ k % 36 = 0 ∧ ¬ k % 6 = 0 ∧ ¬ k % 12 = 11 ∧ 48 + fuel (k + 1) ≤ fuel k) := by decide +kernel
set_option maxHeartbeats 16000000 in
theorem law_loop {K : KT} {b L : Nat} {xs : Nat → Int32} (hS : SC K b L xs) (hL : L ≤ 3072) (tb : List (Nat × Nat × Nat × Nat)) (nm : String) (Q : State → Prop) (fin : ∀ σ ls, AW K RL cL_law (LT tb nm) 13 600086 7301442 Q 776 (some 0) σ 600086 7301442 296 ls [.int 1]) : ∀ (f k : Nat) (h1 : k ≤ 72) (h2 : 72 - k < f) (s : AS) (σ τ : Sg) (hI : IS s) (hp : CI σ s) (hq : CI τ s) (x5 x6 : Option Value) (cells slots : Nat) (hb : cells + fuel k ≤ 600086) (hs : slots + 6 * fuel k ≤ 7301442), AW K RL cL_law (LT tb nm) 13 600086 7301442 Q 776 (some 0) (cmb σ τ) cells slots 52 [some (.retAddr b), some (.ref 0), some (.ref 388), some (.int (iI (1))), some (.int (iI (k : Int))), x5, x6] [] := by
  intro f
  induction f with
  | zero => intro k h1 h2; exact absurd h2 (Nat.not_lt_zero _)
  | succ f ih =>
    intro k h1 h2 s σ τ hI hp hq x5 x6 cells slots hb hs
    by_cases hk : k = 72
    · have fz : fuel k = 5600 := by rw [hk]; decide
      refine aw_iload4 dL_law_52 ?_
      refine aw_bipush (v := iI (72)) dL_law_54 (by decide) ?_
      refine ai_ic_ge (tgt := 277) dL_law_56 (by decide) (by omega) (by omega) (by omega) (by omega) (fun c_56 => ?_) (fun c_56 => absurd c_56 (by omega))
      refine aw_iload3 dL_law_277 ?_
      refine ai_if_eq (tgt := 295) dL_law_278 (by decide) (by omega) (by omega) (fun c_278 => absurd c_278 (by decide)) (fun _ => ?_)
      refine aw_aload1 dL_law_281 ?_
      refine aw_aload2 dL_law_282 ?_
      refine aw_ldc (v := iI (83003)) dL_law_283 ((show (83003 : Int32) = iI 83003 by decide) ▸ ki_L_232) ?_
      refine ac_S (As := [.ref 0, .ref 388, .int (iI (83003))]) (k_alike hp hq hI.1 (by decide) (by decide)) dL_law_285 sl_L_209 (by decide) (Nat.le_of_ble_eq_true rfl) hb hs (B2 := 605686) (B2' := 7335042) rfl rfl (by omega) (by omega) (fun τ_285 r_285 c_ s_ h_285 hb_ hs_ => ?_)
      replace hb := hb_
      replace hs := hs_
      clear hb_ hs_
      obtain ⟨v_285, rfl, ⟨σ_285, τ1_285, rfl, i_285, j_285⟩, e_285⟩ := h_285
      obtain rfl : (iI (1)) = v_285 := e_285
      refine ai_if_eq (tgt := 295) dL_law_288 (by decide) (by omega) (by omega) (fun c_288 => absurd c_288 (by decide)) (fun _ => ?_)
      refine aw_iconst (v := iI (1)) dL_law_291 rfl ?_
      refine aw_goto (tgt := 296) dL_law_292 (by decide) ?_
      rw [show iI (1) = (1 : Int32) by decide]
      exact AW.widen (k1 := 600086) (k2 := 7301442) (by omega) (by omega) (fin _ _)
    · rcases fuel_1 k (by omega) with ⟨q1, hF⟩ | ⟨q1, q2, hF⟩ | ⟨q1, q2, q3, hF⟩ | ⟨q1, q2, q3, hF⟩
      · refine aw_iload4 dL_law_52 ?_
        refine aw_bipush (v := iI (72)) dL_law_54 (by decide) ?_
        refine ai_ic_ge (tgt := 277) dL_law_56 (by decide) (by omega) (by omega) (by omega) (by omega) (fun c_56 => absurd c_56 (by omega)) (fun c_56 => ?_)
        refine aw_iload3 dL_law_59 ?_
        refine ai_if_eq (tgt := 277) dL_law_60 (by decide) (by omega) (by omega) (fun c_60 => absurd c_60 (by decide)) (fun _ => ?_)
        refine aw_aload0E dL_law_63 ?_
        refine aw_iconst (v := iI (2)) dL_law_64 rfl ?_
        refine aw_iload4 dL_law_65 ?_
        refine ai_imul dL_law_67 ?_
        refine aw_callSX (As := [.retAddr b, .int (iI ((2 * (k : Int))))]) hS (k_draw b L xs hL _ (i := (2 * (k : Int))) (by omega) (by omega)) dL_law_68 sl_L_205 (Rm1 ⟨by decide, by decide, by omega, by omega⟩) (Nat.le_of_ble_eq_true rfl) (fun τ_68 r_68 h_68 => ?_)
        obtain ⟨v_68, rfl, rfl, X, hX0, hX1, rfl⟩ := h_68
        refine aw_istore5 dL_law_71 (Nat.le_of_ble_eq_true rfl) rfl ?_
        refine aw_aload0E dL_law_73 ?_
        refine aw_iconst (v := iI (2)) dL_law_74 rfl ?_
        refine aw_iload4 dL_law_75 ?_
        refine ai_imul dL_law_77 ?_
        refine aw_iconst (v := iI (1)) dL_law_78 rfl ?_
        refine ai_iadd dL_law_79 ?_
        refine aw_callSX (As := [.retAddr b, .int (iI (((2 * (k : Int)) + 1)))]) hS (k_draw b L xs hL _ (i := ((2 * (k : Int)) + 1)) (by omega) (by omega)) dL_law_80 sl_L_205 (Rm1 ⟨by decide, by decide, by omega, by omega⟩) (Nat.le_of_ble_eq_true rfl) (fun τ_80 r_80 h_80 => ?_)
        obtain ⟨v_80, rfl, rfl, Y, hY0, hY1, rfl⟩ := h_80
        refine aw_istore6 dL_law_83 (Nat.le_of_ble_eq_true rfl) rfl ?_
        refine aw_iload4 dL_law_85 ?_
        refine aw_bipush (v := iI (36)) dL_law_87 (by decide) ?_
        refine ai_irem dL_law_89 (by omega) (by omega) (by omega) (by omega) ?_
        refine ai_if_ne (tgt := 136) dL_law_90 (by decide) (by omega) (by omega) (fun c_90 => absurd c_90 (by omega)) (fun c_90 => ?_)
        refine aw_aload1 dL_law_93 ?_
        refine aw_iload5 dL_law_94 ?_
        refine aw_iload6 dL_law_96 ?_
        refine ac_S (As := [.ref 0, .int (iI (X)), .int (iI (Y))]) ((k_tells hp hX0 hX1 hY0 hY1).lo1 τ) dL_law_98 sl_L_220 (by decide) (Nat.le_of_ble_eq_true rfl) hb hs (B2 := 600838) (B2' := 7305954) rfl rfl (by omega) (by omega) (fun τ_98 r_98 c_ s_ h_98 hb_ hs_ => ?_)
        replace hb := hb_
        replace hs := hs_
        clear hb_ hs_
        obtain ⟨σ_98, rfl, v_98, rfl, i_98, e_98⟩ := h_98
        obtain rfl : (iI (1)) = v_98 := e_98
        refine ai_if_eq (tgt := 131) dL_law_101 (by decide) (by omega) (by omega) (fun c_101 => absurd c_101 (by decide)) (fun _ => ?_)
        refine aw_aload2 dL_law_104 ?_
        refine aw_iload5 dL_law_105 ?_
        refine aw_iload6 dL_law_107 ?_
        refine ac_S (As := [.ref 388, .int (iI (X)), .int (iI (Y))]) ((k_tells hq hX0 hX1 hY0 hY1).hi1 (fun a0 => rfl) hrI σ_98) dL_law_109 sl_L_220 (by decide) (Nat.le_of_ble_eq_true rfl) hb hs (B2 := 601590) (B2' := 7310466) rfl rfl (by omega) (by omega) (fun τ_109 r_109 c_ s_ h_109 hb_ hs_ => ?_)
        replace hb := hb_
        replace hs := hs_
        clear hb_ hs_
        obtain ⟨σ_109, rfl, v_109, rfl, i_109, e_109⟩ := h_109
        obtain rfl : (iI (1)) = v_109 := e_109
        refine ai_if_eq (tgt := 131) dL_law_112 (by decide) (by omega) (by omega) (fun c_112 => absurd c_112 (by decide)) (fun _ => ?_)
        have hS1 := IS_told s hX0 hY0
        refine aw_aload1 dL_law_115 ?_
        refine ac_SH (As := [.ref 0]) ((qL_load i_98).lo1 σ_109) dL_law_116 sl_L_224 (by decide) (Nat.le_of_ble_eq_true rfl) hb hs (B2 := 601598) (B2' := 7310514) rfl rfl (by omega) (by omega) (fun τ_116 r_116 c_ s_ h_116 hb_ hs_ => ?_)
        replace hb := hb_
        replace hs := hs_
        clear hb_ hs_
        obtain ⟨σ_116, rfl, v_116, rfl, i_116, e_116⟩ := h_116
        obtain rfl : (vLoad (told s X Y)) = v_116 := e_116
        refine aw_aload2 dL_law_119 ?_
        refine ac_SH (As := [.ref 388]) ((qL_load i_109).hi1 (fun a0 => rfl) hrL σ_116) dL_law_120 sl_L_224 (by decide) (Nat.le_of_ble_eq_true rfl) hb hs (B2 := 601606) (B2' := 7310562) rfl rfl (by omega) (by omega) (fun τ_120 r_120 c_ s_ h_120 hb_ hs_ => ?_)
        replace hb := hb_
        replace hs := hs_
        clear hb_ hs_
        obtain ⟨σ_120, rfl, v_120, rfl, i_120, e_120⟩ := h_120
        obtain rfl : (vLoad (told s X Y)) = v_120 := e_120
        refine al_if_ne (tgt := 131) dL_law_123 dL_law_124 (by decide) (fun c_123 => absurd rfl c_123) (fun _ => ?_)
        refine aw_iconst (v := iI (1)) dL_law_127 rfl ?_
        refine aw_goto (tgt := 132) dL_law_128 (by decide) ?_
        refine aw_istore3 dL_law_132 (Nat.le_of_ble_eq_true rfl) rfl ?_
        refine aw_goto (tgt := 271) dL_law_133 (by decide) ?_
        refine aw_iinc4 (w := (iI (((k + 1 : Nat) : Int)))) dL_law_271 (iinc_N rfl) (Nat.le_of_ble_eq_true rfl) rfl ?_
        refine aw_goto (tgt := 52) dL_law_274 (by decide) ?_
        exact ih (k + 1) (by omega) (by omega) _ _ _ hS1 i_116 i_120 _ _ _ _ (by omega) (by omega)
      · refine aw_iload4 dL_law_52 ?_
        refine aw_bipush (v := iI (72)) dL_law_54 (by decide) ?_
        refine ai_ic_ge (tgt := 277) dL_law_56 (by decide) (by omega) (by omega) (by omega) (by omega) (fun c_56 => absurd c_56 (by omega)) (fun c_56 => ?_)
        refine aw_iload3 dL_law_59 ?_
        refine ai_if_eq (tgt := 277) dL_law_60 (by decide) (by omega) (by omega) (fun c_60 => absurd c_60 (by decide)) (fun _ => ?_)
        refine aw_aload0E dL_law_63 ?_
        refine aw_iconst (v := iI (2)) dL_law_64 rfl ?_
        refine aw_iload4 dL_law_65 ?_
        refine ai_imul dL_law_67 ?_
        refine aw_callSX (As := [.retAddr b, .int (iI ((2 * (k : Int))))]) hS (k_draw b L xs hL _ (i := (2 * (k : Int))) (by omega) (by omega)) dL_law_68 sl_L_205 (Rm1 ⟨by decide, by decide, by omega, by omega⟩) (Nat.le_of_ble_eq_true rfl) (fun τ_68 r_68 h_68 => ?_)
        obtain ⟨v_68, rfl, rfl, X, hX0, hX1, rfl⟩ := h_68
        refine aw_istore5 dL_law_71 (Nat.le_of_ble_eq_true rfl) rfl ?_
        refine aw_aload0E dL_law_73 ?_
        refine aw_iconst (v := iI (2)) dL_law_74 rfl ?_
        refine aw_iload4 dL_law_75 ?_
        refine ai_imul dL_law_77 ?_
        refine aw_iconst (v := iI (1)) dL_law_78 rfl ?_
        refine ai_iadd dL_law_79 ?_
        refine aw_callSX (As := [.retAddr b, .int (iI (((2 * (k : Int)) + 1)))]) hS (k_draw b L xs hL _ (i := ((2 * (k : Int)) + 1)) (by omega) (by omega)) dL_law_80 sl_L_205 (Rm1 ⟨by decide, by decide, by omega, by omega⟩) (Nat.le_of_ble_eq_true rfl) (fun τ_80 r_80 h_80 => ?_)
        obtain ⟨v_80, rfl, rfl, Y, hY0, hY1, rfl⟩ := h_80
        refine aw_istore6 dL_law_83 (Nat.le_of_ble_eq_true rfl) rfl ?_
        refine aw_iload4 dL_law_85 ?_
        refine aw_bipush (v := iI (36)) dL_law_87 (by decide) ?_
        refine ai_irem dL_law_89 (by omega) (by omega) (by omega) (by omega) ?_
        refine ai_if_ne (tgt := 136) dL_law_90 (by decide) (by omega) (by omega) (fun c_90 => ?_) (fun c_90 => absurd c_90 (by omega))
        obtain ⟨s1, V1, hS1, hact⟩ := act_ex hI hX0 hX1 hY0 hY1
        have ht1 := hS1.1.2
        obtain ⟨ab0, -, -, -⟩ := aboutV_n hS1.1.1.1 (by omega)
        refine aw_aload1 dL_law_136 ?_
        refine aw_iload5 dL_law_137 ?_
        refine aw_iload6 dL_law_139 ?_
        refine ac_S (As := [.ref 0, .int (iI (X)), .int (iI (Y))]) ((hact hp).lo1 τ) dL_law_141 sl_L_226 (by decide) (Nat.le_of_ble_eq_true rfl) hb hs (B2 := 600110) (B2' := 7301586) rfl rfl (by omega) (by omega) (fun τ_141 r_141 c_ s_ h_141 hb_ hs_ => ?_)
        replace hb := hb_
        replace hs := hs_
        clear hb_ hs_
        obtain ⟨σ_141, rfl, v_141, rfl, i_141, e_141⟩ := h_141
        obtain rfl : V1 = v_141 := e_141
        refine aw_aload2 dL_law_144 ?_
        refine aw_iload5 dL_law_145 ?_
        refine aw_iload6 dL_law_147 ?_
        refine ac_S (As := [.ref 388, .int (iI (X)), .int (iI (Y))]) ((hact hq).hi1 (fun a0 => rfl) hrL σ_141) dL_law_149 sl_L_226 (by decide) (Nat.le_of_ble_eq_true rfl) hb hs (B2 := 600134) (B2' := 7301730) rfl rfl (by omega) (by omega) (fun τ_149 r_149 c_ s_ h_149 hb_ hs_ => ?_)
        replace hb := hb_
        replace hs := hs_
        clear hb_ hs_
        obtain ⟨σ_149, rfl, v_149, rfl, i_149, e_149⟩ := h_149
        obtain rfl : V1 = v_149 := e_149
        refine al_if_ne (tgt := 160) dL_law_152 dL_law_153 (by decide) (fun c_152 => absurd rfl c_152) (fun _ => ?_)
        refine aw_iconst (v := iI (1)) dL_law_156 rfl ?_
        refine aw_goto (tgt := 161) dL_law_157 (by decide) ?_
        refine aw_istore3 dL_law_161 (Nat.le_of_ble_eq_true rfl) rfl ?_
        refine aw_iload4 dL_law_162 ?_
        refine aw_bipush (v := iI (6)) dL_law_164 (by decide) ?_
        refine ai_irem dL_law_166 (by omega) (by omega) (by omega) (by omega) ?_
        refine ai_if_ne (tgt := 194) dL_law_167 (by decide) (by omega) (by omega) (fun c_167 => absurd c_167 (by omega)) (fun c_167 => ?_)
        refine aw_iload3 dL_law_170 ?_
        refine ai_if_eq (tgt := 192) dL_law_171 (by decide) (by omega) (by omega) (fun c_171 => absurd c_171 (by decide)) (fun _ => ?_)
        refine aw_aload2 dL_law_174 ?_
        refine ac_S (As := [.ref 388]) ((k_errors i_149 hS1.1).hi1 (fun a0 => rfl) hrI σ_141) dL_law_175 sl_L_213 (by decide) (Nat.le_of_ble_eq_true rfl) hb hs (B2 := 606534) (B2' := 7340130) rfl rfl (by omega) (by omega) (fun τ_175 r_175 c_ s_ h_175 hb_ hs_ => ?_)
        replace hb := hb_
        replace hs := hs_
        clear hb_ hs_
        obtain ⟨σ_175, rfl, v_175, rfl, i_175, e_175⟩ := h_175
        obtain rfl : (iI (1)) = v_175 := e_175
        refine ai_if_eq (tgt := 192) dL_law_178 (by decide) (by omega) (by omega) (fun c_178 => absurd c_178 (by decide)) (fun _ => ?_)
        refine aw_aload2 dL_law_181 ?_
        refine ac_S (As := [.ref 388]) ((k_kept i_175 hS1.1).hi1 (fun a0 => rfl) hrI σ_141) dL_law_182 sl_L_217 (by decide) (Nat.le_of_ble_eq_true rfl) hb hs (B2 := 613414) (B2' := 7381410) rfl rfl (by omega) (by omega) (fun τ_182 r_182 c_ s_ h_182 hb_ hs_ => ?_)
        replace hb := hb_
        replace hs := hs_
        clear hb_ hs_
        obtain ⟨σ_182, rfl, v_182, rfl, i_182, e_182⟩ := h_182
        obtain rfl : (iI (1)) = v_182 := e_182
        refine ai_if_eq (tgt := 192) dL_law_185 (by decide) (by omega) (by omega) (fun c_185 => absurd c_185 (by decide)) (fun _ => ?_)
        refine aw_iconst (v := iI (1)) dL_law_188 rfl ?_
        refine aw_goto (tgt := 193) dL_law_189 (by decide) ?_
        refine aw_istore3 dL_law_193 (Nat.le_of_ble_eq_true rfl) rfl ?_
        refine aw_iload4 dL_law_194 ?_
        refine aw_bipush (v := iI (12)) dL_law_196 (by decide) ?_
        refine ai_irem dL_law_198 (by omega) (by omega) (by omega) (by omega) ?_
        refine aw_bipush (v := iI (11)) dL_law_199 (by decide) ?_
        refine ai_ic_ne (tgt := 243) dL_law_201 (by decide) (by omega) (by omega) (by omega) (by omega) (fun c_201 => ?_) (fun c_201 => absurd c_201 (by omega))
        refine aw_iload3 dL_law_243 ?_
        refine ai_if_eq (tgt := 269) dL_law_244 (by decide) (by omega) (by omega) (fun c_244 => absurd c_244 (by decide)) (fun _ => ?_)
        refine aw_iload4 dL_law_247 ?_
        refine aw_bipush (v := iI (6)) dL_law_249 (by decide) ?_
        refine ai_irem dL_law_251 (by omega) (by omega) (by omega) (by omega) ?_
        refine ai_if_gt (tgt := 265) dL_law_252 (by decide) (by omega) (by omega) (fun c_252 => absurd c_252 (by omega)) (fun c_252 => ?_)
        refine aw_aload1 dL_law_255 ?_
        refine aw_aload2 dL_law_256 ?_
        refine aw_iload6 dL_law_257 ?_
        refine ac_S (As := [.ref 0, .ref 388, .int (iI (Y))]) (k_alike i_141 i_182 hS1.1 hY0 hY1) dL_law_259 sl_L_209 (by decide) (Nat.le_of_ble_eq_true rfl) hb hs (B2 := 619014) (B2' := 7415010) rfl rfl (by omega) (by omega) (fun τ_259 r_259 c_ s_ h_259 hb_ hs_ => ?_)
        replace hb := hb_
        replace hs := hs_
        clear hb_ hs_
        obtain ⟨v_259, rfl, ⟨σ_259, τ1_259, rfl, i_259, j_259⟩, e_259⟩ := h_259
        obtain rfl : (iI (1)) = v_259 := e_259
        refine ai_if_eq (tgt := 269) dL_law_262 (by decide) (by omega) (by omega) (fun c_262 => absurd c_262 (by decide)) (fun _ => ?_)
        refine aw_iconst (v := iI (1)) dL_law_265 rfl ?_
        refine aw_goto (tgt := 270) dL_law_266 (by decide) ?_
        refine aw_istore3 dL_law_270 (Nat.le_of_ble_eq_true rfl) rfl ?_
        refine aw_iinc4 (w := (iI (((k + 1 : Nat) : Int)))) dL_law_271 (iinc_N rfl) (Nat.le_of_ble_eq_true rfl) rfl ?_
        refine aw_goto (tgt := 52) dL_law_274 (by decide) ?_
        exact ih (k + 1) (by omega) (by omega) _ _ _ hS1 i_259 j_259 _ _ _ _ (by omega) (by omega)
      · refine aw_iload4 dL_law_52 ?_
        refine aw_bipush (v := iI (72)) dL_law_54 (by decide) ?_
        refine ai_ic_ge (tgt := 277) dL_law_56 (by decide) (by omega) (by omega) (by omega) (by omega) (fun c_56 => absurd c_56 (by omega)) (fun c_56 => ?_)
        refine aw_iload3 dL_law_59 ?_
        refine ai_if_eq (tgt := 277) dL_law_60 (by decide) (by omega) (by omega) (fun c_60 => absurd c_60 (by decide)) (fun _ => ?_)
        refine aw_aload0E dL_law_63 ?_
        refine aw_iconst (v := iI (2)) dL_law_64 rfl ?_
        refine aw_iload4 dL_law_65 ?_
        refine ai_imul dL_law_67 ?_
        refine aw_callSX (As := [.retAddr b, .int (iI ((2 * (k : Int))))]) hS (k_draw b L xs hL _ (i := (2 * (k : Int))) (by omega) (by omega)) dL_law_68 sl_L_205 (Rm1 ⟨by decide, by decide, by omega, by omega⟩) (Nat.le_of_ble_eq_true rfl) (fun τ_68 r_68 h_68 => ?_)
        obtain ⟨v_68, rfl, rfl, X, hX0, hX1, rfl⟩ := h_68
        refine aw_istore5 dL_law_71 (Nat.le_of_ble_eq_true rfl) rfl ?_
        refine aw_aload0E dL_law_73 ?_
        refine aw_iconst (v := iI (2)) dL_law_74 rfl ?_
        refine aw_iload4 dL_law_75 ?_
        refine ai_imul dL_law_77 ?_
        refine aw_iconst (v := iI (1)) dL_law_78 rfl ?_
        refine ai_iadd dL_law_79 ?_
        refine aw_callSX (As := [.retAddr b, .int (iI (((2 * (k : Int)) + 1)))]) hS (k_draw b L xs hL _ (i := ((2 * (k : Int)) + 1)) (by omega) (by omega)) dL_law_80 sl_L_205 (Rm1 ⟨by decide, by decide, by omega, by omega⟩) (Nat.le_of_ble_eq_true rfl) (fun τ_80 r_80 h_80 => ?_)
        obtain ⟨v_80, rfl, rfl, Y, hY0, hY1, rfl⟩ := h_80
        refine aw_istore6 dL_law_83 (Nat.le_of_ble_eq_true rfl) rfl ?_
        refine aw_iload4 dL_law_85 ?_
        refine aw_bipush (v := iI (36)) dL_law_87 (by decide) ?_
        refine ai_irem dL_law_89 (by omega) (by omega) (by omega) (by omega) ?_
        refine ai_if_ne (tgt := 136) dL_law_90 (by decide) (by omega) (by omega) (fun c_90 => ?_) (fun c_90 => absurd c_90 (by omega))
        obtain ⟨s1, V1, hS1, hact⟩ := act_ex hI hX0 hX1 hY0 hY1
        have ht1 := hS1.1.2
        obtain ⟨ab0, -, -, -⟩ := aboutV_n hS1.1.1.1 (by omega)
        refine aw_aload1 dL_law_136 ?_
        refine aw_iload5 dL_law_137 ?_
        refine aw_iload6 dL_law_139 ?_
        refine ac_S (As := [.ref 0, .int (iI (X)), .int (iI (Y))]) ((hact hp).lo1 τ) dL_law_141 sl_L_226 (by decide) (Nat.le_of_ble_eq_true rfl) hb hs (B2 := 600110) (B2' := 7301586) rfl rfl (by omega) (by omega) (fun τ_141 r_141 c_ s_ h_141 hb_ hs_ => ?_)
        replace hb := hb_
        replace hs := hs_
        clear hb_ hs_
        obtain ⟨σ_141, rfl, v_141, rfl, i_141, e_141⟩ := h_141
        obtain rfl : V1 = v_141 := e_141
        refine aw_aload2 dL_law_144 ?_
        refine aw_iload5 dL_law_145 ?_
        refine aw_iload6 dL_law_147 ?_
        refine ac_S (As := [.ref 388, .int (iI (X)), .int (iI (Y))]) ((hact hq).hi1 (fun a0 => rfl) hrL σ_141) dL_law_149 sl_L_226 (by decide) (Nat.le_of_ble_eq_true rfl) hb hs (B2 := 600134) (B2' := 7301730) rfl rfl (by omega) (by omega) (fun τ_149 r_149 c_ s_ h_149 hb_ hs_ => ?_)
        replace hb := hb_
        replace hs := hs_
        clear hb_ hs_
        obtain ⟨σ_149, rfl, v_149, rfl, i_149, e_149⟩ := h_149
        obtain rfl : V1 = v_149 := e_149
        refine al_if_ne (tgt := 160) dL_law_152 dL_law_153 (by decide) (fun c_152 => absurd rfl c_152) (fun _ => ?_)
        refine aw_iconst (v := iI (1)) dL_law_156 rfl ?_
        refine aw_goto (tgt := 161) dL_law_157 (by decide) ?_
        refine aw_istore3 dL_law_161 (Nat.le_of_ble_eq_true rfl) rfl ?_
        refine aw_iload4 dL_law_162 ?_
        refine aw_bipush (v := iI (6)) dL_law_164 (by decide) ?_
        refine ai_irem dL_law_166 (by omega) (by omega) (by omega) (by omega) ?_
        refine ai_if_ne (tgt := 194) dL_law_167 (by decide) (by omega) (by omega) (fun c_167 => ?_) (fun c_167 => absurd c_167 (by omega))
        refine aw_iload4 dL_law_194 ?_
        refine aw_bipush (v := iI (12)) dL_law_196 (by decide) ?_
        refine ai_irem dL_law_198 (by omega) (by omega) (by omega) (by omega) ?_
        refine aw_bipush (v := iI (11)) dL_law_199 (by decide) ?_
        refine ai_ic_ne (tgt := 243) dL_law_201 (by decide) (by omega) (by omega) (by omega) (by omega) (fun c_201 => absurd c_201 (by omega)) (fun c_201 => ?_)
        refine aw_iload3 dL_law_204 ?_
        refine ai_if_eq (tgt := 241) dL_law_205 (by decide) (by omega) (by omega) (fun c_205 => absurd c_205 (by decide)) (fun _ => ?_)
        refine aw_aload2 dL_law_208 ?_
        refine aw_iload6 dL_law_209 ?_
        refine ac_S (As := [.ref 388, .int (iI (Y))]) ((k_follows i_149 hS1.1 hY0 hY1).hi1 (fun a0 => rfl) hrI σ_141) dL_law_211 sl_L_229 (by decide) (Nat.le_of_ble_eq_true rfl) hb hs (B2 := 632134) (B2' := 7493730) rfl rfl (by omega) (by omega) (fun τ_211 r_211 c_ s_ h_211 hb_ hs_ => ?_)
        replace hb := hb_
        replace hs := hs_
        clear hb_ hs_
        obtain ⟨σ_211, rfl, v_211, rfl, i_211, e_211⟩ := h_211
        obtain rfl : (iI (1)) = v_211 := e_211
        refine ai_if_eq (tgt := 241) dL_law_214 (by decide) (by omega) (by omega) (fun c_214 => absurd c_214 (by decide)) (fun _ => ?_)
        refine aw_aload1 dL_law_217 ?_
        refine aw_iconst (v := iI (1)) dL_law_218 rfl ?_
        refine ac_SH (As := [.ref 0, .int (iI (1))]) ((dL_save_ i_141 (iI 1) (cd1_0 (by decide)).symm).lo1 σ_211) dL_law_219 sl_L_162 (by decide) (Nat.le_of_ble_eq_true rfl) hb hs (B2 := 632142) (B2' := 7493778) rfl rfl (by omega) (by omega) (fun τ_219 r_219 c_ s_ h_219 hb_ hs_ => ?_)
        replace hb := hb_
        replace hs := hs_
        clear hb_ hs_
        obtain ⟨σ_219, rfl, v_219, rfl, i_219, e_219⟩ := h_219
        obtain rfl : (lI ((tn (stG s1) : Int))) = v_219 := (ab0.symm.trans e_219)
        have j_219 : CI σ_219 (mS s1 (stC s1) (stM s1)) := by
          have e9 : cN (iI 1) = 1 := by decide
          rw [e9] at i_219
          exact i_219
        refine aw_lconst (v := lI (0)) dL_law_222 (by decide) ?_
        refine ai_lif_lt (tgt := 241) dL_law_223 dL_law_224 (by decide) (by omega) (by omega) (by omega) (by omega) (fun c_223 => absurd c_223 (by omega)) (fun c_223 => ?_)
        refine aw_aload1 dL_law_227 ?_
        refine aw_iconst (v := iI (1)) dL_law_228 rfl ?_
        refine ac_SH (As := [.ref 0, .int (iI (1))]) ((dL_restore_ j_219 (iI 1) (cd2_0 (by decide) (by show savB (stB s1) 1 (cN (iI 1)) = true; rw [show cN (iI 1) = 1 from by decide]; rfl)).symm).lo1 σ_211) dL_law_229 sl_L_164 (by decide) (Nat.le_of_ble_eq_true rfl) hb hs (B2 := 632150) (B2' := 7493826) rfl rfl (by omega) (by omega) (fun τ_229 r_229 c_ s_ h_229 hb_ hs_ => ?_)
        replace hb := hb_
        replace hs := hs_
        clear hb_ hs_
        obtain ⟨σ_229, rfl, v_229, rfl, i_229, e_229⟩ := h_229
        obtain rfl : (lI ((tn (stG s1) : Int))) = v_229 := (by rw [← e_229, wRestore]; exact (show lI (tn (stG s1) : Int) = (stG s1 0).toInt64 from ab0.symm).trans (congrArg (fun z : Rw => (z 0).toInt64) (show savS (stS s1) 1 (stG s1) (cN (iI 1)) = stG s1 from by rw [show cN (iI 1) = 1 from by decide]; rfl).symm))
        have j_229 : CI σ_229 (foS s1) := CI.row (show savS (stS s1) 1 (stG s1) (cN (iI 1)) = stG s1 from by rw [show cN (iI 1) = 1 from by decide]; rfl) i_229
        refine aw_lconst (v := lI (0)) dL_law_232 (by decide) ?_
        refine ai_lif_lt (tgt := 241) dL_law_233 dL_law_234 (by decide) (by omega) (by omega) (by omega) (by omega) (fun c_233 => absurd c_233 (by omega)) (fun c_233 => ?_)
        have hS2 := hS1.fo
        refine aw_iconst (v := iI (1)) dL_law_237 rfl ?_
        refine aw_goto (tgt := 242) dL_law_238 (by decide) ?_
        refine aw_istore3 dL_law_242 (Nat.le_of_ble_eq_true rfl) rfl ?_
        refine aw_iload3 dL_law_243 ?_
        refine ai_if_eq (tgt := 269) dL_law_244 (by decide) (by omega) (by omega) (fun c_244 => absurd c_244 (by decide)) (fun _ => ?_)
        refine aw_iload4 dL_law_247 ?_
        refine aw_bipush (v := iI (6)) dL_law_249 (by decide) ?_
        refine ai_irem dL_law_251 (by omega) (by omega) (by omega) (by omega) ?_
        refine ai_if_gt (tgt := 265) dL_law_252 (by decide) (by omega) (by omega) (fun c_252 => ?_) (fun c_252 => absurd c_252 (by omega))
        refine aw_iconst (v := iI (1)) dL_law_265 rfl ?_
        refine aw_goto (tgt := 270) dL_law_266 (by decide) ?_
        refine aw_istore3 dL_law_270 (Nat.le_of_ble_eq_true rfl) rfl ?_
        refine aw_iinc4 (w := (iI (((k + 1 : Nat) : Int)))) dL_law_271 (iinc_N rfl) (Nat.le_of_ble_eq_true rfl) rfl ?_
        refine aw_goto (tgt := 52) dL_law_274 (by decide) ?_
        exact ih (k + 1) (by omega) (by omega) _ _ _ hS2 j_229 i_211 _ _ _ _ (by omega) (by omega)
      · refine aw_iload4 dL_law_52 ?_
        refine aw_bipush (v := iI (72)) dL_law_54 (by decide) ?_
        refine ai_ic_ge (tgt := 277) dL_law_56 (by decide) (by omega) (by omega) (by omega) (by omega) (fun c_56 => absurd c_56 (by omega)) (fun c_56 => ?_)
        refine aw_iload3 dL_law_59 ?_
        refine ai_if_eq (tgt := 277) dL_law_60 (by decide) (by omega) (by omega) (fun c_60 => absurd c_60 (by decide)) (fun _ => ?_)
        refine aw_aload0E dL_law_63 ?_
        refine aw_iconst (v := iI (2)) dL_law_64 rfl ?_
        refine aw_iload4 dL_law_65 ?_
        refine ai_imul dL_law_67 ?_
        refine aw_callSX (As := [.retAddr b, .int (iI ((2 * (k : Int))))]) hS (k_draw b L xs hL _ (i := (2 * (k : Int))) (by omega) (by omega)) dL_law_68 sl_L_205 (Rm1 ⟨by decide, by decide, by omega, by omega⟩) (Nat.le_of_ble_eq_true rfl) (fun τ_68 r_68 h_68 => ?_)
        obtain ⟨v_68, rfl, rfl, X, hX0, hX1, rfl⟩ := h_68
        refine aw_istore5 dL_law_71 (Nat.le_of_ble_eq_true rfl) rfl ?_
        refine aw_aload0E dL_law_73 ?_
        refine aw_iconst (v := iI (2)) dL_law_74 rfl ?_
        refine aw_iload4 dL_law_75 ?_
        refine ai_imul dL_law_77 ?_
        refine aw_iconst (v := iI (1)) dL_law_78 rfl ?_
        refine ai_iadd dL_law_79 ?_
        refine aw_callSX (As := [.retAddr b, .int (iI (((2 * (k : Int)) + 1)))]) hS (k_draw b L xs hL _ (i := ((2 * (k : Int)) + 1)) (by omega) (by omega)) dL_law_80 sl_L_205 (Rm1 ⟨by decide, by decide, by omega, by omega⟩) (Nat.le_of_ble_eq_true rfl) (fun τ_80 r_80 h_80 => ?_)
        obtain ⟨v_80, rfl, rfl, Y, hY0, hY1, rfl⟩ := h_80
        refine aw_istore6 dL_law_83 (Nat.le_of_ble_eq_true rfl) rfl ?_
        refine aw_iload4 dL_law_85 ?_
        refine aw_bipush (v := iI (36)) dL_law_87 (by decide) ?_
        refine ai_irem dL_law_89 (by omega) (by omega) (by omega) (by omega) ?_
        refine ai_if_ne (tgt := 136) dL_law_90 (by decide) (by omega) (by omega) (fun c_90 => ?_) (fun c_90 => absurd c_90 (by omega))
        obtain ⟨s1, V1, hS1, hact⟩ := act_ex hI hX0 hX1 hY0 hY1
        have ht1 := hS1.1.2
        obtain ⟨ab0, -, -, -⟩ := aboutV_n hS1.1.1.1 (by omega)
        refine aw_aload1 dL_law_136 ?_
        refine aw_iload5 dL_law_137 ?_
        refine aw_iload6 dL_law_139 ?_
        refine ac_S (As := [.ref 0, .int (iI (X)), .int (iI (Y))]) ((hact hp).lo1 τ) dL_law_141 sl_L_226 (by decide) (Nat.le_of_ble_eq_true rfl) hb hs (B2 := 600110) (B2' := 7301586) rfl rfl (by omega) (by omega) (fun τ_141 r_141 c_ s_ h_141 hb_ hs_ => ?_)
        replace hb := hb_
        replace hs := hs_
        clear hb_ hs_
        obtain ⟨σ_141, rfl, v_141, rfl, i_141, e_141⟩ := h_141
        obtain rfl : V1 = v_141 := e_141
        refine aw_aload2 dL_law_144 ?_
        refine aw_iload5 dL_law_145 ?_
        refine aw_iload6 dL_law_147 ?_
        refine ac_S (As := [.ref 388, .int (iI (X)), .int (iI (Y))]) ((hact hq).hi1 (fun a0 => rfl) hrL σ_141) dL_law_149 sl_L_226 (by decide) (Nat.le_of_ble_eq_true rfl) hb hs (B2 := 600134) (B2' := 7301730) rfl rfl (by omega) (by omega) (fun τ_149 r_149 c_ s_ h_149 hb_ hs_ => ?_)
        replace hb := hb_
        replace hs := hs_
        clear hb_ hs_
        obtain ⟨σ_149, rfl, v_149, rfl, i_149, e_149⟩ := h_149
        obtain rfl : V1 = v_149 := e_149
        refine al_if_ne (tgt := 160) dL_law_152 dL_law_153 (by decide) (fun c_152 => absurd rfl c_152) (fun _ => ?_)
        refine aw_iconst (v := iI (1)) dL_law_156 rfl ?_
        refine aw_goto (tgt := 161) dL_law_157 (by decide) ?_
        refine aw_istore3 dL_law_161 (Nat.le_of_ble_eq_true rfl) rfl ?_
        refine aw_iload4 dL_law_162 ?_
        refine aw_bipush (v := iI (6)) dL_law_164 (by decide) ?_
        refine ai_irem dL_law_166 (by omega) (by omega) (by omega) (by omega) ?_
        refine ai_if_ne (tgt := 194) dL_law_167 (by decide) (by omega) (by omega) (fun c_167 => ?_) (fun c_167 => absurd c_167 (by omega))
        refine aw_iload4 dL_law_194 ?_
        refine aw_bipush (v := iI (12)) dL_law_196 (by decide) ?_
        refine ai_irem dL_law_198 (by omega) (by omega) (by omega) (by omega) ?_
        refine aw_bipush (v := iI (11)) dL_law_199 (by decide) ?_
        refine ai_ic_ne (tgt := 243) dL_law_201 (by decide) (by omega) (by omega) (by omega) (by omega) (fun c_201 => ?_) (fun c_201 => absurd c_201 (by omega))
        refine aw_iload3 dL_law_243 ?_
        refine ai_if_eq (tgt := 269) dL_law_244 (by decide) (by omega) (by omega) (fun c_244 => absurd c_244 (by decide)) (fun _ => ?_)
        refine aw_iload4 dL_law_247 ?_
        refine aw_bipush (v := iI (6)) dL_law_249 (by decide) ?_
        refine ai_irem dL_law_251 (by omega) (by omega) (by omega) (by omega) ?_
        refine ai_if_gt (tgt := 265) dL_law_252 (by decide) (by omega) (by omega) (fun c_252 => ?_) (fun c_252 => absurd c_252 (by omega))
        refine aw_iconst (v := iI (1)) dL_law_265 rfl ?_
        refine aw_goto (tgt := 270) dL_law_266 (by decide) ?_
        refine aw_istore3 dL_law_270 (Nat.le_of_ble_eq_true rfl) rfl ?_
        refine aw_iinc4 (w := (iI (((k + 1 : Nat) : Int)))) dL_law_271 (iinc_N rfl) (Nat.le_of_ble_eq_true rfl) rfl ?_
        refine aw_goto (tgt := 52) dL_law_274 (by decide) ?_
        exact ih (k + 1) (by omega) (by omega) _ _ _ hS1 i_141 i_149 _ _ _ _ (by omega) (by omega)
set_option maxHeartbeats 16000000 in
theorem law_mid {K : KT} {b L : Nat} {xs : Nat → Int32} (hS : SC K b L xs) (hL : L ≤ 3072) (tb : List (Nat × Nat × Nat × Nat)) (nm : String) (Q : State → Prop) (fin : ∀ σ ls, AW K RL cL_law (LT tb nm) 13 600086 7301442 Q 776 (some 0) σ 600086 7301442 296 ls [.int 1]) (σ τ : Sg) (hp : CI σ s00) (hq : CI τ s00) (cells slots : Nat) (hb : cells + 446592 ≤ 600086) (hs : slots + 2679552 ≤ 7301442) : AW K RL cL_law (LT tb nm) 13 600086 7301442 Q 776 (some 0) (cmb σ τ) cells slots 16 [some (.retAddr b), some (.ref 0), some (.ref 388), none, none, none, none] [] := by
  have f0 : fuel 0 = 427712 := by decide
  refine aw_aload1 dL_law_16 ?_
  refine aw_aload2 dL_law_17 ?_
  refine aw_aload0E dL_law_18 ?_
  refine aw_iconst (v := iI (0)) dL_law_19 rfl ?_
  refine aw_callSX (As := [.retAddr b, .int (iI (0))]) hS (k_draw b L xs hL _ (i := 0) (by omega) (by omega)) dL_law_20 sl_L_205 (Rm1 ⟨by decide, by decide, by omega, by omega⟩) (Nat.le_of_ble_eq_true rfl) (fun τ_20 r_20 h_20 => ?_)
  obtain ⟨v_20, rfl, rfl, X, hX0, hX1, rfl⟩ := h_20
  refine ac_S (As := [.ref 0, .ref 388, .int (iI (X))]) (k_alike hp hq IS.s00.1 hX0 hX1) dL_law_23 sl_L_209 (by decide) (Nat.le_of_ble_eq_true rfl) hb hs (B2 := 605686) (B2' := 7335042) rfl rfl (by omega) (by omega) (fun τ_23 r_23 c_ s_ h_23 hb_ hs_ => ?_)
  replace hb := hb_
  replace hs := hs_
  clear hb_ hs_
  obtain ⟨v_23, rfl, ⟨σ_23, τ1_23, rfl, i_23, j_23⟩, e_23⟩ := h_23
  obtain rfl : (iI (1)) = v_23 := e_23
  refine ai_if_eq (tgt := 47) dL_law_26 (by decide) (by omega) (by omega) (fun c_26 => absurd c_26 (by decide)) (fun _ => ?_)
  refine aw_aload1 dL_law_29 ?_
  refine ac_S (As := [.ref 0]) ((k_errors i_23 IS.s00.1).lo1 τ1_23) dL_law_30 sl_L_213 (by decide) (Nat.le_of_ble_eq_true rfl) hb hs (B2 := 612086) (B2' := 7373442) rfl rfl (by omega) (by omega) (fun τ_30 r_30 c_ s_ h_30 hb_ hs_ => ?_)
  replace hb := hb_
  replace hs := hs_
  clear hb_ hs_
  obtain ⟨σ_30, rfl, v_30, rfl, i_30, e_30⟩ := h_30
  obtain rfl : (iI (1)) = v_30 := e_30
  refine ai_if_eq (tgt := 47) dL_law_33 (by decide) (by omega) (by omega) (fun c_33 => absurd c_33 (by decide)) (fun _ => ?_)
  refine aw_aload1 dL_law_36 ?_
  refine ac_S (As := [.ref 0]) ((k_kept i_30 IS.s00.1).lo1 τ1_23) dL_law_37 sl_L_217 (by decide) (Nat.le_of_ble_eq_true rfl) hb hs (B2 := 618966) (B2' := 7414722) rfl rfl (by omega) (by omega) (fun τ_37 r_37 c_ s_ h_37 hb_ hs_ => ?_)
  replace hb := hb_
  replace hs := hs_
  clear hb_ hs_
  obtain ⟨σ_37, rfl, v_37, rfl, i_37, e_37⟩ := h_37
  obtain rfl : (iI (1)) = v_37 := e_37
  refine ai_if_eq (tgt := 47) dL_law_40 (by decide) (by omega) (by omega) (fun c_40 => absurd c_40 (by decide)) (fun _ => ?_)
  refine aw_iconst (v := iI (1)) dL_law_43 rfl ?_
  refine aw_goto (tgt := 48) dL_law_44 (by decide) ?_
  refine aw_istore3 dL_law_48 (Nat.le_of_ble_eq_true rfl) rfl ?_
  refine aw_iconst (v := iI (0)) dL_law_49 rfl ?_
  refine aw_istore4 dL_law_50 (Nat.le_of_ble_eq_true rfl) rfl ?_
  exact law_loop hS hL tb nm Q fin 73 0 (by omega) (by omega) s00 _ _ IS.s00 i_37 j_23 none none _ _ (by omega) (by omega)
theorem sZ_02 {σ : Sg} {a j : Nat} : (sZ σ a).2.1 a j = none := if_pos rfl
theorem sZ_03 {σ : Sg} {a j : Nat} : (sZ σ a).2.2 a j = 0 := if_pos rfl
theorem cmb_z1 {σ τ : Sg} {i j : Nat} (h : ¬ i < 388) : (cmb σ τ).1 i j = τ.1 (i - 388) j := if_neg h
theorem cmb_z2 {σ τ : Sg} {i j : Nat} (h : ¬ i < 388) : (cmb σ τ).2.1 i j = (τ.2.1 (i - 388) j).map (fun x => 388 + x) := if_neg h
theorem cmb_z3 {σ τ : Sg} {i j : Nat} (h : ¬ i < 388) : (cmb σ τ).2.2 i j = τ.2.2 (i - 388) j := if_neg h
theorem cmb_new {σ : Sg} : ∀ i, i < 389 → (sZ σ 388).1 i = (cmb σ (fun _ _ => 0, fun _ _ => none, fun _ _ => 0)).1 i ∧ (sZ σ 388).2.1 i = (cmb σ (fun _ _ => 0, fun _ _ => none, fun _ _ => 0)).2.1 i ∧ (sZ σ 388).2.2 i = (cmb σ (fun _ _ => 0, fun _ _ => none, fun _ _ => 0)).2.2 i := fun i hi => by
  by_cases h : i < 388
  · exact ⟨funext fun j => (sZ_i (by omega)).trans (if_pos h).symm, funext fun j => (sZ_r (by omega)).trans (if_pos h).symm, funext fun j => (if_neg (by omega : ¬ i = 388)).trans (if_pos h).symm⟩
  · obtain rfl : i = 388 := by omega
    have e1 : ∀ j, (sZ σ 388).1 388 j = 0 := fun j => sZ_0
    have e2 : ∀ j, (sZ σ 388).2.1 388 j = none := fun j => sZ_02
    have e3 : ∀ j, (sZ σ 388).2.2 388 j = 0 := fun j => sZ_03
    have d1 : ∀ j, (cmb σ (fun _ _ => 0, fun _ _ => none, fun _ _ => 0)).1 388 j = 0 := fun j => cmb_z1 h
    have d2 : ∀ j, (cmb σ (fun _ _ => 0, fun _ _ => none, fun _ _ => 0)).2.1 388 j = none := fun j => cmb_z2 h
    have d3 : ∀ j, (cmb σ (fun _ _ => 0, fun _ _ => none, fun _ _ => 0)).2.2 388 j = 0 := fun j => cmb_z3 h
    exact ⟨funext fun j => (e1 j).trans (d1 j).symm, funext fun j => (e2 j).trans (d2 j).symm, funext fun j => (e3 j).trans (d3 j).symm⟩
theorem q_init (σ τ : Sg) : Ct yX6_init cX6_init mX6_init 4 387 3380 389 true (cmb σ τ) [.ref 388] 776 (fun ρ r => ∃ τ', cmb σ τ' = ρ ∧ rV (fun σ2 => I7 σ2) τ' r) XF := (Ct.hi (m := 1) (m' := 388) (by decide) (by decide) (k6_init τ) (fun a0 => rfl) (fun _ _ h _ => by obtain ⟨rfl, _⟩ := h; rfl) σ).mono (fun _ _ q => q) (fun _ _ q => q.elim fun _ z => z.2)
set_option maxHeartbeats 4000000 in
theorem law_walk {K : KT} {b L : Nat} {xs : Nat → Int32} (hS : SC K b L xs) (hL : L ≤ 3072) (tb : List (Nat × Nat × Nat × Nat)) (nm : String) (Q : State → Prop) (fin : ∀ σ ls, AW K RL cL_law (LT tb nm) 13 600086 7301442 Q 776 (some 0) σ 600086 7301442 296 ls [.int 1]) (σ : Sg) : AW K RL cL_law (LT tb nm) 13 600086 7301442 Q 0 (some 0) σ 0 0 0 [some (.retAddr b), none, none, none, none, none, none] [] := by
  refine aw_new (ci := 6) dL_law_0 (by decide) cl_L_10 ins_X6 in_X6 rfl (by decide) (by decide) ?_
  refine aw_dup dL_law_3 rfl ?_
  refine aw_callI (As := []) (k6_init _) dL_law_4 il_L_204 (RmC (by decide) ⟨by decide, by decide, by decide, by decide⟩) (Nat.le_of_ble_eq_true rfl) (fun σ_4 r_4 h_4 => ?_)
  obtain ⟨rfl, h_4⟩ := h_4
  refine aw_astore1 dL_law_7 (Nat.le_of_ble_eq_true rfl) rfl ?_
  refine aw_new (ci := 6) dL_law_8 (by decide) cl_L_10 ins_X6 in_X6 rfl (by decide) (by decide) ?_
  refine AW.cong (ρ := cmb σ_4 (fun _ _ => 0, fun _ _ => none, fun _ _ => 0)) cmb_new ?_
  refine aw_dup dL_law_11 rfl ?_
  refine aw_callI (As := []) (q_init σ_4 _) dL_law_12 il_L_204 (RmC (by decide) ⟨by decide, by decide, by decide, by decide⟩) (Nat.le_of_ble_eq_true rfl) (fun σ_12 r_12 h_12 => ?_)
  obtain ⟨τ_12, rfl, rfl, h_12⟩ := h_12
  refine aw_astore2 dL_law_15 (Nat.le_of_ble_eq_true rfl) rfl ?_
  exact law_mid hS hL tb nm Q fin σ_4 τ_12 (init_CI h_4) (init_CI h_12) _ _ (by decide) (by decide)
