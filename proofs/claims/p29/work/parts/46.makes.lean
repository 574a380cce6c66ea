/-! the class is made -/
/-- below h all is as it was -/
def BL (σ τ : Sg) (h : Nat) : Prop := ∀ i j, i < h → τ.1 i j = σ.1 i j ∧ τ.2.1 i j = σ.2.1 i j
/-- a new hall -/
def NH (τ : Sg) (h : Nat) : Prop := HS τ h ∧ (∀ j, j < 12 → τ.2.1 (h + 3) j = some (h + 8 + j)) ∧ ∀ i j, h ≤ i → i < h + 20 → τ.1 i j = if i = h ∧ j = 1 then 5 else 0
def I1 (σ τ : Sg) (h i : Nat) : Prop := BL σ τ h ∧ (τ.2.1 h 2 = some (h + 1) ∧ τ.2.1 h 4 = some (h + 2) ∧ τ.2.1 h 6 = some (h + 3)) ∧ (∀ r, r < i → τ.2.1 (h + 1) r = some (h + 4 + r)) ∧ ∀ x j, h ≤ x → x < h + 4 + i → τ.1 x j = if x = h ∧ j = 1 then 5 else 0
def I2 (σ τ : Sg) (h i : Nat) : Prop := BL σ τ h ∧ (τ.2.1 h 2 = some (h + 1) ∧ τ.2.1 h 4 = some (h + 2) ∧ τ.2.1 h 6 = some (h + 3)) ∧ (∀ r, r < 4 → τ.2.1 (h + 1) r = some (h + 4 + r)) ∧ (∀ r, r < i → τ.2.1 (h + 3) r = some (h + 8 + r)) ∧ ∀ x j, h ≤ x → x < h + 8 + i → τ.1 x j = if x = h ∧ j = 1 then 5 else 0
section MKS
variable {σ τ : Sg} {h i : Nat}
theorem sZ_i {σ : Sg} {a x j : Nat} (h : x ≠ a) : (sZ σ a).1 x j = σ.1 x j := if_neg h
theorem sZ_r {σ : Sg} {a x j : Nat} (h : x ≠ a) : (sZ σ a).2.1 x j = σ.2.1 x j := if_neg h
theorem sZ_0 {σ : Sg} {a j : Nat} : (sZ σ a).1 a j = 0 := if_pos rfl
theorem sR_n {σ : Sg} {a k x j : Nat} {v : Option Nat} (h : ¬ (x = a ∧ j = k)) : (sR σ a k v).2.1 x j = σ.2.1 x j := if_neg h
theorem sR_s {σ : Sg} {a k : Nat} {v : Option Nat} : (sR σ a k v).2.1 a k = v := if_pos ⟨rfl, rfl⟩
theorem I1.start (hz : ∀ j, σ.1 h j = 0) : I1 σ (sR (sZ (sR (sZ (sR (sZ (sI σ h 1 5) (h + 1)) h 2 (some (h + 1))) (h + 1 + 1)) h 4 (some (h + 1 + 1))) (h + 1 + 1 + 1)) h 6 (some (h + 1 + 1 + 1))) h 0 := by
  refine ⟨fun x j hx => ⟨?_, ?_⟩, ⟨?_, ?_, ?_⟩, fun r hr => absurd hr (Nat.not_lt_zero _), fun x j h1 h2 => ?_⟩
  · exact (sZ_i (by omega)).trans ((sZ_i (by omega)).trans ((sZ_i (by omega)).trans (sI_un (by omega))))
  · exact (sR_n (by omega)).trans ((sZ_r (by omega)).trans ((sR_n (by omega)).trans ((sZ_r (by omega)).trans ((sR_n (by omega)).trans (sZ_r (by omega))))))
  · exact (sR_n (by omega)).trans ((sZ_r (by omega)).trans ((sR_n (by omega)).trans ((sZ_r (by omega)).trans sR_s)))
  · exact (sR_n (by omega)).trans ((sZ_r (by omega)).trans sR_s)
  · exact sR_s
  · rcases (show x = h ∨ x = h + 1 ∨ x = h + 1 + 1 ∨ x = h + 1 + 1 + 1 by omega) with rfl | rfl | rfl | rfl
    · refine (sZ_i (by omega)).trans ((sZ_i (by omega)).trans ((sZ_i (by omega)).trans ?_))
      show (if x = x ∧ j = 1 then 5 else σ.1 x j) = _
      rw [hz]
    · rw [if_neg (by omega)]
      exact (sZ_i (by omega)).trans ((sZ_i (by omega)).trans sZ_0)
    · rw [if_neg (by omega)]
      exact (sZ_i (by omega)).trans sZ_0
    · rw [if_neg (by omega)]
      exact sZ_0
theorem I1.step (a : I1 σ τ h i) (hi : i < 4) : I1 σ (sR (sZ τ (h + 4 + i)) (h + 1) i (some (h + 4 + i))) h (i + 1) := by
  obtain ⟨b, ⟨c1, c2, c3⟩, d, e⟩ := a
  refine ⟨fun x j hx => ⟨(sZ_i (by omega)).trans (b x j hx).1, (sR_n (by omega)).trans ((sZ_r (by omega)).trans (b x j hx).2)⟩, ⟨(sR_n (by omega)).trans ((sZ_r (by omega)).trans c1), (sR_n (by omega)).trans ((sZ_r (by omega)).trans c2), (sR_n (by omega)).trans ((sZ_r (by omega)).trans c3)⟩, fun r hr => ?_, fun x j h1 h2 => ?_⟩
  · by_cases q : r = i
    · subst q
      exact sR_s
    · exact (sR_n (by omega)).trans ((sZ_r (by omega)).trans (d r (by omega)))
  · by_cases q : x = h + 4 + i
    · subst q
      rw [if_neg (by omega)]
      exact sZ_0
    · exact (sZ_i q).trans (e x j h1 (by omega))
theorem I2.start (a : I1 σ τ h 4) : I2 σ τ h 0 := ⟨a.1, a.2.1, a.2.2.1, fun r hr => absurd hr (Nat.not_lt_zero _), fun x j h1 h2 => a.2.2.2 x j h1 h2⟩
theorem I2.step (a : I2 σ τ h i) (hi : i < 12) : I2 σ (sR (sZ τ (h + 8 + i)) (h + 3) i (some (h + 8 + i))) h (i + 1) := by
  obtain ⟨b, ⟨c1, c2, c3⟩, f, d, e⟩ := a
  refine ⟨fun x j hx => ⟨(sZ_i (by omega)).trans (b x j hx).1, (sR_n (by omega)).trans ((sZ_r (by omega)).trans (b x j hx).2)⟩, ⟨(sR_n (by omega)).trans ((sZ_r (by omega)).trans c1), (sR_n (by omega)).trans ((sZ_r (by omega)).trans c2), (sR_n (by omega)).trans ((sZ_r (by omega)).trans c3)⟩, fun r hr => (sR_n (by omega)).trans ((sZ_r (by omega)).trans (f r hr)), fun r hr => ?_, fun x j h1 h2 => ?_⟩
  · by_cases q : r = i
    · subst q
      exact sR_s
    · exact (sR_n (by omega)).trans ((sZ_r (by omega)).trans (d r (by omega)))
  · by_cases q : x = h + 8 + i
    · subst q
      rw [if_neg (by omega)]
      exact sZ_0
    · exact (sZ_i q).trans (e x j h1 (by omega))
theorem I2.done (a : I2 σ τ h 12) : NH τ h ∧ BL σ τ h := ⟨⟨⟨a.2.1.1, a.2.1.2.1, a.2.1.2.2, a.2.2.1⟩, a.2.2.2.1, a.2.2.2.2⟩, a.1⟩
end MKS
set_option maxHeartbeats 4000000 in
theorem k0_init (σ : Sg) (x n : Nat) (hT : cT x = .inl 0) (hx : x < n) : Ct yX0_init cX0_init mX0_init 1 0 0 n false σ [.ref x] n (eV1 σ) XF := by
  refine ct_of (ls0 := [some (.ref x)]) 0 (by decide +kernel) rfl rfl (ndR nd0) rfl (Nat.le_of_ble_eq_true rfl) (fun K => ?_)
  refine aw_aload0 dX0_init_0 ?_
  refine aw_objInit dX0_init_1 jl_0_1 oi_im oi_co (by decide) (Nat.le_of_ble_eq_true rfl) ?_
  exact aw_vret dX0_init_4 rfl (by decide) eV_of
set_option maxHeartbeats 4000000 in
theorem k1_init (σ : Sg) (x n : Nat) (hT : cT x = .inl 1) (hx : x < n) : Ct yX1_init cX1_init mX1_init 1 0 0 n false σ [.ref x] n (eV1 σ) XF := by
  refine ct_of (ls0 := [some (.ref x)]) 0 (by decide +kernel) rfl rfl (ndR nd0) rfl (Nat.le_of_ble_eq_true rfl) (fun K => ?_)
  refine aw_aload0 dX1_init_0 ?_
  refine aw_objInit dX1_init_1 jl_1_3 oi_im oi_co (by decide) (Nat.le_of_ble_eq_true rfl) ?_
  exact aw_vret dX1_init_4 rfl (by decide) eV_of
set_option maxHeartbeats 4000000 in
theorem k5_init (σ : Sg) (x n : Nat) (hT : cT x = .inl 5) (hx : x < n) : Ct yX5_init cX5_init mX5_init 1 0 0 n false σ [.ref x] n (eV1 σ) XF := by
  refine ct_of (ls0 := [some (.ref x)]) 0 (by decide +kernel) rfl rfl (ndR nd0) rfl (Nat.le_of_ble_eq_true rfl) (fun K => ?_)
  refine aw_aload0 dX5_init_0 ?_
  refine aw_objInit dX5_init_1 jl_5_1 oi_im oi_co (by decide) (Nat.le_of_ble_eq_true rfl) ?_
  exact aw_vret dX5_init_4 rfl (by decide) eV_of
set_option maxHeartbeats 4000000 in
theorem k2_init (σ : Sg) (h : Nat) (hT : HT h) (hz : ∀ j, σ.1 h j = 0) : Ct yX2_init cX2_init mX2_init 2 19 158 (h + 1) true σ [.ref h] (h + 20) (rV fun σ2 => NH σ2 h ∧ BL σ σ2 h) XF := by
  refine ct_of (ls0 := [some (.ref h), none]) 1 (by decide +kernel) rfl rfl (ndR nd0) rfl (Nat.le_of_ble_eq_true rfl) (fun K => ?_)
  rw [if_pos rfl]
  have hl20 := hT.2.2.2.2.2.2
  have L66 : ∀ (k : Nat) (i : Nat) (τ : Sg) (hI : I2 σ τ h i) (h1 : i ≤ 12) (h2 : 12 - i < k), AW K RX2 cX2_init mX2_init 2 19 158 (Qm K (h + 20) (rV fun σ2 => NH σ2 h ∧ BL σ σ2 h) XF 19 158) (h + 8 + i) (some (h + 1)) τ (7 + i) (38 + 10 * i) 66 [some (.ref h), some (.int (nI i))] [] := by
    intro k
    induction k with
    | zero => intro i τ hI h1 h2; exact absurd h2 (Nat.not_lt_zero _)
    | succ k ih =>
      intro i τ hI h1 h2
      refine aw_iload1 dX2_init_66 ?_
      refine aw_aload0 dX2_init_67 ?_
      refine aw_getR dX2_init_68 fR_2_27 hT.1 (by omega) hI.2.1.2.2 ?_
      refine aw_alen dX2_init_71 hT.2.2.2.1 (by omega) ?_
      refine aw_ic_ge (tgt := 94) dX2_init_72 (by decide) (fun c_72 => ?_) (fun c_72 => ?_)
      · have hbb : i = 12 := by
          have := (nI_leI (by omega) (by omega)).mp c_72
          omega
        subst hbb
        exact aw_vret dX2_init_94 rfl ⟨by omega, by omega⟩ ⟨rfl, (hI.done)⟩
      · have hlt : i < 12 := by
          rcases Nat.lt_or_ge i 12 with q | q
          · exact q
          · exact absurd (nI_le q (by omega)) c_72
        refine aw_aload0 dX2_init_75 ?_
        refine aw_getR dX2_init_76 fR_2_27 hT.1 (by omega) hI.2.1.2.2 ?_
        refine aw_iload1 dX2_init_79 ?_
        refine aw_new (ci := 0) dX2_init_80 (by decide) cl_2_25 ins_X0 in_X0 (hT.2.2.2.2.2.1 i (by omega)) (by omega) ⟨by omega, by have hnf : nF 0 = 10 := rfl; omega⟩ ?_
        refine aw_dup dX2_init_83 rfl ?_
        refine aw_callI (As := []) (k0_init _ (h + 8 + i) _ (hT.2.2.2.2.2.1 i (by omega)) (by omega)) dX2_init_84 il_2_32 (Rm0 ⟨by decide, by decide, by omega, by have hnf : nF 0 = 10 := rfl; omega⟩) (Nat.le_of_ble_eq_true rfl) (fun σ_84 r_84 h_84 => ?_)
        obtain ⟨rfl, rfl⟩ := h_84
        refine aw_aast (j := i) dX2_init_87 hT.2.2.2.1 (by decide) (hT.2.2.2.2.2.1 i (by omega)) (by omega) (by omega) rfl (by omega) ?_
        refine aw_iinc1 (w := nI (i + 1)) dX2_init_88 (nI_1 i) (by decide) rfl ?_
        refine aw_goto (tgt := 66) dX2_init_91 (by decide) ?_
        refine AW.widen (k1 := 7 + (i + 1)) (k2 := 38 + 10 * (i + 1)) (by omega) (by have hnf : nF 0 = 10 := rfl; omega) ?_
        exact ih (i + 1) _ (hI.step hlt) (by omega) (by omega)
  have L36 : ∀ (k : Nat) (i : Nat) (τ : Sg) (hI : I1 σ τ h i) (h1 : i ≤ 4) (h2 : 4 - i < k), AW K RX2 cX2_init mX2_init 2 19 158 (Qm K (h + 20) (rV fun σ2 => NH σ2 h ∧ BL σ σ2 h) XF 19 158) (h + 4 + i) (some (h + 1)) τ (3 + i) (22 + 4 * i) 36 [some (.ref h), some (.int (nI i))] [] := by
    intro k
    induction k with
    | zero => intro i τ hI h1 h2; exact absurd h2 (Nat.not_lt_zero _)
    | succ k ih =>
      intro i τ hI h1 h2
      refine aw_iload1 dX2_init_36 ?_
      refine aw_aload0 dX2_init_37 ?_
      refine aw_getR dX2_init_38 fR_2_17 hT.1 (by omega) hI.2.1.1 ?_
      refine aw_alen dX2_init_41 hT.2.1 (by omega) ?_
      refine aw_ic_ge (tgt := 64) dX2_init_42 (by decide) (fun c_42 => ?_) (fun c_42 => ?_)
      · have hbb : i = 4 := by
          have := (nI_leI (by omega) (by omega)).mp c_42
          omega
        subst hbb
        refine aw_iconst (v := 0) dX2_init_64 (by decide) ?_
        refine aw_istore1 dX2_init_65 (by decide) rfl ?_
        exact L66 13 0 _ (I2.start hI) (by omega) (by omega)
      · have hlt : i < 4 := by
          rcases Nat.lt_or_ge i 4 with q | q
          · exact q
          · exact absurd (nI_le q (by omega)) c_42
        refine aw_aload0 dX2_init_45 ?_
        refine aw_getR dX2_init_46 fR_2_17 hT.1 (by omega) hI.2.1.1 ?_
        refine aw_iload1 dX2_init_49 ?_
        refine aw_new (ci := 5) dX2_init_50 (by decide) cl_2_15 ins_X5 in_X5 (hT.2.2.2.2.1 i (by omega)) (by omega) ⟨by omega, by have hnf : nF 5 = 4 := rfl; omega⟩ ?_
        refine aw_dup dX2_init_53 rfl ?_
        refine aw_callI (As := []) (k5_init _ (h + 4 + i) _ (hT.2.2.2.2.1 i (by omega)) (by omega)) dX2_init_54 il_2_31 (Rm0 ⟨by decide, by decide, by omega, by have hnf : nF 5 = 4 := rfl; omega⟩) (Nat.le_of_ble_eq_true rfl) (fun σ_54 r_54 h_54 => ?_)
        obtain ⟨rfl, rfl⟩ := h_54
        refine aw_aast (j := i) dX2_init_57 hT.2.1 (by decide) (hT.2.2.2.2.1 i (by omega)) (by omega) (by omega) rfl (by omega) ?_
        refine aw_iinc1 (w := nI (i + 1)) dX2_init_58 (nI_1 i) (by decide) rfl ?_
        refine aw_goto (tgt := 36) dX2_init_61 (by decide) ?_
        refine AW.widen (k1 := 3 + (i + 1)) (k2 := 22 + 4 * (i + 1)) (by omega) (by have hnf : nF 5 = 4 := rfl; omega) ?_
        exact ih (i + 1) _ (hI.step hlt) (by omega) (by omega)
  refine aw_aload0 dX2_init_0 ?_
  refine aw_objInit dX2_init_1 jl_2_3 oi_im oi_co (by decide) (Nat.le_of_ble_eq_true rfl) ?_
  refine aw_aload0 dX2_init_4 ?_
  refine aw_iconst (v := 5) dX2_init_5 (by decide) ?_
  refine aw_putI dX2_init_6 fP_2_9 hT.1 (by omega) ?_
  refine aw_aload0 dX2_init_9 ?_
  refine aw_iconst (v := 4) dX2_init_10 (by decide) ?_
  refine aw_anew (kd := 3) (len := 4) (ci := 5) dX2_init_11 cl_2_15 (by decide) hT.2.1 rfl rfl (by decide) ?_
  refine aw_putF dX2_init_14 fF_2_17 hT.1 (by omega) rfl ?_
  refine aw_aload0 dX2_init_17 ?_
  refine aw_bipush (v := 6) dX2_init_18 (by decide) ?_
  refine aw_newarr (kd := 0) (len := 6) dX2_init_20 rfl ar_int (Or.inl ⟨rfl, rfl⟩) hT.2.2.1 rfl rfl (by decide) ?_
  refine aw_putF dX2_init_22 fF_2_21 hT.1 (by omega) rfl ?_
  refine aw_aload0 dX2_init_25 ?_
  refine aw_bipush (v := 12) dX2_init_26 (by decide) ?_
  refine aw_anew (kd := 4) (len := 12) (ci := 0) dX2_init_28 cl_2_25 (by decide) hT.2.2.2.1 rfl rfl (by decide) ?_
  refine aw_putF dX2_init_31 fF_2_27 hT.1 (by omega) rfl ?_
  refine aw_iconst (v := 0) dX2_init_34 (by decide) ?_
  refine aw_istore1 dX2_init_35 (by decide) rfl ?_
  exact L36 5 0 _ (I1.start hz) (by omega) (by omega)
