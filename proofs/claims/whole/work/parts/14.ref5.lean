/-! the reference: what is done and tried out -/
noncomputable def zI (a : Prop) : Int32 := @ite _ a (Classical.propDecidable a) 1 0
theorem zI_t {a : Prop} (h : a) : 1 = zI a := (@if_pos _ (Classical.propDecidable a) h _ _ _).symm
theorem zI_f {a : Prop} (h : ¬ a) : 0 = zI a := (@if_neg _ (Classical.propDecidable a) h _ _ _).symm
theorem zI_1 {a : Prop} (h : ¬ zI a = 0) : a := Classical.byContradiction fun k => h (zI_f k).symm
theorem zI_0 {a : Prop} (h : zI a = 0) : ¬ a := fun k => by rw [← zI_t k] at h; exact absurd h (by decide)
theorem fAddRoom_1 {g : Rw} {nr : Nat} {s l p t : Int32} (h : nr < 4) : fAddRoom g nr s l p t 1 = g 1 + 1 := by
  simp only [fAddRoom]
  rw [upd_s, upd_n (by omega), upd_n (by omega), upd_n (by omega), upd_n (by omega)]
theorem fBookTo_3 {g : Rw} {nb : Nat} {r w f h t : Int32} : fBookTo g nb r w f h t 3 = g 3 + 1 := by
  simp only [fBookTo]
  rw [upd_s, upd_n (by omega), upd_n (by omega), upd_n (by omega), upd_n (by omega), upd_n (by omega), fZero_off _ _ (by omega)]
def fAddGroup (g : Rw) (ng : Nat) : Rw := upd (upd g (25 + ng) 0) 2 (upd g (25 + ng) 0 2 + 1)
theorem fAddGroup_2 {g : Rw} {ng : Nat} : fAddGroup g ng 2 = g 2 + 1 := by
  rw [fAddGroup, upd_s, upd_n (by omega)]
set_option maxHeartbeats 4000000 in
theorem k_addRoom (σ : Sg) (g : Rw) (nr ng nb t : Nat) (a : Nat) (s l p t0 : Int32) (hM : MS σ) (hw : WF g nr ng nb t) (ha : σ.1 388 9 = nI a) (ha14 : a ≤ 14) : Ct yX7_addRoom cX7_addRoom mX7_addRoom 3 0 0 NN false (sA σ 391 g) [.ref 388, .int s, .int l, .int p, .int t0] NN (eM σ g (cd2 ((1 ≤ s ∧ s ≤ 9) ∧ (1 ≤ l ∧ l ≤ 9) ∧ (1 ≤ p ∧ p ≤ 9) ∧ -10 ≤ t0 ∧ t0 ≤ 30) (nr < 4)) (remT (sI σ 388 0 (cd2 ((1 ≤ s ∧ s ≤ 9) ∧ (1 ≤ l ∧ l ≤ 9) ∧ (1 ≤ p ∧ p ≤ 9) ∧ -10 ≤ t0 ∧ t0 ≤ 30) (nr < 4))) g a (fAddRoom g nr s l p t0)) (nI nr)) XF := by
  refine ct_of (ls0 := [some (.ref 388), some (.int s), some (.int l), some (.int p), some (.int t0), none]) 1 (by decide +kernel) rfl rfl (ndR (ndI (ndI (ndI (ndI nd0))))) rfl (Nat.le_of_ble_eq_true rfl) (fun K => ?_)
  refine AW.tern0 (E := (zI ((1 ≤ s ∧ s ≤ 9) ∧ (1 ≤ l ∧ l ≤ 9) ∧ (1 ≤ p ∧ p ≤ 9) ∧ -10 ≤ t0 ∧ t0 ≤ 30))) (pc2 := 56) (fun x_56 hx_56 => ?_) (fun J_56 => ?_)
  · subst hx_56
    refine aw_istore5 dX7_addRoom_56 (by decide) rfl ?_
    refine aw_aload0 dX7_addRoom_58 ?_
    refine AW.tern0 (E := (cd2 ((1 ≤ s ∧ s ≤ 9) ∧ (1 ≤ l ∧ l ≤ 9) ∧ (1 ≤ p ∧ p ≤ 9) ∧ -10 ≤ t0 ∧ t0 ≤ 30) (nr < 4))) (pc2 := 83) (fun x_83 hx_83 => ?_) (fun J_83 => ?_)
    · subst hx_83
      refine aw_VI1 (k_refusedN _ _ _) dX7_addRoom_83 vl_7_110 rfl (by decide) (by decide) (Nat.le_of_ble_eq_true rfl) (fun σ_83 r_83 h_83 => ?_)
      obtain ⟨rfl, h_83⟩ := h_83
      rcases h_83 with ⟨rfl, p_83⟩ | ⟨rfl, p_83⟩
      · refine aw_if_eq (tgt := 91) dX7_addRoom_86 (by decide) (fun c_86 => absurd c_86 (by decide)) (fun _ => ?_)
        refine aw_iconst (v := 0) dX7_addRoom_89 (by decide) ?_
        exact aw_iret dX7_addRoom_90 rfl (by decide) (eM_r p_83)
      · refine aw_if_eq (tgt := 91) dX7_addRoom_86 (by decide) (fun _ => ?_) (fun c_86 => absurd c_86 (by decide))
        have hab := cd2_z p_83
        refine aw_aload0 dX7_addRoom_91 ?_
        refine aw_VV0 (k_remember _ _ _ hM ha ha14) dX7_addRoom_92 vl_7_172 rfl (by decide) (by decide) (Nat.le_of_ble_eq_true rfl) (fun σ_92 h_92 => ?_)
        obtain rfl := h_92
        refine aw_aload0 dX7_addRoom_95 ?_
        refine aw_getR dX7_addRoom_96 fR_7_16 rfl (by decide) hM.now ?_
        refine aw_iload1 dX7_addRoom_99 ?_
        refine aw_iload2 dX7_addRoom_100 ?_
        refine aw_iload3 dX7_addRoom_101 ?_
        refine aw_iload4 dX7_addRoom_102 ?_
        refine aw_SV5 (k_addRoomTo _ 391 _ _ _ _ _ _ rfl (by decide) hw.nr hab.2) dX7_addRoom_104 sl_7_133 (by decide) (Nat.le_of_ble_eq_true rfl) (fun σ_104 h_104 => ?_)
        obtain rfl := h_104
        refine aw_aload0 dX7_addRoom_107 ?_
        refine aw_getR dX7_addRoom_108 fR_7_16 rfl (by decide) hM.now ?_
        refine aw_iconst (v := 1) dX7_addRoom_111 (by decide) ?_
        refine aw_iald (j := 1) dX7_addRoom_112 rfl (by decide) rfl (by decide) sA_at ?_
        refine aw_iconst (v := 1) dX7_addRoom_113 (by decide) ?_
        refine aw_isub dX7_addRoom_114 ?_
        exact aw_iret dX7_addRoom_115 rfl (by decide) (eM_o (cd2_0 hab.1 hab.2) (show nI nr = fAddRoom g nr s l p t0 1 - 1 from by rw [fAddRoom_1 hab.2, hw.nr, nI_1]; exact (nI_pred nr).symm))
    · refine aw_iload5 dX7_addRoom_59 ?_
      refine aw_if_ne (tgt := 68) dX7_addRoom_61 (by decide) (fun c_61 => ?_) (fun c_61 => ?_)
      · refine aw_aload0 dX7_addRoom_68 ?_
        refine aw_getR dX7_addRoom_69 fR_7_16 rfl (by decide) hM.now ?_
        refine aw_iconst (v := 1) dX7_addRoom_72 (by decide) ?_
        refine aw_iald (j := 1) dX7_addRoom_73 rfl (by decide) rfl (by decide) (sA_at.trans hw.nr) ?_
        refine aw_iconst (v := 4) dX7_addRoom_74 (by decide) ?_
        refine aw_ic_ne (tgt := 82) dX7_addRoom_75 (by decide) (fun c_75 => ?_) (fun c_75 => ?_)
        · refine aw_iconst (v := 0) dX7_addRoom_82 (by decide) ?_
          exact J_83 _ (by first | exact cd2_1 (zI_0 c_61) | exact cd2_2 (zI_1 c_61) (nlt_of_eq (K := 4) (by have := hw.nr4; omega) (by omega) c_75) | exact cd2_0 (zI_1 c_61) (lt_of_neq (K := 4) (by omega) hw.nr4 c_75))
        · refine aw_iconst (v := 2) dX7_addRoom_78 (by decide) ?_
          refine aw_goto (tgt := 83) dX7_addRoom_79 (by decide) ?_
          exact J_83 _ (by first | exact cd2_1 (zI_0 c_61) | exact cd2_2 (zI_1 c_61) (nlt_of_eq (K := 4) (by have := hw.nr4; omega) (by omega) c_75) | exact cd2_0 (zI_1 c_61) (lt_of_neq (K := 4) (by omega) hw.nr4 c_75))
      · refine aw_iconst (v := 1) dX7_addRoom_64 (by decide) ?_
        refine aw_goto (tgt := 83) dX7_addRoom_65 (by decide) ?_
        exact J_83 _ (by first | exact cd2_1 (zI_0 c_61) | exact cd2_2 (zI_1 c_61) (nlt_of_eq (K := 4) (by have := hw.nr4; omega) (by omega) c_75) | exact cd2_0 (zI_1 c_61) (lt_of_neq (K := 4) (by omega) hw.nr4 c_75))
  · refine aw_iload1 dX7_addRoom_0 ?_
    refine aw_i2l dX7_addRoom_1 ?_
    refine aw_lconst (v := 1) dX7_addRoom_2 (by decide) ?_
    refine aw_ldc2 dX7_addRoom_3 kl_7_121 ?_
    refine aw_SI3 (k_inC _ _ _ _ 1 9 rfl rfl) dX7_addRoom_6 sl_7_103 (by decide) (Nat.le_of_ble_eq_true rfl) (fun σ_6 r_6 h_6 => ?_)
    obtain ⟨rfl, h_6⟩ := h_6
    rcases h_6 with ⟨rfl, p_6⟩ | ⟨rfl, p_6⟩
    · refine aw_if_eq (tgt := 55) dX7_addRoom_9 (by decide) (fun c_9 => absurd c_9 (by decide)) (fun _ => ?_)
      refine aw_iload2 dX7_addRoom_12 ?_
      refine aw_i2l dX7_addRoom_13 ?_
      refine aw_lconst (v := 1) dX7_addRoom_14 (by decide) ?_
      refine aw_ldc2 dX7_addRoom_15 kl_7_121 ?_
      refine aw_SI3 (k_inC _ _ _ _ 1 9 rfl rfl) dX7_addRoom_18 sl_7_103 (by decide) (Nat.le_of_ble_eq_true rfl) (fun σ_18 r_18 h_18 => ?_)
      obtain ⟨rfl, h_18⟩ := h_18
      rcases h_18 with ⟨rfl, p_18⟩ | ⟨rfl, p_18⟩
      · refine aw_if_eq (tgt := 55) dX7_addRoom_21 (by decide) (fun c_21 => absurd c_21 (by decide)) (fun _ => ?_)
        refine aw_iload3 dX7_addRoom_24 ?_
        refine aw_i2l dX7_addRoom_25 ?_
        refine aw_lconst (v := 1) dX7_addRoom_26 (by decide) ?_
        refine aw_ldc2 dX7_addRoom_27 kl_7_121 ?_
        refine aw_SI3 (k_inC _ _ _ _ 1 9 rfl rfl) dX7_addRoom_30 sl_7_103 (by decide) (Nat.le_of_ble_eq_true rfl) (fun σ_30 r_30 h_30 => ?_)
        obtain ⟨rfl, h_30⟩ := h_30
        rcases h_30 with ⟨rfl, p_30⟩ | ⟨rfl, p_30⟩
        · refine aw_if_eq (tgt := 55) dX7_addRoom_33 (by decide) (fun c_33 => absurd c_33 (by decide)) (fun _ => ?_)
          refine aw_iload4 dX7_addRoom_36 ?_
          refine aw_i2l dX7_addRoom_38 ?_
          refine aw_ldc2 dX7_addRoom_39 kl_7_168 ?_
          refine aw_ldc2 dX7_addRoom_42 kl_7_170 ?_
          refine aw_SI3 (k_inC _ _ _ _ (-10) 30 rfl rfl) dX7_addRoom_45 sl_7_103 (by decide) (Nat.le_of_ble_eq_true rfl) (fun σ_45 r_45 h_45 => ?_)
          obtain ⟨rfl, h_45⟩ := h_45
          rcases h_45 with ⟨rfl, p_45⟩ | ⟨rfl, p_45⟩
          · refine aw_if_eq (tgt := 55) dX7_addRoom_48 (by decide) (fun c_48 => absurd c_48 (by decide)) (fun _ => ?_)
            refine aw_iconst (v := 1) dX7_addRoom_51 (by decide) ?_
            refine aw_goto (tgt := 56) dX7_addRoom_52 (by decide) ?_
            exact J_56 _ (by first | exact zI_t ⟨p_6, p_18, p_30, p_45⟩ | exact zI_f (fun h => p_6 h.1) | exact zI_f (fun h => p_18 h.2.1) | exact zI_f (fun h => p_30 h.2.2.1) | exact zI_f (fun h => p_45 h.2.2.2))
          · refine aw_if_eq (tgt := 55) dX7_addRoom_48 (by decide) (fun _ => ?_) (fun c_48 => absurd c_48 (by decide))
            refine aw_iconst (v := 0) dX7_addRoom_55 (by decide) ?_
            exact J_56 _ (by first | exact zI_t ⟨p_6, p_18, p_30, p_45⟩ | exact zI_f (fun h => p_6 h.1) | exact zI_f (fun h => p_18 h.2.1) | exact zI_f (fun h => p_30 h.2.2.1) | exact zI_f (fun h => p_45 h.2.2.2))
        · refine aw_if_eq (tgt := 55) dX7_addRoom_33 (by decide) (fun _ => ?_) (fun c_33 => absurd c_33 (by decide))
          refine aw_iconst (v := 0) dX7_addRoom_55 (by decide) ?_
          exact J_56 _ (by first | exact zI_t ⟨p_6, p_18, p_30, p_45⟩ | exact zI_f (fun h => p_6 h.1) | exact zI_f (fun h => p_18 h.2.1) | exact zI_f (fun h => p_30 h.2.2.1) | exact zI_f (fun h => p_45 h.2.2.2))
      · refine aw_if_eq (tgt := 55) dX7_addRoom_21 (by decide) (fun _ => ?_) (fun c_21 => absurd c_21 (by decide))
        refine aw_iconst (v := 0) dX7_addRoom_55 (by decide) ?_
        exact J_56 _ (by first | exact zI_t ⟨p_6, p_18, p_30, p_45⟩ | exact zI_f (fun h => p_6 h.1) | exact zI_f (fun h => p_18 h.2.1) | exact zI_f (fun h => p_30 h.2.2.1) | exact zI_f (fun h => p_45 h.2.2.2))
    · refine aw_if_eq (tgt := 55) dX7_addRoom_9 (by decide) (fun _ => ?_) (fun c_9 => absurd c_9 (by decide))
      refine aw_iconst (v := 0) dX7_addRoom_55 (by decide) ?_
      exact J_56 _ (by first | exact zI_t ⟨p_6, p_18, p_30, p_45⟩ | exact zI_f (fun h => p_6 h.1) | exact zI_f (fun h => p_18 h.2.1) | exact zI_f (fun h => p_30 h.2.2.1) | exact zI_f (fun h => p_45 h.2.2.2))
set_option maxHeartbeats 4000000 in
theorem k_addGroup (σ : Sg) (g : Rw) (nr ng nb t : Nat) (a : Nat) (hM : MS σ) (hw : WF g nr ng nb t) (ha : σ.1 388 9 = nI a) (ha14 : a ≤ 14) : Ct yX7_addGroup cX7_addGroup mX7_addGroup 3 0 0 NN false (sA σ 391 g) [.ref 388] NN (eM σ g (cd1 (ng < 6)) (remT (sI σ 388 0 (cd1 (ng < 6))) g a (fAddGroup g ng)) (nI ng)) XF := by
  refine ct_of (ls0 := [some (.ref 388)]) 0 (by decide +kernel) rfl rfl (ndR nd0) rfl (Nat.le_of_ble_eq_true rfl) (fun K => ?_)
  refine aw_aload0 dX7_addGroup_0 ?_
  refine AW.tern0 (E := (cd1 (ng < 6))) (pc2 := 17) (fun x_17 hx_17 => ?_) (fun J_17 => ?_)
  · subst hx_17
    refine aw_VI1 (k_refusedN _ _ _) dX7_addGroup_17 vl_7_110 rfl (by decide) (by decide) (Nat.le_of_ble_eq_true rfl) (fun σ_17 r_17 h_17 => ?_)
    obtain ⟨rfl, h_17⟩ := h_17
    rcases h_17 with ⟨rfl, p_17⟩ | ⟨rfl, p_17⟩
    · refine aw_if_eq (tgt := 25) dX7_addGroup_20 (by decide) (fun c_20 => absurd c_20 (by decide)) (fun _ => ?_)
      refine aw_iconst (v := 0) dX7_addGroup_23 (by decide) ?_
      exact aw_iret dX7_addGroup_24 rfl (by decide) (eM_r p_17)
    · refine aw_if_eq (tgt := 25) dX7_addGroup_20 (by decide) (fun _ => ?_) (fun c_20 => absurd c_20 (by decide))
      have hab := cd1_z p_17
      refine aw_aload0 dX7_addGroup_25 ?_
      refine aw_VV0 (k_remember _ _ _ hM ha ha14) dX7_addGroup_26 vl_7_172 rfl (by decide) (by decide) (Nat.le_of_ble_eq_true rfl) (fun σ_26 h_26 => ?_)
      obtain rfl := h_26
      refine aw_aload0 dX7_addGroup_29 ?_
      refine aw_getR dX7_addGroup_30 fR_7_16 rfl (by decide) hM.now ?_
      refine aw_bipush (v := 25) dX7_addGroup_33 (by decide) ?_
      refine aw_aload0 dX7_addGroup_35 ?_
      refine aw_getR dX7_addGroup_36 fR_7_16 rfl (by decide) hM.now ?_
      refine aw_iconst (v := 2) dX7_addGroup_39 (by decide) ?_
      refine aw_iald (j := 2) dX7_addGroup_40 rfl (by decide) rfl (by decide) (show _ = nI ng from hw.ng) ?_
      refine aw_iadd dX7_addGroup_41 ?_
      refine aw_iconst (v := 0) dX7_addGroup_42 (by decide) ?_
      refine aw_iast (j := 25 + ng) dX7_addGroup_43 rfl (by decide) (nI_add 25 ng) (by omega) ?_
      refine AW.eqs sI_sA ?_
      
      refine aw_aload0 dX7_addGroup_44 ?_
      refine aw_getR dX7_addGroup_45 fR_7_16 rfl (by decide) hM.now ?_
      refine aw_iconst (v := 2) dX7_addGroup_48 (by decide) ?_
      refine aw_dup2 dX7_addGroup_49 rfl rfl ?_
      refine aw_iald (j := 2) dX7_addGroup_50 rfl (by decide) rfl (by decide) sA_at ?_
      refine aw_iconst (v := 1) dX7_addGroup_51 (by decide) ?_
      refine aw_iadd dX7_addGroup_52 ?_
      refine aw_iast (j := 2) dX7_addGroup_53 rfl (by decide) rfl (by decide) ?_
      refine AW.eqs sI_sA ?_
      refine aw_aload0 dX7_addGroup_54 ?_
      refine aw_getR dX7_addGroup_55 fR_7_16 rfl (by decide) hM.now ?_
      refine aw_iconst (v := 2) dX7_addGroup_58 (by decide) ?_
      refine aw_iald (j := 2) dX7_addGroup_59 rfl (by decide) rfl (by decide) sA_at ?_
      refine aw_iconst (v := 1) dX7_addGroup_60 (by decide) ?_
      refine aw_isub dX7_addGroup_61 ?_
      exact aw_iret dX7_addGroup_62 rfl (by decide) (eM_o (cd1_0 hab) (show nI ng = fAddGroup g ng 2 - 1 from by rw [fAddGroup_2, hw.ng, nI_1]; exact (nI_pred ng).symm))
  · refine aw_aload0 dX7_addGroup_1 ?_
    refine aw_getR dX7_addGroup_2 fR_7_16 rfl (by decide) hM.now ?_
    refine aw_iconst (v := 2) dX7_addGroup_5 (by decide) ?_
    refine aw_iald (j := 2) dX7_addGroup_6 rfl (by decide) rfl (by decide) (sA_at.trans hw.ng) ?_
    refine aw_bipush (v := 6) dX7_addGroup_7 (by decide) ?_
    refine aw_ic_ne (tgt := 16) dX7_addGroup_9 (by decide) (fun c_9 => ?_) (fun c_9 => ?_)
    · refine aw_iconst (v := 0) dX7_addGroup_16 (by decide) ?_
      exact J_17 _ (by first | exact cd1_1 (nlt_of_eq (K := 6) (by have := hw.ng6; omega) (by omega) c_9) | exact cd1_0 (lt_of_neq (K := 6) (by omega) hw.ng6 c_9))
    · refine aw_iconst (v := 1) dX7_addGroup_12 (by decide) ?_
      refine aw_goto (tgt := 17) dX7_addGroup_13 (by decide) ?_
      exact J_17 _ (by first | exact cd1_1 (nlt_of_eq (K := 6) (by have := hw.ng6; omega) (by omega) c_9) | exact cd1_0 (lt_of_neq (K := 6) (by omega) hw.ng6 c_9))
def sound (g : Rw) (f h t0 : Int32) : Prop := (g 0 ≤ f ∧ f ≤ 199) ∧ (1 ≤ h ∧ h ≤ 12) ∧ 12 ≤ t0 ∧ t0 ≤ 25
set_option maxHeartbeats 4000000 in
theorem k_isSound (σ : Sg) (g : Rw) (f h t0 : Int32) (hM : MS σ) : Ct yX7_isSound cX7_isSound mX7_isSound 2 0 0 NN false (sA σ 391 g) [.ref 388, .int f, .int h, .int t0] NN (eZ1 (sA σ 391 g) (sound g f h t0)) XF := by
  refine ct_of (ls0 := [some (.ref 388), some (.int f), some (.int h), some (.int t0)]) 0 (by decide +kernel) rfl rfl (ndR (ndI (ndI (ndI nd0)))) rfl (Nat.le_of_ble_eq_true rfl) (fun K => ?_)
  refine aw_iload1 dX7_isSound_0 ?_
  refine aw_i2l dX7_isSound_1 ?_
  refine aw_aload0 dX7_isSound_2 ?_
  refine aw_getR dX7_isSound_3 fR_7_16 rfl (by decide) hM.now ?_
  refine aw_iconst (v := 0) dX7_isSound_6 (by decide) ?_
  refine aw_iald (j := 0) dX7_isSound_7 rfl (by decide) rfl (by decide) sA_at ?_
  refine aw_i2l dX7_isSound_8 ?_
  refine aw_ldc2 dX7_isSound_9 kl_7_175 ?_
  refine aw_SI3 (k_inC _ _ _ _ (g 0) 199 rfl rfl) dX7_isSound_12 sl_7_103 (by decide) (Nat.le_of_ble_eq_true rfl) (fun σ_12 r_12 h_12 => ?_)
  obtain ⟨rfl, h_12⟩ := h_12
  rcases h_12 with ⟨rfl, p_12⟩ | ⟨rfl, p_12⟩
  · refine aw_if_eq (tgt := 48) dX7_isSound_15 (by decide) (fun c_15 => absurd c_15 (by decide)) (fun _ => ?_)
    refine aw_iload2 dX7_isSound_18 ?_
    refine aw_i2l dX7_isSound_19 ?_
    refine aw_lconst (v := 1) dX7_isSound_20 (by decide) ?_
    refine aw_ldc2 dX7_isSound_21 kl_7_177 ?_
    refine aw_SI3 (k_inC _ _ _ _ 1 12 rfl rfl) dX7_isSound_24 sl_7_103 (by decide) (Nat.le_of_ble_eq_true rfl) (fun σ_24 r_24 h_24 => ?_)
    obtain ⟨rfl, h_24⟩ := h_24
    rcases h_24 with ⟨rfl, p_24⟩ | ⟨rfl, p_24⟩
    · refine aw_if_eq (tgt := 48) dX7_isSound_27 (by decide) (fun c_27 => absurd c_27 (by decide)) (fun _ => ?_)
      refine aw_iload3 dX7_isSound_30 ?_
      refine aw_i2l dX7_isSound_31 ?_
      refine aw_ldc2 dX7_isSound_32 kl_7_177 ?_
      refine aw_ldc2 dX7_isSound_35 kl_7_179 ?_
      refine aw_SI3 (k_inC _ _ _ _ 12 25 rfl rfl) dX7_isSound_38 sl_7_103 (by decide) (Nat.le_of_ble_eq_true rfl) (fun σ_38 r_38 h_38 => ?_)
      obtain ⟨rfl, h_38⟩ := h_38
      rcases h_38 with ⟨rfl, p_38⟩ | ⟨rfl, p_38⟩
      · refine aw_if_eq (tgt := 48) dX7_isSound_41 (by decide) (fun c_41 => absurd c_41 (by decide)) (fun _ => ?_)
        refine aw_iconst (v := 1) dX7_isSound_44 (by decide) ?_
        refine aw_goto (tgt := 49) dX7_isSound_45 (by decide) ?_
        exact aw_zret dX7_isSound_49 rfl (by decide) (by decide) (eZ_1 ⟨p_12, p_24, p_38⟩)
      · refine aw_if_eq (tgt := 48) dX7_isSound_41 (by decide) (fun _ => ?_) (fun c_41 => absurd c_41 (by decide))
        refine aw_iconst (v := 0) dX7_isSound_48 (by decide) ?_
        exact aw_zret dX7_isSound_49 rfl (by decide) (by decide) (eZ_0 (fun h => by first | exact p_12 h.1 | exact p_24 h.2.1 | exact p_38 h.2.2))
    · refine aw_if_eq (tgt := 48) dX7_isSound_27 (by decide) (fun _ => ?_) (fun c_27 => absurd c_27 (by decide))
      refine aw_iconst (v := 0) dX7_isSound_48 (by decide) ?_
      exact aw_zret dX7_isSound_49 rfl (by decide) (by decide) (eZ_0 (fun h => by first | exact p_12 h.1 | exact p_24 h.2.1 | exact p_38 h.2.2))
  · refine aw_if_eq (tgt := 48) dX7_isSound_15 (by decide) (fun _ => ?_) (fun c_15 => absurd c_15 (by decide))
    refine aw_iconst (v := 0) dX7_isSound_48 (by decide) ?_
    exact aw_zret dX7_isSound_49 rfl (by decide) (by decide) (eZ_0 (fun h => by first | exact p_12 h.1 | exact p_24 h.2.1 | exact p_38 h.2.2))
set_option maxHeartbeats 4000000 in
theorem k_book (σ : Sg) (g : Rw) (nr ng nb t : Nat) (a : Nat) (r w f h t0 : Int32) (hM : MS σ) (hw : WF g nr ng nb t) (ha : σ.1 388 9 = nI a) (ha14 : a ≤ 14) : Ct yX7_book cX7_book mX7_book 6 0 0 NN false (sA σ 391 g) [.ref 388, .int r, .int w, .int f, .int h, .int t0] NN (eM σ g (cd3 (isN r nr ∧ isN w ng) (sound g f h t0) (nb < 12 ∧ fFree g r f h nb)) (remT (sI σ 388 0 (cd3 (isN r nr ∧ isN w ng) (sound g f h t0) (nb < 12 ∧ fFree g r f h nb))) g a (fBookTo g nb r w f h t0)) (nI nb)) XF := by
  refine ct_of (ls0 := [some (.ref 388), some (.int r), some (.int w), some (.int f), some (.int h), some (.int t0), none]) 1 (by decide +kernel) rfl rfl (ndR (ndI (ndI (ndI (ndI (ndI nd0)))))) rfl (Nat.le_of_ble_eq_true rfl) (fun K => ?_)
  refine AW.tern0 (E := (zI (isN r nr ∧ isN w ng))) (pc2 := 21) (fun x_21 hx_21 => ?_) (fun J_21 => ?_)
  · subst hx_21
    refine aw_istore6 dX7_book_21 (by decide) rfl ?_
    refine aw_aload0 dX7_book_23 ?_
    refine AW.tern0 (E := (cd3 (isN r nr ∧ isN w ng) (sound g f h t0) (nb < 12 ∧ fFree g r f h nb))) (pc2 := 68) (fun x_68 hx_68 => ?_) (fun J_68 => ?_)
    · subst hx_68
      refine aw_VI1 (k_refusedN _ _ _) dX7_book_68 vl_7_110 rfl (by decide) (by decide) (Nat.le_of_ble_eq_true rfl) (fun σ_68 r_68 h_68 => ?_)
      obtain ⟨rfl, h_68⟩ := h_68
      rcases h_68 with ⟨rfl, p_68⟩ | ⟨rfl, p_68⟩
      · refine aw_if_eq (tgt := 76) dX7_book_71 (by decide) (fun c_71 => absurd c_71 (by decide)) (fun _ => ?_)
        refine aw_iconst (v := 0) dX7_book_74 (by decide) ?_
        exact aw_iret dX7_book_75 rfl (by decide) (eM_r p_68)
      · refine aw_if_eq (tgt := 76) dX7_book_71 (by decide) (fun _ => ?_) (fun c_71 => absurd c_71 (by decide))
        have hab := cd3_z p_68
        have hnb12 := hab.2.2.1
        refine aw_aload0 dX7_book_76 ?_
        refine aw_VV0 (k_remember _ _ _ hM ha ha14) dX7_book_77 vl_7_172 rfl (by decide) (by decide) (Nat.le_of_ble_eq_true rfl) (fun σ_77 h_77 => ?_)
        obtain rfl := h_77
        refine aw_aload0 dX7_book_80 ?_
        refine aw_getR dX7_book_81 fR_7_16 rfl (by decide) hM.now ?_
        refine aw_iload1 dX7_book_84 ?_
        refine aw_iload2 dX7_book_85 ?_
        refine aw_iload3 dX7_book_86 ?_
        refine aw_iload4 dX7_book_87 ?_
        refine aw_iload5 dX7_book_89 ?_
        refine aw_SV6 (k_bookTo _ 391 _ _ _ _ _ _ _ rfl (by decide) hw.nb hnb12) dX7_book_91 sl_7_140 (by decide) (Nat.le_of_ble_eq_true rfl) (fun σ_91 h_91 => ?_)
        obtain rfl := h_91
        refine aw_aload0 dX7_book_94 ?_
        refine aw_getR dX7_book_95 fR_7_16 rfl (by decide) hM.now ?_
        refine aw_iconst (v := 3) dX7_book_98 (by decide) ?_
        refine aw_iald (j := 3) dX7_book_99 rfl (by decide) rfl (by decide) sA_at ?_
        refine aw_iconst (v := 1) dX7_book_100 (by decide) ?_
        refine aw_isub dX7_book_101 ?_
        exact aw_iret dX7_book_102 rfl (by decide) (eM_o (cd3_0 hab.1 hab.2.1 hab.2.2) (show nI nb = fBookTo g nb r w f h t0 3 - 1 from by rw [fBookTo_3, hw.nb, nI_1]; exact (nI_pred nb).symm))
    · refine aw_iload6 dX7_book_24 ?_
      refine aw_if_ne (tgt := 33) dX7_book_26 (by decide) (fun c_26 => ?_) (fun c_26 => ?_)
      · refine aw_aload0 dX7_book_33 ?_
        refine aw_iload3 dX7_book_34 ?_
        refine aw_iload4 dX7_book_35 ?_
        refine aw_iload5 dX7_book_37 ?_
        refine aw_VI3 (k_isSound _ _ _ _ _ hM) dX7_book_39 vl_7_181 rfl (by decide) (by decide) (Nat.le_of_ble_eq_true rfl) (fun σ_39 r_39 h_39 => ?_)
        obtain ⟨rfl, h_39⟩ := h_39
        rcases h_39 with ⟨rfl, p_39⟩ | ⟨rfl, p_39⟩
        · refine aw_if_ne (tgt := 49) dX7_book_42 (by decide) (fun _ => ?_) (fun c_42 => absurd c_42 (by decide))
          refine aw_aload0 dX7_book_49 ?_
          refine aw_getR dX7_book_50 fR_7_16 rfl (by decide) hM.now ?_
          refine aw_iload1 dX7_book_53 ?_
          refine aw_iload3 dX7_book_54 ?_
          refine aw_iload4 dX7_book_55 ?_
          refine aw_SI4 (k_canBook _ 391 _ _ _ _ _ rfl (by decide) hw.nb hw.nb12) dX7_book_57 sl_7_185 (by decide) (Nat.le_of_ble_eq_true rfl) (fun σ_57 r_57 h_57 => ?_)
          obtain ⟨rfl, h_57⟩ := h_57
          rcases h_57 with ⟨rfl, p_57⟩ | ⟨rfl, p_57⟩
          · refine aw_if_eq (tgt := 67) dX7_book_60 (by decide) (fun c_60 => absurd c_60 (by decide)) (fun _ => ?_)
            refine aw_iconst (v := 0) dX7_book_63 (by decide) ?_
            refine aw_goto (tgt := 68) dX7_book_64 (by decide) ?_
            exact J_68 _ (by first | exact cd3_1 (zI_0 c_26) | exact cd3_2 (zI_1 c_26) p_39 | exact cd3_3 (zI_1 c_26) p_39 p_57 | exact cd3_0 (zI_1 c_26) p_39 p_57)
          · refine aw_if_eq (tgt := 67) dX7_book_60 (by decide) (fun _ => ?_) (fun c_60 => absurd c_60 (by decide))
            refine aw_iconst (v := 3) dX7_book_67 (by decide) ?_
            exact J_68 _ (by first | exact cd3_1 (zI_0 c_26) | exact cd3_2 (zI_1 c_26) p_39 | exact cd3_3 (zI_1 c_26) p_39 p_57 | exact cd3_0 (zI_1 c_26) p_39 p_57)
        · refine aw_if_ne (tgt := 49) dX7_book_42 (by decide) (fun c_42 => absurd c_42 (by decide)) (fun _ => ?_)
          refine aw_iconst (v := 2) dX7_book_45 (by decide) ?_
          refine aw_goto (tgt := 68) dX7_book_46 (by decide) ?_
          exact J_68 _ (by first | exact cd3_1 (zI_0 c_26) | exact cd3_2 (zI_1 c_26) p_39 | exact cd3_3 (zI_1 c_26) p_39 p_57 | exact cd3_0 (zI_1 c_26) p_39 p_57)
      · refine aw_iconst (v := 1) dX7_book_29 (by decide) ?_
        refine aw_goto (tgt := 68) dX7_book_30 (by decide) ?_
        exact J_68 _ (by first | exact cd3_1 (zI_0 c_26) | exact cd3_2 (zI_1 c_26) p_39 | exact cd3_3 (zI_1 c_26) p_39 p_57 | exact cd3_0 (zI_1 c_26) p_39 p_57)
  · refine aw_aload0 dX7_book_0 ?_
    refine aw_iload1 dX7_book_1 ?_
    refine aw_VI1 (k_isRoom _ _ _ _ hM hw.nr (by have := hw.nr4; omega)) dX7_book_2 vl_7_157 rfl (by decide) (by decide) (Nat.le_of_ble_eq_true rfl) (fun σ_2 r_2 h_2 => ?_)
    obtain ⟨rfl, h_2⟩ := h_2
    rcases h_2 with ⟨rfl, p_2⟩ | ⟨rfl, p_2⟩
    · refine aw_if_eq (tgt := 20) dX7_book_5 (by decide) (fun c_5 => absurd c_5 (by decide)) (fun _ => ?_)
      refine aw_aload0 dX7_book_8 ?_
      refine aw_iload2 dX7_book_9 ?_
      refine aw_VI1 (k_isGroup _ _ _ _ hM hw.ng (by have := hw.ng6; omega)) dX7_book_10 vl_7_162 rfl (by decide) (by decide) (Nat.le_of_ble_eq_true rfl) (fun σ_10 r_10 h_10 => ?_)
      obtain ⟨rfl, h_10⟩ := h_10
      rcases h_10 with ⟨rfl, p_10⟩ | ⟨rfl, p_10⟩
      · refine aw_if_eq (tgt := 20) dX7_book_13 (by decide) (fun c_13 => absurd c_13 (by decide)) (fun _ => ?_)
        refine aw_iconst (v := 1) dX7_book_16 (by decide) ?_
        refine aw_goto (tgt := 21) dX7_book_17 (by decide) ?_
        exact J_21 _ (by first | exact zI_t ⟨p_2, p_10⟩ | exact zI_f (fun h => p_2 h.1) | exact zI_f (fun h => p_10 h.2))
      · refine aw_if_eq (tgt := 20) dX7_book_13 (by decide) (fun _ => ?_) (fun c_13 => absurd c_13 (by decide))
        refine aw_iconst (v := 0) dX7_book_20 (by decide) ?_
        exact J_21 _ (by first | exact zI_t ⟨p_2, p_10⟩ | exact zI_f (fun h => p_2 h.1) | exact zI_f (fun h => p_10 h.2))
    · refine aw_if_eq (tgt := 20) dX7_book_5 (by decide) (fun _ => ?_) (fun c_5 => absurd c_5 (by decide))
      refine aw_iconst (v := 0) dX7_book_20 (by decide) ?_
      exact J_21 _ (by first | exact zI_t ⟨p_2, p_10⟩ | exact zI_f (fun h => p_2 h.1) | exact zI_f (fun h => p_10 h.2))
def goesP (g : Rw) (b : Nat) : Prop := g (31 + 10 * b + 9) = 0 ∧ g 0 ≤ g (31 + 10 * b + 2)
set_option maxHeartbeats 4000000 in
theorem k_cancel (σ : Sg) (g : Rw) (nr ng nb t : Nat) (a : Nat) (b : Int32) (hM : MS σ) (hw : WF g nr ng nb t) (ha : σ.1 388 9 = nI a) (ha14 : a ≤ 14) : Ct yX7_cancel cX7_cancel mX7_cancel 5 0 0 NN false (sA σ 391 g) [.ref 388, .int b] NN (eM σ g (cd2 (isN b nb) (goesP g (cN b))) (remT (sI σ 388 0 (cd2 (isN b nb) (goesP g (cN b)))) g a (fDrop g (cN b))) (fDrop g (cN b) 3)) XF := by
  refine ct_of (ls0 := [some (.ref 388), some (.int b)]) 0 (by decide +kernel) rfl rfl (ndR (ndI nd0)) rfl (Nat.le_of_ble_eq_true rfl) (fun K => ?_)
  refine aw_aload0 dX7_cancel_0 ?_
  refine AW.tern0 (E := (cd2 (isN b nb) (goesP g (cN b)))) (pc2 := 29) (fun x_29 hx_29 => ?_) (fun J_29 => ?_)
  · subst hx_29
    refine aw_VI1 (k_refusedN _ _ _) dX7_cancel_29 vl_7_110 rfl (by decide) (by decide) (Nat.le_of_ble_eq_true rfl) (fun σ_29 r_29 h_29 => ?_)
    obtain ⟨rfl, h_29⟩ := h_29
    rcases h_29 with ⟨rfl, p_29⟩ | ⟨rfl, p_29⟩
    · refine aw_if_eq (tgt := 37) dX7_cancel_32 (by decide) (fun c_32 => absurd c_32 (by decide)) (fun _ => ?_)
      refine aw_iconst (v := 0) dX7_cancel_35 (by decide) ?_
      exact aw_iret dX7_cancel_36 rfl (by decide) (eM_r p_29)
    · refine aw_if_eq (tgt := 37) dX7_cancel_32 (by decide) (fun _ => ?_) (fun c_32 => absurd c_32 (by decide))
      have hab := cd2_z p_29
      obtain ⟨k, hk, rfl⟩ := hab.1
      have hnb12 := hw.nb12
      rw [cN, nI_clamp (by omega)] at hab ⊢
      refine aw_aload0 dX7_cancel_37 ?_
      refine aw_VV0 (k_remember _ _ _ hM ha ha14) dX7_cancel_38 vl_7_172 rfl (by decide) (by decide) (Nat.le_of_ble_eq_true rfl) (fun σ_38 h_38 => ?_)
      obtain rfl := h_38
      refine aw_aload0 dX7_cancel_41 ?_
      refine aw_getR dX7_cancel_42 fR_7_16 rfl (by decide) hM.now ?_
      refine aw_iload1 dX7_cancel_45 ?_
      refine aw_SV2 (k_drop _ 391 _ k rfl (by decide) (by omega)) dX7_cancel_46 sl_7_191 (by decide) (Nat.le_of_ble_eq_true rfl) (fun σ_46 h_46 => ?_)
      obtain rfl := h_46
      refine aw_aload0 dX7_cancel_49 ?_
      refine aw_getR dX7_cancel_50 fR_7_16 rfl (by decide) hM.now ?_
      refine aw_iconst (v := 3) dX7_cancel_53 (by decide) ?_
      refine aw_iald (j := 3) dX7_cancel_54 rfl (by decide) rfl (by decide) sA_at ?_
      exact aw_iret dX7_cancel_55 rfl (by decide) (eM_o (cd2_0 hab.1 hab.2) rfl)
  · refine aw_aload0 dX7_cancel_1 ?_
    refine aw_iload1 dX7_cancel_2 ?_
    refine aw_VI1 (k_isBooking _ _ _ _ hM hw.nb (by have := hw.nb12; omega)) dX7_cancel_3 vl_7_165 rfl (by decide) (by decide) (Nat.le_of_ble_eq_true rfl) (fun σ_3 r_3 h_3 => ?_)
    obtain ⟨rfl, h_3⟩ := h_3
    rcases h_3 with ⟨rfl, p_3⟩ | ⟨rfl, p_3⟩
    · refine aw_if_ne (tgt := 13) dX7_cancel_6 (by decide) (fun _ => ?_) (fun c_6 => absurd c_6 (by decide))
      obtain ⟨k, hk, rfl⟩ := p_3
      have hnb12 := hw.nb12
      refine aw_aload0 dX7_cancel_13 ?_
      refine aw_getR dX7_cancel_14 fR_7_16 rfl (by decide) hM.now ?_
      refine aw_iload1 dX7_cancel_17 ?_
      refine aw_SI2 (k_canCancel _ 391 _ k rfl (by decide) (by omega)) dX7_cancel_18 sl_7_188 (by decide) (Nat.le_of_ble_eq_true rfl) (fun σ_18 r_18 h_18 => ?_)
      obtain ⟨rfl, h_18⟩ := h_18
      rcases h_18 with ⟨rfl, p_18⟩ | ⟨rfl, p_18⟩
      · have hq := p_18
        rw [show k = cN (nI k) from (nI_clamp (by omega)).symm] at hq
        refine aw_if_eq (tgt := 28) dX7_cancel_21 (by decide) (fun c_21 => absurd c_21 (by decide)) (fun _ => ?_)
        refine aw_iconst (v := 0) dX7_cancel_24 (by decide) ?_
        refine aw_goto (tgt := 29) dX7_cancel_25 (by decide) ?_
        exact J_29 _ (by first | exact cd2_1 p_3 | exact cd2_2 ⟨k, hk, rfl⟩ hq | exact cd2_0 ⟨k, hk, rfl⟩ hq)
      · have hq := p_18
        rw [show k = cN (nI k) from (nI_clamp (by omega)).symm] at hq
        refine aw_if_eq (tgt := 28) dX7_cancel_21 (by decide) (fun _ => ?_) (fun c_21 => absurd c_21 (by decide))
        refine aw_iconst (v := 2) dX7_cancel_28 (by decide) ?_
        exact J_29 _ (by first | exact cd2_1 p_3 | exact cd2_2 ⟨k, hk, rfl⟩ hq | exact cd2_0 ⟨k, hk, rfl⟩ hq)
    · refine aw_if_ne (tgt := 13) dX7_cancel_6 (by decide) (fun c_6 => absurd c_6 (by decide)) (fun _ => ?_)
      refine aw_iconst (v := 1) dX7_cancel_9 (by decide) ?_
      refine aw_goto (tgt := 29) dX7_cancel_10 (by decide) ?_
      exact J_29 _ (by first | exact cd2_1 p_3 | exact cd2_2 ⟨k, hk, rfl⟩ hq | exact cd2_0 ⟨k, hk, rfl⟩ hq)
set_option maxHeartbeats 4000000 in
theorem k_prove (σ : Sg) (g : Rw) (nr ng nb t : Nat) (a : Nat) (r is : Int32) (hM : MS σ) (hw : WF g nr ng nb t) (ha : σ.1 388 9 = nI a) (ha14 : a ≤ 14) : Ct yX7_prove cX7_prove mX7_prove 5 0 0 NN false (sA σ 391 g) [.ref 388, .int r, .int is] NN (rI fun σ2 v => (¬ (cd2 (isN r nr) (∃ b, fCur g (cN r) nb = some b)) = 0 ∧ sA (sI σ 388 0 (cd2 (isN r nr) (∃ b, fCur g (cN r) nb = some b))) 391 g = σ2) ∨ ((cd2 (isN r nr) (∃ b, fCur g (cN r) nb = some b)) = 0 ∧ ∃ b, fCur g (cN r) nb = some b ∧ remT (sI σ 388 0 (cd2 (isN r nr) (∃ b, fCur g (cN r) nb = some b))) g a (upd g (31 + 10 * b + 7) (if is = 0 then 0 else 1)) = σ2 ∧ nI b = v)) XF := by
  refine ct_of (ls0 := [some (.ref 388), some (.int r), some (.int is), none]) 1 (by decide +kernel) rfl rfl (ndR (ndI (ndI nd0))) rfl (Nat.le_of_ble_eq_true rfl) (fun K => ?_)
  refine aw_aload0 dX7_prove_0 ?_
  refine AW.tern0 (E := (cd2 (isN r nr) (∃ b, fCur g (cN r) nb = some b))) (pc2 := 31) (fun x_31 hx_31 => ?_) (fun J_31 => ?_)
  · subst hx_31
    refine aw_VI1 (k_refusedN _ _ _) dX7_prove_31 vl_7_110 rfl (by decide) (by decide) (Nat.le_of_ble_eq_true rfl) (fun σ_31 r_31 h_31 => ?_)
    obtain ⟨rfl, h_31⟩ := h_31
    rcases h_31 with ⟨rfl, p_31⟩ | ⟨rfl, p_31⟩
    · refine aw_if_eq (tgt := 39) dX7_prove_34 (by decide) (fun c_34 => absurd c_34 (by decide)) (fun _ => ?_)
      refine aw_iconst (v := 0) dX7_prove_37 (by decide) ?_
      exact aw_iret dX7_prove_38 rfl (by decide) ⟨_, rfl, Or.inl ⟨cd_ne p_31, rfl⟩⟩
    · refine aw_if_eq (tgt := 39) dX7_prove_34 (by decide) (fun _ => ?_) (fun c_34 => absurd c_34 (by decide))
      have hab := cd2_z p_31
      obtain ⟨k, hk, rfl⟩ := hab.1
      obtain ⟨b, hb⟩ := hab.2
      have hnb12 := hw.nb12
      have hnr4 := hw.nr4
      rw [show cN (nI k) = k from nI_clamp (by omega)] at hb hab ⊢
      have hbn := fCur_lt hb
      refine aw_aload0 dX7_prove_39 ?_
      refine aw_VV0 (k_remember _ _ _ hM ha ha14) dX7_prove_40 vl_7_172 rfl (by decide) (by decide) (Nat.le_of_ble_eq_true rfl) (fun σ_40 h_40 => ?_)
      obtain rfl := h_40
      refine aw_aload0 dX7_prove_43 ?_
      refine aw_getR dX7_prove_44 fR_7_16 rfl (by decide) hM.now ?_
      refine aw_iload1 dX7_prove_47 ?_
      refine aw_SI2 (k_currentOf _ 391 _ k _ rfl (by decide) hw.nb hw.nb12) dX7_prove_48 sl_7_67 (by decide) (Nat.le_of_ble_eq_true rfl) (fun σ_48 r_48 h_48 => ?_)
      obtain ⟨rfl, h_48⟩ := h_48
      rw [hb] at h_48
      have h_48 : nI b = r_48 := h_48
      subst h_48
      refine aw_istore3 dX7_prove_51 (by decide) rfl ?_
      refine aw_aload0 dX7_prove_52 ?_
      refine aw_getR dX7_prove_53 fR_7_16 rfl (by decide) hM.now ?_
      refine aw_iload3 dX7_prove_56 ?_
      refine aw_bipush (v := 7) dX7_prove_57 (by decide) ?_
      refine aw_SI2 (k_bookAt _ _ 7) dX7_prove_59 sl_7_49 (by decide) (Nat.le_of_ble_eq_true rfl) (fun σ_59 r_59 h_59 => ?_)
      obtain ⟨rfl, rfl⟩ := h_59
      refine aw_iload2 dX7_prove_62 ?_
      refine aw_if_eq (tgt := 70) dX7_prove_63 (by decide) (fun c_63 => ?_) (fun c_63 => ?_)
      · refine aw_iconst (v := 0) dX7_prove_70 (by decide) ?_
        refine aw_iast dX7_prove_71 rfl (by decide) rfl (by omega) ?_
        refine AW.eqs sI_sA ?_
        refine aw_iload3 dX7_prove_72 ?_
        exact aw_iret dX7_prove_73 rfl (by decide) ⟨_, rfl, Or.inr ⟨(cd2_0 hab.1 hab.2).symm, b, hb, (by first | (rw [if_pos c_63]; rfl) | (rw [if_neg c_63]; rfl)), rfl⟩⟩
      · refine aw_iconst (v := 1) dX7_prove_66 (by decide) ?_
        refine aw_goto (tgt := 71) dX7_prove_67 (by decide) ?_
        refine aw_iast dX7_prove_71 rfl (by decide) rfl (by omega) ?_
        refine AW.eqs sI_sA ?_
        refine aw_iload3 dX7_prove_72 ?_
        exact aw_iret dX7_prove_73 rfl (by decide) ⟨_, rfl, Or.inr ⟨(cd2_0 hab.1 hab.2).symm, b, hb, (by first | (rw [if_pos c_63]; rfl) | (rw [if_neg c_63]; rfl)), rfl⟩⟩
  · refine aw_aload0 dX7_prove_1 ?_
    refine aw_iload1 dX7_prove_2 ?_
    refine aw_VI1 (k_isRoom _ _ _ _ hM hw.nr (by have := hw.nr4; omega)) dX7_prove_3 vl_7_157 rfl (by decide) (by decide) (Nat.le_of_ble_eq_true rfl) (fun σ_3 r_3 h_3 => ?_)
    obtain ⟨rfl, h_3⟩ := h_3
    rcases h_3 with ⟨rfl, p_3⟩ | ⟨rfl, p_3⟩
    · refine aw_if_ne (tgt := 13) dX7_prove_6 (by decide) (fun _ => ?_) (fun c_6 => absurd c_6 (by decide))
      obtain ⟨k, hk, rfl⟩ := p_3
      have hnb12 := hw.nb12
      have hnr4 := hw.nr4
      have hcn : cN (nI k) = k := nI_clamp (by omega)
      refine aw_aload0 dX7_prove_13 ?_
      refine aw_getR dX7_prove_14 fR_7_16 rfl (by decide) hM.now ?_
      refine aw_iload1 dX7_prove_17 ?_
      refine aw_SI2 (k_currentOf _ 391 _ _ _ rfl (by decide) hw.nb hw.nb12) dX7_prove_18 sl_7_67 (by decide) (Nat.le_of_ble_eq_true rfl) (fun σ_18 r_18 h_18 => ?_)
      obtain ⟨rfl, rfl⟩ := h_18
      refine aw_bipush (v := (-99)) dX7_prove_21 (by decide) ?_
      refine aw_ic_ne (tgt := 30) dX7_prove_23 (by decide) (fun c_23 => ?_) (fun c_23 => ?_)
      · have hq : ∃ b, fCur g (cN (nI k)) nb = some b := by
          rw [hcn]
          exact oI_s c_23
        refine aw_iconst (v := 0) dX7_prove_30 (by decide) ?_
        exact J_31 _ (by first | exact cd2_1 p_3 | exact cd2_2 ⟨k, hk, rfl⟩ hq | exact cd2_0 ⟨k, hk, rfl⟩ hq)
      · have hq : ¬ ∃ b, fCur g (cN (nI k)) nb = some b := by
          rw [hcn]
          rintro ⟨b, hb⟩
          rw [oI_n (fun f hf => by have := fCur_lt hf; omega) c_23] at hb
          cases hb
        refine aw_iconst (v := 2) dX7_prove_26 (by decide) ?_
        refine aw_goto (tgt := 31) dX7_prove_27 (by decide) ?_
        exact J_31 _ (by first | exact cd2_1 p_3 | exact cd2_2 ⟨k, hk, rfl⟩ hq | exact cd2_0 ⟨k, hk, rfl⟩ hq)
    · refine aw_if_ne (tgt := 13) dX7_prove_6 (by decide) (fun c_6 => absurd c_6 (by decide)) (fun _ => ?_)
      refine aw_iconst (v := 1) dX7_prove_9 (by decide) ?_
      refine aw_goto (tgt := 31) dX7_prove_10 (by decide) ?_
      exact J_31 _ (by first | exact cd2_1 p_3 | exact cd2_2 ⟨k, hk, rfl⟩ hq | exact cd2_0 ⟨k, hk, rfl⟩ hq)
set_option maxHeartbeats 4000000 in
theorem k_isOutside (σ : Sg) (t0 : Int32) : Ct yX7_isOutside cX7_isOutside mX7_isOutside 2 0 0 NN false σ [.int t0] NN (eZ1 σ (-20 ≤ t0 ∧ t0 ≤ 25)) XF := by
  refine ct_of (ls0 := [some (.int t0)]) 0 (by decide +kernel) rfl rfl (ndI nd0) rfl (Nat.le_of_ble_eq_true rfl) (fun K => ?_)
  refine aw_iload0 dX7_isOutside_0 ?_
  refine aw_i2l dX7_isOutside_1 ?_
  refine aw_ldc2 dX7_isOutside_2 kl_7_194 ?_
  refine aw_ldc2 dX7_isOutside_5 kl_7_179 ?_
  refine aw_SI3 (k_inC _ _ _ _ (-20) 25 rfl rfl) dX7_isOutside_8 sl_7_103 (by decide) (Nat.le_of_ble_eq_true rfl) (fun σ_8 r_8 h_8 => ?_)
  obtain ⟨rfl, h_8⟩ := h_8
  have h_8 : (r_8 = 1 ∧ (-20 ≤ t0 ∧ t0 ≤ 25)) ∨ (r_8 = 0 ∧ ¬ (-20 ≤ t0 ∧ t0 ≤ 25)) := h_8
  exact aw_zret dX7_isOutside_11 rfl (h_8.elim (fun h => Or.inr h.1) (fun h => Or.inl h.1)) (by decide) ⟨_, rfl, rfl, h_8⟩
set_option maxHeartbeats 4000000 in
theorem k_outside (σ : Sg) (g : Rw) (a : Nat) (t0 : Int32) (hM : MS σ) (ha : σ.1 388 9 = nI a) (ha14 : a ≤ 14) : Ct yX7_outside cX7_outside mX7_outside 3 0 0 NN false (sA σ 391 g) [.ref 388, .int t0] NN (eM σ g (cd1 (-20 ≤ t0 ∧ t0 ≤ 25)) (remT (sI σ 388 0 (cd1 (-20 ≤ t0 ∧ t0 ≤ 25))) g a (upd g 4 t0)) (g 4)) XF := by
  refine ct_of (ls0 := [some (.ref 388), some (.int t0), none]) 1 (by decide +kernel) rfl rfl (ndR (ndI nd0)) rfl (Nat.le_of_ble_eq_true rfl) (fun K => ?_)
  refine aw_aload0 dX7_outside_0 ?_
  refine AW.tern0 (E := (cd1 (-20 ≤ t0 ∧ t0 ≤ 25))) (pc2 := 13) (fun x_13 hx_13 => ?_) (fun J_13 => ?_)
  · subst hx_13
    refine aw_VI1 (k_refusedN _ _ _) dX7_outside_13 vl_7_110 rfl (by decide) (by decide) (Nat.le_of_ble_eq_true rfl) (fun σ_13 r_13 h_13 => ?_)
    obtain ⟨rfl, h_13⟩ := h_13
    rcases h_13 with ⟨rfl, p_13⟩ | ⟨rfl, p_13⟩
    · refine aw_if_eq (tgt := 21) dX7_outside_16 (by decide) (fun c_16 => absurd c_16 (by decide)) (fun _ => ?_)
      refine aw_iconst (v := 0) dX7_outside_19 (by decide) ?_
      exact aw_iret dX7_outside_20 rfl (by decide) (eM_r p_13)
    · refine aw_if_eq (tgt := 21) dX7_outside_16 (by decide) (fun _ => ?_) (fun c_16 => absurd c_16 (by decide))
      have hab := cd1_z p_13
      refine aw_aload0 dX7_outside_21 ?_
      refine aw_VV0 (k_remember _ _ _ hM ha ha14) dX7_outside_22 vl_7_172 rfl (by decide) (by decide) (Nat.le_of_ble_eq_true rfl) (fun σ_22 h_22 => ?_)
      obtain rfl := h_22
      refine aw_aload0 dX7_outside_25 ?_
      refine aw_getR dX7_outside_26 fR_7_16 rfl (by decide) hM.now ?_
      refine aw_iconst (v := 4) dX7_outside_29 (by decide) ?_
      refine aw_iald (j := 4) dX7_outside_30 rfl (by decide) rfl (by decide) (show _ = g 4 from rfl) ?_
      refine aw_istore2 dX7_outside_31 (by decide) rfl ?_
      refine aw_aload0 dX7_outside_32 ?_
      refine aw_getR dX7_outside_33 fR_7_16 rfl (by decide) hM.now ?_
      refine aw_iconst (v := 4) dX7_outside_36 (by decide) ?_
      refine aw_iload1 dX7_outside_37 ?_
      refine aw_iast (j := 4) dX7_outside_38 rfl (by decide) rfl (by decide) ?_
      refine AW.eqs sI_sA ?_
      refine aw_iload2 dX7_outside_39 ?_
      exact aw_iret dX7_outside_40 rfl (by decide) (eM_o (cd1_0 hab) rfl)
  · refine aw_iload1 dX7_outside_1 ?_
    refine aw_SI1 (k_isOutside _ _) dX7_outside_2 sl_7_196 (by decide) (Nat.le_of_ble_eq_true rfl) (fun σ_2 r_2 h_2 => ?_)
    obtain ⟨rfl, h_2⟩ := h_2
    rcases h_2 with ⟨rfl, p_2⟩ | ⟨rfl, p_2⟩
    · refine aw_if_eq (tgt := 12) dX7_outside_5 (by decide) (fun c_5 => absurd c_5 (by decide)) (fun _ => ?_)
      refine aw_iconst (v := 0) dX7_outside_8 (by decide) ?_
      refine aw_goto (tgt := 13) dX7_outside_9 (by decide) ?_
      exact J_13 _ (by first | exact cd1_0 p_2 | exact cd1_1 p_2)
    · refine aw_if_eq (tgt := 12) dX7_outside_5 (by decide) (fun _ => ?_) (fun c_5 => absurd c_5 (by decide))
      refine aw_iconst (v := 1) dX7_outside_12 (by decide) ?_
      exact J_13 _ (by first | exact cd1_0 p_2 | exact cd1_1 p_2)
set_option maxHeartbeats 4000000 in
theorem k_pay (σ : Sg) (g : Rw) (nr ng nb t : Nat) (a : Nat) (w : Int32) (hM : MS σ) (hw : WF g nr ng nb t) (ha : σ.1 388 9 = nI a) (ha14 : a ≤ 14) : Ct yX7_pay cX7_pay mX7_pay 3 0 0 NN false (sA σ 391 g) [.ref 388, .int w] NN (eM σ g (cd1 (isN w ng)) (remT (sI σ 388 0 (cd1 (isN w ng))) g a (upd g (25 + cN w) 0)) (g (25 + cN w))) XF := by
  refine ct_of (ls0 := [some (.ref 388), some (.int w), none]) 1 (by decide +kernel) rfl rfl (ndR (ndI nd0)) rfl (Nat.le_of_ble_eq_true rfl) (fun K => ?_)
  refine aw_aload0 dX7_pay_0 ?_
  refine AW.tern0 (E := (cd1 (isN w ng))) (pc2 := 14) (fun x_14 hx_14 => ?_) (fun J_14 => ?_)
  · subst hx_14
    refine aw_VI1 (k_refusedN _ _ _) dX7_pay_14 vl_7_110 rfl (by decide) (by decide) (Nat.le_of_ble_eq_true rfl) (fun σ_14 r_14 h_14 => ?_)
    obtain ⟨rfl, h_14⟩ := h_14
    rcases h_14 with ⟨rfl, p_14⟩ | ⟨rfl, p_14⟩
    · refine aw_if_eq (tgt := 22) dX7_pay_17 (by decide) (fun c_17 => absurd c_17 (by decide)) (fun _ => ?_)
      refine aw_iconst (v := 0) dX7_pay_20 (by decide) ?_
      exact aw_iret dX7_pay_21 rfl (by decide) (eM_r p_14)
    · refine aw_if_eq (tgt := 22) dX7_pay_17 (by decide) (fun _ => ?_) (fun c_17 => absurd c_17 (by decide))
      obtain ⟨k, hk, rfl⟩ := cd1_z p_14
      have hng6 := hw.ng6
      rw [cN, nI_clamp (by omega)]
      refine aw_aload0 dX7_pay_22 ?_
      refine aw_VV0 (k_remember _ _ _ hM ha ha14) dX7_pay_23 vl_7_172 rfl (by decide) (by decide) (Nat.le_of_ble_eq_true rfl) (fun σ_23 h_23 => ?_)
      obtain rfl := h_23
      refine aw_aload0 dX7_pay_26 ?_
      refine aw_getR dX7_pay_27 fR_7_16 rfl (by decide) hM.now ?_
      refine aw_bipush (v := 25) dX7_pay_30 (by decide) ?_
      refine aw_iload1 dX7_pay_32 ?_
      refine aw_iadd dX7_pay_33 ?_
      refine aw_iald (j := 25 + k) dX7_pay_34 rfl (by decide) (nI_add 25 k) (by omega) (show _ = g (25 + k) from rfl) ?_
      refine aw_istore2 dX7_pay_35 (by decide) rfl ?_
      refine aw_aload0 dX7_pay_36 ?_
      refine aw_getR dX7_pay_37 fR_7_16 rfl (by decide) hM.now ?_
      refine aw_bipush (v := 25) dX7_pay_40 (by decide) ?_
      refine aw_iload1 dX7_pay_42 ?_
      refine aw_iadd dX7_pay_43 ?_
      refine aw_iconst (v := 0) dX7_pay_44 (by decide) ?_
      refine aw_iast (j := 25 + k) dX7_pay_45 rfl (by decide) (nI_add 25 k) (by omega) ?_
      refine AW.eqs sI_sA ?_
      refine aw_iload2 dX7_pay_46 ?_
      exact aw_iret dX7_pay_47 rfl (by decide) (eM_o (cd1_0 ⟨k, hk, rfl⟩) rfl)
  · refine aw_aload0 dX7_pay_1 ?_
    refine aw_iload1 dX7_pay_2 ?_
    refine aw_VI1 (k_isGroup _ _ _ _ hM hw.ng (by have := hw.ng6; omega)) dX7_pay_3 vl_7_162 rfl (by decide) (by decide) (Nat.le_of_ble_eq_true rfl) (fun σ_3 r_3 h_3 => ?_)
    obtain ⟨rfl, h_3⟩ := h_3
    rcases h_3 with ⟨rfl, p_3⟩ | ⟨rfl, p_3⟩
    · refine aw_if_eq (tgt := 13) dX7_pay_6 (by decide) (fun c_6 => absurd c_6 (by decide)) (fun _ => ?_)
      refine aw_iconst (v := 0) dX7_pay_9 (by decide) ?_
      refine aw_goto (tgt := 14) dX7_pay_10 (by decide) ?_
      exact J_14 _ (by first | exact cd1_0 p_3 | exact cd1_1 p_3)
    · refine aw_if_eq (tgt := 13) dX7_pay_6 (by decide) (fun _ => ?_) (fun c_6 => absurd c_6 (by decide))
      refine aw_iconst (v := 1) dX7_pay_13 (by decide) ?_
      exact J_14 _ (by first | exact cd1_0 p_3 | exact cd1_1 p_3)
set_option maxHeartbeats 4000000 in
theorem k_pass (σ : Sg) (g : Rw) (nr ng nb t : Nat) (a : Nat) (h : Int32) (hM : MS σ) (hw : WF g nr ng nb t) (ha : σ.1 388 9 = nI a) (ha14 : a ≤ 14) : Ct yX7_pass cX7_pass mX7_pass 9 0 0 NN false (sA σ 391 g) [.ref 388, .int h] NN (eM σ g (cd2 (1 ≤ h ∧ h ≤ 48) (g 0 + h ≤ 240)) (remT (sI σ 388 0 (cd2 (1 ≤ h ∧ h ≤ 48) (g 0 + h ≤ 240))) g a (fHours g nr nb (cN h))) (fHours g nr nb (cN h) 5 - g 5)) XF := by
  refine ct_of (ls0 := [some (.ref 388), some (.int h), none]) 1 (by decide +kernel) rfl rfl (ndR (ndI nd0)) rfl (Nat.le_of_ble_eq_true rfl) (fun K => ?_)
  refine aw_aload0 dX7_pass_0 ?_
  refine AW.tern0 (E := (cd2 (1 ≤ h ∧ h ≤ 48) (g 0 + h ≤ 240))) (pc2 := 36) (fun x_36 hx_36 => ?_) (fun J_36 => ?_)
  · subst hx_36
    refine aw_VI1 (k_refusedN _ _ _) dX7_pass_36 vl_7_110 rfl (by decide) (by decide) (Nat.le_of_ble_eq_true rfl) (fun σ_36 r_36 h_36 => ?_)
    obtain ⟨rfl, h_36⟩ := h_36
    rcases h_36 with ⟨rfl, p_36⟩ | ⟨rfl, p_36⟩
    · refine aw_if_eq (tgt := 44) dX7_pass_39 (by decide) (fun c_39 => absurd c_39 (by decide)) (fun _ => ?_)
      refine aw_iconst (v := 0) dX7_pass_42 (by decide) ?_
      exact aw_iret dX7_pass_43 rfl (by decide) (eM_r p_36)
    · refine aw_if_eq (tgt := 44) dX7_pass_39 (by decide) (fun _ => ?_) (fun c_39 => absurd c_39 (by decide))
      have hab := cd2_z p_36
      obtain ⟨k, hk, rfl⟩ := Int32.rng (n := 48) (by omega) (Int32.le_trans (by decide) hab.1.1) hab.1.2
      rw [cN, nI_clamp (by omega)]
      refine aw_aload0 dX7_pass_44 ?_
      refine aw_VV0 (k_remember _ _ _ hM ha ha14) dX7_pass_45 vl_7_172 rfl (by decide) (by decide) (Nat.le_of_ble_eq_true rfl) (fun σ_45 h_45 => ?_)
      obtain rfl := h_45
      refine aw_aload0 dX7_pass_48 ?_
      refine aw_getR dX7_pass_49 fR_7_16 rfl (by decide) hM.now ?_
      refine aw_iconst (v := 5) dX7_pass_52 (by decide) ?_
      refine aw_iald (j := 5) dX7_pass_53 rfl (by decide) rfl (by decide) (show _ = g 5 from rfl) ?_
      refine aw_istore2 dX7_pass_54 (by decide) rfl ?_
      refine aw_aload0 dX7_pass_55 ?_
      refine aw_getR dX7_pass_56 fR_7_16 rfl (by decide) hM.now ?_
      refine aw_iload1 dX7_pass_59 ?_
      refine aw_SV2 (k_goHours _ 391 _ _ _ _ rfl (by decide) hw.nb hw.nb12 hw.nr hw.nr4 hw.who (by omega)) dX7_pass_60 sl_7_94 (by decide) (Nat.le_of_ble_eq_true rfl) (fun σ_60 h_60 => ?_)
      obtain rfl := h_60
      refine aw_aload0 dX7_pass_63 ?_
      refine aw_getR dX7_pass_64 fR_7_16 rfl (by decide) hM.now ?_
      refine aw_iconst (v := 5) dX7_pass_67 (by decide) ?_
      refine aw_iald (j := 5) dX7_pass_68 rfl (by decide) rfl (by decide) (show _ = fHours g nr nb k 5 from rfl) ?_
      refine aw_iload2 dX7_pass_69 ?_
      refine aw_isub dX7_pass_70 ?_
      exact aw_iret dX7_pass_71 rfl (by decide) (eM_o (cd2_0 hab.1 hab.2) rfl)
  · refine aw_iload1 dX7_pass_1 ?_
    refine aw_i2l dX7_pass_2 ?_
    refine aw_lconst (v := 1) dX7_pass_3 (by decide) ?_
    refine aw_ldc2 dX7_pass_4 kl_7_199 ?_
    refine aw_SI3 (k_inC _ _ _ _ 1 48 rfl rfl) dX7_pass_7 sl_7_103 (by decide) (Nat.le_of_ble_eq_true rfl) (fun σ_7 r_7 h_7 => ?_)
    obtain ⟨rfl, h_7⟩ := h_7
    rcases h_7 with ⟨rfl, p_7⟩ | ⟨rfl, p_7⟩
    · refine aw_if_ne (tgt := 17) dX7_pass_10 (by decide) (fun _ => ?_) (fun c_10 => absurd c_10 (by decide))
      refine aw_aload0 dX7_pass_17 ?_
      refine aw_getR dX7_pass_18 fR_7_16 rfl (by decide) hM.now ?_
      refine aw_iconst (v := 0) dX7_pass_21 (by decide) ?_
      refine aw_iald (j := 0) dX7_pass_22 rfl (by decide) rfl (by decide) sA_at ?_
      refine aw_iload1 dX7_pass_23 ?_
      refine aw_iadd dX7_pass_24 ?_
      refine aw_sipush (v := 240) dX7_pass_25 (by decide) ?_
      refine aw_ic_le (tgt := 35) dX7_pass_28 (by decide) (fun c_28 => ?_) (fun c_28 => ?_)
      · refine aw_iconst (v := 0) dX7_pass_35 (by decide) ?_
        exact J_36 _ (by first | exact cd2_1 p_7 | exact cd2_2 p_7 (Int32.not_le.mpr (Int32.not_le.mp c_28)) | exact cd2_0 p_7 (by first | exact c_28 | exact Int32.not_lt.mp c_28))
      · refine aw_iconst (v := 2) dX7_pass_31 (by decide) ?_
        refine aw_goto (tgt := 36) dX7_pass_32 (by decide) ?_
        exact J_36 _ (by first | exact cd2_1 p_7 | exact cd2_2 p_7 (Int32.not_le.mpr (Int32.not_le.mp c_28)) | exact cd2_0 p_7 (by first | exact c_28 | exact Int32.not_lt.mp c_28))
    · refine aw_if_ne (tgt := 17) dX7_pass_10 (by decide) (fun c_10 => absurd c_10 (by decide)) (fun _ => ?_)
      refine aw_iconst (v := 1) dX7_pass_13 (by decide) ?_
      refine aw_goto (tgt := 36) dX7_pass_14 (by decide) ?_
      exact J_36 _ (by first | exact cd2_1 p_7 | exact cd2_2 p_7 (Int32.not_le.mpr (Int32.not_le.mp c_28)) | exact cd2_0 p_7 (by first | exact c_28 | exact Int32.not_lt.mp c_28))
set_option maxHeartbeats 4000000 in
theorem k_undo (σ : Sg) (g : Rw) (a : Nat) (F : Rw) (hM : MS σ) (ha : σ.1 388 9 = nI a) (ha14 : a ≤ 14) (hF : ∀ j, j < 151 → σ.1 393 (151 * (a - 1) + j) = F j) : Ct yX7_undo cX7_undo mX7_undo 3 0 0 NN false (sA σ 391 g) [.ref 388] NN (eM σ g (cd1 (a ≠ 0)) (sA (sI (sA (sI σ 388 0 (cd1 (a ≠ 0))) 391 g) 388 9 (nI (a - 1))) 391 F) (nI (a - 1))) XF := by
  refine ct_of (ls0 := [some (.ref 388)]) 0 (by decide +kernel) rfl rfl (ndR nd0) rfl (Nat.le_of_ble_eq_true rfl) (fun K => ?_)
  refine aw_aload0 dX7_undo_0 ?_
  refine AW.tern0 (E := (cd1 (a ≠ 0))) (pc2 := 13) (fun x_13 hx_13 => ?_) (fun J_13 => ?_)
  · subst hx_13
    refine aw_VI1 (k_refusedN _ _ _) dX7_undo_13 vl_7_110 rfl (by decide) (by decide) (Nat.le_of_ble_eq_true rfl) (fun σ_13 r_13 h_13 => ?_)
    obtain ⟨rfl, h_13⟩ := h_13
    rcases h_13 with ⟨rfl, p_13⟩ | ⟨rfl, p_13⟩
    · refine aw_if_eq (tgt := 21) dX7_undo_16 (by decide) (fun c_16 => absurd c_16 (by decide)) (fun _ => ?_)
      refine aw_iconst (v := 0) dX7_undo_19 (by decide) ?_
      exact aw_iret dX7_undo_20 rfl (by decide) (eM_r p_13)
    · refine aw_if_eq (tgt := 21) dX7_undo_16 (by decide) (fun _ => ?_) (fun c_16 => absurd c_16 (by decide))
      have hab := cd1_z p_13
      have e1 : nI a - 1 = nI (a - 1) := by
        have := nI_pred (a - 1)
        rwa [show a - 1 + 1 = a by omega] at this
      refine aw_aload0 dX7_undo_21 ?_
      refine aw_dup dX7_undo_22 rfl ?_
      refine aw_getI dX7_undo_23 fI_7_42 rfl (by decide) ha ?_
      refine aw_iconst (v := 1) dX7_undo_26 (by decide) ?_
      refine aw_isub dX7_undo_27 ?_
      rw [e1]
      refine aw_putI dX7_undo_28 fP_7_42 rfl (by decide) ?_
      refine aw_aload0 dX7_undo_31 ?_
      refine aw_getR dX7_undo_32 fR_7_22 rfl (by decide) hM.diary ?_
      refine aw_sipush (v := 151) dX7_undo_35 (by decide) ?_
      refine aw_aload0 dX7_undo_38 ?_
      refine aw_getI dX7_undo_39 fI_7_42 rfl (by decide) (show _ = nI (a - 1) from rfl) ?_
      refine aw_imul dX7_undo_42 ?_
      rw [show (151 : Int32) * nI (a - 1) = nI (151 * (a - 1)) from pk_mul 151 (a - 1)]
      refine aw_aload0 dX7_undo_43 ?_
      refine aw_getR dX7_undo_44 fR_7_16 rfl (by decide) hM.now ?_
      refine aw_iconst (v := 0) dX7_undo_47 (by decide) ?_
      refine aw_sipush (v := 151) dX7_undo_48 (by decide) ?_
      refine aw_SV5 (k_copy _ 393 391 (151 * (a - 1)) 0 151 2114 151 F rfl rfl (by decide) (by decide) (by omega) (by decide) (Or.inl (by decide)) (by decide) (fun j hj => (if_pos ⟨Nat.zero_le _, by omega⟩).trans (hF j hj))) dX7_undo_51 sl_7_45 (by decide) (Nat.le_of_ble_eq_true rfl) (fun σ_51 h_51 => ?_)
      obtain rfl := h_51
      refine aw_aload0 dX7_undo_54 ?_
      refine aw_getI dX7_undo_55 fI_7_42 rfl (by decide) (show _ = nI (a - 1) from rfl) ?_
      exact aw_iret dX7_undo_58 rfl (by decide) (eM_o (cd1_0 hab) rfl)
  · refine aw_aload0 dX7_undo_1 ?_
    refine aw_getI dX7_undo_2 fI_7_42 rfl (by decide) ha ?_
    refine aw_if_ne (tgt := 12) dX7_undo_5 (by decide) (fun c_5 => ?_) (fun c_5 => ?_)
    · refine aw_iconst (v := 0) dX7_undo_12 (by decide) ?_
      exact J_13 _ (by first | exact cd1_0 (fun h => c_5 (by rw [h]; rfl)) | exact cd1_1 (fun h => h (by have := (nI_eq (b := 0) (by omega) (by omega)).mp c_5; omega)))
    · refine aw_iconst (v := 1) dX7_undo_8 (by decide) ?_
      refine aw_goto (tgt := 13) dX7_undo_9 (by decide) ?_
      exact J_13 _ (by first | exact cd1_0 (fun h => c_5 (by rw [h]; rfl)) | exact cd1_1 (fun h => h (by have := (nI_eq (b := 0) (by omega) (by omega)).mp c_5; omega)))
