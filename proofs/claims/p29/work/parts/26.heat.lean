/-! the class: an hour of a room, and of the hall -/
theorem warm_row {g : Rw} {r b : Nat} (hP : 0 ≤ g (9 + 4 * r + 2)) : upd (upd g (9 + 4 * r + 3) (fCool g r)) (9 + 4 * r + 3) (upd g (9 + 4 * r + 3) (fCool g r) (9 + 4 * r + 3) + wD (g (31 + 10 * b + 4)) (upd g (9 + 4 * r + 3) (fCool g r) (9 + 4 * r + 3)) (upd g (9 + 4 * r + 3) (fCool g r) (9 + 4 * r + 2))) = g2R g r b := by
  rw [upd_upd, upd_s, upd_n (by omega), wD_byOf hP]
  rfl
theorem warm_heat {g : Rw} {r b : Nat} (hP : 0 ≤ g (9 + 4 * r + 2)) : wD (g (31 + 10 * b + 4)) (upd g (9 + 4 * r + 3) (fCool g r) (9 + 4 * r + 3)) (upd g (9 + 4 * r + 3) (fCool g r) (9 + 4 * r + 2)) * upd g (9 + 4 * r + 3) (fCool g r) (9 + 4 * r + 0) = rmH g r b := by
  rw [upd_s, upd_n (by omega), upd_n (by omega), wD_byOf hP]
  rfl
theorem g3R_pos {g : Rw} {r b : Nat} (h : 0 < rmH g r b) : upd (g2R g r b) 8 (g2R g r b 8 + 1) = g3R g r b := by
  rw [g3R, pos1, if_pos h]
theorem g3R_zero {g : Rw} {r b : Nat} (h : ¬ 0 < rmH g r b) : g2R g r b = g3R g r b := funext fun j => by
  rw [g3R, pos1, if_neg h]
  by_cases h8 : j = 8
  · subst h8
    rw [upd_s]
    exact (Int32.add_zero _).symm
  · rw [upd_n h8]
set_option maxHeartbeats 4000000 in
theorem k2_heatRoom (σ : Sg) (h : Nat) (π : Nat → Nat) (nr ng nb t : Nat) (g : Rw) (r b : Nat) (hc : HC σ h π) (hw : WF g nr ng nb t) (hr : r < nr) (hb : b < nb) (hf : fHeater g r nb = some b) : Ct yX2_heatRoom cX2_heatRoom mX2_heatRoom 3 0 0 NN false (sH σ h π nr ng nb g) [.ref h, .ref (h + 4 + r), .ref (h + 8 + π b)] NN (rI fun σ2 v => sH σ h π nr ng nb (hR g r nb) = σ2 ∧ (fRoom g r nb).2 = v) XF := by
  refine ct_of (ls0 := [some (.ref h), some (.ref (h + 4 + r)), some (.ref (h + 8 + π b)), none, none]) 2 (by decide +kernel) rfl rfl (ndR (ndR (ndR nd0))) rfl (Nat.le_of_ble_eq_true rfl) (fun K => ?_)
  have hnr4 := hw.nr4
  have hng6 := hw.ng6
  have hnb12 := hw.nb12
  have hb12 := hw.nb12
  have hng := hw.ng
  obtain ⟨w, hwn, hgw⟩ := hw.grp hb
  have hw6 : w < 6 := by omega
  have hcase := hR_case (r := r) (by omega) (by omega) hw6 hgw hf (hw.mark hb)
  obtain ⟨pw, hpw1, hpw2⟩ := (hw.2.1 r hr).2
  have hP : 0 ≤ g (9 + 4 * r + 2) := by rw [hpw2]; exact nI_pos' (by omega)
  refine aw_aload1 dX2_heatRoom_0 ?_
  refine aw_getI dX2_heatRoom_1 fI_2_150 (hc.tr (by omega)) (hc.lr (by omega)) (show _ = g (9 + 4 * r + 3) from sH_r hr hw.nr4 (by decide)) ?_
  refine aw_istore3 dX2_heatRoom_4 (by decide) rfl ?_
  refine aw_aload1 dX2_heatRoom_5 ?_
  refine aw_aload1 dX2_heatRoom_6 ?_
  refine aw_aload0 dX2_heatRoom_7 ?_
  refine aw_getI dX2_heatRoom_8 fI_2_9 hc.t hc.l sH_outd ?_
  refine aw_VI1 (k5_cooled _ _ _ (fun k => g (9 + 4 * r + k)) (fun j hj => sH_r hr hw.nr4 hj) (hc.tr (by omega)) (hc.lr (by omega))) dX2_heatRoom_11 vl_2_114 (hc.tr (by omega)) (hc.lr (by omega)) (by decide) (Nat.le_of_ble_eq_true rfl) (fun σ_11 r_11 h_11 => ?_)
  obtain ⟨rfl, h_11⟩ := h_11
  have h_11 : fCool g r = r_11 := h_11
  subst h_11
  refine aw_putI dX2_heatRoom_14 fP_2_150 (hc.tr (by omega)) (hc.lr (by omega)) ?_
  refine AW.eqs (sW_r hr hw.nr4 (by decide)) ?_
  refine aw_aload2 dX2_heatRoom_17 ?_
  refine aw_ifnn (tgt := 23) dX2_heatRoom_18 (by decide) ?_
  refine aw_aload1 dX2_heatRoom_23 ?_
  refine aw_aload2 dX2_heatRoom_24 ?_
  refine aw_getI dX2_heatRoom_25 fI_2_120 (hc.tb (by omega)) (hc.lb (by omega)) (show _ = g (31 + 10 * b + 4) from (sH_b (j := 4) hc hb hb12 (by decide)).trans (upd_n (j := 31 + 10 * b + 4) (by omega))) ?_
  refine aw_VI1 (k5_warm _ _ _ (fun k => (upd g (9 + 4 * r + 3) (fCool g r)) (9 + 4 * r + k)) (fun j hj => sH_r hr hw.nr4 hj) (hc.tr (by omega)) (hc.lr (by omega))) dX2_heatRoom_28 vl_2_153 (hc.tr (by omega)) (hc.lr (by omega)) (by decide) (Nat.le_of_ble_eq_true rfl) (fun σ_28 r_28 h_28 => ?_)
  obtain ⟨rfl, h_28⟩ := h_28
  have h_28 : rmH g r b = r_28 := (warm_heat hP).symm.trans h_28
  subst h_28
  refine AW.eqs (show _ = sH σ h π nr ng nb (g2R g r b) from (sW_r hr hw.nr4 (by decide)).trans (congrArg (sH σ h π nr ng nb) (warm_row hP))) ?_
  refine aw_istore4 dX2_heatRoom_31 (by decide) rfl ?_
  refine aw_iload4 dX2_heatRoom_33 ?_
  refine aw_if_le (tgt := 48) dX2_heatRoom_35 (by decide) (fun c_35 => ?_) (fun c_35 => ?_)
  · refine AW.eqs (show _ = sH σ h π nr ng nb (g3R g r b) from congrArg (sH σ h π nr ng nb) (by first | exact g3R_pos (Int32.not_le.mp c_35) | exact g3R_zero (Int32.not_lt.mpr c_35))) ?_
    refine aw_aload2 dX2_heatRoom_48 ?_
    refine aw_aload0 dX2_heatRoom_49 ?_
    refine aw_getI dX2_heatRoom_50 fI_2_33 hc.t hc.l (sH_hour.trans (g3R_off (by omega) (by decide))) ?_
    refine aw_VI1 (k0_has _ _ _ (fun k => g3R g r b (31 + 10 * b + k)) (fun j hj => sH_b hc hb hb12 hj) (hc.tb (by omega)) (hc.lb (by omega))) dX2_heatRoom_53 vl_2_88 (hc.tb (by omega)) (hc.lb (by omega)) (by decide) (Nat.le_of_ble_eq_true rfl) (fun σ_53 r_53 h_53 => ?_)
    obtain ⟨rfl, h_53⟩ := h_53
    rcases h_53 with ⟨rfl, p_53⟩ | ⟨rfl, p_53⟩
    · have hown := p_53
      rw [g3R_off (by omega) (by omega), g3R_off (by omega) (by omega)] at hown
      refine aw_if_eq (tgt := 70) dX2_heatRoom_56 (by decide) (fun c_56 => absurd c_56 (by decide)) (fun _ => ?_)
      
      refine aw_aload0 dX2_heatRoom_59 ?_
      refine aw_aload2 dX2_heatRoom_60 ?_
      refine aw_iload4 dX2_heatRoom_61 ?_
      refine aw_iload3 dX2_heatRoom_63 ?_
      refine aw_VV3 (k2_chargeOwnHour _ _ _ _ _ _ (g3R g r b) b w _ _ hc ((g3R_off (by omega) (by decide)).trans hng) hng6 hb12 hb hwn ((g3R_off (by omega) (by omega)).trans hgw)) dX2_heatRoom_64 vl_2_156 hc.t hc.l (by decide) (Nat.le_of_ble_eq_true rfl) (fun σ_64 h_64 => ?_)
      obtain rfl := h_64
      refine aw_goto (tgt := 77) dX2_heatRoom_67 (by decide) ?_
      refine aw_iload4 dX2_heatRoom_77 ?_
      exact aw_iret dX2_heatRoom_79 rfl (by decide) ⟨_, rfl, congrArg (sH σ h π nr ng nb) (by first | exact hcase.1 ((fHeater_own hf).mp hown) | exact hcase.2 (fun q => hown ((fHeater_own hf).mpr q))), (fRoom_rmF (by omega) (by omega) hw6 hgw hf).2⟩
    · have hown := p_53
      rw [g3R_off (by omega) (by omega), g3R_off (by omega) (by omega)] at hown
      refine aw_if_eq (tgt := 70) dX2_heatRoom_56 (by decide) (fun _ => ?_) (fun c_56 => absurd c_56 (by decide))
      
      refine aw_aload0 dX2_heatRoom_70 ?_
      refine aw_aload2 dX2_heatRoom_71 ?_
      refine aw_iload4 dX2_heatRoom_72 ?_
      refine aw_VV2 (k2_chargePreheat _ _ _ _ _ _ (g3R g r b) b w _ hc ((g3R_off (by omega) (by decide)).trans hng) hng6 hb12 hb hwn ((g3R_off (by omega) (by omega)).trans hgw)) dX2_heatRoom_74 vl_2_160 hc.t hc.l (by decide) (Nat.le_of_ble_eq_true rfl) (fun σ_74 h_74 => ?_)
      obtain rfl := h_74
      refine aw_iload4 dX2_heatRoom_77 ?_
      exact aw_iret dX2_heatRoom_79 rfl (by decide) ⟨_, rfl, congrArg (sH σ h π nr ng nb) (by first | exact hcase.1 ((fHeater_own hf).mp hown) | exact hcase.2 (fun q => hown ((fHeater_own hf).mpr q))), (fRoom_rmF (by omega) (by omega) hw6 hgw hf).2⟩
  · refine aw_aload0 dX2_heatRoom_38 ?_
    refine aw_dup dX2_heatRoom_39 rfl ?_
    refine aw_getI dX2_heatRoom_40 fI_2_54 hc.t hc.l (show _ = g2R g r b 8 from sH_hea) ?_
    refine aw_iconst (v := 1) dX2_heatRoom_43 (by decide) ?_
    refine aw_iadd dX2_heatRoom_44 ?_
    refine aw_putI dX2_heatRoom_45 fP_2_54 hc.t hc.l ?_
    refine AW.eqs (sW_i (j := 11) (by unfold isI; omega)) ?_
    refine AW.eqs (show _ = sH σ h π nr ng nb (g3R g r b) from congrArg (sH σ h π nr ng nb) (by first | exact g3R_pos (Int32.not_le.mp c_35) | exact g3R_zero (Int32.not_lt.mpr c_35))) ?_
    refine aw_aload2 dX2_heatRoom_48 ?_
    refine aw_aload0 dX2_heatRoom_49 ?_
    refine aw_getI dX2_heatRoom_50 fI_2_33 hc.t hc.l (sH_hour.trans (g3R_off (by omega) (by decide))) ?_
    refine aw_VI1 (k0_has _ _ _ (fun k => g3R g r b (31 + 10 * b + k)) (fun j hj => sH_b hc hb hb12 hj) (hc.tb (by omega)) (hc.lb (by omega))) dX2_heatRoom_53 vl_2_88 (hc.tb (by omega)) (hc.lb (by omega)) (by decide) (Nat.le_of_ble_eq_true rfl) (fun σ_53 r_53 h_53 => ?_)
    obtain ⟨rfl, h_53⟩ := h_53
    rcases h_53 with ⟨rfl, p_53⟩ | ⟨rfl, p_53⟩
    · have hown := p_53
      rw [g3R_off (by omega) (by omega), g3R_off (by omega) (by omega)] at hown
      refine aw_if_eq (tgt := 70) dX2_heatRoom_56 (by decide) (fun c_56 => absurd c_56 (by decide)) (fun _ => ?_)
      
      refine aw_aload0 dX2_heatRoom_59 ?_
      refine aw_aload2 dX2_heatRoom_60 ?_
      refine aw_iload4 dX2_heatRoom_61 ?_
      refine aw_iload3 dX2_heatRoom_63 ?_
      refine aw_VV3 (k2_chargeOwnHour _ _ _ _ _ _ (g3R g r b) b w _ _ hc ((g3R_off (by omega) (by decide)).trans hng) hng6 hb12 hb hwn ((g3R_off (by omega) (by omega)).trans hgw)) dX2_heatRoom_64 vl_2_156 hc.t hc.l (by decide) (Nat.le_of_ble_eq_true rfl) (fun σ_64 h_64 => ?_)
      obtain rfl := h_64
      refine aw_goto (tgt := 77) dX2_heatRoom_67 (by decide) ?_
      refine aw_iload4 dX2_heatRoom_77 ?_
      exact aw_iret dX2_heatRoom_79 rfl (by decide) ⟨_, rfl, congrArg (sH σ h π nr ng nb) (by first | exact hcase.1 ((fHeater_own hf).mp hown) | exact hcase.2 (fun q => hown ((fHeater_own hf).mpr q))), (fRoom_rmF (by omega) (by omega) hw6 hgw hf).2⟩
    · have hown := p_53
      rw [g3R_off (by omega) (by omega), g3R_off (by omega) (by omega)] at hown
      refine aw_if_eq (tgt := 70) dX2_heatRoom_56 (by decide) (fun _ => ?_) (fun c_56 => absurd c_56 (by decide))
      
      refine aw_aload0 dX2_heatRoom_70 ?_
      refine aw_aload2 dX2_heatRoom_71 ?_
      refine aw_iload4 dX2_heatRoom_72 ?_
      refine aw_VV2 (k2_chargePreheat _ _ _ _ _ _ (g3R g r b) b w _ hc ((g3R_off (by omega) (by decide)).trans hng) hng6 hb12 hb hwn ((g3R_off (by omega) (by omega)).trans hgw)) dX2_heatRoom_74 vl_2_160 hc.t hc.l (by decide) (Nat.le_of_ble_eq_true rfl) (fun σ_74 h_74 => ?_)
      obtain rfl := h_74
      refine aw_iload4 dX2_heatRoom_77 ?_
      exact aw_iret dX2_heatRoom_79 rfl (by decide) ⟨_, rfl, congrArg (sH σ h π nr ng nb) (by first | exact hcase.1 ((fHeater_own hf).mp hown) | exact hcase.2 (fun q => hown ((fHeater_own hf).mpr q))), (fRoom_rmF (by omega) (by omega) hw6 hgw hf).2⟩
set_option maxHeartbeats 4000000 in
theorem k2_heatRoomN (σ : Sg) (h : Nat) (π : Nat → Nat) (nr ng nb t : Nat) (g : Rw) (r : Nat) (hc : HC σ h π) (hw : WF g nr ng nb t) (hr : r < nr) (hf : fHeater g r nb = none) : Ct yX2_heatRoom cX2_heatRoom mX2_heatRoom 3 0 0 NN false (sH σ h π nr ng nb g) [.ref h, .ref (h + 4 + r), .null] NN (rI fun σ2 v => sH σ h π nr ng nb (hR g r nb) = σ2 ∧ (fRoom g r nb).2 = v) XF := by
  refine ct_of (ls0 := [some (.ref h), some (.ref (h + 4 + r)), some (.null), none, none]) 2 (by decide +kernel) rfl rfl (ndR (ndR (ndN nd0))) rfl (Nat.le_of_ble_eq_true rfl) (fun K => ?_)
  have hnr4 := hw.nr4
  have hng6 := hw.ng6
  have hnb12 := hw.nb12
  refine aw_aload1 dX2_heatRoom_0 ?_
  refine aw_getI dX2_heatRoom_1 fI_2_150 (hc.tr (by omega)) (hc.lr (by omega)) (show _ = g (9 + 4 * r + 3) from sH_r hr hw.nr4 (by decide)) ?_
  refine aw_istore3 dX2_heatRoom_4 (by decide) rfl ?_
  refine aw_aload1 dX2_heatRoom_5 ?_
  refine aw_aload1 dX2_heatRoom_6 ?_
  refine aw_aload0 dX2_heatRoom_7 ?_
  refine aw_getI dX2_heatRoom_8 fI_2_9 hc.t hc.l sH_outd ?_
  refine aw_VI1 (k5_cooled _ _ _ (fun k => g (9 + 4 * r + k)) (fun j hj => sH_r hr hw.nr4 hj) (hc.tr (by omega)) (hc.lr (by omega))) dX2_heatRoom_11 vl_2_114 (hc.tr (by omega)) (hc.lr (by omega)) (by decide) (Nat.le_of_ble_eq_true rfl) (fun σ_11 r_11 h_11 => ?_)
  obtain ⟨rfl, h_11⟩ := h_11
  have h_11 : fCool g r = r_11 := h_11
  subst h_11
  refine aw_putI dX2_heatRoom_14 fP_2_150 (hc.tr (by omega)) (hc.lr (by omega)) ?_
  refine AW.eqs (sW_r hr hw.nr4 (by decide)) ?_
  refine aw_aload2N dX2_heatRoom_17 ?_
  refine aw_ifnnN dX2_heatRoom_18 ?_
  refine aw_iconst (v := 0) dX2_heatRoom_21 (by decide) ?_
  exact aw_iret dX2_heatRoom_22 rfl (by decide) ⟨_, rfl, congrArg (sH σ h π nr ng nb) (hR_none hf).1, (hR_none hf).2⟩
