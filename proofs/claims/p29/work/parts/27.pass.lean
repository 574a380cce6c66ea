/-! the class: what is behind an hour; the hall's hour -/
theorem cG_cG {g : Rw} {a b : Nat} {u : Int32} (ha : a < 6) (hb : b < 6) : cG (cG g a (-u)) b u = upd (upd g (25 + a) (g (25 + a) - u)) (25 + b) (upd g (25 + a) (g (25 + a) - u) (25 + b) + u) := by
  unfold cG
  have e : ∀ x : Int32, x + -u = x - u := fun x => by grind
  have e2 : ∀ x : Int32, x - u + u = x := fun x => by grind
  simp only [e]
  simp (disch := omega) only [upd_s, upd_n]
  refine funext fun j => ?_
  by_cases h6 : j = 6
  · subst h6
    simp (disch := omega) only [upd_s, upd_n, e2]
  · rw [upd_n h6]
    by_cases hj : j = 25 + b
    · subst hj
      rw [upd_s, upd_s]
    · rw [upd_n hj, upd_n h6, upd_n hj]
set_option maxHeartbeats 4000000 in
theorem k2_leaveHeat (σ : Sg) (h : Nat) (π : Nat → Nat) (nr ng nb t : Nat) (g : Rw) (b : Nat) (hc : HC σ h π) (hw : WF g nr ng nb t) (hb : b < nb) : Ct yX2_leaveHeat cX2_leaveHeat mX2_leaveHeat 2 0 0 NN false (sH σ h π nr ng nb g) [.ref h, .ref (h + 8 + π b)] NN (eV1 (sH σ h π nr ng nb (fSettle g b nb))) XF := by
  refine ct_of (ls0 := [some (.ref h), some (.ref (h + 8 + π b)), none, none, none]) 3 (by decide +kernel) rfl rfl (ndR (ndR nd0)) rfl (Nat.le_of_ble_eq_true rfl) (fun K => ?_)
  have hnr4 := hw.nr4
  have hng6 := hw.ng6
  have hnb12 := hw.nb12
  have hb12 := hw.nb12
  have L9 : ∀ (k : Nat) (q : Nat) (h1 : q ≤ nb) (h2 : nb - q < k) (x4 : Option Value), AW K RX2 cX2_leaveHeat mX2_leaveHeat 2 0 0 (Qm K NN (eV1 (sH σ h π nr ng nb (fSettle g b nb))) XF 0 0) NN none (sH σ h π nr ng nb (fSettle g b q)) 0 0 9 [some (.ref h), some (.ref (h + 8 + π b)), some (.int (g (31 + 10 * b + 5) / 2)), some (.int (nI q)), x4] [] := by
    intro k
    induction k with
    | zero => intro q h1 h2 x4; exact absurd h2 (Nat.not_lt_zero _)
    | succ k ih =>
      intro q h1 h2 x4
      refine aw_iload3 dX2_leaveHeat_9 ?_
      refine aw_aload0 dX2_leaveHeat_10 ?_
      refine aw_getI dX2_leaveHeat_11 fI_2_42 hc.t hc.l ((sH_nb.trans (fSettle_off hw.who hb q (by omega) 3 (by omega))).trans hw.nb) ?_
      refine aw_ic_ge (tgt := 87) dX2_leaveHeat_14 (by decide) (fun c_14 => ?_) (fun c_14 => ?_)
      · have hbb : q = nb := by
          have := (nI_leI (by omega) (by omega)).mp c_14
          omega
        subst hbb
        exact aw_vret dX2_leaveHeat_87 rfl (by decide) eV_of
      · have hlt : q < nb := by
          rcases Nat.lt_or_ge q nb with z | z
          · exact z
          · exact absurd (nI_le z (by omega)) c_14
        have hoff := fSettle_off hw.who hb q (by omega)
        obtain ⟨wb, hwb, hgb⟩ := hw.grp hb
        obtain ⟨wq, hwq, hgq⟩ := hw.grp hlt
        have hb12 := hw.nb12
        refine aw_aload0 dX2_leaveHeat_17 ?_
        refine aw_getR dX2_leaveHeat_18 fR_2_27 hc.t hc.l (sH_books hc) ?_
        refine aw_iload3 dX2_leaveHeat_21 ?_
        refine aw_aald (j := q) dX2_leaveHeat_22 hc.tB (by decide) hc.lB rfl (by omega) (sH_book (by omega)) ?_
        refine aw_astore4 dX2_leaveHeat_23 (by decide) rfl ?_
        refine aw_aload4 dX2_leaveHeat_25 ?_
        refine aw_getI dX2_leaveHeat_27 fI_2_74 (hc.tb (by omega)) (hc.lb (by omega)) (show _ = g (31 + 10 * q + 0) from (sH_b (j := 0) hc (by omega) hb12 (by decide)).trans (hoff (31 + 10 * q + 0) (by omega))) ?_
        refine aw_aload1 dX2_leaveHeat_30 ?_
        refine aw_getI dX2_leaveHeat_31 fI_2_74 (hc.tb (by omega)) (hc.lb (by omega)) (show _ = g (31 + 10 * b + 0) from (sH_b (j := 0) hc (by omega) hb12 (by decide)).trans (hoff (31 + 10 * b + 0) (by omega))) ?_
        refine aw_ic_ne (tgt := 81) dX2_leaveHeat_34 (by decide) (fun c_34 => ?_) (fun c_34 => ?_)
        · refine aw_iinc3 (w := nI (q + 1)) dX2_leaveHeat_81 (nI_1 q) (by decide) rfl ?_
          refine aw_goto (tgt := 9) dX2_leaveHeat_84 (by decide) ?_
          first
            | (have e : fSettle g b (q + 1) = cG (cG (fSettle g b q) wb (-(g (31 + 10 * b + 5) / 2))) wq (g (31 + 10 * b + 5) / 2) := by
                 rw [cG_cG (by omega) (by omega)]
                 show fSet1 (fSettle g b q) b q = _
                 rw [fSet1, if_pos (setD_iff.mpr ⟨(hoff _ (by omega)).trans (c_34.trans (hoff _ (by omega)).symm), fun hh => c_58 ((hoff (31 + 10 * q + 1) (by omega)).symm.trans (hh.trans (hoff (31 + 10 * b + 1) (by omega)))), (hoff _ (by omega)).trans (c_46.trans (by rw [fEnd, hoff _ (by omega), hoff _ (by omega)]))⟩)]
                 simp only [whoN_of ((hoff (31 + 10 * b + 1) (by omega)).trans hgb) (by omega), whoN_of ((hoff (31 + 10 * q + 1) (by omega)).trans hgq) (by omega), hoff (31 + 10 * b + 5) (by omega)]
               have k9 := ih (q + 1) hlt (by omega) (some (.ref (h + 8 + π q)))
               rw [e] at k9
               exact k9)
            | (have e : fSettle g b (q + 1) = fSettle g b q := by
                 show fSet1 (fSettle g b q) b q = _
                 rw [fSet1, if_neg (fun hh => by
                   obtain ⟨q1, q2, q3⟩ := setD_iff.mp hh
                   rw [hoff _ (by omega), hoff _ (by omega)] at q1
                   rw [hoff _ (by omega), hoff _ (by omega)] at q2
                   rw [hoff _ (by omega), fEnd, hoff _ (by omega), hoff _ (by omega)] at q3
                   first
                     | exact c_34 q1
                     | exact c_46 q3
                     | exact q2 c_58)]
               have k9 := ih (q + 1) hlt (by omega) (some (.ref (h + 8 + π q)))
               rw [e] at k9
               exact k9)
        · refine aw_aload4 dX2_leaveHeat_37 ?_
          refine aw_getI dX2_leaveHeat_39 fI_2_92 (hc.tb (by omega)) (hc.lb (by omega)) (show _ = g (31 + 10 * q + 2) from (sH_b (j := 2) hc (by omega) hb12 (by decide)).trans (hoff (31 + 10 * q + 2) (by omega))) ?_
          refine aw_aload1 dX2_leaveHeat_42 ?_
          refine aw_VI0 (k0_end _ _ (fun k => fSettle g b q (31 + 10 * b + k)) (fun j hj => sH_b hc (by omega) hb12 hj) (hc.tb (by omega)) (hc.lb (by omega))) dX2_leaveHeat_43 vl_2_143 (hc.tb (by omega)) (hc.lb (by omega)) (by decide) (Nat.le_of_ble_eq_true rfl) (fun σ_43 r_43 h_43 => ?_)
          obtain ⟨rfl, h_43⟩ := h_43
          have h_43 : g (31 + 10 * b + 2) + g (31 + 10 * b + 3) = r_43 := by
            rw [← h_43, hoff _ (by omega), hoff _ (by omega)]
          subst h_43
          refine aw_ic_ne (tgt := 81) dX2_leaveHeat_46 (by decide) (fun c_46 => ?_) (fun c_46 => ?_)
          · refine aw_iinc3 (w := nI (q + 1)) dX2_leaveHeat_81 (nI_1 q) (by decide) rfl ?_
            refine aw_goto (tgt := 9) dX2_leaveHeat_84 (by decide) ?_
            first
              | (have e : fSettle g b (q + 1) = cG (cG (fSettle g b q) wb (-(g (31 + 10 * b + 5) / 2))) wq (g (31 + 10 * b + 5) / 2) := by
                   rw [cG_cG (by omega) (by omega)]
                   show fSet1 (fSettle g b q) b q = _
                   rw [fSet1, if_pos (setD_iff.mpr ⟨(hoff _ (by omega)).trans (c_34.trans (hoff _ (by omega)).symm), fun hh => c_58 ((hoff (31 + 10 * q + 1) (by omega)).symm.trans (hh.trans (hoff (31 + 10 * b + 1) (by omega)))), (hoff _ (by omega)).trans (c_46.trans (by rw [fEnd, hoff _ (by omega), hoff _ (by omega)]))⟩)]
                   simp only [whoN_of ((hoff (31 + 10 * b + 1) (by omega)).trans hgb) (by omega), whoN_of ((hoff (31 + 10 * q + 1) (by omega)).trans hgq) (by omega), hoff (31 + 10 * b + 5) (by omega)]
                 have k9 := ih (q + 1) hlt (by omega) (some (.ref (h + 8 + π q)))
                 rw [e] at k9
                 exact k9)
              | (have e : fSettle g b (q + 1) = fSettle g b q := by
                   show fSet1 (fSettle g b q) b q = _
                   rw [fSet1, if_neg (fun hh => by
                     obtain ⟨q1, q2, q3⟩ := setD_iff.mp hh
                     rw [hoff _ (by omega), hoff _ (by omega)] at q1
                     rw [hoff _ (by omega), hoff _ (by omega)] at q2
                     rw [hoff _ (by omega), fEnd, hoff _ (by omega), hoff _ (by omega)] at q3
                     first
                       | exact c_34 q1
                       | exact c_46 q3
                       | exact q2 c_58)]
                 have k9 := ih (q + 1) hlt (by omega) (some (.ref (h + 8 + π q)))
                 rw [e] at k9
                 exact k9)
          · refine aw_aload4 dX2_leaveHeat_49 ?_
            refine aw_getI dX2_leaveHeat_51 fI_2_167 (hc.tb (by omega)) (hc.lb (by omega)) (show _ = g (31 + 10 * q + 1) from (sH_b (j := 1) hc (by omega) hb12 (by decide)).trans (hoff (31 + 10 * q + 1) (by omega))) ?_
            refine aw_aload1 dX2_leaveHeat_54 ?_
            refine aw_getI dX2_leaveHeat_55 fI_2_167 (hc.tb (by omega)) (hc.lb (by omega)) (show _ = g (31 + 10 * b + 1) from (sH_b (j := 1) hc (by omega) hb12 (by decide)).trans (hoff (31 + 10 * b + 1) (by omega))) ?_
            refine aw_ic_eq (tgt := 81) dX2_leaveHeat_58 (by decide) (fun c_58 => ?_) (fun c_58 => ?_)
            · refine aw_iinc3 (w := nI (q + 1)) dX2_leaveHeat_81 (nI_1 q) (by decide) rfl ?_
              refine aw_goto (tgt := 9) dX2_leaveHeat_84 (by decide) ?_
              first
                | (have e : fSettle g b (q + 1) = cG (cG (fSettle g b q) wb (-(g (31 + 10 * b + 5) / 2))) wq (g (31 + 10 * b + 5) / 2) := by
                     rw [cG_cG (by omega) (by omega)]
                     show fSet1 (fSettle g b q) b q = _
                     rw [fSet1, if_pos (setD_iff.mpr ⟨(hoff _ (by omega)).trans (c_34.trans (hoff _ (by omega)).symm), fun hh => c_58 ((hoff (31 + 10 * q + 1) (by omega)).symm.trans (hh.trans (hoff (31 + 10 * b + 1) (by omega)))), (hoff _ (by omega)).trans (c_46.trans (by rw [fEnd, hoff _ (by omega), hoff _ (by omega)]))⟩)]
                     simp only [whoN_of ((hoff (31 + 10 * b + 1) (by omega)).trans hgb) (by omega), whoN_of ((hoff (31 + 10 * q + 1) (by omega)).trans hgq) (by omega), hoff (31 + 10 * b + 5) (by omega)]
                   have k9 := ih (q + 1) hlt (by omega) (some (.ref (h + 8 + π q)))
                   rw [e] at k9
                   exact k9)
                | (have e : fSettle g b (q + 1) = fSettle g b q := by
                     show fSet1 (fSettle g b q) b q = _
                     rw [fSet1, if_neg (fun hh => by
                       obtain ⟨q1, q2, q3⟩ := setD_iff.mp hh
                       rw [hoff _ (by omega), hoff _ (by omega)] at q1
                       rw [hoff _ (by omega), hoff _ (by omega)] at q2
                       rw [hoff _ (by omega), fEnd, hoff _ (by omega), hoff _ (by omega)] at q3
                       first
                         | exact c_34 q1
                         | exact c_46 q3
                         | exact q2 c_58)]
                   have k9 := ih (q + 1) hlt (by omega) (some (.ref (h + 8 + π q)))
                   rw [e] at k9
                   exact k9)
            · refine aw_aload0 dX2_leaveHeat_61 ?_
              refine aw_aload1 dX2_leaveHeat_62 ?_
              refine aw_getI dX2_leaveHeat_63 fI_2_167 (hc.tb (by omega)) (hc.lb (by omega)) (show _ = g (31 + 10 * b + 1) from (sH_b (j := 1) hc (by omega) hb12 (by decide)).trans (hoff (31 + 10 * b + 1) (by omega))) ?_
              refine aw_iload2 dX2_leaveHeat_66 ?_
              refine aw_ineg dX2_leaveHeat_67 ?_
              refine aw_VV2 (k2_chargeGroup _ _ _ _ _ _ 0 _ wb _ _ hc ((hoff 2 (by omega)).trans hw.ng) hng6 hwb hgb) dX2_leaveHeat_68 vl_2_170 hc.t hc.l (by decide) (Nat.le_of_ble_eq_true rfl) (fun σ_68 h_68 => ?_)
              obtain rfl := h_68
              refine aw_aload0 dX2_leaveHeat_71 ?_
              refine aw_aload4 dX2_leaveHeat_72 ?_
              refine aw_getI dX2_leaveHeat_74 fI_2_167 (hc.tb (by omega)) (hc.lb (by omega)) (show _ = g (31 + 10 * q + 1) from (sH_b (j := 1) hc (by omega) hb12 (by decide)).trans ((upd_n (by omega)).trans ((upd_n (by omega)).trans (hoff (31 + 10 * q + 1) (by omega))))) ?_
              refine aw_iload2 dX2_leaveHeat_77 ?_
              refine aw_VV2 (k2_chargeGroup _ _ _ _ _ _ 0 _ wq _ _ hc ((upd_n (by omega)).trans ((upd_n (by omega)).trans ((hoff 2 (by omega)).trans hw.ng))) hng6 hwq hgq) dX2_leaveHeat_78 vl_2_170 hc.t hc.l (by decide) (Nat.le_of_ble_eq_true rfl) (fun σ_78 h_78 => ?_)
              obtain rfl := h_78
              refine aw_iinc3 (w := nI (q + 1)) dX2_leaveHeat_81 (nI_1 q) (by decide) rfl ?_
              refine aw_goto (tgt := 9) dX2_leaveHeat_84 (by decide) ?_
              first
                | (have e : fSettle g b (q + 1) = cG (cG (fSettle g b q) wb (-(g (31 + 10 * b + 5) / 2))) wq (g (31 + 10 * b + 5) / 2) := by
                     rw [cG_cG (by omega) (by omega)]
                     show fSet1 (fSettle g b q) b q = _
                     rw [fSet1, if_pos (setD_iff.mpr ⟨(hoff _ (by omega)).trans (c_34.trans (hoff _ (by omega)).symm), fun hh => c_58 ((hoff (31 + 10 * q + 1) (by omega)).symm.trans (hh.trans (hoff (31 + 10 * b + 1) (by omega)))), (hoff _ (by omega)).trans (c_46.trans (by rw [fEnd, hoff _ (by omega), hoff _ (by omega)]))⟩)]
                     simp only [whoN_of ((hoff (31 + 10 * b + 1) (by omega)).trans hgb) (by omega), whoN_of ((hoff (31 + 10 * q + 1) (by omega)).trans hgq) (by omega), hoff (31 + 10 * b + 5) (by omega)]
                   have k9 := ih (q + 1) hlt (by omega) (some (.ref (h + 8 + π q)))
                   rw [e] at k9
                   exact k9)
                | (have e : fSettle g b (q + 1) = fSettle g b q := by
                     show fSet1 (fSettle g b q) b q = _
                     rw [fSet1, if_neg (fun hh => by
                       obtain ⟨q1, q2, q3⟩ := setD_iff.mp hh
                       rw [hoff _ (by omega), hoff _ (by omega)] at q1
                       rw [hoff _ (by omega), hoff _ (by omega)] at q2
                       rw [hoff _ (by omega), fEnd, hoff _ (by omega), hoff _ (by omega)] at q3
                       first
                         | exact c_34 q1
                         | exact c_46 q3
                         | exact q2 c_58)]
                   have k9 := ih (q + 1) hlt (by omega) (some (.ref (h + 8 + π q)))
                   rw [e] at k9
                   exact k9)
  refine aw_aload1 dX2_leaveHeat_0 ?_
  refine aw_getI dX2_leaveHeat_1 fI_2_164 (hc.tb (by omega)) (hc.lb (by omega)) (show _ = g (31 + 10 * b + 5) from sH_b hc hb hb12 (by decide)) ?_
  refine aw_iconst (v := 2) dX2_leaveHeat_4 (by decide) ?_
  refine aw_idiv dX2_leaveHeat_5 (by decide) ?_
  refine aw_istore2 dX2_leaveHeat_6 (by decide) rfl ?_
  refine aw_iconst (v := 0) dX2_leaveHeat_7 (by decide) ?_
  refine aw_istore3 dX2_leaveHeat_8 (by decide) rfl ?_
  exact L9 (nb + 1) 0 (Nat.zero_le _) (by omega) none
/-! the meter does not matter to a room's hour -/
theorem fCur_5 {g : Rw} {v : Int32} {r : Nat} : ∀ k, fCur (upd g 5 v) r k = fCur g r k
  | 0 => rfl
  | k + 1 => by
    have e : curD (upd g 5 v) r k = curD g r k := by
      unfold curD fEnd
      simp (disch := omega) only [upd_n]
    unfold fCur
    rw [e, fCur_5 k]
theorem fNxt_5 {g : Rw} {v : Int32} {r : Nat} : ∀ k, fNxt (upd g 5 v) r k = fNxt g r k
  | 0 => rfl
  | k + 1 => by
    have e : ∀ o, nxtD (upd g 5 v) r k o = nxtD g r k o := fun o => by
      unfold nxtD
      cases o <;> simp (disch := omega) only [upd_n]
    unfold fNxt
    rw [fNxt_5 k, e]
theorem fHeater_5 {g : Rw} {v : Int32} {r nb : Nat} (hr : r < 4) : fHeater (upd g 5 v) r nb = fHeater g r nb := by
  have e : ∀ b, fPreD (upd g 5 v) r b = fPreD g r b := fun b => by
    unfold fPreD fCool
    simp (disch := omega) only [upd_n]
  unfold fHeater
  rw [fCur_5, fNxt_5]
  simp only [e]
theorem fRoom_5 {g : Rw} {v : Int32} {r nb : Nat} (hr : r < 4) (hnb : nb ≤ 12) (hw : WHO g nb) : (fRoom (upd g 5 v) r nb).1 = upd (fRoom g r nb).1 5 v ∧ (fRoom (upd g 5 v) r nb).2 = (fRoom g r nb).2 := by
  have eC : fCool (upd g 5 v) r = fCool g r := by
    unfold fCool
    simp (disch := omega) only [upd_n]
  match hf : fHeater g r nb with
  | none =>
    have e1 : fRoom g r nb = (upd g (9 + 4 * r + 3) (fCool g r), 0) := by rw [fRoom, hf]
    have e2 : fRoom (upd g 5 v) r nb = (upd (upd g 5 v) (9 + 4 * r + 3) (fCool g r), 0) := by rw [fRoom, fHeater_5 hr, hf, ← eC]
    rw [e1, e2]
    refine ⟨funext fun j => ?_, rfl⟩
    by_cases h5 : j = 5
    · subst h5
      simp (disch := omega) only [upd_s, upd_n]
    · by_cases h : j = 9 + 4 * r + 3
      · subst h; simp (disch := omega) only [upd_s, upd_n]
      · simp (disch := omega) only [upd_n]
  | some b =>
    have hb := fHeater_lt hf
    obtain ⟨w, hw6, hgw⟩ := hw b hb
    obtain ⟨a1, a2⟩ := fRoom_rmF hr (by omega) hw6 hgw hf
    obtain ⟨b1, b2⟩ := fRoom_rmF (g := upd g 5 v) hr (by omega) hw6 ((upd_n (by omega)).trans hgw) ((fHeater_5 hr).trans hf)
    have eU : rmU (upd g 5 v) r b = rmU g r b := by
      unfold rmU
      rw [eC]
      simp (disch := omega) only [upd_n]
    have eH : rmH (upd g 5 v) r b = rmH g r b := by
      unfold rmH
      rw [eU]
      simp (disch := omega) only [upd_n]
    rw [a1, a2, b1, b2]
    refine ⟨?_, eH⟩
    simp (disch := omega) only [upd_n]
    refine funext fun j => ?_
    by_cases h5 : j = 5
    · subst h5
      unfold rmF
      simp (disch := omega) only [upd_s, if_neg]
    · rw [upd_n h5]
      unfold rmF
      rw [eC, eU, eH]
      simp (disch := omega) only [upd_n]
/-- the rooms of an hour as the class goes over them: the row, and the heat -/
def cR (g : Rw) (nb : Nat) : Nat → Rw × Int32
  | 0 => (g, 0)
  | k + 1 => (hR (cR g nb k).1 k nb, (cR g nb k).2 + (fRoom (cR g nb k).1 k nb).2)
theorem cR_off {g : Rw} {nb : Nat} (hw : WHO g nb) : ∀ k, k ≤ 4 → ∀ j, kept0 j → (cR g nb k).1 j = g j
  | 0, _, _, _ => rfl
  | k + 1, hk, j, hj => by
    have ih := cR_off hw k (by omega)
    have h8 : j ≠ 8 := by unfold kept0 at hj; omega
    show hR (cR g nb k).1 k nb j = g j
    rw [hR, upd_n h8, fRoom_off (hw.keep ih) (by omega) j hj, ih j hj]
theorem heat_N {g : Rw} {nr ng nb t r : Nat} (hw : WF g nr ng nb t) (hr : r < nr) : ∃ U, U ≤ 81 ∧ (fRoom g r nb).2 = nI U := by
  match hf : fHeater g r nb with
  | none => exact ⟨0, by omega, (hR_none hf).2⟩
  | some b =>
    have hb := fHeater_lt hf
    have := hw.nr4
    have := hw.nb12
    obtain ⟨w, hw6, hgw⟩ := hw.who b hb
    obtain ⟨⟨z, hz, hz2⟩, ⟨p, hp, hp2⟩⟩ := hw.2.1 r hr
    rw [(fRoom_rmF (by omega) (by omega) hw6 hgw hf).2, rmH, hz2]
    have hU : ∃ q, q ≤ 9 ∧ rmU g r b = nI q := by
      unfold rmU byOf
      rw [hp2]
      split
      · exact ⟨0, by omega, rfl⟩
      · rename_i h1
        split
        · exact ⟨p, hp, rfl⟩
        · rename_i h2
          obtain ⟨q, hq, e⟩ := Int32.rng (x := g (31 + 10 * b + 4) - fCool g r) (n := p) (by omega) (Int32.not_lt.mp h1) (Int32.not_lt.mp h2)
          exact ⟨q, by omega, e⟩
    obtain ⟨q, hq, hq2⟩ := hU
    rw [hq2, pk_mul]
    exact ⟨q * z, Nat.mul_le_mul hq hz, rfl⟩
theorem hR_bits {g : Rw} {r nb : Nat} (h : BT g nb) (hw : WHO g nb) (hr : r < 4) : BT (hR g r nb) nb := fun b hb => by
  rw [hR, upd_n (by omega), upd_n (by omega), fRoom_7 hw hr]
  refine ⟨(h b hb).1, ?_⟩
  rcases fRoom_9 (c := b) hw hr with q | q
  · rw [q]; exact (h b hb).2
  · exact Or.inr q
theorem cR_bits {g : Rw} {nb : Nat} (h : BT g nb) (hw : WHO g nb) : ∀ k, k ≤ 4 → BT (cR g nb k).1 nb
  | 0, _ => h
  | k + 1, hk => hR_bits (cR_bits h hw k (by omega)) (hw.keep (cR_off hw k (by omega))) (by omega)
theorem WF.cr {g : Rw} {nr ng nb t : Nat} (hw : WF g nr ng nb t) {k : Nat} (hk : k ≤ nr) : WF (cR g nb k).1 nr ng nb t := by
  have := hw.nr4
  exact hw.of (fun j hj _ => cR_off hw.who k (by omega) j hj) ((cR_off hw.who k (by omega) 0 (Or.inl (by decide))).trans hw.hr) (cR_bits hw.bt hw.who k (by omega))
theorem cR_5 {g : Rw} {nr ng nb t : Nat} (hw : WF g nr ng nb t) : ∀ k, k ≤ nr → (cR g nb k).1 5 = g 5
  | 0, _ => rfl
  | k + 1, hk => by
    have := hw.nr4
    have := hw.nb12
    show hR (cR g nb k).1 k nb 5 = g 5
    rw [hR, upd_n (by omega)]
    have ih := cR_5 hw k (by omega)
    have e := (fRoom_5 (g := (cR g nb k).1) (v := g 5) (r := k) (by omega) hw.nb12 (hw.cr (k := k) (by omega)).who).1
    have e3 : upd (cR g nb k).1 5 (g 5) = (cR g nb k).1 := funext fun j => by
      by_cases h : j = 5
      · rw [h, upd_s, ih]
      · rw [upd_n h]
    rw [e3] at e
    rw [e, upd_s]
theorem cR_N {g : Rw} {nr ng nb t : Nat} (hw : WF g nr ng nb t) : ∀ k, k ≤ nr → ∃ S, S ≤ 81 * k ∧ (cR g nb k).2 = nI S
  | 0, _ => ⟨0, by omega, rfl⟩
  | k + 1, hk => by
    obtain ⟨S, h1, h2⟩ := cR_N hw k (by omega)
    obtain ⟨U, h3, h4⟩ := heat_N (hw.cr (k := k) (by omega)) (r := k) (by omega)
    refine ⟨S + U, by omega, ?_⟩
    show (cR g nb k).2 + (fRoom (cR g nb k).1 k nb).2 = _
    rw [h2, h4, nI_add]
theorem fRooms_cR {g : Rw} {nr ng nb t : Nat} (hw : WF g nr ng nb t) : ∀ k, k ≤ nr → (fRooms g nb k).1 = upd (cR g nb k).1 5 (g 5 + (cR g nb k).2) ∧ (fRooms g nb k).2 = decide (0 < (cR g nb k).2)
  | 0, _ => by
    refine ⟨funext fun j => ?_, rfl⟩
    show g j = upd g 5 (g 5 + 0) j
    by_cases h : j = 5
    · rw [h, upd_s, Int32.add_zero]
    · rw [upd_n h]
  | k + 1, hk => by
    have := hw.nr4
    obtain ⟨i1, i2⟩ := fRooms_cR hw k (by omega)
    obtain ⟨e1, e2⟩ := fRoom_5 (g := (cR g nb k).1) (v := g 5 + (cR g nb k).2) (r := k) (by omega) hw.nb12 (hw.cr (k := k) (by omega)).who
    rw [← i1] at e1 e2
    have h5 := cR_5 hw (k + 1) hk
    obtain ⟨S, s1, s2⟩ := cR_N hw k (by omega)
    obtain ⟨U, u1, u2⟩ := heat_N (hw.cr (k := k) (by omega)) (r := k) (by omega)
    constructor
    · show upd (upd (fRoom (fRooms g nb k).1 k nb).1 8 ((fRoom (fRooms g nb k).1 k nb).1 8 + pos1 (fRoom (fRooms g nb k).1 k nb).2)) 5 (upd (fRoom (fRooms g nb k).1 k nb).1 8 ((fRoom (fRooms g nb k).1 k nb).1 8 + pos1 (fRoom (fRooms g nb k).1 k nb).2) 5 + (fRoom (fRooms g nb k).1 k nb).2) = upd (hR (cR g nb k).1 k nb) 5 (g 5 + ((cR g nb k).2 + (fRoom (cR g nb k).1 k nb).2))
      rw [e1, e2]
      refine funext fun j => ?_
      by_cases h : j = 5
      · subst h
        simp (disch := omega) only [upd_s, upd_n]
        exact Int32.add_assoc _ _ _
      · rw [upd_n h, upd_n h, hR]
        by_cases h8 : j = 8
        · subst h8
          simp (disch := omega) only [upd_s, upd_n]
        · simp (disch := omega) only [upd_n]
    · show ((fRooms g nb k).2 || decide (0 < (fRoom (fRooms g nb k).1 k nb).2)) = decide (0 < (cR g nb k).2 + (fRoom (cR g nb k).1 k nb).2)
      rw [i2, e2, s2, u2, nI_add]
      have a : ∀ x : Nat, x < 1000 → decide (0 < nI x) = decide (0 < x) := fun x hx => by
        rw [decide_eq_decide]
        exact nI_ltI (a := 0) (by omega) (by omega)
      rw [a S (by omega), a U (by omega), a (S + U) (by omega)]
      by_cases q1 : 0 < S
      · simp [q1]; omega
      · have : S = 0 := by omega
        subst this
        simp
theorem fMid_cR {g : Rw} {nr ng nb t : Nat} (hw : WF g nr ng nb t) : upd (upd (cR g nb nr).1 5 ((cR g nb nr).1 5 + if 0 < (cR g nb nr).2 then (cR g nb nr).2 + 1 else 0)) 0 (upd (cR g nb nr).1 5 ((cR g nb nr).1 5 + if 0 < (cR g nb nr).2 then (cR g nb nr).2 + 1 else 0) 0 + 1) = fMid g nr nb := by
  obtain ⟨i1, i2⟩ := fRooms_cR hw nr (Nat.le_refl _)
  obtain ⟨S, s1, s2⟩ := cR_N hw nr (Nat.le_refl _)
  have h5 := cR_5 hw nr (Nat.le_refl _)
  show _ = upd (upd (fRooms g nb nr).1 5 ((fRooms g nb nr).1 5 + b01 (fRooms g nb nr).2)) 0 (upd (fRooms g nb nr).1 5 ((fRooms g nb nr).1 5 + b01 (fRooms g nb nr).2) 0 + 1)
  rw [i1, i2, h5]
  have eV : (g 5 + if 0 < (cR g nb nr).2 then (cR g nb nr).2 + 1 else 0) = g 5 + (cR g nb nr).2 + b01 (decide (0 < (cR g nb nr).2)) := by
    by_cases q : 0 < (cR g nb nr).2
    · rw [if_pos q, decide_eq_true q]
      exact (Int32.add_assoc _ _ _).symm
    · rw [if_neg q, decide_eq_false q]
      have : (cR g nb nr).2 = 0 := by
        rw [s2] at q ⊢
        have : S = 0 := by
          rcases Nat.eq_zero_or_pos S with z | z
          · exact z
          · exact absurd (nI_lt (a := 0) z (by have := hw.nr4; omega)) q
        rw [this]; rfl
      rw [this]
      show g 5 + 0 = g 5 + 0 + 0
      rw [Int32.add_zero, Int32.add_zero]
  rw [eV, upd_s, upd_upd]
theorem WF.mid {g : Rw} {nr ng nb t : Nat} (hw : WF g nr ng nb t) : WF (fMid g nr nb) nr ng nb (t + 1) := by
  refine hw.of (fun j hj h0 => fMid_off hw.who hw.nr4 j hj h0) ?_ (fMid_bits hw.bt hw.who hw.nr4)
  show upd (upd (fRooms g nb nr).1 5 _) 0 (upd (fRooms g nb nr).1 5 _ 0 + 1) 0 = _
  rw [upd_s, upd_n (by decide), fRooms_off hw.who nr hw.nr4 0 (Or.inl (by decide)), hw.hr, nI_1]
theorem WF.ends {g : Rw} {nr ng nb t : Nat} (hw : WF g nr ng nb t) {k : Nat} (hk : k ≤ nb) : WF (fEnds g nb k) nr ng nb t :=
  hw.of (fun j hj _ => fEnds_off hw.who k hk j hj) ((fEnds_off hw.who k hk 0 (Or.inl (by decide))).trans hw.hr) (fEnds_bits hw.bt hw.who k hk)
set_option maxHeartbeats 4000000 in
theorem k2_letHourPass (σ : Sg) (h : Nat) (π : Nat → Nat) (nr ng nb t : Nat) (g : Rw) (hc : HC σ h π) (hw : WF g nr ng nb t) : Ct yX2_letHourPass cX2_letHourPass mX2_letHourPass 4 0 0 NN false (sH σ h π nr ng nb g) [.ref h] NN (eV1 (sH σ h π nr ng nb (fHour g nr nb))) XF := by
  refine ct_of (ls0 := [some (.ref h), none, none]) 2 (by decide +kernel) rfl rfl (ndR nd0) rfl (Nat.le_of_ble_eq_true rfl) (fun K => ?_)
  have hnr4 := hw.nr4
  have hng6 := hw.ng6
  have hnb12 := hw.nb12
  have L72 : ∀ (k : Nat) (b : Nat) (h1 : b ≤ nb) (h2 : nb - b < k) (v1 : Int32), AW K RX2 cX2_letHourPass mX2_letHourPass 4 0 0 (Qm K NN (eV1 (sH σ h π nr ng nb (fHour g nr nb))) XF 0 0) NN none (sH σ h π nr ng nb (fEnds (fMid g nr nb) nb b)) 0 0 72 [some (.ref h), some (.int v1), some (.int (nI b))] [] := by
    intro k
    induction k with
    | zero => intro b h1 h2 v1; exact absurd h2 (Nat.not_lt_zero _)
    | succ k ih =>
      intro b h1 h2 v1
      refine aw_iload2 dX2_letHourPass_72 ?_
      refine aw_aload0 dX2_letHourPass_73 ?_
      refine aw_getI dX2_letHourPass_74 fI_2_42 hc.t hc.l (sH_nb.trans (hw.mid.ends h1).nb) ?_
      refine aw_ic_ge (tgt := 122) dX2_letHourPass_77 (by decide) (fun c_77 => ?_) (fun c_77 => ?_)
      · have hbb : b = nb := by
          have := (nI_leI (by omega) (by omega)).mp c_77
          omega
        subst hbb
        exact aw_vret dX2_letHourPass_122 rfl (by decide) eV_of
      · have hlt : b < nb := by
          rcases Nat.lt_or_ge b nb with q | q
          · exact q
          · exact absurd (nI_le q (by omega)) c_77
        have hwe := hw.mid.ends h1
        have hw1 : WF (upd (fEnds (fMid g nr nb) nb b) (31 + 10 * b + 7) 0) nr ng nb (t + 1) := hwe.marks 0 (Or.inl rfl)
        refine aw_aload0 dX2_letHourPass_80 ?_
        refine aw_getR dX2_letHourPass_81 fR_2_27 hc.t hc.l (sH_books hc) ?_
        refine aw_iload2 dX2_letHourPass_84 ?_
        refine aw_aald (j := b) dX2_letHourPass_85 hc.tB (by decide) hc.lB rfl (by omega) (sH_book (by omega)) ?_
        refine aw_iconst (v := 0) dX2_letHourPass_86 (by decide) ?_
        refine aw_putZ dX2_letHourPass_87 fP_2_123 (hc.tb (by omega)) (hc.lb (by omega)) (by decide) ?_
        refine AW.eqs (sW_b hc hlt (by omega) (by omega) (by decide)) ?_
        refine aw_aload0 dX2_letHourPass_90 ?_
        refine aw_getR dX2_letHourPass_91 fR_2_27 hc.t hc.l (sH_books hc) ?_
        refine aw_iload2 dX2_letHourPass_94 ?_
        refine aw_aald (j := b) dX2_letHourPass_95 hc.tB (by decide) hc.lB rfl (by omega) (sH_book (by omega)) ?_
        refine aw_VI0 (k0_end _ _ (fun k => (upd (fEnds (fMid g nr nb) nb b) (31 + 10 * b + 7) 0) (31 + 10 * b + k)) (fun j hj => sH_b hc hlt (by omega) hj) (hc.tb (by omega)) (hc.lb (by omega))) dX2_letHourPass_96 vl_2_143 (hc.tb (by omega)) (hc.lb (by omega)) (by decide) (Nat.le_of_ble_eq_true rfl) (fun σ_96 r_96 h_96 => ?_)
        obtain ⟨rfl, h_96⟩ := h_96
        have h_96 : fEnd (upd (fEnds (fMid g nr nb) nb b) (31 + 10 * b + 7) 0) b = r_96 := h_96
        subst h_96
        refine aw_aload0 dX2_letHourPass_99 ?_
        refine aw_getI dX2_letHourPass_100 fI_2_33 hc.t hc.l (show _ = (upd (fEnds (fMid g nr nb) nb b) (31 + 10 * b + 7) 0) 0 from sH_hour) ?_
        refine aw_ic_ne (tgt := 116) dX2_letHourPass_103 (by decide) (fun c_103 => ?_) (fun c_103 => ?_)
        · refine aw_iinc2 (w := nI (b + 1)) dX2_letHourPass_116 (nI_1 b) (by decide) rfl ?_
          refine aw_goto (tgt := 72) dX2_letHourPass_119 (by decide) ?_
          have k9 := ih (b + 1) hlt (by omega) v1
          rw [fEnds_s] at k9
          first
            | (rw [if_pos c_103] at k9; exact k9)
            | (rw [if_neg c_103] at k9; exact k9)
        · refine aw_aload0 dX2_letHourPass_106 ?_
          refine aw_aload0 dX2_letHourPass_107 ?_
          refine aw_getR dX2_letHourPass_108 fR_2_27 hc.t hc.l (sH_books hc) ?_
          refine aw_iload2 dX2_letHourPass_111 ?_
          refine aw_aald (j := b) dX2_letHourPass_112 hc.tB (by decide) hc.lB rfl (by omega) (sH_book (by omega)) ?_
          refine aw_VV1 (k2_leaveHeat _ _ _ _ _ _ _ _ _ hc hw1 hlt) dX2_letHourPass_113 vl_2_147 hc.t hc.l (by decide) (Nat.le_of_ble_eq_true rfl) (fun σ_113 h_113 => ?_)
          obtain rfl := h_113
          refine aw_iinc2 (w := nI (b + 1)) dX2_letHourPass_116 (nI_1 b) (by decide) rfl ?_
          refine aw_goto (tgt := 72) dX2_letHourPass_119 (by decide) ?_
          have k9 := ih (b + 1) hlt (by omega) v1
          rw [fEnds_s] at k9
          first
            | (rw [if_pos c_103] at k9; exact k9)
            | (rw [if_neg c_103] at k9; exact k9)
  have L4 : ∀ (k : Nat) (r : Nat) (h1 : r ≤ nr) (h2 : nr - r < k), AW K RX2 cX2_letHourPass mX2_letHourPass 4 0 0 (Qm K NN (eV1 (sH σ h π nr ng nb (fHour g nr nb))) XF 0 0) NN none (sH σ h π nr ng nb (cR g nb r).1) 0 0 4 [some (.ref h), some (.int (cR g nb r).2), some (.int (nI r))] [] := by
    intro k
    induction k with
    | zero => intro r h1 h2; exact absurd h2 (Nat.not_lt_zero _)
    | succ k ih =>
      intro r h1 h2
      refine aw_iload2 dX2_letHourPass_4 ?_
      refine aw_aload0 dX2_letHourPass_5 ?_
      refine aw_getI dX2_letHourPass_6 fI_2_36 hc.t hc.l (sH_nr.trans (hw.cr h1).nr) ?_
      refine aw_ic_ge (tgt := 40) dX2_letHourPass_9 (by decide) (fun c_9 => ?_) (fun c_9 => ?_)
      · have hbb : r = nr := by
          have := (nI_leI (by omega) (by omega)).mp c_9
          omega
        subst hbb
        refine aw_aload0 dX2_letHourPass_40 ?_
        refine aw_dup dX2_letHourPass_41 rfl ?_
        refine aw_getI dX2_letHourPass_42 fI_2_45 hc.t hc.l sH_met ?_
        refine AW.tern0 (E := (if 0 < (cR g nb r).2 then (cR g nb r).2 + 1 else 0)) (pc2 := 56) (fun x_56 hx_56 => ?_) (fun J_56 => ?_)
        · subst hx_56
          refine aw_iadd dX2_letHourPass_56 ?_
          refine aw_putI dX2_letHourPass_57 fP_2_45 hc.t hc.l ?_
          refine AW.eqs (sW_i (j := 8) (by unfold isI; omega)) ?_
          
          refine aw_aload0 dX2_letHourPass_60 ?_
          refine aw_dup dX2_letHourPass_61 rfl ?_
          refine aw_getI dX2_letHourPass_62 fI_2_33 hc.t hc.l sH_hour ?_
          refine aw_iconst (v := 1) dX2_letHourPass_65 (by decide) ?_
          refine aw_iadd dX2_letHourPass_66 ?_
          refine aw_putI dX2_letHourPass_67 fP_2_33 hc.t hc.l ?_
          refine AW.eqs (sW_i (j := 0) (by unfold isI; omega)) ?_
          refine AW.eqs (congrArg (sH σ h π _ ng nb) (fMid_cR hw)) ?_
          refine aw_iconst (v := 0) dX2_letHourPass_70 (by decide) ?_
          refine aw_istore2 dX2_letHourPass_71 (by decide) rfl ?_
          exact L72 (nb + 1) 0 (Nat.zero_le _) (by omega) _
        · refine aw_iload1 dX2_letHourPass_45 ?_
          refine aw_if_le (tgt := 55) dX2_letHourPass_46 (by decide) (fun c_46 => ?_) (fun c_46 => ?_)
          · refine aw_iconst (v := 0) dX2_letHourPass_55 (by decide) ?_
            exact J_56 _ (by first | exact (if_neg (Int32.not_lt.mpr c_46)).symm | exact (if_pos (Int32.not_le.mp c_46)).symm)
          · refine aw_iload1 dX2_letHourPass_49 ?_
            refine aw_iconst (v := 1) dX2_letHourPass_50 (by decide) ?_
            refine aw_iadd dX2_letHourPass_51 ?_
            refine aw_goto (tgt := 56) dX2_letHourPass_52 (by decide) ?_
            exact J_56 _ (by first | exact (if_neg (Int32.not_lt.mpr c_46)).symm | exact (if_pos (Int32.not_le.mp c_46)).symm)
      · have hlt : r < nr := by
          rcases Nat.lt_or_ge r nr with q | q
          · exact q
          · exact absurd (nI_le q (by omega)) c_9
        have hwr := hw.cr (k := r) h1
        refine aw_iload1 dX2_letHourPass_12 ?_
        refine aw_aload0 dX2_letHourPass_13 ?_
        refine aw_aload0 dX2_letHourPass_14 ?_
        refine aw_getR dX2_letHourPass_15 fR_2_17 hc.t hc.l (sH_rooms hc) ?_
        refine aw_iload2 dX2_letHourPass_18 ?_
        refine aw_aald (j := r) dX2_letHourPass_19 hc.tR (by decide) hc.lR rfl (by omega) (sH_room hc (by omega)) ?_
        refine aw_aload0 dX2_letHourPass_20 ?_
        refine aw_aload0 dX2_letHourPass_21 ?_
        refine aw_iload2 dX2_letHourPass_22 ?_
        refine aw_VI1 (k2_heatingBooking _ _ _ _ _ _ _ _ r hc hwr hlt) dX2_letHourPass_23 vl_2_136 hc.t hc.l (by decide) (Nat.le_of_ble_eq_true rfl) (fun σ_23 r_23 h_23 => ?_)
        obtain ⟨rfl, h_23⟩ := h_23
        rcases hF : fHeater (cR g nb r).1 r nb with _ | f
        · rw [hF] at h_23
          have h_23 : (-99 : Int32) = r_23 := h_23
          subst h_23
          refine aw_VA1 (k2_findBooking _ _ _ _ _ _ _ _ _ hc hwr) dX2_letHourPass_26 vl_2_84 hc.t hc.l (by decide) (Nat.le_of_ble_eq_true rfl) (fun σ_26 r_26 h_26 => ?_)
          obtain ⟨rfl, h_26⟩ := h_26
          obtain rfl : r_26 = none := h_26.elim (fun q => by obtain ⟨k, hk, e, -⟩ := q; exact absurd (show oI none = nI k from e) (oI_ne (by omega))) (fun q => q.2)
          refine aw_VI2 (k2_heatRoomN _ _ _ _ _ _ _ _ r hc hwr hlt hF) dX2_letHourPass_29 vl_2_139 hc.t hc.l (by decide) (Nat.le_of_ble_eq_true rfl) (fun σ_29 r_29 h_29 => ?_)
          obtain ⟨rfl, rfl⟩ := h_29
          refine aw_iadd dX2_letHourPass_32 ?_
          refine aw_istore1 dX2_letHourPass_33 (by decide) rfl ?_
          refine aw_iinc2 (w := nI (r + 1)) dX2_letHourPass_34 (nI_1 r) (by decide) rfl ?_
          refine aw_goto (tgt := 4) dX2_letHourPass_37 (by decide) ?_
          exact ih (r + 1) hlt (by omega)
        · rw [hF] at h_23
          have h_23 : nI f = r_23 := h_23
          subst h_23
          have hf12 := fHeater_lt hF
          refine aw_VA1 (k2_findBooking _ _ _ _ _ _ _ _ _ hc hwr) dX2_letHourPass_26 vl_2_84 hc.t hc.l (by decide) (Nat.le_of_ble_eq_true rfl) (fun σ_26 r_26 h_26 => ?_)
          obtain ⟨rfl, h_26⟩ := h_26
          obtain ⟨k_26, hk_26, e_26, rfl⟩ : ∃ k, k < nb ∧ nI f = nI k ∧ r_26 = some (h + 8 + π k) := h_26.elim id (fun q => absurd ⟨f, hf12, rfl⟩ q.1)
          have e_26 := (nI_eq (by omega) (by omega)).mp e_26
          subst e_26
          refine aw_VI2 (k2_heatRoom _ _ _ _ _ _ _ _ r _ hc hwr hlt hf12 hF) dX2_letHourPass_29 vl_2_139 hc.t hc.l (by decide) (Nat.le_of_ble_eq_true rfl) (fun σ_29 r_29 h_29 => ?_)
          obtain ⟨rfl, rfl⟩ := h_29
          refine aw_iadd dX2_letHourPass_32 ?_
          refine aw_istore1 dX2_letHourPass_33 (by decide) rfl ?_
          refine aw_iinc2 (w := nI (r + 1)) dX2_letHourPass_34 (nI_1 r) (by decide) rfl ?_
          refine aw_goto (tgt := 4) dX2_letHourPass_37 (by decide) ?_
          exact ih (r + 1) hlt (by omega)
  refine aw_iconst (v := 0) dX2_letHourPass_0 (by decide) ?_
  refine aw_istore1 dX2_letHourPass_1 (by decide) rfl ?_
  refine aw_iconst (v := 0) dX2_letHourPass_2 (by decide) ?_
  refine aw_istore2 dX2_letHourPass_3 (by decide) rfl ?_
  exact L4 (nr + 1) 0 (Nat.zero_le _) (by omega)
set_option maxHeartbeats 4000000 in
theorem k2_letHoursPass (σ : Sg) (h : Nat) (π : Nat → Nat) (nr ng nb t : Nat) (g : Rw) (x : Int32) (m : Nat) (hc : HC σ h π) (hw : WF g nr ng nb t) (hx9 : (x = nI m ∧ m < 2 ^ 31) ∨ (x < 0 ∧ m = 0)) : Ct yX2_letHoursPass cX2_letHoursPass mX2_letHoursPass 5 0 0 NN false (sH σ h π nr ng nb g) [.ref h, .int x] NN (eV1 (sH σ h π nr ng nb (fHours g nr nb m))) XF := by
  refine ct_of (ls0 := [some (.ref h), some (.int x), none]) 1 (by decide +kernel) rfl rfl (ndR (ndI nd0)) rfl (Nat.le_of_ble_eq_true rfl) (fun K => ?_)
  have hnr4 := hw.nr4
  have hng6 := hw.ng6
  have hnb12 := hw.nb12
  have L2 : ∀ (k : Nat) (i : Nat) (h1 : i ≤ m) (h2 : m - i < k), AW K RX2 cX2_letHoursPass mX2_letHoursPass 5 0 0 (Qm K NN (eV1 (sH σ h π nr ng nb (fHours g nr nb m))) XF 0 0) NN none (sH σ h π nr ng nb (fHours g nr nb i)) 0 0 2 [some (.ref h), some (.int x), some (.int (nI i))] [] := by
    intro k
    induction k with
    | zero => intro i h1 h2; exact absurd h2 (Nat.not_lt_zero _)
    | succ k ih =>
      intro i h1 h2
      refine aw_iload2 dX2_letHoursPass_2 ?_
      refine aw_iload1 dX2_letHoursPass_3 ?_
      refine aw_ic_ge (tgt := 17) dX2_letHoursPass_4 (by decide) (fun c_4 => ?_) (fun c_4 => ?_)
      · have hbb : i = m := by
          rcases hx9 with ⟨rfl, hm⟩ | ⟨hx0, rfl⟩
          · have := (nI_leI (by omega) (by omega)).mp c_4
            omega
          · omega
        subst hbb
        exact aw_vret dX2_letHoursPass_17 rfl (by decide) eV_of
      · have hlt : i < m := by
          rcases hx9 with ⟨rfl, hm⟩ | ⟨hx0, rfl⟩
          · rcases Nat.lt_or_ge i m with q | q
            · exact q
            · exact absurd (nI_le q (by omega)) c_4
          · exfalso
            have : i = 0 := by omega
            subst this
            exact c_4 (Int32.le_of_lt hx0)
        have hwi := hw.hoursN i
        refine aw_aload0 dX2_letHoursPass_7 ?_
        refine aw_VV0 (k2_letHourPass _ _ _ _ _ _ _ _ hc hwi) dX2_letHoursPass_8 vl_2_133 hc.t hc.l (by decide) (Nat.le_of_ble_eq_true rfl) (fun σ_8 h_8 => ?_)
        obtain rfl := h_8
        refine aw_iinc2 (w := nI (i + 1)) dX2_letHoursPass_11 (nI_1 i) (by decide) rfl ?_
        refine aw_goto (tgt := 2) dX2_letHoursPass_14 (by decide) ?_
        exact ih (i + 1) (by omega) (by omega)
  refine aw_iconst (v := 0) dX2_letHoursPass_0 (by decide) ?_
  refine aw_istore2 dX2_letHoursPass_1 (by decide) rfl ?_
  exact L2 (m + 1) 0 (Nat.zero_le _) (by omega)
