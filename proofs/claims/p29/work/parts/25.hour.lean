/-! the class: an hour -/
/-- what an hour makes of a row in a room that is heated, place by place -/
def rmU (g : Rw) (r b : Nat) : Int32 := byOf (g (31 + 10 * b + 4) - fCool g r) (g (9 + 4 * r + 2))
def rmH (g : Rw) (r b : Nat) : Int32 := rmU g r b * g (9 + 4 * r + 0)
def rmF (g : Rw) (r b w : Nat) (own cold mark : Bool) : Rw := fun j =>
  if j = 9 + 4 * r + 3 then fCool g r + rmU g r b
  else if j = 31 + 10 * b + 9 then (if own = true then g j else 1)
  else if j = 31 + 10 * b + 8 then (g j + if own = true ∧ cold = true then 1 else 0)
  else if j = 31 + 10 * b + 6 then (if own = true then g j + rmH g r b else g j)
  else if j = 31 + 10 * b + 5 then (if own = true then g j else g j + rmH g r b)
  else if j = 7 then (if own = true ∧ mark = true then g j + rmH g r b else g j)
  else if j = 6 ∨ j = 25 + w then (if own = true ∧ mark = true then g j else g j + rmH g r b)
  else g j
theorem fRoom_rmF {g : Rw} {r b w nb : Nat} (hr : r < 4) (hb : b < 12) (hw6 : w < 6) (hw : g (31 + 10 * b + 1) = nI w) (hf : fHeater g r nb = some b) : (fRoom g r nb).1 = rmF g r b w (decide (g (31 + 10 * b + 2) ≤ g 0)) (decide (g (9 + 4 * r + 3) < g (31 + 10 * b + 4) - 1)) (decide (g (31 + 10 * b + 7) = 1)) ∧ (fRoom g r nb).2 = rmH g r b := by
  have e0 : ∀ G : Rw, G (31 + 10 * b + 1) = g (31 + 10 * b + 1) → whoN G b = w := fun G h => by rw [whoN, h, hw, nI_clamp (by omega)]
  have hX : ∀ (v1 v2 v3 v4 : Int32), whoN (upd (upd (upd (upd g (9 + 4 * r + 3) v1) (31 + 10 * b + 9) v2) (31 + 10 * b + 8) v3) (9 + 4 * r + 3) v4) b = w := fun v1 v2 v3 v4 => e0 _ (by simp (disch := omega) only [upd_n])
  rw [fRoom, hf]
  simp only [fCharge, hX]
  simp (disch := omega) only [upd_s, upd_n]
  refine ⟨funext fun j => ?_, rfl⟩
  have hu : byOf (g (31 + 10 * b + 4) - fCool g r) (g (9 + 4 * r + 2)) * g (9 + 4 * r + 0) = rmH g r b := rfl
  have hu2 : byOf (g (31 + 10 * b + 4) - fCool g r) (g (9 + 4 * r + 2)) = rmU g r b := rfl
  rw [hu, hu2]
  by_cases own : g (31 + 10 * b + 2) ≤ g 0 <;> by_cases mk : g (31 + 10 * b + 7) = 1 <;> by_cases cold : g (9 + 4 * r + 3) < g (31 + 10 * b + 4) - 1 <;>
  · simp only [own, mk, cold, and_self, and_true, true_and, and_false, false_and, if_true, if_false, decide_true, decide_false, rmF, Bool.false_eq_true]
    by_cases j1 : j = 9 + 4 * r + 3
    · subst j1; simp (disch := omega) only [upd_s, upd_n, if_pos, if_neg, ↓reduceIte]
    by_cases j2 : j = 31 + 10 * b + 9
    · subst j2; simp (disch := omega) only [upd_s, upd_n, if_pos, if_neg, ↓reduceIte, if_true, if_false]
    by_cases j3 : j = 31 + 10 * b + 8
    · subst j3; simp (disch := omega) only [upd_s, upd_n, if_pos, if_neg, ↓reduceIte]
    by_cases j4 : j = 31 + 10 * b + 6
    · subst j4; simp (disch := omega) only [upd_s, upd_n, if_pos, if_neg, ↓reduceIte]
    by_cases j5 : j = 31 + 10 * b + 5
    · subst j5; simp (disch := omega) only [upd_s, upd_n, if_pos, if_neg, ↓reduceIte]
    by_cases j6 : j = 7
    · subst j6; simp (disch := omega) only [upd_s, upd_n, if_pos, if_neg, ↓reduceIte]
    by_cases j7 : j = 6
    · subst j7; simp (disch := omega) only [upd_s, upd_n, if_pos, if_neg, ↓reduceIte, true_or]
    by_cases j8 : j = 25 + w
    · subst j8; simp (disch := omega) only [upd_s, upd_n, if_pos, if_neg, ↓reduceIte, or_true]
    simp (disch := omega) only [upd_s, upd_n, if_pos, if_neg, ↓reduceIte, j1, j2, j3, j4, j5, j6, j7, j8, if_false, or_self]
theorem upd_upd {f : Rw} {k : Nat} {x y : Int32} : upd (upd f k x) k y = upd f k y := funext fun j => by
  by_cases h : j = k
  · rw [h, upd_s, upd_s]
  · rw [upd_n h, upd_n h, upd_n h]
theorem wD_byOf {u T P : Int32} (hP : 0 ≤ P) : wD u T P = byOf (u - T) P := by
  unfold wD byOf
  by_cases h1 : P < u - T
  · rw [if_pos h1, if_neg (fun q => Int32.not_lt.mpr hP (Int32.lt_trans h1 q))]
    by_cases h2 : 0 < P
    · rw [if_pos h2]
    · rw [if_neg h2]
      exact Int32.le_antisymm hP (Int32.not_lt.mp h2)
  · rw [if_neg h1]
    by_cases h2 : u - T < 0
    · rw [if_pos h2, if_neg (fun q => Int32.lt_irrefl (Int32.lt_trans h2 q))]
    · rw [if_neg h2]
      by_cases h3 : 0 < u - T
      · rw [if_pos h3]
      · rw [if_neg h3]
        exact Int32.le_antisymm (Int32.not_lt.mp h2) (Int32.not_lt.mp h3)
theorem fNxt_spec {g : Rw} {r : Nat} : ∀ {k b : Nat}, fNxt g r k = some b → g (31 + 10 * b + 0) = nI r ∧ g 0 < g (31 + 10 * b + 2)
  | 0, _, h => nomatch h
  | k + 1, b, h => by
    unfold fNxt at h
    split at h
    · rename_i e
      cases h
      have := nxtD_iff.mp e
      exact ⟨this.1, this.2.1⟩
    · exact fNxt_spec h
theorem fHeater_own {g : Rw} {r nb b : Nat} (h : fHeater g r nb = some b) : (g (31 + 10 * b + 2) ≤ g 0 ∧ g 0 < g (31 + 10 * b + 2) + g (31 + 10 * b + 3)) ↔ g (31 + 10 * b + 2) ≤ g 0 := by
  refine ⟨fun q => q.1, fun q => ⟨q, ?_⟩⟩
  unfold fHeater at h
  split at h
  · rename_i c hc
    cases h
    exact Int32.not_le.mp (fCur_spec hc).2.2
  · split at h
    · cases h
    · rename_i c hc
      split at h
      · cases h
        exact absurd (fNxt_spec hc).2 (Int32.not_lt.mpr q)
      · cases h
def cPre (g : Rw) (b w : Nat) (u : Int32) : Rw := cG (upd (upd g (31 + 10 * b + 9) 1) (31 + 10 * b + 5) (upd g (31 + 10 * b + 9) 1 (31 + 10 * b + 5) + u)) w u
def cOwn1 (g : Rw) (b : Nat) (u before : Int32) : Rw := if before < upd g (31 + 10 * b + 6) (g (31 + 10 * b + 6) + u) (31 + 10 * b + 4) - 1 then upd (upd g (31 + 10 * b + 6) (g (31 + 10 * b + 6) + u)) (31 + 10 * b + 8) (upd g (31 + 10 * b + 6) (g (31 + 10 * b + 6) + u) (31 + 10 * b + 8) + 1) else upd g (31 + 10 * b + 6) (g (31 + 10 * b + 6) + u)
def cOwn (g : Rw) (b w : Nat) (u before : Int32) : Rw := if cOwn1 g b u before (31 + 10 * b + 7) = 0 then cG (cOwn1 g b u before) w u else upd (cOwn1 g b u before) 7 (cOwn1 g b u before 7 + u)
theorem cOwn1_off {g : Rw} {b j : Nat} {u before : Int32} (h6 : j ≠ 31 + 10 * b + 6) (h8 : j ≠ 31 + 10 * b + 8) : cOwn1 g b u before j = g j := by
  unfold cOwn1
  split
  · rw [upd_n h8, upd_n h6]
  · rw [upd_n h6]
set_option maxHeartbeats 4000000 in
theorem k2_chargePreheat (σ : Sg) (h : Nat) (π : Nat → Nat) (nr ng nb : Nat) (g : Rw) (b w : Nat) (u : Int32) (hc : HC σ h π) (hng : g 2 = nI ng) (hng6 : ng ≤ 6) (hb12 : nb ≤ 12) (hb : b < nb) (hwn : w < ng) (hgw : g (31 + 10 * b + 1) = nI w) : Ct yX2_chargePreheat cX2_chargePreheat mX2_chargePreheat 2 0 0 NN false (sH σ h π nr ng nb g) [.ref h, .ref (h + 8 + π b), .int u] NN (eV1 (sH σ h π nr ng nb (cPre g b w u))) XF := by
  refine ct_of (ls0 := [some (.ref h), some (.ref (h + 8 + π b)), some (.int u)]) 0 (by decide +kernel) rfl rfl (ndR (ndR (ndI nd0))) rfl (Nat.le_of_ble_eq_true rfl) (fun K => ?_)
  refine aw_aload1 dX2_chargePreheat_0 ?_
  refine aw_iconst (v := 1) dX2_chargePreheat_1 (by decide) ?_
  refine aw_putZ dX2_chargePreheat_2 fP_2_110 (hc.tb (by omega)) (hc.lb (by omega)) (by decide) ?_
  refine AW.eqs (sW_b hc hb hb12 hng6 (by decide)) ?_
  refine aw_aload1 dX2_chargePreheat_5 ?_
  refine aw_dup dX2_chargePreheat_6 rfl ?_
  refine aw_getI dX2_chargePreheat_7 fI_2_164 (hc.tb (by omega)) (hc.lb (by omega)) (show _ = upd g (31 + 10 * b + 9) 1 (31 + 10 * b + 5) from sH_b hc hb hb12 (by decide)) ?_
  refine aw_iload2 dX2_chargePreheat_10 ?_
  refine aw_iadd dX2_chargePreheat_11 ?_
  refine aw_putI dX2_chargePreheat_12 fP_2_164 (hc.tb (by omega)) (hc.lb (by omega)) ?_
  refine AW.eqs (sW_b hc hb hb12 hng6 (by decide)) ?_
  refine aw_aload0 dX2_chargePreheat_15 ?_
  refine aw_aload1 dX2_chargePreheat_16 ?_
  refine aw_getI dX2_chargePreheat_17 fI_2_167 (hc.tb (by omega)) (hc.lb (by omega)) (show _ = upd (upd g (31 + 10 * b + 9) 1) (31 + 10 * b + 5) (upd g (31 + 10 * b + 9) 1 (31 + 10 * b + 5) + u) (31 + 10 * b + 1) from sH_b hc hb hb12 (by decide)) ?_
  refine aw_iload2 dX2_chargePreheat_20 ?_
  refine aw_VV2 (k2_chargeGroup _ _ _ _ _ _ 0 _ w _ _ hc ((upd_n (by omega)).trans ((upd_n (by omega)).trans hng)) hng6 hwn ((upd_n (by omega)).trans ((upd_n (by omega)).trans hgw))) dX2_chargePreheat_21 vl_2_170 hc.t hc.l (by decide) (Nat.le_of_ble_eq_true rfl) (fun σ_21 h_21 => ?_)
  obtain rfl := h_21
  exact aw_vret dX2_chargePreheat_24 rfl (by decide) eV_of
set_option maxHeartbeats 4000000 in
theorem k2_chargeOwnHour (σ : Sg) (h : Nat) (π : Nat → Nat) (nr ng nb : Nat) (g : Rw) (b w : Nat) (u before : Int32) (hc : HC σ h π) (hng : g 2 = nI ng) (hng6 : ng ≤ 6) (hb12 : nb ≤ 12) (hb : b < nb) (hwn : w < ng) (hgw : g (31 + 10 * b + 1) = nI w) : Ct yX2_chargeOwnHour cX2_chargeOwnHour mX2_chargeOwnHour 2 0 0 NN false (sH σ h π nr ng nb g) [.ref h, .ref (h + 8 + π b), .int u, .int before] NN (eV1 (sH σ h π nr ng nb (cOwn g b w u before))) XF := by
  refine ct_of (ls0 := [some (.ref h), some (.ref (h + 8 + π b)), some (.int u), some (.int before)]) 0 (by decide +kernel) rfl rfl (ndR (ndR (ndI (ndI nd0)))) rfl (Nat.le_of_ble_eq_true rfl) (fun K => ?_)
  refine aw_aload1 dX2_chargeOwnHour_0 ?_
  refine aw_dup dX2_chargeOwnHour_1 rfl ?_
  refine aw_getI dX2_chargeOwnHour_2 fI_2_174 (hc.tb (by omega)) (hc.lb (by omega)) (show _ = g (31 + 10 * b + 6) from sH_b hc hb hb12 (by decide)) ?_
  refine aw_iload2 dX2_chargeOwnHour_5 ?_
  refine aw_iadd dX2_chargeOwnHour_6 ?_
  refine aw_putI dX2_chargeOwnHour_7 fP_2_174 (hc.tb (by omega)) (hc.lb (by omega)) ?_
  refine AW.eqs (sW_b hc hb hb12 hng6 (by decide)) ?_
  refine aw_iload3 dX2_chargeOwnHour_10 ?_
  refine aw_aload1 dX2_chargeOwnHour_11 ?_
  refine aw_getI dX2_chargeOwnHour_12 fI_2_120 (hc.tb (by omega)) (hc.lb (by omega)) (show _ = upd g (31 + 10 * b + 6) (g (31 + 10 * b + 6) + u) (31 + 10 * b + 4) from sH_b hc hb hb12 (by decide)) ?_
  refine aw_iconst (v := 1) dX2_chargeOwnHour_15 (by decide) ?_
  refine aw_isub dX2_chargeOwnHour_16 ?_
  refine aw_ic_ge (tgt := 30) dX2_chargeOwnHour_17 (by decide) (fun c_17 => ?_) (fun c_17 => ?_)
  · refine AW.eqs (show _ = sH σ h π nr ng nb (cOwn1 g b u before) from congrArg (sH σ h π nr ng nb) (by first | exact (if_pos (Int32.not_le.mp c_17)).symm | exact (if_neg (Int32.not_lt.mpr c_17)).symm)) ?_
    refine aw_aload1 dX2_chargeOwnHour_30 ?_
    refine aw_getI dX2_chargeOwnHour_31 fI_2_123 (hc.tb (by omega)) (hc.lb (by omega)) (show _ = (cOwn1 g b u before) (31 + 10 * b + 7) from sH_b hc hb hb12 (by decide)) ?_
    refine aw_if_eq (tgt := 50) dX2_chargeOwnHour_34 (by decide) (fun c_34 => ?_) (fun c_34 => ?_)
    · refine aw_aload0 dX2_chargeOwnHour_50 ?_
      refine aw_aload1 dX2_chargeOwnHour_51 ?_
      refine aw_getI dX2_chargeOwnHour_52 fI_2_167 (hc.tb (by omega)) (hc.lb (by omega)) (show _ = (cOwn1 g b u before) (31 + 10 * b + 1) from sH_b hc hb hb12 (by decide)) ?_
      refine aw_iload2 dX2_chargeOwnHour_55 ?_
      refine aw_VV2 (k2_chargeGroup _ _ _ _ _ _ 0 _ w _ _ hc ((cOwn1_off (by omega) (by omega)).trans hng) hng6 hwn ((cOwn1_off (by omega) (by omega)).trans hgw)) dX2_chargeOwnHour_56 vl_2_170 hc.t hc.l (by decide) (Nat.le_of_ble_eq_true rfl) (fun σ_56 h_56 => ?_)
      obtain rfl := h_56
      exact aw_vret dX2_chargeOwnHour_59 rfl (by decide) (eV_to (congrArg (sH σ h π nr ng nb) (by first | exact if_pos c_34 | exact if_neg c_34)))
    · refine aw_aload0 dX2_chargeOwnHour_37 ?_
      refine aw_dup dX2_chargeOwnHour_38 rfl ?_
      refine aw_getI dX2_chargeOwnHour_39 fI_2_51 hc.t hc.l sH_par ?_
      refine aw_iload2 dX2_chargeOwnHour_42 ?_
      refine aw_iadd dX2_chargeOwnHour_43 ?_
      refine aw_putI dX2_chargeOwnHour_44 fP_2_51 hc.t hc.l ?_
      refine AW.eqs (sW_i (j := 10) (by unfold isI; omega)) ?_
      refine aw_goto (tgt := 59) dX2_chargeOwnHour_47 (by decide) ?_
      exact aw_vret dX2_chargeOwnHour_59 rfl (by decide) (eV_to (congrArg (sH σ h π nr ng nb) (by first | exact if_pos c_34 | exact if_neg c_34)))
  · refine aw_aload1 dX2_chargeOwnHour_20 ?_
    refine aw_dup dX2_chargeOwnHour_21 rfl ?_
    refine aw_getI dX2_chargeOwnHour_22 fI_2_177 (hc.tb (by omega)) (hc.lb (by omega)) (show _ = upd g (31 + 10 * b + 6) (g (31 + 10 * b + 6) + u) (31 + 10 * b + 8) from sH_b hc hb hb12 (by decide)) ?_
    refine aw_iconst (v := 1) dX2_chargeOwnHour_25 (by decide) ?_
    refine aw_iadd dX2_chargeOwnHour_26 ?_
    refine aw_putI dX2_chargeOwnHour_27 fP_2_177 (hc.tb (by omega)) (hc.lb (by omega)) ?_
    refine AW.eqs (sW_b hc hb hb12 hng6 (by decide)) ?_
    refine AW.eqs (show _ = sH σ h π nr ng nb (cOwn1 g b u before) from congrArg (sH σ h π nr ng nb) (by first | exact (if_pos (Int32.not_le.mp c_17)).symm | exact (if_neg (Int32.not_lt.mpr c_17)).symm)) ?_
    refine aw_aload1 dX2_chargeOwnHour_30 ?_
    refine aw_getI dX2_chargeOwnHour_31 fI_2_123 (hc.tb (by omega)) (hc.lb (by omega)) (show _ = (cOwn1 g b u before) (31 + 10 * b + 7) from sH_b hc hb hb12 (by decide)) ?_
    refine aw_if_eq (tgt := 50) dX2_chargeOwnHour_34 (by decide) (fun c_34 => ?_) (fun c_34 => ?_)
    · refine aw_aload0 dX2_chargeOwnHour_50 ?_
      refine aw_aload1 dX2_chargeOwnHour_51 ?_
      refine aw_getI dX2_chargeOwnHour_52 fI_2_167 (hc.tb (by omega)) (hc.lb (by omega)) (show _ = (cOwn1 g b u before) (31 + 10 * b + 1) from sH_b hc hb hb12 (by decide)) ?_
      refine aw_iload2 dX2_chargeOwnHour_55 ?_
      refine aw_VV2 (k2_chargeGroup _ _ _ _ _ _ 0 _ w _ _ hc ((cOwn1_off (by omega) (by omega)).trans hng) hng6 hwn ((cOwn1_off (by omega) (by omega)).trans hgw)) dX2_chargeOwnHour_56 vl_2_170 hc.t hc.l (by decide) (Nat.le_of_ble_eq_true rfl) (fun σ_56 h_56 => ?_)
      obtain rfl := h_56
      exact aw_vret dX2_chargeOwnHour_59 rfl (by decide) (eV_to (congrArg (sH σ h π nr ng nb) (by first | exact if_pos c_34 | exact if_neg c_34)))
    · refine aw_aload0 dX2_chargeOwnHour_37 ?_
      refine aw_dup dX2_chargeOwnHour_38 rfl ?_
      refine aw_getI dX2_chargeOwnHour_39 fI_2_51 hc.t hc.l sH_par ?_
      refine aw_iload2 dX2_chargeOwnHour_42 ?_
      refine aw_iadd dX2_chargeOwnHour_43 ?_
      refine aw_putI dX2_chargeOwnHour_44 fP_2_51 hc.t hc.l ?_
      refine AW.eqs (sW_i (j := 10) (by unfold isI; omega)) ?_
      refine aw_goto (tgt := 59) dX2_chargeOwnHour_47 (by decide) ?_
      exact aw_vret dX2_chargeOwnHour_59 rfl (by decide) (eV_to (congrArg (sH σ h π nr ng nb) (by first | exact if_pos c_34 | exact if_neg c_34)))
/-- the row behind a room's hour, heated hours with it -/
def hR (g : Rw) (r nb : Nat) : Rw := upd (fRoom g r nb).1 8 ((fRoom g r nb).1 8 + pos1 (fRoom g r nb).2)
def g2R (g : Rw) (r b : Nat) : Rw := upd g (9 + 4 * r + 3) (fCool g r + rmU g r b)
def g3R (g : Rw) (r b : Nat) : Rw := upd (g2R g r b) 8 (g2R g r b 8 + pos1 (rmH g r b))
theorem g3R_off {g : Rw} {r b j : Nat} (h1 : j ≠ 9 + 4 * r + 3) (h2 : j ≠ 8) : g3R g r b j = g j := by rw [g3R, g2R, upd_n h2, upd_n h1]
theorem hR_none {g : Rw} {r nb : Nat} (h : fHeater g r nb = none) : hR g r nb = upd g (9 + 4 * r + 3) (fCool g r) ∧ (fRoom g r nb).2 = 0 := by
  have e : fRoom g r nb = (upd g (9 + 4 * r + 3) (fCool g r), 0) := by rw [fRoom, h]
  rw [hR, e]
  refine ⟨funext fun j => ?_, rfl⟩
  by_cases h8 : j = 8
  · subst h8
    rw [upd_s, show pos1 0 = nI 0 from by decide]
    show (upd g (9 + 4 * r + 3) (fCool g r)) 8 + 0 = _
    exact Int32.add_zero _
  · rw [upd_n h8]
theorem hR_case {g : Rw} {r b w nb : Nat} (hr : r < 4) (hb : b < 12) (hw6 : w < 6) (hw : g (31 + 10 * b + 1) = nI w) (hf : fHeater g r nb = some b) (hm : g (31 + 10 * b + 7) = 0 ∨ g (31 + 10 * b + 7) = 1) :
    (g (31 + 10 * b + 2) ≤ g 0 → hR g r nb = cOwn (g3R g r b) b w (rmH g r b) (g (9 + 4 * r + 3))) ∧ (¬ g (31 + 10 * b + 2) ≤ g 0 → hR g r nb = cPre (g3R g r b) b w (rmH g r b)) := by
  obtain ⟨e1, e2⟩ := fRoom_rmF hr hb hw6 hw hf
  rw [hR, e1, e2]
  refine ⟨fun own => ?_, fun own => ?_⟩
  · have c7 : cOwn1 (g3R g r b) b (rmH g r b) (g (9 + 4 * r + 3)) (31 + 10 * b + 7) = g (31 + 10 * b + 7) := by rw [cOwn1_off (by omega) (by omega), g3R_off (by omega) (by omega)]
    unfold cOwn
    rw [c7]
    unfold cOwn1 cG
    simp (disch := omega) only [upd_s, upd_n, g3R, g2R]
    refine funext fun j => ?_
    by_cases mk : g (31 + 10 * b + 7) = 1
    · have mk0 : ¬ g (31 + 10 * b + 7) = 0 := by rw [mk]; decide
      rw [if_neg mk0]
      by_cases cold : g (9 + 4 * r + 3) < g (31 + 10 * b + 4) - 1
      all_goals
        simp only [own, mk, cold, rmF, decide_true, decide_false, and_true, true_and, and_self, and_false, false_and, ↓reduceIte, Bool.false_eq_true]
        by_cases j1 : j = 9 + 4 * r + 3
        · subst j1; simp (disch := omega) only [upd_s, upd_n, if_pos, if_neg, ↓reduceIte, rmF, and_self, and_true, true_and, and_false, false_and, Bool.false_eq_true, Int32.add_zero, true_or, or_true, or_self]
        by_cases j2 : j = 8
        · subst j2; simp (disch := omega) only [upd_s, upd_n, if_pos, if_neg, ↓reduceIte, rmF, and_self, and_true, true_and, and_false, false_and, Bool.false_eq_true, Int32.add_zero, true_or, or_true, or_self]
        by_cases j3 : j = 31 + 10 * b + 8
        · subst j3; simp (disch := omega) only [upd_s, upd_n, if_pos, if_neg, ↓reduceIte, rmF, and_self, and_true, true_and, and_false, false_and, Bool.false_eq_true, Int32.add_zero, true_or, or_true, or_self]
        by_cases j4 : j = 31 + 10 * b + 6
        · subst j4; simp (disch := omega) only [upd_s, upd_n, if_pos, if_neg, ↓reduceIte, rmF, and_self, and_true, true_and, and_false, false_and, Bool.false_eq_true, Int32.add_zero, true_or, or_true, or_self]
        by_cases j6 : j = 7
        · subst j6; simp (disch := omega) only [upd_s, upd_n, if_pos, if_neg, ↓reduceIte, rmF, and_self, and_true, true_and, and_false, false_and, Bool.false_eq_true, Int32.add_zero, true_or, or_true, or_self]
        simp (disch := omega) only [upd_s, upd_n, if_pos, if_neg, ↓reduceIte, rmF, and_self, and_true, true_and, and_false, false_and, Bool.false_eq_true, Int32.add_zero, true_or, or_true, or_self, j1, j2, j3, j4, j6]
        (repeat' split) <;> rfl
    · have mk0 : g (31 + 10 * b + 7) = 0 := hm.resolve_right mk
      rw [if_pos mk0]
      have mk1 : ¬ (0 : Int32) = 1 := by decide
      by_cases cold : g (9 + 4 * r + 3) < g (31 + 10 * b + 4) - 1
      all_goals
        simp only [own, mk0, mk1, cold, rmF, decide_true, decide_false, and_true, true_and, and_self, and_false, false_and, ↓reduceIte, Bool.false_eq_true]
        by_cases j1 : j = 9 + 4 * r + 3
        · subst j1; simp (disch := omega) only [upd_s, upd_n, if_pos, if_neg, ↓reduceIte, rmF, and_self, and_true, true_and, and_false, false_and, Bool.false_eq_true, Int32.add_zero, true_or, or_true, or_self]
        by_cases j2 : j = 8
        · subst j2; simp (disch := omega) only [upd_s, upd_n, if_pos, if_neg, ↓reduceIte, rmF, and_self, and_true, true_and, and_false, false_and, Bool.false_eq_true, Int32.add_zero, true_or, or_true, or_self]
        by_cases j3 : j = 31 + 10 * b + 8
        · subst j3; simp (disch := omega) only [upd_s, upd_n, if_pos, if_neg, ↓reduceIte, rmF, and_self, and_true, true_and, and_false, false_and, Bool.false_eq_true, Int32.add_zero, true_or, or_true, or_self]
        by_cases j4 : j = 31 + 10 * b + 6
        · subst j4; simp (disch := omega) only [upd_s, upd_n, if_pos, if_neg, ↓reduceIte, rmF, and_self, and_true, true_and, and_false, false_and, Bool.false_eq_true, Int32.add_zero, true_or, or_true, or_self]
        by_cases j6 : j = 6
        · subst j6; simp (disch := omega) only [upd_s, upd_n, if_pos, if_neg, ↓reduceIte, rmF, and_self, and_true, true_and, and_false, false_and, Bool.false_eq_true, Int32.add_zero, true_or, or_true, or_self]
        by_cases j7 : j = 25 + w
        · subst j7; simp (disch := omega) only [upd_s, upd_n, if_pos, if_neg, ↓reduceIte, rmF, and_self, and_true, true_and, and_false, false_and, Bool.false_eq_true, Int32.add_zero, true_or, or_true, or_self]
        simp (disch := omega) only [upd_s, upd_n, if_pos, if_neg, ↓reduceIte, rmF, and_self, and_true, true_and, and_false, false_and, Bool.false_eq_true, Int32.add_zero, true_or, or_true, or_self, j1, j2, j3, j4, j6, j7]
        (repeat' split) <;> rfl
  · unfold cPre cG
    simp (disch := omega) only [upd_s, upd_n, g3R, g2R]
    refine funext fun j => ?_
    simp only [own, rmF, decide_false, false_and, ↓reduceIte, Bool.false_eq_true]
    by_cases j1 : j = 9 + 4 * r + 3
    · subst j1; simp (disch := omega) only [upd_s, upd_n, if_pos, if_neg, ↓reduceIte, rmF, and_self, and_true, true_and, and_false, false_and, Bool.false_eq_true, Int32.add_zero, true_or, or_true, or_self]
    by_cases j2 : j = 8
    · subst j2; simp (disch := omega) only [upd_s, upd_n, if_pos, if_neg, ↓reduceIte, rmF, and_self, and_true, true_and, and_false, false_and, Bool.false_eq_true, Int32.add_zero, true_or, or_true, or_self]
    by_cases j3 : j = 31 + 10 * b + 9
    · subst j3; simp (disch := omega) only [upd_s, upd_n, if_pos, if_neg, ↓reduceIte, rmF, and_self, and_true, true_and, and_false, false_and, Bool.false_eq_true, Int32.add_zero, true_or, or_true, or_self]
    by_cases j8 : j = 31 + 10 * b + 8
    · subst j8; simp (disch := omega) only [upd_s, upd_n, if_pos, if_neg, ↓reduceIte, rmF, and_self, and_true, true_and, and_false, false_and, Bool.false_eq_true, Int32.add_zero, true_or, or_true, or_self]
    by_cases j4 : j = 31 + 10 * b + 5
    · subst j4; simp (disch := omega) only [upd_s, upd_n, if_pos, if_neg, ↓reduceIte, rmF, and_self, and_true, true_and, and_false, false_and, Bool.false_eq_true, Int32.add_zero, true_or, or_true, or_self]
    by_cases j6 : j = 6
    · subst j6; simp (disch := omega) only [upd_s, upd_n, if_pos, if_neg, ↓reduceIte, rmF, and_self, and_true, true_and, and_false, false_and, Bool.false_eq_true, Int32.add_zero, true_or, or_true, or_self]
    by_cases j7 : j = 25 + w
    · subst j7; simp (disch := omega) only [upd_s, upd_n, if_pos, if_neg, ↓reduceIte, rmF, and_self, and_true, true_and, and_false, false_and, Bool.false_eq_true, Int32.add_zero, true_or, or_true, or_self]
    simp (disch := omega) only [upd_s, upd_n, if_pos, if_neg, ↓reduceIte, rmF, and_self, and_true, true_and, and_false, false_and, Bool.false_eq_true, Int32.add_zero, true_or, or_true, or_self, j1, j2, j3, j4, j6, j7, j8]
    (repeat' split) <;> rfl
