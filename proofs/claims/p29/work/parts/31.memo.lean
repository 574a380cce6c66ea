/-! the class: a copy from any world on; what is remembered -/
def hy (j : Nat) : Nat := if j = 0 then 0 else if j = 4 then 1 else if j = 1 then 3 else if j = 2 then 5 else if j = 3 then 7 else j + 3
theorem hy_hx : ∀ j, isI j → hy (hx j) = j := isI_all ⟨rfl, rfl, rfl, rfl, rfl, rfl, rfl, rfl, rfl⟩
def hG (σ : Sg) (h : Nat) (g : Rw) : Rw := fun j => if j < 9 then σ.1 h (hy j) else g j
theorem hG_9 {σ : Sg} {h : Nat} {g : Rw} : ∀ j, 9 ≤ j → hG σ h g j = g j := fun j hj => if_neg (by omega)
theorem sH_start {σ : Sg} {h : Nat} {π : Nat → Nat} {g : Rw} (hB : ∀ j, j < 12 → σ.2.1 (h + 3) j = some (h + 8 + π j)) : sH σ h π 0 0 0 (hG σ h g) = σ :=
  RH.eq ⟨fun j hj => ((if_pos hx_lt).trans (by rw [hy_hx j hj])).symm, fun _ q => absurd q (Nat.not_lt_zero _), fun _ _ q => absurd q (Nat.not_lt_zero _), fun _ _ q => absurd q (Nat.not_lt_zero _), hB⟩
theorem k2_copyR (σ : Sg) (h y : Nat) (π πy : Nat → Nat) (nr ng nb t : Nat) (g : Rw) (hc : HC σ h π) (hB : ∀ j, j < 12 → σ.2.1 (h + 3) j = some (h + 8 + π j)) (hw : WF g nr ng nb t) (hty : HT y) (hsy : HS σ y) (hpy : PM πy) (hR : RH σ y πy nr ng nb g) (hd : y + 20 ≤ h ∨ h + 20 ≤ y) : Ct yX2_copyFrom cX2_copyFrom mX2_copyFrom 3 0 0 NN false σ [.ref h, .ref y] NN (eV1 (sH (oC σ y h) h π nr ng nb g)) XF := by
  have k := k2_copyFrom σ h y π πy nr ng nb t g (hG σ h g) hc hw hty hsy hpy hR hd hG_9
  rwa [sH_start hB] at k
theorem HT_3 : HT 3 := by unfold HT; decide
theorem HT_308 : HT 308 := by unfold HT; decide
theorem HT_328 : HT 328 := by unfold HT; decide
theorem HT_348 : HT 348 := by unfold HT; decide
theorem HT_368 : HT 368 := by unfold HT; decide
theorem HT_m : ∀ k, k < 14 → HT (25 + 20 * k) := by unfold HT; decide
/-- what of the class's own refs never changes -/
def MR (σ : Sg) : Prop := σ.2.1 23 0 = some 24 ∧ ∀ k, k < 14 → σ.2.1 24 k = some (25 + 20 * k)
theorem min14 {c : Nat} (hc : c ≤ 14) : (if (14 : Int32) < nI c + 1 then (14 : Int32) else nI c + 1) = nI (if c = 14 then 14 else c + 1) := by
  rw [nI_1]
  by_cases q : c = 14
  · subst q; decide
  · rw [if_neg q]
    exact if_neg (show ¬ nI 14 < nI (c + 1) from nI_nlt (a := 14) (b := c + 1) (by omega) (by omega))
set_option maxHeartbeats 4000000 in
theorem k4_remember (σ : Sg) (p c : Nat) (π π3 : Nat → Nat) (nr ng nb t : Nat) (g : Rw) (hm : MR σ) (hp : p < 14) (hpn : σ.1 23 1 = nI p) (hc14 : c ≤ 14) (hcn : σ.1 23 2 = nI c) (hc : HC σ (25 + 20 * p) π) (hB : ∀ j, j < 12 → σ.2.1 (25 + 20 * p + 3) j = some (25 + 20 * p + 8 + π j)) (hw : WF g nr ng nb t) (hs3 : HS σ 3) (hp3 : PM π3) (hR : RH σ 3 π3 nr ng nb g) : Ct yX4_remember cX4_remember mX4_remember 4 0 0 NN false σ [.ref 23, .ref 3] NN (eV1 (sI (sI (sH (oC σ 3 (25 + 20 * p)) (25 + 20 * p) π nr ng nb g) 23 1 (nI ((p + 1) % 14))) 23 2 (nI (if c = 14 then 14 else c + 1)))) XF := by
  refine ct_of (ls0 := [some (.ref 23), some (.ref 3)]) 0 (by decide +kernel) rfl rfl (ndR (ndR nd0)) rfl (Nat.le_of_ble_eq_true rfl) (fun K => ?_)
  refine aw_aload0 dX4_remember_0 ?_
  refine aw_getR dX4_remember_1 fR_4_11 rfl (by decide) hm.1 ?_
  refine aw_aload0 dX4_remember_4 ?_
  refine aw_getI dX4_remember_5 fI_4_18 rfl (by decide) hpn ?_
  refine aw_aald (j := p) dX4_remember_8 rfl (by decide) (by decide) rfl (by omega) (hm.2 _ hp) ?_
  refine aw_aload1 dX4_remember_9 ?_
  refine aw_VV1 (k2_copyR σ (25 + 20 * p) 3 π π3 nr ng nb t g hc hB hw HT_3 hs3 hp3 hR (by omega)) dX4_remember_10 vl_4_22 (HT_m _ (by omega)).1 (by have := (HT_m p hp).2.2.2.2.2.2; omega) (by decide) (Nat.le_of_ble_eq_true rfl) (fun σ_10 h_10 => ?_)
  obtain rfl := h_10
  refine aw_aload0 dX4_remember_13 ?_
  refine aw_aload0 dX4_remember_14 ?_
  refine aw_getI dX4_remember_15 fI_4_18 rfl (by decide) ((sH_out (by omega)).trans ((oC_ne (by omega)).trans hpn)) ?_
  refine aw_iconst (v := 1) dX4_remember_18 (by decide) ?_
  refine aw_iadd dX4_remember_19 ?_
  refine aw_bipush (v := 14) dX4_remember_20 (by decide) ?_
  refine aw_irem dX4_remember_22 (by decide) ?_
  rw [show nI p + 1 - (nI p + 1) / 14 * 14 = nI ((p + 1) % 14) from by rw [nI_1]; exact pk_rem (d := 14) (by omega) (by decide) (by decide)]
  refine aw_putI dX4_remember_23 fP_4_18 rfl (by decide) ?_
  refine aw_aload0 dX4_remember_26 ?_
  refine aw_aload0 dX4_remember_27 ?_
  refine aw_getI dX4_remember_28 fI_4_26 rfl (by decide) (show _ = nI c from (sH_out (by omega)).trans ((oC_ne (by omega)).trans hcn)) ?_
  refine aw_iconst (v := 1) dX4_remember_31 (by decide) ?_
  refine aw_iadd dX4_remember_32 ?_
  refine aw_bipush (v := 14) dX4_remember_33 (by decide) ?_
  refine aw_mmin dX4_remember_35 jl_4_29 mm_smin mm_i mm_cmin (by decide) (Nat.le_of_ble_eq_true rfl) ?_
  rw [min14 hc14]
  refine aw_putI dX4_remember_38 fP_4_26 rfl (by decide) ?_
  exact aw_vret dX4_remember_41 rfl (by decide) eV_of
set_option maxHeartbeats 4000000 in
theorem k4_forgetAll (σ : Sg) : Ct yX4_forgetAll cX4_forgetAll mX4_forgetAll 1 0 0 NN false σ [.ref 23] NN (eV1 (sI σ 23 2 0)) XF := by
  refine ct_of (ls0 := [some (.ref 23)]) 0 (by decide +kernel) rfl rfl (ndR nd0) rfl (Nat.le_of_ble_eq_true rfl) (fun K => ?_)
  refine aw_aload0 dX4_forgetAll_0 ?_
  refine aw_iconst (v := 0) dX4_forgetAll_1 (by decide) ?_
  refine aw_putI dX4_forgetAll_2 fP_4_26 rfl (by decide) ?_
  exact aw_vret dX4_forgetAll_5 rfl (by decide) eV_of
set_option maxHeartbeats 4000000 in
theorem k4_takeBack (σ : Sg) (p c : Nat) (π π3 : Nat → Nat) (nr ng nb t : Nat) (g : Rw) (hm : MR σ) (hp : p < 14) (hpn : σ.1 23 1 = nI p) (hc14 : c < 14) (hcn : σ.1 23 2 = nI (c + 1)) (hc : HC σ 3 π3) (hB : ∀ j, j < 12 → σ.2.1 (3 + 3) j = some (3 + 8 + π3 j)) (hw : WF g nr ng nb t) (hsy : HS σ (25 + 20 * ((p + 13) % 14))) (hpy : PM π) (hR : RH σ (25 + 20 * ((p + 13) % 14)) π nr ng nb g) : Ct yX4_takeBack cX4_takeBack mX4_takeBack 4 0 0 NN false σ [.ref 23, .ref 3] NN (eV1 (sH (oC (sI (sI σ 23 1 (nI ((p + 13) % 14))) 23 2 (nI c)) (25 + 20 * ((p + 13) % 14)) 3) 3 π3 nr ng nb g)) XF := by
  refine ct_of (ls0 := [some (.ref 23), some (.ref 3)]) 0 (by decide +kernel) rfl rfl (ndR (ndR nd0)) rfl (Nat.le_of_ble_eq_true rfl) (fun K => ?_)
  refine aw_aload0 dX4_takeBack_0 ?_
  refine aw_getI dX4_takeBack_1 fI_4_26 rfl (by decide) hcn ?_
  refine aw_if_ne (tgt := 8) dX4_takeBack_4 (by decide) (fun c_4 => ?_) (fun c_4 => absurd c_4 (nI_ne0 (by omega) (by omega)))
  refine aw_aload0 dX4_takeBack_8 ?_
  refine aw_aload0 dX4_takeBack_9 ?_
  refine aw_getI dX4_takeBack_10 fI_4_18 rfl (by decide) hpn ?_
  refine aw_bipush (v := 14) dX4_takeBack_13 (by decide) ?_
  refine aw_iadd dX4_takeBack_15 ?_
  refine aw_iconst (v := 1) dX4_takeBack_16 (by decide) ?_
  refine aw_isub dX4_takeBack_17 ?_
  refine aw_bipush (v := 14) dX4_takeBack_18 (by decide) ?_
  refine aw_irem dX4_takeBack_20 (by decide) ?_
  rw [show nI p + 14 - 1 - (nI p + 14 - 1) / 14 * 14 = nI ((p + 13) % 14) from by
    rw [show nI p + 14 - 1 = nI (p + 13) from (congrArg (· - 1) (nI_add p 14)).trans (nI_pred (p + 13))]
    exact pk_rem (d := 14) (by omega) (by decide) (by decide)]
  refine aw_putI dX4_takeBack_21 fP_4_18 rfl (by decide) ?_
  refine aw_aload0 dX4_takeBack_24 ?_
  refine aw_dup dX4_takeBack_25 rfl ?_
  refine aw_getI dX4_takeBack_26 fI_4_26 rfl (by decide) hcn ?_
  refine aw_iconst (v := 1) dX4_takeBack_29 (by decide) ?_
  refine aw_isub dX4_takeBack_30 ?_
  rw [nI_pred]
  refine aw_putI dX4_takeBack_31 fP_4_26 rfl (by decide) ?_
  refine aw_aload1 dX4_takeBack_34 ?_
  refine aw_aload0 dX4_takeBack_35 ?_
  refine aw_getR dX4_takeBack_36 fR_4_11 rfl (by decide) hm.1 ?_
  refine aw_aload0 dX4_takeBack_39 ?_
  refine aw_getI dX4_takeBack_40 fI_4_18 rfl (by decide) (show _ = nI ((p + 13) % 14) from rfl) ?_
  refine aw_aald (j := ((p + 13) % 14)) dX4_takeBack_43 rfl (by decide) (by decide) rfl (by omega) (hm.2 _ (by omega)) ?_
  refine aw_VV1 (k2_copyR _ 3 (25 + 20 * ((p + 13) % 14)) π3 π nr ng nb t g hc hB hw (HT_m _ (by omega)) hsy hpy ⟨fun j hj => (if_neg (by omega)).trans ((if_neg (by omega)).trans (hR.1 j hj)), fun j hj => (if_neg (by omega)).trans ((if_neg (by omega)).trans (hR.2.1 j hj)), fun r j hr hj => (if_neg (by omega)).trans ((if_neg (by omega)).trans (hR.2.2.1 r j hr hj)), fun b j hb hj => (if_neg (by omega)).trans ((if_neg (by omega)).trans (hR.2.2.2.1 b j hb hj)), hR.2.2.2.2⟩ (by omega)) dX4_takeBack_44 vl_4_22 rfl (by decide) (by decide) (Nat.le_of_ble_eq_true rfl) (fun σ_44 h_44 => ?_)
  obtain rfl := h_44
  exact aw_vret dX4_takeBack_47 rfl (by decide) eV_of
