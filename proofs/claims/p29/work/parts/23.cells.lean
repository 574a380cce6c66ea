/-! the class: a room, a booking -/
set_option maxHeartbeats 4000000 in
theorem k5_become (σ : Sg) (x : Nat) (a b c d : Int32) (hT : cT x = .inl 5) (hx : x < NN) : Ct yX5_become cX5_become mX5_become 1 0 0 NN false σ [.ref x, .int a, .int b, .int c, .int d] NN (eV1 (sB σ x 4 (rmV a b c d))) XF := by
  refine ct_of (ls0 := [some (.ref x), some (.int a), some (.int b), some (.int c), some (.int d)]) 0 (by decide +kernel) rfl rfl (ndR (ndI (ndI (ndI (ndI nd0))))) rfl (Nat.le_of_ble_eq_true rfl) (fun K => ?_)
  refine aw_aload0 dX5_become_0 ?_
  refine aw_iload1 dX5_become_1 ?_
  refine aw_putI dX5_become_2 fP_5_7 hT hx ?_
  refine aw_aload0 dX5_become_5 ?_
  refine aw_iload2 dX5_become_6 ?_
  refine aw_putI dX5_become_7 fP_5_13 hT hx ?_
  refine aw_aload0 dX5_become_10 ?_
  refine aw_iload3 dX5_become_11 ?_
  refine aw_putI dX5_become_12 fP_5_16 hT hx ?_
  refine aw_aload0 dX5_become_15 ?_
  refine aw_iload4 dX5_become_16 ?_
  refine aw_putI dX5_become_18 fP_5_19 hT hx ?_
  exact aw_vret dX5_become_21 rfl (by decide) (eV_to sB_4.symm)
set_option maxHeartbeats 4000000 in
theorem k5_copyFrom (σ : Sg) (x y : Nat) (hT : cT x = .inl 5) (hx : x < NN) (hT2 : cT y = .inl 5) (hy : y < NN) : Ct yX5_copyFrom cX5_copyFrom mX5_copyFrom 2 0 0 NN false σ [.ref x, .ref y] NN (eV1 (sB σ x 4 (σ.1 y))) XF := by
  refine ct_of (ls0 := [some (.ref x), some (.ref y)]) 0 (by decide +kernel) rfl rfl (ndR (ndR nd0)) rfl (Nat.le_of_ble_eq_true rfl) (fun K => ?_)
  refine aw_aload0 dX5_copyFrom_0 ?_
  refine aw_aload1 dX5_copyFrom_1 ?_
  refine aw_getI dX5_copyFrom_2 fI_5_7 hT2 hy rfl ?_
  refine aw_aload1 dX5_copyFrom_5 ?_
  refine aw_getI dX5_copyFrom_6 fI_5_13 hT2 hy rfl ?_
  refine aw_aload1 dX5_copyFrom_9 ?_
  refine aw_getI dX5_copyFrom_10 fI_5_16 hT2 hy rfl ?_
  refine aw_aload1 dX5_copyFrom_13 ?_
  refine aw_getI dX5_copyFrom_14 fI_5_19 hT2 hy rfl ?_
  refine aw_VV4 (k5_become _ _ _ _ _ _ hT hx) dX5_copyFrom_17 vl_5_22 hT hx (by decide) (Nat.le_of_ble_eq_true rfl) (fun σ_17 h_17 => ?_)
  obtain rfl := h_17
  exact aw_vret dX5_copyFrom_20 rfl (by decide) (eV_to (sB_c (fun j hj => by
    have : j = 0 ∨ j = 1 ∨ j = 2 ∨ j = 3 := by omega
    rcases this with rfl | rfl | rfl | rfl <;> rfl)))
set_option maxHeartbeats 4000000 in
theorem k5_numberAbout (σ : Sg) (x k : Nat) (V : Nat → Int32) (hV : ∀ j, j < 4 → σ.1 x j = V j) (hT : cT x = .inl 5) (hx : x < NN) (hk : k ≤ 3) : Ct yX5_numberAbout cX5_numberAbout mX5_numberAbout 1 0 0 NN false σ [.ref x, .int (nI k)] NN (eI1 σ (V k)) XF := by
  refine ct_of (ls0 := [some (.ref x), some (.int (nI k))]) 0 (by decide +kernel) rfl rfl (ndR (ndI nd0)) rfl (Nat.le_of_ble_eq_true rfl) (fun K => ?_)
  refine aw_iload1 dX5_numberAbout_0 ?_
  have hk9 : k = 0 ∨ k = 1 ∨ k = 2 ∨ k = 3 := by omega
  rcases hk9 with rfl | rfl | rfl | rfl
  · refine aw_table (off := 27) (tgt := 28) dX5_numberAbout_1 (by decide) (by decide) (by decide) (by decide) ?_
    refine aw_aload0 dX5_numberAbout_28 ?_
    refine aw_getI dX5_numberAbout_29 fI_5_7 hT hx (show _ = V 0 from hV 0 (by decide)) ?_
    exact aw_iret dX5_numberAbout_32 rfl (by decide) eI_of
  · refine aw_table (off := 32) (tgt := 33) dX5_numberAbout_1 (by decide) (by decide) (by decide) (by decide) ?_
    refine aw_aload0 dX5_numberAbout_33 ?_
    refine aw_getI dX5_numberAbout_34 fI_5_13 hT hx (show _ = V 1 from hV 1 (by decide)) ?_
    exact aw_iret dX5_numberAbout_37 rfl (by decide) eI_of
  · refine aw_table (off := 37) (tgt := 38) dX5_numberAbout_1 (by decide) (by decide) (by decide) (by decide) ?_
    refine aw_aload0 dX5_numberAbout_38 ?_
    refine aw_getI dX5_numberAbout_39 fI_5_16 hT hx (show _ = V 2 from hV 2 (by decide)) ?_
    exact aw_iret dX5_numberAbout_42 rfl (by decide) eI_of
  · refine aw_tableO (tgt := 43) dX5_numberAbout_1 (Or.inr (by decide)) (by decide) ?_
    refine aw_aload0 dX5_numberAbout_43 ?_
    refine aw_getI dX5_numberAbout_44 fI_5_19 hT hx (show _ = V 3 from hV 3 (by decide)) ?_
    exact aw_iret dX5_numberAbout_47 rfl (by decide) eI_of
set_option maxHeartbeats 4000000 in
theorem k5_cooled (σ : Sg) (x : Nat) (u : Int32) (V : Nat → Int32) (hV : ∀ j, j < 4 → σ.1 x j = V j) (hT : cT x = .inl 5) (hx : x < NN) : Ct yX5_cooled cX5_cooled mX5_cooled 1 0 0 NN false σ [.ref x, .int u] NN (eI1 σ (V 3 - V 1 * (V 3 - u) / 100)) XF := by
  refine ct_of (ls0 := [some (.ref x), some (.int u)]) 0 (by decide +kernel) rfl rfl (ndR (ndI nd0)) rfl (Nat.le_of_ble_eq_true rfl) (fun K => ?_)
  refine aw_aload0 dX5_cooled_0 ?_
  refine aw_getI dX5_cooled_1 fI_5_19 hT hx (show _ = V 3 from hV 3 (by decide)) ?_
  refine aw_aload0 dX5_cooled_4 ?_
  refine aw_getI dX5_cooled_5 fI_5_13 hT hx (show _ = V 1 from hV 1 (by decide)) ?_
  refine aw_aload0 dX5_cooled_8 ?_
  refine aw_getI dX5_cooled_9 fI_5_19 hT hx (show _ = V 3 from hV 3 (by decide)) ?_
  refine aw_iload1 dX5_cooled_12 ?_
  refine aw_isub dX5_cooled_13 ?_
  refine aw_imul dX5_cooled_14 ?_
  refine aw_bipush (v := 100) dX5_cooled_15 (by decide) ?_
  refine aw_idiv dX5_cooled_17 (by decide) ?_
  refine aw_isub dX5_cooled_18 ?_
  exact aw_iret dX5_cooled_19 rfl (by decide) eI_of
def wD (wanted T P : Int32) : Int32 := if 0 < (if P < wanted - T then P else wanted - T) then (if P < wanted - T then P else wanted - T) else 0
set_option maxHeartbeats 4000000 in
theorem k5_warm (σ : Sg) (x : Nat) (u : Int32) (V : Nat → Int32) (hV : ∀ j, j < 4 → σ.1 x j = V j) (hT : cT x = .inl 5) (hx : x < NN) : Ct yX5_warmTowards cX5_warmTowards mX5_warmTowards 2 0 0 NN false σ [.ref x, .int u] NN (rI fun σ2 v => sI σ x 3 (V 3 + wD u (V 3) (V 2)) = σ2 ∧ wD u (V 3) (V 2) * V 0 = v) XF := by
  refine ct_of (ls0 := [some (.ref x), some (.int u), none]) 1 (by decide +kernel) rfl rfl (ndR (ndI nd0)) rfl (Nat.le_of_ble_eq_true rfl) (fun K => ?_)
  refine aw_iconst (v := 0) dX5_warmTowards_0 (by decide) ?_
  refine aw_iload1 dX5_warmTowards_1 ?_
  refine aw_aload0 dX5_warmTowards_2 ?_
  refine aw_getI dX5_warmTowards_3 fI_5_19 hT hx (show _ = V 3 from hV 3 (by decide)) ?_
  refine aw_isub dX5_warmTowards_6 ?_
  refine aw_aload0 dX5_warmTowards_7 ?_
  refine aw_getI dX5_warmTowards_8 fI_5_16 hT hx (show _ = V 2 from hV 2 (by decide)) ?_
  refine aw_mmin dX5_warmTowards_11 jl_5_26 mm_smin mm_i mm_cmin (by decide) (Nat.le_of_ble_eq_true rfl) ?_
  refine aw_mmax dX5_warmTowards_14 jl_5_32 mm_smax mm_i mm_cmax (by decide) (Nat.le_of_ble_eq_true rfl) ?_
  rw [show (if 0 < (if V 2 < u - V 3 then V 2 else u - V 3) then (if V 2 < u - V 3 then V 2 else u - V 3) else 0) = wD u (V 3) (V 2) from rfl]
  refine aw_istore2 dX5_warmTowards_17 (by decide) rfl ?_
  refine aw_aload0 dX5_warmTowards_18 ?_
  refine aw_dup dX5_warmTowards_19 rfl ?_
  refine aw_getI dX5_warmTowards_20 fI_5_19 hT hx (show _ = V 3 from hV 3 (by decide)) ?_
  refine aw_iload2 dX5_warmTowards_23 ?_
  refine aw_iadd dX5_warmTowards_24 ?_
  refine aw_putI dX5_warmTowards_25 fP_5_19 hT hx ?_
  refine aw_iload2 dX5_warmTowards_28 ?_
  refine aw_aload0 dX5_warmTowards_29 ?_
  refine aw_getI dX5_warmTowards_30 fI_5_7 hT hx (show _ = V 0 from (if_neg (by omega)).trans (hV 0 (by decide))) ?_
  refine aw_imul dX5_warmTowards_33 ?_
  exact aw_iret dX5_warmTowards_34 rfl (by decide) ⟨_, rfl, rfl, rfl⟩
set_option maxHeartbeats 4000000 in
theorem k0_become (σ : Sg) (x : Nat) (r w f h t : Int32) (hT : cT x = .inl 0) (hx : x < NN) : Ct yX0_become cX0_become mX0_become 1 0 0 NN false σ [.ref x, .int r, .int w, .int f, .int h, .int t] NN (eV1 (sB σ x 10 (bkV r w f h t))) XF := by
  refine ct_of (ls0 := [some (.ref x), some (.int r), some (.int w), some (.int f), some (.int h), some (.int t)]) 0 (by decide +kernel) rfl rfl (ndR (ndI (ndI (ndI (ndI (ndI nd0)))))) rfl (Nat.le_of_ble_eq_true rfl) (fun K => ?_)
  refine aw_aload0 dX0_become_0 ?_
  refine aw_iload1 dX0_become_1 ?_
  refine aw_putI dX0_become_2 fP_0_7 hT hx ?_
  refine aw_aload0 dX0_become_5 ?_
  refine aw_iload2 dX0_become_6 ?_
  refine aw_putI dX0_become_7 fP_0_13 hT hx ?_
  refine aw_aload0 dX0_become_10 ?_
  refine aw_iload3 dX0_become_11 ?_
  refine aw_putI dX0_become_12 fP_0_16 hT hx ?_
  refine aw_aload0 dX0_become_15 ?_
  refine aw_iload4 dX0_become_16 ?_
  refine aw_putI dX0_become_18 fP_0_19 hT hx ?_
  refine aw_aload0 dX0_become_21 ?_
  refine aw_iload5 dX0_become_22 ?_
  refine aw_putI dX0_become_24 fP_0_22 hT hx ?_
  refine aw_aload0 dX0_become_27 ?_
  refine aw_iconst (v := 0) dX0_become_28 (by decide) ?_
  refine aw_putZ dX0_become_29 fP_0_25 hT hx (by decide) ?_
  refine aw_aload0 dX0_become_32 ?_
  refine aw_iconst (v := 0) dX0_become_33 (by decide) ?_
  refine aw_putI dX0_become_34 fP_0_29 hT hx ?_
  refine aw_aload0 dX0_become_37 ?_
  refine aw_iconst (v := 0) dX0_become_38 (by decide) ?_
  refine aw_putI dX0_become_39 fP_0_32 hT hx ?_
  refine aw_aload0 dX0_become_42 ?_
  refine aw_iconst (v := 0) dX0_become_43 (by decide) ?_
  refine aw_putZ dX0_become_44 fP_0_35 hT hx (by decide) ?_
  refine aw_aload0 dX0_become_47 ?_
  refine aw_iconst (v := 0) dX0_become_48 (by decide) ?_
  refine aw_putI dX0_become_49 fP_0_38 hT hx ?_
  exact aw_vret dX0_become_52 rfl (by decide) (eV_to ((sB_10.trans (sB_c (fun j hj => by
    have : j = 0 ∨ j = 1 ∨ j = 2 ∨ j = 3 ∨ j = 4 ∨ j = 5 ∨ j = 6 ∨ j = 7 ∨ j = 8 ∨ j = 9 := by omega
    rcases this with rfl | rfl | rfl | rfl | rfl | rfl | rfl | rfl | rfl | rfl <;> rfl))).symm))
set_option maxHeartbeats 4000000 in
theorem k0_copyFrom (σ : Sg) (x y : Nat) (hT : cT x = .inl 0) (hx : x < NN) (hT2 : cT y = .inl 0) (hy : y < NN) (hxy : y ≠ x) (h5 : σ.1 y 5 = 0 ∨ σ.1 y 5 = 1) (h8 : σ.1 y 8 = 0 ∨ σ.1 y 8 = 1) : Ct yX0_copyFrom cX0_copyFrom mX0_copyFrom 2 0 0 NN false σ [.ref x, .ref y] NN (eV1 (sB σ x 10 (σ.1 y))) XF := by
  refine ct_of (ls0 := [some (.ref x), some (.ref y)]) 0 (by decide +kernel) rfl rfl (ndR (ndR nd0)) rfl (Nat.le_of_ble_eq_true rfl) (fun K => ?_)
  refine aw_aload0 dX0_copyFrom_0 ?_
  refine aw_aload1 dX0_copyFrom_1 ?_
  refine aw_getI dX0_copyFrom_2 fI_0_7 hT2 hy rfl ?_
  refine aw_aload1 dX0_copyFrom_5 ?_
  refine aw_getI dX0_copyFrom_6 fI_0_13 hT2 hy rfl ?_
  refine aw_aload1 dX0_copyFrom_9 ?_
  refine aw_getI dX0_copyFrom_10 fI_0_16 hT2 hy rfl ?_
  refine aw_aload1 dX0_copyFrom_13 ?_
  refine aw_getI dX0_copyFrom_14 fI_0_19 hT2 hy rfl ?_
  refine aw_aload1 dX0_copyFrom_17 ?_
  refine aw_getI dX0_copyFrom_18 fI_0_22 hT2 hy rfl ?_
  refine aw_VV5 (k0_become _ _ _ _ _ _ _ hT hx) dX0_copyFrom_21 vl_0_41 hT hx (by decide) (Nat.le_of_ble_eq_true rfl) (fun σ_21 h_21 => ?_)
  obtain rfl := h_21
  refine aw_aload0 dX0_copyFrom_24 ?_
  refine aw_aload1 dX0_copyFrom_25 ?_
  refine aw_getI dX0_copyFrom_26 fI_0_25 hT2 hy (sB_ne hxy) ?_
  refine aw_putZ dX0_copyFrom_29 fP_0_25 hT hx h5 ?_
  refine AW.eqs (sB_B (by decide)) ?_
  refine aw_aload0 dX0_copyFrom_32 ?_
  refine aw_aload1 dX0_copyFrom_33 ?_
  refine aw_getI dX0_copyFrom_34 fI_0_29 hT2 hy (sB_ne hxy) ?_
  refine aw_putI dX0_copyFrom_37 fP_0_29 hT hx ?_
  refine AW.eqs (sB_B (by decide)) ?_
  refine aw_aload0 dX0_copyFrom_40 ?_
  refine aw_aload1 dX0_copyFrom_41 ?_
  refine aw_getI dX0_copyFrom_42 fI_0_32 hT2 hy (sB_ne hxy) ?_
  refine aw_putI dX0_copyFrom_45 fP_0_32 hT hx ?_
  refine AW.eqs (sB_B (by decide)) ?_
  refine aw_aload0 dX0_copyFrom_48 ?_
  refine aw_aload1 dX0_copyFrom_49 ?_
  refine aw_getI dX0_copyFrom_50 fI_0_35 hT2 hy (sB_ne hxy) ?_
  refine aw_putZ dX0_copyFrom_53 fP_0_35 hT hx h8 ?_
  refine AW.eqs (sB_B (by decide)) ?_
  refine aw_aload0 dX0_copyFrom_56 ?_
  refine aw_aload1 dX0_copyFrom_57 ?_
  refine aw_getI dX0_copyFrom_58 fI_0_38 hT2 hy (sB_ne hxy) ?_
  refine aw_putI dX0_copyFrom_61 fP_0_38 hT hx ?_
  refine AW.eqs (sB_B (by decide)) ?_
  exact aw_vret dX0_copyFrom_64 rfl (by decide) (eV_to (sB_c (fun j hj => by
    have : j = 0 ∨ j = 1 ∨ j = 2 ∨ j = 3 ∨ j = 4 ∨ j = 5 ∨ j = 6 ∨ j = 7 ∨ j = 8 ∨ j = 9 := by omega
    rcases this with rfl | rfl | rfl | rfl | rfl | rfl | rfl | rfl | rfl | rfl <;> rfl)))
set_option maxHeartbeats 4000000 in
theorem k0_numberAbout (σ : Sg) (x k : Nat) (V : Nat → Int32) (hV : ∀ j, j < 10 → σ.1 x j = V (bx j)) (hT : cT x = .inl 0) (hx : x < NN) (hk : k ≤ 8) (h7 : V 7 = 0 ∨ V 7 = 1) : Ct yX0_numberAbout cX0_numberAbout mX0_numberAbout 1 0 0 NN false σ [.ref x, .int (nI k)] NN (eI1 σ (V k)) XF := by
  refine ct_of (ls0 := [some (.ref x), some (.int (nI k))]) 0 (by decide +kernel) rfl rfl (ndR (ndI nd0)) rfl (Nat.le_of_ble_eq_true rfl) (fun K => ?_)
  refine aw_iload1 dX0_numberAbout_0 ?_
  have hk9 : k = 0 ∨ k = 1 ∨ k = 2 ∨ k = 3 ∨ k = 4 ∨ k = 5 ∨ k = 6 ∨ k = 7 ∨ k = 8 := by omega
  rcases hk9 with rfl | rfl | rfl | rfl | rfl | rfl | rfl | rfl | rfl
  · refine aw_table (off := 47) (tgt := 48) dX0_numberAbout_1 (by decide) (by decide) (by decide) (by decide) ?_
    refine aw_aload0 dX0_numberAbout_48 ?_
    refine aw_getI dX0_numberAbout_49 fI_0_7 hT hx (show _ = V 0 from hV 0 (by decide)) ?_
    exact aw_iret dX0_numberAbout_52 rfl (by decide) eI_of
  · refine aw_table (off := 52) (tgt := 53) dX0_numberAbout_1 (by decide) (by decide) (by decide) (by decide) ?_
    refine aw_aload0 dX0_numberAbout_53 ?_
    refine aw_getI dX0_numberAbout_54 fI_0_13 hT hx (show _ = V 1 from hV 1 (by decide)) ?_
    exact aw_iret dX0_numberAbout_57 rfl (by decide) eI_of
  · refine aw_table (off := 57) (tgt := 58) dX0_numberAbout_1 (by decide) (by decide) (by decide) (by decide) ?_
    refine aw_aload0 dX0_numberAbout_58 ?_
    refine aw_getI dX0_numberAbout_59 fI_0_16 hT hx (show _ = V 2 from hV 2 (by decide)) ?_
    exact aw_iret dX0_numberAbout_62 rfl (by decide) eI_of
  · refine aw_table (off := 62) (tgt := 63) dX0_numberAbout_1 (by decide) (by decide) (by decide) (by decide) ?_
    refine aw_aload0 dX0_numberAbout_63 ?_
    refine aw_getI dX0_numberAbout_64 fI_0_19 hT hx (show _ = V 3 from hV 3 (by decide)) ?_
    exact aw_iret dX0_numberAbout_67 rfl (by decide) eI_of
  · refine aw_table (off := 67) (tgt := 68) dX0_numberAbout_1 (by decide) (by decide) (by decide) (by decide) ?_
    refine aw_aload0 dX0_numberAbout_68 ?_
    refine aw_getI dX0_numberAbout_69 fI_0_22 hT hx (show _ = V 4 from hV 4 (by decide)) ?_
    exact aw_iret dX0_numberAbout_72 rfl (by decide) eI_of
  · refine aw_table (off := 72) (tgt := 73) dX0_numberAbout_1 (by decide) (by decide) (by decide) (by decide) ?_
    refine aw_aload0 dX0_numberAbout_73 ?_
    refine aw_getI dX0_numberAbout_74 fI_0_29 hT hx (show _ = V 5 from hV 6 (by decide)) ?_
    exact aw_iret dX0_numberAbout_77 rfl (by decide) eI_of
  · refine aw_table (off := 77) (tgt := 78) dX0_numberAbout_1 (by decide) (by decide) (by decide) (by decide) ?_
    refine aw_aload0 dX0_numberAbout_78 ?_
    refine aw_getI dX0_numberAbout_79 fI_0_32 hT hx (show _ = V 6 from hV 7 (by decide)) ?_
    exact aw_iret dX0_numberAbout_82 rfl (by decide) eI_of
  · refine aw_table (off := 82) (tgt := 83) dX0_numberAbout_1 (by decide) (by decide) (by decide) (by decide) ?_
    refine aw_aload0 dX0_numberAbout_83 ?_
    refine aw_getI dX0_numberAbout_84 fI_0_35 hT hx (show _ = V 7 from hV 8 (by decide)) ?_
    refine aw_if_eq (tgt := 94) dX0_numberAbout_87 (by decide) (fun c_87 => ?_) (fun c_87 => ?_)
    · refine aw_iconst (v := 0) dX0_numberAbout_94 (by decide) ?_
      exact aw_iret dX0_numberAbout_95 rfl (by decide) (eI_to c_87)
    · refine aw_iconst (v := 1) dX0_numberAbout_90 (by decide) ?_
      refine aw_goto (tgt := 95) dX0_numberAbout_91 (by decide) ?_
      exact aw_iret dX0_numberAbout_95 rfl (by decide) (eI_to (h7.elim (fun h => absurd h c_87) id))
  · refine aw_tableO (tgt := 96) dX0_numberAbout_1 (Or.inr (by decide)) (by decide) ?_
    refine aw_aload0 dX0_numberAbout_96 ?_
    refine aw_getI dX0_numberAbout_97 fI_0_38 hT hx (show _ = V 8 from hV 9 (by decide)) ?_
    exact aw_iret dX0_numberAbout_100 rfl (by decide) eI_of
set_option maxHeartbeats 4000000 in
theorem k0_end (σ : Sg) (x : Nat) (V : Nat → Int32) (hV : ∀ j, j < 10 → σ.1 x j = V (bx j)) (hT : cT x = .inl 0) (hx : x < NN) : Ct yX0_end cX0_end mX0_end 1 0 0 NN false σ [.ref x] NN (eI1 σ (V 2 + V 3)) XF := by
  refine ct_of (ls0 := [some (.ref x)]) 0 (by decide +kernel) rfl rfl (ndR nd0) rfl (Nat.le_of_ble_eq_true rfl) (fun K => ?_)
  refine aw_aload0 dX0_end_0 ?_
  refine aw_getI dX0_end_1 fI_0_16 hT hx (show _ = V 2 from hV 2 (by decide)) ?_
  refine aw_aload0 dX0_end_4 ?_
  refine aw_getI dX0_end_5 fI_0_19 hT hx (show _ = V 3 from hV 3 (by decide)) ?_
  refine aw_iadd dX0_end_8 ?_
  exact aw_iret dX0_end_9 rfl (by decide) eI_of
set_option maxHeartbeats 4000000 in
theorem k0_has (σ : Sg) (x : Nat) (u : Int32) (V : Nat → Int32) (hV : ∀ j, j < 10 → σ.1 x j = V (bx j)) (hT : cT x = .inl 0) (hx : x < NN) : Ct yX0_has cX0_has mX0_has 1 0 0 NN false σ [.ref x, .int u] NN (eZ1 σ (V 2 ≤ u ∧ u < V 2 + V 3)) XF := by
  refine ct_of (ls0 := [some (.ref x), some (.int u)]) 0 (by decide +kernel) rfl rfl (ndR (ndI nd0)) rfl (Nat.le_of_ble_eq_true rfl) (fun K => ?_)
  refine aw_aload0 dX0_has_0 ?_
  refine aw_getI dX0_has_1 fI_0_16 hT hx (show _ = V 2 from hV 2 (by decide)) ?_
  refine aw_iload1 dX0_has_4 ?_
  refine aw_ic_gt (tgt := 25) dX0_has_5 (by decide) (fun c_5 => ?_) (fun c_5 => ?_)
  · refine aw_iconst (v := 0) dX0_has_25 (by decide) ?_
    exact aw_zret dX0_has_26 rfl (by decide) (by decide) (eZ_0 (fun h => by first | exact Int32.not_lt.mpr h.1 c_5 | exact Int32.not_le.mpr h.2 c_18))
  · refine aw_iload1 dX0_has_8 ?_
    refine aw_aload0 dX0_has_9 ?_
    refine aw_getI dX0_has_10 fI_0_16 hT hx (show _ = V 2 from hV 2 (by decide)) ?_
    refine aw_aload0 dX0_has_13 ?_
    refine aw_getI dX0_has_14 fI_0_19 hT hx (show _ = V 3 from hV 3 (by decide)) ?_
    refine aw_iadd dX0_has_17 ?_
    refine aw_ic_ge (tgt := 25) dX0_has_18 (by decide) (fun c_18 => ?_) (fun c_18 => ?_)
    · refine aw_iconst (v := 0) dX0_has_25 (by decide) ?_
      exact aw_zret dX0_has_26 rfl (by decide) (by decide) (eZ_0 (fun h => by first | exact Int32.not_lt.mpr h.1 c_5 | exact Int32.not_le.mpr h.2 c_18))
    · refine aw_iconst (v := 1) dX0_has_21 (by decide) ?_
      refine aw_goto (tgt := 26) dX0_has_22 (by decide) ?_
      exact aw_zret dX0_has_26 rfl (by decide) (by decide) (eZ_1 ⟨Int32.not_lt.mp c_5, Int32.not_le.mp c_18⟩)
set_option maxHeartbeats 4000000 in
theorem k0_isOver (σ : Sg) (x : Nat) (u : Int32) (V : Nat → Int32) (hV : ∀ j, j < 10 → σ.1 x j = V (bx j)) (hT : cT x = .inl 0) (hx : x < NN) : Ct yX0_isOver cX0_isOver mX0_isOver 2 0 0 NN false σ [.ref x, .int u] NN (eZ1 σ (V 2 + V 3 ≤ u)) XF := by
  refine ct_of (ls0 := [some (.ref x), some (.int u)]) 0 (by decide +kernel) rfl rfl (ndR (ndI nd0)) rfl (Nat.le_of_ble_eq_true rfl) (fun K => ?_)
  refine aw_aload0 dX0_isOver_0 ?_
  refine aw_VI0 (k0_end _ _ V hV hT hx) dX0_isOver_1 vl_0_45 hT hx (by decide) (Nat.le_of_ble_eq_true rfl) (fun σ_1 r_1 h_1 => ?_)
  obtain ⟨rfl, rfl⟩ := h_1
  refine aw_iload1 dX0_isOver_4 ?_
  refine aw_ic_gt (tgt := 12) dX0_isOver_5 (by decide) (fun c_5 => ?_) (fun c_5 => ?_)
  · refine aw_iconst (v := 0) dX0_isOver_12 (by decide) ?_
    exact aw_zret dX0_isOver_13 rfl (by decide) (by decide) (eZ_0 (Int32.not_le.mpr c_5))
  · refine aw_iconst (v := 1) dX0_isOver_8 (by decide) ?_
    refine aw_goto (tgt := 13) dX0_isOver_9 (by decide) ?_
    exact aw_zret dX0_isOver_13 rfl (by decide) (by decide) (eZ_1 (Int32.not_lt.mp c_5))
set_option maxHeartbeats 4000000 in
theorem k0_meets (σ : Sg) (x : Nat) (u h : Int32) (V : Nat → Int32) (hV : ∀ j, j < 10 → σ.1 x j = V (bx j)) (hT : cT x = .inl 0) (hx : x < NN) : Ct yX0_meets cX0_meets mX0_meets 2 0 0 NN false σ [.ref x, .int u, .int h] NN (eZ1 σ (V 2 < u + h ∧ u < V 2 + V 3)) XF := by
  refine ct_of (ls0 := [some (.ref x), some (.int u), some (.int h)]) 0 (by decide +kernel) rfl rfl (ndR (ndI (ndI nd0))) rfl (Nat.le_of_ble_eq_true rfl) (fun K => ?_)
  refine aw_aload0 dX0_meets_0 ?_
  refine aw_getI dX0_meets_1 fI_0_16 hT hx (show _ = V 2 from hV 2 (by decide)) ?_
  refine aw_iload1 dX0_meets_4 ?_
  refine aw_iload2 dX0_meets_5 ?_
  refine aw_iadd dX0_meets_6 ?_
  refine aw_ic_ge (tgt := 22) dX0_meets_7 (by decide) (fun c_7 => ?_) (fun c_7 => ?_)
  · refine aw_iconst (v := 0) dX0_meets_22 (by decide) ?_
    exact aw_zret dX0_meets_23 rfl (by decide) (by decide) (eZ_0 (fun h => by first | exact Int32.not_le.mpr h.1 c_7 | exact Int32.not_le.mpr h.2 c_15))
  · refine aw_iload1 dX0_meets_10 ?_
    refine aw_aload0 dX0_meets_11 ?_
    refine aw_VI0 (k0_end _ _ V hV hT hx) dX0_meets_12 vl_0_45 hT hx (by decide) (Nat.le_of_ble_eq_true rfl) (fun σ_12 r_12 h_12 => ?_)
    obtain ⟨rfl, rfl⟩ := h_12
    refine aw_ic_ge (tgt := 22) dX0_meets_15 (by decide) (fun c_15 => ?_) (fun c_15 => ?_)
    · refine aw_iconst (v := 0) dX0_meets_22 (by decide) ?_
      exact aw_zret dX0_meets_23 rfl (by decide) (by decide) (eZ_0 (fun h => by first | exact Int32.not_le.mpr h.1 c_7 | exact Int32.not_le.mpr h.2 c_15))
    · refine aw_iconst (v := 1) dX0_meets_18 (by decide) ?_
      refine aw_goto (tgt := 23) dX0_meets_19 (by decide) ?_
      exact aw_zret dX0_meets_23 rfl (by decide) (by decide) (eZ_1 ⟨Int32.not_le.mp c_7, Int32.not_le.mp c_15⟩)
set_option maxHeartbeats 4000000 in
theorem k0_mayGo (σ : Sg) (x : Nat) (u : Int32) (V : Nat → Int32) (hV : ∀ j, j < 10 → σ.1 x j = V (bx j)) (hT : cT x = .inl 0) (hx : x < NN) : Ct yX0_mayGo cX0_mayGo mX0_mayGo 2 0 0 NN false σ [.ref x, .int u] NN (eZ1 σ (V 9 = 0 ∧ u ≤ V 2)) XF := by
  refine ct_of (ls0 := [some (.ref x), some (.int u)]) 0 (by decide +kernel) rfl rfl (ndR (ndI nd0)) rfl (Nat.le_of_ble_eq_true rfl) (fun K => ?_)
  refine aw_aload0 dX0_mayGo_0 ?_
  refine aw_getI dX0_mayGo_1 fI_0_25 hT hx (show _ = V 9 from hV 5 (by decide)) ?_
  refine aw_if_ne (tgt := 19) dX0_mayGo_4 (by decide) (fun c_4 => ?_) (fun c_4 => ?_)
  · refine aw_iconst (v := 0) dX0_mayGo_19 (by decide) ?_
    exact aw_zret dX0_mayGo_20 rfl (by decide) (by decide) (eZ_0 (fun h => by first | exact c_4 h.1 | exact Int32.not_lt.mpr h.2 c_12))
  · refine aw_iload1 dX0_mayGo_7 ?_
    refine aw_aload0 dX0_mayGo_8 ?_
    refine aw_getI dX0_mayGo_9 fI_0_16 hT hx (show _ = V 2 from hV 2 (by decide)) ?_
    refine aw_ic_gt (tgt := 19) dX0_mayGo_12 (by decide) (fun c_12 => ?_) (fun c_12 => ?_)
    · refine aw_iconst (v := 0) dX0_mayGo_19 (by decide) ?_
      exact aw_zret dX0_mayGo_20 rfl (by decide) (by decide) (eZ_0 (fun h => by first | exact c_4 h.1 | exact Int32.not_lt.mpr h.2 c_12))
    · refine aw_iconst (v := 1) dX0_mayGo_15 (by decide) ?_
      refine aw_goto (tgt := 20) dX0_mayGo_16 (by decide) ?_
      exact aw_zret dX0_mayGo_20 rfl (by decide) (by decide) (eZ_1 ⟨c_4, Int32.not_lt.mp c_12⟩)
