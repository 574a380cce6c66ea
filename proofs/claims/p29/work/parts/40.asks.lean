/-! the class: questions -/
set_option maxHeartbeats 4000000 in
theorem k6_about (σ : Sg) (π : Nat → Nat) (nr ng nb t : Nat) (g : Rw) (n c : Nat) (T : Rw) (M S : Nat → Rw) (B : Nat → Bool) (what : Int32) (hJ : KJ σ n T c M B S) (hc : HC σ 3 π) (hw : WF g nr ng nb t) (ht : t ≤ 240) (hcb : CB g nb (4 * t)) : Ct yX6_about cX6_about mX6_about 7 8 48 NN false (sH σ 3 π nr ng nb g) [.ref 0, .int what] NN (oX (cd1 (0 ≤ what ∧ what ≤ 9)) (DG (sH σ 3 π nr ng nb g)) (aboutV g (cN what))) (x1 (sH σ 3 π nr ng nb g) (cd1 (0 ≤ what ∧ what ≤ 9)) eA) := by
  refine ct_of (ls0 := [some (.ref 0), some (.int what)]) 0 (by decide +kernel) rfl rfl (ndR (ndI nd0)) rfl (Nat.le_of_ble_eq_true rfl) (fun K => ?_)
  have hnr4 := hw.nr4
  have hng6 := hw.ng6
  have hnb12 := hw.nb12
  obtain ⟨hF, hBB, ⟨hT1, hT2, hT3⟩, hMe, hSv⟩ := id hJ
  have hS3 : SA (sH σ 3 π nr ng nb g) 3 g := SA.mk hc hw ht hcb
  have hJ3 := hJ.h3 (nr := nr) (ng := ng) (nb := nb) (g := g) hc.2.2
  refine aw_iload1 dX6_about_0 ?_
  refine aw_iconst (v := 0) dX6_about_1 (by decide) ?_
  refine aw_bipush (v := 9) dX6_about_2 (by decide) ?_
  refine aw_SXV3 (k6_requireRange _ _ _ _) dX6_about_4 sl_6_51 (by decide) (Nat.le_of_ble_eq_true rfl) rfl (fun σ2 E h => gx1 h id) (fun σ_4 h_4 => ?_)
  obtain ⟨rfl, q_4⟩ := h_4
  obtain ⟨k, hk, rfl⟩ := Int32.rng (n := 9) (by omega) q_4.1 q_4.2
  have hck : cN (nI k) = k := nI_clamp (by omega)
  refine aw_aload0 dX6_about_7 ?_
  refine aw_getR dX6_about_8 fR_6_19 rfl (by decide) ((sH_R (σ := σ) (h := 3) (nr := nr) (ng := ng) (nb := nb) (g := g) (π := π) (by omega)).trans hF.1.2.1) ?_
  refine aw_iload1 dX6_about_11 ?_
  refine aw_VI1 (k2_numberAbout σ 3 π nr ng nb t g k hc hw hk) dX6_about_12 vl_6_86 hc.t hc.l (by decide) (Nat.le_of_ble_eq_true rfl) (fun σ_12 r_12 h_12 => ?_)
  obtain ⟨rfl, rfl⟩ := h_12
  exact aw_iret dX6_about_15 rfl (by decide) (oX_i (cd1_0 q_4) DG.refl (by rw [hck]))
set_option maxHeartbeats 4000000 in
theorem k6_owes (σ : Sg) (π : Nat → Nat) (nr ng nb t : Nat) (g : Rw) (n c : Nat) (T : Rw) (M S : Nat → Rw) (B : Nat → Bool) (w : Int32) (hJ : KJ σ n T c M B S) (hc : HC σ 3 π) (hw : WF g nr ng nb t) (ht : t ≤ 240) (hcb : CB g nb (4 * t)) : Ct yX6_owes cX6_owes mX6_owes 7 8 48 NN false (sH σ 3 π nr ng nb g) [.ref 0, .int w] NN (oX (cd1 (isN w ng)) (DG (sH σ 3 π nr ng nb g)) (g (25 + cN w))) (x1 (sH σ 3 π nr ng nb g) (cd1 (isN w ng)) eI) := by
  refine ct_of (ls0 := [some (.ref 0), some (.int w)]) 0 (by decide +kernel) rfl rfl (ndR (ndI nd0)) rfl (Nat.le_of_ble_eq_true rfl) (fun K => ?_)
  have hnr4 := hw.nr4
  have hng6 := hw.ng6
  have hnb12 := hw.nb12
  obtain ⟨hF, hBB, ⟨hT1, hT2, hT3⟩, hMe, hSv⟩ := id hJ
  have hS3 : SA (sH σ 3 π nr ng nb g) 3 g := SA.mk hc hw ht hcb
  have hJ3 := hJ.h3 (nr := nr) (ng := ng) (nb := nb) (g := g) hc.2.2
  refine aw_aload0 dX6_owes_0 ?_
  refine aw_iload1 dX6_owes_1 ?_
  refine aw_VXV1 (k6_requireGroup σ π nr ng nb t g w hF hc hw) dX6_owes_2 vl_6_106 rfl (by decide) (by decide) (Nat.le_of_ble_eq_true rfl) rfl (fun σ2 E h => gx1 h id) (fun σ_2 h_2 => ?_)
  obtain ⟨rfl, q_2⟩ := h_2
  obtain ⟨k, hk, rfl⟩ := q_2
  have hck : cN (nI k) = k := nI_clamp (by omega)
  refine aw_aload0 dX6_owes_5 ?_
  refine aw_getR dX6_owes_6 fR_6_19 rfl (by decide) ((sH_R (σ := σ) (h := 3) (nr := nr) (ng := ng) (nb := nb) (g := g) (π := π) (by omega)).trans hF.1.2.1) ?_
  refine aw_iload1 dX6_owes_9 ?_
  refine aw_VI1 (k2_owedBy σ 3 π nr ng nb t g k hc hw hk) dX6_owes_10 vl_6_109 hc.t hc.l (by decide) (Nat.le_of_ble_eq_true rfl) (fun σ_10 r_10 h_10 => ?_)
  obtain ⟨rfl, rfl⟩ := h_10
  exact aw_iret dX6_owes_13 rfl (by decide) (oX_i (cd1_0 ⟨k, hk, rfl⟩) DG.refl (by rw [hck]))
set_option maxHeartbeats 4000000 in
theorem k6_room (σ : Sg) (π : Nat → Nat) (nr ng nb t : Nat) (g : Rw) (n c : Nat) (T : Rw) (M S : Nat → Rw) (B : Nat → Bool) (r what : Int32) (hJ : KJ σ n T c M B S) (hc : HC σ 3 π) (hw : WF g nr ng nb t) (ht : t ≤ 240) (hcb : CB g nb (4 * t)) : Ct yX6_room cX6_room mX6_room 7 8 48 NN false (sH σ 3 π nr ng nb g) [.ref 0, .int r, .int what] NN (oX (cd2 (isN r nr) (0 ≤ what ∧ what ≤ 6)) (DG (sH σ 3 π nr ng nb g)) (roomV g nb (cN r) (cN what))) (x2 (sH σ 3 π nr ng nb g) (cd2 (isN r nr) (0 ≤ what ∧ what ≤ 6)) eI eA) := by
  refine ct_of (ls0 := [some (.ref 0), some (.int r), some (.int what), none]) 1 (by decide +kernel) rfl rfl (ndR (ndI (ndI nd0))) rfl (Nat.le_of_ble_eq_true rfl) (fun K => ?_)
  have hnr4 := hw.nr4
  have hng6 := hw.ng6
  have hnb12 := hw.nb12
  obtain ⟨hF, hBB, ⟨hT1, hT2, hT3⟩, hMe, hSv⟩ := id hJ
  have hS3 : SA (sH σ 3 π nr ng nb g) 3 g := SA.mk hc hw ht hcb
  have hJ3 := hJ.h3 (nr := nr) (ng := ng) (nb := nb) (g := g) hc.2.2
  refine aw_aload0 dX6_room_0 ?_
  refine aw_iload1 dX6_room_1 ?_
  refine aw_VXA1 (k6_requireRoom σ π nr ng nb t g r hF hc hw) dX6_room_2 vl_6_90 rfl (by decide) (by decide) (Nat.le_of_ble_eq_true rfl) rfl (fun σ2 E h => gx2 h id) (fun σ_2 r_2 h_2 => ?_)
  obtain ⟨rfl, k_2, hk_2, rfl, rfl⟩ := h_2
  have hcr : cN (nI k_2) = k_2 := nI_clamp (by omega)
  refine aw_astore3 dX6_room_5 (by decide) rfl ?_
  refine aw_iload2 dX6_room_6 ?_
  refine aw_iconst (v := 0) dX6_room_7 (by decide) ?_
  refine aw_bipush (v := 6) dX6_room_8 (by decide) ?_
  refine aw_SXV3 (k6_requireRange _ _ _ _) dX6_room_10 sl_6_51 (by decide) (Nat.le_of_ble_eq_true rfl) rfl (fun σ2 E h => gx2b ⟨k_2, hk_2, rfl⟩ h id) (fun σ_10 h_10 => ?_)
  obtain ⟨rfl, q_10⟩ := h_10
  obtain ⟨k, hk, rfl⟩ := Int32.rng (n := 6) (by omega) q_10.1 q_10.2
  have hck : cN (nI k) = k := nI_clamp (by omega)
  refine aw_iload2 dX6_room_13 ?_
  have hk9 : k = 0 ∨ k = 1 ∨ k = 2 ∨ k = 3 ∨ k = 4 ∨ k = 5 ∨ k = 6 := by omega
  rcases hk9 with rfl | rfl | rfl | rfl | rfl | rfl | rfl
  · refine aw_tableO (tgt := 67) dX6_room_14 (Or.inl (by decide)) (by decide) ?_
    refine aw_aload3 dX6_room_67 ?_
    refine aw_iload2 dX6_room_68 ?_
    refine aw_VI1 (k5_numberAbout _ _ _ (fun k => g (9 + 4 * k_2 + k)) (fun j hj => sH_r (by omega) hw.nr4 hj) (hc.tr (by omega)) (hc.lr (by omega)) (by decide)) dX6_room_69 vl_6_103 (hc.tr (by omega)) (hc.lr (by omega)) (by decide) (Nat.le_of_ble_eq_true rfl) (fun σ_69 r_69 h_69 => ?_)
    obtain ⟨rfl, rfl⟩ := h_69
    exact aw_iret dX6_room_72 rfl (by decide) (oX_i (cd2_0 ⟨k_2, hk_2, rfl⟩ q_10) DG.refl (by rw [hck, hcr]; rfl))
  · refine aw_tableO (tgt := 67) dX6_room_14 (Or.inl (by decide)) (by decide) ?_
    refine aw_aload3 dX6_room_67 ?_
    refine aw_iload2 dX6_room_68 ?_
    refine aw_VI1 (k5_numberAbout _ _ _ (fun k => g (9 + 4 * k_2 + k)) (fun j hj => sH_r (by omega) hw.nr4 hj) (hc.tr (by omega)) (hc.lr (by omega)) (by decide)) dX6_room_69 vl_6_103 (hc.tr (by omega)) (hc.lr (by omega)) (by decide) (Nat.le_of_ble_eq_true rfl) (fun σ_69 r_69 h_69 => ?_)
    obtain ⟨rfl, rfl⟩ := h_69
    exact aw_iret dX6_room_72 rfl (by decide) (oX_i (cd2_0 ⟨k_2, hk_2, rfl⟩ q_10) DG.refl (by rw [hck, hcr]; rfl))
  · refine aw_tableO (tgt := 67) dX6_room_14 (Or.inl (by decide)) (by decide) ?_
    refine aw_aload3 dX6_room_67 ?_
    refine aw_iload2 dX6_room_68 ?_
    refine aw_VI1 (k5_numberAbout _ _ _ (fun k => g (9 + 4 * k_2 + k)) (fun j hj => sH_r (by omega) hw.nr4 hj) (hc.tr (by omega)) (hc.lr (by omega)) (by decide)) dX6_room_69 vl_6_103 (hc.tr (by omega)) (hc.lr (by omega)) (by decide) (Nat.le_of_ble_eq_true rfl) (fun σ_69 r_69 h_69 => ?_)
    obtain ⟨rfl, rfl⟩ := h_69
    exact aw_iret dX6_room_72 rfl (by decide) (oX_i (cd2_0 ⟨k_2, hk_2, rfl⟩ q_10) DG.refl (by rw [hck, hcr]; rfl))
  · refine aw_tableO (tgt := 67) dX6_room_14 (Or.inl (by decide)) (by decide) ?_
    refine aw_aload3 dX6_room_67 ?_
    refine aw_iload2 dX6_room_68 ?_
    refine aw_VI1 (k5_numberAbout _ _ _ (fun k => g (9 + 4 * k_2 + k)) (fun j hj => sH_r (by omega) hw.nr4 hj) (hc.tr (by omega)) (hc.lr (by omega)) (by decide)) dX6_room_69 vl_6_103 (hc.tr (by omega)) (hc.lr (by omega)) (by decide) (Nat.le_of_ble_eq_true rfl) (fun σ_69 r_69 h_69 => ?_)
    obtain ⟨rfl, rfl⟩ := h_69
    exact aw_iret dX6_room_72 rfl (by decide) (oX_i (cd2_0 ⟨k_2, hk_2, rfl⟩ q_10) DG.refl (by rw [hck, hcr]; rfl))
  · refine aw_table (off := 26) (tgt := 40) dX6_room_14 (by decide) (by decide) (by decide) (by decide) ?_
    refine aw_aload0 dX6_room_40 ?_
    refine aw_getR dX6_room_41 fR_6_19 rfl (by decide) ((sH_R (σ := σ) (h := 3) (nr := nr) (ng := ng) (nb := nb) (g := g) (π := π) (by omega)).trans hF.1.2.1) ?_
    refine aw_iload1 dX6_room_44 ?_
    refine aw_VI1 (k2_bookingOfNow σ 3 π nr ng nb t g k_2 hc hw (by omega)) dX6_room_45 vl_6_94 hc.t hc.l (by decide) (Nat.le_of_ble_eq_true rfl) (fun σ_45 r_45 h_45 => ?_)
    obtain ⟨rfl, rfl⟩ := h_45
    exact aw_iret dX6_room_48 rfl (by decide) (oX_i (cd2_0 ⟨k_2, hk_2, rfl⟩ q_10) DG.refl (by rw [hck, hcr]; rfl))
  · refine aw_table (off := 35) (tgt := 49) dX6_room_14 (by decide) (by decide) (by decide) (by decide) ?_
    refine aw_aload0 dX6_room_49 ?_
    refine aw_getR dX6_room_50 fR_6_19 rfl (by decide) ((sH_R (σ := σ) (h := 3) (nr := nr) (ng := ng) (nb := nb) (g := g) (π := π) (by omega)).trans hF.1.2.1) ?_
    refine aw_iload1 dX6_room_53 ?_
    refine aw_VI1 (k2_nextBooking σ 3 π nr ng nb t g k_2 hc hw) dX6_room_54 vl_6_97 hc.t hc.l (by decide) (Nat.le_of_ble_eq_true rfl) (fun σ_54 r_54 h_54 => ?_)
    obtain ⟨rfl, rfl⟩ := h_54
    exact aw_iret dX6_room_57 rfl (by decide) (oX_i (cd2_0 ⟨k_2, hk_2, rfl⟩ q_10) DG.refl (by rw [hck, hcr]; rfl))
  · refine aw_table (off := 44) (tgt := 58) dX6_room_14 (by decide) (by decide) (by decide) (by decide) ?_
    refine aw_aload0 dX6_room_58 ?_
    refine aw_getR dX6_room_59 fR_6_19 rfl (by decide) ((sH_R (σ := σ) (h := 3) (nr := nr) (ng := ng) (nb := nb) (g := g) (π := π) (by omega)).trans hF.1.2.1) ?_
    refine aw_iload1 dX6_room_62 ?_
    refine aw_VI1 (k2_heatingBooking σ 3 π nr ng nb t g k_2 hc hw hk_2) dX6_room_63 vl_6_100 hc.t hc.l (by decide) (Nat.le_of_ble_eq_true rfl) (fun σ_63 r_63 h_63 => ?_)
    obtain ⟨rfl, rfl⟩ := h_63
    exact aw_iret dX6_room_66 rfl (by decide) (oX_i (cd2_0 ⟨k_2, hk_2, rfl⟩ q_10) DG.refl (by rw [hck, hcr]; rfl))
set_option maxHeartbeats 4000000 in
theorem k6_booking (σ : Sg) (π : Nat → Nat) (nr ng nb t : Nat) (g : Rw) (n c : Nat) (T : Rw) (M S : Nat → Rw) (B : Nat → Bool) (b what : Int32) (hJ : KJ σ n T c M B S) (hc : HC σ 3 π) (hw : WF g nr ng nb t) (ht : t ≤ 240) (hcb : CB g nb (4 * t)) : Ct yX6_booking cX6_booking mX6_booking 7 8 48 NN false (sH σ 3 π nr ng nb g) [.ref 0, .int b, .int what] NN (oX (cd2 (isN b nb) (0 ≤ what ∧ what ≤ 9)) (DG (sH σ 3 π nr ng nb g)) (bookV g (cN b) (cN what))) (x2 (sH σ 3 π nr ng nb g) (cd2 (isN b nb) (0 ≤ what ∧ what ≤ 9)) eI eA) := by
  refine ct_of (ls0 := [some (.ref 0), some (.int b), some (.int what), none]) 1 (by decide +kernel) rfl rfl (ndR (ndI (ndI nd0))) rfl (Nat.le_of_ble_eq_true rfl) (fun K => ?_)
  have hnr4 := hw.nr4
  have hng6 := hw.ng6
  have hnb12 := hw.nb12
  obtain ⟨hF, hBB, ⟨hT1, hT2, hT3⟩, hMe, hSv⟩ := id hJ
  have hS3 : SA (sH σ 3 π nr ng nb g) 3 g := SA.mk hc hw ht hcb
  have hJ3 := hJ.h3 (nr := nr) (ng := ng) (nb := nb) (g := g) hc.2.2
  refine aw_aload0 dX6_booking_0 ?_
  refine aw_iload1 dX6_booking_1 ?_
  refine aw_VXA1 (k6_requireBooking σ π nr ng nb t g b hF hc hw) dX6_booking_2 vl_6_112 rfl (by decide) (by decide) (Nat.le_of_ble_eq_true rfl) rfl (fun σ2 E h => gx2 h id) (fun σ_2 r_2 h_2 => ?_)
  obtain ⟨rfl, k_2, hk_2, rfl, rfl⟩ := h_2
  have hcr : cN (nI k_2) = k_2 := nI_clamp (by omega)
  refine aw_astore3 dX6_booking_5 (by decide) rfl ?_
  refine aw_iload2 dX6_booking_6 ?_
  refine aw_iconst (v := 0) dX6_booking_7 (by decide) ?_
  refine aw_bipush (v := 9) dX6_booking_8 (by decide) ?_
  refine aw_SXV3 (k6_requireRange _ _ _ _) dX6_booking_10 sl_6_51 (by decide) (Nat.le_of_ble_eq_true rfl) rfl (fun σ2 E h => gx2b ⟨k_2, hk_2, rfl⟩ h id) (fun σ_10 h_10 => ?_)
  obtain ⟨rfl, q_10⟩ := h_10
  obtain ⟨k, hk, rfl⟩ := Int32.rng (n := 9) (by omega) q_10.1 q_10.2
  have hck : cN (nI k) = k := nI_clamp (by omega)
  refine aw_iload2 dX6_booking_13 ?_
  refine aw_bipush (v := 9) dX6_booking_14 (by decide) ?_
  refine aw_ic_ne (tgt := 39) dX6_booking_16 (by decide) (fun c_16 => ?_) (fun c_16 => ?_)
  · have hk8 : k ≠ 9 := fun z => c_16 (by rw [z]; rfl)
    refine aw_aload3 dX6_booking_39 ?_
    refine aw_iload2 dX6_booking_40 ?_
    refine aw_VI1 (k0_numberAbout _ _ k (fun k => g (31 + 10 * k_2 + k)) (fun j hj => sH_b hc (by omega) hw.nb12 hj) (hc.tb (by omega)) (hc.lb (by omega)) (by omega) (hw.mark hk_2)) dX6_booking_41 vl_6_125 (hc.tb (by omega)) (hc.lb (by omega)) (by decide) (Nat.le_of_ble_eq_true rfl) (fun σ_41 r_41 h_41 => ?_)
    obtain ⟨rfl, rfl⟩ := h_41
    exact aw_iret dX6_booking_44 rfl (by decide) (oX_i (cd2_0 ⟨k_2, hk_2, rfl⟩ q_10) DG.refl (by rw [hck, hcr, bookV, if_pos (show k < 9 by omega)]))
  · have hk9 : k = 9 := (nI_eq (b := 9) (by omega) (by omega)).mp (by first | exact c_16 | exact Classical.not_not.mp c_16)
    refine aw_aload3 dX6_booking_19 ?_
    refine aw_aload0 dX6_booking_20 ?_
    refine aw_getR dX6_booking_21 fR_6_19 rfl (by decide) ((sH_R (σ := σ) (h := 3) (nr := nr) (ng := ng) (nb := nb) (g := g) (π := π) (by omega)).trans hF.1.2.1) ?_
    refine aw_getI dX6_booking_24 fI_6_116 hc.t hc.l sH_hour ?_
    refine aw_VI1 (k0_isOver _ _ _ (fun k => g (31 + 10 * k_2 + k)) (fun j hj => sH_b hc (by omega) hw.nb12 hj) (hc.tb (by omega)) (hc.lb (by omega))) dX6_booking_27 vl_6_119 (hc.tb (by omega)) (hc.lb (by omega)) (by decide) (Nat.le_of_ble_eq_true rfl) (fun σ_27 r_27 h_27 => ?_)
    obtain ⟨rfl, h_27⟩ := h_27
    rcases h_27 with ⟨rfl, p_27⟩ | ⟨rfl, p_27⟩
    · refine aw_if_eq (tgt := 37) dX6_booking_30 (by decide) (fun c_30 => absurd c_30 (by decide)) (fun _ => ?_)
      refine aw_iconst (v := 1) dX6_booking_33 (by decide) ?_
      refine aw_goto (tgt := 38) dX6_booking_34 (by decide) ?_
      exact aw_iret dX6_booking_38 rfl (by decide) (oX_i (cd2_0 ⟨k_2, hk_2, rfl⟩ q_10) DG.refl (by rw [hck, hcr, bookV, if_neg (show ¬ k < 9 by rw [hk9]; decide)]; exact if_pos p_27))
    · refine aw_if_eq (tgt := 37) dX6_booking_30 (by decide) (fun _ => ?_) (fun c_30 => absurd c_30 (by decide))
      refine aw_iconst (v := 0) dX6_booking_37 (by decide) ?_
      exact aw_iret dX6_booking_38 rfl (by decide) (oX_i (cd2_0 ⟨k_2, hk_2, rfl⟩ q_10) DG.refl (by rw [hck, hcr, bookV, if_neg (show ¬ k < 9 by rw [hk9]; decide)]; exact if_neg p_27))
