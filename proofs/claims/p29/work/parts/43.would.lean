/-! the class: what would be -/
theorem WF.max2 {g : Rw} {nr ng nb t : Nat} (h : WF g nr ng nb t) (ht : t ≤ 300) : ∀ k, k ≤ nb → ∃ e0 e, e0 ≤ 300 ∧ e ≤ 300 ∧ fMax g 0 k = nI e0 ∧ fMax g (g 0) k = nI e ∧ ((e0 ≤ t ∧ e = t) ∨ (t ≤ e0 ∧ e = e0))
  | 0, _ => ⟨0, t, by omega, ht, rfl, h.hr, Or.inl ⟨Nat.zero_le _, rfl⟩⟩
  | k + 1, hk => by
    obtain ⟨e0, e, h1, h2, h3, h4, h5⟩ := WF.max2 h ht k (by omega)
    obtain ⟨q, hq, eq⟩ := h.end (b := k) (by omega)
    have a0 : fMax g 0 (k + 1) = nI (if e0 < q then q else e0) := by
      show (if fMax g 0 k < fEnd g k then fEnd g k else fMax g 0 k) = _
      rw [h3, eq]
      by_cases z : e0 < q
      · rw [if_pos (nI_lt z (by omega)), if_pos z]
      · rw [if_neg (nI_nlt (by omega) (by omega)), if_neg z]
    have a1 : fMax g (g 0) (k + 1) = nI (if e < q then q else e) := by
      show (if fMax g (g 0) k < fEnd g k then fEnd g k else fMax g (g 0) k) = _
      rw [h4, eq]
      by_cases z : e < q
      · rw [if_pos (nI_lt z (by omega)), if_pos z]
      · rw [if_neg (nI_nlt (by omega) (by omega)), if_neg z]
    refine ⟨_, _, ?_, ?_, a0, a1, ?_⟩
    · split <;> omega
    · split <;> omega
    · split <;> split <;> omega
theorem WF.max3 {g : Rw} {nr ng nb t : Nat} (h : WF g nr ng nb t) (ht : t ≤ 300) : (fMax g 0 nb - g 0 = nI (fH g nb) ∧ fH g nb < 2 ^ 31) ∨ (fMax g 0 nb - g 0 < 0 ∧ fH g nb = 0) := by
  obtain ⟨e0, e, h1, h2, h3, h4, h5⟩ := h.max2 ht nb (Nat.le_refl _)
  have hH : fH g nb = e - t := by
    rw [fH, h4, h.hr, pk_sub (by omega), nI_clamp (by omega)]
  rw [h3, h.hr, hH]
  rcases h5 with ⟨a, rfl⟩ | ⟨a, rfl⟩
  · rcases Nat.lt_or_ge e0 e with z | z
    · exact Or.inr ⟨nI_sneg z (by omega), by omega⟩
    · exact Or.inl ⟨(pk_sub z).trans (by rw [show e0 - e = e - e by omega]), by omega⟩
  · exact Or.inl ⟨pk_sub a, by omega⟩
theorem WF.fH3 {g : Rw} {nr ng nb t : Nat} (h : WF g nr ng nb t) (ht : t ≤ 300) : fH g nb ≤ 300 := by
  obtain ⟨e0, e, h1, h2, h3, h4, h5⟩ := h.max2 ht nb (Nat.le_refl _)
  have hH : fH g nb = e - t := by
    rw [fH, h4, h.hr, pk_sub (by omega), nI_clamp (by omega)]
  omega
set_option maxHeartbeats 4000000 in
theorem k6_later (σ : Sg) (π : Nat → Nat) (nr ng nb t : Nat) (g : Rw) (n c : Nat) (T : Rw) (M S : Nat → Rw) (B : Nat → Bool) (r h : Int32) (hJ : KJ σ n T c M B S) (hc : HC σ 3 π) (hw : WF g nr ng nb t) (ht : t ≤ 240) (hcb : CB g nb (4 * t)) : Ct yX6_later cX6_later mX6_later 7 8 48 NN false (sH σ 3 π nr ng nb g) [.ref 0, .int r, .int h] NN (oX (cd2 (isN r nr) (0 ≤ h ∧ h ≤ 48)) (DG (sH σ 3 π nr ng nb g)) (fHours g nr nb (cN h) (9 + 4 * cN r + 3))) (x2 (sH σ 3 π nr ng nb g) (cd2 (isN r nr) (0 ≤ h ∧ h ≤ 48)) eI eA) := by
  refine ct_of (ls0 := [some (.ref 0), some (.int r), some (.int h), none]) 1 (by decide +kernel) rfl rfl (ndR (ndI (ndI nd0))) rfl (Nat.le_of_ble_eq_true rfl) (fun K => ?_)
  have hnr4 := hw.nr4
  have hng6 := hw.ng6
  have hnb12 := hw.nb12
  obtain ⟨hF, hBB, ⟨hT1, hT2, hT3⟩, hMe, hSv⟩ := id hJ
  have hS3 : SA (sH σ 3 π nr ng nb g) 3 g := SA.mk hc hw ht hcb
  have hJ3 := hJ.h3 (nr := nr) (ng := ng) (nb := nb) (g := g) hc.2.2
  obtain ⟨τ, πt, hct, hD, kC⟩ := k6_trial hJ hc hw
  have hJt := hJ3.dg hD
  have hFt := hJt.1
  refine aw_aload0 dX6_later_0 ?_
  refine aw_iload1 dX6_later_1 ?_
  refine aw_VXA1 (k6_requireRoom σ π nr ng nb t g r hF hc hw) dX6_later_2 vl_6_90 rfl (by decide) (by decide) (Nat.le_of_ble_eq_true rfl) rfl (fun σ2 E h => gx2 h id) (fun σ_2 r_2 h_2 => ?_)
  obtain ⟨rfl, k_2, hk_2, rfl, rfl⟩ := h_2
  have hcr : cN (nI k_2) = k_2 := nI_clamp (by omega)
  refine aw_pop dX6_later_5 rfl ?_
  refine aw_iload2 dX6_later_6 ?_
  refine aw_iconst (v := 0) dX6_later_7 (by decide) ?_
  refine aw_bipush (v := 48) dX6_later_8 (by decide) ?_
  refine aw_SXV3 (k6_requireRange _ _ _ _) dX6_later_10 sl_6_51 (by decide) (Nat.le_of_ble_eq_true rfl) rfl (fun σ2 E h => gx2b ⟨k_2, hk_2, rfl⟩ h id) (fun σ_10 h_10 => ?_)
  obtain ⟨rfl, q_10⟩ := h_10
  obtain ⟨k, hk, rfl⟩ := Int32.rng (n := 48) (by omega) q_10.1 q_10.2
  have hck : cN (nI k) = k := nI_clamp (by omega)
  refine aw_aload0 dX6_later_13 ?_
  refine aw_getR dX6_later_14 fR_6_45 rfl (by decide) ((sH_R (σ := σ) (h := 3) (nr := nr) (ng := ng) (nb := nb) (g := g) (π := π) (by omega)).trans hF.1.2.2.2.2.2.2.1) ?_
  refine aw_aload0 dX6_later_17 ?_
  refine aw_getR dX6_later_18 fR_6_19 rfl (by decide) ((sH_R (σ := σ) (h := 3) (nr := nr) (ng := ng) (nb := nb) (g := g) (π := π) (by omega)).trans hF.1.2.1) ?_
  refine aw_VV1 kC dX6_later_21 vl_6_76 HT_308.1 (by decide) (by decide) (Nat.le_of_ble_eq_true rfl) (fun σ_21 h_21 => ?_)
  obtain rfl := h_21
  refine aw_aload0 dX6_later_24 ?_
  refine aw_getR dX6_later_25 fR_6_45 rfl (by decide) ((sH_R (σ := τ) (by omega)).trans hFt.1.2.2.2.2.2.2.1) ?_
  refine aw_iload2 dX6_later_28 ?_
  refine aw_VV1 (k2_letHoursPass _ 308 πt nr ng nb t g _ k hct hw (Or.inl ⟨rfl, by omega⟩)) dX6_later_29 vl_6_186 HT_308.1 (by decide) (by decide) (Nat.le_of_ble_eq_true rfl) (fun σ_29 h_29 => ?_)
  obtain rfl := h_29
  refine aw_aload0 dX6_later_32 ?_
  refine aw_getR dX6_later_33 fR_6_45 rfl (by decide) ((sH_R (σ := τ) (by omega)).trans hFt.1.2.2.2.2.2.2.1) ?_
  refine aw_iload1 dX6_later_36 ?_
  refine aw_VA1 (k2_findRoom _ 308 _ _ _ _ _ _ _ hct (hw.hoursN k)) dX6_later_37 vl_6_197 HT_308.1 (by decide) (by decide) (Nat.le_of_ble_eq_true rfl) (fun σ_37 r_37 h_37 => ?_)
  obtain ⟨rfl, h_37⟩ := h_37
  rcases h_37 with ⟨k_37, hk_37, e_37, rfl⟩ | ⟨hn_37, rfl⟩
  · refine aw_astore3 dX6_later_40 (by decide) rfl ?_
    refine aw_aload3 dX6_later_41 ?_
    refine aw_ifnn (tgt := 50) dX6_later_42 (by decide) ?_
    refine aw_aload3 dX6_later_50 ?_
    refine aw_getI dX6_later_51 fI_6_200 (hct.tr (by omega)) (hct.lr (by omega)) (show _ = fHours g nr nb k (9 + 4 * k_37 + 3) from sH_r hk_37 hnr4 (by decide)) ?_
    exact aw_iret dX6_later_54 rfl (by decide) (oX_i (cd2_0 ⟨k_2, hk_2, rfl⟩ q_10) (hD.t8 hct.2.2) (by rw [hck, hcr, (nI_eq (by omega) (by omega)).mp e_37]))
  · refine aw_astore3N dX6_later_40 (by decide) rfl ?_
    refine aw_aload3N dX6_later_41 ?_
    refine aw_ifnnN dX6_later_42 ?_
    refine aw_bipush (v := (-99)) dX6_later_45 (by decide) ?_
    refine aw_goto (tgt := 54) dX6_later_47 (by decide) ?_
    exact aw_iret dX6_later_54 rfl (by decide) (absurd (show isN _ nr from ⟨k_2, hk_2, rfl⟩) hn_37)
theorem WF.left3 {g : Rw} {nr ng nb t b : Nat} (h : WF g nr ng nb t) (ht : t ≤ 300) (hb : b < nb) : (g (31 + 10 * b + 2) + g (31 + 10 * b + 3) - g 0 = nI (fLeft g b) ∧ fLeft g b < 1000) ∨ (g (31 + 10 * b + 2) + g (31 + 10 * b + 3) - g 0 < 0 ∧ fLeft g b = 0) := by
  obtain ⟨e, he, hg⟩ := h.end hb
  have hl : fLeft g b = e - t := by rw [fLeft, hg, h.hr, nI_clamp (by omega), nI_clamp (by omega)]
  have hg : g (31 + 10 * b + 2) + g (31 + 10 * b + 3) = nI e := hg
  rw [hg, h.hr, hl]
  rcases Nat.lt_or_ge e t with z | z
  · exact Or.inr ⟨nI_sneg z (by omega), by omega⟩
  · exact Or.inl ⟨pk_sub z, by omega⟩
set_option maxHeartbeats 4000000 in
theorem k6_begins (σ : Sg) (π : Nat → Nat) (nr ng nb t : Nat) (g : Rw) (n c : Nat) (T : Rw) (M S : Nat → Rw) (B : Nat → Bool) (b : Int32) (hJ : KJ σ n T c M B S) (hc : HC σ 3 π) (hw : WF g nr ng nb t) (ht : t ≤ 240) (hcb : CB g nb (4 * t)) : Ct yX6_begins cX6_begins mX6_begins 7 8 48 NN false (sH σ 3 π nr ng nb g) [.ref 0, .int b] NN (oX (cd1 (isN b nb)) (DG (sH σ 3 π nr ng nb g)) (fBeg g nr nb (cN (g (31 + 10 * cN b + 0))) (cN b) (fLeft g (cN b)))) (x1 (sH σ 3 π nr ng nb g) (cd1 (isN b nb)) eI) := by
  refine ct_of (ls0 := [some (.ref 0), some (.int b), none, none, none]) 3 (by decide +kernel) rfl rfl (ndR (ndI nd0)) rfl (Nat.le_of_ble_eq_true rfl) (fun K => ?_)
  have hnr4 := hw.nr4
  have hng6 := hw.ng6
  have hnb12 := hw.nb12
  obtain ⟨hF, hBB, ⟨hT1, hT2, hT3⟩, hMe, hSv⟩ := id hJ
  have hS3 : SA (sH σ 3 π nr ng nb g) 3 g := SA.mk hc hw ht hcb
  have hJ3 := hJ.h3 (nr := nr) (ng := ng) (nb := nb) (g := g) hc.2.2
  obtain ⟨τ, πt, hct, hD, kC⟩ := k6_trial hJ hc hw
  have hJt := hJ3.dg hD
  have hFt := hJt.1
  have L33 : ∀ (k : Nat) (i kb ri L : Nat) (left v : Int32) (hb : b = nI kb) (hkb : kb < nb) (hri : ri < nr) (hgr : g (31 + 10 * kb + 0) = nI ri) (hx9 : (left = nI L ∧ L < 1000) ∨ (left < 0 ∧ L = 0)) (hBG : (fBeg g nr nb (cN (g (31 + 10 * cN b + 0))) (cN b) (fLeft g (cN b))) = v) (hV : fBeg (fHours g nr nb i) nr nb ri kb (L - i) = v) (h1 : i ≤ L) (h2 : L - i < k), AW K RX6 cX6_begins mX6_begins 7 8 48 (Qm K NN (oX (cd1 (isN b nb)) (DG (sH σ 3 π nr ng nb g)) (fBeg g nr nb (cN (g (31 + 10 * cN b + 0))) (cN b) (fLeft g (cN b)))) (x1 (sH σ 3 π nr ng nb g) (cd1 (isN b nb)) eI) 8 48) NN none (sH τ 308 πt nr ng nb (fHours g nr nb i)) 1 6 33 [some (.ref 0), some (.int b), some (.ref (3 + 8 + π kb)), some (.int left), some (.int (nI i))] [] := by
    intro k
    induction k with
    | zero => intro i kb ri L left v hb hkb hri hgr hx9 hBG hV h1 h2; exact absurd h2 (Nat.not_lt_zero _)
    | succ k ih =>
      intro i kb ri L left v hb hkb hri hgr hx9 hBG hV h1 h2
      refine aw_iload4 dX6_begins_33 ?_
      refine aw_iload3 dX6_begins_35 ?_
      refine aw_ic_ge (tgt := 75) dX6_begins_36 (by decide) (fun c_36 => ?_) (fun c_36 => ?_)
      · have hbb : i = L := by
          rcases hx9 with ⟨rfl, hm⟩ | ⟨hx0, rfl⟩
          · have := (nI_leI (by omega) (by omega)).mp c_36
            omega
          · omega
        refine aw_bipush (v := (-99)) dX6_begins_75 (by decide) ?_
        exact aw_iret dX6_begins_77 rfl (by decide) (oX_i (cd1_0 ⟨kb, hkb, hb⟩) (hD.t8 hct.2.2) (hBG.trans (hV.symm.trans (by rw [show L - i = 0 by omega]; rfl))))
      · have hlt : i < L := by
          rcases hx9 with ⟨rfl, hm⟩ | ⟨hx0, rfl⟩
          · rcases Nat.lt_or_ge i L with q | q
            · exact q
            · exact absurd (nI_le q (by omega)) c_36
          · exfalso
            have : i = 0 := by omega
            subst this
            exact c_36 (Int32.le_of_lt hx0)
        have hwi := hw.hoursN i
        refine aw_aload0 dX6_begins_39 ?_
        refine aw_getR dX6_begins_40 fR_6_45 rfl (by decide) ((sH_R (σ := τ) (by omega)).trans hFt.1.2.2.2.2.2.2.1) ?_
        refine aw_aload2 dX6_begins_43 ?_
        refine aw_getI dX6_begins_44 fI_6_206 (hc.tb (by omega)) (hc.lb (by omega)) (show _ = nI ri from ((sH_out (σ := τ) (by have := hc.2.2.1 kb (by omega); omega)).trans ((hD.1 _ _ (by have := hc.2.2.1 kb (by omega); omega) (by have := hc.2.2.1 kb (by omega); omega)).trans (sH_b hc hkb hnb12 (by decide)))).trans hgr) ?_
        refine aw_VI1 (k2_heatingBooking _ 308 πt nr ng nb _ (fHours g nr nb i) ri hct hwi hri) dX6_begins_47 vl_6_100 HT_308.1 (by decide) (by decide) (Nat.le_of_ble_eq_true rfl) (fun σ_47 r_47 h_47 => ?_)
        obtain ⟨rfl, rfl⟩ := h_47
        refine aw_iload1 dX6_begins_50 ?_
        refine aw_ic_ne (tgt := 62) dX6_begins_51 (by decide) (fun c_51 => ?_) (fun c_51 => ?_)
        · have hHn : ¬ fHeater (fHours g nr nb i) ri nb = some kb := fun z => c_51 (((oI_eq (fun f hf => by have := fHeater_lt hf; omega) (by omega)).mpr z).trans hb.symm)
          refine aw_aload0 dX6_begins_62 ?_
          refine aw_getR dX6_begins_63 fR_6_45 rfl (by decide) ((sH_R (σ := τ) (by omega)).trans hFt.1.2.2.2.2.2.2.1) ?_
          refine aw_VV0 (k2_letHourPass _ 308 πt nr ng nb _ _ hct hwi) dX6_begins_66 vl_6_209 HT_308.1 (by decide) (by decide) (Nat.le_of_ble_eq_true rfl) (fun σ_66 h_66 => ?_)
          obtain rfl := h_66
          refine aw_iinc4 (w := nI (i + 1)) dX6_begins_69 (nI_1 i) (by decide) rfl ?_
          refine aw_goto (tgt := 33) dX6_begins_72 (by decide) ?_
          have hV2 : fBeg (fHours g nr nb (i + 1)) nr nb ri kb (L - (i + 1)) = v := by
            rw [← hV, show L - i = L - (i + 1) + 1 by omega]
            exact (if_neg hHn).symm
          exact ih (i + 1) kb ri L left v hb hkb hri hgr hx9 hBG hV2 (by omega) (by omega)
        · have hHb : fHeater (fHours g nr nb i) ri nb = some kb := (oI_eq (fun f hf => by have := fHeater_lt hf; omega) (by omega)).mp ((by first | exact c_51 | exact Classical.not_not.mp c_51 : oI (fHeater (fHours g nr nb i) ri nb) = b).trans hb)
          refine aw_aload0 dX6_begins_54 ?_
          refine aw_getR dX6_begins_55 fR_6_45 rfl (by decide) ((sH_R (σ := τ) (by omega)).trans hFt.1.2.2.2.2.2.2.1) ?_
          refine aw_getI dX6_begins_58 fI_6_116 HT_308.1 (by decide) sH_hour ?_
          exact aw_iret dX6_begins_61 rfl (by decide) (oX_i (cd1_0 ⟨kb, hkb, hb⟩) (hD.t8 hct.2.2) (hBG.trans (hV.symm.trans (by rw [show L - i = L - i - 1 + 1 by omega]; exact if_pos hHb))))
  refine aw_aload0 dX6_begins_0 ?_
  refine aw_iload1 dX6_begins_1 ?_
  refine aw_VXA1 (k6_requireBooking σ π nr ng nb t g b hF hc hw) dX6_begins_2 vl_6_112 rfl (by decide) (by decide) (Nat.le_of_ble_eq_true rfl) rfl (fun σ2 E h => gx1 h id) (fun σ_2 r_2 h_2 => ?_)
  obtain ⟨rfl, k_2, hk_2, rfl, rfl⟩ := h_2
  have hcr : cN (nI k_2) = k_2 := nI_clamp (by omega)
  refine aw_astore2 dX6_begins_5 (by decide) rfl ?_
  refine aw_aload0 dX6_begins_6 ?_
  refine aw_getR dX6_begins_7 fR_6_45 rfl (by decide) ((sH_R (σ := σ) (h := 3) (nr := nr) (ng := ng) (nb := nb) (g := g) (π := π) (by omega)).trans hF.1.2.2.2.2.2.2.1) ?_
  refine aw_aload0 dX6_begins_10 ?_
  refine aw_getR dX6_begins_11 fR_6_19 rfl (by decide) ((sH_R (σ := σ) (h := 3) (nr := nr) (ng := ng) (nb := nb) (g := g) (π := π) (by omega)).trans hF.1.2.1) ?_
  refine aw_VV1 kC dX6_begins_14 vl_6_76 HT_308.1 (by decide) (by decide) (Nat.le_of_ble_eq_true rfl) (fun σ_14 h_14 => ?_)
  obtain rfl := h_14
  refine aw_aload2 dX6_begins_17 ?_
  refine aw_VI0 (k0_end _ _ (fun k => g (31 + 10 * k_2 + k)) (fun j hj => (sH_out (σ := τ) (by have := hc.2.2.1 k_2 (by omega); omega)).trans ((hD.1 _ _ (by have := hc.2.2.1 k_2 (by omega); omega) (by have := hc.2.2.1 k_2 (by omega); omega)).trans (sH_b hc hk_2 hnb12 hj))) (hc.tb (by omega)) (hc.lb (by omega))) dX6_begins_18 vl_6_203 (hc.tb (by omega)) (hc.lb (by omega)) (by decide) (Nat.le_of_ble_eq_true rfl) (fun σ_18 r_18 h_18 => ?_)
  obtain ⟨rfl, rfl⟩ := h_18
  refine aw_aload0 dX6_begins_21 ?_
  refine aw_getR dX6_begins_22 fR_6_19 rfl (by decide) ((sH_R (σ := τ) (by omega)).trans hFt.1.2.1) ?_
  refine aw_getI dX6_begins_25 fI_6_116 hc.t hc.l ((sH_out (σ := τ) (by omega)).trans ((hD.1 _ _ (by omega) (by omega)).trans sH_hour)) ?_
  refine aw_isub dX6_begins_28 ?_
  refine aw_istore3 dX6_begins_29 (by decide) rfl ?_
  refine aw_iconst (v := 0) dX6_begins_30 (by decide) ?_
  refine aw_istore4 dX6_begins_31 (by decide) rfl ?_
  obtain ⟨ri, hri, hgr⟩ := (hw.2.2.1 k_2 hk_2).1
  exact L33 (fLeft g k_2 + 1) 0 k_2 ri (fLeft g k_2) _ (fBeg g nr nb ri k_2 (fLeft g k_2)) rfl hk_2 hri hgr (hw.left3 (by omega) hk_2) (by rw [hcr, hgr, show cN (nI ri) = ri from nI_clamp (by omega)]) rfl (Nat.zero_le _) (by omega)
set_option maxHeartbeats 4000000 in
theorem k6_cost (σ : Sg) (π : Nat → Nat) (nr ng nb t : Nat) (g : Rw) (n c : Nat) (T : Rw) (M S : Nat → Rw) (B : Nat → Bool) (r w f h t0 : Int32) (hJ : KJ σ n T c M B S) (hc : HC σ 3 π) (hw : WF g nr ng nb t) (ht : t ≤ 240) (hcb : CB g nb (4 * t)) : Ct yX6_cost cX6_cost mX6_cost 8 8 48 NN false (sH σ 3 π nr ng nb g) [.ref 0, .int r, .int w, .int f, .int h, .int t0] NN (oX (cd2 (isN r nr ∧ isN w ng) (sound g f h t0)) (DG (sH σ 3 π nr ng nb g)) (@ite _ (nb < 12 ∧ fFree g r f h nb) (Classical.propDecidable _) (fHours (fBookTo g nb r w f h t0) nr (nb + 1) (fL g f h) 5 - fHours g nr nb (fL g f h) 5) (-99))) (x2 (sH σ 3 π nr ng nb g) (cd2 (isN r nr ∧ isN w ng) (sound g f h t0)) eI eA) := by
  refine ct_of (ls0 := [some (.ref 0), some (.int r), some (.int w), some (.int f), some (.int h), some (.int t0), none]) 1 (by decide +kernel) rfl rfl (ndR (ndI (ndI (ndI (ndI (ndI nd0)))))) rfl (Nat.le_of_ble_eq_true rfl) (fun K => ?_)
  have hnr4 := hw.nr4
  have hng6 := hw.ng6
  have hnb12 := hw.nb12
  obtain ⟨hF, hBB, ⟨hT1, hT2, hT3⟩, hMe, hSv⟩ := id hJ
  have hS3 : SA (sH σ 3 π nr ng nb g) 3 g := SA.mk hc hw ht hcb
  have hJ3 := hJ.h3 (nr := nr) (ng := ng) (nb := nb) (g := g) hc.2.2
  obtain ⟨τ, πt, hct, hD, kC⟩ := k6_trial hJ hc hw
  have hJt := hJ3.dg hD
  have hFt := hJt.1
  refine aw_aload0 dX6_cost_0 ?_
  refine aw_iload1 dX6_cost_1 ?_
  refine aw_iload2 dX6_cost_2 ?_
  refine aw_iload3 dX6_cost_3 ?_
  refine aw_iload4 dX6_cost_4 ?_
  refine aw_iload5 dX6_cost_6 ?_
  refine aw_VXV5 (k6_requireArgs σ π nr ng nb t g r w f h t0 hF hc hw) dX6_cost_8 vl_6_144 rfl (by decide) (by decide) (Nat.le_of_ble_eq_true rfl) rfl (fun σ2 E h => by obtain ⟨rfl, z⟩ := h; exact ⟨DG.refl, z.elim (fun y => Or.inl ⟨(cd2_1 y.1).symm, y.2⟩) (fun y => Or.inr ⟨(cd2_2 y.1 y.2.1).symm, y.2.2⟩)⟩) (fun σ_8 h_8 => ?_)
  obtain ⟨rfl, q_8⟩ := h_8
  refine aw_aload0 dX6_cost_11 ?_
  refine aw_getR dX6_cost_12 fR_6_19 rfl (by decide) ((sH_R (σ := σ) (h := 3) (nr := nr) (ng := ng) (nb := nb) (g := g) (π := π) (by omega)).trans hF.1.2.1) ?_
  refine aw_iload1 dX6_cost_15 ?_
  refine aw_iload3 dX6_cost_16 ?_
  refine aw_iload4 dX6_cost_17 ?_
  refine aw_VI3 (k2_hasPlaceFor σ 3 π nr ng nb t g r f h hc hw) dX6_cost_19 vl_6_148 hc.t hc.l (by decide) (Nat.le_of_ble_eq_true rfl) (fun σ_19 r_19 h_19 => ?_)
  obtain ⟨rfl, h_19⟩ := h_19
  rcases h_19 with ⟨rfl, p_19⟩ | ⟨rfl, p_19⟩
  · refine aw_if_ne (tgt := 28) dX6_cost_22 (by decide) (fun _ => ?_) (fun c_22 => absurd c_22 (by decide))
    obtain ⟨hL, hL3⟩ := fL_of hw (by omega) q_8.2
    have hD1 : DG (sH σ 3 π nr ng nb g) (sH τ 308 πt nr ng nb (fHours g nr nb (fL g f h))) := hD.t8 hct.2.2
    have hJ1 := hJ3.dg hD1
    have hF1 := hJ1.1
    obtain ⟨πu, hcu, kU⟩ := k6_copy hJ1 (hD1.hc (sHc hc)) hw (hD1.rh (sH_RH hc hnr4 hnb12) hc.2.2 hw) (h := 328) (Or.inr (Or.inr (Or.inl rfl))) (by decide)
    have hFu : RF (oC (sH τ 308 πt nr ng nb (fHours g nr nb (fL g f h))) 3 328) := hF1
    refine aw_iload3 dX6_cost_28 ?_
    refine aw_iload4 dX6_cost_29 ?_
    refine aw_iadd dX6_cost_31 ?_
    refine aw_aload0 dX6_cost_32 ?_
    refine aw_getR dX6_cost_33 fR_6_19 rfl (by decide) ((sH_R (σ := σ) (h := 3) (nr := nr) (ng := ng) (nb := nb) (g := g) (π := π) (by omega)).trans hF.1.2.1) ?_
    refine aw_getI dX6_cost_36 fI_6_116 hc.t hc.l sH_hour ?_
    refine aw_isub dX6_cost_39 ?_
    rw [hL]
    refine aw_istore6 dX6_cost_40 (by decide) rfl ?_
    refine aw_aload0 dX6_cost_42 ?_
    refine aw_getR dX6_cost_43 fR_6_45 rfl (by decide) ((sH_R (σ := σ) (h := 3) (nr := nr) (ng := ng) (nb := nb) (g := g) (π := π) (by omega)).trans hF.1.2.2.2.2.2.2.1) ?_
    refine aw_aload0 dX6_cost_46 ?_
    refine aw_getR dX6_cost_47 fR_6_19 rfl (by decide) ((sH_R (σ := σ) (h := 3) (nr := nr) (ng := ng) (nb := nb) (g := g) (π := π) (by omega)).trans hF.1.2.1) ?_
    refine aw_VV1 kC dX6_cost_50 vl_6_76 HT_308.1 (by decide) (by decide) (Nat.le_of_ble_eq_true rfl) (fun σ_50 h_50 => ?_)
    obtain rfl := h_50
    refine aw_aload0 dX6_cost_53 ?_
    refine aw_getR dX6_cost_54 fR_6_45 rfl (by decide) ((sH_R (σ := τ) (by omega)).trans hFt.1.2.2.2.2.2.2.1) ?_
    refine aw_iload6 dX6_cost_57 ?_
    refine aw_VV1 (k2_letHoursPass _ 308 πt nr ng nb t g _ (fL g f h) hct hw (Or.inl ⟨rfl, by omega⟩)) dX6_cost_59 vl_6_186 HT_308.1 (by decide) (by decide) (Nat.le_of_ble_eq_true rfl) (fun σ_59 h_59 => ?_)
    obtain rfl := h_59
    have hB2 := (show WF (fBookTo g nb r w f h t0) nr ng (nb + 1) t from by
      obtain ⟨ri, hri, rfl⟩ := q_8.1.1
      obtain ⟨wi, hwi, rfl⟩ := q_8.1.2
      have hsd := q_8.2
      obtain ⟨fi, hfi, rfl⟩ := Int32.rng (n := 199) (by omega) (Int32.le_trans (by rw [hw.hr]; exact nI_pos' (by omega)) hsd.1.1) hsd.1.2
      obtain ⟨hi, hhi, rfl⟩ := Int32.rng (n := 12) (by omega) (Int32.le_trans (by decide) hsd.2.1.1) hsd.2.1.2
      have hh1 : 1 ≤ hi := (nI_leI (a := 1) (by omega) (by omega)).mp hsd.2.1.1
      exact hw.book p_19.1 hri hwi (by omega) hh1 hhi p_19.2)
    refine aw_aload0 dX6_cost_62 ?_
    refine aw_getR dX6_cost_63 fR_6_48 rfl (by decide) hF1.1.2.2.2.2.2.2.2 ?_
    refine aw_aload0 dX6_cost_66 ?_
    refine aw_getR dX6_cost_67 fR_6_19 rfl (by decide) hF1.1.2.1 ?_
    refine aw_VV1 kU dX6_cost_70 vl_6_76 HT_328.1 (by decide) (by decide) (Nat.le_of_ble_eq_true rfl) (fun σ_70 h_70 => ?_)
    obtain rfl := h_70
    refine aw_aload0 dX6_cost_73 ?_
    refine aw_getR dX6_cost_74 fR_6_48 rfl (by decide) ((sH_R (σ := oC (sH τ 308 πt nr ng nb (fHours g nr nb (fL g f h))) 3 328) (by omega)).trans hFu.1.2.2.2.2.2.2.2) ?_
    refine aw_iload1 dX6_cost_77 ?_
    refine aw_iload2 dX6_cost_78 ?_
    refine aw_iload3 dX6_cost_79 ?_
    refine aw_iload4 dX6_cost_80 ?_
    refine aw_iload5 dX6_cost_82 ?_
    refine aw_VI5 (k2_newBooking _ 328 πu nr ng nb t g _ _ _ _ _ hcu hw p_19.1) dX6_cost_84 vl_6_154 HT_328.1 (by decide) (by decide) (Nat.le_of_ble_eq_true rfl) (fun σ_84 r_84 h_84 => ?_)
    obtain ⟨rfl, rfl⟩ := h_84
    refine aw_pop dX6_cost_87 rfl ?_
    refine aw_aload0 dX6_cost_88 ?_
    refine aw_getR dX6_cost_89 fR_6_48 rfl (by decide) ((sH_R (σ := oC (sH τ 308 πt nr ng nb (fHours g nr nb (fL g f h))) 3 328) (by omega)).trans hFu.1.2.2.2.2.2.2.2) ?_
    refine aw_iload6 dX6_cost_92 ?_
    refine aw_VV1 (k2_letHoursPass _ 328 πu nr ng (nb + 1) t _ _ (fL g f h) hcu hB2 (Or.inl ⟨rfl, by omega⟩)) dX6_cost_94 vl_6_186 HT_328.1 (by decide) (by decide) (Nat.le_of_ble_eq_true rfl) (fun σ_94 h_94 => ?_)
    obtain rfl := h_94
    refine aw_aload0 dX6_cost_97 ?_
    refine aw_getR dX6_cost_98 fR_6_48 rfl (by decide) ((sH_R (σ := oC (sH τ 308 πt nr ng nb (fHours g nr nb (fL g f h))) 3 328) (by omega)).trans hFu.1.2.2.2.2.2.2.2) ?_
    refine aw_getI dX6_cost_101 fI_6_183 HT_328.1 (by decide) sH_met ?_
    refine aw_aload0 dX6_cost_104 ?_
    refine aw_getR dX6_cost_105 fR_6_45 rfl (by decide) ((sH_R (σ := oC (sH τ 308 πt nr ng nb (fHours g nr nb (fL g f h))) 3 328) (by omega)).trans hFu.1.2.2.2.2.2.2.1) ?_
    refine aw_getI dX6_cost_108 fI_6_183 HT_308.1 (by decide) (show _ = fHours g nr nb (fL g f h) 5 from (sH_out (by omega)).trans ((oC_ne (by omega)).trans sH_met)) ?_
    refine aw_isub dX6_cost_111 ?_
    exact aw_iret dX6_cost_112 rfl (by decide) (oX_i (cd2_0 q_8.1 q_8.2) ((hD1.a (by decide)).t9 hcu.2.2) (@if_pos _ (Classical.propDecidable _) p_19 _ _ _))
  · refine aw_if_ne (tgt := 28) dX6_cost_22 (by decide) (fun c_22 => absurd c_22 (by decide)) (fun _ => ?_)
    refine aw_bipush (v := (-99)) dX6_cost_25 (by decide) ?_
    exact aw_iret dX6_cost_27 rfl (by decide) (oX_i (cd2_0 q_8.1 q_8.2) DG.refl (@if_neg _ (Classical.propDecidable _) p_19 _ _ _))
set_option maxHeartbeats 4000000 in
theorem k6_passAll (σ : Sg) (π : Nat → Nat) (nr ng nb t : Nat) (g : Rw) (n c : Nat) (T : Rw) (M S : Nat → Rw) (B : Nat → Bool) (hJ : KJ σ n T c M B S) (hc : HC σ 3 π) (hw : WF g nr ng nb t) (ht : t ≤ 240) (hcb : CB g nb (4 * t)) : Ct yX6_passAllBookingsOnTrial cX6_passAllBookingsOnTrial mX6_passAllBookingsOnTrial 6 0 0 NN false (sH σ 3 π nr ng nb g) [.ref 0] NN (rV fun σ2 => ∃ τ πt, HC τ 308 πt ∧ DG (sH σ 3 π nr ng nb g) τ ∧ sH τ 308 πt nr ng nb (fHours g nr nb (fH g nb)) = σ2) XF := by
  refine ct_of (ls0 := [some (.ref 0)]) 0 (by decide +kernel) rfl rfl (ndR nd0) rfl (Nat.le_of_ble_eq_true rfl) (fun K => ?_)
  have hnr4 := hw.nr4
  have hng6 := hw.ng6
  have hnb12 := hw.nb12
  obtain ⟨hF, hBB, ⟨hT1, hT2, hT3⟩, hMe, hSv⟩ := id hJ
  have hS3 : SA (sH σ 3 π nr ng nb g) 3 g := SA.mk hc hw ht hcb
  have hJ3 := hJ.h3 (nr := nr) (ng := ng) (nb := nb) (g := g) hc.2.2
  obtain ⟨τ, πt, hct, hD, kC⟩ := k6_trial hJ hc hw
  have hJt := hJ3.dg hD
  have hFt := hJt.1
  refine aw_aload0 dX6_passAllBookingsOnTrial_0 ?_
  refine aw_getR dX6_passAllBookingsOnTrial_1 fR_6_45 rfl (by decide) ((sH_R (σ := σ) (h := 3) (nr := nr) (ng := ng) (nb := nb) (g := g) (π := π) (by omega)).trans hF.1.2.2.2.2.2.2.1) ?_
  refine aw_aload0 dX6_passAllBookingsOnTrial_4 ?_
  refine aw_getR dX6_passAllBookingsOnTrial_5 fR_6_19 rfl (by decide) ((sH_R (σ := σ) (h := 3) (nr := nr) (ng := ng) (nb := nb) (g := g) (π := π) (by omega)).trans hF.1.2.1) ?_
  refine aw_VV1 kC dX6_passAllBookingsOnTrial_8 vl_6_76 HT_308.1 (by decide) (by decide) (Nat.le_of_ble_eq_true rfl) (fun σ_8 h_8 => ?_)
  obtain rfl := h_8
  have hD1 : DG (sH σ 3 π nr ng nb g) (sH τ 308 πt nr ng nb g) := hD.t8 hct.2.2
  have hR1 := hD1.rh (sH_RH hc hnr4 hnb12) hc.2.2 hw
  have kE := k2_endOfBookings (sH τ 308 πt nr ng nb g) 3 π nr ng nb t g (hD1.hc (sHc hc)) hw
  rw [hR1.eq] at kE
  refine aw_aload0 dX6_passAllBookingsOnTrial_11 ?_
  refine aw_getR dX6_passAllBookingsOnTrial_12 fR_6_45 rfl (by decide) ((sH_R (σ := τ) (by omega)).trans hFt.1.2.2.2.2.2.2.1) ?_
  refine aw_aload0 dX6_passAllBookingsOnTrial_15 ?_
  refine aw_getR dX6_passAllBookingsOnTrial_16 fR_6_19 rfl (by decide) ((sH_R (σ := τ) (by omega)).trans hFt.1.2.1) ?_
  refine aw_VI0 (kE) dX6_passAllBookingsOnTrial_19 vl_6_218 hc.t hc.l (by decide) (Nat.le_of_ble_eq_true rfl) (fun σ_19 r_19 h_19 => ?_)
  obtain ⟨rfl, rfl⟩ := h_19
  refine aw_aload0 dX6_passAllBookingsOnTrial_22 ?_
  refine aw_getR dX6_passAllBookingsOnTrial_23 fR_6_19 rfl (by decide) ((sH_R (σ := τ) (by omega)).trans hFt.1.2.1) ?_
  refine aw_getI dX6_passAllBookingsOnTrial_26 fI_6_116 hc.t hc.l ((sH_out (σ := τ) (by omega)).trans ((hD.1 _ _ (by omega) (by omega)).trans sH_hour)) ?_
  refine aw_isub dX6_passAllBookingsOnTrial_29 ?_
  refine aw_VV1 (k2_letHoursPass _ 308 πt nr ng nb t g _ (fH g nb) hct hw (hw.max3 (by omega))) dX6_passAllBookingsOnTrial_30 vl_6_186 HT_308.1 (by decide) (by decide) (Nat.le_of_ble_eq_true rfl) (fun σ_30 h_30 => ?_)
  obtain rfl := h_30
  exact aw_vret dX6_passAllBookingsOnTrial_33 rfl (by decide) ⟨rfl, _, _, hct, hD, rfl⟩
