/-! the class: actions -/
theorem act_PA {σ τ : Sg} {n c : Nat} {T : Rw} {M S : Nat → Rw} {B : Nat → Bool} {π : Nat → Nat} {nr ng nb t : Nat} {g : Rw} (hJ : KJ τ n T c M B S) (hc : HC τ 3 π) (hM : FMo σ τ) (hw : WF g nr ng nb t) (ht : t ≤ 240) (hb : CB g nb (4 * t)) : PA σ n T c M B S g (sH τ 3 π nr ng nb g) := ⟨hJ.h3 hc.2.2, SA.mk hc hw ht hb, hM.h (by decide)⟩
theorem can_PA {σ τ : Sg} {n c : Nat} {T : Rw} {M S : Nat → Rw} {B : Nat → Bool} {π : Nat → Nat} {nr ng nb t b : Nat} {g : Rw} (hJ : KJ τ n T c M B S) (hc : HC τ 3 π) (hM : FMo σ τ) (hw : WF g nr ng nb t) (ht : t ≤ 240) (hcb : CB g nb (4 * t)) (hb : b < nb) : PA σ n T c M B S (fDrop g b) (rGo (sH τ 3 π nr ng nb g) 3 b nb π (g 3 - 1)) := by
  have o := rGo_out (σ := τ) (h := 3) (nr := nr) (ng := ng) (nb := nb) (b := b) (π := π) (g := g) (v := g 3 - 1)
  have hp := rmP_PM hc.2.2 hb hw.nb12
  have R := rGo_RH hc hw hb
  have bb3 : BB (rGo (sH τ 3 π nr ng nb g) 3 b nb π (g 3 - 1)) 3 := ⟨_, hp, R.2.2.2.2⟩
  refine ⟨hJ.frame (fun i j h => o.1 i j (by omega)) (fun i j h1 _ _ => o.2 i j h1) bb3 ((hJ.bb (Or.inr (Or.inl rfl))).frame (fun j => o.2 _ _ (by omega))) ((hJ.bb (Or.inr (Or.inr (Or.inl rfl)))).frame (fun j => o.2 _ _ (by omega))), ⟨_, nr, ng, nb - 1, t, ht, ⟨hc.1, ⟨(o.2 _ _ (by omega)).trans hc.2.1.1, (o.2 _ _ (by omega)).trans hc.2.1.2.1, (o.2 _ _ (by omega)).trans hc.2.1.2.2.1, fun r hr => (o.2 _ _ (by omega)).trans (hc.2.1.2.2.2 r hr)⟩, hp⟩, R, hw.drop hb, hcb.drop hb hw.nb12⟩, ⟨fun i j h => (o.1 i j (by omega)).trans (hM.1 i j h), fun i j h => (o.2 i j (by omega)).trans (hM.2 i j h)⟩⟩
theorem rng9 {v : Int32} (h : 1 ≤ v ∧ v ≤ 9) : ∃ k, k ≤ 9 ∧ v = nI k := Int32.rng (n := 9) (by omega) (Int32.le_trans (by decide) h.1) h.2
set_option maxHeartbeats 4000000 in
theorem k6_addRoom (σ : Sg) (π : Nat → Nat) (nr ng nb t : Nat) (g : Rw) (n c : Nat) (T : Rw) (M S : Nat → Rw) (B : Nat → Bool) (s l p t0 : Int32) (hJ : KJ σ n T c M B S) (hc : HC σ 3 π) (hw : WF g nr ng nb t) (ht : t ≤ 240) (hcb : CB g nb (4 * t)) : Ct yX6_addRoom cX6_addRoom mX6_addRoom 7 8 48 NN false (sH σ 3 π nr ng nb g) [.ref 0, .int s, .int l, .int p, .int t0] NN (oX (cd2 ((1 ≤ s ∧ s ≤ 9) ∧ (1 ≤ l ∧ l ≤ 9) ∧ (1 ≤ p ∧ p ≤ 9) ∧ -10 ≤ t0 ∧ t0 ≤ 30) (nr < 4)) (PA (sH σ 3 π nr ng nb g) n T (remA c) (remM M c g) B S (fAddRoom g nr s l p t0)) (nI nr)) (x2 (sH σ 3 π nr ng nb g) (cd2 ((1 ≤ s ∧ s ≤ 9) ∧ (1 ≤ l ∧ l ≤ 9) ∧ (1 ≤ p ∧ p ≤ 9) ∧ -10 ≤ t0 ∧ t0 ≤ 30) (nr < 4)) eA eS) := by
  refine ct_of (ls0 := [some (.ref 0), some (.int s), some (.int l), some (.int p), some (.int t0)]) 0 (by decide +kernel) rfl rfl (ndR (ndI (ndI (ndI (ndI nd0))))) rfl (Nat.le_of_ble_eq_true rfl) (fun K => ?_)
  have hnr4 := hw.nr4
  have hng6 := hw.ng6
  have hnb12 := hw.nb12
  obtain ⟨hF, hBB, ⟨hT1, hT2, hT3⟩, hMe, hSv⟩ := id hJ
  have hS3 : SA (sH σ 3 π nr ng nb g) 3 g := SA.mk hc hw ht hcb
  have hJ3 := hJ.h3 (nr := nr) (ng := ng) (nb := nb) (g := g) hc.2.2
  obtain ⟨τ, kR, hJ2, hc2, hR2, hM2⟩ := k6_rem hJ3 (sHc hc) hw (sH_RH hc hnr4 hnb12) ht hcb
  have hF2 := hJ2.1
  refine aw_iload1 dX6_addRoom_0 ?_
  refine aw_iconst (v := 1) dX6_addRoom_1 (by decide) ?_
  refine aw_bipush (v := 9) dX6_addRoom_2 (by decide) ?_
  refine aw_SXV3 (k6_requireRange _ _ _ _) dX6_addRoom_4 sl_6_51 (by decide) (Nat.le_of_ble_eq_true rfl) rfl (fun σ2 E h => gx2 h (fun z => z.1)) (fun σ_4 h_4 => ?_)
  obtain ⟨rfl, q_4⟩ := h_4
  refine aw_iload2 dX6_addRoom_7 ?_
  refine aw_iconst (v := 1) dX6_addRoom_8 (by decide) ?_
  refine aw_bipush (v := 9) dX6_addRoom_9 (by decide) ?_
  refine aw_SXV3 (k6_requireRange _ _ _ _) dX6_addRoom_11 sl_6_51 (by decide) (Nat.le_of_ble_eq_true rfl) rfl (fun σ2 E h => gx2 h (fun z => z.2.1)) (fun σ_11 h_11 => ?_)
  obtain ⟨rfl, q_11⟩ := h_11
  refine aw_iload3 dX6_addRoom_14 ?_
  refine aw_iconst (v := 1) dX6_addRoom_15 (by decide) ?_
  refine aw_bipush (v := 9) dX6_addRoom_16 (by decide) ?_
  refine aw_SXV3 (k6_requireRange _ _ _ _) dX6_addRoom_18 sl_6_51 (by decide) (Nat.le_of_ble_eq_true rfl) rfl (fun σ2 E h => gx2 h (fun z => z.2.2.1)) (fun σ_18 h_18 => ?_)
  obtain ⟨rfl, q_18⟩ := h_18
  refine aw_iload4 dX6_addRoom_21 ?_
  refine aw_bipush (v := (-10)) dX6_addRoom_23 (by decide) ?_
  refine aw_bipush (v := 30) dX6_addRoom_25 (by decide) ?_
  refine aw_SXV3 (k6_requireRange _ _ _ _) dX6_addRoom_27 sl_6_51 (by decide) (Nat.le_of_ble_eq_true rfl) rfl (fun σ2 E h => gx2 h (fun z => z.2.2.2)) (fun σ_27 h_27 => ?_)
  obtain ⟨rfl, q_27⟩ := h_27
  have hall : ((1 ≤ s ∧ s ≤ 9) ∧ (1 ≤ l ∧ l ≤ 9) ∧ (1 ≤ p ∧ p ≤ 9) ∧ -10 ≤ t0 ∧ t0 ≤ 30) := ⟨q_4, q_11, q_18, q_27⟩
  refine aw_aload0 dX6_addRoom_30 ?_
  refine aw_getR dX6_addRoom_31 fR_6_19 rfl (by decide) ((sH_R (σ := σ) (h := 3) (nr := nr) (ng := ng) (nb := nb) (g := g) (π := π) (by omega)).trans hF.1.2.1) ?_
  refine aw_getI dX6_addRoom_34 fI_6_83 hc.t hc.l (sH_nr.trans hw.nr) ?_
  refine aw_iconst (v := 4) dX6_addRoom_37 (by decide) ?_
  refine aw_ic_lt (tgt := 51) dX6_addRoom_38 (by decide) (fun c_38 => ?_) (fun c_38 => ?_)
  · have hlt : nr < 4 := by
      rcases Nat.lt_or_ge nr 4 with q | q
      · exact q
      · exact absurd c_38 (nI_nlt (b := 4) q (by omega))
    refine aw_aload0 dX6_addRoom_51 ?_
    refine aw_getR dX6_addRoom_52 fR_6_26 rfl (by decide) ((sH_R (σ := σ) (h := 3) (nr := nr) (ng := ng) (nb := nb) (g := g) (π := π) (by omega)).trans hF.1.2.2.1) ?_
    refine aw_aload0 dX6_addRoom_55 ?_
    refine aw_getR dX6_addRoom_56 fR_6_19 rfl (by decide) ((sH_R (σ := σ) (h := 3) (nr := nr) (ng := ng) (nb := nb) (g := g) (π := π) (by omega)).trans hF.1.2.1) ?_
    refine aw_VV1 kR dX6_addRoom_59 vl_6_128 rfl (by decide) (by decide) (Nat.le_of_ble_eq_true rfl) (fun σ_59 h_59 => ?_)
    obtain rfl := h_59
    refine AW.eqs hR2.eq.symm ?_
    refine aw_aload0 dX6_addRoom_62 ?_
    refine aw_getR dX6_addRoom_63 fR_6_19 rfl (by decide) ((sH_R (by omega)).trans hF2.1.2.1) ?_
    refine aw_iload1 dX6_addRoom_66 ?_
    refine aw_iload2 dX6_addRoom_67 ?_
    refine aw_iload3 dX6_addRoom_68 ?_
    refine aw_iload4 dX6_addRoom_69 ?_
    refine aw_VI4 (k2_newRoom _ 3 π nr ng nb t g _ _ _ _ hc2 hw hlt) dX6_addRoom_71 vl_6_131 hc.t hc.l (by decide) (Nat.le_of_ble_eq_true rfl) (fun σ_71 r_71 h_71 => ?_)
    obtain ⟨rfl, rfl⟩ := h_71
    exact aw_iret dX6_addRoom_74 rfl (by decide) (oX_i (cd2_0 hall hlt) (act_PA hJ2 hc2 hM2 (hw.addRoom hlt (rng9 q_4) (rng9 q_18)) ht (hcb.addRoom hlt)) rfl)
  · exact aw_throw (E := eS) (text := "there are 4 rooms") dX6_addRoom_41 dX6_addRoom_44 dX6_addRoom_45 dX6_addRoom_47 dX6_addRoom_50 rfl cl_6_59 ei_eS (List.mem_of_getElem? (i := 6) rfl) ex_eS at_eS go_eS_59 rfl (by decide) (by decide) (by decide) (hx2 hall (fun z => c_38 (nI_lt (b := 4) z (by decide))))
set_option maxHeartbeats 4000000 in
theorem k6_addGroup (σ : Sg) (π : Nat → Nat) (nr ng nb t : Nat) (g : Rw) (n c : Nat) (T : Rw) (M S : Nat → Rw) (B : Nat → Bool) (hJ : KJ σ n T c M B S) (hc : HC σ 3 π) (hw : WF g nr ng nb t) (ht : t ≤ 240) (hcb : CB g nb (4 * t)) : Ct yX6_addGroup cX6_addGroup mX6_addGroup 7 8 48 NN false (sH σ 3 π nr ng nb g) [.ref 0] NN (oX (cd1 (ng < 6)) (PA (sH σ 3 π nr ng nb g) n T (remA c) (remM M c g) B S (fAddGroup g ng)) (nI ng)) (x1 (sH σ 3 π nr ng nb g) (cd1 (ng < 6)) eS) := by
  refine ct_of (ls0 := [some (.ref 0)]) 0 (by decide +kernel) rfl rfl (ndR nd0) rfl (Nat.le_of_ble_eq_true rfl) (fun K => ?_)
  have hnr4 := hw.nr4
  have hng6 := hw.ng6
  have hnb12 := hw.nb12
  obtain ⟨hF, hBB, ⟨hT1, hT2, hT3⟩, hMe, hSv⟩ := id hJ
  have hS3 : SA (sH σ 3 π nr ng nb g) 3 g := SA.mk hc hw ht hcb
  have hJ3 := hJ.h3 (nr := nr) (ng := ng) (nb := nb) (g := g) hc.2.2
  obtain ⟨τ, kR, hJ2, hc2, hR2, hM2⟩ := k6_rem hJ3 (sHc hc) hw (sH_RH hc hnr4 hnb12) ht hcb
  have hF2 := hJ2.1
  refine aw_aload0 dX6_addGroup_0 ?_
  refine aw_getR dX6_addGroup_1 fR_6_19 rfl (by decide) ((sH_R (σ := σ) (h := 3) (nr := nr) (ng := ng) (nb := nb) (g := g) (π := π) (by omega)).trans hF.1.2.1) ?_
  refine aw_getI dX6_addGroup_4 fI_6_135 hc.t hc.l (sH_ng.trans hw.ng) ?_
  refine aw_bipush (v := 6) dX6_addGroup_7 (by decide) ?_
  refine aw_ic_lt (tgt := 22) dX6_addGroup_9 (by decide) (fun c_9 => ?_) (fun c_9 => ?_)
  · have hlt : ng < 6 := by
      rcases Nat.lt_or_ge ng 6 with q | q
      · exact q
      · exact absurd c_9 (nI_nlt (b := 6) q (by omega))
    refine aw_aload0 dX6_addGroup_22 ?_
    refine aw_getR dX6_addGroup_23 fR_6_26 rfl (by decide) ((sH_R (σ := σ) (h := 3) (nr := nr) (ng := ng) (nb := nb) (g := g) (π := π) (by omega)).trans hF.1.2.2.1) ?_
    refine aw_aload0 dX6_addGroup_26 ?_
    refine aw_getR dX6_addGroup_27 fR_6_19 rfl (by decide) ((sH_R (σ := σ) (h := 3) (nr := nr) (ng := ng) (nb := nb) (g := g) (π := π) (by omega)).trans hF.1.2.1) ?_
    refine aw_VV1 kR dX6_addGroup_30 vl_6_128 rfl (by decide) (by decide) (Nat.le_of_ble_eq_true rfl) (fun σ_30 h_30 => ?_)
    obtain rfl := h_30
    refine AW.eqs hR2.eq.symm ?_
    refine aw_aload0 dX6_addGroup_33 ?_
    refine aw_getR dX6_addGroup_34 fR_6_19 rfl (by decide) ((sH_R (by omega)).trans hF2.1.2.1) ?_
    refine aw_VI0 (k2_newGroup _ 3 π nr ng nb t g hc2 hw hlt) dX6_addGroup_37 vl_6_140 hc.t hc.l (by decide) (Nat.le_of_ble_eq_true rfl) (fun σ_37 r_37 h_37 => ?_)
    obtain ⟨rfl, rfl⟩ := h_37
    exact aw_iret dX6_addGroup_40 rfl (by decide) (oX_i (cd1_0 hlt) (act_PA hJ2 hc2 hM2 (hw.addGroup hlt) ht ((hcb.upd (fun b hb => by omega)).upd (fun b hb => by omega))) rfl)
  · exact aw_throw (E := eS) (text := "there are 6 groups") dX6_addGroup_12 dX6_addGroup_15 dX6_addGroup_16 dX6_addGroup_18 dX6_addGroup_21 rfl cl_6_59 ei_eS (List.mem_of_getElem? (i := 7) rfl) ex_eS at_eS go_eS_59 rfl (by decide) (by decide) (by decide) (hx1 (fun z => c_9 (nI_lt (b := 6) z (by decide))))
set_option maxHeartbeats 4000000 in
theorem k6_book (σ : Sg) (π : Nat → Nat) (nr ng nb t : Nat) (g : Rw) (n c : Nat) (T : Rw) (M S : Nat → Rw) (B : Nat → Bool) (r w f h t0 : Int32) (hJ : KJ σ n T c M B S) (hc : HC σ 3 π) (hw : WF g nr ng nb t) (ht : t ≤ 240) (hcb : CB g nb (4 * t)) : Ct yX6_book cX6_book mX6_book 8 8 48 NN false (sH σ 3 π nr ng nb g) [.ref 0, .int r, .int w, .int f, .int h, .int t0] NN (oX (cd3 (isN r nr ∧ isN w ng) (sound g f h t0) (nb < 12 ∧ fFree g r f h nb)) (PA (sH σ 3 π nr ng nb g) n T (remA c) (remM M c g) B S (fBookTo g nb r w f h t0)) (nI nb)) (x3 (sH σ 3 π nr ng nb g) (cd3 (isN r nr ∧ isN w ng) (sound g f h t0) (nb < 12 ∧ fFree g r f h nb)) eI eA eS) := by
  refine ct_of (ls0 := [some (.ref 0), some (.int r), some (.int w), some (.int f), some (.int h), some (.int t0)]) 0 (by decide +kernel) rfl rfl (ndR (ndI (ndI (ndI (ndI (ndI nd0)))))) rfl (Nat.le_of_ble_eq_true rfl) (fun K => ?_)
  have hnr4 := hw.nr4
  have hng6 := hw.ng6
  have hnb12 := hw.nb12
  obtain ⟨hF, hBB, ⟨hT1, hT2, hT3⟩, hMe, hSv⟩ := id hJ
  have hS3 : SA (sH σ 3 π nr ng nb g) 3 g := SA.mk hc hw ht hcb
  have hJ3 := hJ.h3 (nr := nr) (ng := ng) (nb := nb) (g := g) hc.2.2
  obtain ⟨τ, kR, hJ2, hc2, hR2, hM2⟩ := k6_rem hJ3 (sHc hc) hw (sH_RH hc hnr4 hnb12) ht hcb
  have hF2 := hJ2.1
  refine aw_aload0 dX6_book_0 ?_
  refine aw_iload1 dX6_book_1 ?_
  refine aw_iload2 dX6_book_2 ?_
  refine aw_iload3 dX6_book_3 ?_
  refine aw_iload4 dX6_book_4 ?_
  refine aw_iload5 dX6_book_6 ?_
  refine aw_VXV5 (k6_requireArgs σ π nr ng nb t g r w f h t0 hF hc hw) dX6_book_8 vl_6_144 rfl (by decide) (by decide) (Nat.le_of_ble_eq_true rfl) rfl (fun σ2 E h => by obtain ⟨rfl, z⟩ := h; exact ⟨DG.refl, z.elim (fun y => Or.inl ⟨(cd3_1 y.1).symm, y.2⟩) (fun y => Or.inr (Or.inl ⟨(cd3_2 y.1 y.2.1).symm, y.2.2⟩))⟩) (fun σ_8 h_8 => ?_)
  obtain ⟨rfl, q_8⟩ := h_8
  refine aw_aload0 dX6_book_11 ?_
  refine aw_getR dX6_book_12 fR_6_19 rfl (by decide) ((sH_R (σ := σ) (h := 3) (nr := nr) (ng := ng) (nb := nb) (g := g) (π := π) (by omega)).trans hF.1.2.1) ?_
  refine aw_iload1 dX6_book_15 ?_
  refine aw_iload3 dX6_book_16 ?_
  refine aw_iload4 dX6_book_17 ?_
  refine aw_VI3 (k2_hasPlaceFor σ 3 π nr ng nb t g r f h hc hw) dX6_book_19 vl_6_148 hc.t hc.l (by decide) (Nat.le_of_ble_eq_true rfl) (fun σ_19 r_19 h_19 => ?_)
  obtain ⟨rfl, h_19⟩ := h_19
  rcases h_19 with ⟨rfl, p_19⟩ | ⟨rfl, p_19⟩
  · refine aw_if_ne (tgt := 35) dX6_book_22 (by decide) (fun _ => ?_) (fun c_22 => absurd c_22 (by decide))
    obtain ⟨ri, hri, rfl⟩ := q_8.1.1
    obtain ⟨wi, hwi, rfl⟩ := q_8.1.2
    have hsd := q_8.2
    obtain ⟨fi, hfi, rfl⟩ := Int32.rng (n := 199) (by omega) (Int32.le_trans (by rw [hw.hr]; exact nI_pos' (by omega)) hsd.1.1) hsd.1.2
    obtain ⟨hi, hhi, rfl⟩ := Int32.rng (n := 12) (by omega) (Int32.le_trans (by decide) hsd.2.1.1) hsd.2.1.2
    have hh1 : 1 ≤ hi := (nI_leI (a := 1) (by omega) (by omega)).mp hsd.2.1.1
    refine aw_aload0 dX6_book_35 ?_
    refine aw_getR dX6_book_36 fR_6_26 rfl (by decide) ((sH_R (σ := σ) (h := 3) (nr := nr) (ng := ng) (nb := nb) (g := g) (π := π) (by omega)).trans hF.1.2.2.1) ?_
    refine aw_aload0 dX6_book_39 ?_
    refine aw_getR dX6_book_40 fR_6_19 rfl (by decide) ((sH_R (σ := σ) (h := 3) (nr := nr) (ng := ng) (nb := nb) (g := g) (π := π) (by omega)).trans hF.1.2.1) ?_
    refine aw_VV1 kR dX6_book_43 vl_6_128 rfl (by decide) (by decide) (Nat.le_of_ble_eq_true rfl) (fun σ_43 h_43 => ?_)
    obtain rfl := h_43
    refine AW.eqs hR2.eq.symm ?_
    refine aw_aload0 dX6_book_46 ?_
    refine aw_getR dX6_book_47 fR_6_19 rfl (by decide) ((sH_R (by omega)).trans hF2.1.2.1) ?_
    refine aw_iload1 dX6_book_50 ?_
    refine aw_iload2 dX6_book_51 ?_
    refine aw_iload3 dX6_book_52 ?_
    refine aw_iload4 dX6_book_53 ?_
    refine aw_iload5 dX6_book_55 ?_
    refine aw_VI5 (k2_newBooking _ 3 π nr ng nb t g _ _ _ _ _ hc2 hw p_19.1) dX6_book_57 vl_6_154 hc.t hc.l (by decide) (Nat.le_of_ble_eq_true rfl) (fun σ_57 r_57 h_57 => ?_)
    obtain ⟨rfl, rfl⟩ := h_57
    exact aw_iret dX6_book_60 rfl (by decide) (oX_i (cd3_0 q_8.1 q_8.2 p_19) (act_PA hJ2 hc2 hM2 (hw.book p_19.1 hri hwi (by omega) hh1 hhi p_19.2) ht hcb.book) rfl)
  · refine aw_if_ne (tgt := 35) dX6_book_22 (by decide) (fun c_22 => absurd c_22 (by decide)) (fun _ => ?_)
    exact aw_throw (E := eS) (text := "there are 12 bookings, or the room is taken then") dX6_book_25 dX6_book_28 dX6_book_29 dX6_book_31 dX6_book_34 rfl cl_6_59 ei_eS (List.mem_of_getElem? (i := 8) rfl) ex_eS at_eS go_eS_59 rfl (by decide) (by decide) (by decide) (hx3 q_8.1 q_8.2 p_19)
set_option maxHeartbeats 4000000 in
theorem k6_cancel (σ : Sg) (π : Nat → Nat) (nr ng nb t : Nat) (g : Rw) (n c : Nat) (T : Rw) (M S : Nat → Rw) (B : Nat → Bool) (b : Int32) (hJ : KJ σ n T c M B S) (hc : HC σ 3 π) (hw : WF g nr ng nb t) (ht : t ≤ 240) (hcb : CB g nb (4 * t)) : Ct yX6_cancel cX6_cancel mX6_cancel 7 8 48 NN false (sH σ 3 π nr ng nb g) [.ref 0, .int b] NN (oX (cd2 (isN b nb) (goesP g (cN b))) (PA (sH σ 3 π nr ng nb g) n T (remA c) (remM M c g) B S (fDrop g (cN b))) (fDrop g (cN b) 3)) (x2 (sH σ 3 π nr ng nb g) (cd2 (isN b nb) (goesP g (cN b))) eI eS) := by
  refine ct_of (ls0 := [some (.ref 0), some (.int b), none]) 1 (by decide +kernel) rfl rfl (ndR (ndI nd0)) rfl (Nat.le_of_ble_eq_true rfl) (fun K => ?_)
  have hnr4 := hw.nr4
  have hng6 := hw.ng6
  have hnb12 := hw.nb12
  obtain ⟨hF, hBB, ⟨hT1, hT2, hT3⟩, hMe, hSv⟩ := id hJ
  have hS3 : SA (sH σ 3 π nr ng nb g) 3 g := SA.mk hc hw ht hcb
  have hJ3 := hJ.h3 (nr := nr) (ng := ng) (nb := nb) (g := g) hc.2.2
  obtain ⟨τ, kR, hJ2, hc2, hR2, hM2⟩ := k6_rem hJ3 (sHc hc) hw (sH_RH hc hnr4 hnb12) ht hcb
  have hF2 := hJ2.1
  refine aw_aload0 dX6_cancel_0 ?_
  refine aw_iload1 dX6_cancel_1 ?_
  refine aw_VXA1 (k6_requireBooking σ π nr ng nb t g b hF hc hw) dX6_cancel_2 vl_6_112 rfl (by decide) (by decide) (Nat.le_of_ble_eq_true rfl) rfl (fun σ2 E h => gx2 h id) (fun σ_2 r_2 h_2 => ?_)
  obtain ⟨rfl, k_2, hk_2, rfl, rfl⟩ := h_2
  have hcr : cN (nI k_2) = k_2 := nI_clamp (by omega)
  refine aw_astore2 dX6_cancel_5 (by decide) rfl ?_
  refine aw_aload2 dX6_cancel_6 ?_
  refine aw_aload0 dX6_cancel_7 ?_
  refine aw_getR dX6_cancel_8 fR_6_19 rfl (by decide) ((sH_R (σ := σ) (h := 3) (nr := nr) (ng := ng) (nb := nb) (g := g) (π := π) (by omega)).trans hF.1.2.1) ?_
  refine aw_getI dX6_cancel_11 fI_6_116 hc.t hc.l sH_hour ?_
  refine aw_VI1 (k0_mayGo _ _ _ (fun k => g (31 + 10 * k_2 + k)) (fun j hj => sH_b hc (by omega) hw.nb12 hj) (hc.tb (by omega)) (hc.lb (by omega))) dX6_cancel_14 vl_6_158 (hc.tb (by omega)) (hc.lb (by omega)) (by decide) (Nat.le_of_ble_eq_true rfl) (fun σ_14 r_14 h_14 => ?_)
  obtain ⟨rfl, h_14⟩ := h_14
  rcases h_14 with ⟨rfl, p_14⟩ | ⟨rfl, p_14⟩
  · refine aw_if_ne (tgt := 30) dX6_cancel_17 (by decide) (fun _ => ?_) (fun c_17 => absurd c_17 (by decide))
    refine aw_aload0 dX6_cancel_30 ?_
    refine aw_getR dX6_cancel_31 fR_6_26 rfl (by decide) ((sH_R (σ := σ) (h := 3) (nr := nr) (ng := ng) (nb := nb) (g := g) (π := π) (by omega)).trans hF.1.2.2.1) ?_
    refine aw_aload0 dX6_cancel_34 ?_
    refine aw_getR dX6_cancel_35 fR_6_19 rfl (by decide) ((sH_R (σ := σ) (h := 3) (nr := nr) (ng := ng) (nb := nb) (g := g) (π := π) (by omega)).trans hF.1.2.1) ?_
    refine aw_VV1 kR dX6_cancel_38 vl_6_128 rfl (by decide) (by decide) (Nat.le_of_ble_eq_true rfl) (fun σ_38 h_38 => ?_)
    obtain rfl := h_38
    refine AW.eqs hR2.eq.symm ?_
    refine aw_aload0 dX6_cancel_41 ?_
    refine aw_getR dX6_cancel_42 fR_6_19 rfl (by decide) ((sH_R (by omega)).trans hF2.1.2.1) ?_
    refine aw_iload1 dX6_cancel_45 ?_
    refine aw_VV1 (k2_removeBooking _ 3 π nr ng nb t g k_2 hc2 hw hk_2) dX6_cancel_46 vl_6_163 hc.t hc.l (by decide) (Nat.le_of_ble_eq_true rfl) (fun σ_46 h_46 => ?_)
    obtain rfl := h_46
    have hPA := can_PA hJ2 hc2 hM2 hw ht hcb hk_2
    refine aw_aload0 dX6_cancel_49 ?_
    refine aw_getR dX6_cancel_50 fR_6_19 rfl (by decide) hPA.1.1.1.2.1 ?_
    refine aw_getI dX6_cancel_53 fI_6_166 hc.t hc.l (show _ = fDrop g k_2 3 from (rGo_RH hc2 hw hk_2).1 7 (by unfold isI; omega)) ?_
    exact aw_iret dX6_cancel_56 rfl (by decide) (oX_i (cd2_0 ⟨k_2, hk_2, rfl⟩ (by rw [hcr]; exact p_14)) (by rw [hcr]; exact hPA) (by rw [hcr]))
  · refine aw_if_ne (tgt := 30) dX6_cancel_17 (by decide) (fun c_17 => absurd c_17 (by decide)) (fun _ => ?_)
    exact aw_throw (E := eS) (text := "it has been preheated, or its first hour went by") dX6_cancel_20 dX6_cancel_23 dX6_cancel_24 dX6_cancel_26 dX6_cancel_29 rfl cl_6_59 ei_eS (List.mem_of_getElem? (i := 9) rfl) ex_eS at_eS go_eS_59 rfl (by decide) (by decide) (by decide) (hx2 ⟨k_2, hk_2, rfl⟩ (by rw [hcr]; exact p_14))
def fPr (g : Rw) (nb r : Nat) (is : Int32) : Rw := match fCur g r nb with
  | none => g
  | some b => upd g (31 + 10 * b + 7) is
theorem WF.pr {g : Rw} {nr ng nb t r : Nat} {is : Int32} (hw : WF g nr ng nb t) (hi : is = 0 ∨ is = 1) : WF (fPr g nb r is) nr ng nb t := by
  unfold fPr
  split
  · exact hw
  · exact hw.marks _ hi
theorem CB.pr {g : Rw} {nb r c : Nat} {is : Int32} (h : CB g nb c) : CB (fPr g nb r is) nb c := by
  unfold fPr
  split
  · exact h
  · exact h.upd (fun b hb => by omega)
set_option maxHeartbeats 4000000 in
theorem k6_prove (σ : Sg) (π : Nat → Nat) (nr ng nb t : Nat) (g : Rw) (n c : Nat) (T : Rw) (M S : Nat → Rw) (B : Nat → Bool) (r is : Int32) (his : is = 0 ∨ is = 1) (hJ : KJ σ n T c M B S) (hc : HC σ 3 π) (hw : WF g nr ng nb t) (ht : t ≤ 240) (hcb : CB g nb (4 * t)) : Ct yX6_prove cX6_prove mX6_prove 7 8 48 NN false (sH σ 3 π nr ng nb g) [.ref 0, .int r, .int is] NN (oX (cd2 (isN r nr) (∃ b, fCur g (cN r) nb = some b)) (PA (sH σ 3 π nr ng nb g) n T (remA c) (remM M c g) B S (fPr g nb (cN r) is)) (oI (fCur g (cN r) nb))) (x2 (sH σ 3 π nr ng nb g) (cd2 (isN r nr) (∃ b, fCur g (cN r) nb = some b)) eI eS) := by
  refine ct_of (ls0 := [some (.ref 0), some (.int r), some (.int is), none]) 1 (by decide +kernel) rfl rfl (ndR (ndI (ndI nd0))) rfl (Nat.le_of_ble_eq_true rfl) (fun K => ?_)
  have hnr4 := hw.nr4
  have hng6 := hw.ng6
  have hnb12 := hw.nb12
  obtain ⟨hF, hBB, ⟨hT1, hT2, hT3⟩, hMe, hSv⟩ := id hJ
  have hS3 : SA (sH σ 3 π nr ng nb g) 3 g := SA.mk hc hw ht hcb
  have hJ3 := hJ.h3 (nr := nr) (ng := ng) (nb := nb) (g := g) hc.2.2
  obtain ⟨τ, kR, hJ2, hc2, hR2, hM2⟩ := k6_rem hJ3 (sHc hc) hw (sH_RH hc hnr4 hnb12) ht hcb
  have hF2 := hJ2.1
  refine aw_aload0 dX6_prove_0 ?_
  refine aw_iload1 dX6_prove_1 ?_
  refine aw_VXA1 (k6_requireRoom σ π nr ng nb t g r hF hc hw) dX6_prove_2 vl_6_90 rfl (by decide) (by decide) (Nat.le_of_ble_eq_true rfl) rfl (fun σ2 E h => gx2 h id) (fun σ_2 r_2 h_2 => ?_)
  obtain ⟨rfl, k_2, hk_2, rfl, rfl⟩ := h_2
  have hcr : cN (nI k_2) = k_2 := nI_clamp (by omega)
  refine aw_pop dX6_prove_5 rfl ?_
  refine aw_aload0 dX6_prove_6 ?_
  refine aw_getR dX6_prove_7 fR_6_19 rfl (by decide) ((sH_R (σ := σ) (h := 3) (nr := nr) (ng := ng) (nb := nb) (g := g) (π := π) (by omega)).trans hF.1.2.1) ?_
  refine aw_iload1 dX6_prove_10 ?_
  refine aw_VI1 (k2_bookingOfNow σ 3 π nr ng nb t g k_2 hc hw (by omega)) dX6_prove_11 vl_6_94 hc.t hc.l (by decide) (Nat.le_of_ble_eq_true rfl) (fun σ_11 r_11 h_11 => ?_)
  obtain ⟨rfl, h_11⟩ := h_11
  have hN9 : ∃ x, fCur g k_2 nb = x := ⟨_, rfl⟩
  obtain ⟨x, hN⟩ := hN9
  rw [hN] at h_11
  rcases x with _ | f
  · have h_11 : (-99 : Int32) = r_11 := h_11
    subst h_11
    refine aw_istore3 dX6_prove_14 (by decide) rfl ?_
    refine aw_iload3 dX6_prove_15 ?_
    refine aw_bipush (v := (-99)) dX6_prove_16 (by decide) ?_
    refine aw_ic_ne (tgt := 31) dX6_prove_18 (by decide) (fun c_18 => absurd c_18 (by decide)) (fun _ => ?_)
    exact aw_throw (E := eS) (text := "no booking of this room has the hour of now") dX6_prove_21 dX6_prove_24 dX6_prove_25 dX6_prove_27 dX6_prove_30 rfl cl_6_59 ei_eS (List.mem_of_getElem? (i := 10) rfl) ex_eS at_eS go_eS_59 rfl (by decide) (by decide) (by decide) (hx2 ⟨k_2, hk_2, rfl⟩ (by rw [hcr]; intro z; obtain ⟨b, hb⟩ := z; first | exact oI_ne (by have := fCur_lt hN; omega) c_18.symm | (rw [hN] at hb; cases hb)))
  · have h_11 : nI f = r_11 := h_11
    subst h_11
    have hf12 := fCur_lt hN
    refine aw_istore3 dX6_prove_14 (by decide) rfl ?_
    refine aw_iload3 dX6_prove_15 ?_
    refine aw_bipush (v := (-99)) dX6_prove_16 (by decide) ?_
    refine aw_ic_ne (tgt := 31) dX6_prove_18 (by decide) (fun c_18 => ?_) (fun c_18 => ?_)
    · refine aw_aload0 dX6_prove_31 ?_
      refine aw_getR dX6_prove_32 fR_6_26 rfl (by decide) ((sH_R (σ := σ) (h := 3) (nr := nr) (ng := ng) (nb := nb) (g := g) (π := π) (by omega)).trans hF.1.2.2.1) ?_
      refine aw_aload0 dX6_prove_35 ?_
      refine aw_getR dX6_prove_36 fR_6_19 rfl (by decide) ((sH_R (σ := σ) (h := 3) (nr := nr) (ng := ng) (nb := nb) (g := g) (π := π) (by omega)).trans hF.1.2.1) ?_
      refine aw_VV1 kR dX6_prove_39 vl_6_128 rfl (by decide) (by decide) (Nat.le_of_ble_eq_true rfl) (fun σ_39 h_39 => ?_)
      obtain rfl := h_39
      refine AW.eqs hR2.eq.symm ?_
      refine aw_aload0 dX6_prove_42 ?_
      refine aw_getR dX6_prove_43 fR_6_19 rfl (by decide) ((sH_R (by omega)).trans hF2.1.2.1) ?_
      refine aw_iload1 dX6_prove_46 ?_
      refine aw_iload2 dX6_prove_47 ?_
      refine aw_VV2 (k2_mark _ 3 π nr ng nb t g k_2 is hc2 hw (by omega) his) dX6_prove_48 vl_6_171 hc.t hc.l (by decide) (Nat.le_of_ble_eq_true rfl) (fun σ_48 h_48 => ?_)
      obtain rfl := h_48
      refine AW.eqs (show _ = sH _ 3 π nr ng nb (fPr g nb k_2 is) from rfl) ?_
      refine aw_iload3 dX6_prove_51 ?_
      exact aw_iret dX6_prove_52 rfl (by decide) (oX_i (cd2_0 ⟨k_2, hk_2, rfl⟩ (by rw [hcr]; exact ⟨f, hN⟩)) (by rw [hcr]; exact act_PA hJ2 hc2 hM2 (hw.pr his) ht hcb.pr) (by rw [hcr, hN]; rfl))
    · exact aw_throw (E := eS) (text := "no booking of this room has the hour of now") dX6_prove_21 dX6_prove_24 dX6_prove_25 dX6_prove_27 dX6_prove_30 rfl cl_6_59 ei_eS (List.mem_of_getElem? (i := 10) rfl) ex_eS at_eS go_eS_59 rfl (by decide) (by decide) (by decide) (hx2 ⟨k_2, hk_2, rfl⟩ (by rw [hcr]; intro z; obtain ⟨b, hb⟩ := z; first | exact oI_ne (by have := fCur_lt hN; omega) c_18.symm | (rw [hN] at hb; cases hb)))
set_option maxHeartbeats 4000000 in
theorem k6_outside (σ : Sg) (π : Nat → Nat) (nr ng nb t : Nat) (g : Rw) (n c : Nat) (T : Rw) (M S : Nat → Rw) (B : Nat → Bool) (t0 : Int32) (hJ : KJ σ n T c M B S) (hc : HC σ 3 π) (hw : WF g nr ng nb t) (ht : t ≤ 240) (hcb : CB g nb (4 * t)) : Ct yX6_outside cX6_outside mX6_outside 7 8 48 NN false (sH σ 3 π nr ng nb g) [.ref 0, .int t0] NN (oX (cd1 (-20 ≤ t0 ∧ t0 ≤ 25)) (PA (sH σ 3 π nr ng nb g) n T (remA c) (remM M c g) B S (upd g 4 t0)) (g 4)) (x1 (sH σ 3 π nr ng nb g) (cd1 (-20 ≤ t0 ∧ t0 ≤ 25)) eA) := by
  refine ct_of (ls0 := [some (.ref 0), some (.int t0), none]) 1 (by decide +kernel) rfl rfl (ndR (ndI nd0)) rfl (Nat.le_of_ble_eq_true rfl) (fun K => ?_)
  have hnr4 := hw.nr4
  have hng6 := hw.ng6
  have hnb12 := hw.nb12
  obtain ⟨hF, hBB, ⟨hT1, hT2, hT3⟩, hMe, hSv⟩ := id hJ
  have hS3 : SA (sH σ 3 π nr ng nb g) 3 g := SA.mk hc hw ht hcb
  have hJ3 := hJ.h3 (nr := nr) (ng := ng) (nb := nb) (g := g) hc.2.2
  obtain ⟨τ, kR, hJ2, hc2, hR2, hM2⟩ := k6_rem hJ3 (sHc hc) hw (sH_RH hc hnr4 hnb12) ht hcb
  have hF2 := hJ2.1
  refine aw_iload1 dX6_outside_0 ?_
  refine aw_bipush (v := (-20)) dX6_outside_1 (by decide) ?_
  refine aw_bipush (v := 25) dX6_outside_3 (by decide) ?_
  refine aw_SXV3 (k6_requireRange _ _ _ _) dX6_outside_5 sl_6_51 (by decide) (Nat.le_of_ble_eq_true rfl) rfl (fun σ2 E h => gx1 h id) (fun σ_5 h_5 => ?_)
  obtain ⟨rfl, q_5⟩ := h_5
  refine aw_aload0 dX6_outside_8 ?_
  refine aw_getR dX6_outside_9 fR_6_26 rfl (by decide) ((sH_R (σ := σ) (h := 3) (nr := nr) (ng := ng) (nb := nb) (g := g) (π := π) (by omega)).trans hF.1.2.2.1) ?_
  refine aw_aload0 dX6_outside_12 ?_
  refine aw_getR dX6_outside_13 fR_6_19 rfl (by decide) ((sH_R (σ := σ) (h := 3) (nr := nr) (ng := ng) (nb := nb) (g := g) (π := π) (by omega)).trans hF.1.2.1) ?_
  refine aw_VV1 kR dX6_outside_16 vl_6_128 rfl (by decide) (by decide) (Nat.le_of_ble_eq_true rfl) (fun σ_16 h_16 => ?_)
  obtain rfl := h_16
  refine AW.eqs hR2.eq.symm ?_
  refine aw_aload0 dX6_outside_19 ?_
  refine aw_getR dX6_outside_20 fR_6_19 rfl (by decide) ((sH_R (by omega)).trans hF2.1.2.1) ?_
  refine aw_getI dX6_outside_23 fI_6_175 hc.t hc.l sH_outd ?_
  refine aw_istore2 dX6_outside_26 (by decide) rfl ?_
  refine aw_aload0 dX6_outside_27 ?_
  refine aw_getR dX6_outside_28 fR_6_19 rfl (by decide) ((sH_R (by omega)).trans hF2.1.2.1) ?_
  refine aw_iload1 dX6_outside_31 ?_
  refine aw_putI dX6_outside_32 fP_6_175 hc.t hc.l ?_
  refine AW.eqs (sW_i (j := 1) (by unfold isI; omega)) ?_
  refine aw_iload2 dX6_outside_35 ?_
  exact aw_iret dX6_outside_36 rfl (by decide) (oX_i (cd1_0 q_5) (act_PA hJ2 hc2 hM2 (hw.out t0) ht (hcb.upd (fun b hb => by omega))) rfl)
set_option maxHeartbeats 4000000 in
theorem k6_pay (σ : Sg) (π : Nat → Nat) (nr ng nb t : Nat) (g : Rw) (n c : Nat) (T : Rw) (M S : Nat → Rw) (B : Nat → Bool) (w : Int32) (hJ : KJ σ n T c M B S) (hc : HC σ 3 π) (hw : WF g nr ng nb t) (ht : t ≤ 240) (hcb : CB g nb (4 * t)) : Ct yX6_pay cX6_pay mX6_pay 7 8 48 NN false (sH σ 3 π nr ng nb g) [.ref 0, .int w] NN (oX (cd1 (isN w ng)) (PA (sH σ 3 π nr ng nb g) n T (remA c) (remM M c g) B S (upd g (25 + cN w) 0)) (g (25 + cN w))) (x1 (sH σ 3 π nr ng nb g) (cd1 (isN w ng)) eI) := by
  refine ct_of (ls0 := [some (.ref 0), some (.int w)]) 0 (by decide +kernel) rfl rfl (ndR (ndI nd0)) rfl (Nat.le_of_ble_eq_true rfl) (fun K => ?_)
  have hnr4 := hw.nr4
  have hng6 := hw.ng6
  have hnb12 := hw.nb12
  obtain ⟨hF, hBB, ⟨hT1, hT2, hT3⟩, hMe, hSv⟩ := id hJ
  have hS3 : SA (sH σ 3 π nr ng nb g) 3 g := SA.mk hc hw ht hcb
  have hJ3 := hJ.h3 (nr := nr) (ng := ng) (nb := nb) (g := g) hc.2.2
  obtain ⟨τ, kR, hJ2, hc2, hR2, hM2⟩ := k6_rem hJ3 (sHc hc) hw (sH_RH hc hnr4 hnb12) ht hcb
  have hF2 := hJ2.1
  refine aw_aload0 dX6_pay_0 ?_
  refine aw_iload1 dX6_pay_1 ?_
  refine aw_VXV1 (k6_requireGroup σ π nr ng nb t g w hF hc hw) dX6_pay_2 vl_6_106 rfl (by decide) (by decide) (Nat.le_of_ble_eq_true rfl) rfl (fun σ2 E h => gx1 h id) (fun σ_2 h_2 => ?_)
  obtain ⟨rfl, q_2⟩ := h_2
  obtain ⟨k, hk, rfl⟩ := q_2
  have hck : cN (nI k) = k := nI_clamp (by omega)
  refine aw_aload0 dX6_pay_5 ?_
  refine aw_getR dX6_pay_6 fR_6_26 rfl (by decide) ((sH_R (σ := σ) (h := 3) (nr := nr) (ng := ng) (nb := nb) (g := g) (π := π) (by omega)).trans hF.1.2.2.1) ?_
  refine aw_aload0 dX6_pay_9 ?_
  refine aw_getR dX6_pay_10 fR_6_19 rfl (by decide) ((sH_R (σ := σ) (h := 3) (nr := nr) (ng := ng) (nb := nb) (g := g) (π := π) (by omega)).trans hF.1.2.1) ?_
  refine aw_VV1 kR dX6_pay_13 vl_6_128 rfl (by decide) (by decide) (Nat.le_of_ble_eq_true rfl) (fun σ_13 h_13 => ?_)
  obtain rfl := h_13
  refine AW.eqs hR2.eq.symm ?_
  refine aw_aload0 dX6_pay_16 ?_
  refine aw_getR dX6_pay_17 fR_6_19 rfl (by decide) ((sH_R (by omega)).trans hF2.1.2.1) ?_
  refine aw_iload1 dX6_pay_20 ?_
  refine aw_VI1 (k2_settle _ 3 π nr ng nb t g k hc2 hw hk) dX6_pay_21 vl_6_178 hc.t hc.l (by decide) (Nat.le_of_ble_eq_true rfl) (fun σ_21 r_21 h_21 => ?_)
  obtain ⟨rfl, rfl⟩ := h_21
  exact aw_iret dX6_pay_24 rfl (by decide) (oX_i (cd1_0 ⟨k, hk, rfl⟩) (by rw [hck]; exact act_PA hJ2 hc2 hM2 (hw.owe (by omega) _) ht (hcb.upd (fun b hb => by omega))) (by rw [hck]))
set_option maxHeartbeats 4000000 in
theorem k6_pass (σ : Sg) (π : Nat → Nat) (nr ng nb t : Nat) (g : Rw) (n c : Nat) (T : Rw) (M S : Nat → Rw) (B : Nat → Bool) (h : Int32) (hJ : KJ σ n T c M B S) (hc : HC σ 3 π) (hw : WF g nr ng nb t) (ht : t ≤ 240) (hcb : CB g nb (4 * t)) : Ct yX6_pass cX6_pass mX6_pass 7 8 48 NN false (sH σ 3 π nr ng nb g) [.ref 0, .int h] NN (oX (cd2 (1 ≤ h ∧ h ≤ 48) (g 0 + h ≤ 240)) (PA (sH σ 3 π nr ng nb g) n T (remA c) (remM M c g) B S (fHours g nr nb (cN h))) (fHours g nr nb (cN h) 5 - g 5)) (x2 (sH σ 3 π nr ng nb g) (cd2 (1 ≤ h ∧ h ≤ 48) (g 0 + h ≤ 240)) eA eS) := by
  refine ct_of (ls0 := [some (.ref 0), some (.int h), none]) 1 (by decide +kernel) rfl rfl (ndR (ndI nd0)) rfl (Nat.le_of_ble_eq_true rfl) (fun K => ?_)
  have hnr4 := hw.nr4
  have hng6 := hw.ng6
  have hnb12 := hw.nb12
  obtain ⟨hF, hBB, ⟨hT1, hT2, hT3⟩, hMe, hSv⟩ := id hJ
  have hS3 : SA (sH σ 3 π nr ng nb g) 3 g := SA.mk hc hw ht hcb
  have hJ3 := hJ.h3 (nr := nr) (ng := ng) (nb := nb) (g := g) hc.2.2
  obtain ⟨τ, kR, hJ2, hc2, hR2, hM2⟩ := k6_rem hJ3 (sHc hc) hw (sH_RH hc hnr4 hnb12) ht hcb
  have hF2 := hJ2.1
  refine aw_iload1 dX6_pass_0 ?_
  refine aw_iconst (v := 1) dX6_pass_1 (by decide) ?_
  refine aw_bipush (v := 48) dX6_pass_2 (by decide) ?_
  refine aw_SXV3 (k6_requireRange _ _ _ _) dX6_pass_4 sl_6_51 (by decide) (Nat.le_of_ble_eq_true rfl) rfl (fun σ2 E h => gx2 h id) (fun σ_4 h_4 => ?_)
  obtain ⟨rfl, q_4⟩ := h_4
  refine aw_aload0 dX6_pass_7 ?_
  refine aw_getR dX6_pass_8 fR_6_19 rfl (by decide) ((sH_R (σ := σ) (h := 3) (nr := nr) (ng := ng) (nb := nb) (g := g) (π := π) (by omega)).trans hF.1.2.1) ?_
  refine aw_getI dX6_pass_11 fI_6_116 hc.t hc.l sH_hour ?_
  refine aw_iload1 dX6_pass_14 ?_
  refine aw_iadd dX6_pass_15 ?_
  refine aw_sipush (v := 240) dX6_pass_16 (by decide) ?_
  refine aw_ic_le (tgt := 32) dX6_pass_19 (by decide) (fun c_19 => ?_) (fun c_19 => ?_)
  · obtain ⟨k, hk, rfl⟩ := Int32.rng (n := 48) (by omega) (Int32.le_trans (by decide) q_4.1) q_4.2
    have hck : cN (nI k) = k := nI_clamp (by omega)
    have h240 : t + k ≤ 240 := by
      have z := c_19
      rw [hw.hr, nI_add] at z
      exact (nI_leI (b := 240) (by omega) (by omega)).mp z
    refine aw_aload0 dX6_pass_32 ?_
    refine aw_getR dX6_pass_33 fR_6_26 rfl (by decide) ((sH_R (σ := σ) (h := 3) (nr := nr) (ng := ng) (nb := nb) (g := g) (π := π) (by omega)).trans hF.1.2.2.1) ?_
    refine aw_aload0 dX6_pass_36 ?_
    refine aw_getR dX6_pass_37 fR_6_19 rfl (by decide) ((sH_R (σ := σ) (h := 3) (nr := nr) (ng := ng) (nb := nb) (g := g) (π := π) (by omega)).trans hF.1.2.1) ?_
    refine aw_VV1 kR dX6_pass_40 vl_6_128 rfl (by decide) (by decide) (Nat.le_of_ble_eq_true rfl) (fun σ_40 h_40 => ?_)
    obtain rfl := h_40
    refine AW.eqs hR2.eq.symm ?_
    refine aw_aload0 dX6_pass_43 ?_
    refine aw_getR dX6_pass_44 fR_6_19 rfl (by decide) ((sH_R (by omega)).trans hF2.1.2.1) ?_
    refine aw_getI dX6_pass_47 fI_6_183 hc.t hc.l sH_met ?_
    refine aw_istore2 dX6_pass_50 (by decide) rfl ?_
    refine aw_aload0 dX6_pass_51 ?_
    refine aw_getR dX6_pass_52 fR_6_19 rfl (by decide) ((sH_R (by omega)).trans hF2.1.2.1) ?_
    refine aw_iload1 dX6_pass_55 ?_
    refine aw_VV1 (k2_letHoursPass _ 3 π nr ng nb t g _ k hc2 hw (Or.inl ⟨rfl, by omega⟩)) dX6_pass_56 vl_6_186 hc.t hc.l (by decide) (Nat.le_of_ble_eq_true rfl) (fun σ_56 h_56 => ?_)
    obtain rfl := h_56
    refine aw_aload0 dX6_pass_59 ?_
    refine aw_getR dX6_pass_60 fR_6_19 rfl (by decide) ((sH_R (by omega)).trans hF2.1.2.1) ?_
    refine aw_getI dX6_pass_63 fI_6_183 hc.t hc.l sH_met ?_
    refine aw_iload2 dX6_pass_66 ?_
    refine aw_isub dX6_pass_67 ?_
    exact aw_iret dX6_pass_68 rfl (by decide) (oX_i (cd2_0 q_4 c_19) (by rw [hck]; exact act_PA hJ2 hc2 hM2 (hw.hoursN k) h240 ((hcb.hoursN hw k).mono (by omega))) (by rw [hck]))
  · exact aw_throw (E := eS) (text := "the hour of now would become more than 240") dX6_pass_22 dX6_pass_25 dX6_pass_26 dX6_pass_28 dX6_pass_31 rfl cl_6_59 ei_eS (List.mem_of_getElem? (i := 11) rfl) ex_eS at_eS go_eS_59 rfl (by decide) (by decide) (by decide) (hx2 q_4 c_19)
