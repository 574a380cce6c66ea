/-! the class: a hall is cleared, a hall is copied -/
theorem sH_out {σ : Sg} {h nr ng nb i j : Nat} {π : Nat → Nat} {g : Rw} (hi : i < h ∨ h + 20 ≤ i) : (sH σ h π nr ng nb g).1 i j = σ.1 i j := by
  show @ite _ _ _ _ _ = _
  rw [if_neg (by omega), if_neg (by omega), if_neg (by omega), if_neg (by omega)]
theorem isI_w : isI 0 ∧ isI 1 ∧ isI 3 ∧ isI 5 ∧ isI 7 ∧ isI 8 ∧ isI 9 ∧ isI 10 ∧ isI 11 := by unfold isI; omega
theorem isI_all {P : Nat → Prop} (h : P 0 ∧ P 1 ∧ P 3 ∧ P 5 ∧ P 7 ∧ P 8 ∧ P 9 ∧ P 10 ∧ P 11) : ∀ k, isI k → P k := fun k hk => by
  unfold isI at hk
  have : k = 0 ∨ k = 1 ∨ k = 3 ∨ k = 5 ∨ k = 7 ∨ k = 8 ∨ k = 9 ∨ k = 10 ∨ k = 11 := by omega
  obtain ⟨a, b, c, d, e, f, g, i, l⟩ := h
  rcases this with rfl | rfl | rfl | rfl | rfl | rfl | rfl | rfl | rfl <;> assumption
def oC (σ : Sg) (y h : Nat) : Sg := sA σ (h + 2) (fun i => if i < 6 then σ.1 (y + 2) i else σ.1 (h + 2) i)
theorem oC_ne {σ : Sg} {y h i j : Nat} (hi : i ≠ h + 2) : (oC σ y h).1 i j = σ.1 i j := if_neg hi
theorem sG_o {σ : Sg} {h y nr ng : Nat} {π : Nat → Nat} {e : Rw} (h6 : ng ≤ 6) (hd : y + 20 ≤ h ∨ h + 20 ≤ y) (he : ∀ k, k < ng → e (25 + k) = σ.1 (y + 2) k) : sA (sH σ h π nr 0 0 e) (h + 2) (fun i => if i < 6 then (sH σ h π nr 0 0 e).1 (y + 2) i else (sH σ h π nr 0 0 e).1 (h + 2) i) = sH (oC σ y h) h π nr ng 0 e := by
  refine Prod.ext (funext fun i => funext fun k => ?_) rfl
  have e1 : (sH σ h π nr 0 0 e).1 (y + 2) k = σ.1 (y + 2) k := sH_out (by omega)
  have e2 : (sH σ h π nr 0 0 e).1 (h + 2) k = σ.1 (h + 2) k := by
    show @ite _ _ _ _ _ = _
    rw [if_neg (by omega), if_pos rfl, if_neg (by omega)]
  by_cases q : i = h + 2
  · subst q
    rw [sA_at, e1, e2]
    by_cases q2 : k < ng
    · rw [sH_o q2, he k q2, if_pos (by omega)]
    · have e3 : (sH (oC σ y h) h π nr ng 0 e).1 (h + 2) k = (oC σ y h).1 (h + 2) k := by
        show @ite _ _ _ _ _ = _
        rw [if_neg (by omega), if_pos rfl, if_neg q2]
      rw [e3]
      exact (if_pos rfl).symm
  · show @ite _ _ _ _ _ = _
    rw [if_neg q]
    show @ite _ _ _ _ _ = @ite _ _ _ _ _
    rw [if_neg q, if_neg q]
    by_cases q1 : i = h
    · rw [if_pos q1, if_pos q1, oC_ne q]
    · rw [if_neg q1, if_neg q1, oC_ne q]
set_option maxHeartbeats 4000000 in
theorem k2_clear (σ : Sg) (h : Nat) (π : Nat → Nat) (g g0 : Rw) (hc : HC σ h π) : Ct yX2_clear cX2_clear mX2_clear 1 0 0 NN false (sH σ h π 0 0 0 g) [.ref h] NN (eV1 (sH σ h π 0 0 0 (fClean g0))) XF := by
  refine ct_of (ls0 := [some (.ref h)]) 0 (by decide +kernel) rfl rfl (ndR nd0) rfl (Nat.le_of_ble_eq_true rfl) (fun K => ?_)
  refine aw_aload0 dX2_clear_0 ?_
  refine aw_iconst (v := 0) dX2_clear_1 (by decide) ?_
  refine aw_putI dX2_clear_2 fP_2_33 hc.t hc.l ?_
  refine AW.eqs (sW_i (j := 0) (by unfold isI; omega)) ?_
  refine aw_aload0 dX2_clear_5 ?_
  refine aw_iconst (v := 5) dX2_clear_6 (by decide) ?_
  refine aw_putI dX2_clear_7 fP_2_9 hc.t hc.l ?_
  refine AW.eqs (sW_i (j := 1) (by unfold isI; omega)) ?_
  refine aw_aload0 dX2_clear_10 ?_
  refine aw_iconst (v := 0) dX2_clear_11 (by decide) ?_
  refine aw_putI dX2_clear_12 fP_2_36 hc.t hc.l ?_
  refine AW.eqs (sW_i (j := 3) (by unfold isI; omega)) ?_
  refine aw_aload0 dX2_clear_15 ?_
  refine aw_iconst (v := 0) dX2_clear_16 (by decide) ?_
  refine aw_putI dX2_clear_17 fP_2_39 hc.t hc.l ?_
  refine AW.eqs (sW_i (j := 5) (by unfold isI; omega)) ?_
  refine aw_aload0 dX2_clear_20 ?_
  refine aw_iconst (v := 0) dX2_clear_21 (by decide) ?_
  refine aw_putI dX2_clear_22 fP_2_42 hc.t hc.l ?_
  refine AW.eqs (sW_i (j := 7) (by unfold isI; omega)) ?_
  refine aw_aload0 dX2_clear_25 ?_
  refine aw_iconst (v := 0) dX2_clear_26 (by decide) ?_
  refine aw_putI dX2_clear_27 fP_2_45 hc.t hc.l ?_
  refine AW.eqs (sW_i (j := 8) (by unfold isI; omega)) ?_
  refine aw_aload0 dX2_clear_30 ?_
  refine aw_iconst (v := 0) dX2_clear_31 (by decide) ?_
  refine aw_putI dX2_clear_32 fP_2_48 hc.t hc.l ?_
  refine AW.eqs (sW_i (j := 9) (by unfold isI; omega)) ?_
  refine aw_aload0 dX2_clear_35 ?_
  refine aw_iconst (v := 0) dX2_clear_36 (by decide) ?_
  refine aw_putI dX2_clear_37 fP_2_51 hc.t hc.l ?_
  refine AW.eqs (sW_i (j := 10) (by unfold isI; omega)) ?_
  refine aw_aload0 dX2_clear_40 ?_
  refine aw_iconst (v := 0) dX2_clear_41 (by decide) ?_
  refine aw_putI dX2_clear_42 fP_2_54 hc.t hc.l ?_
  refine AW.eqs (sW_i (j := 11) (by unfold isI; omega)) ?_
  exact aw_vret dX2_clear_45 rfl (by decide) (eV_to (sH_eq (isI_all ⟨rfl, rfl, rfl, rfl, rfl, rfl, rfl, rfl, rfl⟩) (fun _ q => absurd q (Nat.not_lt_zero _)) (fun _ _ q => absurd q (Nat.not_lt_zero _)) (fun _ _ q => absurd q (Nat.not_lt_zero _))))
set_option maxHeartbeats 4000000 in
theorem k2_copyFrom (σ : Sg) (h y : Nat) (π πy : Nat → Nat) (nr ng nb t : Nat) (g e0 : Rw) (hc : HC σ h π) (hw : WF g nr ng nb t) (hty : HT y) (hsy : HS σ y) (hpy : PM πy) (hR : RH σ y πy nr ng nb g) (hd : y + 20 ≤ h ∨ h + 20 ≤ y) (he0 : ∀ j, 9 ≤ j → e0 j = g j) : Ct yX2_copyFrom cX2_copyFrom mX2_copyFrom 3 0 0 NN false (sH σ h π 0 0 0 e0) [.ref h, .ref y] NN (eV1 (sH (oC σ y h) h π nr ng nb g)) XF := by
  refine ct_of (ls0 := [some (.ref h), some (.ref y), none]) 1 (by decide +kernel) rfl rfl (ndR (ndR nd0)) rfl (Nat.le_of_ble_eq_true rfl) (fun K => ?_)
  have hnr4 := hw.nr4
  have hng6 := hw.ng6
  have hnb12 := hw.nb12
  have hly := hty.2.2.2.2.2.2
  have hc2 : HC (oC σ y h) h π := hc
  have L88 : ∀ (k : Nat) (b : Nat) (h1 : b ≤ nb) (h2 : nb - b < k), AW K RX2 cX2_copyFrom mX2_copyFrom 3 0 0 (Qm K NN (eV1 (sH (oC σ y h) h π nr ng nb g)) XF 0 0) NN none (sH (oC σ y h) h π nr ng b (upd (upd (upd (upd (upd e0 0 (g 0)) 4 (g 4)) 1 (g 1)) 2 (g 2)) 3 (g 3))) 0 0 88 [some (.ref h), some (.ref y), some (.int (nI b))] [] := by
    intro k
    induction k with
    | zero => intro b h1 h2; exact absurd h2 (Nat.not_lt_zero _)
    | succ k ih =>
      intro b h1 h2
      refine aw_iload2 dX2_copyFrom_88 ?_
      refine aw_aload0 dX2_copyFrom_89 ?_
      refine aw_getI dX2_copyFrom_90 fI_2_42 hc.t hc.l (sH_nb.trans (show _ = nI nb from upd_s.trans hw.nb)) ?_
      refine aw_ic_ge (tgt := 117) dX2_copyFrom_93 (by decide) (fun c_93 => ?_) (fun c_93 => ?_)
      · have hbb : b = nb := by
          have := (nI_leI (by omega) (by omega)).mp c_93
          omega
        subst hbb
        refine aw_aload0 dX2_copyFrom_117 ?_
        refine aw_aload1 dX2_copyFrom_118 ?_
        refine aw_getI dX2_copyFrom_119 fI_2_45 hty.1 (by omega) (show _ = g 5 from (sH_out (by omega)).trans ((oC_ne (by omega)).trans (hR.1 8 (by unfold isI; omega)))) ?_
        refine aw_putI dX2_copyFrom_122 fP_2_45 hc.t hc.l ?_
        refine AW.eqs (sW_i (j := 8) (by unfold isI; omega)) ?_
        refine aw_aload0 dX2_copyFrom_125 ?_
        refine aw_aload1 dX2_copyFrom_126 ?_
        refine aw_getI dX2_copyFrom_127 fI_2_48 hty.1 (by omega) (show _ = g 6 from (sH_out (by omega)).trans ((oC_ne (by omega)).trans (hR.1 9 (by unfold isI; omega)))) ?_
        refine aw_putI dX2_copyFrom_130 fP_2_48 hc.t hc.l ?_
        refine AW.eqs (sW_i (j := 9) (by unfold isI; omega)) ?_
        refine aw_aload0 dX2_copyFrom_133 ?_
        refine aw_aload1 dX2_copyFrom_134 ?_
        refine aw_getI dX2_copyFrom_135 fI_2_51 hty.1 (by omega) (show _ = g 7 from (sH_out (by omega)).trans ((oC_ne (by omega)).trans (hR.1 10 (by unfold isI; omega)))) ?_
        refine aw_putI dX2_copyFrom_138 fP_2_51 hc.t hc.l ?_
        refine AW.eqs (sW_i (j := 10) (by unfold isI; omega)) ?_
        refine aw_aload0 dX2_copyFrom_141 ?_
        refine aw_aload1 dX2_copyFrom_142 ?_
        refine aw_getI dX2_copyFrom_143 fI_2_54 hty.1 (by omega) (show _ = g 8 from (sH_out (by omega)).trans ((oC_ne (by omega)).trans (hR.1 11 (by unfold isI; omega)))) ?_
        refine aw_putI dX2_copyFrom_146 fP_2_54 hc.t hc.l ?_
        refine AW.eqs (sW_i (j := 11) (by unfold isI; omega)) ?_
        exact aw_vret dX2_copyFrom_149 rfl (by decide) (eV_to (Eq.symm (sH_eq (g := (upd (upd (upd (upd (upd (upd (upd (upd (upd e0 0 (g 0)) 4 (g 4)) 1 (g 1)) 2 (g 2)) 3 (g 3)) 5 (g 5)) 6 (g 6)) 7 (g 7)) 8 (g 8))) (isI_all ⟨rfl, rfl, rfl, rfl, rfl, rfl, rfl, rfl, rfl⟩) (fun k hk => by simp (disch := omega) only [upd_n]; exact he0 _ (by omega)) (fun r k hr hr4 hk => by simp (disch := omega) only [upd_n]; exact he0 _ (by omega)) (fun b k hb hk => by have := bx_lt hk; simp (disch := omega) only [upd_n]; exact he0 _ (by omega)))))
      · have hlt : b < nb := by
          rcases Nat.lt_or_ge b nb with q | q
          · exact q
          · exact absurd (nI_le q (by omega)) c_93
        have hpb := hpy.1 b (by omega)
        have hv : ∀ j, j < 10 → (sH (oC σ y h) h π nr ng b (upd (upd (upd (upd (upd e0 0 (g 0)) 4 (g 4)) 1 (g 1)) 2 (g 2)) 3 (g 3))).1 (y + 8 + πy b) j = g (31 + 10 * b + bx j) := fun j hj => (sH_out (by omega)).trans ((oC_ne (by omega)).trans (hR.2.2.2.1 b j hlt hj))
        refine aw_aload0 dX2_copyFrom_96 ?_
        refine aw_getR dX2_copyFrom_97 fR_2_27 hc.t hc.l (sH_books hc2) ?_
        refine aw_iload2 dX2_copyFrom_100 ?_
        refine aw_aald (j := b) dX2_copyFrom_101 hc.tB (by decide) hc.lB rfl (by omega) (sH_book (by omega)) ?_
        refine aw_aload1 dX2_copyFrom_102 ?_
        refine aw_getR dX2_copyFrom_103 fR_2_27 hty.1 (by omega) ((sH_R (by omega)).trans hsy.2.2.1) ?_
        refine aw_iload2 dX2_copyFrom_106 ?_
        refine aw_aald (j := b) dX2_copyFrom_107 hty.2.2.2.1 (by decide) (by omega) rfl (by omega) ((sH_R (by omega)).trans (hR.2.2.2.2 _ (by omega))) ?_
        refine aw_VV1 (k0_copyFrom _ _ _ (hc.tb (by omega)) (hc.lb (by omega)) (hty.2.2.2.2.2.1 (πy b) hpb) (by omega) (by have := hc.2.2.1 b (by omega); omega) (by rw [hv 5 (by omega)]; exact hw.begun hlt) (by rw [hv 8 (by omega)]; exact hw.mark hlt)) dX2_copyFrom_108 vl_2_67 (hc.tb (by omega)) (hc.lb (by omega)) (by decide) (Nat.le_of_ble_eq_true rfl) (fun σ_108 h_108 => ?_)
        obtain rfl := h_108
        refine AW.eqs (sG_b (e := (upd (upd (upd (upd (upd e0 0 (g 0)) 4 (g 4)) 1 (g 1)) 2 (g 2)) 3 (g 3))) hc2 (by omega) hng6 (fun j hj => by
          rw [hv j hj]
          have := bx_lt hj
          simp (disch := omega) only [upd_n]
          exact he0 _ (by omega)) (fun _ _ => rfl)) ?_
        refine aw_iinc2 (w := nI (b + 1)) dX2_copyFrom_111 (nI_1 b) (by decide) rfl ?_
        refine aw_goto (tgt := 88) dX2_copyFrom_114 (by decide) ?_
        exact ih (b + 1) hlt (by omega)
  have L26 : ∀ (k : Nat) (r : Nat) (h1 : r ≤ nr) (h2 : nr - r < k), AW K RX2 cX2_copyFrom mX2_copyFrom 3 0 0 (Qm K NN (eV1 (sH (oC σ y h) h π nr ng nb g)) XF 0 0) NN none (sH σ h π r 0 0 (upd (upd (upd e0 0 (g 0)) 4 (g 4)) 1 (g 1))) 0 0 26 [some (.ref h), some (.ref y), some (.int (nI r))] [] := by
    intro k
    induction k with
    | zero => intro r h1 h2; exact absurd h2 (Nat.not_lt_zero _)
    | succ k ih =>
      intro r h1 h2
      refine aw_iload2 dX2_copyFrom_26 ?_
      refine aw_aload0 dX2_copyFrom_27 ?_
      refine aw_getI dX2_copyFrom_28 fI_2_36 hc.t hc.l (sH_nr.trans (show _ = nI nr from upd_s.trans hw.nr)) ?_
      refine aw_ic_ge (tgt := 55) dX2_copyFrom_31 (by decide) (fun c_31 => ?_) (fun c_31 => ?_)
      · have hbb : r = nr := by
          have := (nI_leI (by omega) (by omega)).mp c_31
          omega
        subst hbb
        refine aw_aload0 dX2_copyFrom_55 ?_
        refine aw_aload1 dX2_copyFrom_56 ?_
        refine aw_getI dX2_copyFrom_57 fI_2_39 hty.1 (by omega) (show _ = g 2 from (sH_out (by omega)).trans (hR.1 5 (by unfold isI; omega))) ?_
        refine aw_putI dX2_copyFrom_60 fP_2_39 hc.t hc.l ?_
        refine AW.eqs (sW_i (j := 5) (by unfold isI; omega)) ?_
        refine aw_aload1 dX2_copyFrom_63 ?_
        refine aw_getR dX2_copyFrom_64 fR_2_21 hty.1 (by omega) ((sH_R (by omega)).trans hsy.2.1) ?_
        refine aw_iconst (v := 0) dX2_copyFrom_67 (by decide) ?_
        refine aw_aload0 dX2_copyFrom_68 ?_
        refine aw_getR dX2_copyFrom_69 fR_2_21 hc.t hc.l (sH_owed hc) ?_
        refine aw_iconst (v := 0) dX2_copyFrom_72 (by decide) ?_
        refine aw_bipush (v := 6) dX2_copyFrom_73 (by decide) ?_
        refine aw_acopy (j := 6) dX2_copyFrom_75 jl_2_61 ac_n ac_s ac_i hty.2.2.1 (by omega) hc.tO hc.lO rfl (by decide) (by decide) (Nat.le_of_ble_eq_true rfl) ?_
        refine AW.eqs (sG_o (e := (upd (upd (upd (upd e0 0 (g 0)) 4 (g 4)) 1 (g 1)) 2 (g 2))) (ng := ng) hng6 hd (fun k hk => by
          simp (disch := omega) only [upd_n]
          exact (he0 _ (by omega)).trans (hR.2.1 k hk).symm)) ?_
        refine aw_aload0 dX2_copyFrom_78 ?_
        refine aw_aload1 dX2_copyFrom_79 ?_
        refine aw_getI dX2_copyFrom_80 fI_2_42 hty.1 (by omega) (show _ = g 3 from (sH_out (by omega)).trans ((oC_ne (by omega)).trans (hR.1 7 (by unfold isI; omega)))) ?_
        refine aw_putI dX2_copyFrom_83 fP_2_42 hc.t hc.l ?_
        refine AW.eqs (sW_i (j := 7) (by unfold isI; omega)) ?_
        refine aw_iconst (v := 0) dX2_copyFrom_86 (by decide) ?_
        refine aw_istore2 dX2_copyFrom_87 (by decide) rfl ?_
        exact L88 (nb + 1) 0 (Nat.zero_le _) (by omega)
      · have hlt : r < nr := by
          rcases Nat.lt_or_ge r nr with q | q
          · exact q
          · exact absurd (nI_le q (by omega)) c_31
        refine aw_aload0 dX2_copyFrom_34 ?_
        refine aw_getR dX2_copyFrom_35 fR_2_17 hc.t hc.l (sH_rooms hc) ?_
        refine aw_iload2 dX2_copyFrom_38 ?_
        refine aw_aald (j := r) dX2_copyFrom_39 hc.tR (by decide) hc.lR rfl (by omega) (sH_room hc (by omega)) ?_
        refine aw_aload1 dX2_copyFrom_40 ?_
        refine aw_getR dX2_copyFrom_41 fR_2_17 hty.1 (by omega) ((sH_R (by omega)).trans hsy.1) ?_
        refine aw_iload2 dX2_copyFrom_44 ?_
        refine aw_aald (j := r) dX2_copyFrom_45 hty.2.1 (by decide) (by omega) rfl (by omega) ((sH_R (by omega)).trans (hsy.2.2.2 _ (by omega))) ?_
        refine aw_VV1 (k5_copyFrom _ _ _ (hc.tr (by omega)) (hc.lr (by omega)) (hty.2.2.2.2.1 r (by omega)) (by omega)) dX2_copyFrom_46 vl_2_57 (hc.tr (by omega)) (hc.lr (by omega)) (by decide) (Nat.le_of_ble_eq_true rfl) (fun σ_46 h_46 => ?_)
        obtain rfl := h_46
        refine AW.eqs (sG_r (e := (upd (upd (upd e0 0 (g 0)) 4 (g 4)) 1 (g 1))) (by omega) (fun j hj => by
          rw [sH_out (by omega), hR.2.2.1 r j hlt hj]
          simp (disch := omega) only [upd_n]
          exact he0 _ (by omega)) (fun _ _ => rfl)) ?_
        refine aw_iinc2 (w := nI (r + 1)) dX2_copyFrom_49 (nI_1 r) (by decide) rfl ?_
        refine aw_goto (tgt := 26) dX2_copyFrom_52 (by decide) ?_
        exact ih (r + 1) hlt (by omega)
  refine aw_aload0 dX2_copyFrom_0 ?_
  refine aw_aload1 dX2_copyFrom_1 ?_
  refine aw_getI dX2_copyFrom_2 fI_2_33 hty.1 (by omega) (show _ = g 0 from (sH_out (by omega)).trans (hR.1 0 (by unfold isI; omega))) ?_
  refine aw_putI dX2_copyFrom_5 fP_2_33 hc.t hc.l ?_
  refine AW.eqs (sW_i (j := 0) (by unfold isI; omega)) ?_
  refine aw_aload0 dX2_copyFrom_8 ?_
  refine aw_aload1 dX2_copyFrom_9 ?_
  refine aw_getI dX2_copyFrom_10 fI_2_9 hty.1 (by omega) (show _ = g 4 from (sH_out (by omega)).trans (hR.1 1 (by unfold isI; omega))) ?_
  refine aw_putI dX2_copyFrom_13 fP_2_9 hc.t hc.l ?_
  refine AW.eqs (sW_i (j := 1) (by unfold isI; omega)) ?_
  refine aw_aload0 dX2_copyFrom_16 ?_
  refine aw_aload1 dX2_copyFrom_17 ?_
  refine aw_getI dX2_copyFrom_18 fI_2_36 hty.1 (by omega) (show _ = g 1 from (sH_out (by omega)).trans (hR.1 3 (by unfold isI; omega))) ?_
  refine aw_putI dX2_copyFrom_21 fP_2_36 hc.t hc.l ?_
  refine AW.eqs (sW_i (j := 3) (by unfold isI; omega)) ?_
  refine aw_iconst (v := 0) dX2_copyFrom_24 (by decide) ?_
  refine aw_istore2 dX2_copyFrom_25 (by decide) rfl ?_
  exact L26 (nr + 1) 0 (Nat.zero_le _) (by omega)
