/-! the law: calls that are refused change nothing -/
theorem goes_Z {g : Rw} {nr ng nb t b : Nat} (hw : WF g nr ng nb t) (ht : t ≤ 1000) (hb : b < nb) (h : goesP g b) : zz g (31 + 10 * b + 9) = 0 ∧ (t : Int) ≤ zz g (31 + 10 * b + 2) := by
  refine ⟨by rw [zz, h.1]; decide, ?_⟩
  have := Int32.le_iff_toInt_le.mp h.2
  have e : (g 0).toInt = (t : Int) := zz_nI hw.hr (by omega)
  rw [e] at this
  exact this
def GW (g : Rw) : Prop := WK g (rn g) (gn g) (bn g) (tn g) ∧ tn g ≤ 240

set_option maxHeartbeats 16000000 in
theorem k_errors {σ : Sg} {s : AS} (hI : CI σ s) (hG : GW (stG s)) : Ct yL_errors cL_errors mL_errors 11 6400 38400 NN false σ [.ref 0] NN (rI fun τ y0 => CI τ s ∧ iI 1 = y0) XF := by
  refine ct_of (ls0 := [some (.ref 0), none, none, none, none, none, none, none, none, none, none]) 10 (by decide +kernel) rfl rfl (ndR nd0) rfl (Nat.le_of_ble_eq_true rfl) (fun K => ?_)
  obtain ⟨hr4, hg6, hb12, ht⟩ := hI.nums
  have hW := hG.1
  have hw := hW.wf
  obtain ⟨ab0, ab1, ab2, ab3⟩ := aboutV_n hw (by omega)
  have J706 : ∀ (k i : Nat) (h1 : i ≤ rn (stG s)) (h2 : rn (stG s) - i < k) (τ : Sg) (h : CI τ s) (cells slots : Nat) (hb : cells + 8 * (336 + 2 * (rn (stG s) - i)) ≤ 6400) (hs : slots + 48 * (336 + 2 * (rn (stG s) - i)) ≤ 38400), AW K yL_errors.cls cL_errors mL_errors 11 6400 38400 (Qm K NN (rI fun τ y0 => CI τ s ∧ iI 1 = y0) XF 6400 38400) NN none τ cells slots 706 [some (.ref 0), some (.long (nowV (stG s))), none, some (.int (iI ((tn (stG s) : Int)))), some (.int (iI ((rn (stG s) : Int)))), some (.int (iI ((gn (stG s) : Int)))), some (.int (iI ((bn (stG s) : Int)))), some (.int (iI (1))), some (.int (iI ((i : Int)))), none, none] [] := by
    intro k
    induction k with
    | zero => intro i h1 h2; exact absurd h2 (Nat.not_lt_zero _)
    | succ k ih =>
      intro i h1 h2 τ h cells slots hb hs
      refine aw_iload8 dL_errors_706 ?_
      refine aw_iload4 dL_errors_708 ?_
      refine ai_ic_ge (tgt := 759) dL_errors_710 (by decide) (by omega) (by omega) (by omega) (by omega) (fun c_710 => ?_) (fun c_710 => ?_)
      · refine aw_iload7 dL_errors_759 ?_
        refine ai_if_eq (tgt := 854) dL_errors_761 (by decide) (by omega) (by omega) (fun c_761 => absurd c_761 (by decide)) (fun _ => ?_)
        refine aw_aload0 dL_errors_764 ?_
        refine aw_iconst (v := iI (0)) dL_errors_765 rfl ?_
        refine aw_lconst (v := lI (0)) dL_errors_766 (by decide) ?_
        refine ac_SH (As := [.ref 0, .int (iI (0)), .long (lI (0))]) (qL_script h _ _) dL_errors_767 sl_L_153 (by decide) (Nat.le_of_ble_eq_true rfl) hb hs (B2 := 6408) (B2' := 38448) rfl rfl (by omega) (by omega) (fun τ_767 r_767 c_ s_ h_767 hb_ hs_ => ?_)
        replace hb := hb_
        replace hs := hs_
        clear hb_ hs_
        obtain ⟨v_767, rfl, i_767, e_767⟩ := h_767
        obtain rfl : kA = v_767 := (script_0.symm.trans e_767)
        refine aw_ldc2 (v := kA) dL_errors_770 kl_L_17 ?_
        refine al_if_ne (tgt := 854) dL_errors_773 dL_errors_774 (by decide) (fun c_773 => absurd rfl c_773) (fun _ => ?_)
        refine aw_aload0 dL_errors_777 ?_
        refine aw_iconst (v := iI (3)) dL_errors_778 rfl ?_
        refine aw_ldc2 (v := lI (1000000000000000)) dL_errors_779 kx_L_157 ?_
        refine ac_SH (As := [.ref 0, .int (iI (3)), .long (lI (1000000000000000))]) (qL_script i_767 _ _) dL_errors_782 sl_L_153 (by decide) (Nat.le_of_ble_eq_true rfl) hb hs (B2 := 6416) (B2' := 38496) rfl rfl (by omega) (by omega) (fun τ_782 r_782 c_ s_ h_782 hb_ hs_ => ?_)
        replace hb := hb_
        replace hs := hs_
        clear hb_ hs_
        obtain ⟨v_782, rfl, i_782, e_782⟩ := h_782
        obtain rfl : kA = v_782 := (script_3.symm.trans e_782)
        refine aw_ldc2 (v := kA) dL_errors_785 kl_L_17 ?_
        refine al_if_ne (tgt := 854) dL_errors_788 dL_errors_789 (by decide) (fun c_788 => absurd rfl c_788) (fun _ => ?_)
        refine aw_aload0 dL_errors_792 ?_
        refine aw_lconst (v := lI (1)) dL_errors_793 (by decide) ?_
        refine aw_iconst (v := iI (0)) dL_errors_794 rfl ?_
        refine ac_SH (As := [.ref 0, .long (lI (1)), .int (iI (0))]) (qL_simulate i_782 _ _) dL_errors_795 sl_L_159 (by decide) (Nat.le_of_ble_eq_true rfl) hb hs (B2 := 6424) (B2' := 38544) rfl rfl (by omega) (by omega) (fun τ_795 r_795 c_ s_ h_795 hb_ hs_ => ?_)
        replace hb := hb_
        replace hs := hs_
        clear hb_ hs_
        obtain ⟨v_795, rfl, i_795, e_795⟩ := h_795
        obtain rfl : kA = v_795 := (simulate_x.symm.trans e_795)
        refine aw_ldc2 (v := kA) dL_errors_798 kl_L_17 ?_
        refine al_if_ne (tgt := 854) dL_errors_801 dL_errors_802 (by decide) (fun c_801 => absurd rfl c_801) (fun _ => ?_)
        refine aw_aload0 dL_errors_805 ?_
        refine aw_iconst (v := iI (2)) dL_errors_806 rfl ?_
        refine ac_SH (As := [.ref 0, .int (iI (2))]) (rL_save i_795 _ (kc := 1) (cd1_1 (by decide)).symm (by decide)) dL_errors_807 sl_L_162 (by decide) (Nat.le_of_ble_eq_true rfl) hb hs (B2 := 6432) (B2' := 38592) rfl rfl (by omega) (by omega) (fun τ_807 r_807 c_ s_ h_807 hb_ hs_ => ?_)
        replace hb := hb_
        replace hs := hs_
        clear hb_ hs_
        obtain ⟨v_807, rfl, i_807, e_807⟩ := h_807
        obtain rfl : kI = v_807 := ((show _ = _ from rfl).trans e_807)
        refine aw_ldc2 (v := kI) dL_errors_810 kl_L_36 ?_
        refine al_if_ne (tgt := 854) dL_errors_813 dL_errors_814 (by decide) (fun c_813 => absurd rfl c_813) (fun _ => ?_)
        refine aw_aload0 dL_errors_817 ?_
        refine aw_iconst (v := iI (2)) dL_errors_818 rfl ?_
        refine ac_SH (As := [.ref 0, .int (iI (2))]) (rL_restore i_807 _ (kc := 1) (cd2_1 (by decide)).symm (by decide)) dL_errors_819 sl_L_164 (by decide) (Nat.le_of_ble_eq_true rfl) hb hs (B2 := 6440) (B2' := 38640) rfl rfl (by omega) (by omega) (fun τ_819 r_819 c_ s_ h_819 hb_ hs_ => ?_)
        replace hb := hb_
        replace hs := hs_
        clear hb_ hs_
        obtain ⟨v_819, rfl, i_819, e_819⟩ := h_819
        obtain rfl : kI = v_819 := ((show _ = _ from rfl).trans e_819)
        refine aw_ldc2 (v := kI) dL_errors_822 kl_L_36 ?_
        refine al_if_ne (tgt := 854) dL_errors_825 dL_errors_826 (by decide) (fun c_825 => absurd rfl c_825) (fun _ => ?_)
        refine aw_aload0 dL_errors_829 ?_
        refine aw_iconst (v := iI (-1)) dL_errors_830 rfl ?_
        refine ac_SH (As := [.ref 0, .int (iI (-1))]) (rL_append i_819 _ (kc := 1) (cd2_1 (by decide)).symm (by decide)) dL_errors_831 sl_L_166 (by decide) (Nat.le_of_ble_eq_true rfl) hb hs (B2 := 6448) (B2' := 38688) rfl rfl (by omega) (by omega) (fun τ_831 r_831 c_ s_ h_831 hb_ hs_ => ?_)
        replace hb := hb_
        replace hs := hs_
        clear hb_ hs_
        obtain ⟨v_831, rfl, i_831, e_831⟩ := h_831
        obtain rfl : kA = v_831 := ((show _ = _ from rfl).trans e_831)
        refine aw_ldc2 (v := kA) dL_errors_834 kl_L_17 ?_
        refine al_if_ne (tgt := 854) dL_errors_837 dL_errors_838 (by decide) (fun c_837 => absurd rfl c_837) (fun _ => ?_)
        refine aw_aload0 dL_errors_841 ?_
        refine ac_S (As := [.ref 0]) (k_now i_831) dL_errors_842 sl_L_120 (by decide) (Nat.le_of_ble_eq_true rfl) hb hs (B2 := 9016) (B2' := 54096) rfl rfl (by omega) (by omega) (fun τ_842 r_842 c_ s_ h_842 hb_ hs_ => ?_)
        replace hb := hb_
        replace hs := hs_
        clear hb_ hs_
        obtain ⟨v_842, rfl, i_842, e_842⟩ := h_842
        obtain rfl : (nowV (stG s)) = v_842 := e_842
        refine aw_lload1 dL_errors_845 ?_
        refine al_if_ne (tgt := 854) dL_errors_846 dL_errors_847 (by decide) (fun c_846 => absurd rfl c_846) (fun _ => ?_)
        refine aw_iconst (v := iI (1)) dL_errors_850 rfl ?_
        refine aw_goto (tgt := 855) dL_errors_851 (by decide) ?_
        exact aw_zret dL_errors_855 rfl (by decide) ⟨by omega, by omega⟩ ⟨_, rfl, i_842, rfl⟩
      · refine aw_iload7 dL_errors_713 ?_
        refine ai_if_eq (tgt := 759) dL_errors_715 (by decide) (by omega) (by omega) (fun c_715 => absurd c_715 (by decide)) (fun _ => ?_)
        refine aw_aload0 dL_errors_718 ?_
        refine aw_iload8 dL_errors_719 ?_
        refine aw_iconst (v := iI (4)) dL_errors_721 rfl ?_
        refine ac_SH (As := [.ref 0, .int (iI ((i : Int))), .int (iI (4))]) (qL_room h _ _) dL_errors_722 sl_L_111 (by decide) (Nat.le_of_ble_eq_true rfl) hb hs (B2 := 6408) (B2' := 38448) rfl rfl (by omega) (by omega) (fun τ_722 r_722 c_ s_ h_722 hb_ hs_ => ?_)
        replace hb := hb_
        replace hs := hs_
        clear hb_ hs_
        obtain ⟨v_722, rfl, i_722, e_722⟩ := h_722
        obtain rfl : (lI (oZ (fCur (stG s) i (bn (stG s))))) = v_722 := (((room_v (r := i) (k := 4) (by omega) (by omega) rfl rfl (by omega)).trans (oI_Z (fun b hb => by have := fCur_lt hb; omega))).symm.trans e_722)
        have o_722 := oZ_b (x := fCur (stG s) i (bn (stG s))) (n := bn (stG s)) (fun b hb => fCur_lt hb)
        refine aw_ldc2 (v := lI (-99)) dL_errors_725 kx_L_151 ?_
        refine ai_lif_ne (tgt := 746) dL_errors_728 dL_errors_729 (by decide) (by omega) (by omega) (by omega) (by omega) (fun c_728 => ?_) (fun c_728 => ?_)
        · refine aw_iconst (v := iI (1)) dL_errors_746 rfl ?_
          refine aw_goto (tgt := 751) dL_errors_747 (by decide) ?_
          refine aw_istore7 dL_errors_751 (Nat.le_of_ble_eq_true rfl) rfl ?_
          refine aw_iinc8 (w := (iI (((i + 1 : Nat) : Int)))) dL_errors_753 (iinc_N rfl) (Nat.le_of_ble_eq_true rfl) rfl ?_
          refine aw_goto (tgt := 706) dL_errors_756 (by decide) ?_
          exact ih (i + 1) (by omega) (by omega) _ i_722 _ _ (by omega) (by omega)
        · refine aw_aload0 dL_errors_732 ?_
          refine aw_iload8 dL_errors_733 ?_
          refine aw_iconst (v := iI (0)) dL_errors_735 rfl ?_
          refine ac_SH (As := [.ref 0, .int (iI ((i : Int))), .int (iI (0))]) (rL_prove i_722 _ _ (Or.inl (by decide)) (kc := 2) (cd2_2 (isN_of (by omega)) (fun ⟨b, z⟩ => by rw [cN_iI (by omega)] at z; rw [z] at c_728; have h9 : oZ (some b) = (b : Int) := rfl; omega)).symm (by decide)) dL_errors_736 sl_L_138 (by decide) (Nat.le_of_ble_eq_true rfl) hb hs (B2 := 6416) (B2' := 38496) rfl rfl (by omega) (by omega) (fun τ_736 r_736 c_ s_ h_736 hb_ hs_ => ?_)
          replace hb := hb_
          replace hs := hs_
          clear hb_ hs_
          obtain ⟨v_736, rfl, i_736, e_736⟩ := h_736
          obtain rfl : kS_ = v_736 := ((show _ = _ from rfl).trans e_736)
          refine aw_ldc2 (v := kS_) dL_errors_739 kl_L_21 ?_
          refine al_if_ne (tgt := 750) dL_errors_742 dL_errors_743 (by decide) (fun c_742 => absurd rfl c_742) (fun _ => ?_)
          refine aw_iconst (v := iI (1)) dL_errors_746 rfl ?_
          refine aw_goto (tgt := 751) dL_errors_747 (by decide) ?_
          refine aw_istore7 dL_errors_751 (Nat.le_of_ble_eq_true rfl) rfl ?_
          refine aw_iinc8 (w := (iI (((i + 1 : Nat) : Int)))) dL_errors_753 (iinc_N rfl) (Nat.le_of_ble_eq_true rfl) rfl ?_
          refine aw_goto (tgt := 706) dL_errors_756 (by decide) ?_
          exact ih (i + 1) (by omega) (by omega) _ i_736 _ _ (by omega) (by omega)
  have J571 : ∀ (k i : Nat) (h1 : i ≤ bn (stG s)) (h2 : bn (stG s) - i < k) (τ : Sg) (h : CI τ s) (cells slots : Nat) (hb : cells + 8 * (336 + 6 * (bn (stG s) - i) + 2 * rn (stG s)) ≤ 6400) (hs : slots + 48 * (336 + 6 * (bn (stG s) - i) + 2 * rn (stG s)) ≤ 38400), AW K yL_errors.cls cL_errors mL_errors 11 6400 38400 (Qm K NN (rI fun τ y0 => CI τ s ∧ iI 1 = y0) XF 6400 38400) NN none τ cells slots 571 [some (.ref 0), some (.long (nowV (stG s))), none, some (.int (iI ((tn (stG s) : Int)))), some (.int (iI ((rn (stG s) : Int)))), some (.int (iI ((gn (stG s) : Int)))), some (.int (iI ((bn (stG s) : Int)))), some (.int (iI (1))), some (.int (iI ((i : Int)))), none, none] [] := by
    intro k
    induction k with
    | zero => intro i h1 h2; exact absurd h2 (Nat.not_lt_zero _)
    | succ k ih =>
      intro i h1 h2 τ h cells slots hb hs
      refine aw_iload8 dL_errors_571 ?_
      refine aw_iload6 dL_errors_573 ?_
      refine ai_ic_ge (tgt := 703) dL_errors_575 (by decide) (by omega) (by omega) (by omega) (by omega) (fun c_575 => ?_) (fun c_575 => ?_)
      · refine aw_iconst (v := iI (0)) dL_errors_703 rfl ?_
        refine aw_istore8 dL_errors_704 (Nat.le_of_ble_eq_true rfl) rfl ?_
        exact J706 _ 0 (Nat.zero_le _) (Nat.lt_succ_self _) _ h _ _ (by omega) (by omega)
      · have hin : i < bn (stG s) := by omega
        obtain ⟨k0, k1, k2, k3, k4, k5, k6, k7, k8, k9, k10, k11⟩ := bk_Z hW (by omega) hin
        refine aw_iload7 dL_errors_578 ?_
        refine ai_if_eq (tgt := 703) dL_errors_580 (by decide) (by omega) (by omega) (fun c_580 => absurd c_580 (by decide)) (fun _ => ?_)
        refine aw_aload0 dL_errors_583 ?_
        refine aw_iload8 dL_errors_584 ?_
        refine aw_iconst (v := iI (0)) dL_errors_586 rfl ?_
        refine ac_SH (As := [.ref 0, .int (iI ((i : Int))), .int (iI (0))]) (qL_booking h _ _) dL_errors_587 sl_L_118 (by decide) (Nat.le_of_ble_eq_true rfl) hb hs (B2 := 6408) (B2' := 38448) rfl rfl (by omega) (by omega) (fun τ_587 r_587 c_ s_ h_587 hb_ hs_ => ?_)
        replace hb := hb_
        replace hs := hs_
        clear hb_ hs_
        obtain ⟨v_587, rfl, i_587, e_587⟩ := h_587
        obtain rfl : (lI (zz (stG s) (31 + 10 * i + 0))) = v_587 := (((booking_v (b := i) (k := 0) (by omega) (by omega) rfl rfl (by omega)).trans (bookV_Z (by omega))).symm.trans e_587)
        refine ai_l2i dL_errors_590 ?_
        refine aw_istore9 dL_errors_591 (Nat.le_of_ble_eq_true rfl) rfl ?_
        refine aw_aload0 dL_errors_593 ?_
        refine aw_iload8 dL_errors_594 ?_
        refine aw_iconst (v := iI (2)) dL_errors_596 rfl ?_
        refine ac_SH (As := [.ref 0, .int (iI ((i : Int))), .int (iI (2))]) (qL_booking i_587 _ _) dL_errors_597 sl_L_118 (by decide) (Nat.le_of_ble_eq_true rfl) hb hs (B2 := 6416) (B2' := 38496) rfl rfl (by omega) (by omega) (fun τ_597 r_597 c_ s_ h_597 hb_ hs_ => ?_)
        replace hb := hb_
        replace hs := hs_
        clear hb_ hs_
        obtain ⟨v_597, rfl, i_597, e_597⟩ := h_597
        obtain rfl : (lI (zz (stG s) (31 + 10 * i + 2))) = v_597 := (((booking_v (b := i) (k := 2) (by omega) (by omega) rfl rfl (by omega)).trans (bookV_Z (by omega))).symm.trans e_597)
        refine ai_l2i dL_errors_600 ?_
        refine aw_istore10 dL_errors_601 (Nat.le_of_ble_eq_true rfl) rfl ?_
        refine aw_iload10 dL_errors_603 ?_
        refine aw_iload3 dL_errors_605 ?_
        refine ai_ic_lt (tgt := 647) dL_errors_606 (by decide) (by omega) (by omega) (by omega) (by omega) (fun c_606 => ?_) (fun c_606 => ?_)
        · refine aw_iconst (v := iI (1)) dL_errors_647 rfl ?_
          refine aw_goto (tgt := 652) dL_errors_648 (by decide) ?_
          refine aw_istore7 dL_errors_652 (Nat.le_of_ble_eq_true rfl) rfl ?_
          refine aw_iload7 dL_errors_654 ?_
          refine ai_if_eq (tgt := 694) dL_errors_656 (by decide) (by omega) (by omega) (fun c_656 => absurd c_656 (by decide)) (fun _ => ?_)
          refine aw_aload0 dL_errors_659 ?_
          refine aw_iload8 dL_errors_660 ?_
          refine aw_iconst (v := iI (5)) dL_errors_662 rfl ?_
          refine ac_SH (As := [.ref 0, .int (iI ((i : Int))), .int (iI (5))]) (qL_booking i_597 _ _) dL_errors_663 sl_L_118 (by decide) (Nat.le_of_ble_eq_true rfl) hb hs (B2 := 6424) (B2' := 38544) rfl rfl (by omega) (by omega) (fun τ_663 r_663 c_ s_ h_663 hb_ hs_ => ?_)
          replace hb := hb_
          replace hs := hs_
          clear hb_ hs_
          obtain ⟨v_663, rfl, i_663, e_663⟩ := h_663
          obtain rfl : (lI (zz (stG s) (31 + 10 * i + 5))) = v_663 := (((booking_v (b := i) (k := 5) (by omega) (by omega) rfl rfl (by omega)).trans (bookV_Z (by omega))).symm.trans e_663)
          refine aw_lconst (v := lI (0)) dL_errors_666 (by decide) ?_
          refine ai_lif_ne (tgt := 677) dL_errors_667 dL_errors_668 (by decide) (by omega) (by omega) (by omega) (by omega) (fun c_667 => ?_) (fun c_667 => ?_)
          · refine aw_aload0 dL_errors_677 ?_
            refine aw_iload8 dL_errors_678 ?_
            refine ac_SH (As := [.ref 0, .int (iI ((i : Int)))]) (rL_cancel i_663 _ (kc := 2) (cd2_2 (isN_of (by omega)) (fun z => by have := goes_Z hw (by omega) hin (by rw [cN_iI (by omega)] at z; exact z); omega)).symm (by decide)) dL_errors_680 sl_L_136 (by decide) (Nat.le_of_ble_eq_true rfl) hb hs (B2 := 6432) (B2' := 38592) rfl rfl (by omega) (by omega) (fun τ_680 r_680 c_ s_ h_680 hb_ hs_ => ?_)
            replace hb := hb_
            replace hs := hs_
            clear hb_ hs_
            obtain ⟨v_680, rfl, i_680, e_680⟩ := h_680
            obtain rfl : kS_ = v_680 := ((show _ = _ from rfl).trans e_680)
            refine aw_ldc2 (v := kS_) dL_errors_683 kl_L_21 ?_
            refine al_if_ne (tgt := 694) dL_errors_686 dL_errors_687 (by decide) (fun c_686 => absurd rfl c_686) (fun _ => ?_)
            refine aw_iconst (v := iI (1)) dL_errors_690 rfl ?_
            refine aw_goto (tgt := 695) dL_errors_691 (by decide) ?_
            refine aw_istore7 dL_errors_695 (Nat.le_of_ble_eq_true rfl) rfl ?_
            refine aw_iinc8 (w := (iI (((i + 1 : Nat) : Int)))) dL_errors_697 (iinc_N rfl) (Nat.le_of_ble_eq_true rfl) rfl ?_
            refine aw_goto (tgt := 571) dL_errors_700 (by decide) ?_
            refine AW.loc (ls' := [some (.ref 0), some (.long (nowV (stG s))), none, some (.int (iI ((tn (stG s) : Int)))), some (.int (iI ((rn (stG s) : Int)))), some (.int (iI ((gn (stG s) : Int)))), some (.int (iI ((bn (stG s) : Int)))), some (.int (iI (1))), some (.int (iI (((i + 1 : Nat) : Int)))), none, none]) (loc_c (loc_c (loc_n (loc_c (loc_c (loc_c (loc_c (loc_c (loc_c (loc_n (loc_n loc_r))))))))))) ?_
            exact ih (i + 1) (by omega) (by omega) _ i_680 _ _ (by omega) (by omega)
          · refine aw_iload10 dL_errors_671 ?_
            refine aw_iload3 dL_errors_673 ?_
            refine ai_ic_ge (tgt := 690) dL_errors_674 (by decide) (by omega) (by omega) (by omega) (by omega) (fun c_674 => ?_) (fun c_674 => ?_)
            · refine aw_iconst (v := iI (1)) dL_errors_690 rfl ?_
              refine aw_goto (tgt := 695) dL_errors_691 (by decide) ?_
              refine aw_istore7 dL_errors_695 (Nat.le_of_ble_eq_true rfl) rfl ?_
              refine aw_iinc8 (w := (iI (((i + 1 : Nat) : Int)))) dL_errors_697 (iinc_N rfl) (Nat.le_of_ble_eq_true rfl) rfl ?_
              refine aw_goto (tgt := 571) dL_errors_700 (by decide) ?_
              refine AW.loc (ls' := [some (.ref 0), some (.long (nowV (stG s))), none, some (.int (iI ((tn (stG s) : Int)))), some (.int (iI ((rn (stG s) : Int)))), some (.int (iI ((gn (stG s) : Int)))), some (.int (iI ((bn (stG s) : Int)))), some (.int (iI (1))), some (.int (iI (((i + 1 : Nat) : Int)))), none, none]) (loc_c (loc_c (loc_n (loc_c (loc_c (loc_c (loc_c (loc_c (loc_c (loc_n (loc_n loc_r))))))))))) ?_
              exact ih (i + 1) (by omega) (by omega) _ i_663 _ _ (by omega) (by omega)
            · refine aw_aload0 dL_errors_677 ?_
              refine aw_iload8 dL_errors_678 ?_
              refine ac_SH (As := [.ref 0, .int (iI ((i : Int)))]) (rL_cancel i_663 _ (kc := 2) (cd2_2 (isN_of (by omega)) (fun z => by have := goes_Z hw (by omega) hin (by rw [cN_iI (by omega)] at z; exact z); omega)).symm (by decide)) dL_errors_680 sl_L_136 (by decide) (Nat.le_of_ble_eq_true rfl) hb hs (B2 := 6432) (B2' := 38592) rfl rfl (by omega) (by omega) (fun τ_680 r_680 c_ s_ h_680 hb_ hs_ => ?_)
              replace hb := hb_
              replace hs := hs_
              clear hb_ hs_
              obtain ⟨v_680, rfl, i_680, e_680⟩ := h_680
              obtain rfl : kS_ = v_680 := ((show _ = _ from rfl).trans e_680)
              refine aw_ldc2 (v := kS_) dL_errors_683 kl_L_21 ?_
              refine al_if_ne (tgt := 694) dL_errors_686 dL_errors_687 (by decide) (fun c_686 => absurd rfl c_686) (fun _ => ?_)
              refine aw_iconst (v := iI (1)) dL_errors_690 rfl ?_
              refine aw_goto (tgt := 695) dL_errors_691 (by decide) ?_
              refine aw_istore7 dL_errors_695 (Nat.le_of_ble_eq_true rfl) rfl ?_
              refine aw_iinc8 (w := (iI (((i + 1 : Nat) : Int)))) dL_errors_697 (iinc_N rfl) (Nat.le_of_ble_eq_true rfl) rfl ?_
              refine aw_goto (tgt := 571) dL_errors_700 (by decide) ?_
              refine AW.loc (ls' := [some (.ref 0), some (.long (nowV (stG s))), none, some (.int (iI ((tn (stG s) : Int)))), some (.int (iI ((rn (stG s) : Int)))), some (.int (iI ((gn (stG s) : Int)))), some (.int (iI ((bn (stG s) : Int)))), some (.int (iI (1))), some (.int (iI (((i + 1 : Nat) : Int)))), none, none]) (loc_c (loc_c (loc_n (loc_c (loc_c (loc_c (loc_c (loc_c (loc_c (loc_n (loc_n loc_r))))))))))) ?_
              exact ih (i + 1) (by omega) (by omega) _ i_680 _ _ (by omega) (by omega)
        · refine aw_aload0 dL_errors_609 ?_
          refine aw_iload9 dL_errors_610 ?_
          refine aw_iconst (v := iI (0)) dL_errors_612 rfl ?_
          refine aw_iload10 dL_errors_613 ?_
          refine aw_iconst (v := iI (1)) dL_errors_615 rfl ?_
          refine aw_bipush (v := iI (20)) dL_errors_616 (by decide) ?_
          refine ac_SH (As := [.ref 0, .int (iI (zz (stG s) (31 + 10 * i + 0))), .int (iI (0)), .int (iI (zz (stG s) (31 + 10 * i + 2))), .int (iI (1)), .int (iI (20))]) (rL_book i_597 _ _ _ _ _ (kc := 3) (cd3_3 ⟨(isN_of (by omega)), (isN_of (by omega))⟩ ((sound_N hw (by omega) (by omega) (by omega) (by omega) (by omega) (by omega) (by omega)).mpr (by omega)) (fun z => notfree hw hin z.2)).symm (by decide)) dL_errors_618 sl_L_131 (by decide) (Nat.le_of_ble_eq_true rfl) hb hs (B2 := 6424) (B2' := 38544) rfl rfl (by omega) (by omega) (fun τ_618 r_618 c_ s_ h_618 hb_ hs_ => ?_)
          replace hb := hb_
          replace hs := hs_
          clear hb_ hs_
          obtain ⟨v_618, rfl, i_618, e_618⟩ := h_618
          obtain rfl : kS_ = v_618 := ((show _ = _ from rfl).trans e_618)
          refine aw_ldc2 (v := kS_) dL_errors_621 kl_L_21 ?_
          refine al_if_ne (tgt := 651) dL_errors_624 dL_errors_625 (by decide) (fun c_624 => absurd rfl c_624) (fun _ => ?_)
          refine aw_aload0 dL_errors_628 ?_
          refine aw_iload9 dL_errors_629 ?_
          refine aw_iconst (v := iI (0)) dL_errors_631 rfl ?_
          refine aw_iload10 dL_errors_632 ?_
          refine aw_iconst (v := iI (1)) dL_errors_634 rfl ?_
          refine aw_bipush (v := iI (20)) dL_errors_635 (by decide) ?_
          refine ac_SH (As := [.ref 0, .int (iI (zz (stG s) (31 + 10 * i + 0))), .int (iI (0)), .int (iI (zz (stG s) (31 + 10 * i + 2))), .int (iI (1)), .int (iI (20))]) (qL_cost i_618 _ _ _ _ _) dL_errors_637 sl_L_134 (by decide) (Nat.le_of_ble_eq_true rfl) hb hs (B2 := 6432) (B2' := 38592) rfl rfl (by omega) (by omega) (fun τ_637 r_637 c_ s_ h_637 hb_ hs_ => ?_)
          replace hb := hb_
          replace hs := hs_
          clear hb_ hs_
          obtain ⟨v_637, rfl, i_637, e_637⟩ := h_637
          obtain rfl : (lI (-99)) = v_637 := ((cost_n ⟨(isN_of (by omega)), (isN_of (by omega))⟩ ((sound_N hw (by omega) (by omega) (by omega) (by omega) (by omega) (by omega) (by omega)).mpr (by omega)) (fun z => notfree hw hin z.2)).symm.trans e_637)
          refine aw_ldc2 (v := lI (-99)) dL_errors_640 kx_L_151 ?_
          refine ai_lif_ne (tgt := 651) dL_errors_643 dL_errors_644 (by decide) (by omega) (by omega) (by omega) (by omega) (fun c_643 => absurd c_643 (by decide)) (fun _ => ?_)
          refine aw_iconst (v := iI (1)) dL_errors_647 rfl ?_
          refine aw_goto (tgt := 652) dL_errors_648 (by decide) ?_
          refine aw_istore7 dL_errors_652 (Nat.le_of_ble_eq_true rfl) rfl ?_
          refine aw_iload7 dL_errors_654 ?_
          refine ai_if_eq (tgt := 694) dL_errors_656 (by decide) (by omega) (by omega) (fun c_656 => absurd c_656 (by decide)) (fun _ => ?_)
          refine aw_aload0 dL_errors_659 ?_
          refine aw_iload8 dL_errors_660 ?_
          refine aw_iconst (v := iI (5)) dL_errors_662 rfl ?_
          refine ac_SH (As := [.ref 0, .int (iI ((i : Int))), .int (iI (5))]) (qL_booking i_637 _ _) dL_errors_663 sl_L_118 (by decide) (Nat.le_of_ble_eq_true rfl) hb hs (B2 := 6440) (B2' := 38640) rfl rfl (by omega) (by omega) (fun τ_663 r_663 c_ s_ h_663 hb_ hs_ => ?_)
          replace hb := hb_
          replace hs := hs_
          clear hb_ hs_
          obtain ⟨v_663, rfl, i_663, e_663⟩ := h_663
          obtain rfl : (lI (zz (stG s) (31 + 10 * i + 5))) = v_663 := (((booking_v (b := i) (k := 5) (by omega) (by omega) rfl rfl (by omega)).trans (bookV_Z (by omega))).symm.trans e_663)
          refine aw_lconst (v := lI (0)) dL_errors_666 (by decide) ?_
          refine ai_lif_ne (tgt := 677) dL_errors_667 dL_errors_668 (by decide) (by omega) (by omega) (by omega) (by omega) (fun c_667 => ?_) (fun c_667 => ?_)
          · refine aw_aload0 dL_errors_677 ?_
            refine aw_iload8 dL_errors_678 ?_
            refine ac_SH (As := [.ref 0, .int (iI ((i : Int)))]) (rL_cancel i_663 _ (kc := 2) (cd2_2 (isN_of (by omega)) (fun z => by have := goes_Z hw (by omega) hin (by rw [cN_iI (by omega)] at z; exact z); omega)).symm (by decide)) dL_errors_680 sl_L_136 (by decide) (Nat.le_of_ble_eq_true rfl) hb hs (B2 := 6448) (B2' := 38688) rfl rfl (by omega) (by omega) (fun τ_680 r_680 c_ s_ h_680 hb_ hs_ => ?_)
            replace hb := hb_
            replace hs := hs_
            clear hb_ hs_
            obtain ⟨v_680, rfl, i_680, e_680⟩ := h_680
            obtain rfl : kS_ = v_680 := ((show _ = _ from rfl).trans e_680)
            refine aw_ldc2 (v := kS_) dL_errors_683 kl_L_21 ?_
            refine al_if_ne (tgt := 694) dL_errors_686 dL_errors_687 (by decide) (fun c_686 => absurd rfl c_686) (fun _ => ?_)
            refine aw_iconst (v := iI (1)) dL_errors_690 rfl ?_
            refine aw_goto (tgt := 695) dL_errors_691 (by decide) ?_
            refine aw_istore7 dL_errors_695 (Nat.le_of_ble_eq_true rfl) rfl ?_
            refine aw_iinc8 (w := (iI (((i + 1 : Nat) : Int)))) dL_errors_697 (iinc_N rfl) (Nat.le_of_ble_eq_true rfl) rfl ?_
            refine aw_goto (tgt := 571) dL_errors_700 (by decide) ?_
            refine AW.loc (ls' := [some (.ref 0), some (.long (nowV (stG s))), none, some (.int (iI ((tn (stG s) : Int)))), some (.int (iI ((rn (stG s) : Int)))), some (.int (iI ((gn (stG s) : Int)))), some (.int (iI ((bn (stG s) : Int)))), some (.int (iI (1))), some (.int (iI (((i + 1 : Nat) : Int)))), none, none]) (loc_c (loc_c (loc_n (loc_c (loc_c (loc_c (loc_c (loc_c (loc_c (loc_n (loc_n loc_r))))))))))) ?_
            exact ih (i + 1) (by omega) (by omega) _ i_680 _ _ (by omega) (by omega)
          · refine aw_iload10 dL_errors_671 ?_
            refine aw_iload3 dL_errors_673 ?_
            refine ai_ic_ge (tgt := 690) dL_errors_674 (by decide) (by omega) (by omega) (by omega) (by omega) (fun c_674 => ?_) (fun c_674 => ?_)
            · refine aw_iconst (v := iI (1)) dL_errors_690 rfl ?_
              refine aw_goto (tgt := 695) dL_errors_691 (by decide) ?_
              refine aw_istore7 dL_errors_695 (Nat.le_of_ble_eq_true rfl) rfl ?_
              refine aw_iinc8 (w := (iI (((i + 1 : Nat) : Int)))) dL_errors_697 (iinc_N rfl) (Nat.le_of_ble_eq_true rfl) rfl ?_
              refine aw_goto (tgt := 571) dL_errors_700 (by decide) ?_
              refine AW.loc (ls' := [some (.ref 0), some (.long (nowV (stG s))), none, some (.int (iI ((tn (stG s) : Int)))), some (.int (iI ((rn (stG s) : Int)))), some (.int (iI ((gn (stG s) : Int)))), some (.int (iI ((bn (stG s) : Int)))), some (.int (iI (1))), some (.int (iI (((i + 1 : Nat) : Int)))), none, none]) (loc_c (loc_c (loc_n (loc_c (loc_c (loc_c (loc_c (loc_c (loc_c (loc_n (loc_n loc_r))))))))))) ?_
              exact ih (i + 1) (by omega) (by omega) _ i_663 _ _ (by omega) (by omega)
            · refine aw_aload0 dL_errors_677 ?_
              refine aw_iload8 dL_errors_678 ?_
              refine ac_SH (As := [.ref 0, .int (iI ((i : Int)))]) (rL_cancel i_663 _ (kc := 2) (cd2_2 (isN_of (by omega)) (fun z => by have := goes_Z hw (by omega) hin (by rw [cN_iI (by omega)] at z; exact z); omega)).symm (by decide)) dL_errors_680 sl_L_136 (by decide) (Nat.le_of_ble_eq_true rfl) hb hs (B2 := 6448) (B2' := 38688) rfl rfl (by omega) (by omega) (fun τ_680 r_680 c_ s_ h_680 hb_ hs_ => ?_)
              replace hb := hb_
              replace hs := hs_
              clear hb_ hs_
              obtain ⟨v_680, rfl, i_680, e_680⟩ := h_680
              obtain rfl : kS_ = v_680 := ((show _ = _ from rfl).trans e_680)
              refine aw_ldc2 (v := kS_) dL_errors_683 kl_L_21 ?_
              refine al_if_ne (tgt := 694) dL_errors_686 dL_errors_687 (by decide) (fun c_686 => absurd rfl c_686) (fun _ => ?_)
              refine aw_iconst (v := iI (1)) dL_errors_690 rfl ?_
              refine aw_goto (tgt := 695) dL_errors_691 (by decide) ?_
              refine aw_istore7 dL_errors_695 (Nat.le_of_ble_eq_true rfl) rfl ?_
              refine aw_iinc8 (w := (iI (((i + 1 : Nat) : Int)))) dL_errors_697 (iinc_N rfl) (Nat.le_of_ble_eq_true rfl) rfl ?_
              refine aw_goto (tgt := 571) dL_errors_700 (by decide) ?_
              refine AW.loc (ls' := [some (.ref 0), some (.long (nowV (stG s))), none, some (.int (iI ((tn (stG s) : Int)))), some (.int (iI ((rn (stG s) : Int)))), some (.int (iI ((gn (stG s) : Int)))), some (.int (iI ((bn (stG s) : Int)))), some (.int (iI (1))), some (.int (iI (((i + 1 : Nat) : Int)))), none, none]) (loc_c (loc_c (loc_n (loc_c (loc_c (loc_c (loc_c (loc_c (loc_c (loc_n (loc_n loc_r))))))))))) ?_
              exact ih (i + 1) (by omega) (by omega) _ i_680 _ _ (by omega) (by omega)
  have J568 : ∀ (τ : Sg) (h : CI τ s) (cells slots : Nat) (hb : cells + 8 * (0 + (336 + 6 * bn (stG s) + 2 * rn (stG s))) ≤ 6400) (hs : slots + 48 * (0 + (336 + 6 * bn (stG s) + 2 * rn (stG s))) ≤ 38400), AW K yL_errors.cls cL_errors mL_errors 11 6400 38400 (Qm K NN (rI fun τ y0 => CI τ s ∧ iI 1 = y0) XF 6400 38400) NN none τ cells slots 568 [some (.ref 0), some (.long (nowV (stG s))), none, some (.int (iI ((tn (stG s) : Int)))), some (.int (iI ((rn (stG s) : Int)))), some (.int (iI ((gn (stG s) : Int)))), some (.int (iI ((bn (stG s) : Int)))), some (.int (iI (1))), none, none, none] [] := by
    intro τ h cells slots hb hs
    refine aw_iconst (v := iI (0)) dL_errors_568 rfl ?_
    refine aw_istore8 dL_errors_569 (Nat.le_of_ble_eq_true rfl) rfl ?_
    exact J571 _ 0 (Nat.zero_le _) (Nat.lt_succ_self _) _ h _ _ (by omega) (by omega)
  have J561 : ∀ (τ : Sg) (h : CI τ s) (cells slots : Nat) (hb : cells + 8 * (1 + (336 + 6 * bn (stG s) + 2 * rn (stG s))) ≤ 6400) (hs : slots + 48 * (1 + (336 + 6 * bn (stG s) + 2 * rn (stG s))) ≤ 38400), AW K yL_errors.cls cL_errors mL_errors 11 6400 38400 (Qm K NN (rI fun τ y0 => CI τ s ∧ iI 1 = y0) XF 6400 38400) NN none τ cells slots 561 [some (.ref 0), some (.long (nowV (stG s))), none, some (.int (iI ((tn (stG s) : Int)))), some (.int (iI ((rn (stG s) : Int)))), some (.int (iI ((gn (stG s) : Int)))), some (.int (iI ((bn (stG s) : Int)))), some (.int (iI (1))), none, none, none] [] := by
    intro τ h cells slots hb hs
    refine aw_iconst (v := iI (1)) dL_errors_561 rfl ?_
    refine aw_goto (tgt := 566) dL_errors_562 (by decide) ?_
    refine aw_istore7 dL_errors_566 (Nat.le_of_ble_eq_true rfl) rfl ?_
    exact J568 _ h _ _ (by omega) (by omega)
  have J449 : ∀ (τ : Sg) (h : CI τ s) (cells slots : Nat) (hb : cells + 8 * (6 + (336 + 6 * bn (stG s) + 2 * rn (stG s))) ≤ 6400) (hs : slots + 48 * (6 + (336 + 6 * bn (stG s) + 2 * rn (stG s))) ≤ 38400), AW K yL_errors.cls cL_errors mL_errors 11 6400 38400 (Qm K NN (rI fun τ y0 => CI τ s ∧ iI 1 = y0) XF 6400 38400) NN none τ cells slots 449 [some (.ref 0), some (.long (nowV (stG s))), none, some (.int (iI ((tn (stG s) : Int)))), some (.int (iI ((rn (stG s) : Int)))), some (.int (iI ((gn (stG s) : Int)))), some (.int (iI ((bn (stG s) : Int)))), some (.int (iI (1))), none, none, none] [] := by
    intro τ h cells slots hb hs
    refine aw_iload4 dL_errors_449 ?_
    refine ai_if_le (tgt := 568) dL_errors_451 (by decide) (by omega) (by omega) (fun c_451 => ?_) (fun c_451 => ?_)
    · exact J568 _ h _ _ (by omega) (by omega)
    · refine aw_iload5 dL_errors_454 ?_
      refine ai_if_le (tgt := 568) dL_errors_456 (by decide) (by omega) (by omega) (fun c_456 => ?_) (fun c_456 => ?_)
      · exact J568 _ h _ _ (by omega) (by omega)
      · refine aw_iload7 dL_errors_459 ?_
        refine ai_if_eq (tgt := 565) dL_errors_461 (by decide) (by omega) (by omega) (fun c_461 => absurd c_461 (by decide)) (fun _ => ?_)
        refine aw_aload0 dL_errors_464 ?_
        refine aw_iconst (v := iI (0)) dL_errors_465 rfl ?_
        refine aw_iconst (v := iI (0)) dL_errors_466 rfl ?_
        refine aw_iload3 dL_errors_467 ?_
        refine aw_iconst (v := iI (1)) dL_errors_468 rfl ?_
        refine ai_isub dL_errors_469 ?_
        refine aw_iconst (v := iI (1)) dL_errors_470 rfl ?_
        refine aw_bipush (v := iI (20)) dL_errors_471 (by decide) ?_
        refine ac_SH (As := [.ref 0, .int (iI (0)), .int (iI (0)), .int (iI (((tn (stG s) : Int) - 1))), .int (iI (1)), .int (iI (20))]) (rL_book h _ _ _ _ _ (kc := 2) (cd3_2 ⟨(isN_of (by omega)), (isN_of (by omega))⟩ (fun z => by have := (sound_N hw (by omega) (by omega) (by omega) (by omega) (by omega) (by omega) (by omega)).mp z; omega)).symm (by decide)) dL_errors_473 sl_L_131 (by decide) (Nat.le_of_ble_eq_true rfl) hb hs (B2 := 6408) (B2' := 38448) rfl rfl (by omega) (by omega) (fun τ_473 r_473 c_ s_ h_473 hb_ hs_ => ?_)
        replace hb := hb_
        replace hs := hs_
        clear hb_ hs_
        obtain ⟨v_473, rfl, i_473, e_473⟩ := h_473
        obtain rfl : kA = v_473 := ((show _ = _ from rfl).trans e_473)
        refine aw_ldc2 (v := kA) dL_errors_476 kl_L_17 ?_
        refine al_if_ne (tgt := 565) dL_errors_479 dL_errors_480 (by decide) (fun c_479 => absurd rfl c_479) (fun _ => ?_)
        refine aw_aload0 dL_errors_483 ?_
        refine aw_iconst (v := iI (0)) dL_errors_484 rfl ?_
        refine aw_iconst (v := iI (0)) dL_errors_485 rfl ?_
        refine aw_sipush (v := iI (200)) dL_errors_486 (by decide) ?_
        refine aw_iconst (v := iI (1)) dL_errors_489 rfl ?_
        refine aw_bipush (v := iI (20)) dL_errors_490 (by decide) ?_
        refine ac_SH (As := [.ref 0, .int (iI (0)), .int (iI (0)), .int (iI (200)), .int (iI (1)), .int (iI (20))]) (rL_book i_473 _ _ _ _ _ (kc := 2) (cd3_2 ⟨(isN_of (by omega)), (isN_of (by omega))⟩ (fun z => by have := (sound_N hw (by omega) (by omega) (by omega) (by omega) (by omega) (by omega) (by omega)).mp z; omega)).symm (by decide)) dL_errors_492 sl_L_131 (by decide) (Nat.le_of_ble_eq_true rfl) hb hs (B2 := 6416) (B2' := 38496) rfl rfl (by omega) (by omega) (fun τ_492 r_492 c_ s_ h_492 hb_ hs_ => ?_)
        replace hb := hb_
        replace hs := hs_
        clear hb_ hs_
        obtain ⟨v_492, rfl, i_492, e_492⟩ := h_492
        obtain rfl : kA = v_492 := ((show _ = _ from rfl).trans e_492)
        refine aw_ldc2 (v := kA) dL_errors_495 kl_L_17 ?_
        refine al_if_ne (tgt := 565) dL_errors_498 dL_errors_499 (by decide) (fun c_498 => absurd rfl c_498) (fun _ => ?_)
        refine aw_iload3 dL_errors_502 ?_
        refine aw_sipush (v := iI (199)) dL_errors_503 (by decide) ?_
        refine ai_ic_gt (tgt := 561) dL_errors_506 (by decide) (by omega) (by omega) (by omega) (by omega) (fun c_506 => ?_) (fun c_506 => ?_)
        · exact J561 _ i_492 _ _ (by omega) (by omega)
        · refine aw_aload0 dL_errors_509 ?_
          refine aw_iconst (v := iI (0)) dL_errors_510 rfl ?_
          refine aw_iconst (v := iI (0)) dL_errors_511 rfl ?_
          refine aw_iload3 dL_errors_512 ?_
          refine aw_bipush (v := iI (13)) dL_errors_513 (by decide) ?_
          refine aw_bipush (v := iI (20)) dL_errors_515 (by decide) ?_
          refine ac_SH (As := [.ref 0, .int (iI (0)), .int (iI (0)), .int (iI ((tn (stG s) : Int))), .int (iI (13)), .int (iI (20))]) (rL_book i_492 _ _ _ _ _ (kc := 2) (cd3_2 ⟨(isN_of (by omega)), (isN_of (by omega))⟩ (fun z => by have := (sound_N hw (by omega) (by omega) (by omega) (by omega) (by omega) (by omega) (by omega)).mp z; omega)).symm (by decide)) dL_errors_517 sl_L_131 (by decide) (Nat.le_of_ble_eq_true rfl) hb hs (B2 := 6424) (B2' := 38544) rfl rfl (by omega) (by omega) (fun τ_517 r_517 c_ s_ h_517 hb_ hs_ => ?_)
          replace hb := hb_
          replace hs := hs_
          clear hb_ hs_
          obtain ⟨v_517, rfl, i_517, e_517⟩ := h_517
          obtain rfl : kA = v_517 := ((show _ = _ from rfl).trans e_517)
          refine aw_ldc2 (v := kA) dL_errors_520 kl_L_17 ?_
          refine al_if_ne (tgt := 565) dL_errors_523 dL_errors_524 (by decide) (fun c_523 => absurd rfl c_523) (fun _ => ?_)
          refine aw_aload0 dL_errors_527 ?_
          refine aw_iconst (v := iI (0)) dL_errors_528 rfl ?_
          refine aw_iconst (v := iI (0)) dL_errors_529 rfl ?_
          refine aw_iload3 dL_errors_530 ?_
          refine aw_iconst (v := iI (1)) dL_errors_531 rfl ?_
          refine aw_bipush (v := iI (11)) dL_errors_532 (by decide) ?_
          refine ac_SH (As := [.ref 0, .int (iI (0)), .int (iI (0)), .int (iI ((tn (stG s) : Int))), .int (iI (1)), .int (iI (11))]) (rL_book i_517 _ _ _ _ _ (kc := 2) (cd3_2 ⟨(isN_of (by omega)), (isN_of (by omega))⟩ (fun z => by have := (sound_N hw (by omega) (by omega) (by omega) (by omega) (by omega) (by omega) (by omega)).mp z; omega)).symm (by decide)) dL_errors_534 sl_L_131 (by decide) (Nat.le_of_ble_eq_true rfl) hb hs (B2 := 6432) (B2' := 38592) rfl rfl (by omega) (by omega) (fun τ_534 r_534 c_ s_ h_534 hb_ hs_ => ?_)
          replace hb := hb_
          replace hs := hs_
          clear hb_ hs_
          obtain ⟨v_534, rfl, i_534, e_534⟩ := h_534
          obtain rfl : kA = v_534 := ((show _ = _ from rfl).trans e_534)
          refine aw_ldc2 (v := kA) dL_errors_537 kl_L_17 ?_
          refine al_if_ne (tgt := 565) dL_errors_540 dL_errors_541 (by decide) (fun c_540 => absurd rfl c_540) (fun _ => ?_)
          refine aw_aload0 dL_errors_544 ?_
          refine aw_iconst (v := iI (0)) dL_errors_545 rfl ?_
          refine aw_iconst (v := iI (0)) dL_errors_546 rfl ?_
          refine aw_iload3 dL_errors_547 ?_
          refine aw_iconst (v := iI (0)) dL_errors_548 rfl ?_
          refine aw_bipush (v := iI (20)) dL_errors_549 (by decide) ?_
          refine ac_SH (As := [.ref 0, .int (iI (0)), .int (iI (0)), .int (iI ((tn (stG s) : Int))), .int (iI (0)), .int (iI (20))]) (qL_cost i_534 _ _ _ _ _) dL_errors_551 sl_L_134 (by decide) (Nat.le_of_ble_eq_true rfl) hb hs (B2 := 6440) (B2' := 38640) rfl rfl (by omega) (by omega) (fun τ_551 r_551 c_ s_ h_551 hb_ hs_ => ?_)
          replace hb := hb_
          replace hs := hs_
          clear hb_ hs_
          obtain ⟨v_551, rfl, i_551, e_551⟩ := h_551
          obtain rfl : kA = v_551 := ((cost_y ⟨(isN_of (by omega)), (isN_of (by omega))⟩ (fun z => by have := (sound_N hw (by omega) (by omega) (by omega) (by omega) (by omega) (by omega) (by omega)).mp z; omega)).symm.trans e_551)
          refine aw_ldc2 (v := kA) dL_errors_554 kl_L_17 ?_
          refine al_if_ne (tgt := 565) dL_errors_557 dL_errors_558 (by decide) (fun c_557 => absurd rfl c_557) (fun _ => ?_)
          exact J561 _ i_551 _ _ (by omega) (by omega)
  have J402 : ∀ (τ : Sg) (h : CI τ s) (cells slots : Nat) (hb : cells + 8 * (10 + (336 + 6 * bn (stG s) + 2 * rn (stG s))) ≤ 6400) (hs : slots + 48 * (10 + (336 + 6 * bn (stG s) + 2 * rn (stG s))) ≤ 38400), AW K yL_errors.cls cL_errors mL_errors 11 6400 38400 (Qm K NN (rI fun τ y0 => CI τ s ∧ iI 1 = y0) XF 6400 38400) NN none τ cells slots 402 [some (.ref 0), some (.long (nowV (stG s))), none, some (.int (iI ((tn (stG s) : Int)))), some (.int (iI ((rn (stG s) : Int)))), some (.int (iI ((gn (stG s) : Int)))), some (.int (iI ((bn (stG s) : Int)))), some (.int (iI (1))), none, none, none] [] := by
    intro τ h cells slots hb hs
    refine aw_aload0 dL_errors_402 ?_
    refine aw_iload4 dL_errors_403 ?_
    refine aw_bipush (v := iI (99)) dL_errors_405 (by decide) ?_
    refine ac_SH (As := [.ref 0, .int (iI ((rn (stG s) : Int))), .int (iI (99))]) (qL_later h _ _) dL_errors_407 sl_L_124 (by decide) (Nat.le_of_ble_eq_true rfl) hb hs (B2 := 6408) (B2' := 38448) rfl rfl (by omega) (by omega) (fun τ_407 r_407 c_ s_ h_407 hb_ hs_ => ?_)
    replace hb := hb_
    replace hs := hs_
    clear hb_ hs_
    obtain ⟨v_407, rfl, i_407, e_407⟩ := h_407
    obtain rfl : kI = v_407 := ((later_x (isN_not (by omega) (by omega) (by omega) (by omega))).symm.trans e_407)
    refine aw_ldc2 (v := kI) dL_errors_410 kl_L_36 ?_
    refine al_if_ne (tgt := 446) dL_errors_413 dL_errors_414 (by decide) (fun c_413 => absurd rfl c_413) (fun _ => ?_)
    refine aw_aload0 dL_errors_417 ?_
    refine aw_iload6 dL_errors_418 ?_
    refine ac_SH (As := [.ref 0, .int (iI ((bn (stG s) : Int)))]) (qL_begins i_407 _) dL_errors_420 sl_L_147 (by decide) (Nat.le_of_ble_eq_true rfl) hb hs (B2 := 6416) (B2' := 38496) rfl rfl (by omega) (by omega) (fun τ_420 r_420 c_ s_ h_420 hb_ hs_ => ?_)
    replace hb := hb_
    replace hs := hs_
    clear hb_ hs_
    obtain ⟨v_420, rfl, i_420, e_420⟩ := h_420
    obtain rfl : kI = v_420 := ((begins_x (isN_not (by omega) (by omega) (by omega) (by omega))).symm.trans e_420)
    refine aw_ldc2 (v := kI) dL_errors_423 kl_L_36 ?_
    refine al_if_ne (tgt := 446) dL_errors_426 dL_errors_427 (by decide) (fun c_426 => absurd rfl c_426) (fun _ => ?_)
    refine aw_aload0 dL_errors_430 ?_
    refine aw_iconst (v := iI (-1)) dL_errors_431 rfl ?_
    refine ac_SH (As := [.ref 0, .int (iI (-1))]) (qL_willOwe i_420 _) dL_errors_432 sl_L_149 (by decide) (Nat.le_of_ble_eq_true rfl) hb hs (B2 := 6424) (B2' := 38544) rfl rfl (by omega) (by omega) (fun τ_432 r_432 c_ s_ h_432 hb_ hs_ => ?_)
    replace hb := hb_
    replace hs := hs_
    clear hb_ hs_
    obtain ⟨v_432, rfl, i_432, e_432⟩ := h_432
    obtain rfl : kI = v_432 := ((willOwe_x (isN_not (by omega) (by omega) (by omega) (by omega))).symm.trans e_432)
    refine aw_ldc2 (v := kI) dL_errors_435 kl_L_36 ?_
    refine al_if_ne (tgt := 446) dL_errors_438 dL_errors_439 (by decide) (fun c_438 => absurd rfl c_438) (fun _ => ?_)
    refine aw_iconst (v := iI (1)) dL_errors_442 rfl ?_
    refine aw_goto (tgt := 447) dL_errors_443 (by decide) ?_
    refine aw_istore7 dL_errors_447 (Nat.le_of_ble_eq_true rfl) rfl ?_
    exact J449 _ i_432 _ _ (by omega) (by omega)
  have J247 : ∀ (τ : Sg) (h : CI τ s) (cells slots : Nat) (hb : cells + 8 * (21 + (336 + 6 * bn (stG s) + 2 * rn (stG s))) ≤ 6400) (hs : slots + 48 * (21 + (336 + 6 * bn (stG s) + 2 * rn (stG s))) ≤ 38400), AW K yL_errors.cls cL_errors mL_errors 11 6400 38400 (Qm K NN (rI fun τ y0 => CI τ s ∧ iI 1 = y0) XF 6400 38400) NN none τ cells slots 247 [some (.ref 0), some (.long (nowV (stG s))), none, some (.int (iI ((tn (stG s) : Int)))), some (.int (iI ((rn (stG s) : Int)))), some (.int (iI ((gn (stG s) : Int)))), some (.int (iI ((bn (stG s) : Int)))), some (.int (iI (1))), none, none, none] [] := by
    intro τ h cells slots hb hs
    refine aw_iload7 dL_errors_247 ?_
    refine ai_if_eq (tgt := 446) dL_errors_249 (by decide) (by omega) (by omega) (fun c_249 => absurd c_249 (by decide)) (fun _ => ?_)
    refine aw_aload0 dL_errors_252 ?_
    refine aw_iload4 dL_errors_253 ?_
    refine aw_iconst (v := iI (0)) dL_errors_255 rfl ?_
    refine aw_iconst (v := iI (-1)) dL_errors_256 rfl ?_
    refine aw_iconst (v := iI (0)) dL_errors_257 rfl ?_
    refine aw_iconst (v := iI (0)) dL_errors_258 rfl ?_
    refine ac_SH (As := [.ref 0, .int (iI ((rn (stG s) : Int))), .int (iI (0)), .int (iI (-1)), .int (iI (0)), .int (iI (0))]) (rL_book h _ _ _ _ _ (kc := 1) (cd3_1 (fun z => (isN_not (by omega) (by omega) (by omega) (by omega)) z.1)).symm (by decide)) dL_errors_259 sl_L_131 (by decide) (Nat.le_of_ble_eq_true rfl) hb hs (B2 := 6408) (B2' := 38448) rfl rfl (by omega) (by omega) (fun τ_259 r_259 c_ s_ h_259 hb_ hs_ => ?_)
    replace hb := hb_
    replace hs := hs_
    clear hb_ hs_
    obtain ⟨v_259, rfl, i_259, e_259⟩ := h_259
    obtain rfl : kI = v_259 := ((show _ = _ from rfl).trans e_259)
    refine aw_ldc2 (v := kI) dL_errors_262 kl_L_36 ?_
    refine al_if_ne (tgt := 446) dL_errors_265 dL_errors_266 (by decide) (fun c_265 => absurd rfl c_265) (fun _ => ?_)
    refine aw_aload0 dL_errors_269 ?_
    refine aw_iconst (v := iI (0)) dL_errors_270 rfl ?_
    refine aw_iload5 dL_errors_271 ?_
    refine aw_iconst (v := iI (-1)) dL_errors_273 rfl ?_
    refine aw_iconst (v := iI (0)) dL_errors_274 rfl ?_
    refine aw_iconst (v := iI (0)) dL_errors_275 rfl ?_
    refine ac_SH (As := [.ref 0, .int (iI (0)), .int (iI ((gn (stG s) : Int))), .int (iI (-1)), .int (iI (0)), .int (iI (0))]) (rL_book i_259 _ _ _ _ _ (kc := 1) (cd3_1 (fun z => (isN_not (by omega) (by omega) (by omega) (by omega)) z.2)).symm (by decide)) dL_errors_276 sl_L_131 (by decide) (Nat.le_of_ble_eq_true rfl) hb hs (B2 := 6416) (B2' := 38496) rfl rfl (by omega) (by omega) (fun τ_276 r_276 c_ s_ h_276 hb_ hs_ => ?_)
    replace hb := hb_
    replace hs := hs_
    clear hb_ hs_
    obtain ⟨v_276, rfl, i_276, e_276⟩ := h_276
    obtain rfl : kI = v_276 := ((show _ = _ from rfl).trans e_276)
    refine aw_ldc2 (v := kI) dL_errors_279 kl_L_36 ?_
    refine al_if_ne (tgt := 446) dL_errors_282 dL_errors_283 (by decide) (fun c_282 => absurd rfl c_282) (fun _ => ?_)
    refine aw_aload0 dL_errors_286 ?_
    refine aw_iload4 dL_errors_287 ?_
    refine aw_iconst (v := iI (0)) dL_errors_289 rfl ?_
    refine aw_iconst (v := iI (0)) dL_errors_290 rfl ?_
    refine aw_iconst (v := iI (1)) dL_errors_291 rfl ?_
    refine aw_bipush (v := iI (20)) dL_errors_292 (by decide) ?_
    refine ac_SH (As := [.ref 0, .int (iI ((rn (stG s) : Int))), .int (iI (0)), .int (iI (0)), .int (iI (1)), .int (iI (20))]) (qL_cost i_276 _ _ _ _ _) dL_errors_294 sl_L_134 (by decide) (Nat.le_of_ble_eq_true rfl) hb hs (B2 := 6424) (B2' := 38544) rfl rfl (by omega) (by omega) (fun τ_294 r_294 c_ s_ h_294 hb_ hs_ => ?_)
    replace hb := hb_
    replace hs := hs_
    clear hb_ hs_
    obtain ⟨v_294, rfl, i_294, e_294⟩ := h_294
    obtain rfl : kI = v_294 := ((cost_x (fun z => (isN_not (by omega) (by omega) (by omega) (by omega)) z.1)).symm.trans e_294)
    refine aw_ldc2 (v := kI) dL_errors_297 kl_L_36 ?_
    refine al_if_ne (tgt := 446) dL_errors_300 dL_errors_301 (by decide) (fun c_300 => absurd rfl c_300) (fun _ => ?_)
    refine aw_aload0 dL_errors_304 ?_
    refine aw_iload6 dL_errors_305 ?_
    refine ac_SH (As := [.ref 0, .int (iI ((bn (stG s) : Int)))]) (rL_cancel i_294 _ (kc := 1) (cd2_1 (isN_not (by omega) (by omega) (by omega) (by omega))).symm (by decide)) dL_errors_307 sl_L_136 (by decide) (Nat.le_of_ble_eq_true rfl) hb hs (B2 := 6432) (B2' := 38592) rfl rfl (by omega) (by omega) (fun τ_307 r_307 c_ s_ h_307 hb_ hs_ => ?_)
    replace hb := hb_
    replace hs := hs_
    clear hb_ hs_
    obtain ⟨v_307, rfl, i_307, e_307⟩ := h_307
    obtain rfl : kI = v_307 := ((show _ = _ from rfl).trans e_307)
    refine aw_ldc2 (v := kI) dL_errors_310 kl_L_36 ?_
    refine al_if_ne (tgt := 446) dL_errors_313 dL_errors_314 (by decide) (fun c_313 => absurd rfl c_313) (fun _ => ?_)
    refine aw_aload0 dL_errors_317 ?_
    refine aw_iload4 dL_errors_318 ?_
    refine aw_iconst (v := iI (1)) dL_errors_320 rfl ?_
    refine ac_SH (As := [.ref 0, .int (iI ((rn (stG s) : Int))), .int (iI (1))]) (rL_prove i_307 _ _ (Or.inr (by decide)) (kc := 1) (cd2_1 (isN_not (by omega) (by omega) (by omega) (by omega))).symm (by decide)) dL_errors_321 sl_L_138 (by decide) (Nat.le_of_ble_eq_true rfl) hb hs (B2 := 6440) (B2' := 38640) rfl rfl (by omega) (by omega) (fun τ_321 r_321 c_ s_ h_321 hb_ hs_ => ?_)
    replace hb := hb_
    replace hs := hs_
    clear hb_ hs_
    obtain ⟨v_321, rfl, i_321, e_321⟩ := h_321
    obtain rfl : kI = v_321 := ((show _ = _ from rfl).trans e_321)
    refine aw_ldc2 (v := kI) dL_errors_324 kl_L_36 ?_
    refine al_if_ne (tgt := 446) dL_errors_327 dL_errors_328 (by decide) (fun c_327 => absurd rfl c_327) (fun _ => ?_)
    refine aw_aload0 dL_errors_331 ?_
    refine aw_bipush (v := iI (-21)) dL_errors_332 (by decide) ?_
    refine ac_SH (As := [.ref 0, .int (iI (-21))]) (rL_outside i_321 _ (kc := 1) (cd1_1 (by decide)).symm (by decide)) dL_errors_334 sl_L_141 (by decide) (Nat.le_of_ble_eq_true rfl) hb hs (B2 := 6448) (B2' := 38688) rfl rfl (by omega) (by omega) (fun τ_334 r_334 c_ s_ h_334 hb_ hs_ => ?_)
    replace hb := hb_
    replace hs := hs_
    clear hb_ hs_
    obtain ⟨v_334, rfl, i_334, e_334⟩ := h_334
    obtain rfl : kA = v_334 := ((show _ = _ from rfl).trans e_334)
    refine aw_ldc2 (v := kA) dL_errors_337 kl_L_17 ?_
    refine al_if_ne (tgt := 446) dL_errors_340 dL_errors_341 (by decide) (fun c_340 => absurd rfl c_340) (fun _ => ?_)
    refine aw_aload0 dL_errors_344 ?_
    refine aw_iload5 dL_errors_345 ?_
    refine ac_SH (As := [.ref 0, .int (iI ((gn (stG s) : Int)))]) (rL_pay i_334 _ (kc := 1) (cd1_1 (isN_not (by omega) (by omega) (by omega) (by omega))).symm (by decide)) dL_errors_347 sl_L_143 (by decide) (Nat.le_of_ble_eq_true rfl) hb hs (B2 := 6456) (B2' := 38736) rfl rfl (by omega) (by omega) (fun τ_347 r_347 c_ s_ h_347 hb_ hs_ => ?_)
    replace hb := hb_
    replace hs := hs_
    clear hb_ hs_
    obtain ⟨v_347, rfl, i_347, e_347⟩ := h_347
    obtain rfl : kI = v_347 := ((show _ = _ from rfl).trans e_347)
    refine aw_ldc2 (v := kI) dL_errors_350 kl_L_36 ?_
    refine al_if_ne (tgt := 446) dL_errors_353 dL_errors_354 (by decide) (fun c_353 => absurd rfl c_353) (fun _ => ?_)
    refine aw_aload0 dL_errors_357 ?_
    refine aw_iconst (v := iI (0)) dL_errors_358 rfl ?_
    refine ac_SH (As := [.ref 0, .int (iI (0))]) (rL_pass i_347 _ (kc := 1) (cd2_1 (by decide)).symm (by decide)) dL_errors_359 sl_L_145 (by decide) (Nat.le_of_ble_eq_true rfl) hb hs (B2 := 6464) (B2' := 38784) rfl rfl (by omega) (by omega) (fun τ_359 r_359 c_ s_ h_359 hb_ hs_ => ?_)
    replace hb := hb_
    replace hs := hs_
    clear hb_ hs_
    obtain ⟨v_359, rfl, i_359, e_359⟩ := h_359
    obtain rfl : kA = v_359 := ((show _ = _ from rfl).trans e_359)
    refine aw_ldc2 (v := kA) dL_errors_362 kl_L_17 ?_
    refine al_if_ne (tgt := 446) dL_errors_365 dL_errors_366 (by decide) (fun c_365 => absurd rfl c_365) (fun _ => ?_)
    refine aw_aload0 dL_errors_369 ?_
    refine aw_bipush (v := iI (49)) dL_errors_370 (by decide) ?_
    refine ac_SH (As := [.ref 0, .int (iI (49))]) (rL_pass i_359 _ (kc := 1) (cd2_1 (by decide)).symm (by decide)) dL_errors_372 sl_L_145 (by decide) (Nat.le_of_ble_eq_true rfl) hb hs (B2 := 6472) (B2' := 38832) rfl rfl (by omega) (by omega) (fun τ_372 r_372 c_ s_ h_372 hb_ hs_ => ?_)
    replace hb := hb_
    replace hs := hs_
    clear hb_ hs_
    obtain ⟨v_372, rfl, i_372, e_372⟩ := h_372
    obtain rfl : kA = v_372 := ((show _ = _ from rfl).trans e_372)
    refine aw_ldc2 (v := kA) dL_errors_375 kl_L_17 ?_
    refine al_if_ne (tgt := 446) dL_errors_378 dL_errors_379 (by decide) (fun c_378 => absurd rfl c_378) (fun _ => ?_)
    refine aw_iload3 dL_errors_382 ?_
    refine aw_sipush (v := iI (193)) dL_errors_383 (by decide) ?_
    refine ai_ic_lt (tgt := 402) dL_errors_386 (by decide) (by omega) (by omega) (by omega) (by omega) (fun c_386 => ?_) (fun c_386 => ?_)
    · exact J402 _ i_372 _ _ (by omega) (by omega)
    · refine aw_aload0 dL_errors_389 ?_
      refine aw_bipush (v := iI (48)) dL_errors_390 (by decide) ?_
      refine ac_SH (As := [.ref 0, .int (iI (48))]) (rL_pass i_372 _ (kc := 2) (cd2_2 (by decide) (fun z => by have := ((hour_N hw 48 (by omega) (by omega) (by omega)).2 (by omega) (by omega)).mp z; omega)).symm (by decide)) dL_errors_392 sl_L_145 (by decide) (Nat.le_of_ble_eq_true rfl) hb hs (B2 := 6480) (B2' := 38880) rfl rfl (by omega) (by omega) (fun τ_392 r_392 c_ s_ h_392 hb_ hs_ => ?_)
      replace hb := hb_
      replace hs := hs_
      clear hb_ hs_
      obtain ⟨v_392, rfl, i_392, e_392⟩ := h_392
      obtain rfl : kS_ = v_392 := ((show _ = _ from rfl).trans e_392)
      refine aw_ldc2 (v := kS_) dL_errors_395 kl_L_21 ?_
      refine al_if_ne (tgt := 446) dL_errors_398 dL_errors_399 (by decide) (fun c_398 => absurd rfl c_398) (fun _ => ?_)
      exact J402 _ i_392 _ _ (by omega) (by omega)
  have J240 : ∀ (τ : Sg) (h : CI τ s) (cells slots : Nat) (hb : cells + 8 * (22 + (336 + 6 * bn (stG s) + 2 * rn (stG s))) ≤ 6400) (hs : slots + 48 * (22 + (336 + 6 * bn (stG s) + 2 * rn (stG s))) ≤ 38400), AW K yL_errors.cls cL_errors mL_errors 11 6400 38400 (Qm K NN (rI fun τ y0 => CI τ s ∧ iI 1 = y0) XF 6400 38400) NN none τ cells slots 240 [some (.ref 0), some (.long (nowV (stG s))), none, some (.int (iI ((tn (stG s) : Int)))), some (.int (iI ((rn (stG s) : Int)))), some (.int (iI ((gn (stG s) : Int)))), some (.int (iI ((bn (stG s) : Int)))), none, none, none, none] [] := by
    intro τ h cells slots hb hs
    refine aw_iconst (v := iI (1)) dL_errors_240 rfl ?_
    refine aw_goto (tgt := 245) dL_errors_241 (by decide) ?_
    refine aw_istore7 dL_errors_245 (Nat.le_of_ble_eq_true rfl) rfl ?_
    exact J247 _ h _ _ (by omega) (by omega)
  have J222 : ∀ (τ : Sg) (h : CI τ s) (cells slots : Nat) (hb : cells + 8 * (23 + (336 + 6 * bn (stG s) + 2 * rn (stG s))) ≤ 6400) (hs : slots + 48 * (23 + (336 + 6 * bn (stG s) + 2 * rn (stG s))) ≤ 38400), AW K yL_errors.cls cL_errors mL_errors 11 6400 38400 (Qm K NN (rI fun τ y0 => CI τ s ∧ iI 1 = y0) XF 6400 38400) NN none τ cells slots 222 [some (.ref 0), some (.long (nowV (stG s))), none, some (.int (iI ((tn (stG s) : Int)))), some (.int (iI ((rn (stG s) : Int)))), some (.int (iI ((gn (stG s) : Int)))), some (.int (iI ((bn (stG s) : Int)))), none, none, none, none] [] := by
    intro τ h cells slots hb hs
    refine aw_iload5 dL_errors_222 ?_
    refine aw_bipush (v := iI (6)) dL_errors_224 (by decide) ?_
    refine ai_ic_lt (tgt := 240) dL_errors_226 (by decide) (by omega) (by omega) (by omega) (by omega) (fun c_226 => ?_) (fun c_226 => ?_)
    · exact J240 _ h _ _ (by omega) (by omega)
    · refine aw_aload0 dL_errors_229 ?_
      refine ac_SH (As := [.ref 0]) (rL_addGroup h (kc := 1) (cd1_1 (by omega)).symm (by decide)) dL_errors_230 sl_L_129 (by decide) (Nat.le_of_ble_eq_true rfl) hb hs (B2 := 6408) (B2' := 38448) rfl rfl (by omega) (by omega) (fun τ_230 r_230 c_ s_ h_230 hb_ hs_ => ?_)
      replace hb := hb_
      replace hs := hs_
      clear hb_ hs_
      obtain ⟨v_230, rfl, i_230, e_230⟩ := h_230
      obtain rfl : kS_ = v_230 := ((show _ = _ from rfl).trans e_230)
      refine aw_ldc2 (v := kS_) dL_errors_233 kl_L_21 ?_
      refine al_if_ne (tgt := 244) dL_errors_236 dL_errors_237 (by decide) (fun c_236 => absurd rfl c_236) (fun _ => ?_)
      exact J240 _ i_230 _ _ (by omega) (by omega)
  have J169 : ∀ (τ : Sg) (h : CI τ s) (cells slots : Nat) (hb : cells + 8 * (26 + (336 + 6 * bn (stG s) + 2 * rn (stG s))) ≤ 6400) (hs : slots + 48 * (26 + (336 + 6 * bn (stG s) + 2 * rn (stG s))) ≤ 38400), AW K yL_errors.cls cL_errors mL_errors 11 6400 38400 (Qm K NN (rI fun τ y0 => CI τ s ∧ iI 1 = y0) XF 6400 38400) NN none τ cells slots 169 [some (.ref 0), some (.long (nowV (stG s))), none, some (.int (iI ((tn (stG s) : Int)))), some (.int (iI ((rn (stG s) : Int)))), some (.int (iI ((gn (stG s) : Int)))), some (.int (iI ((bn (stG s) : Int)))), none, none, none, none] [] := by
    intro τ h cells slots hb hs
    refine aw_aload0 dL_errors_169 ?_
    refine aw_iconst (v := iI (1)) dL_errors_170 rfl ?_
    refine aw_bipush (v := iI (10)) dL_errors_171 (by decide) ?_
    refine aw_iconst (v := iI (1)) dL_errors_173 rfl ?_
    refine aw_iconst (v := iI (1)) dL_errors_174 rfl ?_
    refine ac_SH (As := [.ref 0, .int (iI (1)), .int (iI (10)), .int (iI (1)), .int (iI (1))]) (rL_addRoom h _ _ _ _ (kc := 1) (cd2_1 (by decide)).symm (by decide)) dL_errors_175 sl_L_126 (by decide) (Nat.le_of_ble_eq_true rfl) hb hs (B2 := 6408) (B2' := 38448) rfl rfl (by omega) (by omega) (fun τ_175 r_175 c_ s_ h_175 hb_ hs_ => ?_)
    replace hb := hb_
    replace hs := hs_
    clear hb_ hs_
    obtain ⟨v_175, rfl, i_175, e_175⟩ := h_175
    obtain rfl : kA = v_175 := ((show _ = _ from rfl).trans e_175)
    refine aw_ldc2 (v := kA) dL_errors_178 kl_L_17 ?_
    refine al_if_ne (tgt := 244) dL_errors_181 dL_errors_182 (by decide) (fun c_181 => absurd rfl c_181) (fun _ => ?_)
    refine aw_aload0 dL_errors_185 ?_
    refine aw_iconst (v := iI (1)) dL_errors_186 rfl ?_
    refine aw_iconst (v := iI (1)) dL_errors_187 rfl ?_
    refine aw_iconst (v := iI (1)) dL_errors_188 rfl ?_
    refine aw_bipush (v := iI (-11)) dL_errors_189 (by decide) ?_
    refine ac_SH (As := [.ref 0, .int (iI (1)), .int (iI (1)), .int (iI (1)), .int (iI (-11))]) (rL_addRoom i_175 _ _ _ _ (kc := 1) (cd2_1 (by decide)).symm (by decide)) dL_errors_191 sl_L_126 (by decide) (Nat.le_of_ble_eq_true rfl) hb hs (B2 := 6416) (B2' := 38496) rfl rfl (by omega) (by omega) (fun τ_191 r_191 c_ s_ h_191 hb_ hs_ => ?_)
    replace hb := hb_
    replace hs := hs_
    clear hb_ hs_
    obtain ⟨v_191, rfl, i_191, e_191⟩ := h_191
    obtain rfl : kA = v_191 := ((show _ = _ from rfl).trans e_191)
    refine aw_ldc2 (v := kA) dL_errors_194 kl_L_17 ?_
    refine al_if_ne (tgt := 244) dL_errors_197 dL_errors_198 (by decide) (fun c_197 => absurd rfl c_197) (fun _ => ?_)
    refine aw_iload4 dL_errors_201 ?_
    refine aw_iconst (v := iI (4)) dL_errors_203 rfl ?_
    refine ai_ic_lt (tgt := 222) dL_errors_204 (by decide) (by omega) (by omega) (by omega) (by omega) (fun c_204 => ?_) (fun c_204 => ?_)
    · exact J222 _ i_191 _ _ (by omega) (by omega)
    · refine aw_aload0 dL_errors_207 ?_
      refine aw_iconst (v := iI (1)) dL_errors_208 rfl ?_
      refine aw_iconst (v := iI (1)) dL_errors_209 rfl ?_
      refine aw_iconst (v := iI (1)) dL_errors_210 rfl ?_
      refine aw_iconst (v := iI (1)) dL_errors_211 rfl ?_
      refine ac_SH (As := [.ref 0, .int (iI (1)), .int (iI (1)), .int (iI (1)), .int (iI (1))]) (rL_addRoom i_191 _ _ _ _ (kc := 2) (cd2_2 (by decide) (by omega)).symm (by decide)) dL_errors_212 sl_L_126 (by decide) (Nat.le_of_ble_eq_true rfl) hb hs (B2 := 6424) (B2' := 38544) rfl rfl (by omega) (by omega) (fun τ_212 r_212 c_ s_ h_212 hb_ hs_ => ?_)
      replace hb := hb_
      replace hs := hs_
      clear hb_ hs_
      obtain ⟨v_212, rfl, i_212, e_212⟩ := h_212
      obtain rfl : kS_ = v_212 := ((show _ = _ from rfl).trans e_212)
      refine aw_ldc2 (v := kS_) dL_errors_215 kl_L_21 ?_
      refine al_if_ne (tgt := 244) dL_errors_218 dL_errors_219 (by decide) (fun c_218 => absurd rfl c_218) (fun _ => ?_)
      exact J222 _ i_212 _ _ (by omega) (by omega)
  have J122 : ∀ (τ : Sg) (h : CI τ s) (cells slots : Nat) (hb : cells + 8 * (29 + (336 + 6 * bn (stG s) + 2 * rn (stG s))) ≤ 6400) (hs : slots + 48 * (29 + (336 + 6 * bn (stG s) + 2 * rn (stG s))) ≤ 38400), AW K yL_errors.cls cL_errors mL_errors 11 6400 38400 (Qm K NN (rI fun τ y0 => CI τ s ∧ iI 1 = y0) XF 6400 38400) NN none τ cells slots 122 [some (.ref 0), some (.long (nowV (stG s))), none, some (.int (iI ((tn (stG s) : Int)))), some (.int (iI ((rn (stG s) : Int)))), some (.int (iI ((gn (stG s) : Int)))), some (.int (iI ((bn (stG s) : Int)))), none, none, none, none] [] := by
    intro τ h cells slots hb hs
    refine aw_aload0 dL_errors_122 ?_
    refine aw_iload5 dL_errors_123 ?_
    refine ac_SH (As := [.ref 0, .int (iI ((gn (stG s) : Int)))]) (qL_owes h _) dL_errors_125 sl_L_114 (by decide) (Nat.le_of_ble_eq_true rfl) hb hs (B2 := 6408) (B2' := 38448) rfl rfl (by omega) (by omega) (fun τ_125 r_125 c_ s_ h_125 hb_ hs_ => ?_)
    replace hb := hb_
    replace hs := hs_
    clear hb_ hs_
    obtain ⟨v_125, rfl, i_125, e_125⟩ := h_125
    obtain rfl : kI = v_125 := ((owes_x (isN_not (by omega) (by omega) (by omega) (by omega))).symm.trans e_125)
    refine aw_ldc2 (v := kI) dL_errors_128 kl_L_36 ?_
    refine al_if_ne (tgt := 244) dL_errors_131 dL_errors_132 (by decide) (fun c_131 => absurd rfl c_131) (fun _ => ?_)
    refine aw_aload0 dL_errors_135 ?_
    refine aw_iload6 dL_errors_136 ?_
    refine aw_bipush (v := iI (99)) dL_errors_138 (by decide) ?_
    refine ac_SH (As := [.ref 0, .int (iI ((bn (stG s) : Int))), .int (iI (99))]) (qL_booking i_125 _ _) dL_errors_140 sl_L_118 (by decide) (Nat.le_of_ble_eq_true rfl) hb hs (B2 := 6416) (B2' := 38496) rfl rfl (by omega) (by omega) (fun τ_140 r_140 c_ s_ h_140 hb_ hs_ => ?_)
    replace hb := hb_
    replace hs := hs_
    clear hb_ hs_
    obtain ⟨v_140, rfl, i_140, e_140⟩ := h_140
    obtain rfl : kI = v_140 := ((booking_x (isN_not (by omega) (by omega) (by omega) (by omega))).symm.trans e_140)
    refine aw_ldc2 (v := kI) dL_errors_143 kl_L_36 ?_
    refine al_if_ne (tgt := 244) dL_errors_146 dL_errors_147 (by decide) (fun c_146 => absurd rfl c_146) (fun _ => ?_)
    refine aw_iload6 dL_errors_150 ?_
    refine ai_if_eq (tgt := 169) dL_errors_152 (by decide) (by omega) (by omega) (fun c_152 => ?_) (fun c_152 => ?_)
    · exact J169 _ i_140 _ _ (by omega) (by omega)
    · refine aw_aload0 dL_errors_155 ?_
      refine aw_iconst (v := iI (0)) dL_errors_156 rfl ?_
      refine aw_bipush (v := iI (10)) dL_errors_157 (by decide) ?_
      refine ac_SH (As := [.ref 0, .int (iI (0)), .int (iI (10))]) (qL_booking i_140 _ _) dL_errors_159 sl_L_118 (by decide) (Nat.le_of_ble_eq_true rfl) hb hs (B2 := 6424) (B2' := 38544) rfl rfl (by omega) (by omega) (fun τ_159 r_159 c_ s_ h_159 hb_ hs_ => ?_)
      replace hb := hb_
      replace hs := hs_
      clear hb_ hs_
      obtain ⟨v_159, rfl, i_159, e_159⟩ := h_159
      obtain rfl : kA = v_159 := ((booking_y (isN_of (by omega)) (by decide)).symm.trans e_159)
      refine aw_ldc2 (v := kA) dL_errors_162 kl_L_17 ?_
      refine al_if_ne (tgt := 244) dL_errors_165 dL_errors_166 (by decide) (fun c_165 => absurd rfl c_165) (fun _ => ?_)
      exact J169 _ i_159 _ _ (by omega) (by omega)
  have hb : 0 + 6400 ≤ 6400 := by omega
  have hs : 0 + 38400 ≤ 38400 := by omega
  refine aw_aload0 dL_errors_0 ?_
  refine ac_S (As := [.ref 0]) (k_now hI) dL_errors_1 sl_L_120 (by decide) (Nat.le_of_ble_eq_true rfl) hb hs (B2 := 8968) (B2' := 53808) rfl rfl (by omega) (by omega) (fun τ_1 r_1 c_ s_ h_1 hb_ hs_ => ?_)
  replace hb := hb_
  replace hs := hs_
  clear hb_ hs_
  obtain ⟨v_1, rfl, i_1, e_1⟩ := h_1
  obtain rfl : (nowV (stG s)) = v_1 := e_1
  refine aw_lstore1 dL_errors_4 (Nat.le_of_ble_eq_true rfl) rfl ?_
  refine aw_aload0 dL_errors_5 ?_
  refine aw_iconst (v := iI (0)) dL_errors_6 rfl ?_
  refine ac_SH (As := [.ref 0, .int (iI (0))]) (qL_about i_1 _) dL_errors_7 sl_L_104 (by decide) (Nat.le_of_ble_eq_true rfl) hb hs (B2 := 8976) (B2' := 53856) rfl rfl (by omega) (by omega) (fun τ_7 r_7 c_ s_ h_7 hb_ hs_ => ?_)
  replace hb := hb_
  replace hs := hs_
  clear hb_ hs_
  obtain ⟨v_7, rfl, i_7, e_7⟩ := h_7
  obtain rfl : (lI ((tn (stG s) : Int))) = v_7 := (((about_v (i := 0) (by omega) rfl).trans ab0).symm.trans e_7)
  refine ai_l2i dL_errors_10 ?_
  refine aw_istore3 dL_errors_11 (Nat.le_of_ble_eq_true rfl) rfl ?_
  refine aw_aload0 dL_errors_12 ?_
  refine aw_iconst (v := iI (1)) dL_errors_13 rfl ?_
  refine ac_SH (As := [.ref 0, .int (iI (1))]) (qL_about i_7 _) dL_errors_14 sl_L_104 (by decide) (Nat.le_of_ble_eq_true rfl) hb hs (B2 := 8984) (B2' := 53904) rfl rfl (by omega) (by omega) (fun τ_14 r_14 c_ s_ h_14 hb_ hs_ => ?_)
  replace hb := hb_
  replace hs := hs_
  clear hb_ hs_
  obtain ⟨v_14, rfl, i_14, e_14⟩ := h_14
  obtain rfl : (lI ((rn (stG s) : Int))) = v_14 := (((about_v (i := 1) (by omega) rfl).trans ab1).symm.trans e_14)
  refine ai_l2i dL_errors_17 ?_
  refine aw_istore4 dL_errors_18 (Nat.le_of_ble_eq_true rfl) rfl ?_
  refine aw_aload0 dL_errors_20 ?_
  refine aw_iconst (v := iI (2)) dL_errors_21 rfl ?_
  refine ac_SH (As := [.ref 0, .int (iI (2))]) (qL_about i_14 _) dL_errors_22 sl_L_104 (by decide) (Nat.le_of_ble_eq_true rfl) hb hs (B2 := 8992) (B2' := 53952) rfl rfl (by omega) (by omega) (fun τ_22 r_22 c_ s_ h_22 hb_ hs_ => ?_)
  replace hb := hb_
  replace hs := hs_
  clear hb_ hs_
  obtain ⟨v_22, rfl, i_22, e_22⟩ := h_22
  obtain rfl : (lI ((gn (stG s) : Int))) = v_22 := (((about_v (i := 2) (by omega) rfl).trans ab2).symm.trans e_22)
  refine ai_l2i dL_errors_25 ?_
  refine aw_istore5 dL_errors_26 (Nat.le_of_ble_eq_true rfl) rfl ?_
  refine aw_aload0 dL_errors_28 ?_
  refine aw_iconst (v := iI (3)) dL_errors_29 rfl ?_
  refine ac_SH (As := [.ref 0, .int (iI (3))]) (qL_about i_22 _) dL_errors_30 sl_L_104 (by decide) (Nat.le_of_ble_eq_true rfl) hb hs (B2 := 9000) (B2' := 54000) rfl rfl (by omega) (by omega) (fun τ_30 r_30 c_ s_ h_30 hb_ hs_ => ?_)
  replace hb := hb_
  replace hs := hs_
  clear hb_ hs_
  obtain ⟨v_30, rfl, i_30, e_30⟩ := h_30
  obtain rfl : (lI ((bn (stG s) : Int))) = v_30 := (((about_v (i := 3) (by omega) rfl).trans ab3).symm.trans e_30)
  refine ai_l2i dL_errors_33 ?_
  refine aw_istore6 dL_errors_34 (Nat.le_of_ble_eq_true rfl) rfl ?_
  refine aw_aload0 dL_errors_36 ?_
  refine aw_iconst (v := iI (-1)) dL_errors_37 rfl ?_
  refine ac_SH (As := [.ref 0, .int (iI (-1))]) (qL_about i_30 _) dL_errors_38 sl_L_104 (by decide) (Nat.le_of_ble_eq_true rfl) hb hs (B2 := 9008) (B2' := 54048) rfl rfl (by omega) (by omega) (fun τ_38 r_38 c_ s_ h_38 hb_ hs_ => ?_)
  replace hb := hb_
  replace hs := hs_
  clear hb_ hs_
  obtain ⟨v_38, rfl, i_38, e_38⟩ := h_38
  obtain rfl : kA = v_38 := ((about_x (by omega) (by omega) (by omega)).symm.trans e_38)
  refine aw_ldc2 (v := kA) dL_errors_41 kl_L_17 ?_
  refine al_if_ne (tgt := 244) dL_errors_44 dL_errors_45 (by decide) (fun c_44 => absurd rfl c_44) (fun _ => ?_)
  refine aw_aload0 dL_errors_48 ?_
  refine aw_bipush (v := iI (10)) dL_errors_49 (by decide) ?_
  refine ac_SH (As := [.ref 0, .int (iI (10))]) (qL_about i_38 _) dL_errors_51 sl_L_104 (by decide) (Nat.le_of_ble_eq_true rfl) hb hs (B2 := 9016) (B2' := 54096) rfl rfl (by omega) (by omega) (fun τ_51 r_51 c_ s_ h_51 hb_ hs_ => ?_)
  replace hb := hb_
  replace hs := hs_
  clear hb_ hs_
  obtain ⟨v_51, rfl, i_51, e_51⟩ := h_51
  obtain rfl : kA = v_51 := ((about_x (by omega) (by omega) (by omega)).symm.trans e_51)
  refine aw_ldc2 (v := kA) dL_errors_54 kl_L_17 ?_
  refine al_if_ne (tgt := 244) dL_errors_57 dL_errors_58 (by decide) (fun c_57 => absurd rfl c_57) (fun _ => ?_)
  refine aw_aload0 dL_errors_61 ?_
  refine aw_iload4 dL_errors_62 ?_
  refine aw_bipush (v := iI (9)) dL_errors_64 (by decide) ?_
  refine ac_SH (As := [.ref 0, .int (iI ((rn (stG s) : Int))), .int (iI (9))]) (qL_room i_51 _ _) dL_errors_66 sl_L_111 (by decide) (Nat.le_of_ble_eq_true rfl) hb hs (B2 := 9024) (B2' := 54144) rfl rfl (by omega) (by omega) (fun τ_66 r_66 c_ s_ h_66 hb_ hs_ => ?_)
  replace hb := hb_
  replace hs := hs_
  clear hb_ hs_
  obtain ⟨v_66, rfl, i_66, e_66⟩ := h_66
  obtain rfl : kI = v_66 := ((room_x (isN_not (by omega) (by omega) (by omega) (by omega))).symm.trans e_66)
  refine aw_ldc2 (v := kI) dL_errors_69 kl_L_36 ?_
  refine al_if_ne (tgt := 244) dL_errors_72 dL_errors_73 (by decide) (fun c_72 => absurd rfl c_72) (fun _ => ?_)
  refine aw_iload4 dL_errors_76 ?_
  refine ai_if_eq (tgt := 122) dL_errors_78 (by decide) (by omega) (by omega) (fun c_78 => ?_) (fun c_78 => ?_)
  · exact J122 _ i_66 _ _ (by omega) (by omega)
  · refine aw_aload0 dL_errors_81 ?_
    refine aw_iconst (v := iI (0)) dL_errors_82 rfl ?_
    refine aw_bipush (v := iI (7)) dL_errors_83 (by decide) ?_
    refine ac_SH (As := [.ref 0, .int (iI (0)), .int (iI (7))]) (qL_room i_66 _ _) dL_errors_85 sl_L_111 (by decide) (Nat.le_of_ble_eq_true rfl) hb hs (B2 := 9032) (B2' := 54192) rfl rfl (by omega) (by omega) (fun τ_85 r_85 c_ s_ h_85 hb_ hs_ => ?_)
    replace hb := hb_
    replace hs := hs_
    clear hb_ hs_
    obtain ⟨v_85, rfl, i_85, e_85⟩ := h_85
    obtain rfl : kA = v_85 := ((room_y (isN_of (by omega)) (by decide)).symm.trans e_85)
    refine aw_ldc2 (v := kA) dL_errors_88 kl_L_17 ?_
    refine al_if_ne (tgt := 244) dL_errors_91 dL_errors_92 (by decide) (fun c_91 => absurd rfl c_91) (fun _ => ?_)
    refine aw_aload0 dL_errors_95 ?_
    refine aw_iconst (v := iI (0)) dL_errors_96 rfl ?_
    refine aw_bipush (v := iI (49)) dL_errors_97 (by decide) ?_
    refine ac_SH (As := [.ref 0, .int (iI (0)), .int (iI (49))]) (qL_later i_85 _ _) dL_errors_99 sl_L_124 (by decide) (Nat.le_of_ble_eq_true rfl) hb hs (B2 := 9040) (B2' := 54240) rfl rfl (by omega) (by omega) (fun τ_99 r_99 c_ s_ h_99 hb_ hs_ => ?_)
    replace hb := hb_
    replace hs := hs_
    clear hb_ hs_
    obtain ⟨v_99, rfl, i_99, e_99⟩ := h_99
    obtain rfl : kA = v_99 := ((later_y (isN_of (by omega)) (by decide)).symm.trans e_99)
    refine aw_ldc2 (v := kA) dL_errors_102 kl_L_17 ?_
    refine al_if_ne (tgt := 244) dL_errors_105 dL_errors_106 (by decide) (fun c_105 => absurd rfl c_105) (fun _ => ?_)
    refine aw_aload0 dL_errors_109 ?_
    refine aw_iconst (v := iI (0)) dL_errors_110 rfl ?_
    refine aw_iconst (v := iI (-1)) dL_errors_111 rfl ?_
    refine ac_SH (As := [.ref 0, .int (iI (0)), .int (iI (-1))]) (qL_later i_99 _ _) dL_errors_112 sl_L_124 (by decide) (Nat.le_of_ble_eq_true rfl) hb hs (B2 := 9048) (B2' := 54288) rfl rfl (by omega) (by omega) (fun τ_112 r_112 c_ s_ h_112 hb_ hs_ => ?_)
    replace hb := hb_
    replace hs := hs_
    clear hb_ hs_
    obtain ⟨v_112, rfl, i_112, e_112⟩ := h_112
    obtain rfl : kA = v_112 := ((later_y (isN_of (by omega)) (by decide)).symm.trans e_112)
    refine aw_ldc2 (v := kA) dL_errors_115 kl_L_17 ?_
    refine al_if_ne (tgt := 244) dL_errors_118 dL_errors_119 (by decide) (fun c_118 => absurd rfl c_118) (fun _ => ?_)
    exact J122 _ i_112 _ _ (by omega) (by omega)
