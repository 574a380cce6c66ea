/-! the law: what is charged, whose hours are whose, which booking heats -/
set_option maxHeartbeats 16000000 in
theorem k_kept {σ : Sg} {s : AS} (hI : CI σ s) (hG : GW (stG s)) : Ct yL_kept cL_kept mL_kept 10 6880 41280 NN false σ [.ref 0] NN (rI fun τ y0 => CI τ s ∧ iI 1 = y0) XF := by
  refine ct_of (ls0 := [some (.ref 0), none, none, none, none, none, none, none, none, none, none, none, none, none, none, none]) 15 (by decide +kernel) rfl rfl (ndR nd0) rfl (Nat.le_of_ble_eq_true rfl) (fun K => ?_)
  obtain ⟨hr4, hg6, hb12, ht⟩ := hI.nums
  have hW := hG.1
  have hw := hW.wf
  obtain ⟨ab0, ab1, ab2, ab3⟩ := aboutV_n hw (by omega)
  obtain ⟨am5, am6, am7, am8, am9⟩ := aboutV_m hW (by omega)
  obtain ⟨t1, t2, t3, t4, t5⟩ := hW.2.2.2.2.1
  have t6 := nr_m hr4 (zz (stG s) 5 - zz (stG s) 6 - zz (stG s) 7) t3.1
  have J500 : ∀ (k i : Nat) (h1 : i ≤ rn (stG s)) (h2 : rn (stG s) - i < k) (τ : Sg) (h : CI τ s) (cells slots : Nat) (hb : cells + 8 * (20 + 20 * (rn (stG s) - i)) ≤ 6880) (hs : slots + 48 * (20 + 20 * (rn (stG s) - i)) ≤ 41280), AW K yL_kept.cls cL_kept mL_kept 10 6880 41280 (Qm K NN (rI fun τ y0 => CI τ s ∧ iI 1 = y0) XF 6880 41280) NN none τ cells slots 500 [some (.ref 0), some (.int (iI ((tn (stG s) : Int)))), some (.int (iI ((rn (stG s) : Int)))), some (.int (iI ((bn (stG s) : Int)))), some (.int (iI (1))), some (.long (lI (sm (stG s) (bn (stG s))))), none, some (.int (iI ((i : Int)))), none, none, none, none, none, none, none, none] [] := by
    intro k
    induction k with
    | zero => intro i h1 h2; exact absurd h2 (Nat.not_lt_zero _)
    | succ k ih =>
      intro i h1 h2 τ h cells slots hb hs
      refine aw_iload7 dL_kept_500 ?_
      refine aw_iload2 dL_kept_502 ?_
      refine ai_ic_ge (tgt := 792) dL_kept_503 (by decide) (by omega) (by omega) (by omega) (by omega) (fun c_503 => ?_) (fun c_503 => ?_)
      · refine aw_iload4 dL_kept_792 ?_
        refine ai_if_eq (tgt := 820) dL_kept_794 (by decide) (by omega) (by omega) (fun c_794 => absurd c_794 (by decide)) (fun _ => ?_)
        refine aw_lload5 dL_kept_797 ?_
        refine aw_aload0 dL_kept_799 ?_
        refine aw_bipush (v := iI (6)) dL_kept_800 (by decide) ?_
        refine ac_SH (As := [.ref 0, .int (iI (6))]) (qL_about h _) dL_kept_802 sl_L_104 (by decide) (Nat.le_of_ble_eq_true rfl) hb hs (B2 := 6888) (B2' := 41328) rfl rfl (by omega) (by omega) (fun τ_802 r_802 c_ s_ h_802 hb_ hs_ => ?_)
        replace hb := hb_
        replace hs := hs_
        clear hb_ hs_
        obtain ⟨v_802, rfl, i_802, e_802⟩ := h_802
        obtain rfl : (lI (zz (stG s) 6)) = v_802 := (((about_v (i := 6) (by omega) rfl).trans am6).symm.trans e_802)
        refine aw_aload0 dL_kept_805 ?_
        refine aw_bipush (v := iI (7)) dL_kept_806 (by decide) ?_
        refine ac_SH (As := [.ref 0, .int (iI (7))]) (qL_about i_802 _) dL_kept_808 sl_L_104 (by decide) (Nat.le_of_ble_eq_true rfl) hb hs (B2 := 6896) (B2' := 41376) rfl rfl (by omega) (by omega) (fun τ_808 r_808 c_ s_ h_808 hb_ hs_ => ?_)
        replace hb := hb_
        replace hs := hs_
        clear hb_ hs_
        obtain ⟨v_808, rfl, i_808, e_808⟩ := h_808
        obtain rfl : (lI (zz (stG s) 7)) = v_808 := (((about_v (i := 7) (by omega) rfl).trans am7).symm.trans e_808)
        refine ai_ladd dL_kept_811 ?_
        refine ai_lif_ne (tgt := 820) dL_kept_812 dL_kept_813 (by decide) (by omega) (by omega) (by omega) (by omega) (fun c_812 => absurd c_812 (by omega)) (fun c_812 => ?_)
        refine aw_iconst (v := iI (1)) dL_kept_816 rfl ?_
        refine aw_goto (tgt := 821) dL_kept_817 (by decide) ?_
        exact aw_zret dL_kept_821 rfl (by decide) ⟨by omega, by omega⟩ ⟨_, rfl, i_808, rfl⟩
      · refine aw_iload4 dL_kept_506 ?_
        refine ai_if_eq (tgt := 792) dL_kept_508 (by decide) (by omega) (by omega) (fun c_508 => absurd c_508 (by decide)) (fun _ => ?_)
        match hfc : fCur (stG s) i (bn (stG s)), hfn : fNxt (stG s) i (bn (stG s)) with
        | some b, none =>
          have hfh := fHeater_cur hfc
          obtain ⟨q1, q2, q3, q4⟩ := cur_Z hw (by omega) hfc
          have z0 : zz (stG s) (31 + 10 * b + 0) = i := zz_nI q2 (by omega)
          have q5 := (ovr_Z hw (by omega) q1).2
          have q6 := (bk_Z hW (by omega) q1).2.2.1
          refine aw_aload0 dL_kept_511 ?_
          refine aw_iload7 dL_kept_512 ?_
          refine aw_iconst (v := iI (4)) dL_kept_514 rfl ?_
          refine ac_SH (As := [.ref 0, .int (iI ((i : Int))), .int (iI (4))]) (qL_room h _ _) dL_kept_515 sl_L_111 (by decide) (Nat.le_of_ble_eq_true rfl) hb hs (B2 := 6888) (B2' := 41328) rfl rfl (by omega) (by omega) (fun τ_515 r_515 c_ s_ h_515 hb_ hs_ => ?_)
          replace hb := hb_
          replace hs := hs_
          clear hb_ hs_
          obtain ⟨v_515, rfl, i_515, e_515⟩ := h_515
          obtain rfl : (lI ((b : Int))) = v_515 := (((room_v (r := i) (k := 4) (by omega) (by omega) rfl rfl (by omega)).trans ((oI_Z (x := fCur (stG s) i (bn (stG s))) (fun b hb => by have := fCur_lt hb; omega)).trans (by rw [hfc]; rfl))).symm.trans e_515)
          refine aw_lstore8 dL_kept_518 (Nat.le_of_ble_eq_true rfl) rfl ?_
          refine aw_aload0 dL_kept_520 ?_
          refine aw_iload7 dL_kept_521 ?_
          refine aw_iconst (v := iI (5)) dL_kept_523 rfl ?_
          refine ac_SH (As := [.ref 0, .int (iI ((i : Int))), .int (iI (5))]) (qL_room i_515 _ _) dL_kept_524 sl_L_111 (by decide) (Nat.le_of_ble_eq_true rfl) hb hs (B2 := 6896) (B2' := 41376) rfl rfl (by omega) (by omega) (fun τ_524 r_524 c_ s_ h_524 hb_ hs_ => ?_)
          replace hb := hb_
          replace hs := hs_
          clear hb_ hs_
          obtain ⟨v_524, rfl, i_524, e_524⟩ := h_524
          obtain rfl : (lI (-99)) = v_524 := (((room_v (r := i) (k := 5) (by omega) (by omega) rfl rfl (by omega)).trans ((oI_Z (x := fNxt (stG s) i (bn (stG s))) (fun b hb => by have := fNxt_lt hb; omega)).trans (by rw [hfn]; rfl))).symm.trans e_524)
          refine aw_lstore10 dL_kept_527 (Nat.le_of_ble_eq_true rfl) rfl ?_
          refine aw_aload0 dL_kept_529 ?_
          refine aw_iload7 dL_kept_530 ?_
          refine aw_bipush (v := iI (6)) dL_kept_532 (by decide) ?_
          refine ac_SH (As := [.ref 0, .int (iI ((i : Int))), .int (iI (6))]) (qL_room i_524 _ _) dL_kept_534 sl_L_111 (by decide) (Nat.le_of_ble_eq_true rfl) hb hs (B2 := 6904) (B2' := 41424) rfl rfl (by omega) (by omega) (fun τ_534 r_534 c_ s_ h_534 hb_ hs_ => ?_)
          replace hb := hb_
          replace hs := hs_
          clear hb_ hs_
          obtain ⟨v_534, rfl, i_534, e_534⟩ := h_534
          obtain rfl : (lI ((b : Int))) = v_534 := (((room_v (r := i) (k := 6) (by omega) (by omega) rfl rfl (by omega)).trans ((oI_Z (x := fHeater (stG s) i (bn (stG s))) (fun b hb => by have := fHeater_lt hb; omega)).trans (by rw [hfh]; rfl))).symm.trans e_534)
          refine aw_lstore12 dL_kept_537 (Nat.le_of_ble_eq_true rfl) rfl ?_
          refine aw_lload8 dL_kept_539 ?_
          refine aw_ldc2 (v := lI (-99)) dL_kept_541 kx_L_151 ?_
          refine ai_lif_eq (tgt := 612) dL_kept_544 dL_kept_545 (by decide) (by omega) (by omega) (by omega) (by omega) (fun c_544 => absurd c_544 (by omega)) (fun c_544 => ?_)
          refine aw_aload0 dL_kept_548 ?_
          refine aw_lload8 dL_kept_549 ?_
          refine ai_l2i dL_kept_551 ?_
          refine aw_iconst (v := iI (0)) dL_kept_552 rfl ?_
          refine ac_SH (As := [.ref 0, .int (iI ((b : Int))), .int (iI (0))]) (qL_booking i_534 _ _) dL_kept_553 sl_L_118 (by decide) (Nat.le_of_ble_eq_true rfl) hb hs (B2 := 6912) (B2' := 41472) rfl rfl (by omega) (by omega) (fun τ_553 r_553 c_ s_ h_553 hb_ hs_ => ?_)
          replace hb := hb_
          replace hs := hs_
          clear hb_ hs_
          obtain ⟨v_553, rfl, i_553, e_553⟩ := h_553
          obtain rfl : (lI (zz (stG s) (31 + 10 * b + 0))) = v_553 := (((booking_v (b := b) (k := 0) (by omega) (by omega) rfl rfl (by omega)).trans (bookV_Z (by omega))).symm.trans e_553)
          refine aw_iload7 dL_kept_556 ?_
          refine ai_i2l dL_kept_558 (by omega) (by omega) ?_
          refine ai_lif_ne (tgt := 706) dL_kept_559 dL_kept_560 (by decide) (by omega) (by omega) (by omega) (by omega) (fun c_559 => absurd c_559 (by omega)) (fun c_559 => ?_)
          refine aw_aload0 dL_kept_563 ?_
          refine aw_lload8 dL_kept_564 ?_
          refine ai_l2i dL_kept_566 ?_
          refine aw_bipush (v := iI (9)) dL_kept_567 (by decide) ?_
          refine ac_SH (As := [.ref 0, .int (iI ((b : Int))), .int (iI (9))]) (qL_booking i_553 _ _) dL_kept_569 sl_L_118 (by decide) (Nat.le_of_ble_eq_true rfl) hb hs (B2 := 6920) (B2' := 41520) rfl rfl (by omega) (by omega) (fun τ_569 r_569 c_ s_ h_569 hb_ hs_ => ?_)
          replace hb := hb_
          replace hs := hs_
          clear hb_ hs_
          obtain ⟨v_569, rfl, i_569, e_569⟩ := h_569
          obtain rfl : (lI (ovr (stG s) b)) = v_569 := (((booking_v (b := b) (k := 9) (by omega) (by omega) rfl rfl (by omega)).trans (ovr_Z hw (by omega) (b := b) (by omega)).1).symm.trans e_569)
          refine aw_lconst (v := lI (0)) dL_kept_572 (by decide) ?_
          refine ai_lif_ne (tgt := 706) dL_kept_573 dL_kept_574 (by decide) (by omega) (by omega) (by omega) (by omega) (fun c_573 => absurd c_573 (by omega)) (fun c_573 => ?_)
          refine aw_aload0 dL_kept_577 ?_
          refine aw_lload8 dL_kept_578 ?_
          refine ai_l2i dL_kept_580 ?_
          refine aw_iconst (v := iI (2)) dL_kept_581 rfl ?_
          refine ac_SH (As := [.ref 0, .int (iI ((b : Int))), .int (iI (2))]) (qL_booking i_569 _ _) dL_kept_582 sl_L_118 (by decide) (Nat.le_of_ble_eq_true rfl) hb hs (B2 := 6928) (B2' := 41568) rfl rfl (by omega) (by omega) (fun τ_582 r_582 c_ s_ h_582 hb_ hs_ => ?_)
          replace hb := hb_
          replace hs := hs_
          clear hb_ hs_
          obtain ⟨v_582, rfl, i_582, e_582⟩ := h_582
          obtain rfl : (lI (zz (stG s) (31 + 10 * b + 2))) = v_582 := (((booking_v (b := b) (k := 2) (by omega) (by omega) rfl rfl (by omega)).trans (bookV_Z (by omega))).symm.trans e_582)
          refine aw_iload1 dL_kept_585 ?_
          refine ai_i2l dL_kept_586 (by omega) (by omega) ?_
          refine ai_lif_gt (tgt := 706) dL_kept_587 dL_kept_588 (by decide) (by omega) (by omega) (by omega) (by omega) (fun c_587 => absurd c_587 (by omega)) (fun c_587 => ?_)
          refine aw_lload12 dL_kept_591 ?_
          refine aw_lload8 dL_kept_593 ?_
          refine ai_lif_ne (tgt := 706) dL_kept_595 dL_kept_596 (by decide) (by omega) (by omega) (by omega) (by omega) (fun c_595 => absurd c_595 (by omega)) (fun c_595 => ?_)
          refine aw_aload0 dL_kept_599 ?_
          refine aw_lload8 dL_kept_600 ?_
          refine ai_l2i dL_kept_602 ?_
          refine ac_SH (As := [.ref 0, .int (iI ((b : Int)))]) (qL_begins i_582 _) dL_kept_603 sl_L_147 (by decide) (Nat.le_of_ble_eq_true rfl) hb hs (B2 := 6936) (B2' := 41616) rfl rfl (by omega) (by omega) (fun τ_603 r_603 c_ s_ h_603 hb_ hs_ => ?_)
          replace hb := hb_
          replace hs := hs_
          clear hb_ hs_
          obtain ⟨v_603, rfl, i_603, e_603⟩ := h_603
          obtain rfl : (lI ((tn (stG s) : Int))) = v_603 := (((begins_v (b := b) (by omega) rfl (by omega)).trans ((i2l_I _).trans (congrArg lI (bg_cur (by omega) hw (by omega) hfc)))).symm.trans e_603)
          refine aw_iload1 dL_kept_606 ?_
          refine ai_i2l dL_kept_607 (by omega) (by omega) ?_
          refine ai_lif_ne (tgt := 706) dL_kept_608 dL_kept_609 (by decide) (by omega) (by omega) (by omega) (by omega) (fun c_608 => absurd c_608 (by omega)) (fun c_608 => ?_)
          refine aw_lload10 dL_kept_612 ?_
          refine aw_ldc2 (v := lI (-99)) dL_kept_614 kx_L_151 ?_
          refine ai_lif_eq (tgt := 650) dL_kept_617 dL_kept_618 (by decide) (by omega) (by omega) (by omega) (by omega) (fun c_617 => ?_) (fun c_617 => absurd c_617 (by omega))
          refine aw_lload12 dL_kept_650 ?_
          refine aw_lload8 dL_kept_652 ?_
          refine ai_lif_eq (tgt := 684) dL_kept_654 dL_kept_655 (by decide) (by omega) (by omega) (by omega) (by omega) (fun c_654 => ?_) (fun c_654 => absurd c_654 (by omega))
          refine aw_aload0 dL_kept_684 ?_
          refine aw_iload7 dL_kept_685 ?_
          refine aw_iconst (v := iI (0)) dL_kept_687 rfl ?_
          refine ac_SH (As := [.ref 0, .int (iI ((i : Int))), .int (iI (0))]) (qL_later i_603 _ _) dL_kept_688 sl_L_124 (by decide) (Nat.le_of_ble_eq_true rfl) hb hs (B2 := 6944) (B2' := 41664) rfl rfl (by omega) (by omega) (fun τ_688 r_688 c_ s_ h_688 hb_ hs_ => ?_)
          replace hb := hb_
          replace hs := hs_
          clear hb_ hs_
          obtain ⟨v_688, rfl, i_688, e_688⟩ := h_688
          obtain rfl : ((stG s (9 + 4 * i + 3)).toInt64) = v_688 := ((later_v (r := i) (h := 0) (by omega) (by omega) rfl rfl (by omega)).symm.trans e_688)
          refine aw_aload0 dL_kept_691 ?_
          refine aw_iload7 dL_kept_692 ?_
          refine aw_iconst (v := iI (3)) dL_kept_694 rfl ?_
          refine ac_SH (As := [.ref 0, .int (iI ((i : Int))), .int (iI (3))]) (qL_room i_688 _ _) dL_kept_695 sl_L_111 (by decide) (Nat.le_of_ble_eq_true rfl) hb hs (B2 := 6952) (B2' := 41712) rfl rfl (by omega) (by omega) (fun τ_695 r_695 c_ s_ h_695 hb_ hs_ => ?_)
          replace hb := hb_
          replace hs := hs_
          clear hb_ hs_
          obtain ⟨v_695, rfl, i_695, e_695⟩ := h_695
          obtain rfl : ((stG s (9 + 4 * i + 3)).toInt64) = v_695 := ((room_v (r := i) (k := 3) (by omega) (by omega) rfl rfl (by omega)).symm.trans e_695)
          refine al_if_ne (tgt := 706) dL_kept_698 dL_kept_699 (by decide) (fun c_698 => absurd rfl c_698) (fun _ => ?_)
          refine aw_iconst (v := iI (1)) dL_kept_702 rfl ?_
          refine aw_goto (tgt := 707) dL_kept_703 (by decide) ?_
          refine aw_istore4 dL_kept_707 (Nat.le_of_ble_eq_true rfl) rfl ?_
          refine aw_lload10 dL_kept_709 ?_
          refine aw_ldc2 (v := lI (-99)) dL_kept_711 kx_L_151 ?_
          refine ai_lif_eq (tgt := 786) dL_kept_714 dL_kept_715 (by decide) (by omega) (by omega) (by omega) (by omega) (fun c_714 => ?_) (fun c_714 => absurd c_714 (by omega))
          refine aw_iinc7 (w := (iI (((i + 1 : Nat) : Int)))) dL_kept_786 (iinc_N rfl) (Nat.le_of_ble_eq_true rfl) rfl ?_
          refine aw_goto (tgt := 500) dL_kept_789 (by decide) ?_
          refine AW.loc (ls' := [some (.ref 0), some (.int (iI ((tn (stG s) : Int)))), some (.int (iI ((rn (stG s) : Int)))), some (.int (iI ((bn (stG s) : Int)))), some (.int (iI (1))), some (.long (lI (sm (stG s) (bn (stG s))))), none, some (.int (iI (((i + 1 : Nat) : Int)))), none, none, none, none, none, none, none, none]) (loc_c (loc_c (loc_c (loc_c (loc_c (loc_c (loc_n (loc_c (loc_n (loc_n (loc_n (loc_n (loc_n loc_r))))))))))))) ?_
          exact ih (i + 1) (by omega) (by omega) _ i_695 _ _ (by omega) (by omega)
        | some b, some c =>
          have hfh := fHeater_cur hfc
          have hbc : b ≠ c := fun z => by
            subst z
            have z1 := (cur_Z hw (by omega) hfc).2.2.1
            have z2 := (nxt_Z hw (by omega) hfn).2.2
            omega
          obtain ⟨q1, q2, q3, q4⟩ := cur_Z hw (by omega) hfc
          have z0 : zz (stG s) (31 + 10 * b + 0) = i := zz_nI q2 (by omega)
          have q5 := (ovr_Z hw (by omega) q1).2
          have q6 := (bk_Z hW (by omega) q1).2.2.1
          obtain ⟨p1, p2, p3⟩ := nxt_Z hw (by omega) hfn
          have y0 : zz (stG s) (31 + 10 * c + 0) = i := zz_nI p2 (by omega)
          obtain ⟨p4, p5, p6⟩ := bg_nxt (by omega) hw (by omega) hfn
          have p7 := (bk_Z hW (by omega) p1).2.2.1
          have p8 : ¬ bgZ (stG s) c = tn (stG s) := fun z => by have := p6.mp z; rw [hfh] at this; cases this; omega
          refine aw_aload0 dL_kept_511 ?_
          refine aw_iload7 dL_kept_512 ?_
          refine aw_iconst (v := iI (4)) dL_kept_514 rfl ?_
          refine ac_SH (As := [.ref 0, .int (iI ((i : Int))), .int (iI (4))]) (qL_room h _ _) dL_kept_515 sl_L_111 (by decide) (Nat.le_of_ble_eq_true rfl) hb hs (B2 := 6888) (B2' := 41328) rfl rfl (by omega) (by omega) (fun τ_515 r_515 c_ s_ h_515 hb_ hs_ => ?_)
          replace hb := hb_
          replace hs := hs_
          clear hb_ hs_
          obtain ⟨v_515, rfl, i_515, e_515⟩ := h_515
          obtain rfl : (lI ((b : Int))) = v_515 := (((room_v (r := i) (k := 4) (by omega) (by omega) rfl rfl (by omega)).trans ((oI_Z (x := fCur (stG s) i (bn (stG s))) (fun b hb => by have := fCur_lt hb; omega)).trans (by rw [hfc]; rfl))).symm.trans e_515)
          refine aw_lstore8 dL_kept_518 (Nat.le_of_ble_eq_true rfl) rfl ?_
          refine aw_aload0 dL_kept_520 ?_
          refine aw_iload7 dL_kept_521 ?_
          refine aw_iconst (v := iI (5)) dL_kept_523 rfl ?_
          refine ac_SH (As := [.ref 0, .int (iI ((i : Int))), .int (iI (5))]) (qL_room i_515 _ _) dL_kept_524 sl_L_111 (by decide) (Nat.le_of_ble_eq_true rfl) hb hs (B2 := 6896) (B2' := 41376) rfl rfl (by omega) (by omega) (fun τ_524 r_524 c_ s_ h_524 hb_ hs_ => ?_)
          replace hb := hb_
          replace hs := hs_
          clear hb_ hs_
          obtain ⟨v_524, rfl, i_524, e_524⟩ := h_524
          obtain rfl : (lI ((c : Int))) = v_524 := (((room_v (r := i) (k := 5) (by omega) (by omega) rfl rfl (by omega)).trans ((oI_Z (x := fNxt (stG s) i (bn (stG s))) (fun b hb => by have := fNxt_lt hb; omega)).trans (by rw [hfn]; rfl))).symm.trans e_524)
          refine aw_lstore10 dL_kept_527 (Nat.le_of_ble_eq_true rfl) rfl ?_
          refine aw_aload0 dL_kept_529 ?_
          refine aw_iload7 dL_kept_530 ?_
          refine aw_bipush (v := iI (6)) dL_kept_532 (by decide) ?_
          refine ac_SH (As := [.ref 0, .int (iI ((i : Int))), .int (iI (6))]) (qL_room i_524 _ _) dL_kept_534 sl_L_111 (by decide) (Nat.le_of_ble_eq_true rfl) hb hs (B2 := 6904) (B2' := 41424) rfl rfl (by omega) (by omega) (fun τ_534 r_534 c_ s_ h_534 hb_ hs_ => ?_)
          replace hb := hb_
          replace hs := hs_
          clear hb_ hs_
          obtain ⟨v_534, rfl, i_534, e_534⟩ := h_534
          obtain rfl : (lI ((b : Int))) = v_534 := (((room_v (r := i) (k := 6) (by omega) (by omega) rfl rfl (by omega)).trans ((oI_Z (x := fHeater (stG s) i (bn (stG s))) (fun b hb => by have := fHeater_lt hb; omega)).trans (by rw [hfh]; rfl))).symm.trans e_534)
          refine aw_lstore12 dL_kept_537 (Nat.le_of_ble_eq_true rfl) rfl ?_
          refine aw_lload8 dL_kept_539 ?_
          refine aw_ldc2 (v := lI (-99)) dL_kept_541 kx_L_151 ?_
          refine ai_lif_eq (tgt := 612) dL_kept_544 dL_kept_545 (by decide) (by omega) (by omega) (by omega) (by omega) (fun c_544 => absurd c_544 (by omega)) (fun c_544 => ?_)
          refine aw_aload0 dL_kept_548 ?_
          refine aw_lload8 dL_kept_549 ?_
          refine ai_l2i dL_kept_551 ?_
          refine aw_iconst (v := iI (0)) dL_kept_552 rfl ?_
          refine ac_SH (As := [.ref 0, .int (iI ((b : Int))), .int (iI (0))]) (qL_booking i_534 _ _) dL_kept_553 sl_L_118 (by decide) (Nat.le_of_ble_eq_true rfl) hb hs (B2 := 6912) (B2' := 41472) rfl rfl (by omega) (by omega) (fun τ_553 r_553 c_ s_ h_553 hb_ hs_ => ?_)
          replace hb := hb_
          replace hs := hs_
          clear hb_ hs_
          obtain ⟨v_553, rfl, i_553, e_553⟩ := h_553
          obtain rfl : (lI (zz (stG s) (31 + 10 * b + 0))) = v_553 := (((booking_v (b := b) (k := 0) (by omega) (by omega) rfl rfl (by omega)).trans (bookV_Z (by omega))).symm.trans e_553)
          refine aw_iload7 dL_kept_556 ?_
          refine ai_i2l dL_kept_558 (by omega) (by omega) ?_
          refine ai_lif_ne (tgt := 706) dL_kept_559 dL_kept_560 (by decide) (by omega) (by omega) (by omega) (by omega) (fun c_559 => absurd c_559 (by omega)) (fun c_559 => ?_)
          refine aw_aload0 dL_kept_563 ?_
          refine aw_lload8 dL_kept_564 ?_
          refine ai_l2i dL_kept_566 ?_
          refine aw_bipush (v := iI (9)) dL_kept_567 (by decide) ?_
          refine ac_SH (As := [.ref 0, .int (iI ((b : Int))), .int (iI (9))]) (qL_booking i_553 _ _) dL_kept_569 sl_L_118 (by decide) (Nat.le_of_ble_eq_true rfl) hb hs (B2 := 6920) (B2' := 41520) rfl rfl (by omega) (by omega) (fun τ_569 r_569 c_ s_ h_569 hb_ hs_ => ?_)
          replace hb := hb_
          replace hs := hs_
          clear hb_ hs_
          obtain ⟨v_569, rfl, i_569, e_569⟩ := h_569
          obtain rfl : (lI (ovr (stG s) b)) = v_569 := (((booking_v (b := b) (k := 9) (by omega) (by omega) rfl rfl (by omega)).trans (ovr_Z hw (by omega) (b := b) (by omega)).1).symm.trans e_569)
          refine aw_lconst (v := lI (0)) dL_kept_572 (by decide) ?_
          refine ai_lif_ne (tgt := 706) dL_kept_573 dL_kept_574 (by decide) (by omega) (by omega) (by omega) (by omega) (fun c_573 => absurd c_573 (by omega)) (fun c_573 => ?_)
          refine aw_aload0 dL_kept_577 ?_
          refine aw_lload8 dL_kept_578 ?_
          refine ai_l2i dL_kept_580 ?_
          refine aw_iconst (v := iI (2)) dL_kept_581 rfl ?_
          refine ac_SH (As := [.ref 0, .int (iI ((b : Int))), .int (iI (2))]) (qL_booking i_569 _ _) dL_kept_582 sl_L_118 (by decide) (Nat.le_of_ble_eq_true rfl) hb hs (B2 := 6928) (B2' := 41568) rfl rfl (by omega) (by omega) (fun τ_582 r_582 c_ s_ h_582 hb_ hs_ => ?_)
          replace hb := hb_
          replace hs := hs_
          clear hb_ hs_
          obtain ⟨v_582, rfl, i_582, e_582⟩ := h_582
          obtain rfl : (lI (zz (stG s) (31 + 10 * b + 2))) = v_582 := (((booking_v (b := b) (k := 2) (by omega) (by omega) rfl rfl (by omega)).trans (bookV_Z (by omega))).symm.trans e_582)
          refine aw_iload1 dL_kept_585 ?_
          refine ai_i2l dL_kept_586 (by omega) (by omega) ?_
          refine ai_lif_gt (tgt := 706) dL_kept_587 dL_kept_588 (by decide) (by omega) (by omega) (by omega) (by omega) (fun c_587 => absurd c_587 (by omega)) (fun c_587 => ?_)
          refine aw_lload12 dL_kept_591 ?_
          refine aw_lload8 dL_kept_593 ?_
          refine ai_lif_ne (tgt := 706) dL_kept_595 dL_kept_596 (by decide) (by omega) (by omega) (by omega) (by omega) (fun c_595 => absurd c_595 (by omega)) (fun c_595 => ?_)
          refine aw_aload0 dL_kept_599 ?_
          refine aw_lload8 dL_kept_600 ?_
          refine ai_l2i dL_kept_602 ?_
          refine ac_SH (As := [.ref 0, .int (iI ((b : Int)))]) (qL_begins i_582 _) dL_kept_603 sl_L_147 (by decide) (Nat.le_of_ble_eq_true rfl) hb hs (B2 := 6936) (B2' := 41616) rfl rfl (by omega) (by omega) (fun τ_603 r_603 c_ s_ h_603 hb_ hs_ => ?_)
          replace hb := hb_
          replace hs := hs_
          clear hb_ hs_
          obtain ⟨v_603, rfl, i_603, e_603⟩ := h_603
          obtain rfl : (lI ((tn (stG s) : Int))) = v_603 := (((begins_v (b := b) (by omega) rfl (by omega)).trans ((i2l_I _).trans (congrArg lI (bg_cur (by omega) hw (by omega) hfc)))).symm.trans e_603)
          refine aw_iload1 dL_kept_606 ?_
          refine ai_i2l dL_kept_607 (by omega) (by omega) ?_
          refine ai_lif_ne (tgt := 706) dL_kept_608 dL_kept_609 (by decide) (by omega) (by omega) (by omega) (by omega) (fun c_608 => absurd c_608 (by omega)) (fun c_608 => ?_)
          refine aw_lload10 dL_kept_612 ?_
          refine aw_ldc2 (v := lI (-99)) dL_kept_614 kx_L_151 ?_
          refine ai_lif_eq (tgt := 650) dL_kept_617 dL_kept_618 (by decide) (by omega) (by omega) (by omega) (by omega) (fun c_617 => absurd c_617 (by omega)) (fun c_617 => ?_)
          refine aw_aload0 dL_kept_621 ?_
          refine aw_lload10 dL_kept_622 ?_
          refine ai_l2i dL_kept_624 ?_
          refine aw_iconst (v := iI (0)) dL_kept_625 rfl ?_
          refine ac_SH (As := [.ref 0, .int (iI ((c : Int))), .int (iI (0))]) (qL_booking i_603 _ _) dL_kept_626 sl_L_118 (by decide) (Nat.le_of_ble_eq_true rfl) hb hs (B2 := 6944) (B2' := 41664) rfl rfl (by omega) (by omega) (fun τ_626 r_626 c_ s_ h_626 hb_ hs_ => ?_)
          replace hb := hb_
          replace hs := hs_
          clear hb_ hs_
          obtain ⟨v_626, rfl, i_626, e_626⟩ := h_626
          obtain rfl : (lI (zz (stG s) (31 + 10 * c + 0))) = v_626 := (((booking_v (b := c) (k := 0) (by omega) (by omega) rfl rfl (by omega)).trans (bookV_Z (by omega))).symm.trans e_626)
          refine aw_iload7 dL_kept_629 ?_
          refine ai_i2l dL_kept_631 (by omega) (by omega) ?_
          refine ai_lif_ne (tgt := 706) dL_kept_632 dL_kept_633 (by decide) (by omega) (by omega) (by omega) (by omega) (fun c_632 => absurd c_632 (by omega)) (fun c_632 => ?_)
          refine aw_aload0 dL_kept_636 ?_
          refine aw_lload10 dL_kept_637 ?_
          refine ai_l2i dL_kept_639 ?_
          refine aw_iconst (v := iI (2)) dL_kept_640 rfl ?_
          refine ac_SH (As := [.ref 0, .int (iI ((c : Int))), .int (iI (2))]) (qL_booking i_626 _ _) dL_kept_641 sl_L_118 (by decide) (Nat.le_of_ble_eq_true rfl) hb hs (B2 := 6952) (B2' := 41712) rfl rfl (by omega) (by omega) (fun τ_641 r_641 c_ s_ h_641 hb_ hs_ => ?_)
          replace hb := hb_
          replace hs := hs_
          clear hb_ hs_
          obtain ⟨v_641, rfl, i_641, e_641⟩ := h_641
          obtain rfl : (lI (zz (stG s) (31 + 10 * c + 2))) = v_641 := (((booking_v (b := c) (k := 2) (by omega) (by omega) rfl rfl (by omega)).trans (bookV_Z (by omega))).symm.trans e_641)
          refine aw_iload1 dL_kept_644 ?_
          refine ai_i2l dL_kept_645 (by omega) (by omega) ?_
          refine ai_lif_le (tgt := 706) dL_kept_646 dL_kept_647 (by decide) (by omega) (by omega) (by omega) (by omega) (fun c_646 => absurd c_646 (by omega)) (fun c_646 => ?_)
          refine aw_lload12 dL_kept_650 ?_
          refine aw_lload8 dL_kept_652 ?_
          refine ai_lif_eq (tgt := 684) dL_kept_654 dL_kept_655 (by decide) (by omega) (by omega) (by omega) (by omega) (fun c_654 => ?_) (fun c_654 => absurd c_654 (by omega))
          refine aw_aload0 dL_kept_684 ?_
          refine aw_iload7 dL_kept_685 ?_
          refine aw_iconst (v := iI (0)) dL_kept_687 rfl ?_
          refine ac_SH (As := [.ref 0, .int (iI ((i : Int))), .int (iI (0))]) (qL_later i_641 _ _) dL_kept_688 sl_L_124 (by decide) (Nat.le_of_ble_eq_true rfl) hb hs (B2 := 6960) (B2' := 41760) rfl rfl (by omega) (by omega) (fun τ_688 r_688 c_ s_ h_688 hb_ hs_ => ?_)
          replace hb := hb_
          replace hs := hs_
          clear hb_ hs_
          obtain ⟨v_688, rfl, i_688, e_688⟩ := h_688
          obtain rfl : ((stG s (9 + 4 * i + 3)).toInt64) = v_688 := ((later_v (r := i) (h := 0) (by omega) (by omega) rfl rfl (by omega)).symm.trans e_688)
          refine aw_aload0 dL_kept_691 ?_
          refine aw_iload7 dL_kept_692 ?_
          refine aw_iconst (v := iI (3)) dL_kept_694 rfl ?_
          refine ac_SH (As := [.ref 0, .int (iI ((i : Int))), .int (iI (3))]) (qL_room i_688 _ _) dL_kept_695 sl_L_111 (by decide) (Nat.le_of_ble_eq_true rfl) hb hs (B2 := 6968) (B2' := 41808) rfl rfl (by omega) (by omega) (fun τ_695 r_695 c_ s_ h_695 hb_ hs_ => ?_)
          replace hb := hb_
          replace hs := hs_
          clear hb_ hs_
          obtain ⟨v_695, rfl, i_695, e_695⟩ := h_695
          obtain rfl : ((stG s (9 + 4 * i + 3)).toInt64) = v_695 := ((room_v (r := i) (k := 3) (by omega) (by omega) rfl rfl (by omega)).symm.trans e_695)
          refine al_if_ne (tgt := 706) dL_kept_698 dL_kept_699 (by decide) (fun c_698 => absurd rfl c_698) (fun _ => ?_)
          refine aw_iconst (v := iI (1)) dL_kept_702 rfl ?_
          refine aw_goto (tgt := 707) dL_kept_703 (by decide) ?_
          refine aw_istore4 dL_kept_707 (Nat.le_of_ble_eq_true rfl) rfl ?_
          refine aw_lload10 dL_kept_709 ?_
          refine aw_ldc2 (v := lI (-99)) dL_kept_711 kx_L_151 ?_
          refine ai_lif_eq (tgt := 786) dL_kept_714 dL_kept_715 (by decide) (by omega) (by omega) (by omega) (by omega) (fun c_714 => absurd c_714 (by omega)) (fun c_714 => ?_)
          refine aw_iload4 dL_kept_718 ?_
          refine ai_if_eq (tgt := 786) dL_kept_720 (by decide) (by omega) (by omega) (fun c_720 => absurd c_720 (by decide)) (fun _ => ?_)
          refine aw_aload0 dL_kept_723 ?_
          refine aw_lload10 dL_kept_724 ?_
          refine ai_l2i dL_kept_726 ?_
          refine ac_SH (As := [.ref 0, .int (iI ((c : Int)))]) (qL_begins i_695 _) dL_kept_727 sl_L_147 (by decide) (Nat.le_of_ble_eq_true rfl) hb hs (B2 := 6976) (B2' := 41856) rfl rfl (by omega) (by omega) (fun τ_727 r_727 c_ s_ h_727 hb_ hs_ => ?_)
          replace hb := hb_
          replace hs := hs_
          clear hb_ hs_
          obtain ⟨v_727, rfl, i_727, e_727⟩ := h_727
          obtain rfl : (lI (bgZ (stG s) c)) = v_727 := (((begins_v (b := c) (by omega) rfl (by omega)).trans (i2l_I _)).symm.trans e_727)
          refine aw_lstore14 dL_kept_730 (Nat.le_of_ble_eq_true rfl) rfl ?_
          refine aw_lload14 dL_kept_732 ?_
          refine aw_iload1 dL_kept_734 ?_
          refine ai_i2l dL_kept_735 (by omega) (by omega) ?_
          refine aw_aload0 dL_kept_736 ?_
          refine aw_lload10 dL_kept_737 ?_
          refine ai_l2i dL_kept_739 ?_
          refine aw_iconst (v := iI (2)) dL_kept_740 rfl ?_
          refine ac_SH (As := [.ref 0, .int (iI ((c : Int))), .int (iI (2))]) (qL_booking i_727 _ _) dL_kept_741 sl_L_118 (by decide) (Nat.le_of_ble_eq_true rfl) hb hs (B2 := 6984) (B2' := 41904) rfl rfl (by omega) (by omega) (fun τ_741 r_741 c_ s_ h_741 hb_ hs_ => ?_)
          replace hb := hb_
          replace hs := hs_
          clear hb_ hs_
          obtain ⟨v_741, rfl, i_741, e_741⟩ := h_741
          obtain rfl : (lI (zz (stG s) (31 + 10 * c + 2))) = v_741 := (((booking_v (b := c) (k := 2) (by omega) (by omega) rfl rfl (by omega)).trans (bookV_Z (by omega))).symm.trans e_741)
          refine ac_S (As := [.long (lI (bgZ (stG s) c)), .long (lI ((tn (stG s) : Int))), .long (lI (zz (stG s) (31 + 10 * c + 2)))]) (k_in i_741 (v := bgZ (stG s) c) (a := (tn (stG s) : Int)) (b := zz (stG s) (31 + 10 * c + 2)) (by omega) (by omega) (by omega)) dL_kept_744 sl_L_170 (by decide) (Nat.le_of_ble_eq_true rfl) hb hs (B2 := 6984) (B2' := 41904) rfl rfl (by omega) (by omega) (fun τ_744 r_744 c_ s_ h_744 hb_ hs_ => ?_)
          replace hb := hb_
          replace hs := hs_
          clear hb_ hs_
          obtain ⟨v_744, rfl, i_744, e_744⟩ := h_744
          obtain rfl : (iI (1)) = v_744 := e_744
          refine ai_if_eq (tgt := 783) dL_kept_747 (by decide) (by omega) (by omega) (fun c_747 => absurd c_747 (by decide)) (fun _ => ?_)
          refine aw_lload12 dL_kept_750 ?_
          refine aw_lload10 dL_kept_752 ?_
          refine ai_lif_ne (tgt := 762) dL_kept_754 dL_kept_755 (by decide) (by omega) (by omega) (by omega) (by omega) (fun c_754 => ?_) (fun c_754 => absurd c_754 (by omega))
          refine aw_iconst (v := iI (0)) dL_kept_762 rfl ?_
          refine aw_lload14 dL_kept_763 ?_
          refine aw_iload1 dL_kept_765 ?_
          refine ai_i2l dL_kept_766 (by omega) (by omega) ?_
          refine ai_lif_ne (tgt := 775) dL_kept_767 dL_kept_768 (by decide) (by omega) (by omega) (by omega) (by omega) (fun c_767 => ?_) (fun c_767 => absurd c_767 (by omega))
          refine aw_iconst (v := iI (0)) dL_kept_775 rfl ?_
          refine ai_ic_ne (tgt := 783) dL_kept_776 (by decide) (by omega) (by omega) (by omega) (by omega) (fun c_776 => absurd c_776 (by decide)) (fun _ => ?_)
          refine aw_iconst (v := iI (1)) dL_kept_779 rfl ?_
          refine aw_goto (tgt := 784) dL_kept_780 (by decide) ?_
          refine aw_istore4 dL_kept_784 (Nat.le_of_ble_eq_true rfl) rfl ?_
          refine aw_iinc7 (w := (iI (((i + 1 : Nat) : Int)))) dL_kept_786 (iinc_N rfl) (Nat.le_of_ble_eq_true rfl) rfl ?_
          refine aw_goto (tgt := 500) dL_kept_789 (by decide) ?_
          refine AW.loc (ls' := [some (.ref 0), some (.int (iI ((tn (stG s) : Int)))), some (.int (iI ((rn (stG s) : Int)))), some (.int (iI ((bn (stG s) : Int)))), some (.int (iI (1))), some (.long (lI (sm (stG s) (bn (stG s))))), none, some (.int (iI (((i + 1 : Nat) : Int)))), none, none, none, none, none, none, none, none]) (loc_c (loc_c (loc_c (loc_c (loc_c (loc_c (loc_n (loc_c (loc_n (loc_n (loc_n (loc_n (loc_n (loc_n (loc_n loc_r))))))))))))))) ?_
          exact ih (i + 1) (by omega) (by omega) _ i_744 _ _ (by omega) (by omega)
        | none, none =>
          have hfh := fHeater_nn hfc hfn
          refine aw_aload0 dL_kept_511 ?_
          refine aw_iload7 dL_kept_512 ?_
          refine aw_iconst (v := iI (4)) dL_kept_514 rfl ?_
          refine ac_SH (As := [.ref 0, .int (iI ((i : Int))), .int (iI (4))]) (qL_room h _ _) dL_kept_515 sl_L_111 (by decide) (Nat.le_of_ble_eq_true rfl) hb hs (B2 := 6888) (B2' := 41328) rfl rfl (by omega) (by omega) (fun τ_515 r_515 c_ s_ h_515 hb_ hs_ => ?_)
          replace hb := hb_
          replace hs := hs_
          clear hb_ hs_
          obtain ⟨v_515, rfl, i_515, e_515⟩ := h_515
          obtain rfl : (lI (-99)) = v_515 := (((room_v (r := i) (k := 4) (by omega) (by omega) rfl rfl (by omega)).trans ((oI_Z (x := fCur (stG s) i (bn (stG s))) (fun b hb => by have := fCur_lt hb; omega)).trans (by rw [hfc]; rfl))).symm.trans e_515)
          refine aw_lstore8 dL_kept_518 (Nat.le_of_ble_eq_true rfl) rfl ?_
          refine aw_aload0 dL_kept_520 ?_
          refine aw_iload7 dL_kept_521 ?_
          refine aw_iconst (v := iI (5)) dL_kept_523 rfl ?_
          refine ac_SH (As := [.ref 0, .int (iI ((i : Int))), .int (iI (5))]) (qL_room i_515 _ _) dL_kept_524 sl_L_111 (by decide) (Nat.le_of_ble_eq_true rfl) hb hs (B2 := 6896) (B2' := 41376) rfl rfl (by omega) (by omega) (fun τ_524 r_524 c_ s_ h_524 hb_ hs_ => ?_)
          replace hb := hb_
          replace hs := hs_
          clear hb_ hs_
          obtain ⟨v_524, rfl, i_524, e_524⟩ := h_524
          obtain rfl : (lI (-99)) = v_524 := (((room_v (r := i) (k := 5) (by omega) (by omega) rfl rfl (by omega)).trans ((oI_Z (x := fNxt (stG s) i (bn (stG s))) (fun b hb => by have := fNxt_lt hb; omega)).trans (by rw [hfn]; rfl))).symm.trans e_524)
          refine aw_lstore10 dL_kept_527 (Nat.le_of_ble_eq_true rfl) rfl ?_
          refine aw_aload0 dL_kept_529 ?_
          refine aw_iload7 dL_kept_530 ?_
          refine aw_bipush (v := iI (6)) dL_kept_532 (by decide) ?_
          refine ac_SH (As := [.ref 0, .int (iI ((i : Int))), .int (iI (6))]) (qL_room i_524 _ _) dL_kept_534 sl_L_111 (by decide) (Nat.le_of_ble_eq_true rfl) hb hs (B2 := 6904) (B2' := 41424) rfl rfl (by omega) (by omega) (fun τ_534 r_534 c_ s_ h_534 hb_ hs_ => ?_)
          replace hb := hb_
          replace hs := hs_
          clear hb_ hs_
          obtain ⟨v_534, rfl, i_534, e_534⟩ := h_534
          obtain rfl : (lI (-99)) = v_534 := (((room_v (r := i) (k := 6) (by omega) (by omega) rfl rfl (by omega)).trans ((oI_Z (x := fHeater (stG s) i (bn (stG s))) (fun b hb => by have := fHeater_lt hb; omega)).trans (by rw [hfh]; rfl))).symm.trans e_534)
          refine aw_lstore12 dL_kept_537 (Nat.le_of_ble_eq_true rfl) rfl ?_
          refine aw_lload8 dL_kept_539 ?_
          refine aw_ldc2 (v := lI (-99)) dL_kept_541 kx_L_151 ?_
          refine ai_lif_eq (tgt := 612) dL_kept_544 dL_kept_545 (by decide) (by omega) (by omega) (by omega) (by omega) (fun c_544 => ?_) (fun c_544 => absurd c_544 (by omega))
          refine aw_lload10 dL_kept_612 ?_
          refine aw_ldc2 (v := lI (-99)) dL_kept_614 kx_L_151 ?_
          refine ai_lif_eq (tgt := 650) dL_kept_617 dL_kept_618 (by decide) (by omega) (by omega) (by omega) (by omega) (fun c_617 => ?_) (fun c_617 => absurd c_617 (by omega))
          refine aw_lload12 dL_kept_650 ?_
          refine aw_lload8 dL_kept_652 ?_
          refine ai_lif_eq (tgt := 684) dL_kept_654 dL_kept_655 (by decide) (by omega) (by omega) (by omega) (by omega) (fun c_654 => ?_) (fun c_654 => absurd c_654 (by omega))
          refine aw_aload0 dL_kept_684 ?_
          refine aw_iload7 dL_kept_685 ?_
          refine aw_iconst (v := iI (0)) dL_kept_687 rfl ?_
          refine ac_SH (As := [.ref 0, .int (iI ((i : Int))), .int (iI (0))]) (qL_later i_534 _ _) dL_kept_688 sl_L_124 (by decide) (Nat.le_of_ble_eq_true rfl) hb hs (B2 := 6912) (B2' := 41472) rfl rfl (by omega) (by omega) (fun τ_688 r_688 c_ s_ h_688 hb_ hs_ => ?_)
          replace hb := hb_
          replace hs := hs_
          clear hb_ hs_
          obtain ⟨v_688, rfl, i_688, e_688⟩ := h_688
          obtain rfl : ((stG s (9 + 4 * i + 3)).toInt64) = v_688 := ((later_v (r := i) (h := 0) (by omega) (by omega) rfl rfl (by omega)).symm.trans e_688)
          refine aw_aload0 dL_kept_691 ?_
          refine aw_iload7 dL_kept_692 ?_
          refine aw_iconst (v := iI (3)) dL_kept_694 rfl ?_
          refine ac_SH (As := [.ref 0, .int (iI ((i : Int))), .int (iI (3))]) (qL_room i_688 _ _) dL_kept_695 sl_L_111 (by decide) (Nat.le_of_ble_eq_true rfl) hb hs (B2 := 6920) (B2' := 41520) rfl rfl (by omega) (by omega) (fun τ_695 r_695 c_ s_ h_695 hb_ hs_ => ?_)
          replace hb := hb_
          replace hs := hs_
          clear hb_ hs_
          obtain ⟨v_695, rfl, i_695, e_695⟩ := h_695
          obtain rfl : ((stG s (9 + 4 * i + 3)).toInt64) = v_695 := ((room_v (r := i) (k := 3) (by omega) (by omega) rfl rfl (by omega)).symm.trans e_695)
          refine al_if_ne (tgt := 706) dL_kept_698 dL_kept_699 (by decide) (fun c_698 => absurd rfl c_698) (fun _ => ?_)
          refine aw_iconst (v := iI (1)) dL_kept_702 rfl ?_
          refine aw_goto (tgt := 707) dL_kept_703 (by decide) ?_
          refine aw_istore4 dL_kept_707 (Nat.le_of_ble_eq_true rfl) rfl ?_
          refine aw_lload10 dL_kept_709 ?_
          refine aw_ldc2 (v := lI (-99)) dL_kept_711 kx_L_151 ?_
          refine ai_lif_eq (tgt := 786) dL_kept_714 dL_kept_715 (by decide) (by omega) (by omega) (by omega) (by omega) (fun c_714 => ?_) (fun c_714 => absurd c_714 (by omega))
          refine aw_iinc7 (w := (iI (((i + 1 : Nat) : Int)))) dL_kept_786 (iinc_N rfl) (Nat.le_of_ble_eq_true rfl) rfl ?_
          refine aw_goto (tgt := 500) dL_kept_789 (by decide) ?_
          refine AW.loc (ls' := [some (.ref 0), some (.int (iI ((tn (stG s) : Int)))), some (.int (iI ((rn (stG s) : Int)))), some (.int (iI ((bn (stG s) : Int)))), some (.int (iI (1))), some (.long (lI (sm (stG s) (bn (stG s))))), none, some (.int (iI (((i + 1 : Nat) : Int)))), none, none, none, none, none, none, none, none]) (loc_c (loc_c (loc_c (loc_c (loc_c (loc_c (loc_n (loc_c (loc_n (loc_n (loc_n (loc_n (loc_n loc_r))))))))))))) ?_
          exact ih (i + 1) (by omega) (by omega) _ i_695 _ _ (by omega) (by omega)
        | none, some c =>
          rcases fHeater_nc hfc hfn with hfh | hfh
          · obtain ⟨p1, p2, p3⟩ := nxt_Z hw (by omega) hfn
            have y0 : zz (stG s) (31 + 10 * c + 0) = i := zz_nI p2 (by omega)
            obtain ⟨p4, p5, p6⟩ := bg_nxt (by omega) hw (by omega) hfn
            have p7 := (bk_Z hW (by omega) p1).2.2.1
            have p8 := p6.mpr hfh
            refine aw_aload0 dL_kept_511 ?_
            refine aw_iload7 dL_kept_512 ?_
            refine aw_iconst (v := iI (4)) dL_kept_514 rfl ?_
            refine ac_SH (As := [.ref 0, .int (iI ((i : Int))), .int (iI (4))]) (qL_room h _ _) dL_kept_515 sl_L_111 (by decide) (Nat.le_of_ble_eq_true rfl) hb hs (B2 := 6888) (B2' := 41328) rfl rfl (by omega) (by omega) (fun τ_515 r_515 c_ s_ h_515 hb_ hs_ => ?_)
            replace hb := hb_
            replace hs := hs_
            clear hb_ hs_
            obtain ⟨v_515, rfl, i_515, e_515⟩ := h_515
            obtain rfl : (lI (-99)) = v_515 := (((room_v (r := i) (k := 4) (by omega) (by omega) rfl rfl (by omega)).trans ((oI_Z (x := fCur (stG s) i (bn (stG s))) (fun b hb => by have := fCur_lt hb; omega)).trans (by rw [hfc]; rfl))).symm.trans e_515)
            refine aw_lstore8 dL_kept_518 (Nat.le_of_ble_eq_true rfl) rfl ?_
            refine aw_aload0 dL_kept_520 ?_
            refine aw_iload7 dL_kept_521 ?_
            refine aw_iconst (v := iI (5)) dL_kept_523 rfl ?_
            refine ac_SH (As := [.ref 0, .int (iI ((i : Int))), .int (iI (5))]) (qL_room i_515 _ _) dL_kept_524 sl_L_111 (by decide) (Nat.le_of_ble_eq_true rfl) hb hs (B2 := 6896) (B2' := 41376) rfl rfl (by omega) (by omega) (fun τ_524 r_524 c_ s_ h_524 hb_ hs_ => ?_)
            replace hb := hb_
            replace hs := hs_
            clear hb_ hs_
            obtain ⟨v_524, rfl, i_524, e_524⟩ := h_524
            obtain rfl : (lI ((c : Int))) = v_524 := (((room_v (r := i) (k := 5) (by omega) (by omega) rfl rfl (by omega)).trans ((oI_Z (x := fNxt (stG s) i (bn (stG s))) (fun b hb => by have := fNxt_lt hb; omega)).trans (by rw [hfn]; rfl))).symm.trans e_524)
            refine aw_lstore10 dL_kept_527 (Nat.le_of_ble_eq_true rfl) rfl ?_
            refine aw_aload0 dL_kept_529 ?_
            refine aw_iload7 dL_kept_530 ?_
            refine aw_bipush (v := iI (6)) dL_kept_532 (by decide) ?_
            refine ac_SH (As := [.ref 0, .int (iI ((i : Int))), .int (iI (6))]) (qL_room i_524 _ _) dL_kept_534 sl_L_111 (by decide) (Nat.le_of_ble_eq_true rfl) hb hs (B2 := 6904) (B2' := 41424) rfl rfl (by omega) (by omega) (fun τ_534 r_534 c_ s_ h_534 hb_ hs_ => ?_)
            replace hb := hb_
            replace hs := hs_
            clear hb_ hs_
            obtain ⟨v_534, rfl, i_534, e_534⟩ := h_534
            obtain rfl : (lI ((c : Int))) = v_534 := (((room_v (r := i) (k := 6) (by omega) (by omega) rfl rfl (by omega)).trans ((oI_Z (x := fHeater (stG s) i (bn (stG s))) (fun b hb => by have := fHeater_lt hb; omega)).trans (by rw [hfh]; rfl))).symm.trans e_534)
            refine aw_lstore12 dL_kept_537 (Nat.le_of_ble_eq_true rfl) rfl ?_
            refine aw_lload8 dL_kept_539 ?_
            refine aw_ldc2 (v := lI (-99)) dL_kept_541 kx_L_151 ?_
            refine ai_lif_eq (tgt := 612) dL_kept_544 dL_kept_545 (by decide) (by omega) (by omega) (by omega) (by omega) (fun c_544 => ?_) (fun c_544 => absurd c_544 (by omega))
            refine aw_lload10 dL_kept_612 ?_
            refine aw_ldc2 (v := lI (-99)) dL_kept_614 kx_L_151 ?_
            refine ai_lif_eq (tgt := 650) dL_kept_617 dL_kept_618 (by decide) (by omega) (by omega) (by omega) (by omega) (fun c_617 => absurd c_617 (by omega)) (fun c_617 => ?_)
            refine aw_aload0 dL_kept_621 ?_
            refine aw_lload10 dL_kept_622 ?_
            refine ai_l2i dL_kept_624 ?_
            refine aw_iconst (v := iI (0)) dL_kept_625 rfl ?_
            refine ac_SH (As := [.ref 0, .int (iI ((c : Int))), .int (iI (0))]) (qL_booking i_534 _ _) dL_kept_626 sl_L_118 (by decide) (Nat.le_of_ble_eq_true rfl) hb hs (B2 := 6912) (B2' := 41472) rfl rfl (by omega) (by omega) (fun τ_626 r_626 c_ s_ h_626 hb_ hs_ => ?_)
            replace hb := hb_
            replace hs := hs_
            clear hb_ hs_
            obtain ⟨v_626, rfl, i_626, e_626⟩ := h_626
            obtain rfl : (lI (zz (stG s) (31 + 10 * c + 0))) = v_626 := (((booking_v (b := c) (k := 0) (by omega) (by omega) rfl rfl (by omega)).trans (bookV_Z (by omega))).symm.trans e_626)
            refine aw_iload7 dL_kept_629 ?_
            refine ai_i2l dL_kept_631 (by omega) (by omega) ?_
            refine ai_lif_ne (tgt := 706) dL_kept_632 dL_kept_633 (by decide) (by omega) (by omega) (by omega) (by omega) (fun c_632 => absurd c_632 (by omega)) (fun c_632 => ?_)
            refine aw_aload0 dL_kept_636 ?_
            refine aw_lload10 dL_kept_637 ?_
            refine ai_l2i dL_kept_639 ?_
            refine aw_iconst (v := iI (2)) dL_kept_640 rfl ?_
            refine ac_SH (As := [.ref 0, .int (iI ((c : Int))), .int (iI (2))]) (qL_booking i_626 _ _) dL_kept_641 sl_L_118 (by decide) (Nat.le_of_ble_eq_true rfl) hb hs (B2 := 6920) (B2' := 41520) rfl rfl (by omega) (by omega) (fun τ_641 r_641 c_ s_ h_641 hb_ hs_ => ?_)
            replace hb := hb_
            replace hs := hs_
            clear hb_ hs_
            obtain ⟨v_641, rfl, i_641, e_641⟩ := h_641
            obtain rfl : (lI (zz (stG s) (31 + 10 * c + 2))) = v_641 := (((booking_v (b := c) (k := 2) (by omega) (by omega) rfl rfl (by omega)).trans (bookV_Z (by omega))).symm.trans e_641)
            refine aw_iload1 dL_kept_644 ?_
            refine ai_i2l dL_kept_645 (by omega) (by omega) ?_
            refine ai_lif_le (tgt := 706) dL_kept_646 dL_kept_647 (by decide) (by omega) (by omega) (by omega) (by omega) (fun c_646 => absurd c_646 (by omega)) (fun c_646 => ?_)
            refine aw_lload12 dL_kept_650 ?_
            refine aw_lload8 dL_kept_652 ?_
            refine ai_lif_eq (tgt := 684) dL_kept_654 dL_kept_655 (by decide) (by omega) (by omega) (by omega) (by omega) (fun c_654 => absurd c_654 (by omega)) (fun c_654 => ?_)
            refine aw_lload8 dL_kept_658 ?_
            refine aw_ldc2 (v := lI (-99)) dL_kept_660 kx_L_151 ?_
            refine ai_lif_ne (tgt := 706) dL_kept_663 dL_kept_664 (by decide) (by omega) (by omega) (by omega) (by omega) (fun c_663 => absurd c_663 (by omega)) (fun c_663 => ?_)
            refine aw_lload12 dL_kept_667 ?_
            refine aw_ldc2 (v := lI (-99)) dL_kept_669 kx_L_151 ?_
            refine ai_lif_eq (tgt := 684) dL_kept_672 dL_kept_673 (by decide) (by omega) (by omega) (by omega) (by omega) (fun c_672 => absurd c_672 (by omega)) (fun c_672 => ?_)
            refine aw_lload12 dL_kept_676 ?_
            refine aw_lload10 dL_kept_678 ?_
            refine ai_lif_ne (tgt := 706) dL_kept_680 dL_kept_681 (by decide) (by omega) (by omega) (by omega) (by omega) (fun c_680 => absurd c_680 (by omega)) (fun c_680 => ?_)
            refine aw_aload0 dL_kept_684 ?_
            refine aw_iload7 dL_kept_685 ?_
            refine aw_iconst (v := iI (0)) dL_kept_687 rfl ?_
            refine ac_SH (As := [.ref 0, .int (iI ((i : Int))), .int (iI (0))]) (qL_later i_641 _ _) dL_kept_688 sl_L_124 (by decide) (Nat.le_of_ble_eq_true rfl) hb hs (B2 := 6928) (B2' := 41568) rfl rfl (by omega) (by omega) (fun τ_688 r_688 c_ s_ h_688 hb_ hs_ => ?_)
            replace hb := hb_
            replace hs := hs_
            clear hb_ hs_
            obtain ⟨v_688, rfl, i_688, e_688⟩ := h_688
            obtain rfl : ((stG s (9 + 4 * i + 3)).toInt64) = v_688 := ((later_v (r := i) (h := 0) (by omega) (by omega) rfl rfl (by omega)).symm.trans e_688)
            refine aw_aload0 dL_kept_691 ?_
            refine aw_iload7 dL_kept_692 ?_
            refine aw_iconst (v := iI (3)) dL_kept_694 rfl ?_
            refine ac_SH (As := [.ref 0, .int (iI ((i : Int))), .int (iI (3))]) (qL_room i_688 _ _) dL_kept_695 sl_L_111 (by decide) (Nat.le_of_ble_eq_true rfl) hb hs (B2 := 6936) (B2' := 41616) rfl rfl (by omega) (by omega) (fun τ_695 r_695 c_ s_ h_695 hb_ hs_ => ?_)
            replace hb := hb_
            replace hs := hs_
            clear hb_ hs_
            obtain ⟨v_695, rfl, i_695, e_695⟩ := h_695
            obtain rfl : ((stG s (9 + 4 * i + 3)).toInt64) = v_695 := ((room_v (r := i) (k := 3) (by omega) (by omega) rfl rfl (by omega)).symm.trans e_695)
            refine al_if_ne (tgt := 706) dL_kept_698 dL_kept_699 (by decide) (fun c_698 => absurd rfl c_698) (fun _ => ?_)
            refine aw_iconst (v := iI (1)) dL_kept_702 rfl ?_
            refine aw_goto (tgt := 707) dL_kept_703 (by decide) ?_
            refine aw_istore4 dL_kept_707 (Nat.le_of_ble_eq_true rfl) rfl ?_
            refine aw_lload10 dL_kept_709 ?_
            refine aw_ldc2 (v := lI (-99)) dL_kept_711 kx_L_151 ?_
            refine ai_lif_eq (tgt := 786) dL_kept_714 dL_kept_715 (by decide) (by omega) (by omega) (by omega) (by omega) (fun c_714 => absurd c_714 (by omega)) (fun c_714 => ?_)
            refine aw_iload4 dL_kept_718 ?_
            refine ai_if_eq (tgt := 786) dL_kept_720 (by decide) (by omega) (by omega) (fun c_720 => absurd c_720 (by decide)) (fun _ => ?_)
            refine aw_aload0 dL_kept_723 ?_
            refine aw_lload10 dL_kept_724 ?_
            refine ai_l2i dL_kept_726 ?_
            refine ac_SH (As := [.ref 0, .int (iI ((c : Int)))]) (qL_begins i_695 _) dL_kept_727 sl_L_147 (by decide) (Nat.le_of_ble_eq_true rfl) hb hs (B2 := 6944) (B2' := 41664) rfl rfl (by omega) (by omega) (fun τ_727 r_727 c_ s_ h_727 hb_ hs_ => ?_)
            replace hb := hb_
            replace hs := hs_
            clear hb_ hs_
            obtain ⟨v_727, rfl, i_727, e_727⟩ := h_727
            obtain rfl : (lI (bgZ (stG s) c)) = v_727 := (((begins_v (b := c) (by omega) rfl (by omega)).trans (i2l_I _)).symm.trans e_727)
            refine aw_lstore14 dL_kept_730 (Nat.le_of_ble_eq_true rfl) rfl ?_
            refine aw_lload14 dL_kept_732 ?_
            refine aw_iload1 dL_kept_734 ?_
            refine ai_i2l dL_kept_735 (by omega) (by omega) ?_
            refine aw_aload0 dL_kept_736 ?_
            refine aw_lload10 dL_kept_737 ?_
            refine ai_l2i dL_kept_739 ?_
            refine aw_iconst (v := iI (2)) dL_kept_740 rfl ?_
            refine ac_SH (As := [.ref 0, .int (iI ((c : Int))), .int (iI (2))]) (qL_booking i_727 _ _) dL_kept_741 sl_L_118 (by decide) (Nat.le_of_ble_eq_true rfl) hb hs (B2 := 6952) (B2' := 41712) rfl rfl (by omega) (by omega) (fun τ_741 r_741 c_ s_ h_741 hb_ hs_ => ?_)
            replace hb := hb_
            replace hs := hs_
            clear hb_ hs_
            obtain ⟨v_741, rfl, i_741, e_741⟩ := h_741
            obtain rfl : (lI (zz (stG s) (31 + 10 * c + 2))) = v_741 := (((booking_v (b := c) (k := 2) (by omega) (by omega) rfl rfl (by omega)).trans (bookV_Z (by omega))).symm.trans e_741)
            refine ac_S (As := [.long (lI (bgZ (stG s) c)), .long (lI ((tn (stG s) : Int))), .long (lI (zz (stG s) (31 + 10 * c + 2)))]) (k_in i_741 (v := bgZ (stG s) c) (a := (tn (stG s) : Int)) (b := zz (stG s) (31 + 10 * c + 2)) (by omega) (by omega) (by omega)) dL_kept_744 sl_L_170 (by decide) (Nat.le_of_ble_eq_true rfl) hb hs (B2 := 6952) (B2' := 41712) rfl rfl (by omega) (by omega) (fun τ_744 r_744 c_ s_ h_744 hb_ hs_ => ?_)
            replace hb := hb_
            replace hs := hs_
            clear hb_ hs_
            obtain ⟨v_744, rfl, i_744, e_744⟩ := h_744
            obtain rfl : (iI (1)) = v_744 := e_744
            refine ai_if_eq (tgt := 783) dL_kept_747 (by decide) (by omega) (by omega) (fun c_747 => absurd c_747 (by decide)) (fun _ => ?_)
            refine aw_lload12 dL_kept_750 ?_
            refine aw_lload10 dL_kept_752 ?_
            refine ai_lif_ne (tgt := 762) dL_kept_754 dL_kept_755 (by decide) (by omega) (by omega) (by omega) (by omega) (fun c_754 => absurd c_754 (by omega)) (fun c_754 => ?_)
            refine aw_iconst (v := iI (1)) dL_kept_758 rfl ?_
            refine aw_goto (tgt := 763) dL_kept_759 (by decide) ?_
            refine aw_lload14 dL_kept_763 ?_
            refine aw_iload1 dL_kept_765 ?_
            refine ai_i2l dL_kept_766 (by omega) (by omega) ?_
            refine ai_lif_ne (tgt := 775) dL_kept_767 dL_kept_768 (by decide) (by omega) (by omega) (by omega) (by omega) (fun c_767 => absurd c_767 (by omega)) (fun c_767 => ?_)
            refine aw_iconst (v := iI (1)) dL_kept_771 rfl ?_
            refine aw_goto (tgt := 776) dL_kept_772 (by decide) ?_
            refine ai_ic_ne (tgt := 783) dL_kept_776 (by decide) (by omega) (by omega) (by omega) (by omega) (fun c_776 => absurd c_776 (by decide)) (fun _ => ?_)
            refine aw_iconst (v := iI (1)) dL_kept_779 rfl ?_
            refine aw_goto (tgt := 784) dL_kept_780 (by decide) ?_
            refine aw_istore4 dL_kept_784 (Nat.le_of_ble_eq_true rfl) rfl ?_
            refine aw_iinc7 (w := (iI (((i + 1 : Nat) : Int)))) dL_kept_786 (iinc_N rfl) (Nat.le_of_ble_eq_true rfl) rfl ?_
            refine aw_goto (tgt := 500) dL_kept_789 (by decide) ?_
            refine AW.loc (ls' := [some (.ref 0), some (.int (iI ((tn (stG s) : Int)))), some (.int (iI ((rn (stG s) : Int)))), some (.int (iI ((bn (stG s) : Int)))), some (.int (iI (1))), some (.long (lI (sm (stG s) (bn (stG s))))), none, some (.int (iI (((i + 1 : Nat) : Int)))), none, none, none, none, none, none, none, none]) (loc_c (loc_c (loc_c (loc_c (loc_c (loc_c (loc_n (loc_c (loc_n (loc_n (loc_n (loc_n (loc_n (loc_n (loc_n loc_r))))))))))))))) ?_
            exact ih (i + 1) (by omega) (by omega) _ i_744 _ _ (by omega) (by omega)
          · obtain ⟨p1, p2, p3⟩ := nxt_Z hw (by omega) hfn
            have y0 : zz (stG s) (31 + 10 * c + 0) = i := zz_nI p2 (by omega)
            obtain ⟨p4, p5, p6⟩ := bg_nxt (by omega) hw (by omega) hfn
            have p7 := (bk_Z hW (by omega) p1).2.2.1
            have p8 : ¬ bgZ (stG s) c = tn (stG s) := fun z => by have := p6.mp z; rw [hfh] at this; cases this
            refine aw_aload0 dL_kept_511 ?_
            refine aw_iload7 dL_kept_512 ?_
            refine aw_iconst (v := iI (4)) dL_kept_514 rfl ?_
            refine ac_SH (As := [.ref 0, .int (iI ((i : Int))), .int (iI (4))]) (qL_room h _ _) dL_kept_515 sl_L_111 (by decide) (Nat.le_of_ble_eq_true rfl) hb hs (B2 := 6888) (B2' := 41328) rfl rfl (by omega) (by omega) (fun τ_515 r_515 c_ s_ h_515 hb_ hs_ => ?_)
            replace hb := hb_
            replace hs := hs_
            clear hb_ hs_
            obtain ⟨v_515, rfl, i_515, e_515⟩ := h_515
            obtain rfl : (lI (-99)) = v_515 := (((room_v (r := i) (k := 4) (by omega) (by omega) rfl rfl (by omega)).trans ((oI_Z (x := fCur (stG s) i (bn (stG s))) (fun b hb => by have := fCur_lt hb; omega)).trans (by rw [hfc]; rfl))).symm.trans e_515)
            refine aw_lstore8 dL_kept_518 (Nat.le_of_ble_eq_true rfl) rfl ?_
            refine aw_aload0 dL_kept_520 ?_
            refine aw_iload7 dL_kept_521 ?_
            refine aw_iconst (v := iI (5)) dL_kept_523 rfl ?_
            refine ac_SH (As := [.ref 0, .int (iI ((i : Int))), .int (iI (5))]) (qL_room i_515 _ _) dL_kept_524 sl_L_111 (by decide) (Nat.le_of_ble_eq_true rfl) hb hs (B2 := 6896) (B2' := 41376) rfl rfl (by omega) (by omega) (fun τ_524 r_524 c_ s_ h_524 hb_ hs_ => ?_)
            replace hb := hb_
            replace hs := hs_
            clear hb_ hs_
            obtain ⟨v_524, rfl, i_524, e_524⟩ := h_524
            obtain rfl : (lI ((c : Int))) = v_524 := (((room_v (r := i) (k := 5) (by omega) (by omega) rfl rfl (by omega)).trans ((oI_Z (x := fNxt (stG s) i (bn (stG s))) (fun b hb => by have := fNxt_lt hb; omega)).trans (by rw [hfn]; rfl))).symm.trans e_524)
            refine aw_lstore10 dL_kept_527 (Nat.le_of_ble_eq_true rfl) rfl ?_
            refine aw_aload0 dL_kept_529 ?_
            refine aw_iload7 dL_kept_530 ?_
            refine aw_bipush (v := iI (6)) dL_kept_532 (by decide) ?_
            refine ac_SH (As := [.ref 0, .int (iI ((i : Int))), .int (iI (6))]) (qL_room i_524 _ _) dL_kept_534 sl_L_111 (by decide) (Nat.le_of_ble_eq_true rfl) hb hs (B2 := 6904) (B2' := 41424) rfl rfl (by omega) (by omega) (fun τ_534 r_534 c_ s_ h_534 hb_ hs_ => ?_)
            replace hb := hb_
            replace hs := hs_
            clear hb_ hs_
            obtain ⟨v_534, rfl, i_534, e_534⟩ := h_534
            obtain rfl : (lI (-99)) = v_534 := (((room_v (r := i) (k := 6) (by omega) (by omega) rfl rfl (by omega)).trans ((oI_Z (x := fHeater (stG s) i (bn (stG s))) (fun b hb => by have := fHeater_lt hb; omega)).trans (by rw [hfh]; rfl))).symm.trans e_534)
            refine aw_lstore12 dL_kept_537 (Nat.le_of_ble_eq_true rfl) rfl ?_
            refine aw_lload8 dL_kept_539 ?_
            refine aw_ldc2 (v := lI (-99)) dL_kept_541 kx_L_151 ?_
            refine ai_lif_eq (tgt := 612) dL_kept_544 dL_kept_545 (by decide) (by omega) (by omega) (by omega) (by omega) (fun c_544 => ?_) (fun c_544 => absurd c_544 (by omega))
            refine aw_lload10 dL_kept_612 ?_
            refine aw_ldc2 (v := lI (-99)) dL_kept_614 kx_L_151 ?_
            refine ai_lif_eq (tgt := 650) dL_kept_617 dL_kept_618 (by decide) (by omega) (by omega) (by omega) (by omega) (fun c_617 => absurd c_617 (by omega)) (fun c_617 => ?_)
            refine aw_aload0 dL_kept_621 ?_
            refine aw_lload10 dL_kept_622 ?_
            refine ai_l2i dL_kept_624 ?_
            refine aw_iconst (v := iI (0)) dL_kept_625 rfl ?_
            refine ac_SH (As := [.ref 0, .int (iI ((c : Int))), .int (iI (0))]) (qL_booking i_534 _ _) dL_kept_626 sl_L_118 (by decide) (Nat.le_of_ble_eq_true rfl) hb hs (B2 := 6912) (B2' := 41472) rfl rfl (by omega) (by omega) (fun τ_626 r_626 c_ s_ h_626 hb_ hs_ => ?_)
            replace hb := hb_
            replace hs := hs_
            clear hb_ hs_
            obtain ⟨v_626, rfl, i_626, e_626⟩ := h_626
            obtain rfl : (lI (zz (stG s) (31 + 10 * c + 0))) = v_626 := (((booking_v (b := c) (k := 0) (by omega) (by omega) rfl rfl (by omega)).trans (bookV_Z (by omega))).symm.trans e_626)
            refine aw_iload7 dL_kept_629 ?_
            refine ai_i2l dL_kept_631 (by omega) (by omega) ?_
            refine ai_lif_ne (tgt := 706) dL_kept_632 dL_kept_633 (by decide) (by omega) (by omega) (by omega) (by omega) (fun c_632 => absurd c_632 (by omega)) (fun c_632 => ?_)
            refine aw_aload0 dL_kept_636 ?_
            refine aw_lload10 dL_kept_637 ?_
            refine ai_l2i dL_kept_639 ?_
            refine aw_iconst (v := iI (2)) dL_kept_640 rfl ?_
            refine ac_SH (As := [.ref 0, .int (iI ((c : Int))), .int (iI (2))]) (qL_booking i_626 _ _) dL_kept_641 sl_L_118 (by decide) (Nat.le_of_ble_eq_true rfl) hb hs (B2 := 6920) (B2' := 41520) rfl rfl (by omega) (by omega) (fun τ_641 r_641 c_ s_ h_641 hb_ hs_ => ?_)
            replace hb := hb_
            replace hs := hs_
            clear hb_ hs_
            obtain ⟨v_641, rfl, i_641, e_641⟩ := h_641
            obtain rfl : (lI (zz (stG s) (31 + 10 * c + 2))) = v_641 := (((booking_v (b := c) (k := 2) (by omega) (by omega) rfl rfl (by omega)).trans (bookV_Z (by omega))).symm.trans e_641)
            refine aw_iload1 dL_kept_644 ?_
            refine ai_i2l dL_kept_645 (by omega) (by omega) ?_
            refine ai_lif_le (tgt := 706) dL_kept_646 dL_kept_647 (by decide) (by omega) (by omega) (by omega) (by omega) (fun c_646 => absurd c_646 (by omega)) (fun c_646 => ?_)
            refine aw_lload12 dL_kept_650 ?_
            refine aw_lload8 dL_kept_652 ?_
            refine ai_lif_eq (tgt := 684) dL_kept_654 dL_kept_655 (by decide) (by omega) (by omega) (by omega) (by omega) (fun c_654 => ?_) (fun c_654 => absurd c_654 (by omega))
            refine aw_aload0 dL_kept_684 ?_
            refine aw_iload7 dL_kept_685 ?_
            refine aw_iconst (v := iI (0)) dL_kept_687 rfl ?_
            refine ac_SH (As := [.ref 0, .int (iI ((i : Int))), .int (iI (0))]) (qL_later i_641 _ _) dL_kept_688 sl_L_124 (by decide) (Nat.le_of_ble_eq_true rfl) hb hs (B2 := 6928) (B2' := 41568) rfl rfl (by omega) (by omega) (fun τ_688 r_688 c_ s_ h_688 hb_ hs_ => ?_)
            replace hb := hb_
            replace hs := hs_
            clear hb_ hs_
            obtain ⟨v_688, rfl, i_688, e_688⟩ := h_688
            obtain rfl : ((stG s (9 + 4 * i + 3)).toInt64) = v_688 := ((later_v (r := i) (h := 0) (by omega) (by omega) rfl rfl (by omega)).symm.trans e_688)
            refine aw_aload0 dL_kept_691 ?_
            refine aw_iload7 dL_kept_692 ?_
            refine aw_iconst (v := iI (3)) dL_kept_694 rfl ?_
            refine ac_SH (As := [.ref 0, .int (iI ((i : Int))), .int (iI (3))]) (qL_room i_688 _ _) dL_kept_695 sl_L_111 (by decide) (Nat.le_of_ble_eq_true rfl) hb hs (B2 := 6936) (B2' := 41616) rfl rfl (by omega) (by omega) (fun τ_695 r_695 c_ s_ h_695 hb_ hs_ => ?_)
            replace hb := hb_
            replace hs := hs_
            clear hb_ hs_
            obtain ⟨v_695, rfl, i_695, e_695⟩ := h_695
            obtain rfl : ((stG s (9 + 4 * i + 3)).toInt64) = v_695 := ((room_v (r := i) (k := 3) (by omega) (by omega) rfl rfl (by omega)).symm.trans e_695)
            refine al_if_ne (tgt := 706) dL_kept_698 dL_kept_699 (by decide) (fun c_698 => absurd rfl c_698) (fun _ => ?_)
            refine aw_iconst (v := iI (1)) dL_kept_702 rfl ?_
            refine aw_goto (tgt := 707) dL_kept_703 (by decide) ?_
            refine aw_istore4 dL_kept_707 (Nat.le_of_ble_eq_true rfl) rfl ?_
            refine aw_lload10 dL_kept_709 ?_
            refine aw_ldc2 (v := lI (-99)) dL_kept_711 kx_L_151 ?_
            refine ai_lif_eq (tgt := 786) dL_kept_714 dL_kept_715 (by decide) (by omega) (by omega) (by omega) (by omega) (fun c_714 => absurd c_714 (by omega)) (fun c_714 => ?_)
            refine aw_iload4 dL_kept_718 ?_
            refine ai_if_eq (tgt := 786) dL_kept_720 (by decide) (by omega) (by omega) (fun c_720 => absurd c_720 (by decide)) (fun _ => ?_)
            refine aw_aload0 dL_kept_723 ?_
            refine aw_lload10 dL_kept_724 ?_
            refine ai_l2i dL_kept_726 ?_
            refine ac_SH (As := [.ref 0, .int (iI ((c : Int)))]) (qL_begins i_695 _) dL_kept_727 sl_L_147 (by decide) (Nat.le_of_ble_eq_true rfl) hb hs (B2 := 6944) (B2' := 41664) rfl rfl (by omega) (by omega) (fun τ_727 r_727 c_ s_ h_727 hb_ hs_ => ?_)
            replace hb := hb_
            replace hs := hs_
            clear hb_ hs_
            obtain ⟨v_727, rfl, i_727, e_727⟩ := h_727
            obtain rfl : (lI (bgZ (stG s) c)) = v_727 := (((begins_v (b := c) (by omega) rfl (by omega)).trans (i2l_I _)).symm.trans e_727)
            refine aw_lstore14 dL_kept_730 (Nat.le_of_ble_eq_true rfl) rfl ?_
            refine aw_lload14 dL_kept_732 ?_
            refine aw_iload1 dL_kept_734 ?_
            refine ai_i2l dL_kept_735 (by omega) (by omega) ?_
            refine aw_aload0 dL_kept_736 ?_
            refine aw_lload10 dL_kept_737 ?_
            refine ai_l2i dL_kept_739 ?_
            refine aw_iconst (v := iI (2)) dL_kept_740 rfl ?_
            refine ac_SH (As := [.ref 0, .int (iI ((c : Int))), .int (iI (2))]) (qL_booking i_727 _ _) dL_kept_741 sl_L_118 (by decide) (Nat.le_of_ble_eq_true rfl) hb hs (B2 := 6952) (B2' := 41712) rfl rfl (by omega) (by omega) (fun τ_741 r_741 c_ s_ h_741 hb_ hs_ => ?_)
            replace hb := hb_
            replace hs := hs_
            clear hb_ hs_
            obtain ⟨v_741, rfl, i_741, e_741⟩ := h_741
            obtain rfl : (lI (zz (stG s) (31 + 10 * c + 2))) = v_741 := (((booking_v (b := c) (k := 2) (by omega) (by omega) rfl rfl (by omega)).trans (bookV_Z (by omega))).symm.trans e_741)
            refine ac_S (As := [.long (lI (bgZ (stG s) c)), .long (lI ((tn (stG s) : Int))), .long (lI (zz (stG s) (31 + 10 * c + 2)))]) (k_in i_741 (v := bgZ (stG s) c) (a := (tn (stG s) : Int)) (b := zz (stG s) (31 + 10 * c + 2)) (by omega) (by omega) (by omega)) dL_kept_744 sl_L_170 (by decide) (Nat.le_of_ble_eq_true rfl) hb hs (B2 := 6952) (B2' := 41712) rfl rfl (by omega) (by omega) (fun τ_744 r_744 c_ s_ h_744 hb_ hs_ => ?_)
            replace hb := hb_
            replace hs := hs_
            clear hb_ hs_
            obtain ⟨v_744, rfl, i_744, e_744⟩ := h_744
            obtain rfl : (iI (1)) = v_744 := e_744
            refine ai_if_eq (tgt := 783) dL_kept_747 (by decide) (by omega) (by omega) (fun c_747 => absurd c_747 (by decide)) (fun _ => ?_)
            refine aw_lload12 dL_kept_750 ?_
            refine aw_lload10 dL_kept_752 ?_
            refine ai_lif_ne (tgt := 762) dL_kept_754 dL_kept_755 (by decide) (by omega) (by omega) (by omega) (by omega) (fun c_754 => ?_) (fun c_754 => absurd c_754 (by omega))
            refine aw_iconst (v := iI (0)) dL_kept_762 rfl ?_
            refine aw_lload14 dL_kept_763 ?_
            refine aw_iload1 dL_kept_765 ?_
            refine ai_i2l dL_kept_766 (by omega) (by omega) ?_
            refine ai_lif_ne (tgt := 775) dL_kept_767 dL_kept_768 (by decide) (by omega) (by omega) (by omega) (by omega) (fun c_767 => ?_) (fun c_767 => absurd c_767 (by omega))
            refine aw_iconst (v := iI (0)) dL_kept_775 rfl ?_
            refine ai_ic_ne (tgt := 783) dL_kept_776 (by decide) (by omega) (by omega) (by omega) (by omega) (fun c_776 => absurd c_776 (by decide)) (fun _ => ?_)
            refine aw_iconst (v := iI (1)) dL_kept_779 rfl ?_
            refine aw_goto (tgt := 784) dL_kept_780 (by decide) ?_
            refine aw_istore4 dL_kept_784 (Nat.le_of_ble_eq_true rfl) rfl ?_
            refine aw_iinc7 (w := (iI (((i + 1 : Nat) : Int)))) dL_kept_786 (iinc_N rfl) (Nat.le_of_ble_eq_true rfl) rfl ?_
            refine aw_goto (tgt := 500) dL_kept_789 (by decide) ?_
            refine AW.loc (ls' := [some (.ref 0), some (.int (iI ((tn (stG s) : Int)))), some (.int (iI ((rn (stG s) : Int)))), some (.int (iI ((bn (stG s) : Int)))), some (.int (iI (1))), some (.long (lI (sm (stG s) (bn (stG s))))), none, some (.int (iI (((i + 1 : Nat) : Int)))), none, none, none, none, none, none, none, none]) (loc_c (loc_c (loc_c (loc_c (loc_c (loc_c (loc_n (loc_c (loc_n (loc_n (loc_n (loc_n (loc_n (loc_n (loc_n loc_r))))))))))))))) ?_
            exact ih (i + 1) (by omega) (by omega) _ i_744 _ _ (by omega) (by omega)
  have J186 : ∀ (k i : Nat) (h1 : i ≤ bn (stG s)) (h2 : bn (stG s) - i < k) (τ : Sg) (h : CI τ s) (cells slots : Nat) (hb : cells + 8 * (21 + 20 * rn (stG s) + 60 * (bn (stG s) - i)) ≤ 6880) (hs : slots + 48 * (21 + 20 * rn (stG s) + 60 * (bn (stG s) - i)) ≤ 41280), AW K yL_kept.cls cL_kept mL_kept 10 6880 41280 (Qm K NN (rI fun τ y0 => CI τ s ∧ iI 1 = y0) XF 6880 41280) NN none τ cells slots 186 [some (.ref 0), some (.int (iI ((tn (stG s) : Int)))), some (.int (iI ((rn (stG s) : Int)))), some (.int (iI ((bn (stG s) : Int)))), some (.int (iI (1))), some (.long (lI (sm (stG s) i))), none, some (.int (iI ((i : Int)))), none, none, none, none, none, none, none, none] [] := by
    intro k
    induction k with
    | zero => intro i h1 h2; exact absurd h2 (Nat.not_lt_zero _)
    | succ k ih =>
      intro i h1 h2 τ h cells slots hb hs
      refine aw_iload7 dL_kept_186 ?_
      refine aw_iload3 dL_kept_188 ?_
      refine ai_ic_ge (tgt := 497) dL_kept_189 (by decide) (by omega) (by omega) (by omega) (by omega) (fun c_189 => ?_) (fun c_189 => ?_)
      · obtain rfl : i = bn (stG s) := by omega
        refine aw_iconst (v := iI (0)) dL_kept_497 rfl ?_
        refine aw_istore7 dL_kept_498 (Nat.le_of_ble_eq_true rfl) rfl ?_
        exact J500 _ 0 (Nat.zero_le _) (Nat.lt_succ_self _) _ h _ _ (by omega) (by omega)
      · refine aw_iload4 dL_kept_192 ?_
        refine ai_if_eq (tgt := 497) dL_kept_194 (by decide) (by omega) (by omega) (fun c_194 => absurd c_194 (by decide)) (fun _ => ?_)
        have hin : i < bn (stG s) := by omega
        obtain ⟨k0, k1, k2, k3, k4, k5, k6, k7, k8, k9, k10, k11⟩ := bk_Z hW (by omega) hin
        have k12 := (ovr_Z hw (by omega) hin).2
        have J413 : ∀ (k j : Nat) (h1 : j ≤ i) (h2 : i - j < k) (τ : Sg) (h : CI τ s) (cells slots : Nat) (hb : cells + 8 * (21 + 20 * rn (stG s) + 60 * (bn (stG s) - (i + 1)) + 4 * (i - j)) ≤ 6880) (hs : slots + 48 * (21 + 20 * rn (stG s) + 60 * (bn (stG s) - (i + 1)) + 4 * (i - j)) ≤ 41280), AW K yL_kept.cls cL_kept mL_kept 10 6880 41280 (Qm K NN (rI fun τ y0 => CI τ s ∧ iI 1 = y0) XF 6880 41280) NN none τ cells slots 413 [some (.ref 0), some (.int (iI ((tn (stG s) : Int)))), some (.int (iI ((rn (stG s) : Int)))), some (.int (iI ((bn (stG s) : Int)))), some (.int (iI (1))), some (.long (lI (sm (stG s) (i + 1)))), none, some (.int (iI ((i : Int)))), some (.int (iI (zz (stG s) (31 + 10 * i + 2)))), some (.int (iI ((zz (stG s) (31 + 10 * i + 2) + zz (stG s) (31 + 10 * i + 3))))), some (.int (iI ((j : Int)))), none, none, none, none, none] [] := by
          intro k
          induction k with
          | zero => intro j h1 h2; exact absurd h2 (Nat.not_lt_zero _)
          | succ k ih2 =>
            intro j h1 h2 τ h cells slots hb hs
            refine aw_iload10 dL_kept_413 ?_
            refine aw_iload7 dL_kept_415 ?_
            refine ai_ic_ge (tgt := 491) dL_kept_417 (by decide) (by omega) (by omega) (by omega) (by omega) (fun c_417 => ?_) (fun c_417 => ?_)
            · refine aw_iinc7 (w := (iI (((i + 1 : Nat) : Int)))) dL_kept_491 (iinc_N rfl) (Nat.le_of_ble_eq_true rfl) rfl ?_
              refine aw_goto (tgt := 186) dL_kept_494 (by decide) ?_
              refine AW.loc (ls' := [some (.ref 0), some (.int (iI ((tn (stG s) : Int)))), some (.int (iI ((rn (stG s) : Int)))), some (.int (iI ((bn (stG s) : Int)))), some (.int (iI (1))), some (.long (lI (sm (stG s) (i + 1)))), none, some (.int (iI (((i + 1 : Nat) : Int)))), none, none, none, none, none, none, none, none]) (loc_c (loc_c (loc_c (loc_c (loc_c (loc_c (loc_n (loc_c (loc_n (loc_n (loc_n loc_r))))))))))) ?_
              exact ih (i + 1) (by omega) (by omega) _ h _ _ (by omega) (by omega)
            · refine aw_iload4 dL_kept_420 ?_
              refine ai_if_eq (tgt := 491) dL_kept_422 (by decide) (by omega) (by omega) (fun c_422 => absurd c_422 (by decide)) (fun _ => ?_)
              have hjn : j < bn (stG s) := by omega
              have v0 := ovl_Z hw hjn hin (by omega)
              have v1 := (bk_Z hW (by omega) hjn).2.2.1
              have v2 := (bk_Z hW (by omega) hjn).2.2.2.1
              have v3 := (bk_Z hW (by omega) hjn).1
              refine aw_aload0 dL_kept_425 ?_
              refine aw_iload10 dL_kept_426 ?_
              refine aw_iconst (v := iI (2)) dL_kept_428 rfl ?_
              refine ac_SH (As := [.ref 0, .int (iI ((j : Int))), .int (iI (2))]) (qL_booking h _ _) dL_kept_429 sl_L_118 (by decide) (Nat.le_of_ble_eq_true rfl) hb hs (B2 := 6888) (B2' := 41328) rfl rfl (by omega) (by omega) (fun τ_429 r_429 c_ s_ h_429 hb_ hs_ => ?_)
              replace hb := hb_
              replace hs := hs_
              clear hb_ hs_
              obtain ⟨v_429, rfl, i_429, e_429⟩ := h_429
              obtain rfl : (lI (zz (stG s) (31 + 10 * j + 2))) = v_429 := (((booking_v (b := j) (k := 2) (by omega) (by omega) rfl rfl (by omega)).trans (bookV_Z (by omega))).symm.trans e_429)
              refine ai_l2i dL_kept_432 ?_
              refine aw_istore11 dL_kept_433 (Nat.le_of_ble_eq_true rfl) rfl ?_
              refine aw_aload0 dL_kept_435 ?_
              refine aw_iload10 dL_kept_436 ?_
              refine aw_iconst (v := iI (0)) dL_kept_438 rfl ?_
              refine ac_SH (As := [.ref 0, .int (iI ((j : Int))), .int (iI (0))]) (qL_booking i_429 _ _) dL_kept_439 sl_L_118 (by decide) (Nat.le_of_ble_eq_true rfl) hb hs (B2 := 6896) (B2' := 41376) rfl rfl (by omega) (by omega) (fun τ_439 r_439 c_ s_ h_439 hb_ hs_ => ?_)
              replace hb := hb_
              replace hs := hs_
              clear hb_ hs_
              obtain ⟨v_439, rfl, i_439, e_439⟩ := h_439
              obtain rfl : (lI (zz (stG s) (31 + 10 * j + 0))) = v_439 := (((booking_v (b := j) (k := 0) (by omega) (by omega) rfl rfl (by omega)).trans (bookV_Z (by omega))).symm.trans e_439)
              refine aw_aload0 dL_kept_442 ?_
              refine aw_iload7 dL_kept_443 ?_
              refine aw_iconst (v := iI (0)) dL_kept_445 rfl ?_
              refine ac_SH (As := [.ref 0, .int (iI ((i : Int))), .int (iI (0))]) (qL_booking i_439 _ _) dL_kept_446 sl_L_118 (by decide) (Nat.le_of_ble_eq_true rfl) hb hs (B2 := 6904) (B2' := 41424) rfl rfl (by omega) (by omega) (fun τ_446 r_446 c_ s_ h_446 hb_ hs_ => ?_)
              replace hb := hb_
              replace hs := hs_
              clear hb_ hs_
              obtain ⟨v_446, rfl, i_446, e_446⟩ := h_446
              obtain rfl : (lI (zz (stG s) (31 + 10 * i + 0))) = v_446 := (((booking_v (b := i) (k := 0) (by omega) (by omega) rfl rfl (by omega)).trans (bookV_Z (by omega))).symm.trans e_446)
              refine ai_lif_ne (tgt := 478) dL_kept_449 dL_kept_450 (by decide) (by omega) (by omega) (by omega) (by omega) (fun c_449 => ?_) (fun c_449 => ?_)
              · refine aw_iconst (v := iI (1)) dL_kept_478 rfl ?_
                refine aw_goto (tgt := 483) dL_kept_479 (by decide) ?_
                refine aw_istore4 dL_kept_483 (Nat.le_of_ble_eq_true rfl) rfl ?_
                refine aw_iinc10 (w := (iI (((j + 1 : Nat) : Int)))) dL_kept_485 (iinc_N rfl) (Nat.le_of_ble_eq_true rfl) rfl ?_
                refine aw_goto (tgt := 413) dL_kept_488 (by decide) ?_
                refine AW.loc (ls' := [some (.ref 0), some (.int (iI ((tn (stG s) : Int)))), some (.int (iI ((rn (stG s) : Int)))), some (.int (iI ((bn (stG s) : Int)))), some (.int (iI (1))), some (.long (lI (sm (stG s) (i + 1)))), none, some (.int (iI ((i : Int)))), some (.int (iI (zz (stG s) (31 + 10 * i + 2)))), some (.int (iI ((zz (stG s) (31 + 10 * i + 2) + zz (stG s) (31 + 10 * i + 3))))), some (.int (iI (((j + 1 : Nat) : Int)))), none, none, none, none, none]) (loc_c (loc_c (loc_c (loc_c (loc_c (loc_c (loc_n (loc_c (loc_c (loc_c (loc_c (loc_n loc_r)))))))))))) ?_
                exact ih2 (j + 1) (by omega) (by omega) _ i_446 _ _ (by omega) (by omega)
              · refine aw_iload11 dL_kept_453 ?_
                refine aw_iload9 dL_kept_455 ?_
                refine ai_ic_ge (tgt := 478) dL_kept_457 (by decide) (by omega) (by omega) (by omega) (by omega) (fun c_457 => ?_) (fun c_457 => ?_)
                · refine aw_iconst (v := iI (1)) dL_kept_478 rfl ?_
                  refine aw_goto (tgt := 483) dL_kept_479 (by decide) ?_
                  refine aw_istore4 dL_kept_483 (Nat.le_of_ble_eq_true rfl) rfl ?_
                  refine aw_iinc10 (w := (iI (((j + 1 : Nat) : Int)))) dL_kept_485 (iinc_N rfl) (Nat.le_of_ble_eq_true rfl) rfl ?_
                  refine aw_goto (tgt := 413) dL_kept_488 (by decide) ?_
                  refine AW.loc (ls' := [some (.ref 0), some (.int (iI ((tn (stG s) : Int)))), some (.int (iI ((rn (stG s) : Int)))), some (.int (iI ((bn (stG s) : Int)))), some (.int (iI (1))), some (.long (lI (sm (stG s) (i + 1)))), none, some (.int (iI ((i : Int)))), some (.int (iI (zz (stG s) (31 + 10 * i + 2)))), some (.int (iI ((zz (stG s) (31 + 10 * i + 2) + zz (stG s) (31 + 10 * i + 3))))), some (.int (iI (((j + 1 : Nat) : Int)))), none, none, none, none, none]) (loc_c (loc_c (loc_c (loc_c (loc_c (loc_c (loc_n (loc_c (loc_c (loc_c (loc_c (loc_n loc_r)))))))))))) ?_
                  exact ih2 (j + 1) (by omega) (by omega) _ i_446 _ _ (by omega) (by omega)
                · refine aw_iload11 dL_kept_460 ?_
                  refine ai_i2l dL_kept_462 (by omega) (by omega) ?_
                  refine aw_aload0 dL_kept_463 ?_
                  refine aw_iload10 dL_kept_464 ?_
                  refine aw_iconst (v := iI (3)) dL_kept_466 rfl ?_
                  refine ac_SH (As := [.ref 0, .int (iI ((j : Int))), .int (iI (3))]) (qL_booking i_446 _ _) dL_kept_467 sl_L_118 (by decide) (Nat.le_of_ble_eq_true rfl) hb hs (B2 := 6912) (B2' := 41472) rfl rfl (by omega) (by omega) (fun τ_467 r_467 c_ s_ h_467 hb_ hs_ => ?_)
                  replace hb := hb_
                  replace hs := hs_
                  clear hb_ hs_
                  obtain ⟨v_467, rfl, i_467, e_467⟩ := h_467
                  obtain rfl : (lI (zz (stG s) (31 + 10 * j + 3))) = v_467 := (((booking_v (b := j) (k := 3) (by omega) (by omega) rfl rfl (by omega)).trans (bookV_Z (by omega))).symm.trans e_467)
                  refine ai_ladd dL_kept_470 ?_
                  refine aw_iload8 dL_kept_471 ?_
                  refine ai_i2l dL_kept_473 (by omega) (by omega) ?_
                  refine ai_lif_gt (tgt := 482) dL_kept_474 dL_kept_475 (by decide) (by omega) (by omega) (by omega) (by omega) (fun c_474 => absurd c_474 (by have := v0 (by omega); omega)) (fun c_474 => ?_)
                  refine aw_iconst (v := iI (1)) dL_kept_478 rfl ?_
                  refine aw_goto (tgt := 483) dL_kept_479 (by decide) ?_
                  refine aw_istore4 dL_kept_483 (Nat.le_of_ble_eq_true rfl) rfl ?_
                  refine aw_iinc10 (w := (iI (((j + 1 : Nat) : Int)))) dL_kept_485 (iinc_N rfl) (Nat.le_of_ble_eq_true rfl) rfl ?_
                  refine aw_goto (tgt := 413) dL_kept_488 (by decide) ?_
                  refine AW.loc (ls' := [some (.ref 0), some (.int (iI ((tn (stG s) : Int)))), some (.int (iI ((rn (stG s) : Int)))), some (.int (iI ((bn (stG s) : Int)))), some (.int (iI (1))), some (.long (lI (sm (stG s) (i + 1)))), none, some (.int (iI ((i : Int)))), some (.int (iI (zz (stG s) (31 + 10 * i + 2)))), some (.int (iI ((zz (stG s) (31 + 10 * i + 2) + zz (stG s) (31 + 10 * i + 3))))), some (.int (iI (((j + 1 : Nat) : Int)))), none, none, none, none, none]) (loc_c (loc_c (loc_c (loc_c (loc_c (loc_c (loc_n (loc_c (loc_c (loc_c (loc_c (loc_n loc_r)))))))))))) ?_
                  exact ih2 (j + 1) (by omega) (by omega) _ i_467 _ _ (by omega) (by omega)
        have J410 : ∀ (τ : Sg) (h : CI τ s) (cells slots : Nat) (hb : cells + 8 * (4 * i + 21 + 20 * rn (stG s) + 60 * (bn (stG s) - (i + 1))) ≤ 6880) (hs : slots + 48 * (4 * i + 21 + 20 * rn (stG s) + 60 * (bn (stG s) - (i + 1))) ≤ 41280), AW K yL_kept.cls cL_kept mL_kept 10 6880 41280 (Qm K NN (rI fun τ y0 => CI τ s ∧ iI 1 = y0) XF 6880 41280) NN none τ cells slots 410 [some (.ref 0), some (.int (iI ((tn (stG s) : Int)))), some (.int (iI ((rn (stG s) : Int)))), some (.int (iI ((bn (stG s) : Int)))), some (.int (iI (1))), some (.long (lI (sm (stG s) (i + 1)))), none, some (.int (iI ((i : Int)))), some (.int (iI (zz (stG s) (31 + 10 * i + 2)))), some (.int (iI ((zz (stG s) (31 + 10 * i + 2) + zz (stG s) (31 + 10 * i + 3))))), none, none, none, none, none, none] [] := by
          intro τ h cells slots hb hs
          refine aw_iconst (v := iI (0)) dL_kept_410 rfl ?_
          refine aw_istore10 dL_kept_411 (Nat.le_of_ble_eq_true rfl) rfl ?_
          exact J413 _ 0 (Nat.zero_le _) (Nat.lt_succ_self _) _ h _ _ (by omega) (by omega)
        have J403 : ∀ (τ : Sg) (h : CI τ s) (cells slots : Nat) (hb : cells + 8 * (4 * i + 21 + 20 * rn (stG s) + 60 * (bn (stG s) - (i + 1))) ≤ 6880) (hs : slots + 48 * (4 * i + 21 + 20 * rn (stG s) + 60 * (bn (stG s) - (i + 1))) ≤ 41280), AW K yL_kept.cls cL_kept mL_kept 10 6880 41280 (Qm K NN (rI fun τ y0 => CI τ s ∧ iI 1 = y0) XF 6880 41280) NN none τ cells slots 403 [some (.ref 0), some (.int (iI ((tn (stG s) : Int)))), some (.int (iI ((rn (stG s) : Int)))), some (.int (iI ((bn (stG s) : Int)))), some (.int (iI (1))), some (.long (lI (sm (stG s) (i + 1)))), none, some (.int (iI ((i : Int)))), some (.int (iI (zz (stG s) (31 + 10 * i + 2)))), some (.int (iI ((zz (stG s) (31 + 10 * i + 2) + zz (stG s) (31 + 10 * i + 3))))), none, none, none, none, none, none] [] := by
          intro τ h cells slots hb hs
          refine aw_iconst (v := iI (1)) dL_kept_403 rfl ?_
          refine aw_goto (tgt := 408) dL_kept_404 (by decide) ?_
          refine aw_istore4 dL_kept_408 (Nat.le_of_ble_eq_true rfl) rfl ?_
          exact J410 _ h _ _ (by omega) (by omega)
        have J384 : ∀ (τ : Sg) (h : CI τ s) (cells slots : Nat) (hb : cells + 8 * (1 + 4 * i + 21 + 20 * rn (stG s) + 60 * (bn (stG s) - (i + 1))) ≤ 6880) (hs : slots + 48 * (1 + 4 * i + 21 + 20 * rn (stG s) + 60 * (bn (stG s) - (i + 1))) ≤ 41280), AW K yL_kept.cls cL_kept mL_kept 10 6880 41280 (Qm K NN (rI fun τ y0 => CI τ s ∧ iI 1 = y0) XF 6880 41280) NN none τ cells slots 384 [some (.ref 0), some (.int (iI ((tn (stG s) : Int)))), some (.int (iI ((rn (stG s) : Int)))), some (.int (iI ((bn (stG s) : Int)))), some (.int (iI (1))), some (.long (lI (sm (stG s) (i + 1)))), none, some (.int (iI ((i : Int)))), some (.int (iI (zz (stG s) (31 + 10 * i + 2)))), some (.int (iI ((zz (stG s) (31 + 10 * i + 2) + zz (stG s) (31 + 10 * i + 3))))), none, none, none, none, none, none] [] := by
          intro τ h cells slots hb hs
          refine aw_iload1 dL_kept_384 ?_
          refine aw_iload8 dL_kept_385 ?_
          refine ai_ic_gt (tgt := 403) dL_kept_387 (by decide) (by omega) (by omega) (by omega) (by omega) (fun c_387 => ?_) (fun c_387 => ?_)
          · exact J403 _ h _ _ (by omega) (by omega)
          · refine aw_aload0 dL_kept_390 ?_
            refine aw_iload7 dL_kept_391 ?_
            refine aw_bipush (v := iI (6)) dL_kept_393 (by decide) ?_
            refine ac_SH (As := [.ref 0, .int (iI ((i : Int))), .int (iI (6))]) (qL_booking h _ _) dL_kept_395 sl_L_118 (by decide) (Nat.le_of_ble_eq_true rfl) hb hs (B2 := 6888) (B2' := 41328) rfl rfl (by omega) (by omega) (fun τ_395 r_395 c_ s_ h_395 hb_ hs_ => ?_)
            replace hb := hb_
            replace hs := hs_
            clear hb_ hs_
            obtain ⟨v_395, rfl, i_395, e_395⟩ := h_395
            obtain rfl : (lI (zz (stG s) (31 + 10 * i + 6))) = v_395 := (((booking_v (b := i) (k := 6) (by omega) (by omega) rfl rfl (by omega)).trans (bookV_Z (by omega))).symm.trans e_395)
            refine aw_lconst (v := lI (0)) dL_kept_398 (by decide) ?_
            refine ai_lif_ne (tgt := 407) dL_kept_399 dL_kept_400 (by decide) (by omega) (by omega) (by omega) (by omega) (fun c_399 => absurd c_399 (by omega)) (fun c_399 => ?_)
            exact J403 _ i_395 _ _ (by omega) (by omega)
        have J359 : ∀ (τ : Sg) (h : CI τ s) (cells slots : Nat) (hb : cells + 8 * (2 + 4 * i + 21 + 20 * rn (stG s) + 60 * (bn (stG s) - (i + 1))) ≤ 6880) (hs : slots + 48 * (2 + 4 * i + 21 + 20 * rn (stG s) + 60 * (bn (stG s) - (i + 1))) ≤ 41280), AW K yL_kept.cls cL_kept mL_kept 10 6880 41280 (Qm K NN (rI fun τ y0 => CI τ s ∧ iI 1 = y0) XF 6880 41280) NN none τ cells slots 359 [some (.ref 0), some (.int (iI ((tn (stG s) : Int)))), some (.int (iI ((rn (stG s) : Int)))), some (.int (iI ((bn (stG s) : Int)))), some (.int (iI (1))), some (.long (lI (sm (stG s) (i + 1)))), none, some (.int (iI ((i : Int)))), some (.int (iI (zz (stG s) (31 + 10 * i + 2)))), some (.int (iI ((zz (stG s) (31 + 10 * i + 2) + zz (stG s) (31 + 10 * i + 3))))), none, none, none, none, none, none] [] := by
          intro τ h cells slots hb hs
          refine aw_aload0 dL_kept_359 ?_
          refine aw_iload7 dL_kept_360 ?_
          refine aw_bipush (v := iI (7)) dL_kept_362 (by decide) ?_
          refine ac_SH (As := [.ref 0, .int (iI ((i : Int))), .int (iI (7))]) (qL_booking h _ _) dL_kept_364 sl_L_118 (by decide) (Nat.le_of_ble_eq_true rfl) hb hs (B2 := 6888) (B2' := 41328) rfl rfl (by omega) (by omega) (fun τ_364 r_364 c_ s_ h_364 hb_ hs_ => ?_)
          replace hb := hb_
          replace hs := hs_
          clear hb_ hs_
          obtain ⟨v_364, rfl, i_364, e_364⟩ := h_364
          obtain rfl : (lI (zz (stG s) (31 + 10 * i + 7))) = v_364 := (((booking_v (b := i) (k := 7) (by omega) (by omega) rfl rfl (by omega)).trans (bookV_Z (by omega))).symm.trans e_364)
          refine aw_lconst (v := lI (0)) dL_kept_367 (by decide) ?_
          refine ai_lif_eq (tgt := 384) dL_kept_368 dL_kept_369 (by decide) (by omega) (by omega) (by omega) (by omega) (fun c_368 => ?_) (fun c_368 => ?_)
          · exact J384 _ i_364 _ _ (by omega) (by omega)
          · refine aw_iload1 dL_kept_372 ?_
            refine aw_iload8 dL_kept_373 ?_
            refine ai_ic_lt (tgt := 407) dL_kept_375 (by decide) (by omega) (by omega) (by omega) (by omega) (fun c_375 => absurd c_375 (by omega)) (fun c_375 => ?_)
            refine aw_iload1 dL_kept_378 ?_
            refine aw_iload9 dL_kept_379 ?_
            refine ai_ic_ge (tgt := 407) dL_kept_381 (by decide) (by omega) (by omega) (by omega) (by omega) (fun c_381 => absurd c_381 (by omega)) (fun c_381 => ?_)
            exact J384 _ i_364 _ _ (by omega) (by omega)
        have J314 : ∀ (τ : Sg) (h : CI τ s) (cells slots : Nat) (hb : cells + 8 * (3 + 4 * i + 21 + 20 * rn (stG s) + 60 * (bn (stG s) - (i + 1))) ≤ 6880) (hs : slots + 48 * (3 + 4 * i + 21 + 20 * rn (stG s) + 60 * (bn (stG s) - (i + 1))) ≤ 41280), AW K yL_kept.cls cL_kept mL_kept 10 6880 41280 (Qm K NN (rI fun τ y0 => CI τ s ∧ iI 1 = y0) XF 6880 41280) NN none τ cells slots 314 [some (.ref 0), some (.int (iI ((tn (stG s) : Int)))), some (.int (iI ((rn (stG s) : Int)))), some (.int (iI ((bn (stG s) : Int)))), some (.int (iI (1))), some (.long (lI (sm (stG s) (i + 1)))), none, some (.int (iI ((i : Int)))), some (.int (iI (zz (stG s) (31 + 10 * i + 2)))), some (.int (iI ((zz (stG s) (31 + 10 * i + 2) + zz (stG s) (31 + 10 * i + 3))))), none, none, none, none, none, none] [] := by
          intro τ h cells slots hb hs
          refine aw_aload0 dL_kept_314 ?_
          refine aw_iload7 dL_kept_315 ?_
          refine aw_bipush (v := iI (8)) dL_kept_317 (by decide) ?_
          refine ac_SH (As := [.ref 0, .int (iI ((i : Int))), .int (iI (8))]) (qL_booking h _ _) dL_kept_319 sl_L_118 (by decide) (Nat.le_of_ble_eq_true rfl) hb hs (B2 := 6888) (B2' := 41328) rfl rfl (by omega) (by omega) (fun τ_319 r_319 c_ s_ h_319 hb_ hs_ => ?_)
          replace hb := hb_
          replace hs := hs_
          clear hb_ hs_
          obtain ⟨v_319, rfl, i_319, e_319⟩ := h_319
          obtain rfl : (lI (zz (stG s) (31 + 10 * i + 8))) = v_319 := (((booking_v (b := i) (k := 8) (by omega) (by omega) rfl rfl (by omega)).trans (bookV_Z (by omega))).symm.trans e_319)
          refine aw_lconst (v := lI (0)) dL_kept_322 (by decide) ?_
          refine aw_iload1 dL_kept_323 ?_
          refine aw_iload9 dL_kept_324 ?_
          refine ai_ic_le (tgt := 338) dL_kept_326 (by decide) (by omega) (by omega) (by omega) (by omega) (fun c_326 => ?_) (fun c_326 => ?_)
          · refine aw_iload1 dL_kept_338 ?_
            refine aw_iload8 dL_kept_339 ?_
            refine ai_ic_le (tgt := 352) dL_kept_341 (by decide) (by omega) (by omega) (by omega) (by omega) (fun c_341 => ?_) (fun c_341 => ?_)
            · refine aw_lconst (v := lI (0)) dL_kept_352 (by decide) ?_
              refine ac_S (As := [.long (lI (zz (stG s) (31 + 10 * i + 8))), .long (lI (0)), .long (lI (0))]) (k_in i_319 (v := zz (stG s) (31 + 10 * i + 8)) (a := 0) (b := 0) (by omega) (by omega) (by omega)) dL_kept_353 sl_L_170 (by decide) (Nat.le_of_ble_eq_true rfl) hb hs (B2 := 6888) (B2' := 41328) rfl rfl (by omega) (by omega) (fun τ_353 r_353 c_ s_ h_353 hb_ hs_ => ?_)
              replace hb := hb_
              replace hs := hs_
              clear hb_ hs_
              obtain ⟨v_353, rfl, i_353, e_353⟩ := h_353
              obtain rfl : (iI (1)) = v_353 := e_353
              refine ai_if_eq (tgt := 407) dL_kept_356 (by decide) (by omega) (by omega) (fun c_356 => absurd c_356 (by decide)) (fun _ => ?_)
              exact J359 _ i_353 _ _ (by omega) (by omega)
            · refine aw_iload1 dL_kept_344 ?_
              refine aw_iload8 dL_kept_345 ?_
              refine ai_isub dL_kept_347 ?_
              refine ai_i2l dL_kept_348 (by omega) (by omega) ?_
              refine aw_goto (tgt := 353) dL_kept_349 (by decide) ?_
              refine ac_S (As := [.long (lI (zz (stG s) (31 + 10 * i + 8))), .long (lI (0)), .long (lI (((tn (stG s) : Int) - zz (stG s) (31 + 10 * i + 2))))]) (k_in i_319 (v := zz (stG s) (31 + 10 * i + 8)) (a := 0) (b := ((tn (stG s) : Int) - zz (stG s) (31 + 10 * i + 2))) (by omega) (by omega) (by omega)) dL_kept_353 sl_L_170 (by decide) (Nat.le_of_ble_eq_true rfl) hb hs (B2 := 6888) (B2' := 41328) rfl rfl (by omega) (by omega) (fun τ_353 r_353 c_ s_ h_353 hb_ hs_ => ?_)
              replace hb := hb_
              replace hs := hs_
              clear hb_ hs_
              obtain ⟨v_353, rfl, i_353, e_353⟩ := h_353
              obtain rfl : (iI (1)) = v_353 := e_353
              refine ai_if_eq (tgt := 407) dL_kept_356 (by decide) (by omega) (by omega) (fun c_356 => absurd c_356 (by decide)) (fun _ => ?_)
              exact J359 _ i_353 _ _ (by omega) (by omega)
          · refine aw_iload9 dL_kept_329 ?_
            refine aw_iload8 dL_kept_331 ?_
            refine ai_isub dL_kept_333 ?_
            refine ai_i2l dL_kept_334 (by omega) (by omega) ?_
            refine aw_goto (tgt := 353) dL_kept_335 (by decide) ?_
            refine ac_S (As := [.long (lI (zz (stG s) (31 + 10 * i + 8))), .long (lI (0)), .long (lI (((zz (stG s) (31 + 10 * i + 2) + zz (stG s) (31 + 10 * i + 3)) - zz (stG s) (31 + 10 * i + 2))))]) (k_in i_319 (v := zz (stG s) (31 + 10 * i + 8)) (a := 0) (b := ((zz (stG s) (31 + 10 * i + 2) + zz (stG s) (31 + 10 * i + 3)) - zz (stG s) (31 + 10 * i + 2))) (by omega) (by omega) (by omega)) dL_kept_353 sl_L_170 (by decide) (Nat.le_of_ble_eq_true rfl) hb hs (B2 := 6888) (B2' := 41328) rfl rfl (by omega) (by omega) (fun τ_353 r_353 c_ s_ h_353 hb_ hs_ => ?_)
            replace hb := hb_
            replace hs := hs_
            clear hb_ hs_
            obtain ⟨v_353, rfl, i_353, e_353⟩ := h_353
            obtain rfl : (iI (1)) = v_353 := e_353
            refine ai_if_eq (tgt := 407) dL_kept_356 (by decide) (by omega) (by omega) (fun c_356 => absurd c_356 (by decide)) (fun _ => ?_)
            exact J359 _ i_353 _ _ (by omega) (by omega)
        refine aw_aload0 dL_kept_197 ?_
        refine aw_iload7 dL_kept_198 ?_
        refine aw_iconst (v := iI (2)) dL_kept_200 rfl ?_
        refine ac_SH (As := [.ref 0, .int (iI ((i : Int))), .int (iI (2))]) (qL_booking h _ _) dL_kept_201 sl_L_118 (by decide) (Nat.le_of_ble_eq_true rfl) hb hs (B2 := 6888) (B2' := 41328) rfl rfl (by omega) (by omega) (fun τ_201 r_201 c_ s_ h_201 hb_ hs_ => ?_)
        replace hb := hb_
        replace hs := hs_
        clear hb_ hs_
        obtain ⟨v_201, rfl, i_201, e_201⟩ := h_201
        obtain rfl : (lI (zz (stG s) (31 + 10 * i + 2))) = v_201 := (((booking_v (b := i) (k := 2) (by omega) (by omega) rfl rfl (by omega)).trans (bookV_Z (by omega))).symm.trans e_201)
        refine ai_l2i dL_kept_204 ?_
        refine aw_istore8 dL_kept_205 (Nat.le_of_ble_eq_true rfl) rfl ?_
        refine aw_iload8 dL_kept_207 ?_
        refine aw_aload0 dL_kept_209 ?_
        refine aw_iload7 dL_kept_210 ?_
        refine aw_iconst (v := iI (3)) dL_kept_212 rfl ?_
        refine ac_SH (As := [.ref 0, .int (iI ((i : Int))), .int (iI (3))]) (qL_booking i_201 _ _) dL_kept_213 sl_L_118 (by decide) (Nat.le_of_ble_eq_true rfl) hb hs (B2 := 6896) (B2' := 41376) rfl rfl (by omega) (by omega) (fun τ_213 r_213 c_ s_ h_213 hb_ hs_ => ?_)
        replace hb := hb_
        replace hs := hs_
        clear hb_ hs_
        obtain ⟨v_213, rfl, i_213, e_213⟩ := h_213
        obtain rfl : (lI (zz (stG s) (31 + 10 * i + 3))) = v_213 := (((booking_v (b := i) (k := 3) (by omega) (by omega) rfl rfl (by omega)).trans (bookV_Z (by omega))).symm.trans e_213)
        refine ai_l2i dL_kept_216 ?_
        refine ai_iadd dL_kept_217 ?_
        refine aw_istore9 dL_kept_218 (Nat.le_of_ble_eq_true rfl) rfl ?_
        refine aw_lload5 dL_kept_220 ?_
        refine aw_aload0 dL_kept_222 ?_
        refine aw_iload7 dL_kept_223 ?_
        refine aw_iconst (v := iI (5)) dL_kept_225 rfl ?_
        refine ac_SH (As := [.ref 0, .int (iI ((i : Int))), .int (iI (5))]) (qL_booking i_213 _ _) dL_kept_226 sl_L_118 (by decide) (Nat.le_of_ble_eq_true rfl) hb hs (B2 := 6904) (B2' := 41424) rfl rfl (by omega) (by omega) (fun τ_226 r_226 c_ s_ h_226 hb_ hs_ => ?_)
        replace hb := hb_
        replace hs := hs_
        clear hb_ hs_
        obtain ⟨v_226, rfl, i_226, e_226⟩ := h_226
        obtain rfl : (lI (zz (stG s) (31 + 10 * i + 5))) = v_226 := (((booking_v (b := i) (k := 5) (by omega) (by omega) rfl rfl (by omega)).trans (bookV_Z (by omega))).symm.trans e_226)
        refine aw_aload0 dL_kept_229 ?_
        refine aw_iload7 dL_kept_230 ?_
        refine aw_bipush (v := iI (6)) dL_kept_232 (by decide) ?_
        refine ac_SH (As := [.ref 0, .int (iI ((i : Int))), .int (iI (6))]) (qL_booking i_226 _ _) dL_kept_234 sl_L_118 (by decide) (Nat.le_of_ble_eq_true rfl) hb hs (B2 := 6912) (B2' := 41472) rfl rfl (by omega) (by omega) (fun τ_234 r_234 c_ s_ h_234 hb_ hs_ => ?_)
        replace hb := hb_
        replace hs := hs_
        clear hb_ hs_
        obtain ⟨v_234, rfl, i_234, e_234⟩ := h_234
        obtain rfl : (lI (zz (stG s) (31 + 10 * i + 6))) = v_234 := (((booking_v (b := i) (k := 6) (by omega) (by omega) rfl rfl (by omega)).trans (bookV_Z (by omega))).symm.trans e_234)
        refine ai_ladd dL_kept_237 ?_
        refine ai_ladd dL_kept_238 ?_
        refine aw_lstore5 dL_kept_239 (Nat.le_of_ble_eq_true rfl) rfl ?_
        refine aw_aload0 dL_kept_241 ?_
        refine aw_iload7 dL_kept_242 ?_
        refine aw_iconst (v := iI (0)) dL_kept_244 rfl ?_
        refine ac_SH (As := [.ref 0, .int (iI ((i : Int))), .int (iI (0))]) (qL_booking i_234 _ _) dL_kept_245 sl_L_118 (by decide) (Nat.le_of_ble_eq_true rfl) hb hs (B2 := 6920) (B2' := 41520) rfl rfl (by omega) (by omega) (fun τ_245 r_245 c_ s_ h_245 hb_ hs_ => ?_)
        replace hb := hb_
        replace hs := hs_
        clear hb_ hs_
        obtain ⟨v_245, rfl, i_245, e_245⟩ := h_245
        obtain rfl : (lI (zz (stG s) (31 + 10 * i + 0))) = v_245 := (((booking_v (b := i) (k := 0) (by omega) (by omega) rfl rfl (by omega)).trans (bookV_Z (by omega))).symm.trans e_245)
        refine aw_lconst (v := lI (0)) dL_kept_248 (by decide) ?_
        refine aw_iload2 dL_kept_249 ?_
        refine aw_iconst (v := iI (1)) dL_kept_250 rfl ?_
        refine ai_isub dL_kept_251 ?_
        refine ai_i2l dL_kept_252 (by omega) (by omega) ?_
        refine ac_S (As := [.long (lI (zz (stG s) (31 + 10 * i + 0))), .long (lI (0)), .long (lI (((rn (stG s) : Int) - 1)))]) (k_in i_245 (v := zz (stG s) (31 + 10 * i + 0)) (a := 0) (b := ((rn (stG s) : Int) - 1)) (by omega) (by omega) (by omega)) dL_kept_253 sl_L_170 (by decide) (Nat.le_of_ble_eq_true rfl) hb hs (B2 := 6920) (B2' := 41520) rfl rfl (by omega) (by omega) (fun τ_253 r_253 c_ s_ h_253 hb_ hs_ => ?_)
        replace hb := hb_
        replace hs := hs_
        clear hb_ hs_
        obtain ⟨v_253, rfl, i_253, e_253⟩ := h_253
        obtain rfl : (iI (1)) = v_253 := e_253
        refine ai_if_eq (tgt := 407) dL_kept_256 (by decide) (by omega) (by omega) (fun c_256 => absurd c_256 (by decide)) (fun _ => ?_)
        refine aw_iload8 dL_kept_259 ?_
        refine ai_i2l dL_kept_261 (by omega) (by omega) ?_
        refine aw_lconst (v := lI (0)) dL_kept_262 (by decide) ?_
        refine aw_ldc2 (v := lI (199)) dL_kept_263 kx_L_180 ?_
        refine ac_S (As := [.long (lI (zz (stG s) (31 + 10 * i + 2))), .long (lI (0)), .long (lI (199))]) (k_in i_253 (v := zz (stG s) (31 + 10 * i + 2)) (a := 0) (b := 199) (by omega) (by omega) (by omega)) dL_kept_266 sl_L_170 (by decide) (Nat.le_of_ble_eq_true rfl) hb hs (B2 := 6920) (B2' := 41520) rfl rfl (by omega) (by omega) (fun τ_266 r_266 c_ s_ h_266 hb_ hs_ => ?_)
        replace hb := hb_
        replace hs := hs_
        clear hb_ hs_
        obtain ⟨v_266, rfl, i_266, e_266⟩ := h_266
        obtain rfl : (iI (1)) = v_266 := e_266
        refine ai_if_eq (tgt := 407) dL_kept_269 (by decide) (by omega) (by omega) (fun c_269 => absurd c_269 (by decide)) (fun _ => ?_)
        refine aw_aload0 dL_kept_272 ?_
        refine aw_iload7 dL_kept_273 ?_
        refine aw_iconst (v := iI (4)) dL_kept_275 rfl ?_
        refine ac_SH (As := [.ref 0, .int (iI ((i : Int))), .int (iI (4))]) (qL_booking i_266 _ _) dL_kept_276 sl_L_118 (by decide) (Nat.le_of_ble_eq_true rfl) hb hs (B2 := 6928) (B2' := 41568) rfl rfl (by omega) (by omega) (fun τ_276 r_276 c_ s_ h_276 hb_ hs_ => ?_)
        replace hb := hb_
        replace hs := hs_
        clear hb_ hs_
        obtain ⟨v_276, rfl, i_276, e_276⟩ := h_276
        obtain rfl : (lI (zz (stG s) (31 + 10 * i + 4))) = v_276 := (((booking_v (b := i) (k := 4) (by omega) (by omega) rfl rfl (by omega)).trans (bookV_Z (by omega))).symm.trans e_276)
        refine aw_ldc2 (v := lI (12)) dL_kept_279 kx_L_178 ?_
        refine aw_ldc2 (v := lI (25)) dL_kept_282 kx_L_182 ?_
        refine ac_S (As := [.long (lI (zz (stG s) (31 + 10 * i + 4))), .long (lI (12)), .long (lI (25))]) (k_in i_276 (v := zz (stG s) (31 + 10 * i + 4)) (a := 12) (b := 25) (by omega) (by omega) (by omega)) dL_kept_285 sl_L_170 (by decide) (Nat.le_of_ble_eq_true rfl) hb hs (B2 := 6928) (B2' := 41568) rfl rfl (by omega) (by omega) (fun τ_285 r_285 c_ s_ h_285 hb_ hs_ => ?_)
        replace hb := hb_
        replace hs := hs_
        clear hb_ hs_
        obtain ⟨v_285, rfl, i_285, e_285⟩ := h_285
        obtain rfl : (iI (1)) = v_285 := e_285
        refine ai_if_eq (tgt := 407) dL_kept_288 (by decide) (by omega) (by omega) (fun c_288 => absurd c_288 (by decide)) (fun _ => ?_)
        refine aw_aload0 dL_kept_291 ?_
        refine aw_iload7 dL_kept_292 ?_
        refine aw_bipush (v := iI (9)) dL_kept_294 (by decide) ?_
        refine ac_SH (As := [.ref 0, .int (iI ((i : Int))), .int (iI (9))]) (qL_booking i_285 _ _) dL_kept_296 sl_L_118 (by decide) (Nat.le_of_ble_eq_true rfl) hb hs (B2 := 6936) (B2' := 41616) rfl rfl (by omega) (by omega) (fun τ_296 r_296 c_ s_ h_296 hb_ hs_ => ?_)
        replace hb := hb_
        replace hs := hs_
        clear hb_ hs_
        obtain ⟨v_296, rfl, i_296, e_296⟩ := h_296
        obtain rfl : (lI (ovr (stG s) i)) = v_296 := (((booking_v (b := i) (k := 9) (by omega) (by omega) rfl rfl (by omega)).trans (ovr_Z hw (by omega) (b := i) (by omega)).1).symm.trans e_296)
        refine aw_iload1 dL_kept_299 ?_
        refine aw_iload9 dL_kept_300 ?_
        refine ai_ic_lt (tgt := 309) dL_kept_302 (by decide) (by omega) (by omega) (by omega) (by omega) (fun c_302 => ?_) (fun c_302 => ?_)
        · refine aw_lconst (v := lI (0)) dL_kept_309 (by decide) ?_
          refine ai_lif_ne (tgt := 407) dL_kept_310 dL_kept_311 (by decide) (by omega) (by omega) (by omega) (by omega) (fun c_310 => absurd c_310 (by omega)) (fun c_310 => ?_)
          exact J314 _ i_296 _ _ (by omega) (by omega)
        · refine aw_lconst (v := lI (1)) dL_kept_305 (by decide) ?_
          refine aw_goto (tgt := 310) dL_kept_306 (by decide) ?_
          refine ai_lif_ne (tgt := 407) dL_kept_310 dL_kept_311 (by decide) (by omega) (by omega) (by omega) (by omega) (fun c_310 => absurd c_310 (by omega)) (fun c_310 => ?_)
          exact J314 _ i_296 _ _ (by omega) (by omega)
  have hb : 0 + 6880 ≤ 6880 := by omega
  have hs : 0 + 41280 ≤ 41280 := by omega
  refine aw_aload0 dL_kept_0 ?_
  refine aw_iconst (v := iI (0)) dL_kept_1 rfl ?_
  refine ac_SH (As := [.ref 0, .int (iI (0))]) (qL_about hI _) dL_kept_2 sl_L_104 (by decide) (Nat.le_of_ble_eq_true rfl) hb hs (B2 := 6888) (B2' := 41328) rfl rfl (by omega) (by omega) (fun τ_2 r_2 c_ s_ h_2 hb_ hs_ => ?_)
  replace hb := hb_
  replace hs := hs_
  clear hb_ hs_
  obtain ⟨v_2, rfl, i_2, e_2⟩ := h_2
  obtain rfl : (lI ((tn (stG s) : Int))) = v_2 := (((about_v (i := 0) (by omega) rfl).trans ab0).symm.trans e_2)
  refine ai_l2i dL_kept_5 ?_
  refine aw_istore1 dL_kept_6 (Nat.le_of_ble_eq_true rfl) rfl ?_
  refine aw_aload0 dL_kept_7 ?_
  refine aw_iconst (v := iI (1)) dL_kept_8 rfl ?_
  refine ac_SH (As := [.ref 0, .int (iI (1))]) (qL_about i_2 _) dL_kept_9 sl_L_104 (by decide) (Nat.le_of_ble_eq_true rfl) hb hs (B2 := 6896) (B2' := 41376) rfl rfl (by omega) (by omega) (fun τ_9 r_9 c_ s_ h_9 hb_ hs_ => ?_)
  replace hb := hb_
  replace hs := hs_
  clear hb_ hs_
  obtain ⟨v_9, rfl, i_9, e_9⟩ := h_9
  obtain rfl : (lI ((rn (stG s) : Int))) = v_9 := (((about_v (i := 1) (by omega) rfl).trans ab1).symm.trans e_9)
  refine ai_l2i dL_kept_12 ?_
  refine aw_istore2 dL_kept_13 (Nat.le_of_ble_eq_true rfl) rfl ?_
  refine aw_aload0 dL_kept_14 ?_
  refine aw_iconst (v := iI (3)) dL_kept_15 rfl ?_
  refine ac_SH (As := [.ref 0, .int (iI (3))]) (qL_about i_9 _) dL_kept_16 sl_L_104 (by decide) (Nat.le_of_ble_eq_true rfl) hb hs (B2 := 6904) (B2' := 41424) rfl rfl (by omega) (by omega) (fun τ_16 r_16 c_ s_ h_16 hb_ hs_ => ?_)
  replace hb := hb_
  replace hs := hs_
  clear hb_ hs_
  obtain ⟨v_16, rfl, i_16, e_16⟩ := h_16
  obtain rfl : (lI ((bn (stG s) : Int))) = v_16 := (((about_v (i := 3) (by omega) rfl).trans ab3).symm.trans e_16)
  refine ai_l2i dL_kept_19 ?_
  refine aw_istore3 dL_kept_20 (Nat.le_of_ble_eq_true rfl) rfl ?_
  refine aw_iload1 dL_kept_21 ?_
  refine ai_i2l dL_kept_22 (by omega) (by omega) ?_
  refine aw_lconst (v := lI (0)) dL_kept_23 (by decide) ?_
  refine aw_ldc2 (v := lI (240)) dL_kept_24 kx_L_168 ?_
  refine ac_S (As := [.long (lI ((tn (stG s) : Int))), .long (lI (0)), .long (lI (240))]) (k_in i_16 (v := (tn (stG s) : Int)) (a := 0) (b := 240) (by omega) (by omega) (by omega)) dL_kept_27 sl_L_170 (by decide) (Nat.le_of_ble_eq_true rfl) hb hs (B2 := 6904) (B2' := 41424) rfl rfl (by omega) (by omega) (fun τ_27 r_27 c_ s_ h_27 hb_ hs_ => ?_)
  replace hb := hb_
  replace hs := hs_
  clear hb_ hs_
  obtain ⟨v_27, rfl, i_27, e_27⟩ := h_27
  obtain rfl : (iI (1)) = v_27 := e_27
  refine ai_if_eq (tgt := 177) dL_kept_30 (by decide) (by omega) (by omega) (fun c_30 => absurd c_30 (by decide)) (fun _ => ?_)
  refine aw_iload2 dL_kept_33 ?_
  refine ai_i2l dL_kept_34 (by omega) (by omega) ?_
  refine aw_lconst (v := lI (0)) dL_kept_35 (by decide) ?_
  refine aw_ldc2 (v := lI (4)) dL_kept_36 kx_L_174 ?_
  refine ac_S (As := [.long (lI ((rn (stG s) : Int))), .long (lI (0)), .long (lI (4))]) (k_in i_27 (v := (rn (stG s) : Int)) (a := 0) (b := 4) (by omega) (by omega) (by omega)) dL_kept_39 sl_L_170 (by decide) (Nat.le_of_ble_eq_true rfl) hb hs (B2 := 6904) (B2' := 41424) rfl rfl (by omega) (by omega) (fun τ_39 r_39 c_ s_ h_39 hb_ hs_ => ?_)
  replace hb := hb_
  replace hs := hs_
  clear hb_ hs_
  obtain ⟨v_39, rfl, i_39, e_39⟩ := h_39
  obtain rfl : (iI (1)) = v_39 := e_39
  refine ai_if_eq (tgt := 177) dL_kept_42 (by decide) (by omega) (by omega) (fun c_42 => absurd c_42 (by decide)) (fun _ => ?_)
  refine aw_aload0 dL_kept_45 ?_
  refine aw_iconst (v := iI (2)) dL_kept_46 rfl ?_
  refine ac_SH (As := [.ref 0, .int (iI (2))]) (qL_about i_39 _) dL_kept_47 sl_L_104 (by decide) (Nat.le_of_ble_eq_true rfl) hb hs (B2 := 6912) (B2' := 41472) rfl rfl (by omega) (by omega) (fun τ_47 r_47 c_ s_ h_47 hb_ hs_ => ?_)
  replace hb := hb_
  replace hs := hs_
  clear hb_ hs_
  obtain ⟨v_47, rfl, i_47, e_47⟩ := h_47
  obtain rfl : (lI ((gn (stG s) : Int))) = v_47 := (((about_v (i := 2) (by omega) rfl).trans ab2).symm.trans e_47)
  refine aw_lconst (v := lI (0)) dL_kept_50 (by decide) ?_
  refine aw_ldc2 (v := lI (6)) dL_kept_51 kx_L_176 ?_
  refine ac_S (As := [.long (lI ((gn (stG s) : Int))), .long (lI (0)), .long (lI (6))]) (k_in i_47 (v := (gn (stG s) : Int)) (a := 0) (b := 6) (by omega) (by omega) (by omega)) dL_kept_54 sl_L_170 (by decide) (Nat.le_of_ble_eq_true rfl) hb hs (B2 := 6912) (B2' := 41472) rfl rfl (by omega) (by omega) (fun τ_54 r_54 c_ s_ h_54 hb_ hs_ => ?_)
  replace hb := hb_
  replace hs := hs_
  clear hb_ hs_
  obtain ⟨v_54, rfl, i_54, e_54⟩ := h_54
  obtain rfl : (iI (1)) = v_54 := e_54
  refine ai_if_eq (tgt := 177) dL_kept_57 (by decide) (by omega) (by omega) (fun c_57 => absurd c_57 (by decide)) (fun _ => ?_)
  refine aw_iload3 dL_kept_60 ?_
  refine ai_i2l dL_kept_61 (by omega) (by omega) ?_
  refine aw_lconst (v := lI (0)) dL_kept_62 (by decide) ?_
  refine aw_ldc2 (v := lI (12)) dL_kept_63 kx_L_178 ?_
  refine ac_S (As := [.long (lI ((bn (stG s) : Int))), .long (lI (0)), .long (lI (12))]) (k_in i_54 (v := (bn (stG s) : Int)) (a := 0) (b := 12) (by omega) (by omega) (by omega)) dL_kept_66 sl_L_170 (by decide) (Nat.le_of_ble_eq_true rfl) hb hs (B2 := 6912) (B2' := 41472) rfl rfl (by omega) (by omega) (fun τ_66 r_66 c_ s_ h_66 hb_ hs_ => ?_)
  replace hb := hb_
  replace hs := hs_
  clear hb_ hs_
  obtain ⟨v_66, rfl, i_66, e_66⟩ := h_66
  obtain rfl : (iI (1)) = v_66 := e_66
  refine ai_if_eq (tgt := 177) dL_kept_69 (by decide) (by omega) (by omega) (fun c_69 => absurd c_69 (by decide)) (fun _ => ?_)
  refine aw_aload0 dL_kept_72 ?_
  refine aw_bipush (v := iI (8)) dL_kept_73 (by decide) ?_
  refine ac_SH (As := [.ref 0, .int (iI (8))]) (qL_about i_66 _) dL_kept_75 sl_L_104 (by decide) (Nat.le_of_ble_eq_true rfl) hb hs (B2 := 6920) (B2' := 41520) rfl rfl (by omega) (by omega) (fun τ_75 r_75 c_ s_ h_75 hb_ hs_ => ?_)
  replace hb := hb_
  replace hs := hs_
  clear hb_ hs_
  obtain ⟨v_75, rfl, i_75, e_75⟩ := h_75
  obtain rfl : (lI ((zz (stG s) 5 - zz (stG s) 6 - zz (stG s) 7))) = v_75 := (((about_v (i := 8) (by omega) rfl).trans am8).symm.trans e_75)
  refine aw_aload0 dL_kept_78 ?_
  refine aw_iconst (v := iI (5)) dL_kept_79 rfl ?_
  refine ac_SH (As := [.ref 0, .int (iI (5))]) (qL_about i_75 _) dL_kept_80 sl_L_104 (by decide) (Nat.le_of_ble_eq_true rfl) hb hs (B2 := 6928) (B2' := 41568) rfl rfl (by omega) (by omega) (fun τ_80 r_80 c_ s_ h_80 hb_ hs_ => ?_)
  replace hb := hb_
  replace hs := hs_
  clear hb_ hs_
  obtain ⟨v_80, rfl, i_80, e_80⟩ := h_80
  obtain rfl : (lI (zz (stG s) 5)) = v_80 := (((about_v (i := 5) (by omega) rfl).trans am5).symm.trans e_80)
  refine aw_aload0 dL_kept_83 ?_
  refine aw_bipush (v := iI (6)) dL_kept_84 (by decide) ?_
  refine ac_SH (As := [.ref 0, .int (iI (6))]) (qL_about i_80 _) dL_kept_86 sl_L_104 (by decide) (Nat.le_of_ble_eq_true rfl) hb hs (B2 := 6936) (B2' := 41616) rfl rfl (by omega) (by omega) (fun τ_86 r_86 c_ s_ h_86 hb_ hs_ => ?_)
  replace hb := hb_
  replace hs := hs_
  clear hb_ hs_
  obtain ⟨v_86, rfl, i_86, e_86⟩ := h_86
  obtain rfl : (lI (zz (stG s) 6)) = v_86 := (((about_v (i := 6) (by omega) rfl).trans am6).symm.trans e_86)
  refine ai_lsub dL_kept_89 ?_
  refine aw_aload0 dL_kept_90 ?_
  refine aw_bipush (v := iI (7)) dL_kept_91 (by decide) ?_
  refine ac_SH (As := [.ref 0, .int (iI (7))]) (qL_about i_86 _) dL_kept_93 sl_L_104 (by decide) (Nat.le_of_ble_eq_true rfl) hb hs (B2 := 6944) (B2' := 41664) rfl rfl (by omega) (by omega) (fun τ_93 r_93 c_ s_ h_93 hb_ hs_ => ?_)
  replace hb := hb_
  replace hs := hs_
  clear hb_ hs_
  obtain ⟨v_93, rfl, i_93, e_93⟩ := h_93
  obtain rfl : (lI (zz (stG s) 7)) = v_93 := (((about_v (i := 7) (by omega) rfl).trans am7).symm.trans e_93)
  refine ai_lsub dL_kept_96 ?_
  refine ai_lif_ne (tgt := 177) dL_kept_97 dL_kept_98 (by decide) (by omega) (by omega) (by omega) (by omega) (fun c_97 => absurd c_97 (by omega)) (fun c_97 => ?_)
  refine aw_aload0 dL_kept_101 ?_
  refine aw_bipush (v := iI (8)) dL_kept_102 (by decide) ?_
  refine ac_SH (As := [.ref 0, .int (iI (8))]) (qL_about i_93 _) dL_kept_104 sl_L_104 (by decide) (Nat.le_of_ble_eq_true rfl) hb hs (B2 := 6952) (B2' := 41712) rfl rfl (by omega) (by omega) (fun τ_104 r_104 c_ s_ h_104 hb_ hs_ => ?_)
  replace hb := hb_
  replace hs := hs_
  clear hb_ hs_
  obtain ⟨v_104, rfl, i_104, e_104⟩ := h_104
  obtain rfl : (lI ((zz (stG s) 5 - zz (stG s) 6 - zz (stG s) 7))) = v_104 := (((about_v (i := 8) (by omega) rfl).trans am8).symm.trans e_104)
  refine aw_lconst (v := lI (0)) dL_kept_107 (by decide) ?_
  refine aw_iload1 dL_kept_108 ?_
  refine ai_i2l dL_kept_109 (by omega) (by omega) ?_
  refine ac_S (As := [.long (lI ((zz (stG s) 5 - zz (stG s) 6 - zz (stG s) 7))), .long (lI (0)), .long (lI ((tn (stG s) : Int)))]) (k_in i_104 (v := (zz (stG s) 5 - zz (stG s) 6 - zz (stG s) 7)) (a := 0) (b := (tn (stG s) : Int)) (by omega) (by omega) (by omega)) dL_kept_110 sl_L_170 (by decide) (Nat.le_of_ble_eq_true rfl) hb hs (B2 := 6952) (B2' := 41712) rfl rfl (by omega) (by omega) (fun τ_110 r_110 c_ s_ h_110 hb_ hs_ => ?_)
  replace hb := hb_
  replace hs := hs_
  clear hb_ hs_
  obtain ⟨v_110, rfl, i_110, e_110⟩ := h_110
  obtain rfl : (iI (1)) = v_110 := e_110
  refine ai_if_eq (tgt := 177) dL_kept_113 (by decide) (by omega) (by omega) (fun c_113 => absurd c_113 (by decide)) (fun _ => ?_)
  refine aw_aload0 dL_kept_116 ?_
  refine aw_bipush (v := iI (9)) dL_kept_117 (by decide) ?_
  refine ac_SH (As := [.ref 0, .int (iI (9))]) (qL_about i_110 _) dL_kept_119 sl_L_104 (by decide) (Nat.le_of_ble_eq_true rfl) hb hs (B2 := 6960) (B2' := 41760) rfl rfl (by omega) (by omega) (fun τ_119 r_119 c_ s_ h_119 hb_ hs_ => ?_)
  replace hb := hb_
  replace hs := hs_
  clear hb_ hs_
  obtain ⟨v_119, rfl, i_119, e_119⟩ := h_119
  obtain rfl : (lI (zz (stG s) 8)) = v_119 := (((about_v (i := 9) (by omega) rfl).trans am9).symm.trans e_119)
  refine aw_aload0 dL_kept_122 ?_
  refine aw_bipush (v := iI (8)) dL_kept_123 (by decide) ?_
  refine ac_SH (As := [.ref 0, .int (iI (8))]) (qL_about i_119 _) dL_kept_125 sl_L_104 (by decide) (Nat.le_of_ble_eq_true rfl) hb hs (B2 := 6968) (B2' := 41808) rfl rfl (by omega) (by omega) (fun τ_125 r_125 c_ s_ h_125 hb_ hs_ => ?_)
  replace hb := hb_
  replace hs := hs_
  clear hb_ hs_
  obtain ⟨v_125, rfl, i_125, e_125⟩ := h_125
  obtain rfl : (lI ((zz (stG s) 5 - zz (stG s) 6 - zz (stG s) 7))) = v_125 := (((about_v (i := 8) (by omega) rfl).trans am8).symm.trans e_125)
  refine ai_lif_lt (tgt := 177) dL_kept_128 dL_kept_129 (by decide) (by omega) (by omega) (by omega) (by omega) (fun c_128 => absurd c_128 (by omega)) (fun c_128 => ?_)
  refine aw_aload0 dL_kept_132 ?_
  refine aw_bipush (v := iI (9)) dL_kept_133 (by decide) ?_
  refine ac_SH (As := [.ref 0, .int (iI (9))]) (qL_about i_125 _) dL_kept_135 sl_L_104 (by decide) (Nat.le_of_ble_eq_true rfl) hb hs (B2 := 6976) (B2' := 41856) rfl rfl (by omega) (by omega) (fun τ_135 r_135 c_ s_ h_135 hb_ hs_ => ?_)
  replace hb := hb_
  replace hs := hs_
  clear hb_ hs_
  obtain ⟨v_135, rfl, i_135, e_135⟩ := h_135
  obtain rfl : (lI (zz (stG s) 8)) = v_135 := (((about_v (i := 9) (by omega) rfl).trans am9).symm.trans e_135)
  refine aw_iload2 dL_kept_138 ?_
  refine ai_i2l dL_kept_139 (by omega) (by omega) ?_
  refine aw_aload0 dL_kept_140 ?_
  refine aw_bipush (v := iI (8)) dL_kept_141 (by decide) ?_
  refine ac_SH (As := [.ref 0, .int (iI (8))]) (qL_about i_135 _) dL_kept_143 sl_L_104 (by decide) (Nat.le_of_ble_eq_true rfl) hb hs (B2 := 6984) (B2' := 41904) rfl rfl (by omega) (by omega) (fun τ_143 r_143 c_ s_ h_143 hb_ hs_ => ?_)
  replace hb := hb_
  replace hs := hs_
  clear hb_ hs_
  obtain ⟨v_143, rfl, i_143, e_143⟩ := h_143
  obtain rfl : (lI ((zz (stG s) 5 - zz (stG s) 6 - zz (stG s) 7))) = v_143 := (((about_v (i := 8) (by omega) rfl).trans am8).symm.trans e_143)
  refine ai_lmul dL_kept_146 ?_
  refine ai_lif_gt (tgt := 177) dL_kept_147 dL_kept_148 (by decide) (by omega) (by omega) (by omega) (by omega) (fun c_147 => absurd c_147 (by omega)) (fun c_147 => ?_)
  refine aw_aload0 dL_kept_151 ?_
  refine aw_bipush (v := iI (6)) dL_kept_152 (by decide) ?_
  refine ac_SH (As := [.ref 0, .int (iI (6))]) (qL_about i_143 _) dL_kept_154 sl_L_104 (by decide) (Nat.le_of_ble_eq_true rfl) hb hs (B2 := 6992) (B2' := 41952) rfl rfl (by omega) (by omega) (fun τ_154 r_154 c_ s_ h_154 hb_ hs_ => ?_)
  replace hb := hb_
  replace hs := hs_
  clear hb_ hs_
  obtain ⟨v_154, rfl, i_154, e_154⟩ := h_154
  obtain rfl : (lI (zz (stG s) 6)) = v_154 := (((about_v (i := 6) (by omega) rfl).trans am6).symm.trans e_154)
  refine aw_lconst (v := lI (0)) dL_kept_157 (by decide) ?_
  refine ai_lif_lt (tgt := 177) dL_kept_158 dL_kept_159 (by decide) (by omega) (by omega) (by omega) (by omega) (fun c_158 => absurd c_158 (by omega)) (fun c_158 => ?_)
  refine aw_aload0 dL_kept_162 ?_
  refine aw_bipush (v := iI (7)) dL_kept_163 (by decide) ?_
  refine ac_SH (As := [.ref 0, .int (iI (7))]) (qL_about i_154 _) dL_kept_165 sl_L_104 (by decide) (Nat.le_of_ble_eq_true rfl) hb hs (B2 := 7000) (B2' := 42000) rfl rfl (by omega) (by omega) (fun τ_165 r_165 c_ s_ h_165 hb_ hs_ => ?_)
  replace hb := hb_
  replace hs := hs_
  clear hb_ hs_
  obtain ⟨v_165, rfl, i_165, e_165⟩ := h_165
  obtain rfl : (lI (zz (stG s) 7)) = v_165 := (((about_v (i := 7) (by omega) rfl).trans am7).symm.trans e_165)
  refine aw_lconst (v := lI (0)) dL_kept_168 (by decide) ?_
  refine ai_lif_lt (tgt := 177) dL_kept_169 dL_kept_170 (by decide) (by omega) (by omega) (by omega) (by omega) (fun c_169 => absurd c_169 (by omega)) (fun c_169 => ?_)
  refine aw_iconst (v := iI (1)) dL_kept_173 rfl ?_
  refine aw_goto (tgt := 178) dL_kept_174 (by decide) ?_
  refine aw_istore4 dL_kept_178 (Nat.le_of_ble_eq_true rfl) rfl ?_
  refine aw_lconst (v := lI (0)) dL_kept_180 (by decide) ?_
  refine aw_lstore5 dL_kept_181 (Nat.le_of_ble_eq_true rfl) rfl ?_
  refine aw_iconst (v := iI (0)) dL_kept_183 rfl ?_
  refine aw_istore7 dL_kept_184 (Nat.le_of_ble_eq_true rfl) rfl ?_
  exact J186 _ 0 (Nat.zero_le _) (Nat.lt_succ_self _) _ i_165 _ _ (by omega) (by omega)
