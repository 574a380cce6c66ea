/-! the law: hours come to what was told, what is taken back is as it was -/
abbrev gS (s : AS) (g : Rw) (c : Nat) (M : Nat → Rw) : AS := (g, stN s, stT s, c, M, savB (stB s) 1, savS (stS s) 1 (stG s))
abbrev mS (s : AS) (c : Nat) (M : Nat → Rw) : AS := gS s (stG s) c M
abbrev foS (s : AS) : AS := mS s 0 (stM s)
theorem remA_Z {c : Nat} (hc : c ≤ 14) : 1 ≤ remA c ∧ remA c ≤ 14 ∧ 2 ≤ remA (remA c) ∧ remA (remA c) ≤ 14 := by
  unfold remA
  split <;> split <;> omega
theorem rem_top {M : Nat → Rw} {c : Nat} {g : Rw} (hc : c ≤ 14) : remM M c g (remA c - 1) = g := by
  unfold remM remA
  by_cases h : c = 14
  · rw [if_pos h, if_pos h, if_neg (by omega)]
  · rw [if_neg h, if_neg h, if_neg (by omega)]
theorem rem_top2 {M : Nat → Rw} {c : Nat} {g G : Rw} (hc : c ≤ 14) : remM (remM M c g) (remA c) G (remA (remA c) - 1 - 1) = g := by
  by_cases h : c = 14
  · have e1 : remA c = 14 := if_pos h
    have e2 : remA (remA c) = 14 := by rw [e1]; rfl
    rw [e2, e1]
    show remM M c g 13 = g
    rw [remM, if_pos h]
    rfl
  · have e1 : remA c = c + 1 := if_neg h
    rw [e1]
    by_cases h2 : c + 1 = 14
    · have e2 : remA (c + 1) = 14 := if_pos h2
      have h3 : c = 13 := by omega
      rw [e2]
      subst h3
      rfl
    · have e2 : remA (c + 1) = c + 1 + 1 := if_neg h2
      rw [e2, remM, if_neg h2]
      show (if c + 1 + 1 - 1 - 1 < c + 1 then remM M c g (c + 1 + 1 - 1 - 1) else G) = g
      rw [if_pos (by omega), show c + 1 + 1 - 1 - 1 = c by omega, remM, if_neg h, if_neg (by omega)]
theorem CI.row {σ : Sg} {g g' : Rw} {n c : Nat} {T : Rw} {M S : Nat → Rw} {B : Nat → Bool} (e : g = g') (h : CI σ (g, n, T, c, M, B, S)) : CI σ (g', n, T, c, M, B, S) := e ▸ h
theorem CI.m0 {σ : Sg} {g : Rw} {n : Nat} {T : Rw} {M M' S : Nat → Rw} {B : Nat → Bool} (h : CI σ (g, n, T, 0, M, B, S)) : CI σ (g, n, T, 0, M', B, S) := by
  obtain ⟨⟨a1, a2, a3, ⟨p, q1, q2, q3, q4, q5⟩, a5⟩, b⟩ := h
  exact ⟨⟨a1, a2, a3, ⟨p, q1, q2, q3, q4, fun i hi => absurd hi (Nat.not_lt_zero _)⟩, a5⟩, b⟩
theorem met_Z {g : Rw} {nr ng nb t : Nat} (H : WK g nr ng nb t) (ht : t ≤ 300) : 0 ≤ zz g 5 ∧ zz g 5 ≤ 100000 := by
  obtain ⟨t1, t2, t3, t4, t5⟩ := H.2.2.2.2.1
  omega
theorem pass_v {g G : Rw} (h1 : 0 ≤ zz g 5 ∧ zz g 5 ≤ 100000) (h2 : 0 ≤ zz G 5 ∧ zz G 5 ≤ 100000) : (G 5 - g 5).toInt64 = lI (zz G 5 - zz g 5) := by
  rw [i2l_I, i32_sub (a := zz G 5) (b := zz g 5) rfl rfl (by omega) (by omega)]
theorem fL_Z {g : Rw} {nr ng nb t q : Nat} (hw : WF g nr ng nb t) (ht : t ≤ 300) {f h : Int} (hq : f + h - t = (q : Int)) (hq2 : q < 1000) : fL g (iI f) (iI h) = q := by
  rw [fL, hw.hr, nI_iI, iI_add, iI_sub, hq, cN_iI (by omega)]
theorem cost_v {s : AS} {r w f h t0 : Int32} (q : isN r (rn (stG s)) ∧ isN w (gn (stG s))) (q2 : sound (stG s) f h t0) (q3 : bn (stG s) < 12 ∧ fFree (stG s) r f h (bn (stG s))) : vCost s r w f h t0 = (fHours (fBookTo (stG s) (bn (stG s)) r w f h t0) (rn (stG s)) (bn (stG s) + 1) (fL (stG s) f h) 5 - fHours (stG s) (rn (stG s)) (bn (stG s)) (fL (stG s) f h) 5).toInt64 := by
  have c : cCost s r w f h t0 = 0 := (cd2_0 q q2).symm
  rw [vCost, ans2 c, wCost]
  rw [@if_pos _ (Classical.propDecidable _) q3]
theorem emodN {a b : Int} (h : 0 < b) : ∃ r : Nat, a % b = (r : Int) ∧ (r : Int) < b := ⟨(a % b).toNat, by have := Int.emod_nonneg a (by omega : b ≠ 0); omega, by have := Int.emod_nonneg a (by omega : b ≠ 0); have := Int.emod_lt_of_pos a h; omega⟩
set_option maxHeartbeats 16000000 in
theorem k_follows {σ : Sg} {s : AS} (hI : CI σ s) (hG : GW (stG s)) {x : Int} (hx : 0 ≤ x) (hx2 : x < 2147483648) : Ct yL_follows cL_follows mL_follows 11 32000 192000 NN false σ [.ref 0, .int (iI x)] NN (rI fun τ y0 => CI τ (foS s) ∧ iI 1 = y0) XF := by
  refine ct_of (ls0 := [some (.ref 0), some (.int (iI x)), none, none, none, none, none, none, none, none, none, none, none, none, none, none, none, none, none, none, none, none]) 20 (by decide +kernel) rfl rfl (ndR (ndI nd0)) rfl (Nat.le_of_ble_eq_true rfl) (fun K => ?_)
  obtain ⟨hr4, hg6, hb12, ht⟩ := hI.nums
  have hW := hG.1
  have hw := hW.wf
  obtain ⟨ab0, ab1, ab2, ab3⟩ := aboutV_n hw (by omega)
  have m0 := met_Z hW (by omega)
  have J502 : ∀ (k i : Nat) (h1 : i ≤ gn (stG s)) (h2 : gn (stG s) - i < k) (c0 : Nat) (M0 : Nat → Rw) (τ : Sg) (h : CI τ (mS s c0 M0)) (cells slots : Nat) (hb : cells + 8 * (324 + 328 * (gn (stG s) - i)) ≤ 32000) (hs : slots + 48 * (324 + 328 * (gn (stG s) - i)) ≤ 192000), AW K yL_follows.cls cL_follows mL_follows 11 32000 192000 (Qm K NN (rI fun τ y0 => CI τ (foS s) ∧ iI 1 = y0) XF 32000 192000) NN none τ cells slots 502 [some (.ref 0), some (.int (iI (x))), some (.long (nowV (stG s))), none, some (.int (iI ((tn (stG s) : Int)))), some (.int (iI ((rn (stG s) : Int)))), some (.int (iI ((gn (stG s) : Int)))), some (.int (iI (1))), none, some (.int (iI ((i : Int)))), none, none, none, none, none, none, none, none, none, none, none, none] [] := by
    intro k
    induction k with
    | zero => intro i h1 h2; exact absurd h2 (Nat.not_lt_zero _)
    | succ k ih =>
      intro i h1 h2 c0 M0 τ h cells slots hb hs
      have hc14 : c0 ≤ 14 := h.c14
      have ra := remA_Z hc14
      refine aw_iload9 dL_follows_502 ?_
      refine aw_iload6 dL_follows_504 ?_
      refine ai_ic_ge (tgt := 599) dL_follows_506 (by decide) (by omega) (by omega) (by omega) (by omega) (fun c_506 => ?_) (fun c_506 => ?_)
      · refine aw_iload7 dL_follows_599 ?_
        refine ai_if_eq (tgt := 640) dL_follows_601 (by decide) (by omega) (by omega) (fun c_601 => absurd c_601 (by decide)) (fun _ => ?_)
        refine aw_aload0 dL_follows_604 ?_
        refine aw_iconst (v := iI (1)) dL_follows_605 rfl ?_
        refine ac_SH (As := [.ref 0, .int (iI (1))]) (dL_restore_ h (iI 1) (cd2_0 (by decide) (by show savB (stB s) 1 (cN (iI 1)) = true; rw [show cN (iI 1) = 1 from by decide]; rfl)).symm) dL_follows_606 sl_L_164 (by decide) (Nat.le_of_ble_eq_true rfl) hb hs (B2 := 32008) (B2' := 192048) rfl rfl (by omega) (by omega) (fun τ_606 r_606 c_ s_ h_606 hb_ hs_ => ?_)
        replace hb := hb_
        replace hs := hs_
        clear hb_ hs_
        obtain ⟨v_606, rfl, i_606, e_606⟩ := h_606
        obtain rfl : (lI ((tn (stG s) : Int))) = v_606 := (by rw [← e_606, wRestore]; exact (show lI (tn (stG s) : Int) = (stG s 0).toInt64 from ab0.symm).trans (congrArg (fun z : Rw => (z 0).toInt64) (show savS (stS s) 1 (stG s) (cN (iI 1)) = stG s from by rw [show cN (iI 1) = 1 from by decide]; rfl).symm))
        have j_606 : CI τ_606 (gS s (stG s) 0 M0) := CI.row (show savS (stS s) 1 (stG s) (cN (iI 1)) = stG s from by rw [show cN (iI 1) = 1 from by decide]; rfl) i_606
        refine aw_iload4 dL_follows_609 ?_
        refine ai_i2l dL_follows_611 (by omega) (by omega) ?_
        refine ai_lif_ne (tgt := 640) dL_follows_612 dL_follows_613 (by decide) (by omega) (by omega) (by omega) (by omega) (fun c_612 => absurd c_612 (by omega)) (fun c_612 => ?_)
        refine aw_aload0 dL_follows_616 ?_
        refine ac_S (As := [.ref 0]) (k_now j_606) dL_follows_617 sl_L_120 (by decide) (Nat.le_of_ble_eq_true rfl) hb hs (B2 := 34576) (B2' := 207456) rfl rfl (by omega) (by omega) (fun τ_617 r_617 c_ s_ h_617 hb_ hs_ => ?_)
        replace hb := hb_
        replace hs := hs_
        clear hb_ hs_
        obtain ⟨v_617, rfl, i_617, e_617⟩ := h_617
        obtain rfl : (nowV (stG s)) = v_617 := e_617
        refine aw_lload2 dL_follows_620 ?_
        refine al_if_ne (tgt := 640) dL_follows_621 dL_follows_622 (by decide) (fun c_621 => absurd rfl c_621) (fun _ => ?_)
        refine aw_aload0 dL_follows_625 ?_
        refine ac_SH (As := [.ref 0]) (rL_undo i_617 (kc := 1) (cd1_1 (fun z => z rfl)).symm (by decide)) dL_follows_626 sl_L_184 (by decide) (Nat.le_of_ble_eq_true rfl) hb hs (B2 := 34584) (B2' := 207504) rfl rfl (by omega) (by omega) (fun τ_626 r_626 c_ s_ h_626 hb_ hs_ => ?_)
        replace hb := hb_
        replace hs := hs_
        clear hb_ hs_
        obtain ⟨v_626, rfl, i_626, e_626⟩ := h_626
        obtain rfl : kS_ = v_626 := ((show _ = _ from rfl).trans e_626)
        refine aw_ldc2 (v := kS_) dL_follows_629 kl_L_21 ?_
        refine al_if_ne (tgt := 640) dL_follows_632 dL_follows_633 (by decide) (fun c_632 => absurd rfl c_632) (fun _ => ?_)
        refine aw_iconst (v := iI (1)) dL_follows_636 rfl ?_
        refine aw_goto (tgt := 641) dL_follows_637 (by decide) ?_
        exact aw_zret dL_follows_641 rfl (by decide) ⟨by omega, by omega⟩ ⟨_, rfl, CI.m0 i_626, rfl⟩
      · refine aw_iload7 dL_follows_509 ?_
        refine ai_if_eq (tgt := 599) dL_follows_511 (by decide) (by omega) (by omega) (fun c_511 => absurd c_511 (by decide)) (fun _ => ?_)
        refine aw_aload0 dL_follows_514 ?_
        refine aw_iload9 dL_follows_515 ?_
        refine ac_SH (As := [.ref 0, .int (iI ((i : Int)))]) (qL_owes h _) dL_follows_517 sl_L_114 (by decide) (Nat.le_of_ble_eq_true rfl) hb hs (B2 := 32008) (B2' := 192048) rfl rfl (by omega) (by omega) (fun τ_517 r_517 c_ s_ h_517 hb_ hs_ => ?_)
        replace hb := hb_
        replace hs := hs_
        clear hb_ hs_
        obtain ⟨v_517, rfl, i_517, e_517⟩ := h_517
        obtain rfl : (lI (zz (stG s) (25 + i))) = v_517 := (((owes_v (s := s) (w := i) (by omega) rfl (by omega)).trans (i2l_I _)).symm.trans e_517)
        refine aw_lstore10 dL_follows_520 (Nat.le_of_ble_eq_true rfl) rfl ?_
        refine aw_aload0 dL_follows_522 ?_
        refine aw_iload9 dL_follows_523 ?_
        refine ac_SH (As := [.ref 0, .int (iI ((i : Int)))]) (qL_willOwe i_517 _) dL_follows_525 sl_L_149 (by decide) (Nat.le_of_ble_eq_true rfl) hb hs (B2 := 32016) (B2' := 192096) rfl rfl (by omega) (by omega) (fun τ_525 r_525 c_ s_ h_525 hb_ hs_ => ?_)
        replace hb := hb_
        replace hs := hs_
        clear hb_ hs_
        obtain ⟨v_525, rfl, i_525, e_525⟩ := h_525
        obtain rfl : (lI (zz (fHours (stG s) (rn (stG s)) (bn (stG s)) (fH (stG s) (bn (stG s)))) (25 + i))) = v_525 := (((willOwe_v (s := s) (w := i) (by omega) rfl (by omega)).trans (i2l_I _)).symm.trans e_525)
        obtain ⟨wp1, wp2, wp3⟩ := will_pay (k := i) hW (by omega) (by omega)
        refine aw_lstore12 dL_follows_528 (Nat.le_of_ble_eq_true rfl) rfl ?_
        refine aw_aload0 dL_follows_530 ?_
        refine aw_iload9 dL_follows_531 ?_
        refine ac_SH (As := [.ref 0, .int (iI ((i : Int)))]) (dL_pay_ i_525 (iI (i : Int)) (cd1_0 (isN_of (n := gn (stG s)) (by omega))).symm) dL_follows_533 sl_L_143 (by decide) (Nat.le_of_ble_eq_true rfl) hb hs (B2 := 32024) (B2' := 192144) rfl rfl (by omega) (by omega) (fun τ_533 r_533 c_ s_ h_533 hb_ hs_ => ?_)
        replace hb := hb_
        replace hs := hs_
        clear hb_ hs_
        obtain ⟨v_533, rfl, i_533, e_533⟩ := h_533
        obtain rfl : (lI (zz (stG s) (25 + i))) = v_533 := (by rw [← e_533, wPay, cN_iI (by omega)]; exact (i2l_I _).symm)
        have j_533 : CI τ_533 (gS s (upd (stG s) (25 + i) 0) (remA c0) (remM M0 c0 (stG s))) := CI.row (show upd (stG s) (25 + cN (iI (i : Int))) 0 = (upd (stG s) (25 + i) 0) from by rw [cN_iI (by omega)]) i_533
        obtain ⟨nY1, nY2, nY3, nY4⟩ := (hW.pay (w := i) (by omega)).1.nums (by omega)
        refine aw_lload10 dL_follows_536 ?_
        refine ai_lif_ne (tgt := 590) dL_follows_538 dL_follows_539 (by decide) (by omega) (by omega) (by omega) (by omega) (fun c_538 => absurd c_538 (by omega)) (fun c_538 => ?_)
        refine aw_aload0 dL_follows_542 ?_
        refine aw_iload9 dL_follows_543 ?_
        refine ac_SH (As := [.ref 0, .int (iI ((i : Int)))]) (qL_owes j_533 _) dL_follows_545 sl_L_114 (by decide) (Nat.le_of_ble_eq_true rfl) hb hs (B2 := 32032) (B2' := 192192) rfl rfl (by omega) (by omega) (fun τ_545 r_545 c_ s_ h_545 hb_ hs_ => ?_)
        replace hb := hb_
        replace hs := hs_
        clear hb_ hs_
        obtain ⟨v_545, rfl, i_545, e_545⟩ := h_545
        obtain rfl : (lI (0)) = v_545 := (((owes_v (s := (gS s (upd (stG s) (25 + i) 0) (remA c0) (remM M0 c0 (stG s)))) (w := i) (by show i < gn (upd (stG s) (25 + i) 0); omega) rfl (by show gn (upd (stG s) (25 + i) 0) < 1000; omega)).trans (show ((upd (stG s) (25 + i) 0) (25 + i)).toInt64 = lI 0 from by rw [upd_s]; decide)).symm.trans e_545)
        refine aw_lconst (v := lI (0)) dL_follows_548 (by decide) ?_
        refine ai_lif_ne (tgt := 590) dL_follows_549 dL_follows_550 (by decide) (by omega) (by omega) (by omega) (by omega) (fun c_549 => absurd c_549 (by omega)) (fun c_549 => ?_)
        refine aw_aload0 dL_follows_553 ?_
        refine aw_iload9 dL_follows_554 ?_
        refine ac_SH (As := [.ref 0, .int (iI ((i : Int)))]) (qL_willOwe i_545 _) dL_follows_556 sl_L_149 (by decide) (Nat.le_of_ble_eq_true rfl) hb hs (B2 := 32040) (B2' := 192240) rfl rfl (by omega) (by omega) (fun τ_556 r_556 c_ s_ h_556 hb_ hs_ => ?_)
        replace hb := hb_
        replace hs := hs_
        clear hb_ hs_
        obtain ⟨v_556, rfl, i_556, e_556⟩ := h_556
        obtain rfl : (lI ((zz (fHours (stG s) (rn (stG s)) (bn (stG s)) (fH (stG s) (bn (stG s)))) (25 + i) - zz (stG s) (25 + i)))) = v_556 := (((willOwe_v (s := (gS s (upd (stG s) (25 + i) 0) (remA c0) (remM M0 c0 (stG s)))) (w := i) (by show i < gn (upd (stG s) (25 + i) 0); omega) rfl (by show gn (upd (stG s) (25 + i) 0) < 1000; omega)).trans ((i2l_I _).trans (congrArg lI (show zz (fHours (upd (stG s) (25 + i) 0) (rn (upd (stG s) (25 + i) 0)) (bn (upd (stG s) (25 + i) 0)) (fH (upd (stG s) (25 + i) 0) (bn (upd (stG s) (25 + i) 0)))) (25 + i) = _ from by rw [nY1, nY3]; exact wp1)))).symm.trans e_556)
        refine aw_lload12 dL_follows_559 ?_
        refine aw_lload10 dL_follows_561 ?_
        refine ai_lsub dL_follows_563 ?_
        refine ai_lif_ne (tgt := 590) dL_follows_564 dL_follows_565 (by decide) (by omega) (by omega) (by omega) (by omega) (fun c_564 => absurd c_564 (by omega)) (fun c_564 => ?_)
        refine aw_aload0 dL_follows_568 ?_
        refine ac_SH (As := [.ref 0]) (dL_undo_ i_556 (cd1_0 (by show (remA c0) ≠ 0; omega)).symm) dL_follows_569 sl_L_184 (by decide) (Nat.le_of_ble_eq_true rfl) hb hs (B2 := 32048) (B2' := 192288) rfl rfl (by omega) (by omega) (fun τ_569 r_569 c_ s_ h_569 hb_ hs_ => ?_)
        replace hb := hb_
        replace hs := hs_
        clear hb_ hs_
        obtain ⟨v_569, rfl, i_569, e_569⟩ := h_569
        obtain rfl : (lI ((((remA c0) - 1 : Nat) : Int))) = v_569 := (((nI_l (by omega)).trans (lN_lI ((remA c0) - 1))).symm.trans e_569)
        have j_569 : CI τ_569 (gS s (stG s) ((remA c0) - 1) (remM M0 c0 (stG s))) := CI.row (rem_top hc14) i_569
        have hc14 : (remA c0) - 1 ≤ 14 := by omega
        have ra := remA_Z hc14
        refine aw_lconst (v := lI (0)) dL_follows_572 (by decide) ?_
        refine ai_lif_lt (tgt := 590) dL_follows_573 dL_follows_574 (by decide) (by omega) (by omega) (by omega) (by omega) (fun c_573 => absurd c_573 (by omega)) (fun c_573 => ?_)
        refine aw_aload0 dL_follows_577 ?_
        refine ac_S (As := [.ref 0]) (k_now j_569) dL_follows_578 sl_L_120 (by decide) (Nat.le_of_ble_eq_true rfl) hb hs (B2 := 34616) (B2' := 207696) rfl rfl (by omega) (by omega) (fun τ_578 r_578 c_ s_ h_578 hb_ hs_ => ?_)
        replace hb := hb_
        replace hs := hs_
        clear hb_ hs_
        obtain ⟨v_578, rfl, i_578, e_578⟩ := h_578
        obtain rfl : (nowV (stG s)) = v_578 := e_578
        refine aw_lload2 dL_follows_581 ?_
        refine al_if_ne (tgt := 590) dL_follows_582 dL_follows_583 (by decide) (fun c_582 => absurd rfl c_582) (fun _ => ?_)
        refine aw_iconst (v := iI (1)) dL_follows_586 rfl ?_
        refine aw_goto (tgt := 591) dL_follows_587 (by decide) ?_
        refine aw_istore7 dL_follows_591 (Nat.le_of_ble_eq_true rfl) rfl ?_
        refine aw_iinc9 (w := (iI (((i + 1 : Nat) : Int)))) dL_follows_593 (iinc_N rfl) (Nat.le_of_ble_eq_true rfl) rfl ?_
        refine aw_goto (tgt := 502) dL_follows_596 (by decide) ?_
        refine AW.loc (ls' := [some (.ref 0), some (.int (iI (x))), some (.long (nowV (stG s))), none, some (.int (iI ((tn (stG s) : Int)))), some (.int (iI ((rn (stG s) : Int)))), some (.int (iI ((gn (stG s) : Int)))), some (.int (iI (1))), none, some (.int (iI (((i + 1 : Nat) : Int)))), none, none, none, none, none, none, none, none, none, none, none, none]) (loc_c (loc_c (loc_c (loc_n (loc_c (loc_c (loc_c (loc_c (loc_n (loc_c (loc_n (loc_n (loc_n loc_r))))))))))))) ?_
        exact ih (i + 1) (by omega) (by omega) ((remA c0) - 1) (remM M0 c0 (stG s)) _ i_578 _ _ (by omega) (by omega)
  have J499 : ∀ (c0 : Nat) (M0 : Nat → Rw) (τ : Sg) (h : CI τ (mS s c0 M0)) (cells slots : Nat) (hb : cells + 8 * (324 + 328 * gn (stG s)) ≤ 32000) (hs : slots + 48 * (324 + 328 * gn (stG s)) ≤ 192000), AW K yL_follows.cls cL_follows mL_follows 11 32000 192000 (Qm K NN (rI fun τ y0 => CI τ (foS s) ∧ iI 1 = y0) XF 32000 192000) NN none τ cells slots 499 [some (.ref 0), some (.int (iI (x))), some (.long (nowV (stG s))), none, some (.int (iI ((tn (stG s) : Int)))), some (.int (iI ((rn (stG s) : Int)))), some (.int (iI ((gn (stG s) : Int)))), some (.int (iI (1))), none, none, none, none, none, none, none, none, none, none, none, none, none, none] [] := by
    intro c0 M0 τ h cells slots hb hs
    refine aw_iconst (v := iI (0)) dL_follows_499 rfl ?_
    refine aw_istore9 dL_follows_500 (Nat.le_of_ble_eq_true rfl) rfl ?_
    exact J502 _ 0 (Nat.zero_le _) (Nat.lt_succ_self _) c0 M0 _ h _ _ (by omega) (by omega)
  have J405 : ∀ (r : Nat) (hr : r < rn (stG s)) (c0 : Nat) (M0 : Nat → Rw) (τ : Sg) (h : CI τ (mS s c0 M0)) (cells slots : Nat) (hb : cells + 8 * (330 + 328 * gn (stG s)) ≤ 32000) (hs : slots + 48 * (330 + 328 * gn (stG s)) ≤ 192000), AW K yL_follows.cls cL_follows mL_follows 11 32000 192000 (Qm K NN (rI fun τ y0 => CI τ (foS s) ∧ iI 1 = y0) XF 32000 192000) NN none τ cells slots 405 [some (.ref 0), some (.int (iI (x))), some (.long (nowV (stG s))), none, some (.int (iI ((tn (stG s) : Int)))), some (.int (iI ((rn (stG s) : Int)))), some (.int (iI ((gn (stG s) : Int)))), some (.int (iI (1))), none, some (.int (iI ((r : Int)))), none, none, none, none, none, none, none, none, none, none, none, none] [] := by
    intro r hr c0 M0 τ h cells slots hb hs
    obtain ⟨rz1, rz2, rz3, rz4⟩ := hW.2.1.1 r hr
    have rz5 := hW.2.1.2
    refine aw_aload0 dL_follows_405 ?_
    refine aw_iload9 dL_follows_406 ?_
    refine aw_iconst (v := iI (3)) dL_follows_408 rfl ?_
    refine ac_SH (As := [.ref 0, .int (iI ((r : Int))), .int (iI (3))]) (qL_room h _ _) dL_follows_409 sl_L_111 (by decide) (Nat.le_of_ble_eq_true rfl) hb hs (B2 := 32008) (B2' := 192048) rfl rfl (by omega) (by omega) (fun τ_409 r_409 c_ s_ h_409 hb_ hs_ => ?_)
    replace hb := hb_
    replace hs := hs_
    clear hb_ hs_
    obtain ⟨v_409, rfl, i_409, e_409⟩ := h_409
    obtain rfl : (lI (zz (stG s) (9 + 4 * r + 3))) = v_409 := (((room_v (s := s) (r := r) (k := 3) (by omega) (by omega) rfl rfl (by omega)).trans (i2l_I _)).symm.trans e_409)
    refine aw_lstore16 dL_follows_412 (Nat.le_of_ble_eq_true rfl) rfl ?_
    refine aw_aload0 dL_follows_414 ?_
    refine aw_iconst (v := iI (4)) dL_follows_415 rfl ?_
    refine ac_SH (As := [.ref 0, .int (iI (4))]) (qL_about i_409 _) dL_follows_416 sl_L_104 (by decide) (Nat.le_of_ble_eq_true rfl) hb hs (B2 := 32016) (B2' := 192096) rfl rfl (by omega) (by omega) (fun τ_416 r_416 c_ s_ h_416 hb_ hs_ => ?_)
    replace hb := hb_
    replace hs := hs_
    clear hb_ hs_
    obtain ⟨v_416, rfl, i_416, e_416⟩ := h_416
    obtain rfl : (lI (zz (stG s) 4)) = v_416 := (((about_v (s := s) (i := 4) (by omega) rfl).trans (i2l_I _)).symm.trans e_416)
    refine aw_lstore18 dL_follows_419 (Nat.le_of_ble_eq_true rfl) rfl ?_
    refine aw_aload0 dL_follows_421 ?_
    refine aw_iload9 dL_follows_422 ?_
    refine aw_iconst (v := iI (1)) dL_follows_424 rfl ?_
    refine ac_SH (As := [.ref 0, .int (iI ((r : Int))), .int (iI (1))]) (qL_later i_416 _ _) dL_follows_425 sl_L_124 (by decide) (Nat.le_of_ble_eq_true rfl) hb hs (B2 := 32024) (B2' := 192144) rfl rfl (by omega) (by omega) (fun τ_425 r_425 c_ s_ h_425 hb_ hs_ => ?_)
    replace hb := hb_
    replace hs := hs_
    clear hb_ hs_
    obtain ⟨v_425, rfl, i_425, e_425⟩ := h_425
    obtain rfl : (lI (zz (fHours (stG s) (rn (stG s)) (bn (stG s)) 1) (9 + 4 * r + 3))) = v_425 := (((later_v (s := s) (r := r) (h := 1) (by omega) (by omega) rfl rfl (by omega)).trans (i2l_I _)).symm.trans e_425)
    have hb1 := (zz_rng (fHours (stG s) (rn (stG s)) (bn (stG s)) 1) (9 + 4 * r + 3))
    obtain ⟨nt1, nt2⟩ := next_T hW hr
    refine aw_lstore20 dL_follows_428 (Nat.le_of_ble_eq_true rfl) rfl ?_
    refine aw_iload7 dL_follows_430 ?_
    refine ai_if_eq (tgt := 496) dL_follows_432 (by decide) (by omega) (by omega) (fun c_432 => absurd c_432 (by decide)) (fun _ => ?_)
    refine aw_lload20 dL_follows_435 ?_
    refine aw_lload16 dL_follows_437 ?_
    refine aw_lload18 dL_follows_439 ?_
    refine ai_lif_ge (tgt := 450) dL_follows_441 dL_follows_442 (by decide) (by omega) (by omega) (by omega) (by omega) (fun c_441 => ?_) (fun c_441 => ?_)
    · refine aw_lload18 dL_follows_450 ?_
      refine ai_lif_lt (tgt := 496) dL_follows_452 dL_follows_453 (by decide) (by omega) (by omega) (by omega) (by omega) (fun c_452 => absurd c_452 (by omega)) (fun c_452 => ?_)
      refine aw_aload0 dL_follows_456 ?_
      refine aw_iload9 dL_follows_457 ?_
      refine aw_bipush (v := iI (6)) dL_follows_459 (by decide) ?_
      refine ac_SH (As := [.ref 0, .int (iI ((r : Int))), .int (iI (6))]) (qL_room i_425 _ _) dL_follows_461 sl_L_111 (by decide) (Nat.le_of_ble_eq_true rfl) hb hs (B2 := 32032) (B2' := 192192) rfl rfl (by omega) (by omega) (fun τ_461 r_461 c_ s_ h_461 hb_ hs_ => ?_)
      replace hb := hb_
      replace hs := hs_
      clear hb_ hs_
      obtain ⟨v_461, rfl, i_461, e_461⟩ := h_461
      obtain rfl : (lI (oZ (fHeater (stG s) r (bn (stG s))))) = v_461 := (((room_v (s := s) (r := r) (k := 6) (by omega) (by omega) rfl rfl (by omega)).trans (oI_Z (fun b hb => by have := fHeater_lt hb; omega))).symm.trans e_461)
      have o_461 := oZ_rng (x := fHeater (stG s) r (bn (stG s))) (n := bn (stG s)) (fun b hb => fHeater_lt hb)
      have o2_461 := oZ_b (x := fHeater (stG s) r (bn (stG s))) (n := bn (stG s)) (fun b hb => fHeater_lt hb)
      refine aw_ldc2 (v := lI (-99)) dL_follows_464 kx_L_151 ?_
      refine ai_lif_ne (tgt := 492) dL_follows_467 dL_follows_468 (by decide) (by omega) (by omega) (by omega) (by omega) (fun c_467 => ?_) (fun c_467 => ?_)
      · refine aw_iconst (v := iI (1)) dL_follows_492 rfl ?_
        refine aw_goto (tgt := 497) dL_follows_493 (by decide) ?_
        refine aw_istore7 dL_follows_497 (Nat.le_of_ble_eq_true rfl) rfl ?_
        refine AW.loc (ls' := [some (.ref 0), some (.int (iI (x))), some (.long (nowV (stG s))), none, some (.int (iI ((tn (stG s) : Int)))), some (.int (iI ((rn (stG s) : Int)))), some (.int (iI ((gn (stG s) : Int)))), some (.int (iI (1))), none, none, none, none, none, none, none, none, none, none, none, none, none, none]) (loc_c (loc_c (loc_c (loc_n (loc_c (loc_c (loc_c (loc_c (loc_n (loc_n (loc_n (loc_n (loc_n (loc_n (loc_n (loc_n (loc_n (loc_n (loc_n (loc_n (loc_n loc_r))))))))))))))))))))) ?_
        exact J499 c0 M0 _ i_461 _ _ (by omega) (by omega)
      · refine aw_lload20 dL_follows_471 ?_
        refine aw_lload16 dL_follows_473 ?_
        refine aw_lload18 dL_follows_475 ?_
        refine ai_lif_le (tgt := 486) dL_follows_477 dL_follows_478 (by decide) (by omega) (by omega) (by omega) (by omega) (fun c_477 => ?_) (fun c_477 => ?_)
        · refine aw_lload18 dL_follows_486 ?_
          refine ai_lif_gt (tgt := 496) dL_follows_488 dL_follows_489 (by decide) (by omega) (by omega) (by omega) (by omega) (fun c_488 => absurd c_488 (by have p6 := nt2 (by rcases o_461 with ⟨z, -⟩ | ⟨b, -, -, z⟩; exact z; omega); omega)) (fun c_488 => ?_)
          refine aw_iconst (v := iI (1)) dL_follows_492 rfl ?_
          refine aw_goto (tgt := 497) dL_follows_493 (by decide) ?_
          refine aw_istore7 dL_follows_497 (Nat.le_of_ble_eq_true rfl) rfl ?_
          refine AW.loc (ls' := [some (.ref 0), some (.int (iI (x))), some (.long (nowV (stG s))), none, some (.int (iI ((tn (stG s) : Int)))), some (.int (iI ((rn (stG s) : Int)))), some (.int (iI ((gn (stG s) : Int)))), some (.int (iI (1))), none, none, none, none, none, none, none, none, none, none, none, none, none, none]) (loc_c (loc_c (loc_c (loc_n (loc_c (loc_c (loc_c (loc_c (loc_n (loc_n (loc_n (loc_n (loc_n (loc_n (loc_n (loc_n (loc_n (loc_n (loc_n (loc_n (loc_n loc_r))))))))))))))))))))) ?_
          exact J499 c0 M0 _ i_461 _ _ (by omega) (by omega)
        · refine aw_lload16 dL_follows_481 ?_
          refine aw_goto (tgt := 488) dL_follows_483 (by decide) ?_
          refine ai_lif_gt (tgt := 496) dL_follows_488 dL_follows_489 (by decide) (by omega) (by omega) (by omega) (by omega) (fun c_488 => absurd c_488 (by have p6 := nt2 (by rcases o_461 with ⟨z, -⟩ | ⟨b, -, -, z⟩; exact z; omega); omega)) (fun c_488 => ?_)
          refine aw_iconst (v := iI (1)) dL_follows_492 rfl ?_
          refine aw_goto (tgt := 497) dL_follows_493 (by decide) ?_
          refine aw_istore7 dL_follows_497 (Nat.le_of_ble_eq_true rfl) rfl ?_
          refine AW.loc (ls' := [some (.ref 0), some (.int (iI (x))), some (.long (nowV (stG s))), none, some (.int (iI ((tn (stG s) : Int)))), some (.int (iI ((rn (stG s) : Int)))), some (.int (iI ((gn (stG s) : Int)))), some (.int (iI (1))), none, none, none, none, none, none, none, none, none, none, none, none, none, none]) (loc_c (loc_c (loc_c (loc_n (loc_c (loc_c (loc_c (loc_c (loc_n (loc_n (loc_n (loc_n (loc_n (loc_n (loc_n (loc_n (loc_n (loc_n (loc_n (loc_n (loc_n loc_r))))))))))))))))))))) ?_
          exact J499 c0 M0 _ i_461 _ _ (by omega) (by omega)
    · refine aw_lload16 dL_follows_445 ?_
      refine aw_goto (tgt := 452) dL_follows_447 (by decide) ?_
      refine ai_lif_lt (tgt := 496) dL_follows_452 dL_follows_453 (by decide) (by omega) (by omega) (by omega) (by omega) (fun c_452 => absurd c_452 (by omega)) (fun c_452 => ?_)
      refine aw_aload0 dL_follows_456 ?_
      refine aw_iload9 dL_follows_457 ?_
      refine aw_bipush (v := iI (6)) dL_follows_459 (by decide) ?_
      refine ac_SH (As := [.ref 0, .int (iI ((r : Int))), .int (iI (6))]) (qL_room i_425 _ _) dL_follows_461 sl_L_111 (by decide) (Nat.le_of_ble_eq_true rfl) hb hs (B2 := 32032) (B2' := 192192) rfl rfl (by omega) (by omega) (fun τ_461 r_461 c_ s_ h_461 hb_ hs_ => ?_)
      replace hb := hb_
      replace hs := hs_
      clear hb_ hs_
      obtain ⟨v_461, rfl, i_461, e_461⟩ := h_461
      obtain rfl : (lI (oZ (fHeater (stG s) r (bn (stG s))))) = v_461 := (((room_v (s := s) (r := r) (k := 6) (by omega) (by omega) rfl rfl (by omega)).trans (oI_Z (fun b hb => by have := fHeater_lt hb; omega))).symm.trans e_461)
      have o_461 := oZ_rng (x := fHeater (stG s) r (bn (stG s))) (n := bn (stG s)) (fun b hb => fHeater_lt hb)
      have o2_461 := oZ_b (x := fHeater (stG s) r (bn (stG s))) (n := bn (stG s)) (fun b hb => fHeater_lt hb)
      refine aw_ldc2 (v := lI (-99)) dL_follows_464 kx_L_151 ?_
      refine ai_lif_ne (tgt := 492) dL_follows_467 dL_follows_468 (by decide) (by omega) (by omega) (by omega) (by omega) (fun c_467 => ?_) (fun c_467 => ?_)
      · refine aw_iconst (v := iI (1)) dL_follows_492 rfl ?_
        refine aw_goto (tgt := 497) dL_follows_493 (by decide) ?_
        refine aw_istore7 dL_follows_497 (Nat.le_of_ble_eq_true rfl) rfl ?_
        refine AW.loc (ls' := [some (.ref 0), some (.int (iI (x))), some (.long (nowV (stG s))), none, some (.int (iI ((tn (stG s) : Int)))), some (.int (iI ((rn (stG s) : Int)))), some (.int (iI ((gn (stG s) : Int)))), some (.int (iI (1))), none, none, none, none, none, none, none, none, none, none, none, none, none, none]) (loc_c (loc_c (loc_c (loc_n (loc_c (loc_c (loc_c (loc_c (loc_n (loc_n (loc_n (loc_n (loc_n (loc_n (loc_n (loc_n (loc_n (loc_n (loc_n (loc_n (loc_n loc_r))))))))))))))))))))) ?_
        exact J499 c0 M0 _ i_461 _ _ (by omega) (by omega)
      · refine aw_lload20 dL_follows_471 ?_
        refine aw_lload16 dL_follows_473 ?_
        refine aw_lload18 dL_follows_475 ?_
        refine ai_lif_le (tgt := 486) dL_follows_477 dL_follows_478 (by decide) (by omega) (by omega) (by omega) (by omega) (fun c_477 => ?_) (fun c_477 => ?_)
        · refine aw_lload18 dL_follows_486 ?_
          refine ai_lif_gt (tgt := 496) dL_follows_488 dL_follows_489 (by decide) (by omega) (by omega) (by omega) (by omega) (fun c_488 => absurd c_488 (by have p6 := nt2 (by rcases o_461 with ⟨z, -⟩ | ⟨b, -, -, z⟩; exact z; omega); omega)) (fun c_488 => ?_)
          refine aw_iconst (v := iI (1)) dL_follows_492 rfl ?_
          refine aw_goto (tgt := 497) dL_follows_493 (by decide) ?_
          refine aw_istore7 dL_follows_497 (Nat.le_of_ble_eq_true rfl) rfl ?_
          refine AW.loc (ls' := [some (.ref 0), some (.int (iI (x))), some (.long (nowV (stG s))), none, some (.int (iI ((tn (stG s) : Int)))), some (.int (iI ((rn (stG s) : Int)))), some (.int (iI ((gn (stG s) : Int)))), some (.int (iI (1))), none, none, none, none, none, none, none, none, none, none, none, none, none, none]) (loc_c (loc_c (loc_c (loc_n (loc_c (loc_c (loc_c (loc_c (loc_n (loc_n (loc_n (loc_n (loc_n (loc_n (loc_n (loc_n (loc_n (loc_n (loc_n (loc_n (loc_n loc_r))))))))))))))))))))) ?_
          exact J499 c0 M0 _ i_461 _ _ (by omega) (by omega)
        · refine aw_lload16 dL_follows_481 ?_
          refine aw_goto (tgt := 488) dL_follows_483 (by decide) ?_
          refine ai_lif_gt (tgt := 496) dL_follows_488 dL_follows_489 (by decide) (by omega) (by omega) (by omega) (by omega) (fun c_488 => absurd c_488 (by have p6 := nt2 (by rcases o_461 with ⟨z, -⟩ | ⟨b, -, -, z⟩; exact z; omega); omega)) (fun c_488 => ?_)
          refine aw_iconst (v := iI (1)) dL_follows_492 rfl ?_
          refine aw_goto (tgt := 497) dL_follows_493 (by decide) ?_
          refine aw_istore7 dL_follows_497 (Nat.le_of_ble_eq_true rfl) rfl ?_
          refine AW.loc (ls' := [some (.ref 0), some (.int (iI (x))), some (.long (nowV (stG s))), none, some (.int (iI ((tn (stG s) : Int)))), some (.int (iI ((rn (stG s) : Int)))), some (.int (iI ((gn (stG s) : Int)))), some (.int (iI (1))), none, none, none, none, none, none, none, none, none, none, none, none, none, none]) (loc_c (loc_c (loc_c (loc_n (loc_c (loc_c (loc_c (loc_c (loc_n (loc_n (loc_n (loc_n (loc_n (loc_n (loc_n (loc_n (loc_n (loc_n (loc_n (loc_n (loc_n loc_r))))))))))))))))))))) ?_
          exact J499 c0 M0 _ i_461 _ _ (by omega) (by omega)
  have hb : 0 + 32000 ≤ 32000 := by omega
  have hs : 0 + 192000 ≤ 192000 := by omega
  refine aw_aload0 dL_follows_0 ?_
  refine ac_S (As := [.ref 0]) (k_now hI) dL_follows_1 sl_L_120 (by decide) (Nat.le_of_ble_eq_true rfl) hb hs (B2 := 34568) (B2' := 207408) rfl rfl (by omega) (by omega) (fun τ_1 r_1 c_ s_ h_1 hb_ hs_ => ?_)
  replace hb := hb_
  replace hs := hs_
  clear hb_ hs_
  obtain ⟨v_1, rfl, i_1, e_1⟩ := h_1
  obtain rfl : (nowV (stG s)) = v_1 := e_1
  refine aw_lstore2 dL_follows_4 (Nat.le_of_ble_eq_true rfl) rfl ?_
  refine aw_aload0 dL_follows_5 ?_
  refine aw_iconst (v := iI (0)) dL_follows_6 rfl ?_
  refine ac_SH (As := [.ref 0, .int (iI (0))]) (qL_about i_1 _) dL_follows_7 sl_L_104 (by decide) (Nat.le_of_ble_eq_true rfl) hb hs (B2 := 34576) (B2' := 207456) rfl rfl (by omega) (by omega) (fun τ_7 r_7 c_ s_ h_7 hb_ hs_ => ?_)
  replace hb := hb_
  replace hs := hs_
  clear hb_ hs_
  obtain ⟨v_7, rfl, i_7, e_7⟩ := h_7
  obtain rfl : (lI ((tn (stG s) : Int))) = v_7 := (((about_v (s := s) (i := 0) (by omega) rfl).trans ab0).symm.trans e_7)
  refine ai_l2i dL_follows_10 ?_
  refine aw_istore4 dL_follows_11 (Nat.le_of_ble_eq_true rfl) rfl ?_
  refine aw_aload0 dL_follows_13 ?_
  refine aw_iconst (v := iI (1)) dL_follows_14 rfl ?_
  refine ac_SH (As := [.ref 0, .int (iI (1))]) (qL_about i_7 _) dL_follows_15 sl_L_104 (by decide) (Nat.le_of_ble_eq_true rfl) hb hs (B2 := 34584) (B2' := 207504) rfl rfl (by omega) (by omega) (fun τ_15 r_15 c_ s_ h_15 hb_ hs_ => ?_)
  replace hb := hb_
  replace hs := hs_
  clear hb_ hs_
  obtain ⟨v_15, rfl, i_15, e_15⟩ := h_15
  obtain rfl : (lI ((rn (stG s) : Int))) = v_15 := (((about_v (s := s) (i := 1) (by omega) rfl).trans ab1).symm.trans e_15)
  refine ai_l2i dL_follows_18 ?_
  refine aw_istore5 dL_follows_19 (Nat.le_of_ble_eq_true rfl) rfl ?_
  refine aw_aload0 dL_follows_21 ?_
  refine aw_iconst (v := iI (2)) dL_follows_22 rfl ?_
  refine ac_SH (As := [.ref 0, .int (iI (2))]) (qL_about i_15 _) dL_follows_23 sl_L_104 (by decide) (Nat.le_of_ble_eq_true rfl) hb hs (B2 := 34592) (B2' := 207552) rfl rfl (by omega) (by omega) (fun τ_23 r_23 c_ s_ h_23 hb_ hs_ => ?_)
  replace hb := hb_
  replace hs := hs_
  clear hb_ hs_
  obtain ⟨v_23, rfl, i_23, e_23⟩ := h_23
  obtain rfl : (lI ((gn (stG s) : Int))) = v_23 := (((about_v (s := s) (i := 2) (by omega) rfl).trans ab2).symm.trans e_23)
  refine ai_l2i dL_follows_26 ?_
  refine aw_istore6 dL_follows_27 (Nat.le_of_ble_eq_true rfl) rfl ?_
  refine aw_aload0 dL_follows_29 ?_
  refine aw_iconst (v := iI (1)) dL_follows_30 rfl ?_
  refine ac_SH (As := [.ref 0, .int (iI (1))]) (dL_save_ i_23 (iI 1) (cd1_0 (by decide)).symm) dL_follows_31 sl_L_162 (by decide) (Nat.le_of_ble_eq_true rfl) hb hs (B2 := 34600) (B2' := 207600) rfl rfl (by omega) (by omega) (fun τ_31 r_31 c_ s_ h_31 hb_ hs_ => ?_)
  replace hb := hb_
  replace hs := hs_
  clear hb_ hs_
  obtain ⟨v_31, rfl, i_31, e_31⟩ := h_31
  obtain rfl : (lI ((tn (stG s) : Int))) = v_31 := (ab0.symm.trans e_31)
  have j_31 : CI τ_31 (mS s (stC s) (stM s)) := by
    have e9 : cN (iI 1) = 1 := by decide
    rw [e9] at i_31
    exact i_31
  have hc14 : stC s ≤ 14 := hI.c14
  have ra := remA_Z hc14
  refine aw_iload4 dL_follows_34 ?_
  refine ai_i2l dL_follows_36 (by omega) (by omega) ?_
  refine ai_lif_ne (tgt := 74) dL_follows_37 dL_follows_38 (by decide) (by omega) (by omega) (by omega) (by omega) (fun c_37 => absurd c_37 (by omega)) (fun c_37 => ?_)
  refine aw_aload0 dL_follows_41 ?_
  refine aw_iload1 dL_follows_42 ?_
  refine ai_i2l dL_follows_43 (by omega) (by omega) ?_
  refine aw_bipush (v := iI (9)) dL_follows_44 (by decide) ?_
  refine ac_SH (As := [.ref 0, .long (lI (x)), .int (iI (9))]) (qL_simulate j_31 _ _) dL_follows_46 sl_L_159 (by decide) (Nat.le_of_ble_eq_true rfl) hb hs (B2 := 34608) (B2' := 207648) rfl rfl (by omega) (by omega) (fun τ_46 r_46 c_ s_ h_46 hb_ hs_ => ?_)
  replace hb := hb_
  replace hs := hs_
  clear hb_ hs_
  obtain ⟨v_46, rfl, i_46, e_46⟩ := h_46
  obtain rfl : (vSimulate s (lI x) (iI 9)) = v_46 := e_46
  refine aw_aload0 dL_follows_49 ?_
  refine aw_iload1 dL_follows_50 ?_
  refine ai_i2l dL_follows_51 (by omega) (by omega) ?_
  refine aw_bipush (v := iI (9)) dL_follows_52 (by decide) ?_
  refine ac_SH (As := [.ref 0, .long (lI (x)), .int (iI (9))]) (qL_simulate i_46 _ _) dL_follows_54 sl_L_159 (by decide) (Nat.le_of_ble_eq_true rfl) hb hs (B2 := 34616) (B2' := 207696) rfl rfl (by omega) (by omega) (fun τ_54 r_54 c_ s_ h_54 hb_ hs_ => ?_)
  replace hb := hb_
  replace hs := hs_
  clear hb_ hs_
  obtain ⟨v_54, rfl, i_54, e_54⟩ := h_54
  obtain rfl : (vSimulate s (lI x) (iI 9)) = v_54 := e_54
  refine al_if_ne (tgt := 74) dL_follows_57 dL_follows_58 (by decide) (fun c_57 => absurd rfl c_57) (fun _ => ?_)
  refine aw_aload0 dL_follows_61 ?_
  refine ac_S (As := [.ref 0]) (k_now i_54) dL_follows_62 sl_L_120 (by decide) (Nat.le_of_ble_eq_true rfl) hb hs (B2 := 37184) (B2' := 223104) rfl rfl (by omega) (by omega) (fun τ_62 r_62 c_ s_ h_62 hb_ hs_ => ?_)
  replace hb := hb_
  replace hs := hs_
  clear hb_ hs_
  obtain ⟨v_62, rfl, i_62, e_62⟩ := h_62
  obtain rfl : (nowV (stG s)) = v_62 := e_62
  refine aw_lload2 dL_follows_65 ?_
  refine al_if_ne (tgt := 74) dL_follows_66 dL_follows_67 (by decide) (fun c_66 => absurd rfl c_66) (fun _ => ?_)
  refine aw_iconst (v := iI (1)) dL_follows_70 rfl ?_
  refine aw_goto (tgt := 75) dL_follows_71 (by decide) ?_
  refine aw_istore7 dL_follows_75 (Nat.le_of_ble_eq_true rfl) rfl ?_
  refine aw_iconst (v := iI (1)) dL_follows_77 rfl ?_
  refine aw_iload1 dL_follows_78 ?_
  refine aw_bipush (v := iI (12)) dL_follows_79 (by decide) ?_
  refine ai_irem dL_follows_81 (by omega) (by omega) (by omega) (by omega) ?_
  refine ai_iadd dL_follows_82 ?_
  obtain ⟨hh, hhh⟩ : ∃ hh : Nat, (1 + (x % 12)) = (hh : Int) := ⟨((1 + (x % 12))).toNat, by omega⟩
  rw [hhh]
  refine aw_istore8 dL_follows_83 (Nat.le_of_ble_eq_true rfl) rfl ?_
  refine aw_iload5 dL_follows_85 ?_
  refine ai_if_le (tgt := 499) dL_follows_87 (by decide) (by omega) (by omega) (fun c_87 => ?_) (fun c_87 => ?_)
  · refine AW.loc (ls' := [some (.ref 0), some (.int (iI (x))), some (.long (nowV (stG s))), none, some (.int (iI ((tn (stG s) : Int)))), some (.int (iI ((rn (stG s) : Int)))), some (.int (iI ((gn (stG s) : Int)))), some (.int (iI (1))), none, none, none, none, none, none, none, none, none, none, none, none, none, none]) (loc_c (loc_c (loc_c (loc_n (loc_c (loc_c (loc_c (loc_c (loc_n loc_r))))))))) ?_
    exact J499 (stC s) (stM s) _ i_62 _ _ (by omega) (by omega)
  · refine aw_iload4 dL_follows_90 ?_
    refine aw_iload8 dL_follows_92 ?_
    refine ai_iadd dL_follows_94 ?_
    refine aw_sipush (v := iI (240)) dL_follows_95 (by decide) ?_
    refine ai_ic_gt (tgt := 499) dL_follows_98 (by decide) (by omega) (by omega) (by omega) (by omega) (fun c_98 => ?_) (fun c_98 => ?_)
    · refine AW.loc (ls' := [some (.ref 0), some (.int (iI (x))), some (.long (nowV (stG s))), none, some (.int (iI ((tn (stG s) : Int)))), some (.int (iI ((rn (stG s) : Int)))), some (.int (iI ((gn (stG s) : Int)))), some (.int (iI (1))), none, none, none, none, none, none, none, none, none, none, none, none, none, none]) (loc_c (loc_c (loc_c (loc_n (loc_c (loc_c (loc_c (loc_c (loc_n loc_r))))))))) ?_
      exact J499 (stC s) (stM s) _ i_62 _ _ (by omega) (by omega)
    · refine aw_iload7 dL_follows_101 ?_
      refine ai_if_eq (tgt := 499) dL_follows_103 (by decide) (by omega) (by omega) (fun c_103 => absurd c_103 (by decide)) (fun _ => ?_)
      refine aw_iload1 dL_follows_106 ?_
      refine aw_bipush (v := iI (12)) dL_follows_107 (by decide) ?_
      refine ai_idiv dL_follows_109 (by omega) (by omega) (by omega) (by omega) ?_
      refine aw_iload5 dL_follows_110 ?_
      refine ai_irem dL_follows_112 (by omega) (by omega) (by omega) (by omega) ?_
      obtain ⟨r, hre, hrl⟩ := emodN (a := x / 12) (b := (rn (stG s) : Int)) (by omega)
      rw [hre]
      have hr : r < rn (stG s) := by omega
      refine aw_istore9 dL_follows_113 (Nat.le_of_ble_eq_true rfl) rfl ?_
      refine aw_aload0 dL_follows_115 ?_
      refine aw_iload9 dL_follows_116 ?_
      refine aw_iload8 dL_follows_118 ?_
      refine ac_SH (As := [.ref 0, .int (iI ((r : Int))), .int (iI ((hh : Int)))]) (qL_later i_62 _ _) dL_follows_120 sl_L_124 (by decide) (Nat.le_of_ble_eq_true rfl) hb hs (B2 := 37192) (B2' := 223152) rfl rfl (by omega) (by omega) (fun τ_120 r_120 c_ s_ h_120 hb_ hs_ => ?_)
      replace hb := hb_
      replace hs := hs_
      clear hb_ hs_
      obtain ⟨v_120, rfl, i_120, e_120⟩ := h_120
      obtain rfl : ((fHours (stG s) (rn (stG s)) (bn (stG s)) hh (9 + 4 * r + 3)).toInt64) = v_120 := ((later_v (s := s) (r := r) (h := hh) (by omega) (by omega) rfl rfl (by omega)).symm.trans e_120)
      refine aw_lstore10 dL_follows_123 (Nat.le_of_ble_eq_true rfl) rfl ?_
      refine aw_aload0 dL_follows_125 ?_
      refine aw_iconst (v := iI (5)) dL_follows_126 rfl ?_
      refine ac_SH (As := [.ref 0, .int (iI (5))]) (qL_about i_120 _) dL_follows_127 sl_L_104 (by decide) (Nat.le_of_ble_eq_true rfl) hb hs (B2 := 37200) (B2' := 223200) rfl rfl (by omega) (by omega) (fun τ_127 r_127 c_ s_ h_127 hb_ hs_ => ?_)
      replace hb := hb_
      replace hs := hs_
      clear hb_ hs_
      obtain ⟨v_127, rfl, i_127, e_127⟩ := h_127
      obtain rfl : (lI (zz (stG s) 5)) = v_127 := (((about_v (s := s) (i := 5) (by omega) rfl).trans (i2l_I _)).symm.trans e_127)
      refine aw_lstore12 dL_follows_130 (Nat.le_of_ble_eq_true rfl) rfl ?_
      refine aw_aload0 dL_follows_132 ?_
      refine aw_iload8 dL_follows_133 ?_
      have hW1 : WK (fHours (stG s) (rn (stG s)) (bn (stG s)) hh) _ _ _ _ := hW.hours hh (by omega)
      have m_135 := met_Z hW1 (by omega)
      refine ac_SH (As := [.ref 0, .int (iI ((hh : Int)))]) (dL_pass_ i_127 (iI (hh : Int)) ((cd2_0 ((rngI (lo := 1) (hi := 48) rfl (by decide) (by omega) (by omega) (by decide) (by decide) (by decide) (by decide)).mpr (by omega)) (((hour_N hw (hh : Int) (by omega) (by omega) (by omega)).2 (by omega) (by omega)).mpr (by omega))).symm)) dL_follows_135 sl_L_145 (by decide) (Nat.le_of_ble_eq_true rfl) hb hs (B2 := 37208) (B2' := 223248) rfl rfl (by omega) (by omega) (fun τ_135 r_135 c_ s_ h_135 hb_ hs_ => ?_)
      replace hb := hb_
      replace hs := hs_
      clear hb_ hs_
      obtain ⟨v_135, rfl, i_135, e_135⟩ := h_135
      obtain rfl : (lI ((zz (fHours (stG s) (rn (stG s)) (bn (stG s)) hh) 5 - zz (stG s) 5))) = v_135 := (by rw [← e_135, wPass]; exact ((pass_v (g := (stG s)) (G := (fHours (stG s) (rn (stG s)) (bn (stG s)) hh)) m0 m_135).symm.trans (congrArg (fun z : Rw => (z 5 - (stG s) 5).toInt64) (show fHours (stG s) (rn (stG s)) (bn (stG s)) (cN (iI (hh : Int))) = (fHours (stG s) (rn (stG s)) (bn (stG s)) hh) from by rw [cN_iI (by omega)]).symm)))
      have j_135 : CI τ_135 (gS s (fHours (stG s) (rn (stG s)) (bn (stG s)) hh) (remA (stC s)) (remM (stM s) (stC s) (stG s))) := CI.row (show fHours (stG s) (rn (stG s)) (bn (stG s)) (cN (iI (hh : Int))) = (fHours (stG s) (rn (stG s)) (bn (stG s)) hh) from by rw [cN_iI (by omega)]) i_135
      obtain ⟨n11, n12, n13, n14⟩ := hW1.1.nums (by omega)
      refine aw_aload0 dL_follows_138 ?_
      refine aw_iconst (v := iI (5)) dL_follows_139 rfl ?_
      refine ac_SH (As := [.ref 0, .int (iI (5))]) (qL_about j_135 _) dL_follows_140 sl_L_104 (by decide) (Nat.le_of_ble_eq_true rfl) hb hs (B2 := 37216) (B2' := 223296) rfl rfl (by omega) (by omega) (fun τ_140 r_140 c_ s_ h_140 hb_ hs_ => ?_)
      replace hb := hb_
      replace hs := hs_
      clear hb_ hs_
      obtain ⟨v_140, rfl, i_140, e_140⟩ := h_140
      obtain rfl : (lI (zz ((fHours (stG s) (rn (stG s)) (bn (stG s)) hh)) 5)) = v_140 := (((about_v (s := (gS s (fHours (stG s) (rn (stG s)) (bn (stG s)) hh) (remA (stC s)) (remM (stM s) (stC s) (stG s)))) (i := 5) (by omega) rfl).trans (i2l_I _)).symm.trans e_140)
      refine aw_lload12 dL_follows_143 ?_
      refine ai_lsub dL_follows_145 ?_
      refine ai_lif_ne (tgt := 200) dL_follows_146 dL_follows_147 (by decide) (by omega) (by omega) (by omega) (by omega) (fun c_146 => absurd c_146 (by omega)) (fun c_146 => ?_)
      refine aw_aload0 dL_follows_150 ?_
      refine aw_iload9 dL_follows_151 ?_
      refine aw_iconst (v := iI (3)) dL_follows_153 rfl ?_
      refine ac_SH (As := [.ref 0, .int (iI ((r : Int))), .int (iI (3))]) (qL_room i_140 _ _) dL_follows_154 sl_L_111 (by decide) (Nat.le_of_ble_eq_true rfl) hb hs (B2 := 37224) (B2' := 223344) rfl rfl (by omega) (by omega) (fun τ_154 r_154 c_ s_ h_154 hb_ hs_ => ?_)
      replace hb := hb_
      replace hs := hs_
      clear hb_ hs_
      obtain ⟨v_154, rfl, i_154, e_154⟩ := h_154
      obtain rfl : ((fHours (stG s) (rn (stG s)) (bn (stG s)) hh (9 + 4 * r + 3)).toInt64) = v_154 := ((room_v (s := (gS s (fHours (stG s) (rn (stG s)) (bn (stG s)) hh) (remA (stC s)) (remM (stM s) (stC s) (stG s)))) (r := r) (k := 3) (by show r < rn (fHours (stG s) (rn (stG s)) (bn (stG s)) hh); omega) (by omega) rfl rfl (by show rn (fHours (stG s) (rn (stG s)) (bn (stG s)) hh) < 1000; omega)).symm.trans e_154)
      refine aw_lload10 dL_follows_157 ?_
      refine al_if_ne (tgt := 200) dL_follows_159 dL_follows_160 (by decide) (fun c_159 => absurd rfl c_159) (fun _ => ?_)
      refine aw_aload0 dL_follows_163 ?_
      refine aw_iconst (v := iI (0)) dL_follows_164 rfl ?_
      refine ac_SH (As := [.ref 0, .int (iI (0))]) (qL_about i_154 _) dL_follows_165 sl_L_104 (by decide) (Nat.le_of_ble_eq_true rfl) hb hs (B2 := 37232) (B2' := 223392) rfl rfl (by omega) (by omega) (fun τ_165 r_165 c_ s_ h_165 hb_ hs_ => ?_)
      replace hb := hb_
      replace hs := hs_
      clear hb_ hs_
      obtain ⟨v_165, rfl, i_165, e_165⟩ := h_165
      obtain rfl : (lI (((tn (stG s) + hh : Nat) : Int))) = v_165 := (((about_v (s := (gS s (fHours (stG s) (rn (stG s)) (bn (stG s)) hh) (remA (stC s)) (remM (stM s) (stC s) (stG s)))) (i := 0) (by omega) rfl).trans (aboutV_n hW1.1 (by omega)).1).symm.trans e_165)
      refine aw_iload4 dL_follows_168 ?_
      refine aw_iload8 dL_follows_170 ?_
      refine ai_iadd dL_follows_172 ?_
      refine ai_i2l dL_follows_173 (by omega) (by omega) ?_
      refine ai_lif_ne (tgt := 200) dL_follows_174 dL_follows_175 (by decide) (by omega) (by omega) (by omega) (by omega) (fun c_174 => absurd c_174 (by omega)) (fun c_174 => ?_)
      refine aw_aload0 dL_follows_178 ?_
      refine ac_SH (As := [.ref 0]) (dL_undo_ i_165 (cd1_0 (by show (remA (stC s)) ≠ 0; omega)).symm) dL_follows_179 sl_L_184 (by decide) (Nat.le_of_ble_eq_true rfl) hb hs (B2 := 37240) (B2' := 223440) rfl rfl (by omega) (by omega) (fun τ_179 r_179 c_ s_ h_179 hb_ hs_ => ?_)
      replace hb := hb_
      replace hs := hs_
      clear hb_ hs_
      obtain ⟨v_179, rfl, i_179, e_179⟩ := h_179
      obtain rfl : (lI ((((remA (stC s)) - 1 : Nat) : Int))) = v_179 := (((nI_l (by omega)).trans (lN_lI ((remA (stC s)) - 1))).symm.trans e_179)
      have j_179 : CI τ_179 (gS s (stG s) ((remA (stC s)) - 1) (remM (stM s) (stC s) (stG s))) := CI.row (rem_top hc14) i_179
      have hc14 : (remA (stC s)) - 1 ≤ 14 := by omega
      have ra := remA_Z hc14
      refine aw_lconst (v := lI (0)) dL_follows_182 (by decide) ?_
      refine ai_lif_lt (tgt := 200) dL_follows_183 dL_follows_184 (by decide) (by omega) (by omega) (by omega) (by omega) (fun c_183 => absurd c_183 (by omega)) (fun c_183 => ?_)
      refine aw_aload0 dL_follows_187 ?_
      refine ac_S (As := [.ref 0]) (k_now j_179) dL_follows_188 sl_L_120 (by decide) (Nat.le_of_ble_eq_true rfl) hb hs (B2 := 39808) (B2' := 238848) rfl rfl (by omega) (by omega) (fun τ_188 r_188 c_ s_ h_188 hb_ hs_ => ?_)
      replace hb := hb_
      replace hs := hs_
      clear hb_ hs_
      obtain ⟨v_188, rfl, i_188, e_188⟩ := h_188
      obtain rfl : (nowV (stG s)) = v_188 := e_188
      refine aw_lload2 dL_follows_191 ?_
      refine al_if_ne (tgt := 200) dL_follows_192 dL_follows_193 (by decide) (fun c_192 => absurd rfl c_192) (fun _ => ?_)
      refine aw_iconst (v := iI (1)) dL_follows_196 rfl ?_
      refine aw_goto (tgt := 201) dL_follows_197 (by decide) ?_
      refine aw_istore7 dL_follows_201 (Nat.le_of_ble_eq_true rfl) rfl ?_
      refine aw_iload4 dL_follows_203 ?_
      refine aw_iload1 dL_follows_205 ?_
      refine aw_bipush (v := iI (48)) dL_follows_206 (by decide) ?_
      refine ai_idiv dL_follows_208 (by omega) (by omega) (by omega) (by omega) ?_
      refine aw_bipush (v := iI (9)) dL_follows_209 (by decide) ?_
      refine ai_irem dL_follows_211 (by omega) (by omega) (by omega) (by omega) ?_
      refine ai_iadd dL_follows_212 ?_
      obtain ⟨fi, hfi⟩ : ∃ fi : Nat, ((tn (stG s) : Int) + ((x / 48) % 9)) = (fi : Int) := ⟨(((tn (stG s) : Int) + ((x / 48) % 9))).toNat, by omega⟩
      rw [hfi]
      refine aw_istore14 dL_follows_213 (Nat.le_of_ble_eq_true rfl) rfl ?_
      refine aw_iconst (v := iI (1)) dL_follows_215 rfl ?_
      refine aw_iload1 dL_follows_216 ?_
      refine aw_sipush (v := iI (432)) dL_follows_217 (by decide) ?_
      refine ai_idiv dL_follows_220 (by omega) (by omega) (by omega) (by omega) ?_
      refine aw_iconst (v := iI (4)) dL_follows_221 rfl ?_
      refine ai_irem dL_follows_222 (by omega) (by omega) (by omega) (by omega) ?_
      refine ai_iadd dL_follows_223 ?_
      obtain ⟨le, hle⟩ : ∃ le : Nat, (1 + ((x / 432) % 4)) = (le : Int) := ⟨((1 + ((x / 432) % 4))).toNat, by omega⟩
      rw [hle]
      refine aw_istore15 dL_follows_224 (Nat.le_of_ble_eq_true rfl) rfl ?_
      refine aw_iload6 dL_follows_226 ?_
      refine ai_if_le (tgt := 405) dL_follows_228 (by decide) (by omega) (by omega) (fun c_228 => ?_) (fun c_228 => ?_)
      · refine AW.loc (ls' := [some (.ref 0), some (.int (iI (x))), some (.long (nowV (stG s))), none, some (.int (iI ((tn (stG s) : Int)))), some (.int (iI ((rn (stG s) : Int)))), some (.int (iI ((gn (stG s) : Int)))), some (.int (iI (1))), none, some (.int (iI ((r : Int)))), none, none, none, none, none, none, none, none, none, none, none, none]) (loc_c (loc_c (loc_c (loc_n (loc_c (loc_c (loc_c (loc_c (loc_n (loc_c (loc_n (loc_n (loc_n (loc_n (loc_n (loc_n loc_r)))))))))))))))) ?_
        exact J405 r hr ((remA (stC s)) - 1) (remM (stM s) (stC s) (stG s)) _ i_188 _ _ (by omega) (by omega)
      · refine aw_iload14 dL_follows_231 ?_
        refine aw_iload15 dL_follows_233 ?_
        refine ai_iadd dL_follows_235 ?_
        refine aw_sipush (v := iI (199)) dL_follows_236 (by decide) ?_
        refine ai_ic_gt (tgt := 405) dL_follows_239 (by decide) (by omega) (by omega) (by omega) (by omega) (fun c_239 => ?_) (fun c_239 => ?_)
        · refine AW.loc (ls' := [some (.ref 0), some (.int (iI (x))), some (.long (nowV (stG s))), none, some (.int (iI ((tn (stG s) : Int)))), some (.int (iI ((rn (stG s) : Int)))), some (.int (iI ((gn (stG s) : Int)))), some (.int (iI (1))), none, some (.int (iI ((r : Int)))), none, none, none, none, none, none, none, none, none, none, none, none]) (loc_c (loc_c (loc_c (loc_n (loc_c (loc_c (loc_c (loc_c (loc_n (loc_c (loc_n (loc_n (loc_n (loc_n (loc_n (loc_n loc_r)))))))))))))))) ?_
          exact J405 r hr ((remA (stC s)) - 1) (remM (stM s) (stC s) (stG s)) _ i_188 _ _ (by omega) (by omega)
        · refine aw_iload15 dL_follows_242 ?_
          refine aw_iload14 dL_follows_244 ?_
          refine ai_iadd dL_follows_246 ?_
          refine aw_iload4 dL_follows_247 ?_
          refine ai_isub dL_follows_249 ?_
          refine aw_bipush (v := iI (48)) dL_follows_250 (by decide) ?_
          refine ai_ic_gt (tgt := 405) dL_follows_252 (by decide) (by omega) (by omega) (by omega) (by omega) (fun c_252 => ?_) (fun c_252 => ?_)
          · refine AW.loc (ls' := [some (.ref 0), some (.int (iI (x))), some (.long (nowV (stG s))), none, some (.int (iI ((tn (stG s) : Int)))), some (.int (iI ((rn (stG s) : Int)))), some (.int (iI ((gn (stG s) : Int)))), some (.int (iI (1))), none, some (.int (iI ((r : Int)))), none, none, none, none, none, none, none, none, none, none, none, none]) (loc_c (loc_c (loc_c (loc_n (loc_c (loc_c (loc_c (loc_c (loc_n (loc_c (loc_n (loc_n (loc_n (loc_n (loc_n (loc_n loc_r)))))))))))))))) ?_
            exact J405 r hr ((remA (stC s)) - 1) (remM (stM s) (stC s) (stG s)) _ i_188 _ _ (by omega) (by omega)
          · refine aw_iload7 dL_follows_255 ?_
            refine ai_if_eq (tgt := 405) dL_follows_257 (by decide) (by omega) (by omega) (fun c_257 => absurd c_257 (by decide)) (fun _ => ?_)
            obtain ⟨q, hq⟩ : ∃ q : Nat, ((fi : Int) + (le : Int)) - (tn (stG s) : Int) = (q : Int) := ⟨(((fi : Int) + (le : Int)) - (tn (stG s) : Int)).toNat, by omega⟩
            have hfL : fL (stG s) (iI (fi : Int)) (iI (le : Int)) = q := fL_Z hw (by omega) hq (by omega)
            have hsnd : sound (stG s) (iI (fi : Int)) (iI (le : Int)) (iI 20) := (sound_N hw (by omega) (by omega) (by omega) (by omega) (by omega) (by omega) (by omega)).mpr (by omega)
            have hq48 : 1 ≤ q ∧ q ≤ 48 := by omega
            rcases Classical.em (bn (stG s) < 12 ∧ fFree (stG s) (iI (r : Int)) (iI (fi : Int)) (iI (le : Int)) (bn (stG s))) with hfree | hfree
            · have hWB : WK (fBookTo (stG s) (bn (stG s)) (iI (r : Int)) (iI 0) (iI (fi : Int)) (iI (le : Int)) (iI 20)) (rn (stG s)) (gn (stG s)) (bn (stG s) + 1) (tn (stG s)) := by
                have h9 := WK.book (ri := r) (wi := 0) (fi := fi) (hi := le) (ui := 20) hW hfree.1 hr (by omega) (by omega) (by omega) (by omega) (by omega) (by rw [nI_iI, nI_iI, nI_iI]; exact hfree.2)
                rw [nI_iI, nI_iI, nI_iI, nI_iI, nI_iI] at h9
                exact h9
              obtain ⟨nB1, nB2, nB3, nB4⟩ := hWB.1.nums (by omega)
              have zB5 : zz (fBookTo (stG s) (bn (stG s)) (iI (r : Int)) (iI 0) (iI (fi : Int)) (iI (le : Int)) (iI 20)) 5 = zz (stG s) 5 := zz_e (fBookTo_off (by omega) (by omega))
              have mB := met_Z hWB (by omega)
              have m2 := met_Z (hW.hours q (by omega)) (by omega)
              have m3 := met_Z (hWB.hours q (by omega)) (by omega)
              refine aw_aload0 dL_follows_260 ?_
              refine aw_iload9 dL_follows_261 ?_
              refine aw_iconst (v := iI (0)) dL_follows_263 rfl ?_
              refine aw_iload14 dL_follows_264 ?_
              refine aw_iload15 dL_follows_266 ?_
              refine aw_bipush (v := iI (20)) dL_follows_268 (by decide) ?_
              refine ac_SH (As := [.ref 0, .int (iI ((r : Int))), .int (iI (0)), .int (iI ((fi : Int))), .int (iI ((le : Int))), .int (iI (20))]) (qL_cost i_188 _ _ _ _ _) dL_follows_270 sl_L_134 (by decide) (Nat.le_of_ble_eq_true rfl) hb hs (B2 := 39816) (B2' := 238896) rfl rfl (by omega) (by omega) (fun τ_270 r_270 c_ s_ h_270 hb_ hs_ => ?_)
              replace hb := hb_
              replace hs := hs_
              clear hb_ hs_
              obtain ⟨v_270, rfl, i_270, e_270⟩ := h_270
              obtain rfl : (lI ((zz (fHours (fBookTo (stG s) (bn (stG s)) (iI (r : Int)) (iI 0) (iI (fi : Int)) (iI (le : Int)) (iI 20)) (rn (stG s)) (bn (stG s) + 1) q) 5 - zz (fHours (stG s) (rn (stG s)) (bn (stG s)) q) 5))) = v_270 := (((cost_v (s := s) ⟨(isN_of (by omega)), (isN_of (by omega))⟩ hsnd hfree).trans (by rw [hfL]; exact pass_v m2 m3)).symm.trans e_270)
              refine aw_lstore16 dL_follows_273 (Nat.le_of_ble_eq_true rfl) rfl ?_
              refine aw_iload14 dL_follows_275 ?_
              refine aw_iload15 dL_follows_277 ?_
              refine ai_iadd dL_follows_279 ?_
              refine aw_iload4 dL_follows_280 ?_
              refine ai_isub dL_follows_282 ?_
              rw [hq]
              refine aw_istore18 dL_follows_283 (Nat.le_of_ble_eq_true rfl) rfl ?_
              refine aw_aload0 dL_follows_285 ?_
              refine aw_iload18 dL_follows_286 ?_
              have hW2 : WK (fHours (stG s) (rn (stG s)) (bn (stG s)) q) _ _ _ _ := hW.hours q (by omega)
              have m_288 := met_Z hW2 (by omega)
              refine ac_SH (As := [.ref 0, .int (iI ((q : Int)))]) (dL_pass_ i_270 (iI (q : Int)) ((cd2_0 ((rngI (lo := 1) (hi := 48) rfl (by decide) (by omega) (by omega) (by decide) (by decide) (by decide) (by decide)).mpr (by omega)) (((hour_N hw (q : Int) (by omega) (by omega) (by omega)).2 (by omega) (by omega)).mpr (by omega))).symm)) dL_follows_288 sl_L_145 (by decide) (Nat.le_of_ble_eq_true rfl) hb hs (B2 := 39824) (B2' := 238944) rfl rfl (by omega) (by omega) (fun τ_288 r_288 c_ s_ h_288 hb_ hs_ => ?_)
              replace hb := hb_
              replace hs := hs_
              clear hb_ hs_
              obtain ⟨v_288, rfl, i_288, e_288⟩ := h_288
              obtain rfl : (lI ((zz (fHours (stG s) (rn (stG s)) (bn (stG s)) q) 5 - zz (stG s) 5))) = v_288 := (by rw [← e_288, wPass]; exact ((pass_v (g := (stG s)) (G := (fHours (stG s) (rn (stG s)) (bn (stG s)) q)) m0 m_288).symm.trans (congrArg (fun z : Rw => (z 5 - (stG s) 5).toInt64) (show fHours (stG s) (rn (stG s)) (bn (stG s)) (cN (iI (q : Int))) = (fHours (stG s) (rn (stG s)) (bn (stG s)) q) from by rw [cN_iI (by omega)]).symm)))
              have j_288 : CI τ_288 (gS s (fHours (stG s) (rn (stG s)) (bn (stG s)) q) (remA ((remA (stC s)) - 1)) (remM (remM (stM s) (stC s) (stG s)) ((remA (stC s)) - 1) (stG s))) := CI.row (show fHours (stG s) (rn (stG s)) (bn (stG s)) (cN (iI (q : Int))) = (fHours (stG s) (rn (stG s)) (bn (stG s)) q) from by rw [cN_iI (by omega)]) i_288
              refine aw_lstore19 dL_follows_291 (Nat.le_of_ble_eq_true rfl) rfl ?_
              refine aw_aload0 dL_follows_293 ?_
              refine ac_SH (As := [.ref 0]) (dL_undo_ j_288 (cd1_0 (by show (remA ((remA (stC s)) - 1)) ≠ 0; omega)).symm) dL_follows_294 sl_L_184 (by decide) (Nat.le_of_ble_eq_true rfl) hb hs (B2 := 39832) (B2' := 238992) rfl rfl (by omega) (by omega) (fun τ_294 r_294 c_ s_ h_294 hb_ hs_ => ?_)
              replace hb := hb_
              replace hs := hs_
              clear hb_ hs_
              obtain ⟨v_294, rfl, i_294, e_294⟩ := h_294
              obtain rfl : (lI ((((remA ((remA (stC s)) - 1)) - 1 : Nat) : Int))) = v_294 := (((nI_l (by omega)).trans (lN_lI ((remA ((remA (stC s)) - 1)) - 1))).symm.trans e_294)
              have j_294 : CI τ_294 (gS s (stG s) ((remA ((remA (stC s)) - 1)) - 1) (remM (remM (stM s) (stC s) (stG s)) ((remA (stC s)) - 1) (stG s))) := CI.row (rem_top hc14) i_294
              have hc14 : (remA ((remA (stC s)) - 1)) - 1 ≤ 14 := by omega
              have ra := remA_Z hc14
              refine aw_lconst (v := lI (0)) dL_follows_297 (by decide) ?_
              refine ai_lif_lt (tgt := 315) dL_follows_298 dL_follows_299 (by decide) (by omega) (by omega) (by omega) (by omega) (fun c_298 => absurd c_298 (by omega)) (fun c_298 => ?_)
              refine aw_aload0 dL_follows_302 ?_
              refine ac_S (As := [.ref 0]) (k_now j_294) dL_follows_303 sl_L_120 (by decide) (Nat.le_of_ble_eq_true rfl) hb hs (B2 := 42400) (B2' := 254400) rfl rfl (by omega) (by omega) (fun τ_303 r_303 c_ s_ h_303 hb_ hs_ => ?_)
              replace hb := hb_
              replace hs := hs_
              clear hb_ hs_
              obtain ⟨v_303, rfl, i_303, e_303⟩ := h_303
              obtain rfl : (nowV (stG s)) = v_303 := e_303
              refine aw_lload2 dL_follows_306 ?_
              refine al_if_ne (tgt := 315) dL_follows_307 dL_follows_308 (by decide) (fun c_307 => absurd rfl c_307) (fun _ => ?_)
              refine aw_iconst (v := iI (1)) dL_follows_311 rfl ?_
              refine aw_goto (tgt := 316) dL_follows_312 (by decide) ?_
              refine aw_istore7 dL_follows_316 (Nat.le_of_ble_eq_true rfl) rfl ?_
              refine aw_lload16 dL_follows_318 ?_
              refine aw_ldc2 (v := lI (-99)) dL_follows_320 kx_L_151 ?_
              refine ai_lif_eq (tgt := 405) dL_follows_323 dL_follows_324 (by decide) (by omega) (by omega) (by omega) (by omega) (fun c_323 => ?_) (fun c_323 => ?_)
              · refine AW.loc (ls' := [some (.ref 0), some (.int (iI (x))), some (.long (nowV (stG s))), none, some (.int (iI ((tn (stG s) : Int)))), some (.int (iI ((rn (stG s) : Int)))), some (.int (iI ((gn (stG s) : Int)))), some (.int (iI (1))), none, some (.int (iI ((r : Int)))), none, none, none, none, none, none, none, none, none, none, none, none]) (loc_c (loc_c (loc_c (loc_n (loc_c (loc_c (loc_c (loc_c (loc_n (loc_c (loc_n (loc_n (loc_n (loc_n (loc_n (loc_n (loc_n (loc_n (loc_n (loc_n loc_r)))))))))))))))))))) ?_
                exact J405 r hr ((remA ((remA (stC s)) - 1)) - 1) (remM (remM (stM s) (stC s) (stG s)) ((remA (stC s)) - 1) (stG s)) _ i_303 _ _ (by omega) (by omega)
              · refine aw_iload7 dL_follows_327 ?_
                refine ai_if_eq (tgt := 405) dL_follows_329 (by decide) (by omega) (by omega) (fun c_329 => absurd c_329 (by decide)) (fun _ => ?_)
                refine aw_aload0 dL_follows_332 ?_
                refine aw_iload9 dL_follows_333 ?_
                refine aw_iconst (v := iI (0)) dL_follows_335 rfl ?_
                refine aw_iload14 dL_follows_336 ?_
                refine aw_iload15 dL_follows_338 ?_
                refine aw_bipush (v := iI (20)) dL_follows_340 (by decide) ?_
                refine ac_SH (As := [.ref 0, .int (iI ((r : Int))), .int (iI (0)), .int (iI ((fi : Int))), .int (iI ((le : Int))), .int (iI (20))]) (dL_book_ i_303 (iI (r : Int)) (iI 0) (iI (fi : Int)) (iI (le : Int)) (iI 20) (cd3_0 ⟨isN_of (n := rn (stG s)) (by omega), isN_of (n := gn (stG s)) (by omega)⟩ hsnd hfree).symm) dL_follows_342 sl_L_131 (by decide) (Nat.le_of_ble_eq_true rfl) hb hs (B2 := 42408) (B2' := 254448) rfl rfl (by omega) (by omega) (fun τ_342 r_342 c_ s_ h_342 hb_ hs_ => ?_)
                replace hb := hb_
                replace hs := hs_
                clear hb_ hs_
                obtain ⟨v_342, rfl, i_342, e_342⟩ := h_342
                obtain rfl : (lI ((bn (stG s) : Int))) = v_342 := (((nI_l (by omega)).trans (lN_lI (bn (stG s)))).symm.trans e_342)
                have j_342 : CI τ_342 (gS s (fBookTo (stG s) (bn (stG s)) (iI (r : Int)) (iI 0) (iI (fi : Int)) (iI (le : Int)) (iI 20)) (remA ((remA ((remA (stC s)) - 1)) - 1)) (remM (remM (remM (stM s) (stC s) (stG s)) ((remA (stC s)) - 1) (stG s)) ((remA ((remA (stC s)) - 1)) - 1) (stG s))) := i_342
                refine aw_aload0 dL_follows_345 ?_
                refine aw_iconst (v := iI (3)) dL_follows_346 rfl ?_
                refine ac_SH (As := [.ref 0, .int (iI (3))]) (qL_about j_342 _) dL_follows_347 sl_L_104 (by decide) (Nat.le_of_ble_eq_true rfl) hb hs (B2 := 42416) (B2' := 254496) rfl rfl (by omega) (by omega) (fun τ_347 r_347 c_ s_ h_347 hb_ hs_ => ?_)
                replace hb := hb_
                replace hs := hs_
                clear hb_ hs_
                obtain ⟨v_347, rfl, i_347, e_347⟩ := h_347
                obtain rfl : (lI (((bn (stG s) + 1 : Nat) : Int))) = v_347 := (((about_v (s := (gS s (fBookTo (stG s) (bn (stG s)) (iI (r : Int)) (iI 0) (iI (fi : Int)) (iI (le : Int)) (iI 20)) (remA ((remA ((remA (stC s)) - 1)) - 1)) (remM (remM (remM (stM s) (stC s) (stG s)) ((remA (stC s)) - 1) (stG s)) ((remA ((remA (stC s)) - 1)) - 1) (stG s)))) (i := 3) (by omega) rfl).trans (aboutV_n hWB.1 (by omega)).2.2.2).symm.trans e_347)
                refine aw_lconst (v := lI (1)) dL_follows_350 (by decide) ?_
                refine ai_lsub dL_follows_351 ?_
                refine ai_lif_ne (tgt := 402) dL_follows_352 dL_follows_353 (by decide) (by omega) (by omega) (by omega) (by omega) (fun c_352 => absurd c_352 (by omega)) (fun c_352 => ?_)
                refine aw_aload0 dL_follows_356 ?_
                refine aw_iload18 dL_follows_357 ?_
                have hW3 : WK (fHours (fBookTo (stG s) (bn (stG s)) (iI (r : Int)) (iI 0) (iI (fi : Int)) (iI (le : Int)) (iI 20)) (rn (stG s)) (bn (stG s) + 1) q) _ _ _ _ := hWB.hours q (by omega)
                have m_359 := met_Z hW3 (by omega)
                refine ac_SH (As := [.ref 0, .int (iI ((q : Int)))]) (dL_pass_ i_347 (iI (q : Int)) ((cd2_0 ((rngI (lo := 1) (hi := 48) rfl (by decide) (by omega) (by omega) (by decide) (by decide) (by decide) (by decide)).mpr (by omega)) (((hour_N hWB.1 (q : Int) (by omega) (by omega) (by omega)).2 (by omega) (by omega)).mpr (by omega))).symm)) dL_follows_359 sl_L_145 (by decide) (Nat.le_of_ble_eq_true rfl) hb hs (B2 := 42424) (B2' := 254544) rfl rfl (by omega) (by omega) (fun τ_359 r_359 c_ s_ h_359 hb_ hs_ => ?_)
                replace hb := hb_
                replace hs := hs_
                clear hb_ hs_
                obtain ⟨v_359, rfl, i_359, e_359⟩ := h_359
                obtain rfl : (lI ((zz (fHours (fBookTo (stG s) (bn (stG s)) (iI (r : Int)) (iI 0) (iI (fi : Int)) (iI (le : Int)) (iI 20)) (rn (stG s)) (bn (stG s) + 1) q) 5 - zz (stG s) 5))) = v_359 := (by rw [← e_359, wPass]; exact (((pass_v (g := (fBookTo (stG s) (bn (stG s)) (iI (r : Int)) (iI 0) (iI (fi : Int)) (iI (le : Int)) (iI 20))) (G := (fHours (fBookTo (stG s) (bn (stG s)) (iI (r : Int)) (iI 0) (iI (fi : Int)) (iI (le : Int)) (iI 20)) (rn (stG s)) (bn (stG s) + 1) q)) mB m_359).trans (congrArg (fun z => lI (zz (fHours (fBookTo (stG s) (bn (stG s)) (iI (r : Int)) (iI 0) (iI (fi : Int)) (iI (le : Int)) (iI 20)) (rn (stG s)) (bn (stG s) + 1) q) 5 - z)) zB5)).symm.trans (congrArg (fun z : Rw => (z 5 - (fBookTo (stG s) (bn (stG s)) (iI (r : Int)) (iI 0) (iI (fi : Int)) (iI (le : Int)) (iI 20)) 5).toInt64) (show fHours (fBookTo (stG s) (bn (stG s)) (iI (r : Int)) (iI 0) (iI (fi : Int)) (iI (le : Int)) (iI 20)) (rn (fBookTo (stG s) (bn (stG s)) (iI (r : Int)) (iI 0) (iI (fi : Int)) (iI (le : Int)) (iI 20))) (bn (fBookTo (stG s) (bn (stG s)) (iI (r : Int)) (iI 0) (iI (fi : Int)) (iI (le : Int)) (iI 20))) (cN (iI (q : Int))) = (fHours (fBookTo (stG s) (bn (stG s)) (iI (r : Int)) (iI 0) (iI (fi : Int)) (iI (le : Int)) (iI 20)) (rn (stG s)) (bn (stG s) + 1) q) from by rw [cN_iI (by omega), nB1, nB3]).symm)))
                have j_359 : CI τ_359 (gS s (fHours (fBookTo (stG s) (bn (stG s)) (iI (r : Int)) (iI 0) (iI (fi : Int)) (iI (le : Int)) (iI 20)) (rn (stG s)) (bn (stG s) + 1) q) (remA (remA ((remA ((remA (stC s)) - 1)) - 1))) (remM (remM (remM (remM (stM s) (stC s) (stG s)) ((remA (stC s)) - 1) (stG s)) ((remA ((remA (stC s)) - 1)) - 1) (stG s)) (remA ((remA ((remA (stC s)) - 1)) - 1)) (fBookTo (stG s) (bn (stG s)) (iI (r : Int)) (iI 0) (iI (fi : Int)) (iI (le : Int)) (iI 20)))) := CI.row (show fHours (fBookTo (stG s) (bn (stG s)) (iI (r : Int)) (iI 0) (iI (fi : Int)) (iI (le : Int)) (iI 20)) (rn (fBookTo (stG s) (bn (stG s)) (iI (r : Int)) (iI 0) (iI (fi : Int)) (iI (le : Int)) (iI 20))) (bn (fBookTo (stG s) (bn (stG s)) (iI (r : Int)) (iI 0) (iI (fi : Int)) (iI (le : Int)) (iI 20))) (cN (iI (q : Int))) = (fHours (fBookTo (stG s) (bn (stG s)) (iI (r : Int)) (iI 0) (iI (fi : Int)) (iI (le : Int)) (iI 20)) (rn (stG s)) (bn (stG s) + 1) q) from by rw [cN_iI (by omega), nB1, nB3]) i_359
                refine aw_lload19 dL_follows_362 ?_
                refine aw_lload16 dL_follows_364 ?_
                refine ai_ladd dL_follows_366 ?_
                refine ai_lif_ne (tgt := 402) dL_follows_367 dL_follows_368 (by decide) (by omega) (by omega) (by omega) (by omega) (fun c_367 => absurd c_367 (by omega)) (fun c_367 => ?_)
                refine aw_aload0 dL_follows_371 ?_
                refine ac_SH (As := [.ref 0]) (dL_undo_ j_359 (cd1_0 (by show (remA (remA ((remA ((remA (stC s)) - 1)) - 1))) ≠ 0; omega)).symm) dL_follows_372 sl_L_184 (by decide) (Nat.le_of_ble_eq_true rfl) hb hs (B2 := 42432) (B2' := 254592) rfl rfl (by omega) (by omega) (fun τ_372 r_372 c_ s_ h_372 hb_ hs_ => ?_)
                replace hb := hb_
                replace hs := hs_
                clear hb_ hs_
                obtain ⟨v_372, rfl, i_372, e_372⟩ := h_372
                obtain rfl : (lI ((((remA (remA ((remA ((remA (stC s)) - 1)) - 1))) - 1 : Nat) : Int))) = v_372 := (((nI_l (by omega)).trans (lN_lI ((remA (remA ((remA ((remA (stC s)) - 1)) - 1))) - 1))).symm.trans e_372)
                have j_372 : CI τ_372 (gS s (fBookTo (stG s) (bn (stG s)) (iI (r : Int)) (iI 0) (iI (fi : Int)) (iI (le : Int)) (iI 20)) ((remA (remA ((remA ((remA (stC s)) - 1)) - 1))) - 1) (remM (remM (remM (remM (stM s) (stC s) (stG s)) ((remA (stC s)) - 1) (stG s)) ((remA ((remA (stC s)) - 1)) - 1) (stG s)) (remA ((remA ((remA (stC s)) - 1)) - 1)) (fBookTo (stG s) (bn (stG s)) (iI (r : Int)) (iI 0) (iI (fi : Int)) (iI (le : Int)) (iI 20)))) := CI.row (rem_top (M := (remM (remM (remM (stM s) (stC s) (stG s)) ((remA (stC s)) - 1) (stG s)) ((remA ((remA (stC s)) - 1)) - 1) (stG s))) (c := (remA ((remA ((remA (stC s)) - 1)) - 1))) (g := (fBookTo (stG s) (bn (stG s)) (iI (r : Int)) (iI 0) (iI (fi : Int)) (iI (le : Int)) (iI 20))) (by omega)) i_372
                refine aw_lconst (v := lI (0)) dL_follows_375 (by decide) ?_
                refine ai_lif_lt (tgt := 402) dL_follows_376 dL_follows_377 (by decide) (by omega) (by omega) (by omega) (by omega) (fun c_376 => absurd c_376 (by omega)) (fun c_376 => ?_)
                refine aw_aload0 dL_follows_380 ?_
                refine ac_SH (As := [.ref 0]) (dL_undo_ j_372 (cd1_0 (by show ((remA (remA ((remA ((remA (stC s)) - 1)) - 1))) - 1) ≠ 0; omega)).symm) dL_follows_381 sl_L_184 (by decide) (Nat.le_of_ble_eq_true rfl) hb hs (B2 := 42440) (B2' := 254640) rfl rfl (by omega) (by omega) (fun τ_381 r_381 c_ s_ h_381 hb_ hs_ => ?_)
                replace hb := hb_
                replace hs := hs_
                clear hb_ hs_
                obtain ⟨v_381, rfl, i_381, e_381⟩ := h_381
                obtain rfl : (lI (((((remA (remA ((remA ((remA (stC s)) - 1)) - 1))) - 1) - 1 : Nat) : Int))) = v_381 := (((nI_l (by omega)).trans (lN_lI (((remA (remA ((remA ((remA (stC s)) - 1)) - 1))) - 1) - 1))).symm.trans e_381)
                have j_381 : CI τ_381 (gS s (stG s) (((remA (remA ((remA ((remA (stC s)) - 1)) - 1))) - 1) - 1) (remM (remM (remM (remM (stM s) (stC s) (stG s)) ((remA (stC s)) - 1) (stG s)) ((remA ((remA (stC s)) - 1)) - 1) (stG s)) (remA ((remA ((remA (stC s)) - 1)) - 1)) (fBookTo (stG s) (bn (stG s)) (iI (r : Int)) (iI 0) (iI (fi : Int)) (iI (le : Int)) (iI 20)))) := CI.row (rem_top2 (M := (remM (remM (stM s) (stC s) (stG s)) ((remA (stC s)) - 1) (stG s))) (c := ((remA ((remA (stC s)) - 1)) - 1)) (g := stG s) (G := (fBookTo (stG s) (bn (stG s)) (iI (r : Int)) (iI 0) (iI (fi : Int)) (iI (le : Int)) (iI 20))) hc14) i_381
                have hc14 : ((remA (remA ((remA ((remA (stC s)) - 1)) - 1))) - 1) - 1 ≤ 14 := by omega
                have ra := remA_Z hc14
                refine aw_lconst (v := lI (0)) dL_follows_384 (by decide) ?_
                refine ai_lif_lt (tgt := 402) dL_follows_385 dL_follows_386 (by decide) (by omega) (by omega) (by omega) (by omega) (fun c_385 => absurd c_385 (by omega)) (fun c_385 => ?_)
                refine aw_aload0 dL_follows_389 ?_
                refine ac_S (As := [.ref 0]) (k_now j_381) dL_follows_390 sl_L_120 (by decide) (Nat.le_of_ble_eq_true rfl) hb hs (B2 := 45008) (B2' := 270048) rfl rfl (by omega) (by omega) (fun τ_390 r_390 c_ s_ h_390 hb_ hs_ => ?_)
                replace hb := hb_
                replace hs := hs_
                clear hb_ hs_
                obtain ⟨v_390, rfl, i_390, e_390⟩ := h_390
                obtain rfl : (nowV (stG s)) = v_390 := e_390
                refine aw_lload2 dL_follows_393 ?_
                refine al_if_ne (tgt := 402) dL_follows_394 dL_follows_395 (by decide) (fun c_394 => absurd rfl c_394) (fun _ => ?_)
                refine aw_iconst (v := iI (1)) dL_follows_398 rfl ?_
                refine aw_goto (tgt := 403) dL_follows_399 (by decide) ?_
                refine aw_istore7 dL_follows_403 (Nat.le_of_ble_eq_true rfl) rfl ?_
                refine AW.loc (ls' := [some (.ref 0), some (.int (iI (x))), some (.long (nowV (stG s))), none, some (.int (iI ((tn (stG s) : Int)))), some (.int (iI ((rn (stG s) : Int)))), some (.int (iI ((gn (stG s) : Int)))), some (.int (iI (1))), none, some (.int (iI ((r : Int)))), none, none, none, none, none, none, none, none, none, none, none, none]) (loc_c (loc_c (loc_c (loc_n (loc_c (loc_c (loc_c (loc_c (loc_n (loc_c (loc_n (loc_n (loc_n (loc_n (loc_n (loc_n (loc_n (loc_n (loc_n (loc_n loc_r)))))))))))))))))))) ?_
                exact J405 r hr (((remA (remA ((remA ((remA (stC s)) - 1)) - 1))) - 1) - 1) (remM (remM (remM (remM (stM s) (stC s) (stG s)) ((remA (stC s)) - 1) (stG s)) ((remA ((remA (stC s)) - 1)) - 1) (stG s)) (remA ((remA ((remA (stC s)) - 1)) - 1)) (fBookTo (stG s) (bn (stG s)) (iI (r : Int)) (iI 0) (iI (fi : Int)) (iI (le : Int)) (iI 20))) _ i_390 _ _ (by omega) (by omega)
            · refine aw_aload0 dL_follows_260 ?_
              refine aw_iload9 dL_follows_261 ?_
              refine aw_iconst (v := iI (0)) dL_follows_263 rfl ?_
              refine aw_iload14 dL_follows_264 ?_
              refine aw_iload15 dL_follows_266 ?_
              refine aw_bipush (v := iI (20)) dL_follows_268 (by decide) ?_
              refine ac_SH (As := [.ref 0, .int (iI ((r : Int))), .int (iI (0)), .int (iI ((fi : Int))), .int (iI ((le : Int))), .int (iI (20))]) (qL_cost i_188 _ _ _ _ _) dL_follows_270 sl_L_134 (by decide) (Nat.le_of_ble_eq_true rfl) hb hs (B2 := 39816) (B2' := 238896) rfl rfl (by omega) (by omega) (fun τ_270 r_270 c_ s_ h_270 hb_ hs_ => ?_)
              replace hb := hb_
              replace hs := hs_
              clear hb_ hs_
              obtain ⟨v_270, rfl, i_270, e_270⟩ := h_270
              obtain rfl : (lI (-99)) = v_270 := ((cost_n (s := s) ⟨(isN_of (by omega)), (isN_of (by omega))⟩ hsnd hfree).symm.trans e_270)
              refine aw_lstore16 dL_follows_273 (Nat.le_of_ble_eq_true rfl) rfl ?_
              refine aw_iload14 dL_follows_275 ?_
              refine aw_iload15 dL_follows_277 ?_
              refine ai_iadd dL_follows_279 ?_
              refine aw_iload4 dL_follows_280 ?_
              refine ai_isub dL_follows_282 ?_
              rw [hq]
              refine aw_istore18 dL_follows_283 (Nat.le_of_ble_eq_true rfl) rfl ?_
              refine aw_aload0 dL_follows_285 ?_
              refine aw_iload18 dL_follows_286 ?_
              have hW2 : WK (fHours (stG s) (rn (stG s)) (bn (stG s)) q) _ _ _ _ := hW.hours q (by omega)
              have m_288 := met_Z hW2 (by omega)
              refine ac_SH (As := [.ref 0, .int (iI ((q : Int)))]) (dL_pass_ i_270 (iI (q : Int)) ((cd2_0 ((rngI (lo := 1) (hi := 48) rfl (by decide) (by omega) (by omega) (by decide) (by decide) (by decide) (by decide)).mpr (by omega)) (((hour_N hw (q : Int) (by omega) (by omega) (by omega)).2 (by omega) (by omega)).mpr (by omega))).symm)) dL_follows_288 sl_L_145 (by decide) (Nat.le_of_ble_eq_true rfl) hb hs (B2 := 39824) (B2' := 238944) rfl rfl (by omega) (by omega) (fun τ_288 r_288 c_ s_ h_288 hb_ hs_ => ?_)
              replace hb := hb_
              replace hs := hs_
              clear hb_ hs_
              obtain ⟨v_288, rfl, i_288, e_288⟩ := h_288
              obtain rfl : (lI ((zz (fHours (stG s) (rn (stG s)) (bn (stG s)) q) 5 - zz (stG s) 5))) = v_288 := (by rw [← e_288, wPass]; exact ((pass_v (g := (stG s)) (G := (fHours (stG s) (rn (stG s)) (bn (stG s)) q)) m0 m_288).symm.trans (congrArg (fun z : Rw => (z 5 - (stG s) 5).toInt64) (show fHours (stG s) (rn (stG s)) (bn (stG s)) (cN (iI (q : Int))) = (fHours (stG s) (rn (stG s)) (bn (stG s)) q) from by rw [cN_iI (by omega)]).symm)))
              have j_288 : CI τ_288 (gS s (fHours (stG s) (rn (stG s)) (bn (stG s)) q) (remA ((remA (stC s)) - 1)) (remM (remM (stM s) (stC s) (stG s)) ((remA (stC s)) - 1) (stG s))) := CI.row (show fHours (stG s) (rn (stG s)) (bn (stG s)) (cN (iI (q : Int))) = (fHours (stG s) (rn (stG s)) (bn (stG s)) q) from by rw [cN_iI (by omega)]) i_288
              refine aw_lstore19 dL_follows_291 (Nat.le_of_ble_eq_true rfl) rfl ?_
              refine aw_aload0 dL_follows_293 ?_
              refine ac_SH (As := [.ref 0]) (dL_undo_ j_288 (cd1_0 (by show (remA ((remA (stC s)) - 1)) ≠ 0; omega)).symm) dL_follows_294 sl_L_184 (by decide) (Nat.le_of_ble_eq_true rfl) hb hs (B2 := 39832) (B2' := 238992) rfl rfl (by omega) (by omega) (fun τ_294 r_294 c_ s_ h_294 hb_ hs_ => ?_)
              replace hb := hb_
              replace hs := hs_
              clear hb_ hs_
              obtain ⟨v_294, rfl, i_294, e_294⟩ := h_294
              obtain rfl : (lI ((((remA ((remA (stC s)) - 1)) - 1 : Nat) : Int))) = v_294 := (((nI_l (by omega)).trans (lN_lI ((remA ((remA (stC s)) - 1)) - 1))).symm.trans e_294)
              have j_294 : CI τ_294 (gS s (stG s) ((remA ((remA (stC s)) - 1)) - 1) (remM (remM (stM s) (stC s) (stG s)) ((remA (stC s)) - 1) (stG s))) := CI.row (rem_top hc14) i_294
              have hc14 : (remA ((remA (stC s)) - 1)) - 1 ≤ 14 := by omega
              have ra := remA_Z hc14
              refine aw_lconst (v := lI (0)) dL_follows_297 (by decide) ?_
              refine ai_lif_lt (tgt := 315) dL_follows_298 dL_follows_299 (by decide) (by omega) (by omega) (by omega) (by omega) (fun c_298 => absurd c_298 (by omega)) (fun c_298 => ?_)
              refine aw_aload0 dL_follows_302 ?_
              refine ac_S (As := [.ref 0]) (k_now j_294) dL_follows_303 sl_L_120 (by decide) (Nat.le_of_ble_eq_true rfl) hb hs (B2 := 42400) (B2' := 254400) rfl rfl (by omega) (by omega) (fun τ_303 r_303 c_ s_ h_303 hb_ hs_ => ?_)
              replace hb := hb_
              replace hs := hs_
              clear hb_ hs_
              obtain ⟨v_303, rfl, i_303, e_303⟩ := h_303
              obtain rfl : (nowV (stG s)) = v_303 := e_303
              refine aw_lload2 dL_follows_306 ?_
              refine al_if_ne (tgt := 315) dL_follows_307 dL_follows_308 (by decide) (fun c_307 => absurd rfl c_307) (fun _ => ?_)
              refine aw_iconst (v := iI (1)) dL_follows_311 rfl ?_
              refine aw_goto (tgt := 316) dL_follows_312 (by decide) ?_
              refine aw_istore7 dL_follows_316 (Nat.le_of_ble_eq_true rfl) rfl ?_
              refine aw_lload16 dL_follows_318 ?_
              refine aw_ldc2 (v := lI (-99)) dL_follows_320 kx_L_151 ?_
              refine ai_lif_eq (tgt := 405) dL_follows_323 dL_follows_324 (by decide) (by omega) (by omega) (by omega) (by omega) (fun _ => ?_) (fun c_323 => absurd c_323 (by decide))
              refine AW.loc (ls' := [some (.ref 0), some (.int (iI (x))), some (.long (nowV (stG s))), none, some (.int (iI ((tn (stG s) : Int)))), some (.int (iI ((rn (stG s) : Int)))), some (.int (iI ((gn (stG s) : Int)))), some (.int (iI (1))), none, some (.int (iI ((r : Int)))), none, none, none, none, none, none, none, none, none, none, none, none]) (loc_c (loc_c (loc_c (loc_n (loc_c (loc_c (loc_c (loc_c (loc_n (loc_c (loc_n (loc_n (loc_n (loc_n (loc_n (loc_n (loc_n (loc_n (loc_n (loc_n loc_r)))))))))))))))))))) ?_
              exact J405 r hr ((remA ((remA (stC s)) - 1)) - 1) (remM (remM (stM s) (stC s) (stG s)) ((remA (stC s)) - 1) (stG s)) _ i_303 _ _ (by omega) (by omega)
