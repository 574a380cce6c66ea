/-! the law: all that is told of a hall, as one number -/
set_option maxHeartbeats 4000000 in
theorem k_now {σ : Sg} {s : AS} (hI : CI σ s) : Ct yL_now cL_now mL_now 10 2568 15408 NN false σ [.ref 0] NN (rL fun τ y0 => CI τ s ∧ nowV (stG s) = y0) XF := by
  refine ct_of (ls0 := [some (.ref 0), none, none, none]) 3 (by decide +kernel) rfl rfl (ndR nd0) rfl (Nat.le_of_ble_eq_true rfl) (fun K => ?_)
  obtain ⟨hr4, hg6, hb12, ht⟩ := hI.nums
  obtain ⟨π, hc0, hs0, hw, ht0, hcb⟩ := hI.wf
  obtain ⟨ab0, ab1, ab2, ab3⟩ := aboutV_n hw (by omega)
  have J105 : ∀ (k i : Nat) (h1 : i ≤ 10 * bn (stG s)) (h2 : 10 * bn (stG s) - i < k) (τ : Sg) (h : CI τ s) (cells slots : Nat) (hc : cells + 8 * (2 * (10 * bn (stG s) - i) + 1) ≤ 2568) (hs : slots + 48 * (2 * (10 * bn (stG s) - i) + 1) ≤ 15408), AW K yL_now.cls cL_now mL_now 10 2568 15408 (Qm K NN (rL fun τ y0 => CI τ s ∧ nowV (stG s) = y0) XF 2568 15408) NN none τ cells slots 105 [some (.ref 0), some (.long (n4 (stG s) (n3 (stG s) (n2 (stG s) (bn (stG s)) (n1 (stG s) 10) (7 * rn (stG s))) (gn (stG s))) i)), none, some (.int (iI ((i : Int))))] [] := by
    intro k
    induction k with
    | zero => intro i h1 h2; exact absurd h2 (Nat.not_lt_zero _)
    | succ k ih =>
      intro i h1 h2 τ h cells slots hc hs
      refine aw_iload3 dL_now_105 ?_
      refine ai_i2l dL_now_106 (by omega) (by omega) ?_
      refine aw_ldc2 (v := lI (10)) dL_now_107 kx_L_116 ?_
      refine aw_aload0 dL_now_110 ?_
      refine aw_iconst (v := iI (3)) dL_now_111 rfl ?_
      refine aw_callSH (As := [.ref 0, .int (iI (3))]) (qL_about h _) dL_now_112 sl_L_104 (Rm1 ⟨by decide, by decide, by omega, by omega⟩) (Nat.le_of_ble_eq_true rfl) (fun τ_112 r_112 h_112 => ?_) (fun _ _ h => h.elim)
      obtain ⟨v_112, rfl, i_112, e_112⟩ := h_112
      obtain rfl : (lI ((bn (stG s) : Int))) = v_112 := (((about_v (i := 3) (by omega) rfl).trans ab3).symm.trans e_112)
      refine ai_lmul dL_now_115 ?_
      refine ai_lif_ge (tgt := 145) dL_now_116 dL_now_117 (by decide) (by omega) (by omega) (by omega) (by omega) (fun c_116 => ?_) (fun c_116 => ?_)
      · obtain rfl : i = 10 * bn (stG s) := by omega
        refine aw_lload1 dL_now_145 ?_
        exact aw_lret dL_now_146 rfl ⟨by omega, by omega⟩ ⟨_, rfl, i_112, rfl⟩
      · refine aw_ldc2 dL_now_120 kl_L_102 ?_
        refine aw_lload1 dL_now_123 ?_
        refine aw_lmul dL_now_124 ?_
        refine aw_aload0 dL_now_125 ?_
        refine aw_iload3 dL_now_126 ?_
        refine aw_bipush (v := iI (10)) dL_now_127 (by decide) ?_
        refine ai_idiv dL_now_129 (by omega) (by omega) (by omega) (by omega) ?_
        refine aw_iload3 dL_now_130 ?_
        refine aw_bipush (v := iI (10)) dL_now_131 (by decide) ?_
        refine ai_irem dL_now_133 (by omega) (by omega) (by omega) (by omega) ?_
        refine aw_callSH (As := [.ref 0, .int (iI (((i : Int) / 10))), .int (iI (((i : Int) % 10)))]) (qL_booking i_112 _ _) dL_now_134 sl_L_118 (Rm1 ⟨by decide, by decide, by omega, by omega⟩) (Nat.le_of_ble_eq_true rfl) (fun τ_134 r_134 h_134 => ?_) (fun _ _ h => h.elim)
        obtain ⟨v_134, rfl, i_134, e_134⟩ := h_134
        obtain rfl : ((bookV (stG s) (i / 10) (i % 10)).toInt64) = v_134 := ((booking_v (b := i / 10) (k := i % 10) (by omega) (by omega) (by omega) (by omega) (by omega)).symm.trans e_134)
        refine aw_ladd dL_now_137 ?_
        refine aw_lstore1 dL_now_138 (Nat.le_of_ble_eq_true rfl) rfl ?_
        refine aw_iinc3 (w := (iI (((i + 1 : Nat) : Int)))) dL_now_139 (iinc_N rfl) (Nat.le_of_ble_eq_true rfl) rfl ?_
        refine aw_goto (tgt := 105) dL_now_142 (by decide) ?_
        exact ih (i + 1) (by omega) (by omega) _ i_134 _ _ (by omega) (by omega)
  have J74 : ∀ (k i : Nat) (h1 : i ≤ gn (stG s)) (h2 : gn (stG s) - i < k) (τ : Sg) (h : CI τ s) (cells slots : Nat) (hc : cells + 8 * (2 * (gn (stG s) - i) + 1 + (2 * (10 * bn (stG s)) + 1)) ≤ 2568) (hs : slots + 48 * (2 * (gn (stG s) - i) + 1 + (2 * (10 * bn (stG s)) + 1)) ≤ 15408), AW K yL_now.cls cL_now mL_now 10 2568 15408 (Qm K NN (rL fun τ y0 => CI τ s ∧ nowV (stG s) = y0) XF 2568 15408) NN none τ cells slots 74 [some (.ref 0), some (.long (n3 (stG s) (n2 (stG s) (bn (stG s)) (n1 (stG s) 10) (7 * rn (stG s))) i)), none, some (.int (iI ((i : Int))))] [] := by
    intro k
    induction k with
    | zero => intro i h1 h2; exact absurd h2 (Nat.not_lt_zero _)
    | succ k ih =>
      intro i h1 h2 τ h cells slots hc hs
      refine aw_iload3 dL_now_74 ?_
      refine ai_i2l dL_now_75 (by omega) (by omega) ?_
      refine aw_aload0 dL_now_76 ?_
      refine aw_iconst (v := iI (2)) dL_now_77 rfl ?_
      refine aw_callSH (As := [.ref 0, .int (iI (2))]) (qL_about h _) dL_now_78 sl_L_104 (Rm1 ⟨by decide, by decide, by omega, by omega⟩) (Nat.le_of_ble_eq_true rfl) (fun τ_78 r_78 h_78 => ?_) (fun _ _ h => h.elim)
      obtain ⟨v_78, rfl, i_78, e_78⟩ := h_78
      obtain rfl : (lI ((gn (stG s) : Int))) = v_78 := (((about_v (i := 2) (by omega) rfl).trans ab2).symm.trans e_78)
      refine ai_lif_ge (tgt := 103) dL_now_81 dL_now_82 (by decide) (by omega) (by omega) (by omega) (by omega) (fun c_81 => ?_) (fun c_81 => ?_)
      · obtain rfl : i = gn (stG s) := by omega
        refine aw_iconst (v := iI (0)) dL_now_103 rfl ?_
        refine aw_istore3 dL_now_104 (Nat.le_of_ble_eq_true rfl) rfl ?_
        exact J105 _ 0 (Nat.zero_le _) (Nat.lt_succ_self _) _ i_78 _ _ (by omega) (by omega)
      · refine aw_ldc2 dL_now_85 kl_L_102 ?_
        refine aw_lload1 dL_now_88 ?_
        refine aw_lmul dL_now_89 ?_
        refine aw_aload0 dL_now_90 ?_
        refine aw_iload3 dL_now_91 ?_
        refine aw_callSH (As := [.ref 0, .int (iI ((i : Int)))]) (qL_owes i_78 _) dL_now_92 sl_L_114 (Rm1 ⟨by decide, by decide, by omega, by omega⟩) (Nat.le_of_ble_eq_true rfl) (fun τ_92 r_92 h_92 => ?_) (fun _ _ h => h.elim)
        obtain ⟨v_92, rfl, i_92, e_92⟩ := h_92
        obtain rfl : ((stG s (25 + i)).toInt64) = v_92 := ((owes_v (w := i) (by omega) rfl (by omega)).symm.trans e_92)
        refine aw_ladd dL_now_95 ?_
        refine aw_lstore1 dL_now_96 (Nat.le_of_ble_eq_true rfl) rfl ?_
        refine aw_iinc3 (w := (iI (((i + 1 : Nat) : Int)))) dL_now_97 (iinc_N rfl) (Nat.le_of_ble_eq_true rfl) rfl ?_
        refine aw_goto (tgt := 74) dL_now_100 (by decide) ?_
        exact ih (i + 1) (by omega) (by omega) _ i_92 _ _ (by omega) (by omega)
  have J32 : ∀ (k i : Nat) (h1 : i ≤ 7 * rn (stG s)) (h2 : 7 * rn (stG s) - i < k) (τ : Sg) (h : CI τ s) (cells slots : Nat) (hc : cells + 8 * (2 * (7 * rn (stG s) - i) + 1 + (2 * gn (stG s) + 1) + (2 * (10 * bn (stG s)) + 1)) ≤ 2568) (hs : slots + 48 * (2 * (7 * rn (stG s) - i) + 1 + (2 * gn (stG s) + 1) + (2 * (10 * bn (stG s)) + 1)) ≤ 15408), AW K yL_now.cls cL_now mL_now 10 2568 15408 (Qm K NN (rL fun τ y0 => CI τ s ∧ nowV (stG s) = y0) XF 2568 15408) NN none τ cells slots 32 [some (.ref 0), some (.long (n2 (stG s) (bn (stG s)) (n1 (stG s) 10) i)), none, some (.int (iI ((i : Int))))] [] := by
    intro k
    induction k with
    | zero => intro i h1 h2; exact absurd h2 (Nat.not_lt_zero _)
    | succ k ih =>
      intro i h1 h2 τ h cells slots hc hs
      refine aw_iload3 dL_now_32 ?_
      refine ai_i2l dL_now_33 (by omega) (by omega) ?_
      refine aw_ldc2 (v := lI (7)) dL_now_34 kx_L_109 ?_
      refine aw_aload0 dL_now_37 ?_
      refine aw_iconst (v := iI (1)) dL_now_38 rfl ?_
      refine aw_callSH (As := [.ref 0, .int (iI (1))]) (qL_about h _) dL_now_39 sl_L_104 (Rm1 ⟨by decide, by decide, by omega, by omega⟩) (Nat.le_of_ble_eq_true rfl) (fun τ_39 r_39 h_39 => ?_) (fun _ _ h => h.elim)
      obtain ⟨v_39, rfl, i_39, e_39⟩ := h_39
      obtain rfl : (lI ((rn (stG s) : Int))) = v_39 := (((about_v (i := 1) (by omega) rfl).trans ab1).symm.trans e_39)
      refine ai_lmul dL_now_42 ?_
      refine ai_lif_ge (tgt := 72) dL_now_43 dL_now_44 (by decide) (by omega) (by omega) (by omega) (by omega) (fun c_43 => ?_) (fun c_43 => ?_)
      · obtain rfl : i = 7 * rn (stG s) := by omega
        refine aw_iconst (v := iI (0)) dL_now_72 rfl ?_
        refine aw_istore3 dL_now_73 (Nat.le_of_ble_eq_true rfl) rfl ?_
        exact J74 _ 0 (Nat.zero_le _) (Nat.lt_succ_self _) _ i_39 _ _ (by omega) (by omega)
      · refine aw_ldc2 dL_now_47 kl_L_102 ?_
        refine aw_lload1 dL_now_50 ?_
        refine aw_lmul dL_now_51 ?_
        refine aw_aload0 dL_now_52 ?_
        refine aw_iload3 dL_now_53 ?_
        refine aw_bipush (v := iI (7)) dL_now_54 (by decide) ?_
        refine ai_idiv dL_now_56 (by omega) (by omega) (by omega) (by omega) ?_
        refine aw_iload3 dL_now_57 ?_
        refine aw_bipush (v := iI (7)) dL_now_58 (by decide) ?_
        refine ai_irem dL_now_60 (by omega) (by omega) (by omega) (by omega) ?_
        refine aw_callSH (As := [.ref 0, .int (iI (((i : Int) / 7))), .int (iI (((i : Int) % 7)))]) (qL_room i_39 _ _) dL_now_61 sl_L_111 (Rm1 ⟨by decide, by decide, by omega, by omega⟩) (Nat.le_of_ble_eq_true rfl) (fun τ_61 r_61 h_61 => ?_) (fun _ _ h => h.elim)
        obtain ⟨v_61, rfl, i_61, e_61⟩ := h_61
        obtain rfl : ((roomV (stG s) (bn (stG s)) (i / 7) (i % 7)).toInt64) = v_61 := ((room_v (r := i / 7) (k := i % 7) (by omega) (by omega) (by omega) (by omega) (by omega)).symm.trans e_61)
        refine aw_ladd dL_now_64 ?_
        refine aw_lstore1 dL_now_65 (Nat.le_of_ble_eq_true rfl) rfl ?_
        refine aw_iinc3 (w := (iI (((i + 1 : Nat) : Int)))) dL_now_66 (iinc_N rfl) (Nat.le_of_ble_eq_true rfl) rfl ?_
        refine aw_goto (tgt := 32) dL_now_69 (by decide) ?_
        exact ih (i + 1) (by omega) (by omega) _ i_61 _ _ (by omega) (by omega)
  have J6 : ∀ (k i : Nat) (h1 : i ≤ 10) (h2 : 10 - i < k) (τ : Sg) (h : CI τ s) (cells slots : Nat) (hc : cells + 8 * (1 * (10 - i) + (2 * (7 * rn (stG s)) + 1 + (2 * gn (stG s) + 1) + (2 * (10 * bn (stG s)) + 1))) ≤ 2568) (hs : slots + 48 * (1 * (10 - i) + (2 * (7 * rn (stG s)) + 1 + (2 * gn (stG s) + 1) + (2 * (10 * bn (stG s)) + 1))) ≤ 15408), AW K yL_now.cls cL_now mL_now 10 2568 15408 (Qm K NN (rL fun τ y0 => CI τ s ∧ nowV (stG s) = y0) XF 2568 15408) NN none τ cells slots 6 [some (.ref 0), some (.long (n1 (stG s) i)), none, some (.int (iI ((i : Int))))] [] := by
    intro k
    induction k with
    | zero => intro i h1 h2; exact absurd h2 (Nat.not_lt_zero _)
    | succ k ih =>
      intro i h1 h2 τ h cells slots hc hs
      refine aw_iload3 dL_now_6 ?_
      refine aw_bipush (v := iI (10)) dL_now_7 (by decide) ?_
      refine ai_ic_ge (tgt := 30) dL_now_9 (by decide) (by omega) (by omega) (by omega) (by omega) (fun c_9 => ?_) (fun c_9 => ?_)
      · obtain rfl : i = 10 := by omega
        refine aw_iconst (v := iI (0)) dL_now_30 rfl ?_
        refine aw_istore3 dL_now_31 (Nat.le_of_ble_eq_true rfl) rfl ?_
        exact J32 _ 0 (Nat.zero_le _) (Nat.lt_succ_self _) _ h _ _ (by omega) (by omega)
      · refine aw_ldc2 dL_now_12 kl_L_102 ?_
        refine aw_lload1 dL_now_15 ?_
        refine aw_lmul dL_now_16 ?_
        refine aw_aload0 dL_now_17 ?_
        refine aw_iload3 dL_now_18 ?_
        refine aw_callSH (As := [.ref 0, .int (iI ((i : Int)))]) (qL_about h _) dL_now_19 sl_L_104 (Rm1 ⟨by decide, by decide, by omega, by omega⟩) (Nat.le_of_ble_eq_true rfl) (fun τ_19 r_19 h_19 => ?_) (fun _ _ h => h.elim)
        obtain ⟨v_19, rfl, i_19, e_19⟩ := h_19
        obtain rfl : ((aboutV (stG s) i).toInt64) = v_19 := ((about_v (i := i) (by omega) rfl).symm.trans e_19)
        refine aw_ladd dL_now_22 ?_
        refine aw_lstore1 dL_now_23 (Nat.le_of_ble_eq_true rfl) rfl ?_
        refine aw_iinc3 (w := (iI (((i + 1 : Nat) : Int)))) dL_now_24 (iinc_N rfl) (Nat.le_of_ble_eq_true rfl) rfl ?_
        refine aw_goto (tgt := 6) dL_now_27 (by decide) ?_
        exact ih (i + 1) (by omega) (by omega) _ i_19 _ _ (by omega) (by omega)
  refine aw_ldc2 dL_now_0 kl_L_100 ?_
  refine aw_lstore1 dL_now_3 (Nat.le_of_ble_eq_true rfl) rfl ?_
  refine aw_iconst (v := iI (0)) dL_now_4 rfl ?_
  refine aw_istore3 dL_now_5 (Nat.le_of_ble_eq_true rfl) rfl ?_
  exact J6 _ 0 (Nat.zero_le _) (Nat.lt_succ_self _) _ hI _ _ (by omega) (by omega)
