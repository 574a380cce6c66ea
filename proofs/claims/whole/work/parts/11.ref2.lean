/-! the reference: what writes a row -/
set_option maxHeartbeats 4000000 in
theorem k_canBook (σ : Sg) (row : Nat) (g : Rw) (r first hours : Int32) (nb : Nat) (hT : cT row = .inr (0, 151)) (hn : row < NN) (hnb : g 3 = nI nb) (hb : nb ≤ 12) : Ct yX7_canBook cX7_canBook mX7_canBook 5 0 0 NN false (sA σ row g) [.ref row, .int r, .int first, .int hours] NN (eZ1 (sA σ row g) (nb < 12 ∧ fFree g r first hours nb)) XF := by
  refine ct_of (ls0 := [some (.ref row), some (.int r), some (.int first), some (.int hours)]) 0 (by decide +kernel) rfl rfl (ndR (ndI (ndI (ndI nd0)))) rfl (Nat.le_of_ble_eq_true rfl) (fun K => ?_)
  refine aw_aload0 dX7_canBook_0 ?_
  refine aw_iconst (v := 3) dX7_canBook_1 (by decide) ?_
  refine aw_iald (j := 3) dX7_canBook_2 hT hn rfl (by decide) (sA_at.trans hnb) ?_
  refine aw_bipush (v := 12) dX7_canBook_3 (by decide) ?_
  refine aw_ic_ge (tgt := 22) dX7_canBook_5 (by decide) (fun c_5 => ?_) (fun c_5 => ?_)
  · refine aw_iconst (v := 0) dX7_canBook_22 (by decide) ?_
    exact aw_zret dX7_canBook_23 rfl (by decide) (by decide) (eZ_0 (fun h => by
      first
        | exact p_12 h.2
        | exact nI_ge h.1 (by omega) c_5))
  · refine aw_aload0 dX7_canBook_8 ?_
    refine aw_iload1 dX7_canBook_9 ?_
    refine aw_iload2 dX7_canBook_10 ?_
    refine aw_iload3 dX7_canBook_11 ?_
    refine aw_SI4 (k_isFree _ _ _ _ _ _ _ hT hn hnb hb) dX7_canBook_12 sl_7_97 (by decide) (Nat.le_of_ble_eq_true rfl) (fun σ_12 r_12 h_12 => ?_)
    obtain ⟨rfl, h_12⟩ := h_12
    rcases h_12 with ⟨rfl, p_12⟩ | ⟨rfl, p_12⟩
    · refine aw_if_eq (tgt := 22) dX7_canBook_15 (by decide) (fun c_15 => absurd c_15 (by decide)) (fun _ => ?_)
      refine aw_iconst (v := 1) dX7_canBook_18 (by decide) ?_
      refine aw_goto (tgt := 23) dX7_canBook_19 (by decide) ?_
      exact aw_zret dX7_canBook_23 rfl (by decide) (by decide) (eZ_1 ⟨by
        rcases Nat.lt_or_ge nb 12 with q | q
        · exact q
        · exact absurd (nI_le q (by omega)) c_5, p_12⟩)
    · refine aw_if_eq (tgt := 22) dX7_canBook_15 (by decide) (fun _ => ?_) (fun c_15 => absurd c_15 (by decide))
      refine aw_iconst (v := 0) dX7_canBook_22 (by decide) ?_
      exact aw_zret dX7_canBook_23 rfl (by decide) (by decide) (eZ_0 (fun h => by
        first
          | exact p_12 h.2
          | exact nI_ge h.1 (by omega) c_5))
set_option maxHeartbeats 4000000 in
theorem k_charge (σ : Sg) (row : Nat) (g : Rw) (b w : Nat) (u : Int32) (hT : cT row = .inr (0, 151)) (hn : row < NN) (hb : b < 12) (hw : g (31 + 10 * b + 1) = nI w) (hw6 : w < 6) : Ct yX7_charge cX7_charge mX7_charge 2 0 0 NN false (sA σ row g) [.ref row, .int (nI b), .int u] NN (eV1 (sA σ row (fCharge g b u))) XF := by
  refine ct_of (ls0 := [some (.ref row), some (.int (nI b)), some (.int u), none]) 1 (by decide +kernel) rfl rfl (ndR (ndI (ndI nd0))) rfl (Nat.le_of_ble_eq_true rfl) (fun K => ?_)
  refine aw_aload0 dX7_charge_0 ?_
  refine aw_iload1 dX7_charge_1 ?_
  refine aw_iconst (v := 2) dX7_charge_2 (by decide) ?_
  refine aw_SI2 (k_bookAt _ _ 2) dX7_charge_3 sl_7_49 (by decide) (Nat.le_of_ble_eq_true rfl) (fun σ_3 r_3 h_3 => ?_)
  obtain ⟨rfl, rfl⟩ := h_3
  refine aw_iald dX7_charge_6 hT hn rfl (by omega) sA_at ?_
  refine aw_aload0 dX7_charge_7 ?_
  refine aw_iconst (v := 0) dX7_charge_8 (by decide) ?_
  refine aw_iald (j := 0) dX7_charge_9 hT hn rfl (by decide) sA_at ?_
  refine aw_ic_gt (tgt := 17) dX7_charge_10 (by decide) (fun c_10 => ?_) (fun c_10 => ?_)
  · have ho : ¬ g (31 + 10 * b + 2) ≤ g 0 := Int32.not_le.mpr c_10
    refine aw_iconst (v := 0) dX7_charge_17 (by decide) ?_
    refine aw_istore3 dX7_charge_18 (by decide) rfl ?_
    refine aw_iload3 dX7_charge_19 ?_
    refine aw_if_eq (tgt := 46) dX7_charge_20 (by decide) (fun _ => ?_) (fun c_20 => absurd c_20 (by decide))
    have hm : ¬ (g (31 + 10 * b + 2) ≤ g 0 ∧ g (31 + 10 * b + 7) = 1) := fun h => by first | exact ho h.1 | exact c_32 h.2
    refine aw_aload0 dX7_charge_46 ?_
    refine aw_bipush (v := 6) dX7_charge_47 (by decide) ?_
    refine aw_dup2 dX7_charge_49 rfl rfl ?_
    refine aw_iald (j := 6) dX7_charge_50 hT hn rfl (by decide) sA_at ?_
    refine aw_iload2 dX7_charge_51 ?_
    refine aw_iadd dX7_charge_52 ?_
    refine aw_iast (j := 6) dX7_charge_53 hT hn rfl (by decide) ?_
    refine AW.eqs sI_sA ?_
    refine aw_aload0 dX7_charge_54 ?_
    refine aw_bipush (v := 25) dX7_charge_55 (by decide) ?_
    refine aw_aload0 dX7_charge_57 ?_
    refine aw_iload1 dX7_charge_58 ?_
    refine aw_iconst (v := 1) dX7_charge_59 (by decide) ?_
    refine aw_SI2 (k_bookAt _ _ 1) dX7_charge_60 sl_7_49 (by decide) (Nat.le_of_ble_eq_true rfl) (fun σ_60 r_60 h_60 => ?_)
    obtain ⟨rfl, rfl⟩ := h_60
    refine aw_iald dX7_charge_63 hT hn rfl (by omega) sA_at ?_
    refine aw_iadd dX7_charge_64 ?_
    refine aw_dup2 dX7_charge_65 rfl rfl ?_
    refine aw_iald (j := 25 + w) dX7_charge_66 hT hn (by rw [upd_n (by omega), hw]; exact nI_add 25 w) (by omega) sA_at ?_
    refine aw_iload2 dX7_charge_67 ?_
    refine aw_iadd dX7_charge_68 ?_
    refine aw_iast (j := 25 + w) dX7_charge_69 hT hn (by rw [upd_n (by omega), hw]; exact nI_add 25 w) (by omega) ?_
    refine AW.eqs sI_sA ?_
    refine aw_aload0 dX7_charge_70 ?_
    refine aw_iload1 dX7_charge_71 ?_
    refine aw_iload3 dX7_charge_72 ?_
    refine aw_if_eq (tgt := 81) dX7_charge_73 (by decide) (fun _ => ?_) (fun c_73 => absurd c_73 (by decide))
    refine aw_iconst (v := 5) dX7_charge_81 (by decide) ?_
    refine aw_SI2 (k_bookAt _ _ 5) dX7_charge_82 sl_7_49 (by decide) (Nat.le_of_ble_eq_true rfl) (fun σ_82 r_82 h_82 => ?_)
    obtain ⟨rfl, rfl⟩ := h_82
    refine aw_dup2 dX7_charge_85 rfl rfl ?_
    refine aw_iald dX7_charge_86 hT hn rfl (by omega) sA_at ?_
    refine aw_iload2 dX7_charge_87 ?_
    refine aw_iadd dX7_charge_88 ?_
    refine aw_iast dX7_charge_89 hT hn rfl (by omega) ?_
    refine AW.eqs sI_sA ?_
    exact aw_vret dX7_charge_90 rfl (by decide) (eV_to (congrArg (sA σ row) (by
      have hwh : whoN g b = w := by rw [whoN, hw, nI_clamp (by omega)]
      simp only [fCharge, hwh]
      first
        | rw [if_pos hm, if_pos ho]
        | rw [if_neg hm, if_pos ho]
        | rw [if_neg hm, if_neg ho])))
  · have ho : g (31 + 10 * b + 2) ≤ g 0 := Int32.not_lt.mp c_10
    refine aw_iconst (v := 1) dX7_charge_13 (by decide) ?_
    refine aw_goto (tgt := 18) dX7_charge_14 (by decide) ?_
    refine aw_istore3 dX7_charge_18 (by decide) rfl ?_
    refine aw_iload3 dX7_charge_19 ?_
    refine aw_if_eq (tgt := 46) dX7_charge_20 (by decide) (fun c_20 => absurd c_20 (by decide)) (fun _ => ?_)
    refine aw_aload0 dX7_charge_23 ?_
    refine aw_iload1 dX7_charge_24 ?_
    refine aw_bipush (v := 7) dX7_charge_25 (by decide) ?_
    refine aw_SI2 (k_bookAt _ _ 7) dX7_charge_27 sl_7_49 (by decide) (Nat.le_of_ble_eq_true rfl) (fun σ_27 r_27 h_27 => ?_)
    obtain ⟨rfl, rfl⟩ := h_27
    refine aw_iald dX7_charge_30 hT hn rfl (by omega) sA_at ?_
    refine aw_iconst (v := 1) dX7_charge_31 (by decide) ?_
    refine aw_ic_ne (tgt := 46) dX7_charge_32 (by decide) (fun c_32 => ?_) (fun c_32 => ?_)
    · have hm : ¬ (g (31 + 10 * b + 2) ≤ g 0 ∧ g (31 + 10 * b + 7) = 1) := fun h => by first | exact ho h.1 | exact c_32 h.2
      refine aw_aload0 dX7_charge_46 ?_
      refine aw_bipush (v := 6) dX7_charge_47 (by decide) ?_
      refine aw_dup2 dX7_charge_49 rfl rfl ?_
      refine aw_iald (j := 6) dX7_charge_50 hT hn rfl (by decide) sA_at ?_
      refine aw_iload2 dX7_charge_51 ?_
      refine aw_iadd dX7_charge_52 ?_
      refine aw_iast (j := 6) dX7_charge_53 hT hn rfl (by decide) ?_
      refine AW.eqs sI_sA ?_
      refine aw_aload0 dX7_charge_54 ?_
      refine aw_bipush (v := 25) dX7_charge_55 (by decide) ?_
      refine aw_aload0 dX7_charge_57 ?_
      refine aw_iload1 dX7_charge_58 ?_
      refine aw_iconst (v := 1) dX7_charge_59 (by decide) ?_
      refine aw_SI2 (k_bookAt _ _ 1) dX7_charge_60 sl_7_49 (by decide) (Nat.le_of_ble_eq_true rfl) (fun σ_60 r_60 h_60 => ?_)
      obtain ⟨rfl, rfl⟩ := h_60
      refine aw_iald dX7_charge_63 hT hn rfl (by omega) sA_at ?_
      refine aw_iadd dX7_charge_64 ?_
      refine aw_dup2 dX7_charge_65 rfl rfl ?_
      refine aw_iald (j := 25 + w) dX7_charge_66 hT hn (by rw [upd_n (by omega), hw]; exact nI_add 25 w) (by omega) sA_at ?_
      refine aw_iload2 dX7_charge_67 ?_
      refine aw_iadd dX7_charge_68 ?_
      refine aw_iast (j := 25 + w) dX7_charge_69 hT hn (by rw [upd_n (by omega), hw]; exact nI_add 25 w) (by omega) ?_
      refine AW.eqs sI_sA ?_
      refine aw_aload0 dX7_charge_70 ?_
      refine aw_iload1 dX7_charge_71 ?_
      refine aw_iload3 dX7_charge_72 ?_
      refine aw_if_eq (tgt := 81) dX7_charge_73 (by decide) (fun c_73 => absurd c_73 (by decide)) (fun _ => ?_)
      refine aw_bipush (v := 6) dX7_charge_76 (by decide) ?_
      refine aw_goto (tgt := 82) dX7_charge_78 (by decide) ?_
      refine aw_SI2 (k_bookAt _ _ 6) dX7_charge_82 sl_7_49 (by decide) (Nat.le_of_ble_eq_true rfl) (fun σ_82 r_82 h_82 => ?_)
      obtain ⟨rfl, rfl⟩ := h_82
      refine aw_dup2 dX7_charge_85 rfl rfl ?_
      refine aw_iald dX7_charge_86 hT hn rfl (by omega) sA_at ?_
      refine aw_iload2 dX7_charge_87 ?_
      refine aw_iadd dX7_charge_88 ?_
      refine aw_iast dX7_charge_89 hT hn rfl (by omega) ?_
      refine AW.eqs sI_sA ?_
      exact aw_vret dX7_charge_90 rfl (by decide) (eV_to (congrArg (sA σ row) (by
        have hwh : whoN g b = w := by rw [whoN, hw, nI_clamp (by omega)]
        simp only [fCharge, hwh]
        first
          | rw [if_pos hm, if_pos ho]
          | rw [if_neg hm, if_pos ho]
          | rw [if_neg hm, if_neg ho])))
    · have hm : g (31 + 10 * b + 2) ≤ g 0 ∧ g (31 + 10 * b + 7) = 1 := ⟨ho, c_32⟩
      refine aw_aload0 dX7_charge_35 ?_
      refine aw_bipush (v := 7) dX7_charge_36 (by decide) ?_
      refine aw_dup2 dX7_charge_38 rfl rfl ?_
      refine aw_iald (j := 7) dX7_charge_39 hT hn rfl (by decide) sA_at ?_
      refine aw_iload2 dX7_charge_40 ?_
      refine aw_iadd dX7_charge_41 ?_
      refine aw_iast (j := 7) dX7_charge_42 hT hn rfl (by decide) ?_
      refine AW.eqs sI_sA ?_
      refine aw_goto (tgt := 70) dX7_charge_43 (by decide) ?_
      refine aw_aload0 dX7_charge_70 ?_
      refine aw_iload1 dX7_charge_71 ?_
      refine aw_iload3 dX7_charge_72 ?_
      refine aw_if_eq (tgt := 81) dX7_charge_73 (by decide) (fun c_73 => absurd c_73 (by decide)) (fun _ => ?_)
      refine aw_bipush (v := 6) dX7_charge_76 (by decide) ?_
      refine aw_goto (tgt := 82) dX7_charge_78 (by decide) ?_
      refine aw_SI2 (k_bookAt _ _ 6) dX7_charge_82 sl_7_49 (by decide) (Nat.le_of_ble_eq_true rfl) (fun σ_82 r_82 h_82 => ?_)
      obtain ⟨rfl, rfl⟩ := h_82
      refine aw_dup2 dX7_charge_85 rfl rfl ?_
      refine aw_iald dX7_charge_86 hT hn rfl (by omega) sA_at ?_
      refine aw_iload2 dX7_charge_87 ?_
      refine aw_iadd dX7_charge_88 ?_
      refine aw_iast dX7_charge_89 hT hn rfl (by omega) ?_
      refine AW.eqs sI_sA ?_
      exact aw_vret dX7_charge_90 rfl (by decide) (eV_to (congrArg (sA σ row) (by
        have hwh : whoN g b = w := by rw [whoN, hw, nI_clamp (by omega)]
        simp only [fCharge, hwh]
        first
          | rw [if_pos hm, if_pos ho]
          | rw [if_neg hm, if_pos ho]
          | rw [if_neg hm, if_neg ho])))
theorem byOf_n {m p : Int32} (h : m < 0) : byOf m p = 0 := if_pos h
theorem byOf_p {m p : Int32} (h : ¬ m < 0) (h2 : p < m) : byOf m p = p := by rw [byOf, if_neg h, if_pos h2]
theorem byOf_m {m p : Int32} (h : ¬ m < 0) (h2 : ¬ p < m) : byOf m p = m := by rw [byOf, if_neg h, if_neg h2]
/-- whom a booking belongs to: a group that there can be -/
def WHO (g : Rw) (nb : Nat) : Prop := ∀ b, b < nb → ∃ w, w < 6 ∧ g (31 + 10 * b + 1) = nI w
theorem WHO.upd {g : Rw} {nb j : Nat} {v : Int32} (h : WHO g nb) (hj : ∀ b, b < nb → 31 + 10 * b + 1 ≠ j) : WHO (upd g j v) nb := fun b hb => by
  obtain ⟨w, h1, h2⟩ := h b hb
  exact ⟨w, h1, by rw [upd_n (hj b hb)]; exact h2⟩
set_option maxHeartbeats 4000000 in
theorem k_goRoom (σ : Sg) (row : Nat) (g : Rw) (r nb : Nat) (hT : cT row = .inr (0, 151)) (hn : row < NN) (hnb : g 3 = nI nb) (hb : nb ≤ 12) (hr : r < 4) (hwho : WHO g nb) : Ct yX7_goRoom cX7_goRoom mX7_goRoom 6 0 0 NN false (sA σ row g) [.ref row, .int (nI r)] NN (rI fun σ2 v => sA σ row (fRoom g r nb).1 = σ2 ∧ (fRoom g r nb).2 = v) XF := by
  refine ct_of (ls0 := [some (.ref row), some (.int (nI r)), none, none, none, none, none, none]) 6 (by decide +kernel) rfl rfl (ndR (ndI nd0)) rfl (Nat.le_of_ble_eq_true rfl) (fun K => ?_)
  refine aw_aload0 dX7_goRoom_0 ?_
  refine aw_iload1 dX7_goRoom_1 ?_
  refine aw_SI2 (k_heaterOf _ _ _ _ _ hT hn hnb hb hr) dX7_goRoom_2 sl_7_77 (by decide) (Nat.le_of_ble_eq_true rfl) (fun σ_2 r_2 h_2 => ?_)
  obtain ⟨rfl, rfl⟩ := h_2
  refine aw_istore2 dX7_goRoom_5 (by decide) rfl ?_
  refine aw_aload0 dX7_goRoom_6 ?_
  refine aw_iload1 dX7_goRoom_7 ?_
  refine aw_iconst (v := 3) dX7_goRoom_8 (by decide) ?_
  refine aw_SI2 (k_roomAt _ _ 3) dX7_goRoom_9 sl_7_61 (by decide) (Nat.le_of_ble_eq_true rfl) (fun σ_9 r_9 h_9 => ?_)
  obtain ⟨rfl, rfl⟩ := h_9
  refine aw_iald dX7_goRoom_12 hT hn rfl (by omega) sA_at ?_
  refine aw_istore3 dX7_goRoom_13 (by decide) rfl ?_
  refine aw_aload0 dX7_goRoom_14 ?_
  refine aw_iload1 dX7_goRoom_15 ?_
  refine aw_iconst (v := 3) dX7_goRoom_16 (by decide) ?_
  refine aw_SI2 (k_roomAt _ _ 3) dX7_goRoom_17 sl_7_61 (by decide) (Nat.le_of_ble_eq_true rfl) (fun σ_17 r_17 h_17 => ?_)
  obtain ⟨rfl, rfl⟩ := h_17
  refine aw_aload0 dX7_goRoom_20 ?_
  refine aw_iload1 dX7_goRoom_21 ?_
  refine aw_SI2 (k_cooled _ _ _ _ hT hn hr) dX7_goRoom_22 sl_7_64 (by decide) (Nat.le_of_ble_eq_true rfl) (fun σ_22 r_22 h_22 => ?_)
  obtain ⟨rfl, rfl⟩ := h_22
  refine aw_iast dX7_goRoom_25 hT hn rfl (by omega) ?_
  refine AW.eqs sI_sA ?_
  refine aw_iload2 dX7_goRoom_26 ?_
  refine aw_bipush (v := (-99)) dX7_goRoom_27 (by decide) ?_
  refine aw_ic_ne (tgt := 34) dX7_goRoom_29 (by decide) (fun c_29 => ?_) (fun c_29 => ?_)
  · obtain ⟨b, hf⟩ := oI_s c_29
    have hbn : b < nb := fHeater_lt hf
    rw [hf]
    rw [show oI (some b) = nI b from rfl]
    obtain ⟨w, hw6, hw⟩ := hwho b hbn
    refine AW.tern0 (E := (if (upd g (9 + 4 * r + 3) (fCool g r)) (31 + 10 * b + 2) ≤ (upd g (9 + 4 * r + 3) (fCool g r)) 0 then (1 : Int32) else 0)) (pc2 := 52) (fun x_52 hx_52 => ?_) (fun J_52 => ?_)
    · refine aw_istore4 dX7_goRoom_52 (by decide) rfl ?_
      have ho1 : x_52 = 0 → ¬ (upd g (9 + 4 * r + 3) (fCool g r)) (31 + 10 * b + 2) ≤ (upd g (9 + 4 * r + 3) (fCool g r)) 0 := fun e h => by rw [if_pos h, e] at hx_52; exact absurd hx_52 (by decide)
      have ho2 : ¬ x_52 = 0 → (upd g (9 + 4 * r + 3) (fCool g r)) (31 + 10 * b + 2) ≤ (upd g (9 + 4 * r + 3) (fCool g r)) 0 := fun e => Classical.byContradiction fun h => e (by rw [if_neg h] at hx_52; exact hx_52)
      refine aw_aload0 dX7_goRoom_54 ?_
      refine aw_iload2 dX7_goRoom_55 ?_
      refine aw_bipush (v := 9) dX7_goRoom_56 (by decide) ?_
      refine aw_SI2 (k_bookAt _ _ 9) dX7_goRoom_58 sl_7_49 (by decide) (Nat.le_of_ble_eq_true rfl) (fun σ_58 r_58 h_58 => ?_)
      obtain ⟨rfl, rfl⟩ := h_58
      refine AW.tern0 (E := (if (upd g (9 + 4 * r + 3) (fCool g r)) (31 + 10 * b + 2) ≤ (upd g (9 + 4 * r + 3) (fCool g r)) 0 then (upd g (9 + 4 * r + 3) (fCool g r)) (31 + 10 * b + 9) else 1)) (pc2 := 78) (fun x_78 hx_78 => ?_) (fun J_78 => ?_)
      · subst hx_78
        refine aw_iast dX7_goRoom_78 hT hn rfl (by omega) ?_
        refine AW.eqs sI_sA ?_
        refine aw_aload0 dX7_goRoom_79 ?_
        refine aw_iload2 dX7_goRoom_80 ?_
        refine aw_bipush (v := 8) dX7_goRoom_81 (by decide) ?_
        refine aw_SI2 (k_bookAt _ _ 8) dX7_goRoom_83 sl_7_49 (by decide) (Nat.le_of_ble_eq_true rfl) (fun σ_83 r_83 h_83 => ?_)
        obtain ⟨rfl, rfl⟩ := h_83
        refine aw_dup2 dX7_goRoom_86 rfl rfl ?_
        refine aw_iald dX7_goRoom_87 hT hn rfl (by omega) sA_at ?_
        refine AW.tern0 (E := (if (upd g (9 + 4 * r + 3) (fCool g r)) (31 + 10 * b + 2) ≤ (upd g (9 + 4 * r + 3) (fCool g r)) 0 ∧ g (9 + 4 * r + 3) < (upd (upd g (9 + 4 * r + 3) (fCool g r)) (31 + 10 * b + 9) (if (upd g (9 + 4 * r + 3) (fCool g r)) (31 + 10 * b + 2) ≤ (upd g (9 + 4 * r + 3) (fCool g r)) 0 then (upd g (9 + 4 * r + 3) (fCool g r)) (31 + 10 * b + 9) else 1)) (31 + 10 * b + 4) - 1 then (1 : Int32) else 0)) (pc2 := 111) (fun x_111 hx_111 => ?_) (fun J_111 => ?_)
        · subst hx_111
          refine aw_iadd dX7_goRoom_111 ?_
          refine aw_iast dX7_goRoom_112 hT hn rfl (by omega) ?_
          refine AW.eqs sI_sA ?_
          refine aw_aload0 dX7_goRoom_113 ?_
          refine aw_iload2 dX7_goRoom_114 ?_
          refine aw_iconst (v := 4) dX7_goRoom_115 (by decide) ?_
          refine aw_SI2 (k_bookAt _ _ 4) dX7_goRoom_116 sl_7_49 (by decide) (Nat.le_of_ble_eq_true rfl) (fun σ_116 r_116 h_116 => ?_)
          obtain ⟨rfl, rfl⟩ := h_116
          refine aw_iald dX7_goRoom_119 hT hn rfl (by omega) sA_at ?_
          refine aw_aload0 dX7_goRoom_120 ?_
          refine aw_iload1 dX7_goRoom_121 ?_
          refine aw_iconst (v := 3) dX7_goRoom_122 (by decide) ?_
          refine aw_SI2 (k_roomAt _ _ 3) dX7_goRoom_123 sl_7_61 (by decide) (Nat.le_of_ble_eq_true rfl) (fun σ_123 r_123 h_123 => ?_)
          obtain ⟨rfl, rfl⟩ := h_123
          refine aw_iald dX7_goRoom_126 hT hn rfl (by omega) sA_at ?_
          refine aw_isub dX7_goRoom_127 ?_
          refine aw_istore5 dX7_goRoom_128 (by decide) rfl ?_
          refine AW.tern0 (E := (byOf ((upd (upd (upd g (9 + 4 * r + 3) (fCool g r)) (31 + 10 * b + 9) (if (upd g (9 + 4 * r + 3) (fCool g r)) (31 + 10 * b + 2) ≤ (upd g (9 + 4 * r + 3) (fCool g r)) 0 then (upd g (9 + 4 * r + 3) (fCool g r)) (31 + 10 * b + 9) else 1)) (31 + 10 * b + 8) ((upd (upd g (9 + 4 * r + 3) (fCool g r)) (31 + 10 * b + 9) (if (upd g (9 + 4 * r + 3) (fCool g r)) (31 + 10 * b + 2) ≤ (upd g (9 + 4 * r + 3) (fCool g r)) 0 then (upd g (9 + 4 * r + 3) (fCool g r)) (31 + 10 * b + 9) else 1)) (31 + 10 * b + 8) + if (upd g (9 + 4 * r + 3) (fCool g r)) (31 + 10 * b + 2) ≤ (upd g (9 + 4 * r + 3) (fCool g r)) 0 ∧ g (9 + 4 * r + 3) < (upd (upd g (9 + 4 * r + 3) (fCool g r)) (31 + 10 * b + 9) (if (upd g (9 + 4 * r + 3) (fCool g r)) (31 + 10 * b + 2) ≤ (upd g (9 + 4 * r + 3) (fCool g r)) 0 then (upd g (9 + 4 * r + 3) (fCool g r)) (31 + 10 * b + 9) else 1)) (31 + 10 * b + 4) - 1 then 1 else 0)) (31 + 10 * b + 4) - (upd (upd (upd g (9 + 4 * r + 3) (fCool g r)) (31 + 10 * b + 9) (if (upd g (9 + 4 * r + 3) (fCool g r)) (31 + 10 * b + 2) ≤ (upd g (9 + 4 * r + 3) (fCool g r)) 0 then (upd g (9 + 4 * r + 3) (fCool g r)) (31 + 10 * b + 9) else 1)) (31 + 10 * b + 8) ((upd (upd g (9 + 4 * r + 3) (fCool g r)) (31 + 10 * b + 9) (if (upd g (9 + 4 * r + 3) (fCool g r)) (31 + 10 * b + 2) ≤ (upd g (9 + 4 * r + 3) (fCool g r)) 0 then (upd g (9 + 4 * r + 3) (fCool g r)) (31 + 10 * b + 9) else 1)) (31 + 10 * b + 8) + if (upd g (9 + 4 * r + 3) (fCool g r)) (31 + 10 * b + 2) ≤ (upd g (9 + 4 * r + 3) (fCool g r)) 0 ∧ g (9 + 4 * r + 3) < (upd (upd g (9 + 4 * r + 3) (fCool g r)) (31 + 10 * b + 9) (if (upd g (9 + 4 * r + 3) (fCool g r)) (31 + 10 * b + 2) ≤ (upd g (9 + 4 * r + 3) (fCool g r)) 0 then (upd g (9 + 4 * r + 3) (fCool g r)) (31 + 10 * b + 9) else 1)) (31 + 10 * b + 4) - 1 then 1 else 0)) (9 + 4 * r + 3)) ((upd (upd (upd g (9 + 4 * r + 3) (fCool g r)) (31 + 10 * b + 9) (if (upd g (9 + 4 * r + 3) (fCool g r)) (31 + 10 * b + 2) ≤ (upd g (9 + 4 * r + 3) (fCool g r)) 0 then (upd g (9 + 4 * r + 3) (fCool g r)) (31 + 10 * b + 9) else 1)) (31 + 10 * b + 8) ((upd (upd g (9 + 4 * r + 3) (fCool g r)) (31 + 10 * b + 9) (if (upd g (9 + 4 * r + 3) (fCool g r)) (31 + 10 * b + 2) ≤ (upd g (9 + 4 * r + 3) (fCool g r)) 0 then (upd g (9 + 4 * r + 3) (fCool g r)) (31 + 10 * b + 9) else 1)) (31 + 10 * b + 8) + if (upd g (9 + 4 * r + 3) (fCool g r)) (31 + 10 * b + 2) ≤ (upd g (9 + 4 * r + 3) (fCool g r)) 0 ∧ g (9 + 4 * r + 3) < (upd (upd g (9 + 4 * r + 3) (fCool g r)) (31 + 10 * b + 9) (if (upd g (9 + 4 * r + 3) (fCool g r)) (31 + 10 * b + 2) ≤ (upd g (9 + 4 * r + 3) (fCool g r)) 0 then (upd g (9 + 4 * r + 3) (fCool g r)) (31 + 10 * b + 9) else 1)) (31 + 10 * b + 4) - 1 then 1 else 0)) (9 + 4 * r + 2)))) (pc2 := 163) (fun x_163 hx_163 => ?_) (fun J_163 => ?_)
          · subst hx_163
            refine aw_istore6 dX7_goRoom_163 (by decide) rfl ?_
            refine aw_aload0 dX7_goRoom_165 ?_
            refine aw_iload1 dX7_goRoom_166 ?_
            refine aw_iconst (v := 3) dX7_goRoom_167 (by decide) ?_
            refine aw_SI2 (k_roomAt _ _ 3) dX7_goRoom_168 sl_7_61 (by decide) (Nat.le_of_ble_eq_true rfl) (fun σ_168 r_168 h_168 => ?_)
            obtain ⟨rfl, rfl⟩ := h_168
            refine aw_dup2 dX7_goRoom_171 rfl rfl ?_
            refine aw_iald dX7_goRoom_172 hT hn rfl (by omega) sA_at ?_
            refine aw_iload6 dX7_goRoom_173 ?_
            refine aw_iadd dX7_goRoom_175 ?_
            refine aw_iast dX7_goRoom_176 hT hn rfl (by omega) ?_
            refine AW.eqs sI_sA ?_
            refine aw_iload6 dX7_goRoom_177 ?_
            refine aw_aload0 dX7_goRoom_179 ?_
            refine aw_iload1 dX7_goRoom_180 ?_
            refine aw_iconst (v := 0) dX7_goRoom_181 (by decide) ?_
            refine aw_SI2 (k_roomAt _ _ 0) dX7_goRoom_182 sl_7_61 (by decide) (Nat.le_of_ble_eq_true rfl) (fun σ_182 r_182 h_182 => ?_)
            obtain ⟨rfl, rfl⟩ := h_182
            refine aw_iald dX7_goRoom_185 hT hn rfl (by omega) sA_at ?_
            refine aw_imul dX7_goRoom_186 ?_
            refine aw_istore7 dX7_goRoom_187 (by decide) rfl ?_
            refine aw_aload0 dX7_goRoom_189 ?_
            refine aw_iload2 dX7_goRoom_190 ?_
            refine aw_iload7 dX7_goRoom_191 ?_
            refine aw_SV3 (k_charge _ _ _ _ _ _ hT hn (by omega) (by rw [upd_n (by omega), upd_n (by omega), upd_n (by omega), upd_n (by omega)]; exact hw) hw6) dX7_goRoom_193 sl_7_80 (by decide) (Nat.le_of_ble_eq_true rfl) (fun σ_193 h_193 => ?_)
            obtain rfl := h_193
            refine aw_iload7 dX7_goRoom_196 ?_
            exact aw_iret dX7_goRoom_198 rfl (by decide) ⟨_, rfl, by simp only [fRoom, hf], by simp only [fRoom, hf]⟩
          · refine aw_iload5 dX7_goRoom_130 ?_
            refine aw_if_ge (tgt := 139) dX7_goRoom_132 (by decide) (fun c_132 => ?_) (fun c_132 => ?_)
            · refine aw_iload5 dX7_goRoom_139 ?_
              refine aw_aload0 dX7_goRoom_141 ?_
              refine aw_iload1 dX7_goRoom_142 ?_
              refine aw_iconst (v := 2) dX7_goRoom_143 (by decide) ?_
              refine aw_SI2 (k_roomAt _ _ 2) dX7_goRoom_144 sl_7_61 (by decide) (Nat.le_of_ble_eq_true rfl) (fun σ_144 r_144 h_144 => ?_)
              obtain ⟨rfl, rfl⟩ := h_144
              refine aw_iald dX7_goRoom_147 hT hn rfl (by omega) sA_at ?_
              refine aw_ic_le (tgt := 161) dX7_goRoom_148 (by decide) (fun c_148 => ?_) (fun c_148 => ?_)
              · refine aw_iload5 dX7_goRoom_161 ?_
                exact J_163 _ (by first | exact (byOf_n (Int32.not_le.mp c_132)).symm | exact (byOf_m (Int32.not_lt.mpr c_132) (Int32.not_lt.mpr c_148)).symm | exact (byOf_p (Int32.not_lt.mpr c_132) (Int32.not_le.mp c_148)).symm)
              · refine aw_aload0 dX7_goRoom_151 ?_
                refine aw_iload1 dX7_goRoom_152 ?_
                refine aw_iconst (v := 2) dX7_goRoom_153 (by decide) ?_
                refine aw_SI2 (k_roomAt _ _ 2) dX7_goRoom_154 sl_7_61 (by decide) (Nat.le_of_ble_eq_true rfl) (fun σ_154 r_154 h_154 => ?_)
                obtain ⟨rfl, rfl⟩ := h_154
                refine aw_iald dX7_goRoom_157 hT hn rfl (by omega) sA_at ?_
                refine aw_goto (tgt := 163) dX7_goRoom_158 (by decide) ?_
                exact J_163 _ (by first | exact (byOf_n (Int32.not_le.mp c_132)).symm | exact (byOf_m (Int32.not_lt.mpr c_132) (Int32.not_lt.mpr c_148)).symm | exact (byOf_p (Int32.not_lt.mpr c_132) (Int32.not_le.mp c_148)).symm)
            · refine aw_iconst (v := 0) dX7_goRoom_135 (by decide) ?_
              refine aw_goto (tgt := 163) dX7_goRoom_136 (by decide) ?_
              exact J_163 _ (by first | exact (byOf_n (Int32.not_le.mp c_132)).symm | exact (byOf_m (Int32.not_lt.mpr c_132) (Int32.not_lt.mpr c_148)).symm | exact (byOf_p (Int32.not_lt.mpr c_132) (Int32.not_le.mp c_148)).symm)
        · refine aw_iload4 dX7_goRoom_88 ?_
          refine aw_if_eq (tgt := 110) dX7_goRoom_90 (by decide) (fun c_90 => ?_) (fun c_90 => ?_)
          · refine aw_iconst (v := 0) dX7_goRoom_110 (by decide) ?_
            exact J_111 _ (by first | exact (if_neg (fun h => ho1 c_90 h.1)).symm | exact (if_neg (fun h => Int32.not_le.mpr h.2 c_103)).symm | exact (if_pos ⟨ho2 c_90, Int32.not_le.mp c_103⟩).symm)
          · refine aw_iload3 dX7_goRoom_93 ?_
            refine aw_aload0 dX7_goRoom_94 ?_
            refine aw_iload2 dX7_goRoom_95 ?_
            refine aw_iconst (v := 4) dX7_goRoom_96 (by decide) ?_
            refine aw_SI2 (k_bookAt _ _ 4) dX7_goRoom_97 sl_7_49 (by decide) (Nat.le_of_ble_eq_true rfl) (fun σ_97 r_97 h_97 => ?_)
            obtain ⟨rfl, rfl⟩ := h_97
            refine aw_iald dX7_goRoom_100 hT hn rfl (by omega) sA_at ?_
            refine aw_iconst (v := 1) dX7_goRoom_101 (by decide) ?_
            refine aw_isub dX7_goRoom_102 ?_
            refine aw_ic_ge (tgt := 110) dX7_goRoom_103 (by decide) (fun c_103 => ?_) (fun c_103 => ?_)
            · refine aw_iconst (v := 0) dX7_goRoom_110 (by decide) ?_
              exact J_111 _ (by first | exact (if_neg (fun h => ho1 c_90 h.1)).symm | exact (if_neg (fun h => Int32.not_le.mpr h.2 c_103)).symm | exact (if_pos ⟨ho2 c_90, Int32.not_le.mp c_103⟩).symm)
            · refine aw_iconst (v := 1) dX7_goRoom_106 (by decide) ?_
              refine aw_goto (tgt := 111) dX7_goRoom_107 (by decide) ?_
              exact J_111 _ (by first | exact (if_neg (fun h => ho1 c_90 h.1)).symm | exact (if_neg (fun h => Int32.not_le.mpr h.2 c_103)).symm | exact (if_pos ⟨ho2 c_90, Int32.not_le.mp c_103⟩).symm)
      · refine aw_iload4 dX7_goRoom_61 ?_
        refine aw_if_eq (tgt := 77) dX7_goRoom_63 (by decide) (fun c_63 => ?_) (fun c_63 => ?_)
        · refine aw_iconst (v := 1) dX7_goRoom_77 (by decide) ?_
          exact J_78 _ (by first | exact (if_pos (ho2 c_63)).symm | exact (if_neg (ho1 c_63)).symm)
        · refine aw_aload0 dX7_goRoom_66 ?_
          refine aw_iload2 dX7_goRoom_67 ?_
          refine aw_bipush (v := 9) dX7_goRoom_68 (by decide) ?_
          refine aw_SI2 (k_bookAt _ _ 9) dX7_goRoom_70 sl_7_49 (by decide) (Nat.le_of_ble_eq_true rfl) (fun σ_70 r_70 h_70 => ?_)
          obtain ⟨rfl, rfl⟩ := h_70
          refine aw_iald dX7_goRoom_73 hT hn rfl (by omega) sA_at ?_
          refine aw_goto (tgt := 78) dX7_goRoom_74 (by decide) ?_
          exact J_78 _ (by first | exact (if_pos (ho2 c_63)).symm | exact (if_neg (ho1 c_63)).symm)
    · refine aw_aload0 dX7_goRoom_34 ?_
      refine aw_iload2 dX7_goRoom_35 ?_
      refine aw_iconst (v := 2) dX7_goRoom_36 (by decide) ?_
      refine aw_SI2 (k_bookAt _ _ 2) dX7_goRoom_37 sl_7_49 (by decide) (Nat.le_of_ble_eq_true rfl) (fun σ_37 r_37 h_37 => ?_)
      obtain ⟨rfl, rfl⟩ := h_37
      refine aw_iald dX7_goRoom_40 hT hn rfl (by omega) sA_at ?_
      refine aw_aload0 dX7_goRoom_41 ?_
      refine aw_iconst (v := 0) dX7_goRoom_42 (by decide) ?_
      refine aw_iald (j := 0) dX7_goRoom_43 hT hn rfl (by decide) sA_at ?_
      refine aw_ic_gt (tgt := 51) dX7_goRoom_44 (by decide) (fun c_44 => ?_) (fun c_44 => ?_)
      · refine aw_iconst (v := 0) dX7_goRoom_51 (by decide) ?_
        exact J_52 _ (by first | exact (if_pos (Int32.not_lt.mp c_44)).symm | exact (if_neg (Int32.not_le.mpr c_44)).symm)
      · refine aw_iconst (v := 1) dX7_goRoom_47 (by decide) ?_
        refine aw_goto (tgt := 52) dX7_goRoom_48 (by decide) ?_
        exact J_52 _ (by first | exact (if_pos (Int32.not_lt.mp c_44)).symm | exact (if_neg (Int32.not_le.mpr c_44)).symm)
  · refine aw_iconst (v := 0) dX7_goRoom_32 (by decide) ?_
    exact aw_iret dX7_goRoom_33 rfl (by decide) ⟨_, rfl, by have h0 := oI_n (fun f hf => by have := fHeater_lt hf; omega) c_29; rw [fRoom, h0], by have h0 := oI_n (fun f hf => by have := fHeater_lt hf; omega) c_29; rw [fRoom, h0]⟩
def setP (g : Rw) (b q : Nat) : Prop := g (31 + 10 * q + 0) = g (31 + 10 * b + 0) ∧ ¬ g (31 + 10 * q + 1) = g (31 + 10 * b + 1) ∧ g (31 + 10 * q + 2) = fEnd g b
def setD (g : Rw) (b q : Nat) : Bool := decide (g (31 + 10 * q + 0) = g (31 + 10 * b + 0)) && (!decide (g (31 + 10 * q + 1) = g (31 + 10 * b + 1)) && decide (g (31 + 10 * q + 2) = fEnd g b))
theorem setD_iff {g : Rw} {b q : Nat} : setD g b q = true ↔ setP g b q := by simp [setD, setP]
def fSet1 (g : Rw) (b q : Nat) : Rw := if setD g b q = true then
    let g1 := upd g (25 + whoN g b) (g (25 + whoN g b) - g (31 + 10 * b + 5) / 2)
    upd g1 (25 + whoN g q) (g1 (25 + whoN g q) + g (31 + 10 * b + 5) / 2)
  else g
def fSettle (g : Rw) (b : Nat) : Nat → Rw
  | 0 => g
  | k + 1 => fSet1 (fSettle g b k) b k
theorem whoN_of {g : Rw} {b w : Nat} (h : g (31 + 10 * b + 1) = nI w) (hw : w < 6) : whoN g b = w := by rw [whoN, h, nI_clamp (by omega)]
/-- only what is owed changes -/
theorem fSet1_off {g : Rw} {b q nb : Nat} (hw : WHO g nb) (hb : b < nb) (hq : q < nb) {j : Nat} (hj : j < 25 ∨ 31 ≤ j) : fSet1 g b q j = g j := by
  obtain ⟨w, h1, h2⟩ := hw b hb
  obtain ⟨v, h3, h4⟩ := hw q hq
  unfold fSet1
  split
  · simp only [whoN_of h2 h1, whoN_of h4 h3]
    rw [upd_n (by omega), upd_n (by omega)]
  · rfl
theorem WHO.eqs {g g2 : Rw} {nb : Nat} (h : WHO g nb) (e : ∀ j, j < 25 ∨ 31 ≤ j → g2 j = g j) : WHO g2 nb := fun b hb => by
  obtain ⟨w, h1, h2⟩ := h b hb
  exact ⟨w, h1, by rw [e _ (by omega)]; exact h2⟩
theorem fSettle_off {g : Rw} {b nb : Nat} (hw : WHO g nb) (hb : b < nb) : ∀ (k : Nat), k ≤ nb → ∀ (j : Nat), j < 25 ∨ 31 ≤ j → fSettle g b k j = g j
  | 0, _, _, _ => rfl
  | k + 1, hk, j, hj => by
    have ih := fSettle_off hw hb k (by omega)
    show fSet1 (fSettle g b k) b k j = g j
    rw [fSet1_off (hw.eqs ih) hb (by omega) hj, ih _ hj]
set_option maxHeartbeats 4000000 in
theorem k_settle (σ : Sg) (row : Nat) (g : Rw) (b nb : Nat) (hT : cT row = .inr (0, 151)) (hn : row < NN) (hnb : g 3 = nI nb) (hb : nb ≤ 12) (hwho : WHO g nb) (hbn : b < nb) : Ct yX7_settle cX7_settle mX7_settle 4 0 0 NN false (sA σ row g) [.ref row, .int (nI b)] NN (eV1 (sA σ row (fSettle g b nb))) XF := by
  refine ct_of (ls0 := [some (.ref row), some (.int (nI b)), none, none, none]) 3 (by decide +kernel) rfl rfl (ndR (ndI nd0)) rfl (Nat.le_of_ble_eq_true rfl) (fun K => ?_)
  have L2 : ∀ (k : Nat) (q : Nat) (h1 : q ≤ nb) (h2 : nb - q < k) (x3 x4 : Option Value), AW K RX7 cX7_settle mX7_settle 4 0 0 (Qm K NN (eV1 (sA σ row (fSettle g b nb))) XF 0 0) NN none (sA σ row (fSettle g b q)) 0 0 2 [some (.ref row), some (.int (nI b)), some (.int (nI q)), x3, x4] [] := by
    intro k
    induction k with
    | zero => intro q h1 h2 x3 x4; exact absurd h2 (Nat.not_lt_zero _)
    | succ k ih =>
      intro q h1 h2 x3 x4
      refine aw_iload2 dX7_settle_2 ?_
      refine aw_aload0 dX7_settle_3 ?_
      refine aw_iconst (v := 3) dX7_settle_4 (by decide) ?_
      refine aw_iald (j := 3) dX7_settle_5 hT hn rfl (by decide) (sA_at.trans ((fSettle_off hwho hbn q (by omega) _ (Or.inl (by decide))).trans hnb)) ?_
      refine aw_ic_ge (tgt := 119) dX7_settle_6 (by decide) (fun c_6 => ?_) (fun c_6 => ?_)
      · have hbb : q = nb := by
          have := (nI_leI (by omega) (by omega)).mp c_6
          omega
        subst hbb
        exact aw_vret dX7_settle_119 rfl (by decide) eV_of
      · have hlt : q < nb := by
          rcases Nat.lt_or_ge q nb with z | z
          · exact z
          · exact absurd (nI_le z (by omega)) c_6
        have hoff := fSettle_off hwho hbn q (by omega)
        have hwho2 : WHO (fSettle g b q) nb := hwho.eqs hoff
        obtain ⟨wb, hwb6, hwb⟩ := hwho2 b hbn
        obtain ⟨wq, hwq6, hwq⟩ := hwho2 q hlt
        refine aw_aload0 dX7_settle_9 ?_
        refine aw_iload2 dX7_settle_10 ?_
        refine aw_iconst (v := 0) dX7_settle_11 (by decide) ?_
        refine aw_SI2 (k_bookAt _ _ 0) dX7_settle_12 sl_7_49 (by decide) (Nat.le_of_ble_eq_true rfl) (fun σ_12 r_12 h_12 => ?_)
        obtain ⟨rfl, rfl⟩ := h_12
        refine aw_iald dX7_settle_15 hT hn rfl (by omega) sA_at ?_
        refine aw_aload0 dX7_settle_16 ?_
        refine aw_iload1 dX7_settle_17 ?_
        refine aw_iconst (v := 0) dX7_settle_18 (by decide) ?_
        refine aw_SI2 (k_bookAt _ _ 0) dX7_settle_19 sl_7_49 (by decide) (Nat.le_of_ble_eq_true rfl) (fun σ_19 r_19 h_19 => ?_)
        obtain ⟨rfl, rfl⟩ := h_19
        refine aw_iald dX7_settle_22 hT hn rfl (by omega) sA_at ?_
        refine aw_ic_ne (tgt := 62) dX7_settle_23 (by decide) (fun c_23 => ?_) (fun c_23 => ?_)
        · refine aw_iconst (v := 0) dX7_settle_62 (by decide) ?_
          refine aw_istore3 dX7_settle_63 (by decide) rfl ?_
          refine aw_iload3 dX7_settle_64 ?_
          refine aw_if_eq (tgt := 113) dX7_settle_65 (by decide) (fun _ => ?_) (fun c_65 => absurd c_65 (by decide))
          refine aw_iinc2 (w := nI (q + 1)) dX7_settle_113 (nI_1 q) (by decide) rfl ?_
          refine aw_goto (tgt := 2) dX7_settle_116 (by decide) ?_
          have e : fSettle g b (q + 1) = fSettle g b q := by
            show fSet1 (fSettle g b q) b q = _
            rw [fSet1]
            rw [if_neg (fun h => by
              obtain ⟨h1, h2, h3⟩ := setD_iff.mp h
              first | exact c_23 h1 | exact h2 c_40 | exact c_55 h3)]
          have k9 := ih (q + 1) hlt (by omega) (some (.int 0)) x4
          rw [e] at k9
          exact k9
        · refine aw_aload0 dX7_settle_26 ?_
          refine aw_iload2 dX7_settle_27 ?_
          refine aw_iconst (v := 1) dX7_settle_28 (by decide) ?_
          refine aw_SI2 (k_bookAt _ _ 1) dX7_settle_29 sl_7_49 (by decide) (Nat.le_of_ble_eq_true rfl) (fun σ_29 r_29 h_29 => ?_)
          obtain ⟨rfl, rfl⟩ := h_29
          refine aw_iald dX7_settle_32 hT hn rfl (by omega) sA_at ?_
          refine aw_aload0 dX7_settle_33 ?_
          refine aw_iload1 dX7_settle_34 ?_
          refine aw_iconst (v := 1) dX7_settle_35 (by decide) ?_
          refine aw_SI2 (k_bookAt _ _ 1) dX7_settle_36 sl_7_49 (by decide) (Nat.le_of_ble_eq_true rfl) (fun σ_36 r_36 h_36 => ?_)
          obtain ⟨rfl, rfl⟩ := h_36
          refine aw_iald dX7_settle_39 hT hn rfl (by omega) sA_at ?_
          refine aw_ic_eq (tgt := 62) dX7_settle_40 (by decide) (fun c_40 => ?_) (fun c_40 => ?_)
          · refine aw_iconst (v := 0) dX7_settle_62 (by decide) ?_
            refine aw_istore3 dX7_settle_63 (by decide) rfl ?_
            refine aw_iload3 dX7_settle_64 ?_
            refine aw_if_eq (tgt := 113) dX7_settle_65 (by decide) (fun _ => ?_) (fun c_65 => absurd c_65 (by decide))
            refine aw_iinc2 (w := nI (q + 1)) dX7_settle_113 (nI_1 q) (by decide) rfl ?_
            refine aw_goto (tgt := 2) dX7_settle_116 (by decide) ?_
            have e : fSettle g b (q + 1) = fSettle g b q := by
              show fSet1 (fSettle g b q) b q = _
              rw [fSet1]
              rw [if_neg (fun h => by
                obtain ⟨h1, h2, h3⟩ := setD_iff.mp h
                first | exact c_23 h1 | exact h2 c_40 | exact c_55 h3)]
            have k9 := ih (q + 1) hlt (by omega) (some (.int 0)) x4
            rw [e] at k9
            exact k9
          · refine aw_aload0 dX7_settle_43 ?_
            refine aw_iload2 dX7_settle_44 ?_
            refine aw_iconst (v := 2) dX7_settle_45 (by decide) ?_
            refine aw_SI2 (k_bookAt _ _ 2) dX7_settle_46 sl_7_49 (by decide) (Nat.le_of_ble_eq_true rfl) (fun σ_46 r_46 h_46 => ?_)
            obtain ⟨rfl, rfl⟩ := h_46
            refine aw_iald dX7_settle_49 hT hn rfl (by omega) sA_at ?_
            refine aw_aload0 dX7_settle_50 ?_
            refine aw_iload1 dX7_settle_51 ?_
            refine aw_SI2 (k_endOf _ _ _ _ hT hn (by omega)) dX7_settle_52 sl_7_53 (by decide) (Nat.le_of_ble_eq_true rfl) (fun σ_52 r_52 h_52 => ?_)
            obtain ⟨rfl, rfl⟩ := h_52
            refine aw_ic_ne (tgt := 62) dX7_settle_55 (by decide) (fun c_55 => ?_) (fun c_55 => ?_)
            · refine aw_iconst (v := 0) dX7_settle_62 (by decide) ?_
              refine aw_istore3 dX7_settle_63 (by decide) rfl ?_
              refine aw_iload3 dX7_settle_64 ?_
              refine aw_if_eq (tgt := 113) dX7_settle_65 (by decide) (fun _ => ?_) (fun c_65 => absurd c_65 (by decide))
              refine aw_iinc2 (w := nI (q + 1)) dX7_settle_113 (nI_1 q) (by decide) rfl ?_
              refine aw_goto (tgt := 2) dX7_settle_116 (by decide) ?_
              have e : fSettle g b (q + 1) = fSettle g b q := by
                show fSet1 (fSettle g b q) b q = _
                rw [fSet1]
                rw [if_neg (fun h => by
                  obtain ⟨h1, h2, h3⟩ := setD_iff.mp h
                  first | exact c_23 h1 | exact h2 c_40 | exact c_55 h3)]
              have k9 := ih (q + 1) hlt (by omega) (some (.int 0)) x4
              rw [e] at k9
              exact k9
            · refine aw_iconst (v := 1) dX7_settle_58 (by decide) ?_
              refine aw_goto (tgt := 63) dX7_settle_59 (by decide) ?_
              refine aw_istore3 dX7_settle_63 (by decide) rfl ?_
              refine aw_iload3 dX7_settle_64 ?_
              refine aw_if_eq (tgt := 113) dX7_settle_65 (by decide) (fun c_65 => absurd c_65 (by decide)) (fun _ => ?_)
              refine aw_aload0 dX7_settle_68 ?_
              refine aw_iload1 dX7_settle_69 ?_
              refine aw_iconst (v := 5) dX7_settle_70 (by decide) ?_
              refine aw_SI2 (k_bookAt _ _ 5) dX7_settle_71 sl_7_49 (by decide) (Nat.le_of_ble_eq_true rfl) (fun σ_71 r_71 h_71 => ?_)
              obtain ⟨rfl, rfl⟩ := h_71
              refine aw_iald dX7_settle_74 hT hn rfl (by omega) sA_at ?_
              refine aw_iconst (v := 2) dX7_settle_75 (by decide) ?_
              refine aw_idiv dX7_settle_76 (by decide) ?_
              refine aw_istore4 dX7_settle_77 (by decide) rfl ?_
              refine aw_aload0 dX7_settle_79 ?_
              refine aw_bipush (v := 25) dX7_settle_80 (by decide) ?_
              refine aw_aload0 dX7_settle_82 ?_
              refine aw_iload1 dX7_settle_83 ?_
              refine aw_iconst (v := 1) dX7_settle_84 (by decide) ?_
              refine aw_SI2 (k_bookAt _ _ 1) dX7_settle_85 sl_7_49 (by decide) (Nat.le_of_ble_eq_true rfl) (fun σ_85 r_85 h_85 => ?_)
              obtain ⟨rfl, rfl⟩ := h_85
              refine aw_iald dX7_settle_88 hT hn rfl (by omega) sA_at ?_
              refine aw_iadd dX7_settle_89 ?_
              refine aw_dup2 dX7_settle_90 rfl rfl ?_
              refine aw_iald (j := 25 + wb) dX7_settle_91 hT hn (by rw [hwb]; exact nI_add 25 wb) (by omega) sA_at ?_
              refine aw_iload4 dX7_settle_92 ?_
              refine aw_isub dX7_settle_94 ?_
              refine aw_iast (j := 25 + wb) dX7_settle_95 hT hn (by rw [hwb]; exact nI_add 25 wb) (by omega) ?_
              refine AW.eqs sI_sA ?_
              refine aw_aload0 dX7_settle_96 ?_
              refine aw_bipush (v := 25) dX7_settle_97 (by decide) ?_
              refine aw_aload0 dX7_settle_99 ?_
              refine aw_iload2 dX7_settle_100 ?_
              refine aw_iconst (v := 1) dX7_settle_101 (by decide) ?_
              refine aw_SI2 (k_bookAt _ _ 1) dX7_settle_102 sl_7_49 (by decide) (Nat.le_of_ble_eq_true rfl) (fun σ_102 r_102 h_102 => ?_)
              obtain ⟨rfl, rfl⟩ := h_102
              refine aw_iald dX7_settle_105 hT hn rfl (by omega) sA_at ?_
              refine aw_iadd dX7_settle_106 ?_
              refine aw_dup2 dX7_settle_107 rfl rfl ?_
              refine aw_iald (j := 25 + wq) dX7_settle_108 hT hn (by rw [upd_n (by omega), hwq]; exact nI_add 25 wq) (by omega) sA_at ?_
              refine aw_iload4 dX7_settle_109 ?_
              refine aw_iadd dX7_settle_111 ?_
              refine aw_iast (j := 25 + wq) dX7_settle_112 hT hn (by rw [upd_n (by omega), hwq]; exact nI_add 25 wq) (by omega) ?_
              refine AW.eqs sI_sA ?_
              refine aw_iinc2 (w := nI (q + 1)) dX7_settle_113 (nI_1 q) (by decide) rfl ?_
              refine aw_goto (tgt := 2) dX7_settle_116 (by decide) ?_
              have e : fSettle g b (q + 1) = upd (upd (fSettle g b q) (25 + wb) (fSettle g b q (25 + wb) - fSettle g b q (31 + 10 * b + 5) / 2)) (25 + wq) ((upd (fSettle g b q) (25 + wb) (fSettle g b q (25 + wb) - fSettle g b q (31 + 10 * b + 5) / 2)) (25 + wq) + fSettle g b q (31 + 10 * b + 5) / 2) := by
                show fSet1 (fSettle g b q) b q = _
                rw [fSet1]
                rw [if_pos (setD_iff.mpr ⟨c_23, c_40, c_55⟩)]
                simp only [whoN_of hwb hwb6, whoN_of hwq hwq6]
              have k9 := ih (q + 1) hlt (by omega) (some (.int 1)) (some (.int (fSettle g b q (31 + 10 * b + 5) / 2)))
              rw [e] at k9
              exact k9
  refine aw_iconst (v := 0) dX7_settle_0 (by decide) ?_
  refine aw_istore2 dX7_settle_1 (by decide) rfl ?_
  exact L2 (nb + 1) 0 (Nat.zero_le _) (by omega) none none
/-- what stays in a row: bookings' rooms, groups, first hours, hours and wanted temperatures; rooms but for their temperatures; the counts, the hour and what is outside -/
def kept0 (j : Nat) : Prop := j < 5 ∨ (9 ≤ j ∧ j < 25 ∧ (j - 9) % 4 ≠ 3) ∨ (31 ≤ j ∧ (j - 31) % 10 < 5)
theorem fCharge_off {g : Rw} {b w : Nat} {u : Int32} (hw : g (31 + 10 * b + 1) = nI w) (hw6 : w < 6) (j : Nat) (hj : kept0 j) : fCharge g b u j = g j := by
  unfold kept0 at hj
  have hwh : whoN g b = w := by rw [whoN, hw, nI_clamp (by omega)]
  simp only [fCharge, hwh]
  have e1 : ∀ x : Nat, (x = 5 ∨ x = 6) → j ≠ 31 + 10 * b + x := fun x hx => by omega
  rw [upd_n (e1 _ (by split <;> omega))]
  split
  · rw [upd_n (by omega)]
  · rw [upd_n (by omega), upd_n (by omega)]
theorem fRoom_off {g : Rw} {r nb : Nat} (hw : WHO g nb) (hr : r < 4) (j : Nat) (hj : kept0 j) : (fRoom g r nb).1 j = g j := by
  unfold kept0 at hj
  unfold fRoom
  split
  · show upd g (9 + 4 * r + 3) (fCool g r) j = g j
    rw [upd_n (by omega)]
  · rename_i b hb
    obtain ⟨w, hw6, hw9⟩ := hw b (fHeater_lt hb)
    simp only []
    rw [fCharge_off (w := w) (by rw [upd_n (by omega), upd_n (by omega), upd_n (by omega), upd_n (by omega)]; exact hw9) hw6 j hj, upd_n (by omega), upd_n (by omega), upd_n (by omega), upd_n (by omega)]
def b01 (b : Bool) : Int32 := if b = true then 1 else 0
def pos1 (u : Int32) : Int32 := if 0 < u then 1 else 0
/-- the rooms of an hour, one after the other; whether any of them is heated -/
def fRooms (g : Rw) (nb : Nat) : Nat → Rw × Bool
  | 0 => (g, false)
  | k + 1 =>
    let p := fRooms g nb k
    let q := fRoom p.1 k nb
    let g3 := upd q.1 8 (q.1 8 + pos1 q.2)
    (upd g3 5 (g3 5 + q.2), p.2 || decide (0 < q.2))
theorem fRooms_off {g : Rw} {nb : Nat} (hw : WHO g nb) : ∀ (k : Nat), k ≤ 4 → ∀ (j : Nat), kept0 j → (fRooms g nb k).1 j = g j
  | 0, _, _, _ => rfl
  | k + 1, hk, j, hj => by
    have ih := fRooms_off hw k (by omega)
    have hw2 : WHO (fRooms g nb k).1 nb := fun b hb => by
      obtain ⟨w, h1, h2⟩ := hw b hb
      exact ⟨w, h1, by rw [ih _ (by unfold kept0; omega)]; exact h2⟩
    have h9 : j ≠ 5 ∧ j ≠ 8 := by unfold kept0 at hj; omega
    show upd (upd _ 8 _) 5 _ j = g j
    rw [upd_n h9.1, upd_n h9.2, fRoom_off hw2 (by omega) j hj, ih j hj]
/-- behind an hour: marks are gone, and what is over is settled -/
def fEnds (g : Rw) (nb : Nat) : Nat → Rw
  | 0 => g
  | k + 1 =>
    let g1 := upd (fEnds g nb k) (31 + 10 * k + 7) 0
    if fEnd g1 k = g1 0 then fSettle g1 k nb else g1
theorem fEnds_off {g : Rw} {nb : Nat} (hw : WHO g nb) : ∀ (k : Nat), k ≤ nb → ∀ (j : Nat), kept0 j → fEnds g nb k j = g j
  | 0, _, _, _ => rfl
  | k + 1, hk, j, hj => by
    have ih := fEnds_off hw k (by omega)
    have h7 : j ≠ 31 + 10 * k + 7 := by unfold kept0 at hj; omega
    have hw2 : WHO (upd (fEnds g nb k) (31 + 10 * k + 7) 0) nb := fun b hb => by
      obtain ⟨w, h1, h2⟩ := hw b hb
      exact ⟨w, h1, by rw [upd_n (by omega), ih _ (by unfold kept0; omega)]; exact h2⟩
    have hj2 : j < 25 ∨ 31 ≤ j := by unfold kept0 at hj; omega
    have e : fEnds g nb (k + 1) = if fEnd (upd (fEnds g nb k) (31 + 10 * k + 7) 0) k = (upd (fEnds g nb k) (31 + 10 * k + 7) 0) 0 then fSettle (upd (fEnds g nb k) (31 + 10 * k + 7) 0) k nb else upd (fEnds g nb k) (31 + 10 * k + 7) 0 := rfl
    rw [e]
    split
    · rw [fSettle_off hw2 (by omega) nb (Nat.le_refl _) j hj2, upd_n h7, ih j hj]
    · rw [upd_n h7, ih j hj]
theorem fEnds_s (g : Rw) (nb k : Nat) : fEnds g nb (k + 1) = if fEnd (upd (fEnds g nb k) (31 + 10 * k + 7) 0) k = (upd (fEnds g nb k) (31 + 10 * k + 7) 0) 0 then fSettle (upd (fEnds g nb k) (31 + 10 * k + 7) 0) k nb else upd (fEnds g nb k) (31 + 10 * k + 7) 0 := rfl
def fMid (g : Rw) (nr nb : Nat) : Rw :=
  let p := fRooms g nb nr
  let g1 := upd p.1 5 (p.1 5 + b01 p.2)
  upd g1 0 (g1 0 + 1)
def fHour (g : Rw) (nr nb : Nat) : Rw := fEnds (fMid g nr nb) nb nb
def fHours (g : Rw) (nr nb : Nat) : Nat → Rw
  | 0 => g
  | k + 1 => fHour (fHours g nr nb k) nr nb
theorem kept0_who {b : Nat} : kept0 (31 + 10 * b + 1) := by unfold kept0; omega
theorem WHO.keep {g g2 : Rw} {nb : Nat} (h : WHO g nb) (e : ∀ j, kept0 j → g2 j = g j) : WHO g2 nb := fun b hb => by
  obtain ⟨w, h1, h2⟩ := h b hb
  exact ⟨w, h1, by rw [e _ kept0_who]; exact h2⟩
theorem kept0_3 : kept0 3 := Or.inl (by decide)
theorem kept0_1 : kept0 1 := Or.inl (by decide)
theorem fMid_off {g : Rw} {nr nb : Nat} (hw : WHO g nb) (hnr : nr ≤ 4) (j : Nat) (hj : kept0 j) (h0 : j ≠ 0) : fMid g nr nb j = g j := by
  have h5 : j ≠ 5 := by unfold kept0 at hj; omega
  show upd (upd _ 5 _) 0 _ j = _
  rw [upd_n h0, upd_n h5, fRooms_off hw nr hnr j hj]
theorem b01_1 {x y : Bool} (h : ¬ b01 x = 0) : (1 : Int32) = b01 (x || y) := by cases x <;> cases y <;> simp_all [b01]
theorem b01_2 {x : Bool} {u : Int32} (h : 0 < u) : (1 : Int32) = b01 (x || decide (0 < u)) := by simp [b01, h]
theorem b01_3 {x : Bool} {u : Int32} (hx : b01 x = 0) (h : ¬ 0 < u) : (0 : Int32) = b01 (x || decide (0 < u)) := by cases x <;> simp_all [b01]
theorem b01_c {x : Bool} (h : b01 x = 0) : (0 : Int32) = b01 x := h.symm
theorem b01_d {x : Bool} (h : ¬ b01 x = 0) : (1 : Int32) = b01 x := by cases x <;> simp_all [b01]
set_option maxHeartbeats 4000000 in
theorem k_goHour (σ : Sg) (row : Nat) (g : Rw) (nr nb : Nat) (hT : cT row = .inr (0, 151)) (hn : row < NN) (hnb : g 3 = nI nb) (hb : nb ≤ 12) (hnr : g 1 = nI nr) (hnr4 : nr ≤ 4) (hwho : WHO g nb) : Ct yX7_goHour cX7_goHour mX7_goHour 7 0 0 NN false (sA σ row g) [.ref row] NN (eV1 (sA σ row (fHour g nr nb))) XF := by
  refine ct_of (ls0 := [some (.ref row), none, none, none]) 3 (by decide +kernel) rfl rfl (ndR nd0) rfl (Nat.le_of_ble_eq_true rfl) (fun K => ?_)
  have hwho2 : WHO (fMid g nr nb) nb := fun b hb => by
    obtain ⟨w, h1, h2⟩ := hwho b hb
    exact ⟨w, h1, by rw [fMid_off hwho hnr4 _ kept0_who (by omega)]; exact h2⟩
  have L84 : ∀ (k : Nat) (b : Nat) (h1 : b ≤ nb) (h2 : nb - b < k) (v1 : Int32) (x3 : Option Value), AW K RX7 cX7_goHour mX7_goHour 7 0 0 (Qm K NN (eV1 (sA σ row (fHour g nr nb))) XF 0 0) NN none (sA σ row (fEnds (fMid g nr nb) nb b)) 0 0 84 [some (.ref row), some (.int v1), some (.int (nI b)), x3] [] := by
    intro k
    induction k with
    | zero => intro b h1 h2 v1 x3; exact absurd h2 (Nat.not_lt_zero _)
    | succ k ih =>
      intro b h1 h2 v1 x3
      refine aw_iload2 dX7_goHour_84 ?_
      refine aw_aload0 dX7_goHour_85 ?_
      refine aw_iconst (v := 3) dX7_goHour_86 (by decide) ?_
      refine aw_iald (j := 3) dX7_goHour_87 hT hn rfl (by decide) (sA_at.trans ((fEnds_off hwho2 b (by omega) _ kept0_3).trans ((fMid_off hwho hnr4 _ kept0_3 (by decide)).trans hnb))) ?_
      refine aw_ic_ge (tgt := 122) dX7_goHour_88 (by decide) (fun c_88 => ?_) (fun c_88 => ?_)
      · have hbb : b = nb := by
          have := (nI_leI (by omega) (by omega)).mp c_88
          omega
        subst hbb
        exact aw_vret dX7_goHour_122 rfl (by decide) eV_of
      · have hlt : b < nb := by
          rcases Nat.lt_or_ge b nb with z | z
          · exact z
          · exact absurd (nI_le z (by omega)) c_88
        have hoff := fEnds_off hwho2 b (by omega)
        refine aw_aload0 dX7_goHour_91 ?_
        refine aw_iload2 dX7_goHour_92 ?_
        refine aw_bipush (v := 7) dX7_goHour_93 (by decide) ?_
        refine aw_SI2 (k_bookAt _ _ 7) dX7_goHour_95 sl_7_49 (by decide) (Nat.le_of_ble_eq_true rfl) (fun σ_95 r_95 h_95 => ?_)
        obtain ⟨rfl, rfl⟩ := h_95
        refine aw_iconst (v := 0) dX7_goHour_98 (by decide) ?_
        refine aw_iast dX7_goHour_99 hT hn rfl (by omega) ?_
        refine AW.eqs sI_sA ?_
        refine aw_aload0 dX7_goHour_100 ?_
        refine aw_iload2 dX7_goHour_101 ?_
        refine aw_SI2 (k_endOf _ _ _ _ hT hn (by omega)) dX7_goHour_102 sl_7_53 (by decide) (Nat.le_of_ble_eq_true rfl) (fun σ_102 r_102 h_102 => ?_)
        obtain ⟨rfl, rfl⟩ := h_102
        refine aw_aload0 dX7_goHour_105 ?_
        refine aw_iconst (v := 0) dX7_goHour_106 (by decide) ?_
        refine aw_iald (j := 0) dX7_goHour_107 hT hn rfl (by decide) sA_at ?_
        refine aw_ic_ne (tgt := 116) dX7_goHour_108 (by decide) (fun c_108 => ?_) (fun c_108 => ?_)
        · refine aw_iinc2 (w := nI (b + 1)) dX7_goHour_116 (nI_1 b) (by decide) rfl ?_
          refine aw_goto (tgt := 84) dX7_goHour_119 (by decide) ?_
          have k9 := ih (b + 1) hlt (by omega) v1 x3
          rw [fEnds_s] at k9
          first
            | (rw [if_pos c_108] at k9; exact k9)
            | (rw [if_neg c_108] at k9; exact k9)
        · refine aw_aload0 dX7_goHour_111 ?_
          refine aw_iload2 dX7_goHour_112 ?_
          refine aw_SV2 (k_settle _ _ _ _ _ hT hn ((upd_n (by omega)).trans ((hoff _ kept0_3).trans ((fMid_off hwho hnr4 _ kept0_3 (by decide)).trans hnb))) hb (WHO.upd (hwho2.keep hoff) (fun _ _ => by omega)) hlt) dX7_goHour_113 sl_7_87 (by decide) (Nat.le_of_ble_eq_true rfl) (fun σ_113 h_113 => ?_)
          obtain rfl := h_113
          refine aw_iinc2 (w := nI (b + 1)) dX7_goHour_116 (nI_1 b) (by decide) rfl ?_
          refine aw_goto (tgt := 84) dX7_goHour_119 (by decide) ?_
          have k9 := ih (b + 1) hlt (by omega) v1 x3
          rw [fEnds_s] at k9
          first
            | (rw [if_pos c_108] at k9; exact k9)
            | (rw [if_neg c_108] at k9; exact k9)
  have L4 : ∀ (k : Nat) (r : Nat) (h1 : r ≤ nr) (h2 : nr - r < k) (x3 : Option Value), AW K RX7 cX7_goHour mX7_goHour 7 0 0 (Qm K NN (eV1 (sA σ row (fHour g nr nb))) XF 0 0) NN none (sA σ row (fRooms g nb r).1) 0 0 4 [some (.ref row), some (.int (b01 (fRooms g nb r).2)), some (.int (nI r)), x3] [] := by
    intro k
    induction k with
    | zero => intro r h1 h2 x3; exact absurd h2 (Nat.not_lt_zero _)
    | succ k ih =>
      intro r h1 h2 x3
      refine aw_iload2 dX7_goHour_4 ?_
      refine aw_aload0 dX7_goHour_5 ?_
      refine aw_iconst (v := 1) dX7_goHour_6 (by decide) ?_
      refine aw_iald (j := 1) dX7_goHour_7 hT hn rfl (by decide) (sA_at.trans ((fRooms_off hwho r (by omega) _ kept0_1).trans hnr)) ?_
      refine aw_ic_ge (tgt := 60) dX7_goHour_8 (by decide) (fun c_8 => ?_) (fun c_8 => ?_)
      · have hbb : r = nr := by
          have := (nI_leI (by omega) (by omega)).mp c_8
          omega
        subst hbb
        refine aw_aload0 dX7_goHour_60 ?_
        refine aw_iconst (v := 5) dX7_goHour_61 (by decide) ?_
        refine aw_dup2 dX7_goHour_62 rfl rfl ?_
        refine aw_iald (j := 5) dX7_goHour_63 hT hn rfl (by decide) sA_at ?_
        refine AW.tern0 (E := (b01 (fRooms g nb r).2)) (pc2 := 73) (fun x_73 hx_73 => ?_) (fun J_73 => ?_)
        · subst hx_73
          refine aw_iadd dX7_goHour_73 ?_
          refine aw_iast (j := 5) dX7_goHour_74 hT hn rfl (by decide) ?_
          refine AW.eqs sI_sA ?_
          refine aw_aload0 dX7_goHour_75 ?_
          refine aw_iconst (v := 0) dX7_goHour_76 (by decide) ?_
          refine aw_dup2 dX7_goHour_77 rfl rfl ?_
          refine aw_iald (j := 0) dX7_goHour_78 hT hn rfl (by decide) sA_at ?_
          refine aw_iconst (v := 1) dX7_goHour_79 (by decide) ?_
          refine aw_iadd dX7_goHour_80 ?_
          refine aw_iast (j := 0) dX7_goHour_81 hT hn rfl (by decide) ?_
          refine AW.eqs sI_sA ?_
          refine aw_iconst (v := 0) dX7_goHour_82 (by decide) ?_
          refine aw_istore2 dX7_goHour_83 (by decide) rfl ?_
          exact L84 (nb + 1) 0 (Nat.zero_le _) (by omega) _ _
        · refine aw_iload1 dX7_goHour_64 ?_
          refine aw_if_eq (tgt := 72) dX7_goHour_65 (by decide) (fun c_65 => ?_) (fun c_65 => ?_)
          · refine aw_iconst (v := 0) dX7_goHour_72 (by decide) ?_
            exact J_73 _ (by first | exact b01_c c_65 | exact b01_d c_65)
          · refine aw_iconst (v := 1) dX7_goHour_68 (by decide) ?_
            refine aw_goto (tgt := 73) dX7_goHour_69 (by decide) ?_
            exact J_73 _ (by first | exact b01_c c_65 | exact b01_d c_65)
      · have hlt : r < nr := by
          rcases Nat.lt_or_ge r nr with z | z
          · exact z
          · exact absurd (nI_le z (by omega)) c_8
        have hoff := fRooms_off hwho r (by omega)
        refine aw_aload0 dX7_goHour_11 ?_
        refine aw_iload2 dX7_goHour_12 ?_
        refine aw_SI2 (k_goRoom _ _ _ _ _ hT hn ((hoff _ kept0_3).trans hnb) hb (by omega) (hwho.keep hoff)) dX7_goHour_13 sl_7_84 (by decide) (Nat.le_of_ble_eq_true rfl) (fun σ_13 r_13 h_13 => ?_)
        obtain ⟨rfl, rfl⟩ := h_13
        refine aw_istore3 dX7_goHour_16 (by decide) rfl ?_
        refine AW.tern0 (E := (b01 ((fRooms g nb r).2 || decide (0 < (fRoom (fRooms g nb r).1 r nb).2)))) (pc2 := 30) (fun x_30 hx_30 => ?_) (fun J_30 => ?_)
        · subst hx_30
          refine aw_istore1 dX7_goHour_30 (by decide) rfl ?_
          refine aw_aload0 dX7_goHour_31 ?_
          refine aw_bipush (v := 8) dX7_goHour_32 (by decide) ?_
          refine aw_dup2 dX7_goHour_34 rfl rfl ?_
          refine aw_iald (j := 8) dX7_goHour_35 hT hn rfl (by decide) sA_at ?_
          refine AW.tern0 (E := (pos1 (fRoom (fRooms g nb r).1 r nb).2)) (pc2 := 45) (fun x_45 hx_45 => ?_) (fun J_45 => ?_)
          · subst hx_45
            refine aw_iadd dX7_goHour_45 ?_
            refine aw_iast (j := 8) dX7_goHour_46 hT hn rfl (by decide) ?_
            refine AW.eqs sI_sA ?_
            refine aw_aload0 dX7_goHour_47 ?_
            refine aw_iconst (v := 5) dX7_goHour_48 (by decide) ?_
            refine aw_dup2 dX7_goHour_49 rfl rfl ?_
            refine aw_iald (j := 5) dX7_goHour_50 hT hn rfl (by decide) sA_at ?_
            refine aw_iload3 dX7_goHour_51 ?_
            refine aw_iadd dX7_goHour_52 ?_
            refine aw_iast (j := 5) dX7_goHour_53 hT hn rfl (by decide) ?_
            refine AW.eqs sI_sA ?_
            refine aw_iinc2 (w := nI (r + 1)) dX7_goHour_54 (nI_1 r) (by decide) rfl ?_
            refine aw_goto (tgt := 4) dX7_goHour_57 (by decide) ?_
            exact ih (r + 1) hlt (by omega) (some (.int _))
          · refine aw_iload3 dX7_goHour_36 ?_
            refine aw_if_le (tgt := 44) dX7_goHour_37 (by decide) (fun c_37 => ?_) (fun c_37 => ?_)
            · refine aw_iconst (v := 0) dX7_goHour_44 (by decide) ?_
              exact J_45 _ (by first | exact (if_neg (Int32.not_lt.mpr c_37)).symm | exact (if_pos (Int32.not_le.mp c_37)).symm)
            · refine aw_iconst (v := 1) dX7_goHour_40 (by decide) ?_
              refine aw_goto (tgt := 45) dX7_goHour_41 (by decide) ?_
              exact J_45 _ (by first | exact (if_neg (Int32.not_lt.mpr c_37)).symm | exact (if_pos (Int32.not_le.mp c_37)).symm)
        · refine aw_iload1 dX7_goHour_17 ?_
          refine aw_if_ne (tgt := 25) dX7_goHour_18 (by decide) (fun c_18 => ?_) (fun c_18 => ?_)
          · refine aw_iconst (v := 1) dX7_goHour_25 (by decide) ?_
            refine aw_goto (tgt := 30) dX7_goHour_26 (by decide) ?_
            exact J_30 _ (by first | exact b01_1 c_18 | exact b01_2 (Int32.not_le.mp c_22) | exact b01_3 c_18 (Int32.not_lt.mpr c_22))
          · refine aw_iload3 dX7_goHour_21 ?_
            refine aw_if_le (tgt := 29) dX7_goHour_22 (by decide) (fun c_22 => ?_) (fun c_22 => ?_)
            · refine aw_iconst (v := 0) dX7_goHour_29 (by decide) ?_
              exact J_30 _ (by first | exact b01_1 c_18 | exact b01_2 (Int32.not_le.mp c_22) | exact b01_3 c_18 (Int32.not_lt.mpr c_22))
            · refine aw_iconst (v := 1) dX7_goHour_25 (by decide) ?_
              refine aw_goto (tgt := 30) dX7_goHour_26 (by decide) ?_
              exact J_30 _ (by first | exact b01_1 c_18 | exact b01_2 (Int32.not_le.mp c_22) | exact b01_3 c_18 (Int32.not_lt.mpr c_22))
  refine aw_iconst (v := 0) dX7_goHour_0 (by decide) ?_
  refine aw_istore1 dX7_goHour_1 (by decide) rfl ?_
  refine aw_iconst (v := 0) dX7_goHour_2 (by decide) ?_
  refine aw_istore2 dX7_goHour_3 (by decide) rfl ?_
  exact L4 (nr + 1) 0 (Nat.zero_le _) (by omega) none
