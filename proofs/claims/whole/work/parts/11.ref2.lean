/-! the reference: what writes a row -/
set_option maxHeartbeats 4000000 in
theorem k_canBook (σ : Sg) (row : Nat) (g : Rw) (r first hours : Int32) (nb : Nat) (hT : cT row = .inr (0, 151)) (hn : row < NN) (hnb : g 3 = nI nb) (hb : nb ≤ 12) : Ct yX7_canBook cX7_canBook mX7_canBook 5 0 0 NN false (sA σ row g) [.ref row, .int r, .int first, .int hours] NN (eZ1 (sA σ row g) (nb < 12 ∧ fFree g r first hours nb)) XF := by
  refine ct_of (ls0 := [some (.ref row), some (.int r), some (.int first), some (.int hours)]) 0 (by decide +kernel) rfl rfl (ndR (ndI (ndI (ndI nd0)))) rfl (Nat.le_of_ble_eq_true rfl) (fun K => ?_)
  refine aw_aload0 dX7_canBook_0 ?_
  refine aw_iconst (v := 3) dX7_canBook_1 (by decide) ?_
  refine aw_iald (j := 3) dX7_canBook_2 hT hn rfl (by decide) (sA_at.trans hnb) ?_
  refine aw_bipush (v := 12) dX7_canBook_3 (by decide) ?_
  refine aw_ic_ge (tgt := 22) dX7_canBook_5 (by decide) (fun c_5 => ?_) (fun c_5 => ?_)
  · refine aw_iconst (v := 0) dX7_canBook_22 (by decide) ?_
    exact aw_zret dX7_canBook_23 rfl (by decide) (by decide) (eZ_0 (fun h => by
      first
        | exact p_12 h.2
        | exact nI_ge h.1 (by omega) c_5))
  · refine aw_aload0 dX7_canBook_8 ?_
    refine aw_iload1 dX7_canBook_9 ?_
    refine aw_iload2 dX7_canBook_10 ?_
    refine aw_iload3 dX7_canBook_11 ?_
    refine aw_SI4 (k_isFree _ _ _ _ _ _ _ hT hn hnb hb) dX7_canBook_12 sl_7_97 (by decide) (Nat.le_of_ble_eq_true rfl) (fun σ_12 r_12 h_12 => ?_)
    obtain ⟨rfl, h_12⟩ := h_12
    rcases h_12 with ⟨rfl, p_12⟩ | ⟨rfl, p_12⟩
    · refine aw_if_eq (tgt := 22) dX7_canBook_15 (by decide) (fun c_15 => absurd c_15 (by decide)) (fun _ => ?_)
      refine aw_iconst (v := 1) dX7_canBook_18 (by decide) ?_
      refine aw_goto (tgt := 23) dX7_canBook_19 (by decide) ?_
      exact aw_zret dX7_canBook_23 rfl (by decide) (by decide) (eZ_1 ⟨by
        rcases Nat.lt_or_ge nb 12 with q | q
        · exact q
        · exact absurd (nI_le q (by omega)) c_5, p_12⟩)
    · refine aw_if_eq (tgt := 22) dX7_canBook_15 (by decide) (fun _ => ?_) (fun c_15 => absurd c_15 (by decide))
      refine aw_iconst (v := 0) dX7_canBook_22 (by decide) ?_
      exact aw_zret dX7_canBook_23 rfl (by decide) (by decide) (eZ_0 (fun h => by
        first
          | exact p_12 h.2
          | exact nI_ge h.1 (by omega) c_5))
set_option maxHeartbeats 4000000 in
theorem k_charge (σ : Sg) (row : Nat) (g : Rw) (b w : Nat) (u : Int32) (hT : cT row = .inr (0, 151)) (hn : row < NN) (hb : b < 12) (hw : g (31 + 10 * b + 1) = nI w) (hw6 : w < 6) : Ct yX7_charge cX7_charge mX7_charge 2 0 0 NN false (sA σ row g) [.ref row, .int (nI b), .int u] NN (eV1 (sA σ row (fCharge g b u))) XF := by
  refine ct_of (ls0 := [some (.ref row), some (.int (nI b)), some (.int u), none]) 1 (by decide +kernel) rfl rfl (ndR (ndI (ndI nd0))) rfl (Nat.le_of_ble_eq_true rfl) (fun K => ?_)
  refine aw_aload0 dX7_charge_0 ?_
  refine aw_iload1 dX7_charge_1 ?_
  refine aw_iconst (v := 2) dX7_charge_2 (by decide) ?_
  refine aw_SI2 (k_bookAt _ _ 2) dX7_charge_3 sl_7_49 (by decide) (Nat.le_of_ble_eq_true rfl) (fun σ_3 r_3 h_3 => ?_)
  obtain ⟨rfl, rfl⟩ := h_3
  refine aw_iald dX7_charge_6 hT hn rfl (by omega) sA_at ?_
  refine aw_aload0 dX7_charge_7 ?_
  refine aw_iconst (v := 0) dX7_charge_8 (by decide) ?_
  refine aw_iald (j := 0) dX7_charge_9 hT hn rfl (by decide) sA_at ?_
  refine aw_ic_gt (tgt := 17) dX7_charge_10 (by decide) (fun c_10 => ?_) (fun c_10 => ?_)
  · have ho : ¬ g (31 + 10 * b + 2) ≤ g 0 := Int32.not_le.mpr c_10
    refine aw_iconst (v := 0) dX7_charge_17 (by decide) ?_
    refine aw_istore3 dX7_charge_18 (by decide) rfl ?_
    refine aw_iload3 dX7_charge_19 ?_
    refine aw_if_eq (tgt := 46) dX7_charge_20 (by decide) (fun _ => ?_) (fun c_20 => absurd c_20 (by decide))
    have hm : ¬ (g (31 + 10 * b + 2) ≤ g 0 ∧ g (31 + 10 * b + 7) = 1) := fun h => by first | exact ho h.1 | exact c_32 h.2
    refine aw_aload0 dX7_charge_46 ?_
    refine aw_bipush (v := 6) dX7_charge_47 (by decide) ?_
    refine aw_dup2 dX7_charge_49 rfl rfl ?_
    refine aw_iald (j := 6) dX7_charge_50 hT hn rfl (by decide) sA_at ?_
    refine aw_iload2 dX7_charge_51 ?_
    refine aw_iadd dX7_charge_52 ?_
    refine aw_iast (j := 6) dX7_charge_53 hT hn rfl (by decide) ?_
    refine AW.eqs sI_sA ?_
    refine aw_aload0 dX7_charge_54 ?_
    refine aw_bipush (v := 25) dX7_charge_55 (by decide) ?_
    refine aw_aload0 dX7_charge_57 ?_
    refine aw_iload1 dX7_charge_58 ?_
    refine aw_iconst (v := 1) dX7_charge_59 (by decide) ?_
    refine aw_SI2 (k_bookAt _ _ 1) dX7_charge_60 sl_7_49 (by decide) (Nat.le_of_ble_eq_true rfl) (fun σ_60 r_60 h_60 => ?_)
    obtain ⟨rfl, rfl⟩ := h_60
    refine aw_iald dX7_charge_63 hT hn rfl (by omega) sA_at ?_
    refine aw_iadd dX7_charge_64 ?_
    refine aw_dup2 dX7_charge_65 rfl rfl ?_
    refine aw_iald (j := 25 + w) dX7_charge_66 hT hn (by rw [upd_n (by omega), hw]; exact nI_add 25 w) (by omega) sA_at ?_
    refine aw_iload2 dX7_charge_67 ?_
    refine aw_iadd dX7_charge_68 ?_
    refine aw_iast (j := 25 + w) dX7_charge_69 hT hn (by rw [upd_n (by omega), hw]; exact nI_add 25 w) (by omega) ?_
    refine AW.eqs sI_sA ?_
    refine aw_aload0 dX7_charge_70 ?_
    refine aw_iload1 dX7_charge_71 ?_
    refine aw_iload3 dX7_charge_72 ?_
    refine aw_if_eq (tgt := 81) dX7_charge_73 (by decide) (fun _ => ?_) (fun c_73 => absurd c_73 (by decide))
    refine aw_iconst (v := 5) dX7_charge_81 (by decide) ?_
    refine aw_SI2 (k_bookAt _ _ 5) dX7_charge_82 sl_7_49 (by decide) (Nat.le_of_ble_eq_true rfl) (fun σ_82 r_82 h_82 => ?_)
    obtain ⟨rfl, rfl⟩ := h_82
    refine aw_dup2 dX7_charge_85 rfl rfl ?_
    refine aw_iald dX7_charge_86 hT hn rfl (by omega) sA_at ?_
    refine aw_iload2 dX7_charge_87 ?_
    refine aw_iadd dX7_charge_88 ?_
    refine aw_iast dX7_charge_89 hT hn rfl (by omega) ?_
    refine AW.eqs sI_sA ?_
    exact aw_vret dX7_charge_90 rfl (by decide) (eV_to (congrArg (sA σ row) (by
      have hwh : whoN g b = w := by rw [whoN, hw, nI_clamp (by omega)]
      simp only [fCharge, hwh]
      first
        | rw [if_pos hm, if_pos ho]
        | rw [if_neg hm, if_pos ho]
        | rw [if_neg hm, if_neg ho])))
  · have ho : g (31 + 10 * b + 2) ≤ g 0 := Int32.not_lt.mp c_10
    refine aw_iconst (v := 1) dX7_charge_13 (by decide) ?_
    refine aw_goto (tgt := 18) dX7_charge_14 (by decide) ?_
    refine aw_istore3 dX7_charge_18 (by decide) rfl ?_
    refine aw_iload3 dX7_charge_19 ?_
    refine aw_if_eq (tgt := 46) dX7_charge_20 (by decide) (fun c_20 => absurd c_20 (by decide)) (fun _ => ?_)
    refine aw_aload0 dX7_charge_23 ?_
    refine aw_iload1 dX7_charge_24 ?_
    refine aw_bipush (v := 7) dX7_charge_25 (by decide) ?_
    refine aw_SI2 (k_bookAt _ _ 7) dX7_charge_27 sl_7_49 (by decide) (Nat.le_of_ble_eq_true rfl) (fun σ_27 r_27 h_27 => ?_)
    obtain ⟨rfl, rfl⟩ := h_27
    refine aw_iald dX7_charge_30 hT hn rfl (by omega) sA_at ?_
    refine aw_iconst (v := 1) dX7_charge_31 (by decide) ?_
    refine aw_ic_ne (tgt := 46) dX7_charge_32 (by decide) (fun c_32 => ?_) (fun c_32 => ?_)
    · have hm : ¬ (g (31 + 10 * b + 2) ≤ g 0 ∧ g (31 + 10 * b + 7) = 1) := fun h => by first | exact ho h.1 | exact c_32 h.2
      refine aw_aload0 dX7_charge_46 ?_
      refine aw_bipush (v := 6) dX7_charge_47 (by decide) ?_
      refine aw_dup2 dX7_charge_49 rfl rfl ?_
      refine aw_iald (j := 6) dX7_charge_50 hT hn rfl (by decide) sA_at ?_
      refine aw_iload2 dX7_charge_51 ?_
      refine aw_iadd dX7_charge_52 ?_
      refine aw_iast (j := 6) dX7_charge_53 hT hn rfl (by decide) ?_
      refine AW.eqs sI_sA ?_
      refine aw_aload0 dX7_charge_54 ?_
      refine aw_bipush (v := 25) dX7_charge_55 (by decide) ?_
      refine aw_aload0 dX7_charge_57 ?_
      refine aw_iload1 dX7_charge_58 ?_
      refine aw_iconst (v := 1) dX7_charge_59 (by decide) ?_
      refine aw_SI2 (k_bookAt _ _ 1) dX7_charge_60 sl_7_49 (by decide) (Nat.le_of_ble_eq_true rfl) (fun σ_60 r_60 h_60 => ?_)
      obtain ⟨rfl, rfl⟩ := h_60
      refine aw_iald dX7_charge_63 hT hn rfl (by omega) sA_at ?_
      refine aw_iadd dX7_charge_64 ?_
      refine aw_dup2 dX7_charge_65 rfl rfl ?_
      refine aw_iald (j := 25 + w) dX7_charge_66 hT hn (by rw [upd_n (by omega), hw]; exact nI_add 25 w) (by omega) sA_at ?_
      refine aw_iload2 dX7_charge_67 ?_
      refine aw_iadd dX7_charge_68 ?_
      refine aw_iast (j := 25 + w) dX7_charge_69 hT hn (by rw [upd_n (by omega), hw]; exact nI_add 25 w) (by omega) ?_
      refine AW.eqs sI_sA ?_
      refine aw_aload0 dX7_charge_70 ?_
      refine aw_iload1 dX7_charge_71 ?_
      refine aw_iload3 dX7_charge_72 ?_
      refine aw_if_eq (tgt := 81) dX7_charge_73 (by decide) (fun c_73 => absurd c_73 (by decide)) (fun _ => ?_)
      refine aw_bipush (v := 6) dX7_charge_76 (by decide) ?_
      refine aw_goto (tgt := 82) dX7_charge_78 (by decide) ?_
      refine aw_SI2 (k_bookAt _ _ 6) dX7_charge_82 sl_7_49 (by decide) (Nat.le_of_ble_eq_true rfl) (fun σ_82 r_82 h_82 => ?_)
      obtain ⟨rfl, rfl⟩ := h_82
      refine aw_dup2 dX7_charge_85 rfl rfl ?_
      refine aw_iald dX7_charge_86 hT hn rfl (by omega) sA_at ?_
      refine aw_iload2 dX7_charge_87 ?_
      refine aw_iadd dX7_charge_88 ?_
      refine aw_iast dX7_charge_89 hT hn rfl (by omega) ?_
      refine AW.eqs sI_sA ?_
      exact aw_vret dX7_charge_90 rfl (by decide) (eV_to (congrArg (sA σ row) (by
        have hwh : whoN g b = w := by rw [whoN, hw, nI_clamp (by omega)]
        simp only [fCharge, hwh]
        first
          | rw [if_pos hm, if_pos ho]
          | rw [if_neg hm, if_pos ho]
          | rw [if_neg hm, if_neg ho])))
    · have hm : g (31 + 10 * b + 2) ≤ g 0 ∧ g (31 + 10 * b + 7) = 1 := ⟨ho, c_32⟩
      refine aw_aload0 dX7_charge_35 ?_
      refine aw_bipush (v := 7) dX7_charge_36 (by decide) ?_
      refine aw_dup2 dX7_charge_38 rfl rfl ?_
      refine aw_iald (j := 7) dX7_charge_39 hT hn rfl (by decide) sA_at ?_
      refine aw_iload2 dX7_charge_40 ?_
      refine aw_iadd dX7_charge_41 ?_
      refine aw_iast (j := 7) dX7_charge_42 hT hn rfl (by decide) ?_
      refine AW.eqs sI_sA ?_
      refine aw_goto (tgt := 70) dX7_charge_43 (by decide) ?_
      refine aw_aload0 dX7_charge_70 ?_
      refine aw_iload1 dX7_charge_71 ?_
      refine aw_iload3 dX7_charge_72 ?_
      refine aw_if_eq (tgt := 81) dX7_charge_73 (by decide) (fun c_73 => absurd c_73 (by decide)) (fun _ => ?_)
      refine aw_bipush (v := 6) dX7_charge_76 (by decide) ?_
      refine aw_goto (tgt := 82) dX7_charge_78 (by decide) ?_
      refine aw_SI2 (k_bookAt _ _ 6) dX7_charge_82 sl_7_49 (by decide) (Nat.le_of_ble_eq_true rfl) (fun σ_82 r_82 h_82 => ?_)
      obtain ⟨rfl, rfl⟩ := h_82
      refine aw_dup2 dX7_charge_85 rfl rfl ?_
      refine aw_iald dX7_charge_86 hT hn rfl (by omega) sA_at ?_
      refine aw_iload2 dX7_charge_87 ?_
      refine aw_iadd dX7_charge_88 ?_
      refine aw_iast dX7_charge_89 hT hn rfl (by omega) ?_
      refine AW.eqs sI_sA ?_
      exact aw_vret dX7_charge_90 rfl (by decide) (eV_to (congrArg (sA σ row) (by
        have hwh : whoN g b = w := by rw [whoN, hw, nI_clamp (by omega)]
        simp only [fCharge, hwh]
        first
          | rw [if_pos hm, if_pos ho]
          | rw [if_neg hm, if_pos ho]
          | rw [if_neg hm, if_neg ho])))
theorem byOf_n {m p : Int32} (h : m < 0) : byOf m p = 0 := if_pos h
theorem byOf_p {m p : Int32} (h : ¬ m < 0) (h2 : p < m) : byOf m p = p := by rw [byOf, if_neg h, if_pos h2]
theorem byOf_m {m p : Int32} (h : ¬ m < 0) (h2 : ¬ p < m) : byOf m p = m := by rw [byOf, if_neg h, if_neg h2]
/-- whom a booking belongs to: a group that there can be -/
def WHO (g : Rw) (nb : Nat) : Prop := ∀ b, b < nb → ∃ w, w < 6 ∧ g (31 + 10 * b + 1) = nI w
theorem WHO.upd {g : Rw} {nb j : Nat} {v : Int32} (h : WHO g nb) (hj : ∀ b, b < nb → 31 + 10 * b + 1 ≠ j) : WHO (upd g j v) nb := fun b hb => by
  obtain ⟨w, h1, h2⟩ := h b hb
  exact ⟨w, h1, by rw [upd_n (hj b hb)]; exact h2⟩
set_option maxHeartbeats 4000000 in
theorem k_goRoom (σ : Sg) (row : Nat) (g : Rw) (r nb : Nat) (hT : cT row = .inr (0, 151)) (hn : row < NN) (hnb : g 3 = nI nb) (hb : nb ≤ 12) (hr : r < 4) (hwho : WHO g nb) : Ct yX7_goRoom cX7_goRoom mX7_goRoom 6 0 0 NN false (sA σ row g) [.ref row, .int (nI r)] NN (rI fun σ2 v => sA σ row (fRoom g r nb).1 = σ2 ∧ (fRoom g r nb).2 = v) XF := by
  refine ct_of (ls0 := [some (.ref row), some (.int (nI r)), none, none, none, none, none, none]) 6 (by decide +kernel) rfl rfl (ndR (ndI nd0)) rfl (Nat.le_of_ble_eq_true rfl) (fun K => ?_)
  refine aw_aload0 dX7_goRoom_0 ?_
  refine aw_iload1 dX7_goRoom_1 ?_
  refine aw_SI2 (k_heaterOf _ _ _ _ _ hT hn hnb hb hr) dX7_goRoom_2 sl_7_77 (by decide) (Nat.le_of_ble_eq_true rfl) (fun σ_2 r_2 h_2 => ?_)
  obtain ⟨rfl, rfl⟩ := h_2
  refine aw_istore2 dX7_goRoom_5 (by decide) rfl ?_
  refine aw_aload0 dX7_goRoom_6 ?_
  refine aw_iload1 dX7_goRoom_7 ?_
  refine aw_iconst (v := 3) dX7_goRoom_8 (by decide) ?_
  refine aw_SI2 (k_roomAt _ _ 3) dX7_goRoom_9 sl_7_61 (by decide) (Nat.le_of_ble_eq_true rfl) (fun σ_9 r_9 h_9 => ?_)
  obtain ⟨rfl, rfl⟩ := h_9
  refine aw_iald dX7_goRoom_12 hT hn rfl (by omega) sA_at ?_
  refine aw_istore3 dX7_goRoom_13 (by decide) rfl ?_
  refine aw_aload0 dX7_goRoom_14 ?_
  refine aw_iload1 dX7_goRoom_15 ?_
  refine aw_iconst (v := 3) dX7_goRoom_16 (by decide) ?_
  refine aw_SI2 (k_roomAt _ _ 3) dX7_goRoom_17 sl_7_61 (by decide) (Nat.le_of_ble_eq_true rfl) (fun σ_17 r_17 h_17 => ?_)
  obtain ⟨rfl, rfl⟩ := h_17
  refine aw_aload0 dX7_goRoom_20 ?_
  refine aw_iload1 dX7_goRoom_21 ?_
  refine aw_SI2 (k_cooled _ _ _ _ hT hn hr) dX7_goRoom_22 sl_7_64 (by decide) (Nat.le_of_ble_eq_true rfl) (fun σ_22 r_22 h_22 => ?_)
  obtain ⟨rfl, rfl⟩ := h_22
  refine aw_iast dX7_goRoom_25 hT hn rfl (by omega) ?_
  refine AW.eqs sI_sA ?_
  refine aw_iload2 dX7_goRoom_26 ?_
  refine aw_bipush (v := (-99)) dX7_goRoom_27 (by decide) ?_
  refine aw_ic_ne (tgt := 34) dX7_goRoom_29 (by decide) (fun c_29 => ?_) (fun c_29 => ?_)
  · obtain ⟨b, hf⟩ := oI_s c_29
    have hbn : b < nb := fHeater_lt hf
    rw [hf]
    rw [show oI (some b) = nI b from rfl]
    obtain ⟨w, hw6, hw⟩ := hwho b hbn
    refine AW.tern0 (E := (if (upd g (9 + 4 * r + 3) (fCool g r)) (31 + 10 * b + 2) ≤ (upd g (9 + 4 * r + 3) (fCool g r)) 0 then (1 : Int32) else 0)) (pc2 := 52) (fun x_52 hx_52 => ?_) (fun J_52 => ?_)
    · refine aw_istore4 dX7_goRoom_52 (by decide) rfl ?_
      have ho1 : x_52 = 0 → ¬ (upd g (9 + 4 * r + 3) (fCool g r)) (31 + 10 * b + 2) ≤ (upd g (9 + 4 * r + 3) (fCool g r)) 0 := fun e h => by rw [if_pos h, e] at hx_52; exact absurd hx_52 (by decide)
      have ho2 : ¬ x_52 = 0 → (upd g (9 + 4 * r + 3) (fCool g r)) (31 + 10 * b + 2) ≤ (upd g (9 + 4 * r + 3) (fCool g r)) 0 := fun e => Classical.byContradiction fun h => e (by rw [if_neg h] at hx_52; exact hx_52)
      refine aw_aload0 dX7_goRoom_54 ?_
      refine aw_iload2 dX7_goRoom_55 ?_
      refine aw_bipush (v := 9) dX7_goRoom_56 (by decide) ?_
      refine aw_SI2 (k_bookAt _ _ 9) dX7_goRoom_58 sl_7_49 (by decide) (Nat.le_of_ble_eq_true rfl) (fun σ_58 r_58 h_58 => ?_)
      obtain ⟨rfl, rfl⟩ := h_58
      refine AW.tern0 (E := (if (upd g (9 + 4 * r + 3) (fCool g r)) (31 + 10 * b + 2) ≤ (upd g (9 + 4 * r + 3) (fCool g r)) 0 then (upd g (9 + 4 * r + 3) (fCool g r)) (31 + 10 * b + 9) else 1)) (pc2 := 78) (fun x_78 hx_78 => ?_) (fun J_78 => ?_)
      · subst hx_78
        refine aw_iast dX7_goRoom_78 hT hn rfl (by omega) ?_
        refine AW.eqs sI_sA ?_
        refine aw_aload0 dX7_goRoom_79 ?_
        refine aw_iload2 dX7_goRoom_80 ?_
        refine aw_bipush (v := 8) dX7_goRoom_81 (by decide) ?_
        refine aw_SI2 (k_bookAt _ _ 8) dX7_goRoom_83 sl_7_49 (by decide) (Nat.le_of_ble_eq_true rfl) (fun σ_83 r_83 h_83 => ?_)
        obtain ⟨rfl, rfl⟩ := h_83
        refine aw_dup2 dX7_goRoom_86 rfl rfl ?_
        refine aw_iald dX7_goRoom_87 hT hn rfl (by omega) sA_at ?_
        refine AW.tern0 (E := (if (upd g (9 + 4 * r + 3) (fCool g r)) (31 + 10 * b + 2) ≤ (upd g (9 + 4 * r + 3) (fCool g r)) 0 ∧ g (9 + 4 * r + 3) < (upd (upd g (9 + 4 * r + 3) (fCool g r)) (31 + 10 * b + 9) (if (upd g (9 + 4 * r + 3) (fCool g r)) (31 + 10 * b + 2) ≤ (upd g (9 + 4 * r + 3) (fCool g r)) 0 then (upd g (9 + 4 * r + 3) (fCool g r)) (31 + 10 * b + 9) else 1)) (31 + 10 * b + 4) - 1 then (1 : Int32) else 0)) (pc2 := 111) (fun x_111 hx_111 => ?_) (fun J_111 => ?_)
        · subst hx_111
          refine aw_iadd dX7_goRoom_111 ?_
          refine aw_iast dX7_goRoom_112 hT hn rfl (by omega) ?_
          refine AW.eqs sI_sA ?_
          refine aw_aload0 dX7_goRoom_113 ?_
          refine aw_iload2 dX7_goRoom_114 ?_
          refine aw_iconst (v := 4) dX7_goRoom_115 (by decide) ?_
          refine aw_SI2 (k_bookAt _ _ 4) dX7_goRoom_116 sl_7_49 (by decide) (Nat.le_of_ble_eq_true rfl) (fun σ_116 r_116 h_116 => ?_)
          obtain ⟨rfl, rfl⟩ := h_116
          refine aw_iald dX7_goRoom_119 hT hn rfl (by omega) sA_at ?_
          refine aw_aload0 dX7_goRoom_120 ?_
          refine aw_iload1 dX7_goRoom_121 ?_
          refine aw_iconst (v := 3) dX7_goRoom_122 (by decide) ?_
          refine aw_SI2 (k_roomAt _ _ 3) dX7_goRoom_123 sl_7_61 (by decide) (Nat.le_of_ble_eq_true rfl) (fun σ_123 r_123 h_123 => ?_)
          obtain ⟨rfl, rfl⟩ := h_123
          refine aw_iald dX7_goRoom_126 hT hn rfl (by omega) sA_at ?_
          refine aw_isub dX7_goRoom_127 ?_
          refine aw_istore5 dX7_goRoom_128 (by decide) rfl ?_
          refine AW.tern0 (E := (byOf ((upd (upd (upd g (9 + 4 * r + 3) (fCool g r)) (31 + 10 * b + 9) (if (upd g (9 + 4 * r + 3) (fCool g r)) (31 + 10 * b + 2) ≤ (upd g (9 + 4 * r + 3) (fCool g r)) 0 then (upd g (9 + 4 * r + 3) (fCool g r)) (31 + 10 * b + 9) else 1)) (31 + 10 * b + 8) ((upd (upd g (9 + 4 * r + 3) (fCool g r)) (31 + 10 * b + 9) (if (upd g (9 + 4 * r + 3) (fCool g r)) (31 + 10 * b + 2) ≤ (upd g (9 + 4 * r + 3) (fCool g r)) 0 then (upd g (9 + 4 * r + 3) (fCool g r)) (31 + 10 * b + 9) else 1)) (31 + 10 * b + 8) + if (upd g (9 + 4 * r + 3) (fCool g r)) (31 + 10 * b + 2) ≤ (upd g (9 + 4 * r + 3) (fCool g r)) 0 ∧ g (9 + 4 * r + 3) < (upd (upd g (9 + 4 * r + 3) (fCool g r)) (31 + 10 * b + 9) (if (upd g (9 + 4 * r + 3) (fCool g r)) (31 + 10 * b + 2) ≤ (upd g (9 + 4 * r + 3) (fCool g r)) 0 then (upd g (9 + 4 * r + 3) (fCool g r)) (31 + 10 * b + 9) else 1)) (31 + 10 * b + 4) - 1 then 1 else 0)) (31 + 10 * b + 4) - (upd (upd (upd g (9 + 4 * r + 3) (fCool g r)) (31 + 10 * b + 9) (if (upd g (9 + 4 * r + 3) (fCool g r)) (31 + 10 * b + 2) ≤ (upd g (9 + 4 * r + 3) (fCool g r)) 0 then (upd g (9 + 4 * r + 3) (fCool g r)) (31 + 10 * b + 9) else 1)) (31 + 10 * b + 8) ((upd (upd g (9 + 4 * r + 3) (fCool g r)) (31 + 10 * b + 9) (if (upd g (9 + 4 * r + 3) (fCool g r)) (31 + 10 * b + 2) ≤ (upd g (9 + 4 * r + 3) (fCool g r)) 0 then (upd g (9 + 4 * r + 3) (fCool g r)) (31 + 10 * b + 9) else 1)) (31 + 10 * b + 8) + if (upd g (9 + 4 * r + 3) (fCool g r)) (31 + 10 * b + 2) ≤ (upd g (9 + 4 * r + 3) (fCool g r)) 0 ∧ g (9 + 4 * r + 3) < (upd (upd g (9 + 4 * r + 3) (fCool g r)) (31 + 10 * b + 9) (if (upd g (9 + 4 * r + 3) (fCool g r)) (31 + 10 * b + 2) ≤ (upd g (9 + 4 * r + 3) (fCool g r)) 0 then (upd g (9 + 4 * r + 3) (fCool g r)) (31 + 10 * b + 9) else 1)) (31 + 10 * b + 4) - 1 then 1 else 0)) (9 + 4 * r + 3)) ((upd (upd (upd g (9 + 4 * r + 3) (fCool g r)) (31 + 10 * b + 9) (if (upd g (9 + 4 * r + 3) (fCool g r)) (31 + 10 * b + 2) ≤ (upd g (9 + 4 * r + 3) (fCool g r)) 0 then (upd g (9 + 4 * r + 3) (fCool g r)) (31 + 10 * b + 9) else 1)) (31 + 10 * b + 8) ((upd (upd g (9 + 4 * r + 3) (fCool g r)) (31 + 10 * b + 9) (if (upd g (9 + 4 * r + 3) (fCool g r)) (31 + 10 * b + 2) ≤ (upd g (9 + 4 * r + 3) (fCool g r)) 0 then (upd g (9 + 4 * r + 3) (fCool g r)) (31 + 10 * b + 9) else 1)) (31 + 10 * b + 8) + if (upd g (9 + 4 * r + 3) (fCool g r)) (31 + 10 * b + 2) ≤ (upd g (9 + 4 * r + 3) (fCool g r)) 0 ∧ g (9 + 4 * r + 3) < (upd (upd g (9 + 4 * r + 3) (fCool g r)) (31 + 10 * b + 9) (if (upd g (9 + 4 * r + 3) (fCool g r)) (31 + 10 * b + 2) ≤ (upd g (9 + 4 * r + 3) (fCool g r)) 0 then (upd g (9 + 4 * r + 3) (fCool g r)) (31 + 10 * b + 9) else 1)) (31 + 10 * b + 4) - 1 then 1 else 0)) (9 + 4 * r + 2)))) (pc2 := 163) (fun x_163 hx_163 => ?_) (fun J_163 => ?_)
          · subst hx_163
            refine aw_istore6 dX7_goRoom_163 (by decide) rfl ?_
            refine aw_aload0 dX7_goRoom_165 ?_
            refine aw_iload1 dX7_goRoom_166 ?_
            refine aw_iconst (v := 3) dX7_goRoom_167 (by decide) ?_
            refine aw_SI2 (k_roomAt _ _ 3) dX7_goRoom_168 sl_7_61 (by decide) (Nat.le_of_ble_eq_true rfl) (fun σ_168 r_168 h_168 => ?_)
            obtain ⟨rfl, rfl⟩ := h_168
            refine aw_dup2 dX7_goRoom_171 rfl rfl ?_
            refine aw_iald dX7_goRoom_172 hT hn rfl (by omega) sA_at ?_
            refine aw_iload6 dX7_goRoom_173 ?_
            refine aw_iadd dX7_goRoom_175 ?_
            refine aw_iast dX7_goRoom_176 hT hn rfl (by omega) ?_
            refine AW.eqs sI_sA ?_
            refine aw_iload6 dX7_goRoom_177 ?_
            refine aw_aload0 dX7_goRoom_179 ?_
            refine aw_iload1 dX7_goRoom_180 ?_
            refine aw_iconst (v := 0) dX7_goRoom_181 (by decide) ?_
            refine aw_SI2 (k_roomAt _ _ 0) dX7_goRoom_182 sl_7_61 (by decide) (Nat.le_of_ble_eq_true rfl) (fun σ_182 r_182 h_182 => ?_)
            obtain ⟨rfl, rfl⟩ := h_182
            refine aw_iald dX7_goRoom_185 hT hn rfl (by omega) sA_at ?_
            refine aw_imul dX7_goRoom_186 ?_
            refine aw_istore7 dX7_goRoom_187 (by decide) rfl ?_
            refine aw_aload0 dX7_goRoom_189 ?_
            refine aw_iload2 dX7_goRoom_190 ?_
            refine aw_iload7 dX7_goRoom_191 ?_
            refine aw_SV3 (k_charge _ _ _ _ _ _ hT hn (by omega) (by rw [upd_n (by omega), upd_n (by omega), upd_n (by omega), upd_n (by omega)]; exact hw) hw6) dX7_goRoom_193 sl_7_80 (by decide) (Nat.le_of_ble_eq_true rfl) (fun σ_193 h_193 => ?_)
            obtain rfl := h_193
            refine aw_iload7 dX7_goRoom_196 ?_
            exact aw_iret dX7_goRoom_198 rfl (by decide) ⟨_, rfl, by simp only [fRoom, hf], by simp only [fRoom, hf]⟩
          · refine aw_iload5 dX7_goRoom_130 ?_
            refine aw_if_ge (tgt := 139) dX7_goRoom_132 (by decide) (fun c_132 => ?_) (fun c_132 => ?_)
            · refine aw_iload5 dX7_goRoom_139 ?_
              refine aw_aload0 dX7_goRoom_141 ?_
              refine aw_iload1 dX7_goRoom_142 ?_
              refine aw_iconst (v := 2) dX7_goRoom_143 (by decide) ?_
              refine aw_SI2 (k_roomAt _ _ 2) dX7_goRoom_144 sl_7_61 (by decide) (Nat.le_of_ble_eq_true rfl) (fun σ_144 r_144 h_144 => ?_)
              obtain ⟨rfl, rfl⟩ := h_144
              refine aw_iald dX7_goRoom_147 hT hn rfl (by omega) sA_at ?_
              refine aw_ic_le (tgt := 161) dX7_goRoom_148 (by decide) (fun c_148 => ?_) (fun c_148 => ?_)
              · refine aw_iload5 dX7_goRoom_161 ?_
                exact J_163 _ (by first | exact (byOf_n (Int32.not_le.mp c_132)).symm | exact (byOf_m (Int32.not_lt.mpr c_132) (Int32.not_lt.mpr c_148)).symm | exact (byOf_p (Int32.not_lt.mpr c_132) (Int32.not_le.mp c_148)).symm)
              · refine aw_aload0 dX7_goRoom_151 ?_
                refine aw_iload1 dX7_goRoom_152 ?_
                refine aw_iconst (v := 2) dX7_goRoom_153 (by decide) ?_
                refine aw_SI2 (k_roomAt _ _ 2) dX7_goRoom_154 sl_7_61 (by decide) (Nat.le_of_ble_eq_true rfl) (fun σ_154 r_154 h_154 => ?_)
                obtain ⟨rfl, rfl⟩ := h_154
                refine aw_iald dX7_goRoom_157 hT hn rfl (by omega) sA_at ?_
                refine aw_goto (tgt := 163) dX7_goRoom_158 (by decide) ?_
                exact J_163 _ (by first | exact (byOf_n (Int32.not_le.mp c_132)).symm | exact (byOf_m (Int32.not_lt.mpr c_132) (Int32.not_lt.mpr c_148)).symm | exact (byOf_p (Int32.not_lt.mpr c_132) (Int32.not_le.mp c_148)).symm)
            · refine aw_iconst (v := 0) dX7_goRoom_135 (by decide) ?_
              refine aw_goto (tgt := 163) dX7_goRoom_136 (by decide) ?_
              exact J_163 _ (by first | exact (byOf_n (Int32.not_le.mp c_132)).symm | exact (byOf_m (Int32.not_lt.mpr c_132) (Int32.not_lt.mpr c_148)).symm | exact (byOf_p (Int32.not_lt.mpr c_132) (Int32.not_le.mp c_148)).symm)
        · refine aw_iload4 dX7_goRoom_88 ?_
          refine aw_if_eq (tgt := 110) dX7_goRoom_90 (by decide) (fun c_90 => ?_) (fun c_90 => ?_)
          · refine aw_iconst (v := 0) dX7_goRoom_110 (by decide) ?_
            exact J_111 _ (by first | exact (if_neg (fun h => ho1 c_90 h.1)).symm | exact (if_neg (fun h => Int32.not_le.mpr h.2 c_103)).symm | exact (if_pos ⟨ho2 c_90, Int32.not_le.mp c_103⟩).symm)
          · refine aw_iload3 dX7_goRoom_93 ?_
            refine aw_aload0 dX7_goRoom_94 ?_
            refine aw_iload2 dX7_goRoom_95 ?_
            refine aw_iconst (v := 4) dX7_goRoom_96 (by decide) ?_
            refine aw_SI2 (k_bookAt _ _ 4) dX7_goRoom_97 sl_7_49 (by decide) (Nat.le_of_ble_eq_true rfl) (fun σ_97 r_97 h_97 => ?_)
            obtain ⟨rfl, rfl⟩ := h_97
            refine aw_iald dX7_goRoom_100 hT hn rfl (by omega) sA_at ?_
            refine aw_iconst (v := 1) dX7_goRoom_101 (by decide) ?_
            refine aw_isub dX7_goRoom_102 ?_
            refine aw_ic_ge (tgt := 110) dX7_goRoom_103 (by decide) (fun c_103 => ?_) (fun c_103 => ?_)
            · refine aw_iconst (v := 0) dX7_goRoom_110 (by decide) ?_
              exact J_111 _ (by first | exact (if_neg (fun h => ho1 c_90 h.1)).symm | exact (if_neg (fun h => Int32.not_le.mpr h.2 c_103)).symm | exact (if_pos ⟨ho2 c_90, Int32.not_le.mp c_103⟩).symm)
            · refine aw_iconst (v := 1) dX7_goRoom_106 (by decide) ?_
              refine aw_goto (tgt := 111) dX7_goRoom_107 (by decide) ?_
              exact J_111 _ (by first | exact (if_neg (fun h => ho1 c_90 h.1)).symm | exact (if_neg (fun h => Int32.not_le.mpr h.2 c_103)).symm | exact (if_pos ⟨ho2 c_90, Int32.not_le.mp c_103⟩).symm)
      · refine aw_iload4 dX7_goRoom_61 ?_
        refine aw_if_eq (tgt := 77) dX7_goRoom_63 (by decide) (fun c_63 => ?_) (fun c_63 => ?_)
        · refine aw_iconst (v := 1) dX7_goRoom_77 (by decide) ?_
          exact J_78 _ (by first | exact (if_pos (ho2 c_63)).symm | exact (if_neg (ho1 c_63)).symm)
        · refine aw_aload0 dX7_goRoom_66 ?_
          refine aw_iload2 dX7_goRoom_67 ?_
          refine aw_bipush (v := 9) dX7_goRoom_68 (by decide) ?_
          refine aw_SI2 (k_bookAt _ _ 9) dX7_goRoom_70 sl_7_49 (by decide) (Nat.le_of_ble_eq_true rfl) (fun σ_70 r_70 h_70 => ?_)
          obtain ⟨rfl, rfl⟩ := h_70
          refine aw_iald dX7_goRoom_73 hT hn rfl (by omega) sA_at ?_
          refine aw_goto (tgt := 78) dX7_goRoom_74 (by decide) ?_
          exact J_78 _ (by first | exact (if_pos (ho2 c_63)).symm | exact (if_neg (ho1 c_63)).symm)
    · refine aw_aload0 dX7_goRoom_34 ?_
      refine aw_iload2 dX7_goRoom_35 ?_
      refine aw_iconst (v := 2) dX7_goRoom_36 (by decide) ?_
      refine aw_SI2 (k_bookAt _ _ 2) dX7_goRoom_37 sl_7_49 (by decide) (Nat.le_of_ble_eq_true rfl) (fun σ_37 r_37 h_37 => ?_)
      obtain ⟨rfl, rfl⟩ := h_37
      refine aw_iald dX7_goRoom_40 hT hn rfl (by omega) sA_at ?_
      refine aw_aload0 dX7_goRoom_41 ?_
      refine aw_iconst (v := 0) dX7_goRoom_42 (by decide) ?_
      refine aw_iald (j := 0) dX7_goRoom_43 hT hn rfl (by decide) sA_at ?_
      refine aw_ic_gt (tgt := 51) dX7_goRoom_44 (by decide) (fun c_44 => ?_) (fun c_44 => ?_)
      · refine aw_iconst (v := 0) dX7_goRoom_51 (by decide) ?_
        exact J_52 _ (by first | exact (if_pos (Int32.not_lt.mp c_44)).symm | exact (if_neg (Int32.not_le.mpr c_44)).symm)
      · refine aw_iconst (v := 1) dX7_goRoom_47 (by decide) ?_
        refine aw_goto (tgt := 52) dX7_goRoom_48 (by decide) ?_
        exact J_52 _ (by first | exact (if_pos (Int32.not_lt.mp c_44)).symm | exact (if_neg (Int32.not_le.mpr c_44)).symm)
  · refine aw_iconst (v := 0) dX7_goRoom_32 (by decide) ?_
    exact aw_iret dX7_goRoom_33 rfl (by decide) ⟨_, rfl, by have h0 := oI_n (fun f hf => by have := fHeater_lt hf; omega) c_29; rw [fRoom, h0], by have h0 := oI_n (fun f hf => by have := fHeater_lt hf; omega) c_29; rw [fRoom, h0]⟩
