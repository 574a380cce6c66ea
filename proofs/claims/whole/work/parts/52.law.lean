/-! the law: its start and its loop -/
theorem NH.fr {σ τ : Sg} {h : Nat} (x : NH σ h) (f : ∀ i j, i < 388 → τ.1 i j = σ.1 i j ∧ τ.2.1 i j = σ.2.1 i j) (hh : h + 20 ≤ 388) : NH τ h :=
  ⟨⟨(f _ _ (by omega)).2.trans x.1.1, (f _ _ (by omega)).2.trans x.1.2.1, (f _ _ (by omega)).2.trans x.1.2.2.1, fun r hr => (f _ _ (by omega)).2.trans (x.1.2.2.2 r hr)⟩, fun j hj => (f _ _ (by omega)).2.trans (x.2.1 j hj), fun i j h1 h2 => (f _ _ (by omega)).1.trans (x.2.2 i j h1 h2)⟩
theorem NH.bb {τ : Sg} {h : Nat} (x : NH τ h) : BB τ h := ⟨id, ⟨fun _ h => h, fun _ _ _ _ h => h⟩, x.2.1⟩
theorem NH.sa {τ : Sg} {h : Nat} (x : NH τ h) (ht : HT h) : SA τ h (fClean (fun _ => 0)) := by
  refine ⟨id, 0, 0, 0, 0, by decide, ⟨ht, x.1, ⟨fun _ h => h, fun _ _ _ _ h => h⟩⟩, ⟨fun j hj => ?_, fun _ h => absurd h (Nat.not_lt_zero _), fun _ _ h => absurd h (Nat.not_lt_zero _), fun _ _ h => absurd h (Nat.not_lt_zero _), x.2.1⟩, WF.clean, fun _ h => absurd h (Nat.not_lt_zero _)⟩
  rw [x.2.2 h j (Nat.le_refl _) (by omega)]
  unfold isI at hj
  by_cases q : j = 1
  · subst q
    rw [if_pos ⟨rfl, rfl⟩]
    rfl
  · rw [if_neg (fun z => q z.2)]
    have h4 : hx j ≠ 4 := by
      unfold hx
      (repeat' split) <;> omega
    have h9 := hx_lt (j := j)
    rw [fClean, if_neg h4, if_pos (by omega)]
theorem init_IV {σ : Sg} (h : I7 σ) : IV (sZ (M0 (sZ σ 388)) 396) := by
  obtain ⟨m1, m2, m3, m4, m5, m6⟩ := M0_sp (σ := sZ σ 388) (fun j => sZ_0)
  have f : ∀ i j, i < 388 → (sZ (M0 (sZ σ 388)) 396).1 i j = σ.1 i j ∧ (sZ (M0 (sZ σ 388)) 396).2.1 i j = σ.2.1 i j := fun i j hi =>
    ⟨(sZ_i (by omega)).trans ((m6 i j hi).1.trans (sZ_i (by omega))), (sZ_r (by omega)).trans ((m6 i j hi).2.trans (sZ_r (by omega)))⟩
  have fi : ∀ i j, i ≠ 396 → (sZ (M0 (sZ σ 388)) 396).1 i j = (M0 (sZ σ 388)).1 i j := fun i j hi => sZ_i hi
  have fr : ∀ i j, i ≠ 396 → (sZ (M0 (sZ σ 388)) 396).2.1 i j = (M0 (sZ σ 388)).2.1 i j := fun i j hi => sZ_r hi
  generalize sZ (M0 (sZ σ 388)) 396 = τ at f fi fr
  generalize M0 (sZ σ 388) = ρ at fi fr m1 m2 m3 m4 m5 m6
  obtain ⟨⟨⟨a0, a1, a2, a3, a4, a5, a6, a7⟩, ⟨b0, b1, b2⟩, c, ⟨d0, d1, d2, d3⟩, e, g, k⟩, ⟨s0, s1⟩, n0, n1⟩ := h
  have r : ∀ {x j : Nat} {v}, x < 388 → σ.2.1 x j = v → τ.2.1 x j = v := fun hx q => (f _ _ hx).2.trans q
  have v : ∀ {x j : Nat} {v}, x < 388 → σ.1 x j = v → τ.1 x j = v := fun hx q => (f _ _ hx).1.trans q
  have hl : ∀ h, HL h → NH τ h := fun h hh => by
    rcases hh with rfl | rfl | rfl | rfl | rfl | ⟨q, hq, rfl⟩
    · exact c.fr f (by decide)
    · exact g.fr f (by decide)
    · exact k.fr f (by decide)
    · exact n0.fr f (by decide)
    · exact n1.fr f (by decide)
    · exact (d3 q hq).fr f (by omega)
  refine ⟨fClean (fun _ => 0), 0, fun _ => 0, 0, fun _ _ => 0, fun _ => false, fun _ _ => 0, ⟨⟨⟨r (by decide) a0, r (by decide) a1, r (by decide) a2, r (by decide) a3, r (by decide) a4, r (by decide) a5, r (by decide) a6, r (by decide) a7⟩, r (by decide) b0, ⟨r (by decide) d0, fun q hq => r (by decide) (d2 q hq)⟩, fun s hs => ?_, fun h hh => (hl h hh).1⟩, fun h hh => (hl h hh).bb, ⟨v (by decide) (b1 1), by decide, funext fun j => v (by decide) (b2 j)⟩, ⟨0, by decide, by decide, v (by decide) (d1 1), v (by decide) (d1 2), fun i hi => absurd hi (Nat.not_lt_zero _)⟩, fun s hs => ⟨v (by decide) (e s), fun q => absurd q Bool.false_ne_true⟩⟩, (hl 3 (Or.inl rfl)).sa HT_3, ⟨m1.fm (fun q => fr _ _ (by decide)), (funext fun q => fi _ _ (by decide)).trans m4, (fi _ _ (by decide)).trans (m2 2), funext fun q => (fi _ _ (by decide)).trans (m3 q), (fi _ _ (by decide)).trans (m2 9), fun i hi => absurd hi (Nat.not_lt_zero _), fun s hs => (fi _ _ (by decide)).trans (m5 s), fun s hs q => absurd q Bool.false_ne_true⟩⟩
  rcases (show s = 0 ∨ s = 1 by omega) with rfl | rfl
  · exact r (by decide) s0
  · exact r (by decide) s1
theorem len6 {L j : Nat} (hL : L ≤ 3072) (h1 : 6 * j ≤ L) (h : ¬ nI L - 6 < nI (6 * j)) : 6 * j + 6 ≤ L := by
  have h2 := Int32.le_iff_toInt_le.mp (Int32.not_lt.mp h)
  have h3 : (nI L - nI 6).toInt = (L : Int) - (6 : Nat) := pk_sub_toInt (by omega) (by omega)
  have h4 : (nI L - 6).toInt = (L : Int) - (6 : Nat) := h3
  have h5 : (nI (6 * j)).toInt = ((6 * j : Nat) : Int) := nI_toInt (by omega)
  rw [h4, h5] at h2
  omega
set_option maxHeartbeats 4000000 in
theorem law_loop {K : KT} {b L : Nat} {xs : Nat → Int32} (hS : SC K b L xs) (hL : L ≤ 3072) (tb : List (Nat × Nat × Nat × Nat)) (nm : String) (Q : State → Prop) (fin : ∀ σ ls, AW K RL cL_law (LT tb nm) 12 601024 7293034 Q NN (some 0) σ 601024 7293034 1742 ls [.int 1]) : ∀ (f j : Nat) (σ : Sg) (x5 x6 : Option Value) (hI : IV σ) (h1 : 6 * j ≤ L) (h2 : L - 6 * j < f), AW K RL cL_law (LT tb nm) 12 601024 7293034 Q NN (some 0) σ (397 + 8 * j) (6392 + 48 * j) 23 (lls b j x5 x6) [] := by
  intro f
  induction f with
  | zero => intro j σ x5 x6 hI h1 h2; exact absurd h2 (Nat.not_lt_zero _)
  | succ f ih =>
    intro j σ x5 x6 hI h1 h2
    refine aw_iload4 dL_law_23 ?_
    refine aw_aload0E dL_law_25 ?_
    refine aw_slen dL_law_26 hS ?_
    refine aw_bipush (v := 6) dL_law_27 (by decide) ?_
    refine aw_isub dL_law_29 ?_
    refine aw_ic_gt (tgt := 1741) dL_law_30 (by decide) (fun c_30 => ?_) (fun c_30 => ?_)
    · refine aw_iconst (v := 1) dL_law_1741 (by decide) ?_
      exact AW.widen (k1 := 601024) (k2 := 7293034) (by omega) (by omega) (fin _ _)
    · have hj := len6 hL h1 c_30
      have nxt : ∀ σ2 y5 y6, IV σ2 → AW K RL cL_law (LT tb nm) 12 601024 7293034 Q NN (some 0) σ2 (397 + 8 * j + 8) (6392 + 48 * j + 48) 1735 (lls b j y5 y6) [] := by
        intro σ2 y5 y6 hI2
        refine aw_iinc4 (w := nI (6 * (j + 1))) dL_law_1735 (nI_add (6 * j) 6) (Nat.le_of_ble_eq_true rfl) rfl ?_
        refine aw_goto (tgt := 23) dL_law_1738 (by decide) ?_
        refine AW.widen (k1 := 397 + 8 * (j + 1)) (k2 := 6392 + 48 * (j + 1)) (by omega) (by omega) ?_
        exact ih (j + 1) σ2 y5 y6 hI2 (by omega) (by omega)
      refine aw_aload0E dL_law_33 ?_
      refine aw_iload4 dL_law_34 ?_
      refine aw_sld (j := 6 * j) dL_law_36 hS hL rfl (by omega) ?_
      refine aw_bipush (v := 31) dL_law_37 (by decide) ?_
      refine aw_iand dL_law_39 ?_
      obtain ⟨k, hk, he⟩ := and31 (xs (6 * j))
      rw [he]
      have hk9 : k = 0 ∨ k = 1 ∨ k = 2 ∨ k = 3 ∨ k = 4 ∨ k = 5 ∨ k = 6 ∨ k = 7 ∨ k = 8 ∨ k = 9 ∨ k = 10 ∨ k = 11 ∨ k = 12 ∨ k = 13 ∨ k = 14 ∨ k = 15 ∨ k = 16 ∨ k = 17 ∨ k = 18 ∨ k = 19 ∨ k = 20 ∨ k = 21 ∨ k = 22 ∨ k = 23 ∨ k = 24 ∨ k = 25 ∨ k = 26 ∨ k = 27 ∨ k = 28 ∨ k = 29 ∨ k = 30 ∨ k = 31 := by omega
      rcases hk9 with rfl | rfl | rfl | rfl | rfl | rfl | rfl | rfl | rfl | rfl | rfl | rfl | rfl | rfl | rfl | rfl | rfl | rfl | rfl | rfl | rfl | rfl | rfl | rfl | rfl | rfl | rfl | rfl | rfl | rfl | rfl | rfl
      · refine aw_table (off := 120) (tgt := 160) dL_law_40 (by decide) (by decide) (by decide) (by decide) ?_
        exact law_append hS hL tb nm Q j hj σ hI _ _ nxt
      · refine aw_table (off := 176) (tgt := 216) dL_law_40 (by decide) (by decide) (by decide) (by decide) ?_
        exact law_clearText hS hL tb nm Q j hj σ hI _ _ nxt
      · refine aw_table (off := 189) (tgt := 229) dL_law_40 (by decide) (by decide) (by decide) (by decide) ?_
        exact law_errorPosition hS hL tb nm Q j hj σ hI _ _ nxt
      · refine aw_table (off := 202) (tgt := 242) dL_law_40 (by decide) (by decide) (by decide) (by decide) ?_
        exact law_load hS hL tb nm Q j hj σ hI _ _ nxt
      · refine aw_table (off := 246) (tgt := 286) dL_law_40 (by decide) (by decide) (by decide) (by decide) ?_
        exact law_about hS hL tb nm Q j hj σ hI _ _ nxt
      · refine aw_table (off := 302) (tgt := 342) dL_law_40 (by decide) (by decide) (by decide) (by decide) ?_
        exact law_room hS hL tb nm Q j hj σ hI _ _ nxt
      · refine aw_table (off := 370) (tgt := 410) dL_law_40 (by decide) (by decide) (by decide) (by decide) ?_
        exact law_owes hS hL tb nm Q j hj σ hI _ _ nxt
      · refine aw_table (off := 426) (tgt := 466) dL_law_40 (by decide) (by decide) (by decide) (by decide) ?_
        exact law_booking hS hL tb nm Q j hj σ hI _ _ nxt
      · refine aw_table (off := 494) (tgt := 534) dL_law_40 (by decide) (by decide) (by decide) (by decide) ?_
        exact law_addRoom hS hL tb nm Q j hj σ hI _ _ nxt
      · refine aw_table (off := 586) (tgt := 626) dL_law_40 (by decide) (by decide) (by decide) (by decide) ?_
        exact law_addGroup hS hL tb nm Q j hj σ hI _ _ nxt
      · refine aw_table (off := 630) (tgt := 670) dL_law_40 (by decide) (by decide) (by decide) (by decide) ?_
        exact law_book hS hL tb nm Q j hj σ hI _ _ nxt
      · refine aw_table (off := 734) (tgt := 774) dL_law_40 (by decide) (by decide) (by decide) (by decide) ?_
        exact law_cancel hS hL tb nm Q j hj σ hI _ _ nxt
      · refine aw_table (off := 790) (tgt := 830) dL_law_40 (by decide) (by decide) (by decide) (by decide) ?_
        exact law_prove hS hL tb nm Q j hj σ hI _ _ nxt
      · refine aw_table (off := 874) (tgt := 914) dL_law_40 (by decide) (by decide) (by decide) (by decide) ?_
        exact law_outside hS hL tb nm Q j hj σ hI _ _ nxt
      · refine aw_table (off := 930) (tgt := 970) dL_law_40 (by decide) (by decide) (by decide) (by decide) ?_
        exact law_pay hS hL tb nm Q j hj σ hI _ _ nxt
      · refine aw_table (off := 986) (tgt := 1026) dL_law_40 (by decide) (by decide) (by decide) (by decide) ?_
        exact law_pass hS hL tb nm Q j hj σ hI _ _ nxt
      · refine aw_table (off := 1042) (tgt := 1082) dL_law_40 (by decide) (by decide) (by decide) (by decide) ?_
        exact law_undo hS hL tb nm Q j hj σ hI _ _ nxt
      · refine aw_table (off := 1086) (tgt := 1126) dL_law_40 (by decide) (by decide) (by decide) (by decide) ?_
        exact law_later hS hL tb nm Q j hj σ hI _ _ nxt
      · refine aw_table (off := 1154) (tgt := 1194) dL_law_40 (by decide) (by decide) (by decide) (by decide) ?_
        exact law_begins hS hL tb nm Q j hj σ hI _ _ nxt
      · refine aw_table (off := 1210) (tgt := 1250) dL_law_40 (by decide) (by decide) (by decide) (by decide) ?_
        exact law_cost hS hL tb nm Q j hj σ hI _ _ nxt
      · refine aw_table (off := 1314) (tgt := 1354) dL_law_40 (by decide) (by decide) (by decide) (by decide) ?_
        exact law_willOwe hS hL tb nm Q j hj σ hI _ _ nxt
      · refine aw_table (off := 1370) (tgt := 1410) dL_law_40 (by decide) (by decide) (by decide) (by decide) ?_
        exact law_coldest hS hL tb nm Q j hj σ hI _ _ nxt
      · refine aw_table (off := 1383) (tgt := 1423) dL_law_40 (by decide) (by decide) (by decide) (by decide) ?_
        exact law_runScript hS hL tb nm Q j hj σ hI _ _ nxt
      · refine aw_table (off := 1483) (tgt := 1523) dL_law_40 (by decide) (by decide) (by decide) (by decide) ?_
        exact law_simulate hS hL tb nm Q j hj σ hI _ _ nxt
      · refine aw_table (off := 1583) (tgt := 1623) dL_law_40 (by decide) (by decide) (by decide) (by decide) ?_
        exact law_save hS hL tb nm Q j hj σ hI _ _ nxt
      · refine aw_table (off := 1639) (tgt := 1679) dL_law_40 (by decide) (by decide) (by decide) (by decide) ?_
        exact law_restore hS hL tb nm Q j hj σ hI _ _ nxt
      · refine aw_tableO (tgt := 1735) dL_law_40 (Or.inr (by decide)) (by decide) ?_
        refine AW.widen (k1 := 397 + 8 * j + 8) (k2 := 6392 + 48 * j + 48) (by omega) (by omega) ?_
        exact nxt _ _ _ hI
      · refine aw_tableO (tgt := 1735) dL_law_40 (Or.inr (by decide)) (by decide) ?_
        refine AW.widen (k1 := 397 + 8 * j + 8) (k2 := 6392 + 48 * j + 48) (by omega) (by omega) ?_
        exact nxt _ _ _ hI
      · refine aw_tableO (tgt := 1735) dL_law_40 (Or.inr (by decide)) (by decide) ?_
        refine AW.widen (k1 := 397 + 8 * j + 8) (k2 := 6392 + 48 * j + 48) (by omega) (by omega) ?_
        exact nxt _ _ _ hI
      · refine aw_tableO (tgt := 1735) dL_law_40 (Or.inr (by decide)) (by decide) ?_
        refine AW.widen (k1 := 397 + 8 * j + 8) (k2 := 6392 + 48 * j + 48) (by omega) (by omega) ?_
        exact nxt _ _ _ hI
      · refine aw_tableO (tgt := 1735) dL_law_40 (Or.inr (by decide)) (by decide) ?_
        refine AW.widen (k1 := 397 + 8 * j + 8) (k2 := 6392 + 48 * j + 48) (by omega) (by omega) ?_
        exact nxt _ _ _ hI
      · refine aw_tableO (tgt := 1735) dL_law_40 (Or.inr (by decide)) (by decide) ?_
        refine AW.widen (k1 := 397 + 8 * j + 8) (k2 := 6392 + 48 * j + 48) (by omega) (by omega) ?_
        exact nxt _ _ _ hI
set_option maxHeartbeats 4000000 in
theorem law_walk {K : KT} {b L : Nat} {xs : Nat → Int32} (hS : SC K b L xs) (hL : L ≤ 3072) (tb : List (Nat × Nat × Nat × Nat)) (nm : String) (Q : State → Prop) (fin : ∀ σ ls, AW K RL cL_law (LT tb nm) 12 601024 7293034 Q NN (some 0) σ 601024 7293034 1742 ls [.int 1]) (σ : Sg) : AW K RL cL_law (LT tb nm) 12 601024 7293034 Q 0 (some 0) σ 0 0 0 [some (.retAddr b), none, none, none, none, none, none] [] := by
  refine aw_new (ci := 6) dL_law_0 (by decide) cl_L_8 ins_X6 in_X6 rfl (by decide) (by decide) ?_
  refine aw_dup dL_law_3 rfl ?_
  refine aw_callI (As := []) (k6_init _) dL_law_4 il_L_92 (RmC (by decide) ⟨by decide, by decide, by decide, by decide⟩) (Nat.le_of_ble_eq_true rfl) (fun σ_4 r_4 h_4 => ?_)
  obtain ⟨rfl, h_4⟩ := h_4
  refine aw_astore1 dL_law_7 (Nat.le_of_ble_eq_true rfl) rfl ?_
  refine aw_new (ci := 7) dL_law_8 (by decide) cl_L_93 ins_X7 in_X7 rfl (by decide) (by decide) ?_
  refine aw_dup dL_law_11 rfl ?_
  refine aw_callI (As := []) (k7_init _) dL_law_12 il_L_95 (RmC (by decide) ⟨by decide, by decide, by decide, by decide⟩) (Nat.le_of_ble_eq_true rfl) (fun σ_12 r_12 h_12 => ?_)
  obtain ⟨rfl, rfl⟩ := h_12
  refine aw_astore2 dL_law_15 (Nat.le_of_ble_eq_true rfl) rfl ?_
  refine aw_iconst (v := 1) dL_law_16 (by decide) ?_
  refine aw_newarr (kd := 2) (len := 1) dL_law_17 rfl ar_long (Or.inr (Or.inr ⟨rfl, rfl⟩)) rfl rfl (by decide) (by decide) ?_
  refine aw_astore3 dL_law_19 (Nat.le_of_ble_eq_true rfl) rfl ?_
  refine aw_iconst (v := 0) dL_law_20 (by decide) ?_
  refine aw_istore4 dL_law_21 (Nat.le_of_ble_eq_true rfl) rfl ?_
  exact law_loop hS hL tb nm Q fin (L + 1) 0 _ none none (init_IV h_4) (Nat.zero_le _) (by omega)
