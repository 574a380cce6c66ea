/-! the class and the reference are made -/
theorem sRZ_i {σ : Sg} {a c k x j : Nat} {v : Option Nat} (h : x ≠ a) : (sR (sZ σ a) c k v).1 x j = σ.1 x j := if_neg h
theorem sRZ_0 {σ : Sg} {a c k j : Nat} {v : Option Nat} : (sR (sZ σ a) c k v).1 a j = 0 := if_pos rfl
theorem k3_init_sZ {σ : Sg} : BL σ (sR (sZ σ 2) 1 0 (some 2)) 1 := fun x j hx => ⟨sZ_i (by omega), (sR_n (by omega)).trans (sZ_r (by omega))⟩
set_option maxHeartbeats 4000000 in
theorem k3_init (σ : Sg) (hz : ∀ j, σ.1 1 j = 0) : Ct yX3_init cX3_init mX3_init 1 1 120 2 true σ [.ref 1] 3 (rV fun σ2 => BL σ σ2 1 ∧ σ2.2.1 1 0 = some 2 ∧ (∀ j, σ2.1 1 j = 0) ∧ ∀ j, σ2.1 2 j = 0) XF := by
  refine ct_of (ls0 := [some (.ref 1)]) 0 (by decide +kernel) rfl rfl (ndR nd0) rfl (Nat.le_of_ble_eq_true rfl) (fun K => ?_)
  rw [if_pos rfl]
  refine aw_aload0 dX3_init_0 ?_
  refine aw_objInit dX3_init_1 jl_3_3 oi_im oi_co (by decide) (Nat.le_of_ble_eq_true rfl) ?_
  refine aw_aload0 dX3_init_4 ?_
  refine aw_bipush (v := 120) dX3_init_5 (by decide) ?_
  refine aw_newarr (kd := 0) (len := 120) dX3_init_7 rfl ar_int (Or.inl ⟨rfl, rfl⟩) rfl rfl rfl (by decide) ?_
  refine aw_putF dX3_init_9 fF_3_9 rfl (by decide) rfl ?_
  exact aw_vret dX3_init_12 rfl (by decide) ⟨rfl, k3_init_sZ, sR_s, fun j => (sRZ_i (by decide)).trans (hz j), fun j => sRZ_0⟩
/-- a new ref at c k, all below a else as it was -/
def ST (τ ρ : Sg) (a c k : Nat) : Prop := (∀ x j, x < a → ρ.1 x j = τ.1 x j) ∧ (∀ x j, x < a → ¬ (x = c ∧ j = k) → ρ.2.1 x j = τ.2.1 x j) ∧ ρ.2.1 c k = some a
theorem ST.mk {τ ρ : Sg} {a c k : Nat} (h : BL (sZ τ a) ρ a) : ST τ (sR ρ c k (some a)) a c k := ⟨fun x j hx => (h x j hx).1.trans (sZ_i (by omega)), fun x j hx hn => (sR_n hn).trans ((h x j hx).2.trans (sZ_r (by omega))), sR_s⟩
theorem ST.arr {τ : Sg} {a c k : Nat} : ST τ (sR (sZ τ a) c k (some a)) a c k := ST.mk (fun _ _ _ => ⟨rfl, rfl⟩)
theorem ST.r {τ ρ : Sg} {a c k x j : Nat} {v : Option Nat} (s : ST τ ρ a c k) (hx : x < a) (hn : ¬ (x = c ∧ j = k)) (h : τ.2.1 x j = v) : ρ.2.1 x j = v := (s.2.1 x j hx hn).trans h
theorem NH.sR {ρ : Sg} {h c k : Nat} {v : Option Nat} (x : NH ρ h) (hc : c < h ∨ h + 20 ≤ c) : NH (sR ρ c k v) h :=
  ⟨⟨(sR_n (by omega)).trans x.1.1, (sR_n (by omega)).trans x.1.2.1, (sR_n (by omega)).trans x.1.2.2.1, fun r hr => (sR_n (by omega)).trans (x.1.2.2.2 r hr)⟩, fun j hj => (sR_n (by omega)).trans (x.2.1 j hj), x.2.2⟩
theorem NH.st {τ ρ : Sg} {a c k h : Nat} (s : ST τ ρ a c k) (x : NH τ h) (ha : h + 20 ≤ a) (hc : c < h ∨ h + 20 ≤ c) : NH ρ h :=
  ⟨⟨s.r (by omega) (by omega) x.1.1, s.r (by omega) (by omega) x.1.2.1, s.r (by omega) (by omega) x.1.2.2.1, fun r hr => s.r (by omega) (by omega) (x.1.2.2.2 r hr)⟩, fun j hj => s.r (by omega) (by omega) (x.2.1 j hj), fun i j h1 h2 => (s.1 i j (by omega)).trans (x.2.2 i j h1 h2)⟩
def I4 (σ τ : Sg) (i : Nat) : Prop := BL σ τ 23 ∧ τ.2.1 23 0 = some 24 ∧ (∀ j, τ.1 23 j = 0) ∧ (∀ k, k < i → τ.2.1 24 k = some (25 + 20 * k)) ∧ ∀ k, k < i → NH τ (25 + 20 * k)
theorem I4.start {σ : Sg} (hz : ∀ j, σ.1 23 j = 0) : I4 σ (sR (sZ σ 24) 23 0 (some 24)) 0 :=
  ⟨fun x j hx => ⟨sZ_i (by omega), (sR_n (by omega)).trans (sZ_r (by omega))⟩, sR_s, fun j => (sRZ_i (by omega)).trans (hz j), fun k hk => absurd hk (Nat.not_lt_zero _), fun k hk => absurd hk (Nat.not_lt_zero _)⟩
theorem I4.step {σ τ ρ : Sg} {i : Nat} (a : I4 σ τ i) (hn : NH ρ (25 + 20 * i)) (hb : BL (sZ τ (25 + 20 * i)) ρ (25 + 20 * i)) : I4 σ (sR ρ 24 i (some (25 + 20 * i))) (i + 1) := by
  have s : ST τ (sR ρ 24 i (some (25 + 20 * i))) (25 + 20 * i) 24 i := ST.mk hb
  obtain ⟨b, c, d, e, f⟩ := a
  refine ⟨fun x j hx => ⟨(s.1 x j (by omega)).trans (b x j hx).1, (s.2.1 x j (by omega) (by omega)).trans (b x j hx).2⟩, s.r (by omega) (by omega) c, fun j => (s.1 _ _ (by omega)).trans (d j), fun k hk => ?_, fun k hk => ?_⟩
  · by_cases q : k = i
    · subst q
      exact s.2.2
    · exact s.r (by omega) (by omega) (e k (by omega))
  · by_cases q : k = i
    · subst q
      exact hn.sR (by omega)
    · exact (f k (by omega)).st s (by omega) (by omega)
set_option maxHeartbeats 4000000 in
theorem k4_init (σ : Sg) (hz : ∀ j, σ.1 23 j = 0) : Ct yX4_init cX4_init mX4_init 3 281 2394 24 true σ [.ref 23] 305 (rV fun σ2 => I4 σ σ2 14) XF := by
  refine ct_of (ls0 := [some (.ref 23), none]) 1 (by decide +kernel) rfl rfl (ndR nd0) rfl (Nat.le_of_ble_eq_true rfl) (fun K => ?_)
  rw [if_pos rfl]
  have L15 : ∀ (k : Nat) (i : Nat) (τ : Sg) (hI : I4 σ τ i) (h1 : i ≤ 14) (h2 : 14 - i < k), AW K RX4 cX4_init mX4_init 3 281 2394 (Qm K 305 (rV fun σ2 => I4 σ σ2 14) XF 281 2394) (25 + 20 * i) (some 24) τ (1 + 20 * i) (14 + 170 * i) 15 [some (.ref 23), some (.int (nI i))] [] := by
    intro k
    induction k with
    | zero => intro i τ hI h1 h2; exact absurd h2 (Nat.not_lt_zero _)
    | succ k ih =>
      intro i τ hI h1 h2
      refine aw_iload1 dX4_init_15 ?_
      refine aw_aload0 dX4_init_16 ?_
      refine aw_getR dX4_init_17 fR_4_11 rfl (by omega) hI.2.1 ?_
      refine aw_alen dX4_init_20 rfl (by omega) ?_
      refine aw_ic_ge (tgt := 43) dX4_init_21 (by decide) (fun c_21 => ?_) (fun c_21 => ?_)
      · have hbb : i = 14 := by
          have := (nI_leI (by omega) (by omega)).mp c_21
          omega
        subst hbb
        exact aw_vret dX4_init_43 rfl ⟨by omega, by omega⟩ ⟨rfl, hI⟩
      · have hlt : i < 14 := by
          rcases Nat.lt_or_ge i 14 with q | q
          · exact q
          · exact absurd (nI_le q (by omega)) c_21
        refine aw_aload0 dX4_init_24 ?_
        refine aw_getR dX4_init_25 fR_4_11 rfl (by omega) hI.2.1 ?_
        refine aw_iload1 dX4_init_28 ?_
        refine aw_new (ci := 2) dX4_init_29 (by decide) cl_4_9 ins_X2 in_X2 (HT_m i (by omega)).1 (by omega) ⟨by omega, by have hnf : nF 2 = 12 := rfl; omega⟩ ?_
        refine aw_dup dX4_init_32 rfl ?_
        refine aw_callI (As := []) (k2_init _ (25 + 20 * i) (HT_m i (by omega)) (fun j => sZ_0)) dX4_init_33 il_4_17 (RmC (by omega) ⟨by decide, by decide, by omega, by have hnf : nF 2 = 12 := rfl; omega⟩) (Nat.le_of_ble_eq_true rfl) (fun σ_33 r_33 h_33 => ?_)
        obtain ⟨rfl, hN9, hB9⟩ := h_33
        refine aw_aast (j := i) dX4_init_36 rfl (by decide) (HT_m i (by omega)).1 (by omega) (by omega) rfl (by omega) ?_
        refine aw_iinc1 (w := nI (i + 1)) dX4_init_37 (nI_1 i) (by decide) rfl ?_
        refine aw_goto (tgt := 15) dX4_init_40 (by decide) ?_
        refine AW.widen (k1 := 1 + 20 * (i + 1)) (k2 := 14 + 170 * (i + 1)) (by omega) (by have hnf : nF 2 = 12 := rfl; omega) ?_
        exact ih (i + 1) _ (hI.step hN9 hB9) (by omega) (by omega)
  refine aw_aload0 dX4_init_0 ?_
  refine aw_objInit dX4_init_1 jl_4_3 oi_im oi_co (by decide) (Nat.le_of_ble_eq_true rfl) ?_
  refine aw_aload0 dX4_init_4 ?_
  refine aw_bipush (v := 14) dX4_init_5 (by decide) ?_
  refine aw_anew (kd := 5) (len := 14) (ci := 2) dX4_init_7 cl_4_9 (by decide) rfl rfl rfl (by decide) ?_
  refine aw_putF dX4_init_10 fF_4_11 rfl (by omega) rfl ?_
  refine aw_iconst (v := 0) dX4_init_13 (by decide) ?_
  refine aw_istore1 dX4_init_14 (by decide) rfl ?_
  exact L15 15 0 _ (I4.start hz) (by omega) (by omega)
/-- the class is made: what each cell holds -/
def I6 (τ : Sg) : Prop := (τ.2.1 0 0 = some 1 ∧ τ.2.1 0 1 = some 3 ∧ τ.2.1 0 2 = some 23 ∧ τ.2.1 0 3 = some 305 ∧ τ.2.1 0 4 = some 306 ∧ τ.2.1 0 5 = some 307 ∧ τ.2.1 0 6 = some 308 ∧ τ.2.1 0 7 = some 328) ∧ (τ.2.1 1 0 = some 2 ∧ (∀ j, τ.1 1 j = 0) ∧ ∀ j, τ.1 2 j = 0) ∧ NH τ 3 ∧ (τ.2.1 23 0 = some 24 ∧ (∀ j, τ.1 23 j = 0) ∧ (∀ k, k < 14 → τ.2.1 24 k = some (25 + 20 * k)) ∧ ∀ k, k < 14 → NH τ (25 + 20 * k)) ∧ (∀ j, τ.1 306 j = 0) ∧ NH τ 308 ∧ NH τ 328
theorem I4k {σ τ : Sg} {c k : Nat} {v : Option Nat} (h : I4 σ τ 14) (hc : c < 23 := by decide) : (sR τ c k v).2.1 23 0 = some 24 ∧ (∀ j, (sR τ c k v).1 23 j = 0) ∧ (∀ q, q < 14 → (sR τ c k v).2.1 24 q = some (25 + 20 * q)) ∧ ∀ q, q < 14 → NH (sR τ c k v) (25 + 20 * q) :=
  ⟨(sR_n (by omega)).trans h.2.1, h.2.2.1, fun q hq => (sR_n (by omega)).trans (h.2.2.2.1 q hq), fun q hq => (h.2.2.2.2 q hq).sR (by omega)⟩
def I7 (τ : Sg) : Prop := I6 τ ∧ (τ.2.1 305 0 = some 348 ∧ τ.2.1 305 1 = some 368) ∧ NH τ 348 ∧ NH τ 368
theorem I6.st {τ ρ : Sg} {a k : Nat} (s : ST τ ρ a 305 k) (ha : 348 ≤ a) (h : I6 τ) : I6 ρ := by
  obtain ⟨⟨a0, a1, a2, a3, a4, a5, a6, a7⟩, ⟨b0, b1, b2⟩, c, ⟨d0, d1, d2, d3⟩, e, f, g⟩ := h
  have r : ∀ {x j : Nat} {v}, x < 305 ∨ x = 306 → τ.2.1 x j = v → ρ.2.1 x j = v := fun hx h => s.r (by omega) (by omega) h
  have q : ∀ {x j : Nat} {v}, x < 348 → τ.1 x j = v → ρ.1 x j = v := fun hx h => (s.1 _ _ (by omega)).trans h
  exact ⟨⟨r (by omega) a0, r (by omega) a1, r (by omega) a2, r (by omega) a3, r (by omega) a4, r (by omega) a5, r (by omega) a6, r (by omega) a7⟩, ⟨r (by omega) b0, fun j => q (by omega) (b1 j), fun j => q (by omega) (b2 j)⟩, c.st s (by omega) (by omega), ⟨r (by omega) d0, fun j => q (by omega) (d1 j), fun k hk => r (by omega) (d2 k hk), fun k hk => (d3 k hk).st s (by omega) (by omega)⟩, fun j => q (by omega) (e j), f.st s (by omega) (by omega), g.st s (by omega) (by omega)⟩
set_option maxHeartbeats 4000000 in
theorem k6_init (σ : Sg) : Ct yX6_init cX6_init mX6_init 4 387 3380 1 true σ [.ref 0] 388 (rV fun σ2 => I7 σ2) XF := by
  refine ct_of (ls0 := [some (.ref 0), none]) 1 (by decide +kernel) rfl rfl (ndR nd0) rfl (Nat.le_of_ble_eq_true rfl) (fun K => ?_)
  rw [if_pos rfl]
  refine aw_aload0 dX6_init_0 ?_
  refine aw_objInit dX6_init_1 jl_6_1 oi_im oi_co (by decide) (Nat.le_of_ble_eq_true rfl) ?_
  refine aw_aload0 dX6_init_4 ?_
  refine aw_new (ci := 3) dX6_init_5 (by decide) cl_6_7 ins_X3 in_X3 rfl (by decide) (by decide) ?_
  refine aw_dup dX6_init_8 rfl ?_
  refine aw_callI (As := []) (k3_init _ (fun j => sZ_0)) dX6_init_9 il_6_9 (RmC (by decide) (by decide)) (Nat.le_of_ble_eq_true rfl) (fun σ_9 r_9 h_9 => ?_)
  obtain ⟨rfl, h_9⟩ := h_9
  refine aw_putF dX6_init_12 fF_6_10 rfl (by decide) rfl ?_
  obtain ⟨w1, hw1, hS1, hF1⟩ : ∃ w, sR σ_9 0 0 (some 1) = w ∧ ST σ w 1 0 0 ∧ (w.2.1 1 0 = some 2 ∧ (∀ j, w.1 1 j = 0) ∧ ∀ j, w.1 2 j = 0) := ⟨_, rfl, (ST.mk h_9.1), ⟨(sR_n (by decide)).trans h_9.2.1, h_9.2.2.1, h_9.2.2.2⟩⟩
  refine AW.eqs hw1 ?_
  refine aw_aload0 dX6_init_15 ?_
  refine aw_new (ci := 2) dX6_init_16 (by decide) cl_6_16 ins_X2 in_X2 rfl (by decide) (by decide) ?_
  refine aw_dup dX6_init_19 rfl ?_
  refine aw_callI (As := []) (k2_init _ 3 HT_3 (fun j => sZ_0)) dX6_init_20 il_6_18 (RmC (by decide) (by decide)) (Nat.le_of_ble_eq_true rfl) (fun σ_20 r_20 h_20 => ?_)
  obtain ⟨rfl, h_20⟩ := h_20
  refine aw_putF dX6_init_23 fF_6_19 rfl (by decide) rfl ?_
  obtain ⟨w2, hw2, hS2, hF2⟩ : ∃ w, sR σ_20 0 1 (some 3) = w ∧ ST w1 w 3 0 1 ∧ NH w 3 := ⟨_, rfl, (ST.mk h_20.2), h_20.1.sR (by decide)⟩
  refine AW.eqs hw2 ?_
  refine aw_aload0 dX6_init_26 ?_
  refine aw_new (ci := 4) dX6_init_27 (by decide) cl_6_23 ins_X4 in_X4 rfl (by decide) (by decide) ?_
  refine aw_dup dX6_init_30 rfl ?_
  refine aw_callI (As := []) (k4_init _ (fun j => sZ_0)) dX6_init_31 il_6_25 (RmC (by decide) (by decide)) (Nat.le_of_ble_eq_true rfl) (fun σ_31 r_31 h_31 => ?_)
  obtain ⟨rfl, h_31⟩ := h_31
  refine aw_putF dX6_init_34 fF_6_26 rfl (by decide) rfl ?_
  obtain ⟨w3, hw3, hS3, hF3⟩ : ∃ w, sR σ_31 0 2 (some 23) = w ∧ ST w2 w 23 0 2 ∧ (w.2.1 23 0 = some 24 ∧ (∀ j, w.1 23 j = 0) ∧ (∀ k, k < 14 → w.2.1 24 k = some (25 + 20 * k)) ∧ ∀ k, k < 14 → NH w (25 + 20 * k)) := ⟨_, rfl, (ST.mk h_31.1), I4k h_31⟩
  refine AW.eqs hw3 ?_
  refine aw_aload0 dX6_init_37 ?_
  refine aw_iconst (v := 2) dX6_init_38 (by decide) ?_
  refine aw_anew (kd := 5) (len := 2) (ci := 2) dX6_init_39 cl_6_16 (by decide) rfl rfl (by decide) (by decide) ?_
  refine aw_putF dX6_init_42 fF_6_30 rfl (by decide) rfl ?_
  obtain ⟨w4, hw4, hS4, hF4⟩ : ∃ w, sR (sZ w3 305) 0 3 (some 305) = w ∧ ST w3 w 305 0 3 ∧ True := ⟨_, rfl, ST.arr, trivial⟩
  refine AW.eqs hw4 ?_
  refine aw_aload0 dX6_init_45 ?_
  refine aw_iconst (v := 2) dX6_init_46 (by decide) ?_
  refine aw_newarr (kd := 1) (len := 2) dX6_init_47 rfl ar_boolean (Or.inr ⟨rfl, rfl⟩) rfl rfl (by decide) (by decide) ?_
  refine aw_putF dX6_init_49 fF_6_34 rfl (by decide) rfl ?_
  obtain ⟨w5, hw5, hS5, hF5⟩ : ∃ w, sR (sZ w4 306) 0 4 (some 306) = w ∧ ST w4 w 306 0 4 ∧ (∀ j, w.1 306 j = 0) := ⟨_, rfl, ST.arr, fun j => sRZ_0⟩
  refine AW.eqs hw5 ?_
  refine aw_aload0 dX6_init_52 ?_
  refine aw_new (ci := 1) dX6_init_53 (by decide) cl_6_38 ins_X1 in_X1 rfl (by decide) (by decide) ?_
  refine aw_dup dX6_init_56 rfl ?_
  refine aw_callI (As := []) (k1_init _ 307 _ rfl (by decide)) dX6_init_57 il_6_40 (Rm0 (by decide)) (Nat.le_of_ble_eq_true rfl) (fun σ_57 r_57 h_57 => ?_)
  obtain ⟨rfl, rfl⟩ := h_57
  refine aw_putF dX6_init_60 fF_6_41 rfl (by decide) rfl ?_
  obtain ⟨w6, hw6, hS6, hF6⟩ : ∃ w, sR (sZ w5 307) 0 5 (some 307) = w ∧ ST w5 w 307 0 5 ∧ True := ⟨_, rfl, ST.arr, trivial⟩
  refine AW.eqs hw6 ?_
  refine aw_aload0 dX6_init_63 ?_
  refine aw_new (ci := 2) dX6_init_64 (by decide) cl_6_16 ins_X2 in_X2 rfl (by decide) (by decide) ?_
  refine aw_dup dX6_init_67 rfl ?_
  refine aw_callI (As := []) (k2_init _ 308 HT_308 (fun j => sZ_0)) dX6_init_68 il_6_18 (RmC (by decide) (by decide)) (Nat.le_of_ble_eq_true rfl) (fun σ_68 r_68 h_68 => ?_)
  obtain ⟨rfl, h_68⟩ := h_68
  refine aw_putF dX6_init_71 fF_6_45 rfl (by decide) rfl ?_
  obtain ⟨w7, hw7, hS7, hF7⟩ : ∃ w, sR σ_68 0 6 (some 308) = w ∧ ST w6 w 308 0 6 ∧ NH w 308 := ⟨_, rfl, (ST.mk h_68.2), h_68.1.sR (by decide)⟩
  refine AW.eqs hw7 ?_
  refine aw_aload0 dX6_init_74 ?_
  refine aw_new (ci := 2) dX6_init_75 (by decide) cl_6_16 ins_X2 in_X2 rfl (by decide) (by decide) ?_
  refine aw_dup dX6_init_78 rfl ?_
  refine aw_callI (As := []) (k2_init _ 328 HT_328 (fun j => sZ_0)) dX6_init_79 il_6_18 (RmC (by decide) (by decide)) (Nat.le_of_ble_eq_true rfl) (fun σ_79 r_79 h_79 => ?_)
  obtain ⟨rfl, h_79⟩ := h_79
  refine aw_putF dX6_init_82 fF_6_48 rfl (by decide) rfl ?_
  obtain ⟨w8, hw8, hS8, hF8⟩ : ∃ w, sR σ_79 0 7 (some 328) = w ∧ ST w7 w 328 0 7 ∧ NH w 328 := ⟨_, rfl, (ST.mk h_79.2), h_79.1.sR (by decide)⟩
  refine AW.eqs hw8 ?_
  have h6 : I6 w8 := ⟨⟨(hS8.r (by decide) (by decide) (hS7.r (by decide) (by decide) (hS6.r (by decide) (by decide) (hS5.r (by decide) (by decide) (hS4.r (by decide) (by decide) (hS3.r (by decide) (by decide) (hS2.r (by decide) (by decide) hS1.2.2))))))), (hS8.r (by decide) (by decide) (hS7.r (by decide) (by decide) (hS6.r (by decide) (by decide) (hS5.r (by decide) (by decide) (hS4.r (by decide) (by decide) (hS3.r (by decide) (by decide) hS2.2.2)))))), (hS8.r (by decide) (by decide) (hS7.r (by decide) (by decide) (hS6.r (by decide) (by decide) (hS5.r (by decide) (by decide) (hS4.r (by decide) (by decide) hS3.2.2))))), (hS8.r (by decide) (by decide) (hS7.r (by decide) (by decide) (hS6.r (by decide) (by decide) (hS5.r (by decide) (by decide) hS4.2.2)))), (hS8.r (by decide) (by decide) (hS7.r (by decide) (by decide) (hS6.r (by decide) (by decide) hS5.2.2))), (hS8.r (by decide) (by decide) (hS7.r (by decide) (by decide) hS6.2.2)), (hS8.r (by decide) (by decide) hS7.2.2), hS8.2.2⟩, ⟨(hS8.r (by omega) (by omega) (hS7.r (by omega) (by omega) (hS6.r (by omega) (by omega) (hS5.r (by omega) (by omega) (hS4.r (by omega) (by omega) (hS3.r (by omega) (by omega) (hS2.r (by omega) (by omega) hF1.1))))))), fun j => ((hS8.1 _ _ (by decide)).trans ((hS7.1 _ _ (by decide)).trans ((hS6.1 _ _ (by decide)).trans ((hS5.1 _ _ (by decide)).trans ((hS4.1 _ _ (by decide)).trans ((hS3.1 _ _ (by decide)).trans ((hS2.1 _ _ (by decide)).trans (hF1.2.1 j)))))))), fun j => ((hS8.1 _ _ (by decide)).trans ((hS7.1 _ _ (by decide)).trans ((hS6.1 _ _ (by decide)).trans ((hS5.1 _ _ (by decide)).trans ((hS4.1 _ _ (by decide)).trans ((hS3.1 _ _ (by decide)).trans ((hS2.1 _ _ (by decide)).trans (hF1.2.2 j))))))))⟩, (NH.st hS8 (NH.st hS7 (NH.st hS6 (NH.st hS5 (NH.st hS4 (NH.st hS3 hF2 (by decide) (by decide)) (by decide) (by decide)) (by decide) (by decide)) (by decide) (by decide)) (by decide) (by decide)) (by decide) (by decide)), ⟨(hS8.r (by omega) (by omega) (hS7.r (by omega) (by omega) (hS6.r (by omega) (by omega) (hS5.r (by omega) (by omega) (hS4.r (by omega) (by omega) hF3.1))))), fun j => ((hS8.1 _ _ (by decide)).trans ((hS7.1 _ _ (by decide)).trans ((hS6.1 _ _ (by decide)).trans ((hS5.1 _ _ (by decide)).trans ((hS4.1 _ _ (by decide)).trans (hF3.2.1 j)))))), fun q hq => (hS8.r (by omega) (by omega) (hS7.r (by omega) (by omega) (hS6.r (by omega) (by omega) (hS5.r (by omega) (by omega) (hS4.r (by omega) (by omega) (hF3.2.2.1 q hq)))))), fun q hq => (NH.st hS8 (NH.st hS7 (NH.st hS6 (NH.st hS5 (NH.st hS4 (hF3.2.2.2 q hq) (by omega) (by omega)) (by omega) (by omega)) (by omega) (by omega)) (by omega) (by omega)) (by omega) (by omega))⟩, fun j => ((hS8.1 _ _ (by decide)).trans ((hS7.1 _ _ (by decide)).trans ((hS6.1 _ _ (by decide)).trans (hF5 j)))), (NH.st hS8 hF7 (by decide) (by decide)), hF8⟩
  refine aw_iconst (v := 0) dX6_init_85 (by decide) ?_
  refine aw_istore1 dX6_init_86 (by decide) rfl ?_
  refine aw_iload1 dX6_init_87 ?_
  refine aw_aload0 dX6_init_88 ?_
  refine aw_getR dX6_init_89 fR_6_30 rfl (by decide) (by first | exact hIwA.1.2.2.2.1 | exact hIw9.1.2.2.2.1 | exact h6.1.2.2.2.1) ?_
  refine aw_alen dX6_init_92 rfl (by decide) ?_
  refine aw_ic_ge (tgt := 115) dX6_init_93 (by decide) (fun c_93 => absurd c_93 (by decide)) (fun _ => ?_)
  refine aw_aload0 dX6_init_96 ?_
  refine aw_getR dX6_init_97 fR_6_30 rfl (by decide) (by first | exact hIwA.1.2.2.2.1 | exact hIw9.1.2.2.2.1 | exact h6.1.2.2.2.1) ?_
  refine aw_iload1 dX6_init_100 ?_
  refine aw_new (ci := 2) dX6_init_101 (by decide) cl_6_16 ins_X2 in_X2 rfl (by decide) (by decide) ?_
  refine aw_dup dX6_init_104 rfl ?_
  refine aw_callI (As := []) (k2_init _ 348 HT_348 (fun j => sZ_0)) dX6_init_105 il_6_18 (RmC (by decide) (by decide)) (Nat.le_of_ble_eq_true rfl) (fun σ_105 r_105 h_105 => ?_)
  obtain ⟨rfl, h_105⟩ := h_105
  refine aw_aast (j := 0) dX6_init_108 rfl (by decide) HT_348.1 (by decide) (by decide) rfl (by decide) ?_
  obtain ⟨w9, hw9, hSw9, hNw9⟩ : ∃ w, sR σ_105 305 0 (some 348) = w ∧ ST w8 w 348 305 0 ∧ NH w 348 := ⟨_, rfl, ST.mk h_105.2, h_105.1.sR (by decide)⟩
  refine AW.eqs hw9 ?_
  have hIw9 := h6.st hSw9 (by decide)
  refine aw_iinc1 (w := 1) dX6_init_109 (by decide) (by decide) rfl ?_
  refine aw_goto (tgt := 87) dX6_init_112 (by decide) ?_
  refine aw_iload1 dX6_init_87 ?_
  refine aw_aload0 dX6_init_88 ?_
  refine aw_getR dX6_init_89 fR_6_30 rfl (by decide) (by first | exact hIwA.1.2.2.2.1 | exact hIw9.1.2.2.2.1 | exact h6.1.2.2.2.1) ?_
  refine aw_alen dX6_init_92 rfl (by decide) ?_
  refine aw_ic_ge (tgt := 115) dX6_init_93 (by decide) (fun c_93 => absurd c_93 (by decide)) (fun _ => ?_)
  refine aw_aload0 dX6_init_96 ?_
  refine aw_getR dX6_init_97 fR_6_30 rfl (by decide) (by first | exact hIwA.1.2.2.2.1 | exact hIw9.1.2.2.2.1 | exact h6.1.2.2.2.1) ?_
  refine aw_iload1 dX6_init_100 ?_
  refine aw_new (ci := 2) dX6_init_101 (by decide) cl_6_16 ins_X2 in_X2 rfl (by decide) (by decide) ?_
  refine aw_dup dX6_init_104 rfl ?_
  refine aw_callI (As := []) (k2_init _ 368 HT_368 (fun j => sZ_0)) dX6_init_105 il_6_18 (RmC (by decide) (by decide)) (Nat.le_of_ble_eq_true rfl) (fun σ_105 r_105 h_105 => ?_)
  obtain ⟨rfl, h_105⟩ := h_105
  refine aw_aast (j := 1) dX6_init_108 rfl (by decide) HT_368.1 (by decide) (by decide) rfl (by decide) ?_
  obtain ⟨wA, hwA, hSwA, hNwA⟩ : ∃ w, sR σ_105 305 1 (some 368) = w ∧ ST w9 w 368 305 1 ∧ NH w 368 := ⟨_, rfl, ST.mk h_105.2, h_105.1.sR (by decide)⟩
  refine AW.eqs hwA ?_
  have hIwA := hIw9.st hSwA (by decide)
  refine aw_iinc1 (w := 2) dX6_init_109 (by decide) (by decide) rfl ?_
  refine aw_goto (tgt := 87) dX6_init_112 (by decide) ?_
  refine aw_iload1 dX6_init_87 ?_
  refine aw_aload0 dX6_init_88 ?_
  refine aw_getR dX6_init_89 fR_6_30 rfl (by decide) (by first | exact hIwA.1.2.2.2.1 | exact hIw9.1.2.2.2.1 | exact h6.1.2.2.2.1) ?_
  refine aw_alen dX6_init_92 rfl (by decide) ?_
  refine aw_ic_ge (tgt := 115) dX6_init_93 (by decide) (fun _ => ?_) (fun c_93 => absurd c_93 (by decide))
  exact aw_vret dX6_init_115 rfl (by decide) ⟨rfl, hIwA, ⟨hSwA.r (by decide) (by decide) hSw9.2.2, hSwA.2.2⟩, hNw9.st hSwA (by decide) (by decide), hNwA⟩
