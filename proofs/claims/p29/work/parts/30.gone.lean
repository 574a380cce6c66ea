/-! the class: a booking goes -/
def rmT (b nb j : Nat) : Nat := if j < b then j else if j + 1 < nb then j + 1 else if j + 1 = nb then b else j
def rmP (π : Nat → Nat) (b nb : Nat) : Nat → Nat := fun j => π (rmT b nb j)
theorem rmT_lt {b nb j : Nat} (hb : b < nb) (hn : nb ≤ 12) (hj : j < 12) : rmT b nb j < 12 := by
  unfold rmT
  (repeat' split) <;> omega
theorem rmP_PM {π : Nat → Nat} (hp : PM π) {b nb : Nat} (hb : b < nb) (hn : nb ≤ 12) : PM (rmP π b nb) := by
  refine ⟨fun j hj => hp.1 _ (rmT_lt hb hn hj), fun i j hi hj e => ?_⟩
  have e2 := hp.2 _ _ (rmT_lt hb hn hi) (rmT_lt hb hn hj) e
  unfold rmT at e2
  (repeat' split at e2) <;> omega
theorem rmP_skp {π : Nat → Nat} {b nb c : Nat} (hc : c < nb - 1) : rmP π b nb c = π (skp b c) := by
  unfold rmP rmT skp
  split
  · rfl
  · rw [if_pos (by omega)]
/-- the bookings' row from b on, up to i, moved down -/
def rW (S : Sg) (h b i : Nat) (π : Nat → Nat) : Sg := (S.1, fun x j => if x = h + 3 ∧ b ≤ j ∧ j + 1 < i then some (h + 8 + π (j + 1)) else S.2.1 x j, S.2.2)
theorem rW_0 {S : Sg} {h b : Nat} {π : Nat → Nat} : rW S h b (b + 1) π = S := by
  refine Prod.ext rfl (Prod.ext (funext fun x => funext fun j => ?_) rfl)
  exact if_neg (by omega)
theorem rW_s {S : Sg} {h b i : Nat} {π : Nat → Nat} (hi : b < i) : sR (rW S h b i π) (h + 3) (i - 1) (some (h + 8 + π i)) = rW S h b (i + 1) π := by
  refine Prod.ext rfl (Prod.ext (funext fun x => funext fun j => ?_) rfl)
  show (if x = h + 3 ∧ j = i - 1 then some (h + 8 + π i) else if x = h + 3 ∧ b ≤ j ∧ j + 1 < i then some (h + 8 + π (j + 1)) else S.2.1 x j) = if x = h + 3 ∧ b ≤ j ∧ j + 1 < i + 1 then some (h + 8 + π (j + 1)) else S.2.1 x j
  by_cases q : x = h + 3 ∧ j = i - 1
  · rw [if_pos q, if_pos (by omega), show j + 1 = i by omega]
  · rw [if_neg q]
    by_cases q2 : x = h + 3 ∧ b ≤ j ∧ j + 1 < i
    · rw [if_pos q2, if_pos (by omega)]
    · rw [if_neg q2, if_neg (by omega)]
def rGo (S : Sg) (h b nb : Nat) (π : Nat → Nat) (v : Int32) : Sg := sR (sI (rW S h b nb π) h 7 v) (h + 3) (nb - 1) (some (h + 8 + π b))
theorem rGo_RH {σ : Sg} {h nr ng nb t b : Nat} {π : Nat → Nat} {g : Rw} (hc : HC σ h π) (hw : WF g nr ng nb t) (hb : b < nb) : RH (rGo (sH σ h π nr ng nb g) h b nb π (g 3 - 1)) h (rmP π b nb) nr ng (nb - 1) (fDrop g b) := by
  have hnr4 := hw.nr4
  have hng6 := hw.ng6
  have hnb12 := hw.nb12
  have ei : ∀ i j, ¬ (i = h ∧ j = 7) → (rGo (sH σ h π nr ng nb g) h b nb π (g 3 - 1)).1 i j = (sH σ h π nr ng nb g).1 i j := fun i j q => if_neg q
  refine ⟨fun j hj => ?_, fun j hj => ?_, fun r j hr hj => ?_, fun c j hcn hj => ?_, fun j hj => ?_⟩
  · by_cases q : j = 7
    · subst q
      exact Eq.trans (if_pos ⟨rfl, rfl⟩) fDrop_3.symm
    · rw [ei _ _ (fun z => q z.2), sH_i hj, fDrop_lo (fun z => q (hx_inj hj (by unfold isI; omega) (z.trans rfl))) (by have := hx_lt (j := j); omega)]
  · rw [ei _ _ (by omega), sH_o hj, fDrop_lo (by omega) (by omega)]
  · rw [ei _ _ (by omega), sH_r hr hnr4 hj, fDrop_lo (by omega) (by omega)]
  · have hs : skp b c < nb := by unfold skp; split <;> omega
    have hbx := bx_lt hj
    rw [rmP_skp hcn, ei _ _ (by omega), sH_b hc hs hnb12 hj, fDrop_at (by omega) (by omega) hbx]
  · show (if h + 3 = h + 3 ∧ j = nb - 1 then some (h + 8 + π b) else if h + 3 = h + 3 ∧ b ≤ j ∧ j + 1 < nb then some (h + 8 + π (j + 1)) else (sH σ h π nr ng nb g).2.1 (h + 3) j) = some (h + 8 + rmP π b nb j)
    unfold rmP rmT
    by_cases q : j = nb - 1
    · rw [if_pos ⟨rfl, q⟩, if_neg (by omega), if_neg (by omega), if_pos (by omega)]
    · rw [if_neg (fun z => q z.2)]
      by_cases q2 : b ≤ j ∧ j + 1 < nb
      · rw [if_pos ⟨rfl, q2⟩, if_neg (by omega), if_pos (by omega)]
      · rw [if_neg (fun z => q2 z.2), sH_book hj]
        by_cases q3 : j < b
        · rw [if_pos q3]
        · rw [if_neg q3, if_neg (by omega), if_neg (by omega)]
theorem rGo_out {σ : Sg} {h nr ng nb b : Nat} {π : Nat → Nat} {g : Rw} {v : Int32} : (∀ i j, i < h ∨ h + 20 ≤ i → (rGo (sH σ h π nr ng nb g) h b nb π v).1 i j = σ.1 i j) ∧ ∀ i j, i ≠ h + 3 → (rGo (sH σ h π nr ng nb g) h b nb π v).2.1 i j = σ.2.1 i j := by
  refine ⟨fun i j hi => ?_, fun i j hi => ?_⟩
  · exact Eq.trans (if_neg (by omega)) (sH_out hi)
  · exact Eq.trans (if_neg (fun z => hi z.1)) (Eq.trans (if_neg (fun z => hi z.1)) (sH_R hi))
set_option maxHeartbeats 4000000 in
theorem k2_removeBooking (σ : Sg) (h : Nat) (π : Nat → Nat) (nr ng nb t : Nat) (g : Rw) (b : Nat) (hc : HC σ h π) (hw : WF g nr ng nb t) (hb : b < nb) : Ct yX2_removeBooking cX2_removeBooking mX2_removeBooking 2 0 0 NN false (sH σ h π nr ng nb g) [.ref h, .int (nI b)] NN (eV1 (rGo (sH σ h π nr ng nb g) h b nb π (g 3 - 1))) XF := by
  refine ct_of (ls0 := [some (.ref h), some (.int (nI b)), none, none]) 2 (by decide +kernel) rfl rfl (ndR (ndI nd0)) rfl (Nat.le_of_ble_eq_true rfl) (fun K => ?_)
  have hnr4 := hw.nr4
  have hng6 := hw.ng6
  have hnb12 := hw.nb12
  have L15 : ∀ (k : Nat) (i : Nat) (h0 : b < i) (h1 : i ≤ nb) (h2 : nb - i < k), AW K RX2 cX2_removeBooking mX2_removeBooking 2 0 0 (Qm K NN (eV1 (rGo (sH σ h π nr ng nb g) h b nb π (g 3 - 1))) XF 0 0) NN none (rW (sH σ h π nr ng nb g) h b i π) 0 0 15 [some (.ref h), some (.int (nI b)), some (.ref (h + 8 + π b)), some (.int (nI i))] [] := by
    intro k
    induction k with
    | zero => intro i h0 h1 h2; exact absurd h2 (Nat.not_lt_zero _)
    | succ k ih =>
      intro i h0 h1 h2
      refine aw_iload3 dX2_removeBooking_15 ?_
      refine aw_aload0 dX2_removeBooking_16 ?_
      refine aw_getI dX2_removeBooking_17 fI_2_42 hc.t hc.l (show _ = nI nb from (sH_nb (σ := σ)).trans hw.nb) ?_
      refine aw_ic_ge (tgt := 43) dX2_removeBooking_20 (by decide) (fun c_20 => ?_) (fun c_20 => ?_)
      · have hbb : i = nb := by
          have := (nI_leI (by omega) (by omega)).mp c_20
          omega
        subst hbb
        refine aw_aload0 dX2_removeBooking_43 ?_
        refine aw_dup dX2_removeBooking_44 rfl ?_
        refine aw_getI dX2_removeBooking_45 fI_2_42 hc.t hc.l (show _ = g 3 from sH_nb) ?_
        refine aw_iconst (v := 1) dX2_removeBooking_48 (by decide) ?_
        refine aw_isub dX2_removeBooking_49 ?_
        refine aw_putI dX2_removeBooking_50 fP_2_42 hc.t hc.l ?_
        refine aw_aload0 dX2_removeBooking_53 ?_
        refine aw_getR dX2_removeBooking_54 fR_2_27 hc.t hc.l ((if_neg (by omega)).trans (sH_books hc)) ?_
        refine aw_aload0 dX2_removeBooking_57 ?_
        refine aw_getI dX2_removeBooking_58 fI_2_42 hc.t hc.l (show _ = g 3 - 1 from if_pos ⟨rfl, rfl⟩) ?_
        refine aw_aload2 dX2_removeBooking_61 ?_
        refine aw_aast (j := i - 1) dX2_removeBooking_62 hc.tB (by decide) (hc.tb (by omega)) (hc.lb (by omega)) hc.lB (by rw [hw.nb]; have := nI_pred (i - 1); rwa [show i - 1 + 1 = i by omega] at this) (by omega) ?_
        exact aw_vret dX2_removeBooking_63 rfl (by decide) eV_of
      · have hlt : i < nb := by
          rcases Nat.lt_or_ge i nb with q | q
          · exact q
          · exact absurd (nI_le q (by omega)) c_20
        refine aw_aload0 dX2_removeBooking_23 ?_
        refine aw_getR dX2_removeBooking_24 fR_2_27 hc.t hc.l ((if_neg (by omega)).trans (sH_books hc)) ?_
        refine aw_iload3 dX2_removeBooking_27 ?_
        refine aw_iconst (v := 1) dX2_removeBooking_28 (by decide) ?_
        refine aw_isub dX2_removeBooking_29 ?_
        refine aw_aload0 dX2_removeBooking_30 ?_
        refine aw_getR dX2_removeBooking_31 fR_2_27 hc.t hc.l ((if_neg (by omega)).trans (sH_books hc)) ?_
        refine aw_iload3 dX2_removeBooking_34 ?_
        refine aw_aald (j := i) dX2_removeBooking_35 hc.tB (by decide) hc.lB rfl (by omega) ((if_neg (by omega)).trans (sH_book (by omega))) ?_
        refine aw_aast (j := i - 1) dX2_removeBooking_36 hc.tB (by decide) (hc.tb (by omega)) (hc.lb (by omega)) hc.lB (by have := nI_pred (i - 1); rwa [show i - 1 + 1 = i by omega] at this) (by omega) ?_
        refine aw_iinc3 (w := nI (i + 1)) dX2_removeBooking_37 (nI_1 i) (by decide) rfl ?_
        refine aw_goto (tgt := 15) dX2_removeBooking_40 (by decide) ?_
        refine AW.eqs (rW_s h0) ?_
        exact ih (i + 1) (by omega) hlt (by omega)
  refine aw_aload0 dX2_removeBooking_0 ?_
  refine aw_iload1 dX2_removeBooking_1 ?_
  refine aw_VA1 (k2_findBooking _ _ _ _ _ _ _ _ _ hc hw) dX2_removeBooking_2 vl_2_84 hc.t hc.l (by decide) (Nat.le_of_ble_eq_true rfl) (fun σ_2 r_2 h_2 => ?_)
  obtain ⟨rfl, h_2⟩ := h_2
  obtain ⟨k_2, hk_2, e_2, rfl⟩ : ∃ k, k < nb ∧ nI b = nI k ∧ r_2 = some (h + 8 + π k) := h_2.elim id (fun q => absurd ⟨b, hb, rfl⟩ q.1)
  have e_2 := (nI_eq (by omega) (by omega)).mp e_2
  subst e_2
  refine aw_astore2 dX2_removeBooking_5 (by decide) rfl ?_
  refine aw_aload2 dX2_removeBooking_6 ?_
  refine aw_ifnn (tgt := 11) dX2_removeBooking_7 (by decide) ?_
  refine aw_iload1 dX2_removeBooking_11 ?_
  refine aw_iconst (v := 1) dX2_removeBooking_12 (by decide) ?_
  refine aw_iadd dX2_removeBooking_13 ?_
  rw [nI_1]
  refine aw_istore3 dX2_removeBooking_14 (by decide) rfl ?_
  refine AW.eqs (σ' := rW (sH σ h π nr ng nb g) h b (b + 1) π) rW_0.symm ?_
  exact L15 nb (b + 1) (Nat.lt_succ_self b) hb (by omega)
