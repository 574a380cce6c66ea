/-! the class: a hall grows -/
/-- the world's hall at h stands for the row -/
def RH (σ : Sg) (h : Nat) (π : Nat → Nat) (nr ng nb : Nat) (g : Rw) : Prop := (∀ j, isI j → σ.1 h j = g (hx j)) ∧ (∀ j, j < ng → σ.1 (h + 2) j = g (25 + j)) ∧ (∀ r j, r < nr → j < 4 → σ.1 (h + 4 + r) j = g (9 + 4 * r + j)) ∧ (∀ b j, b < nb → j < 10 → σ.1 (h + 8 + π b) j = g (31 + 10 * b + bx j)) ∧ ∀ j, j < 12 → σ.2.1 (h + 3) j = some (h + 8 + π j)
theorem RH.eq {σ : Sg} {h nr ng nb : Nat} {π : Nat → Nat} {g : Rw} (H : RH σ h π nr ng nb g) : sH σ h π nr ng nb g = σ := by
  obtain ⟨h1, h2, h3, h4, h5⟩ := H
  refine Prod.ext (funext fun i => funext fun k => ?_) (Prod.ext (funext fun i => funext fun k => ?_) rfl)
  · show @ite _ _ _ _ _ = _
    by_cases e1 : i = h
    · subst e1
      rw [if_pos rfl]
      by_cases e2 : isI k
      · exact (@if_pos _ _ e2 _ _ _).trans (h1 k e2).symm
      · exact @if_neg _ _ e2 _ _ _
    · rw [if_neg e1]
      by_cases e2 : i = h + 2
      · subst e2
        rw [if_pos rfl]
        by_cases e3 : k < ng
        · rw [if_pos e3, h2 k e3]
        · rw [if_neg e3]
      · rw [if_neg e2]
        by_cases e3 : h + 4 ≤ i ∧ i < h + 8
        · rw [if_pos e3]
          by_cases e4 : i < h + 4 + nr ∧ k < 4
          · rw [if_pos e4, ← h3 (i - (h + 4)) k (by omega) e4.2, show h + 4 + (i - (h + 4)) = i by omega]
          · rw [if_neg e4]
        · rw [if_neg e3]
          by_cases e4 : h + 8 ≤ i ∧ i < h + 20
          · rw [if_pos e4]
            by_cases e5 : k < 10
            · rw [if_pos e5]
              match hf : fnd π (i - (h + 8)) nb with
              | none => rfl
              | some b =>
                have := fnd_some hf
                show g (31 + 10 * b + bx k) = σ.1 i k
                rw [← h4 b k this.2 e5, show h + 8 + π b = i by omega]
            · rw [if_neg e5]
          · rw [if_neg e4]
  · show @ite _ _ _ _ _ = _
    by_cases e : i = h + 3 ∧ k < 12
    · obtain ⟨rfl, e2⟩ := e
      rw [if_pos ⟨rfl, e2⟩, h5 k e2]
    · rw [if_neg e]
theorem sH_RH {σ : Sg} {h nr ng nb : Nat} {π : Nat → Nat} {g : Rw} (hc : HC σ h π) (h4 : nr ≤ 4) (h12 : nb ≤ 12) : RH (sH σ h π nr ng nb g) h π nr ng nb g :=
  ⟨fun _ hj => sH_i hj, fun _ hj => sH_o hj, fun _ _ hr hj => sH_r hr h4 hj, fun _ _ hb hj => sH_b hc hb h12 hj, fun _ hj => sH_book hj⟩
section GRO
variable {σ : Sg} {h nr ng nb : Nat} {π : Nat → Nat} {g e : Rw}
theorem sG_r {v : Nat → Int32} (hn : nr < 4) (he : ∀ j, j < 4 → e (9 + 4 * nr + j) = v j) (hg : ∀ j, j < 9 + 4 * nr ∨ 13 + 4 * nr ≤ j → e j = g j) : sB (sH σ h π nr ng nb g) (h + 4 + nr) 4 v = sH σ h π (nr + 1) ng nb e := by
  refine Prod.ext (funext fun i => funext fun k => ?_) rfl
  show @ite _ _ _ _ _ = _
  by_cases q : i = h + 4 + nr ∧ k < 4
  · obtain ⟨rfl, q2⟩ := q
    rw [if_pos ⟨rfl, q2⟩, sH_r (by omega) (by omega) q2, he k q2]
  · rw [if_neg q]
    refine Eq.trans (sH_ext (e := e) (fun _ hk => (hg _ (by have := hx_lt (j := k); omega)).symm) (fun e1 hk => ?_) (fun r hr hr4 e1 hk => (hg _ (by omega)).symm) (fun b hb e1 hk => (hg _ (by omega)).symm)) ?_
    · exact (hg _ (by omega)).symm
    · have hh : (i < h + 4 + nr ∧ k < 4) ↔ (i < h + 4 + (nr + 1) ∧ k < 4) := by omega
      show @ite _ _ _ _ _ = @ite _ _ _ _ _
      simp only [hh]
theorem sG_g {v : Int32} (hn : ng < 6) (he : e (25 + ng) = v) (hg : ∀ j, j ≠ 25 + ng → e j = g j) : sI (sH σ h π nr ng nb g) (h + 2) ng v = sH σ h π nr (ng + 1) nb e := by
  refine Prod.ext (funext fun i => funext fun k => ?_) rfl
  show @ite _ _ _ _ _ = _
  by_cases q : i = h + 2 ∧ k = ng
  · obtain ⟨rfl, rfl⟩ := q
    rw [if_pos ⟨rfl, rfl⟩, sH_o (by omega), he]
  · rw [if_neg q]
    refine Eq.trans (sH_ext (e := e) (fun _ hk => (hg _ (by have := hx_lt (j := k); omega)).symm) (fun e1 hk => (hg _ (by omega)).symm) (fun r hr hr4 e1 hk => (hg _ (by omega)).symm) (fun b hb e1 hk => (hg _ (by omega)).symm)) ?_
    by_cases e2 : i = h + 2
    · have hh : k < ng ↔ k < ng + 1 := by
        have : k ≠ ng := fun e3 => q ⟨e2, e3⟩
        omega
      show @ite _ _ _ _ _ = @ite _ _ _ _ _
      simp only [hh]
    · show @ite _ _ _ _ _ = @ite _ _ _ _ _
      rw [if_neg e2, if_neg e2]
theorem sG_b {v : Nat → Int32} (c : HC σ h π) (hn : nb < 12) (h6 : ng ≤ 6) (he : ∀ j, j < 10 → e (31 + 10 * nb + bx j) = v j) (hg : ∀ j, j < 31 + 10 * nb → e j = g j) : sB (sH σ h π nr ng nb g) (h + 8 + π nb) 10 v = sH σ h π nr ng (nb + 1) e := by
  refine Prod.ext (funext fun i => funext fun k => ?_) rfl
  have hpn := c.2.2.1 nb hn
  show @ite _ _ _ _ _ = _
  by_cases q : i = h + 8 + π nb ∧ k < 10
  · obtain ⟨rfl, q2⟩ := q
    rw [if_pos ⟨rfl, q2⟩, sH_b c (by omega) (by omega) q2, he k q2]
  · rw [if_neg q]
    refine Eq.trans (sH_ext (e := e) (fun _ hk => (hg _ (by have := hx_lt (j := k); omega)).symm) (fun e1 hk => (hg _ (by omega)).symm) (fun r hr hr4 e1 hk => (hg _ (by omega)).symm) (fun b hb e1 hk => (hg _ (by have := bx_lt hk; omega)).symm)) ?_
    show @ite _ _ _ _ _ = @ite _ _ _ _ _
    by_cases e1 : i = h
    · rw [if_pos e1, if_pos e1]
    · rw [if_neg e1, if_neg e1]
      by_cases e2 : i = h + 2
      · rw [if_pos e2, if_pos e2]
      · rw [if_neg e2, if_neg e2]
        by_cases e3 : h + 4 ≤ i ∧ i < h + 8
        · rw [if_pos e3, if_pos e3]
        · rw [if_neg e3, if_neg e3]
          by_cases e4 : h + 8 ≤ i ∧ i < h + 20
          · rw [if_pos e4, if_pos e4]
            by_cases e5 : k < 10
            · rw [if_pos e5, if_pos e5]
              have : fnd π (i - (h + 8)) (nb + 1) = fnd π (i - (h + 8)) nb := by
                show @ite _ _ _ _ _ = _
                rw [if_neg (fun e6 => q ⟨by omega, e5⟩)]
              rw [this]
            · rw [if_neg e5, if_neg e5]
          · rw [if_neg e4, if_neg e4]
end GRO
def fAR4 (g : Rw) (nr : Nat) (s l p t : Int32) : Rw := upd (upd (upd (upd g (9 + 4 * nr + 0) s) (9 + 4 * nr + 1) l) (9 + 4 * nr + 2) p) (9 + 4 * nr + 3) t
theorem fAR4_row {g : Rw} {nr : Nat} {s l p t : Int32} : (∀ j, j < 4 → fAR4 g nr s l p t (9 + 4 * nr + j) = rmV s l p t j) ∧ ∀ j, j < 9 + 4 * nr ∨ 13 + 4 * nr ≤ j → fAR4 g nr s l p t j = g j := by
  unfold fAR4
  refine ⟨fun j hj => ?_, fun j hj => ?_⟩
  · have : j = 0 ∨ j = 1 ∨ j = 2 ∨ j = 3 := by omega
    rcases this with rfl | rfl | rfl | rfl
    all_goals
      simp (disch := omega) only [upd_s, upd_n]
      rfl
  · simp (disch := omega) only [upd_n]
def fB5 (g : Rw) (nb : Nat) (r w f h t : Int32) : Rw := upd (upd (upd (upd (upd (fZero g nb 10) (31 + 10 * nb + 0) r) (31 + 10 * nb + 1) w) (31 + 10 * nb + 2) f) (31 + 10 * nb + 3) h) (31 + 10 * nb + 4) t
theorem fB5_row {g : Rw} {nb : Nat} {r w f h t : Int32} : (∀ j, j < 10 → fB5 g nb r w f h t (31 + 10 * nb + bx j) = bkV r w f h t j) ∧ ∀ j, j < 31 + 10 * nb → fB5 g nb r w f h t j = g j := by
  unfold fB5
  refine ⟨fun j hj => ?_, fun j hj => ?_⟩
  · have : j = 0 ∨ j = 1 ∨ j = 2 ∨ j = 3 ∨ j = 4 ∨ (5 ≤ j ∧ 5 ≤ bx j ∧ bx j < 10) := by
      have := bx_lt hj
      rcases Nat.lt_or_ge j 5 with q | q
      · omega
      · have : 5 ≤ bx j := by unfold bx; (repeat' split) <;> omega
        omega
    rcases this with rfl | rfl | rfl | rfl | rfl | ⟨h1, h2, h3⟩
    · show upd _ _ _ (31 + 10 * nb + 0) = r
      simp (disch := omega) only [upd_s, upd_n]
    · show upd _ _ _ (31 + 10 * nb + 1) = w
      simp (disch := omega) only [upd_s, upd_n]
    · show upd _ _ _ (31 + 10 * nb + 2) = f
      simp (disch := omega) only [upd_s, upd_n]
    · show upd _ _ _ (31 + 10 * nb + 3) = h
      simp (disch := omega) only [upd_s, upd_n]
    · show upd _ _ _ (31 + 10 * nb + 4) = t
      simp (disch := omega) only [upd_s, upd_n]
    · simp (disch := omega) only [upd_n]
      rw [fZero_in _ _ (by omega) (by omega), bkV, if_neg (by omega), if_neg (by omega), if_neg (by omega), if_neg (by omega), if_neg (by omega)]
  · simp (disch := omega) only [upd_n]
    exact fZero_off _ _ (by omega)
set_option maxHeartbeats 4000000 in
theorem k2_newRoom (σ : Sg) (h : Nat) (π : Nat → Nat) (nr ng nb t : Nat) (g : Rw) (s l p u : Int32) (hc : HC σ h π) (hw : WF g nr ng nb t) (hn : nr < 4) : Ct yX2_newRoom cX2_newRoom mX2_newRoom 2 0 0 NN false (sH σ h π nr ng nb g) [.ref h, .int s, .int l, .int p, .int u] NN (rI fun σ2 v => sH σ h π (nr + 1) ng nb (fAddRoom g nr s l p u) = σ2 ∧ nI nr = v) XF := by
  refine ct_of (ls0 := [some (.ref h), some (.int s), some (.int l), some (.int p), some (.int u)]) 0 (by decide +kernel) rfl rfl (ndR (ndI (ndI (ndI (ndI nd0))))) rfl (Nat.le_of_ble_eq_true rfl) (fun K => ?_)
  have hnr4 := hw.nr4
  have hng6 := hw.ng6
  have hnb12 := hw.nb12
  refine aw_aload0 dX2_newRoom_0 ?_
  refine aw_getI dX2_newRoom_1 fI_2_36 hc.t hc.l (sH_nr.trans hw.nr) ?_
  refine aw_aload0 dX2_newRoom_4 ?_
  refine aw_getR dX2_newRoom_5 fR_2_17 hc.t hc.l (sH_rooms hc) ?_
  refine aw_alen dX2_newRoom_8 hc.tR hc.lR ?_
  refine aw_ic_lt (tgt := 15) dX2_newRoom_9 (by decide) (fun c_9 => ?_) (fun c_9 => absurd (nI_lt hn (by omega)) c_9)
  refine aw_aload0 dX2_newRoom_15 ?_
  refine aw_getR dX2_newRoom_16 fR_2_17 hc.t hc.l (sH_rooms hc) ?_
  refine aw_aload0 dX2_newRoom_19 ?_
  refine aw_getI dX2_newRoom_20 fI_2_36 hc.t hc.l (sH_nr.trans hw.nr) ?_
  refine aw_aald (j := nr) dX2_newRoom_23 hc.tR (by decide) hc.lR rfl (by omega) (sH_room hc (by omega)) ?_
  refine aw_iload1 dX2_newRoom_24 ?_
  refine aw_iload2 dX2_newRoom_25 ?_
  refine aw_iload3 dX2_newRoom_26 ?_
  refine aw_iload4 dX2_newRoom_27 ?_
  refine aw_VV4 (k5_become _ _ _ _ _ _ (hc.tr (by omega)) (hc.lr (by omega))) dX2_newRoom_29 vl_2_70 (hc.tr (by omega)) (hc.lr (by omega)) (by decide) (Nat.le_of_ble_eq_true rfl) (fun σ_29 h_29 => ?_)
  obtain rfl := h_29
  refine AW.eqs (sG_r (e := fAR4 g nr s l p u) hn fAR4_row.1 fAR4_row.2) ?_
  refine aw_aload0 dX2_newRoom_32 ?_
  refine aw_dup dX2_newRoom_33 rfl ?_
  refine aw_getI dX2_newRoom_34 fI_2_36 hc.t hc.l (show _ = fAR4 g nr s l p u 1 from sH_nr) ?_
  refine aw_iconst (v := 1) dX2_newRoom_37 (by decide) ?_
  refine aw_iadd dX2_newRoom_38 ?_
  refine aw_putI dX2_newRoom_39 fP_2_36 hc.t hc.l ?_
  refine AW.eqs (sW_i (j := 3) (by unfold isI; omega)) ?_
  refine aw_aload0 dX2_newRoom_42 ?_
  refine aw_getI dX2_newRoom_43 fI_2_36 hc.t hc.l (show _ = fAR4 g nr s l p u 1 + 1 from sH_nr.trans upd_s) ?_
  refine aw_iconst (v := 1) dX2_newRoom_46 (by decide) ?_
  refine aw_isub dX2_newRoom_47 ?_
  exact aw_iret dX2_newRoom_48 rfl (by decide) ⟨_, rfl, rfl, by rw [show fAR4 g nr s l p u 1 = nI nr from (fAR4_row.2 1 (by omega)).trans hw.nr, nI_1, nI_pred]⟩
set_option maxHeartbeats 4000000 in
theorem k2_newGroup (σ : Sg) (h : Nat) (π : Nat → Nat) (nr ng nb t : Nat) (g : Rw) (hc : HC σ h π) (hw : WF g nr ng nb t) (hn : ng < 6) : Ct yX2_newGroup cX2_newGroup mX2_newGroup 1 0 0 NN false (sH σ h π nr ng nb g) [.ref h] NN (rI fun σ2 v => sH σ h π nr (ng + 1) nb (fAddGroup g ng) = σ2 ∧ nI ng = v) XF := by
  refine ct_of (ls0 := [some (.ref h)]) 0 (by decide +kernel) rfl rfl (ndR nd0) rfl (Nat.le_of_ble_eq_true rfl) (fun K => ?_)
  have hnr4 := hw.nr4
  have hng6 := hw.ng6
  have hnb12 := hw.nb12
  refine aw_aload0 dX2_newGroup_0 ?_
  refine aw_getI dX2_newGroup_1 fI_2_39 hc.t hc.l (sH_ng.trans hw.ng) ?_
  refine aw_aload0 dX2_newGroup_4 ?_
  refine aw_getR dX2_newGroup_5 fR_2_21 hc.t hc.l (sH_owed hc) ?_
  refine aw_alen dX2_newGroup_8 hc.tO hc.lO ?_
  refine aw_ic_lt (tgt := 15) dX2_newGroup_9 (by decide) (fun c_9 => ?_) (fun c_9 => absurd (nI_lt hn (by omega)) c_9)
  refine aw_aload0 dX2_newGroup_15 ?_
  refine aw_getR dX2_newGroup_16 fR_2_21 hc.t hc.l (sH_owed hc) ?_
  refine aw_aload0 dX2_newGroup_19 ?_
  refine aw_getI dX2_newGroup_20 fI_2_39 hc.t hc.l (sH_ng.trans hw.ng) ?_
  refine aw_iconst (v := 0) dX2_newGroup_23 (by decide) ?_
  refine aw_iast (j := ng) dX2_newGroup_24 hc.tO hc.lO rfl (by omega) ?_
  refine AW.eqs (sG_g (e := upd g (25 + ng) 0) hn upd_s (fun j hj => upd_n hj)) ?_
  refine aw_aload0 dX2_newGroup_25 ?_
  refine aw_dup dX2_newGroup_26 rfl ?_
  refine aw_getI dX2_newGroup_27 fI_2_39 hc.t hc.l (show _ = upd g (25 + ng) 0 2 from sH_ng) ?_
  refine aw_iconst (v := 1) dX2_newGroup_30 (by decide) ?_
  refine aw_iadd dX2_newGroup_31 ?_
  refine aw_putI dX2_newGroup_32 fP_2_39 hc.t hc.l ?_
  refine AW.eqs (sW_i (j := 5) (by unfold isI; omega)) ?_
  refine aw_aload0 dX2_newGroup_35 ?_
  refine aw_getI dX2_newGroup_36 fI_2_39 hc.t hc.l (show _ = upd g (25 + ng) 0 2 + 1 from sH_ng.trans upd_s) ?_
  refine aw_iconst (v := 1) dX2_newGroup_39 (by decide) ?_
  refine aw_isub dX2_newGroup_40 ?_
  exact aw_iret dX2_newGroup_41 rfl (by decide) ⟨_, rfl, rfl, by rw [show upd g (25 + ng) 0 2 = nI ng from (upd_n (by omega)).trans hw.ng, nI_1, nI_pred]⟩
set_option maxHeartbeats 4000000 in
theorem k2_newBooking (σ : Sg) (h : Nat) (π : Nat → Nat) (nr ng nb t : Nat) (g : Rw) (r w f hh u : Int32) (hc : HC σ h π) (hw : WF g nr ng nb t) (hn : nb < 12) : Ct yX2_newBooking cX2_newBooking mX2_newBooking 2 0 0 NN false (sH σ h π nr ng nb g) [.ref h, .int r, .int w, .int f, .int hh, .int u] NN (rI fun σ2 v => sH σ h π nr ng (nb + 1) (fBookTo g nb r w f hh u) = σ2 ∧ nI nb = v) XF := by
  refine ct_of (ls0 := [some (.ref h), some (.int r), some (.int w), some (.int f), some (.int hh), some (.int u)]) 0 (by decide +kernel) rfl rfl (ndR (ndI (ndI (ndI (ndI (ndI nd0)))))) rfl (Nat.le_of_ble_eq_true rfl) (fun K => ?_)
  have hnr4 := hw.nr4
  have hng6 := hw.ng6
  have hnb12 := hw.nb12
  refine aw_aload0 dX2_newBooking_0 ?_
  refine aw_getI dX2_newBooking_1 fI_2_42 hc.t hc.l (sH_nb.trans hw.nb) ?_
  refine aw_aload0 dX2_newBooking_4 ?_
  refine aw_getR dX2_newBooking_5 fR_2_27 hc.t hc.l (sH_books hc) ?_
  refine aw_alen dX2_newBooking_8 hc.tB hc.lB ?_
  refine aw_ic_lt (tgt := 15) dX2_newBooking_9 (by decide) (fun c_9 => ?_) (fun c_9 => absurd (nI_lt hn (by omega)) c_9)
  refine aw_aload0 dX2_newBooking_15 ?_
  refine aw_getR dX2_newBooking_16 fR_2_27 hc.t hc.l (sH_books hc) ?_
  refine aw_aload0 dX2_newBooking_19 ?_
  refine aw_getI dX2_newBooking_20 fI_2_42 hc.t hc.l (sH_nb.trans hw.nb) ?_
  refine aw_aald (j := nb) dX2_newBooking_23 hc.tB (by decide) hc.lB rfl (by omega) (sH_book (by omega)) ?_
  refine aw_iload1 dX2_newBooking_24 ?_
  refine aw_iload2 dX2_newBooking_25 ?_
  refine aw_iload3 dX2_newBooking_26 ?_
  refine aw_iload4 dX2_newBooking_27 ?_
  refine aw_iload5 dX2_newBooking_29 ?_
  refine aw_VV5 (k0_become _ _ _ _ _ _ _ (hc.tb (by omega)) (hc.lb (by omega))) dX2_newBooking_31 vl_2_81 (hc.tb (by omega)) (hc.lb (by omega)) (by decide) (Nat.le_of_ble_eq_true rfl) (fun σ_31 h_31 => ?_)
  obtain rfl := h_31
  refine AW.eqs (sG_b (e := fB5 g nb r w f hh u) hc hn hng6 fB5_row.1 fB5_row.2) ?_
  refine aw_aload0 dX2_newBooking_34 ?_
  refine aw_dup dX2_newBooking_35 rfl ?_
  refine aw_getI dX2_newBooking_36 fI_2_42 hc.t hc.l (show _ = fB5 g nb r w f hh u 3 from sH_nb) ?_
  refine aw_iconst (v := 1) dX2_newBooking_39 (by decide) ?_
  refine aw_iadd dX2_newBooking_40 ?_
  refine aw_putI dX2_newBooking_41 fP_2_42 hc.t hc.l ?_
  refine AW.eqs (sW_i (j := 7) (by unfold isI; omega)) ?_
  refine aw_aload0 dX2_newBooking_44 ?_
  refine aw_getI dX2_newBooking_45 fI_2_42 hc.t hc.l (show _ = fB5 g nb r w f hh u 3 + 1 from sH_nb.trans upd_s) ?_
  refine aw_iconst (v := 1) dX2_newBooking_48 (by decide) ?_
  refine aw_isub dX2_newBooking_49 ?_
  exact aw_iret dX2_newBooking_50 rfl (by decide) ⟨_, rfl, rfl, by rw [show fB5 g nb r w f hh u 3 = nI nb from (fB5_row.2 3 (by omega)).trans hw.nb, nI_1, nI_pred]⟩
