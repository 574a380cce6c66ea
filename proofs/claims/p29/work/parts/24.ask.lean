/-! the class: what a hall answers -/
theorem fCur_spec {g : Rw} {r : Nat} : ∀ {k b : Nat}, fCur g r k = some b → curP g r b
  | 0, _, h => nomatch h
  | k + 1, b, h => by
    unfold fCur at h
    split at h
    · rename_i e; cases h; exact curD_iff.mp e
    · exact fCur_spec h
theorem fCur_none {g : Rw} {r : Nat} : ∀ {k : Nat}, (∀ c, c < k → ¬ curP g r c) → fCur g r k = none
  | 0, _ => rfl
  | k + 1, h => by
    unfold fCur
    rw [if_neg (fun e => h k (Nat.lt_succ_self k) (curD_iff.mp e))]
    exact fCur_none (fun c hc => h c (by omega))
theorem WF.cur1 {g : Rw} {nr ng nb t r b c : Nat} (hw : WF g nr ng nb t) (hb : b < nb) (hc : c < nb) (h1 : curP g r b) (h2 : curP g r c) : b = c := by
  rcases Nat.lt_trichotomy b c with q | q | q
  · rcases hw.2.2.2.2 b c hb hc (by omega) (h1.1.trans h2.1.symm) with h | h
    · exact absurd (Int32.le_trans h h2.2.1) h1.2.2
    · exact absurd (Int32.le_trans h h1.2.1) h2.2.2
  · exact q
  · rcases hw.2.2.2.2 b c hb hc (by omega) (h1.1.trans h2.1.symm) with h | h
    · exact absurd (Int32.le_trans h h2.2.1) h1.2.2
    · exact absurd (Int32.le_trans h h1.2.1) h2.2.2
theorem WF.cur {g : Rw} {nr ng nb t r b : Nat} (hw : WF g nr ng nb t) (hb : b < nb) (h : curP g r b) : fCur g r nb = some b := by
  match hf : fCur g r nb with
  | none =>
    have key : ∀ k, b < k → fCur g r k = none → False := fun k => by
      induction k with
      | zero => intro h2; omega
      | succ k ih =>
        intro h2 h3
        unfold fCur at h3
        split at h3
        · cases h3
        · rename_i e
          rcases Nat.lt_or_ge b k with q | q
          · exact ih q h3
          · exact e (curD_iff.mpr (by rw [show k = b by omega]; exact h))
    exact (key nb hb hf).elim
  | some c => rw [hw.cur1 (fCur_lt hf) hb (fCur_spec hf) h]
def nFi (g : Rw) (o : Option Nat) : Int32 := match o with
  | none => 200
  | some f => g (31 + 10 * f + 2)
theorem nFi_lt {g : Rw} {nr ng nb t b : Nat} {o : Option Nat} (hw : WF g nr ng nb t) (hb : b < nb) : g (31 + 10 * b + 2) < nFi g o ↔ ∀ f, o = some f → g (31 + 10 * b + 2) < g (31 + 10 * f + 2) := by
  cases o with
  | none =>
    obtain ⟨f, h1, h2⟩ := hw.first hb
    exact ⟨fun _ _ e => (nomatch e), fun _ => by rw [h2]; exact nI_lt (b := 200) h1 (by omega)⟩
  | some f => exact ⟨fun h f2 e => by cases e; exact h, fun h => h f rfl⟩
set_option maxHeartbeats 4000000 in
theorem k2_findRoom (σ : Sg) (h : Nat) (π : Nat → Nat) (nr ng nb t : Nat) (g : Rw) (r : Int32) (hc : HC σ h π) (hw : WF g nr ng nb t) : Ct yX2_findRoom cX2_findRoom mX2_findRoom 1 0 0 NN false (sH σ h π nr ng nb g) [.ref h, .int r] NN (rA fun σ2 a => (sH σ h π nr ng nb g) = σ2 ∧ ((∃ k, k < nr ∧ r = nI k ∧ a = some (h + 4 + k)) ∨ (¬ isN r nr ∧ a = none))) XF := by
  refine ct_of (ls0 := [some (.ref h), some (.int r)]) 0 (by decide +kernel) rfl rfl (ndR (ndI nd0)) rfl (Nat.le_of_ble_eq_true rfl) (fun K => ?_)
  have hnr4 := hw.nr4
  have hng6 := hw.ng6
  have hnb12 := hw.nb12
  refine aw_iload1 dX2_findRoom_0 ?_
  refine aw_if_lt (tgt := 21) dX2_findRoom_1 (by decide) (fun c_1 => ?_) (fun c_1 => ?_)
  · refine aw_null dX2_findRoom_21 ?_
    exact aw_aretN dX2_findRoom_22 rfl (by decide) ⟨none, rfl, rfl, Or.inr ⟨fun q => (by
      have q2 := (isN_lt (n := nr) (by omega)).mpr q
      first
        | exact Int32.not_lt.mpr q2.1 c_1
        | exact Int32.not_lt.mpr c_9 q2.2), rfl⟩⟩
  · refine aw_iload1 dX2_findRoom_4 ?_
    refine aw_aload0 dX2_findRoom_5 ?_
    refine aw_getI dX2_findRoom_6 fI_2_36 hc.t hc.l (sH_nr.trans hw.nr) ?_
    refine aw_ic_ge (tgt := 21) dX2_findRoom_9 (by decide) (fun c_9 => ?_) (fun c_9 => ?_)
    · refine aw_null dX2_findRoom_21 ?_
      exact aw_aretN dX2_findRoom_22 rfl (by decide) ⟨none, rfl, rfl, Or.inr ⟨fun q => (by
        have q2 := (isN_lt (n := nr) (by omega)).mpr q
        first
          | exact Int32.not_lt.mpr q2.1 c_1
          | exact Int32.not_lt.mpr c_9 q2.2), rfl⟩⟩
    · obtain ⟨k, hk, rfl⟩ := (isN_lt (n := nr) (by omega)).mp ⟨Int32.not_lt.mp c_1, Int32.not_le.mp c_9⟩
      refine aw_aload0 dX2_findRoom_12 ?_
      refine aw_getR dX2_findRoom_13 fR_2_17 hc.t hc.l (sH_rooms hc) ?_
      refine aw_iload1 dX2_findRoom_16 ?_
      refine aw_aald (j := k) dX2_findRoom_17 hc.tR (by decide) hc.lR rfl (by omega) (sH_room hc (by omega)) ?_
      refine aw_goto (tgt := 22) dX2_findRoom_18 (by decide) ?_
      exact aw_aret dX2_findRoom_22 rfl (by decide) ⟨some _, rfl, rfl, Or.inl ⟨k, hk, rfl, rfl⟩⟩
set_option maxHeartbeats 4000000 in
theorem k2_findBooking (σ : Sg) (h : Nat) (π : Nat → Nat) (nr ng nb t : Nat) (g : Rw) (r : Int32) (hc : HC σ h π) (hw : WF g nr ng nb t) : Ct yX2_findBooking cX2_findBooking mX2_findBooking 1 0 0 NN false (sH σ h π nr ng nb g) [.ref h, .int r] NN (rA fun σ2 a => (sH σ h π nr ng nb g) = σ2 ∧ ((∃ k, k < nb ∧ r = nI k ∧ a = some (h + 8 + π k)) ∨ (¬ isN r nb ∧ a = none))) XF := by
  refine ct_of (ls0 := [some (.ref h), some (.int r)]) 0 (by decide +kernel) rfl rfl (ndR (ndI nd0)) rfl (Nat.le_of_ble_eq_true rfl) (fun K => ?_)
  have hnr4 := hw.nr4
  have hng6 := hw.ng6
  have hnb12 := hw.nb12
  refine aw_iload1 dX2_findBooking_0 ?_
  refine aw_if_lt (tgt := 21) dX2_findBooking_1 (by decide) (fun c_1 => ?_) (fun c_1 => ?_)
  · refine aw_null dX2_findBooking_21 ?_
    exact aw_aretN dX2_findBooking_22 rfl (by decide) ⟨none, rfl, rfl, Or.inr ⟨fun q => (by
      have q2 := (isN_lt (n := nb) (by omega)).mpr q
      first
        | exact Int32.not_lt.mpr q2.1 c_1
        | exact Int32.not_lt.mpr c_9 q2.2), rfl⟩⟩
  · refine aw_iload1 dX2_findBooking_4 ?_
    refine aw_aload0 dX2_findBooking_5 ?_
    refine aw_getI dX2_findBooking_6 fI_2_42 hc.t hc.l (sH_nb.trans hw.nb) ?_
    refine aw_ic_ge (tgt := 21) dX2_findBooking_9 (by decide) (fun c_9 => ?_) (fun c_9 => ?_)
    · refine aw_null dX2_findBooking_21 ?_
      exact aw_aretN dX2_findBooking_22 rfl (by decide) ⟨none, rfl, rfl, Or.inr ⟨fun q => (by
        have q2 := (isN_lt (n := nb) (by omega)).mpr q
        first
          | exact Int32.not_lt.mpr q2.1 c_1
          | exact Int32.not_lt.mpr c_9 q2.2), rfl⟩⟩
    · obtain ⟨k, hk, rfl⟩ := (isN_lt (n := nb) (by omega)).mp ⟨Int32.not_lt.mp c_1, Int32.not_le.mp c_9⟩
      refine aw_aload0 dX2_findBooking_12 ?_
      refine aw_getR dX2_findBooking_13 fR_2_27 hc.t hc.l (sH_books hc) ?_
      refine aw_iload1 dX2_findBooking_16 ?_
      refine aw_aald (j := k) dX2_findBooking_17 hc.tB (by decide) hc.lB rfl (by omega) (sH_book (by omega)) ?_
      refine aw_goto (tgt := 22) dX2_findBooking_18 (by decide) ?_
      exact aw_aret dX2_findBooking_22 rfl (by decide) ⟨some _, rfl, rfl, Or.inl ⟨k, hk, rfl, rfl⟩⟩
set_option maxHeartbeats 4000000 in
theorem k2_hasGroup (σ : Sg) (h : Nat) (π : Nat → Nat) (nr ng nb t : Nat) (g : Rw) (r : Int32) (hc : HC σ h π) (hw : WF g nr ng nb t) : Ct yX2_hasGroup cX2_hasGroup mX2_hasGroup 1 0 0 NN false (sH σ h π nr ng nb g) [.ref h, .int r] NN (eZ1 (sH σ h π nr ng nb g) (isN r ng)) XF := by
  refine ct_of (ls0 := [some (.ref h), some (.int r)]) 0 (by decide +kernel) rfl rfl (ndR (ndI nd0)) rfl (Nat.le_of_ble_eq_true rfl) (fun K => ?_)
  have hnr4 := hw.nr4
  have hng6 := hw.ng6
  have hnb12 := hw.nb12
  refine aw_iload1 dX2_hasGroup_0 ?_
  refine aw_if_lt (tgt := 16) dX2_hasGroup_1 (by decide) (fun c_1 => ?_) (fun c_1 => ?_)
  · refine aw_iconst (v := 0) dX2_hasGroup_16 (by decide) ?_
    exact aw_zret dX2_hasGroup_17 rfl (by decide) (by decide) (eZ_0 (fun q => by
      have q2 := (isN_lt (n := ng) (by omega)).mpr q
      first
        | exact Int32.not_lt.mpr q2.1 c_1
        | exact Int32.not_lt.mpr c_9 q2.2))
  · refine aw_iload1 dX2_hasGroup_4 ?_
    refine aw_aload0 dX2_hasGroup_5 ?_
    refine aw_getI dX2_hasGroup_6 fI_2_39 hc.t hc.l (sH_ng.trans hw.ng) ?_
    refine aw_ic_ge (tgt := 16) dX2_hasGroup_9 (by decide) (fun c_9 => ?_) (fun c_9 => ?_)
    · refine aw_iconst (v := 0) dX2_hasGroup_16 (by decide) ?_
      exact aw_zret dX2_hasGroup_17 rfl (by decide) (by decide) (eZ_0 (fun q => by
        have q2 := (isN_lt (n := ng) (by omega)).mpr q
        first
          | exact Int32.not_lt.mpr q2.1 c_1
          | exact Int32.not_lt.mpr c_9 q2.2))
    · refine aw_iconst (v := 1) dX2_hasGroup_12 (by decide) ?_
      refine aw_goto (tgt := 17) dX2_hasGroup_13 (by decide) ?_
      exact aw_zret dX2_hasGroup_17 rfl (by decide) (by decide) (eZ_1 ((isN_lt (by omega)).mp ⟨Int32.not_lt.mp c_1, Int32.not_le.mp c_9⟩))
set_option maxHeartbeats 4000000 in
theorem k2_bookingOfNow (σ : Sg) (h : Nat) (π : Nat → Nat) (nr ng nb t : Nat) (g : Rw) (r : Nat) (hc : HC σ h π) (hw : WF g nr ng nb t) (hr : r < 1000) : Ct yX2_bookingOfNow cX2_bookingOfNow mX2_bookingOfNow 2 0 0 NN false (sH σ h π nr ng nb g) [.ref h, .int (nI r)] NN (eI1 (sH σ h π nr ng nb g) (oI (fCur g r nb))) XF := by
  refine ct_of (ls0 := [some (.ref h), some (.int (nI r)), none]) 1 (by decide +kernel) rfl rfl (ndR (ndI nd0)) rfl (Nat.le_of_ble_eq_true rfl) (fun K => ?_)
  have hnr4 := hw.nr4
  have hng6 := hw.ng6
  have hnb12 := hw.nb12
  have L2 : ∀ (k : Nat) (b : Nat) (h1 : b ≤ nb) (hN : ∀ c, c < b → ¬ curP g r c) (h2 : nb - b < k), AW K RX2 cX2_bookingOfNow mX2_bookingOfNow 2 0 0 (Qm K NN (eI1 (sH σ h π nr ng nb g) (oI (fCur g r nb))) XF 0 0) NN none (sH σ h π nr ng nb g) 0 0 2 [some (.ref h), some (.int (nI r)), some (.int (nI b))] [] := by
    intro k
    induction k with
    | zero => intro b h1 hN h2; exact absurd h2 (Nat.not_lt_zero _)
    | succ k ih =>
      intro b h1 hN h2
      refine aw_iload2 dX2_bookingOfNow_2 ?_
      refine aw_aload0 dX2_bookingOfNow_3 ?_
      refine aw_getI dX2_bookingOfNow_4 fI_2_42 hc.t hc.l (sH_nb.trans hw.nb) ?_
      refine aw_ic_ge (tgt := 47) dX2_bookingOfNow_7 (by decide) (fun c_7 => ?_) (fun c_7 => ?_)
      · have hbb : b = nb := by
          have := (nI_leI (by omega) (by omega)).mp c_7
          omega
        subst hbb
        refine aw_bipush (v := (-99)) dX2_bookingOfNow_47 (by decide) ?_
        exact aw_iret dX2_bookingOfNow_49 rfl (by decide) (eI_to (by rw [fCur_none hN]; rfl))
      · have hlt : b < nb := by
          rcases Nat.lt_or_ge b nb with q | q
          · exact q
          · exact absurd (nI_le q (by omega)) c_7
        refine aw_aload0 dX2_bookingOfNow_10 ?_
        refine aw_getR dX2_bookingOfNow_11 fR_2_27 hc.t hc.l (sH_books hc) ?_
        refine aw_iload2 dX2_bookingOfNow_14 ?_
        refine aw_aald (j := b) dX2_bookingOfNow_15 hc.tB (by decide) hc.lB rfl (by omega) (sH_book (by omega)) ?_
        refine aw_getI dX2_bookingOfNow_16 fI_2_74 (hc.tb (by omega)) (hc.lb (by omega)) (show _ = g (31 + 10 * b + 0) from sH_b hc hlt hw.nb12 (by decide)) ?_
        refine aw_iload1 dX2_bookingOfNow_19 ?_
        refine aw_ic_ne (tgt := 41) dX2_bookingOfNow_20 (by decide) (fun c_20 => ?_) (fun c_20 => ?_)
        · refine aw_iinc2 (w := nI (b + 1)) dX2_bookingOfNow_41 (nI_1 b) (by decide) rfl ?_
          refine aw_goto (tgt := 2) dX2_bookingOfNow_44 (by decide) ?_
          refine ih (b + 1) hlt (fun c hc2 hq => ?_) (by omega)
          rcases Nat.lt_or_ge c b with q | q
          · exact hN c q hq
          · rw [show c = b by omega] at hq
            first
              | exact c_20 hq.1
              | exact p_33 ⟨hq.2.1, Int32.not_le.mp hq.2.2⟩
        · refine aw_aload0 dX2_bookingOfNow_23 ?_
          refine aw_getR dX2_bookingOfNow_24 fR_2_27 hc.t hc.l (sH_books hc) ?_
          refine aw_iload2 dX2_bookingOfNow_27 ?_
          refine aw_aald (j := b) dX2_bookingOfNow_28 hc.tB (by decide) hc.lB rfl (by omega) (sH_book (by omega)) ?_
          refine aw_aload0 dX2_bookingOfNow_29 ?_
          refine aw_getI dX2_bookingOfNow_30 fI_2_33 hc.t hc.l sH_hour ?_
          refine aw_VI1 (k0_has _ _ _ (fun k => g (31 + 10 * b + k)) (fun j hj => sH_b hc (by omega) hw.nb12 hj) (hc.tb (by omega)) (hc.lb (by omega))) dX2_bookingOfNow_33 vl_2_88 (hc.tb (by omega)) (hc.lb (by omega)) (by decide) (Nat.le_of_ble_eq_true rfl) (fun σ_33 r_33 h_33 => ?_)
          obtain ⟨rfl, h_33⟩ := h_33
          rcases h_33 with ⟨rfl, p_33⟩ | ⟨rfl, p_33⟩
          · refine aw_if_eq (tgt := 41) dX2_bookingOfNow_36 (by decide) (fun c_36 => absurd c_36 (by decide)) (fun _ => ?_)
            refine aw_iload2 dX2_bookingOfNow_39 ?_
            exact aw_iret dX2_bookingOfNow_40 rfl (by decide) (eI_to (by rw [hw.cur (r := r) hlt ⟨c_20, p_33.1, Int32.not_le.mpr p_33.2⟩]; rfl))
          · refine aw_if_eq (tgt := 41) dX2_bookingOfNow_36 (by decide) (fun _ => ?_) (fun c_36 => absurd c_36 (by decide))
            refine aw_iinc2 (w := nI (b + 1)) dX2_bookingOfNow_41 (nI_1 b) (by decide) rfl ?_
            refine aw_goto (tgt := 2) dX2_bookingOfNow_44 (by decide) ?_
            refine ih (b + 1) hlt (fun c hc2 hq => ?_) (by omega)
            rcases Nat.lt_or_ge c b with q | q
            · exact hN c q hq
            · rw [show c = b by omega] at hq
              first
                | exact c_20 hq.1
                | exact p_33 ⟨hq.2.1, Int32.not_le.mp hq.2.2⟩
  refine aw_iconst (v := 0) dX2_bookingOfNow_0 (by decide) ?_
  refine aw_istore2 dX2_bookingOfNow_1 (by decide) rfl ?_
  exact L2 (nb + 1) 0 (Nat.zero_le _) (fun _ q => absurd q (Nat.not_lt_zero _)) (by omega)
set_option maxHeartbeats 4000000 in
theorem k2_nextBooking (σ : Sg) (h : Nat) (π : Nat → Nat) (nr ng nb t : Nat) (g : Rw) (r : Nat) (hc : HC σ h π) (hw : WF g nr ng nb t) : Ct yX2_nextBooking cX2_nextBooking mX2_nextBooking 1 0 0 NN false (sH σ h π nr ng nb g) [.ref h, .int (nI r)] NN (eI1 (sH σ h π nr ng nb g) (oI (fNxt g r nb))) XF := by
  refine ct_of (ls0 := [some (.ref h), some (.int (nI r)), none, none, none, none]) 4 (by decide +kernel) rfl rfl (ndR (ndI nd0)) rfl (Nat.le_of_ble_eq_true rfl) (fun K => ?_)
  have hnr4 := hw.nr4
  have hng6 := hw.ng6
  have hnb12 := hw.nb12
  have L10 : ∀ (k : Nat) (b : Nat) (h1 : b ≤ nb) (h2 : nb - b < k) (x5 : Option Value), AW K RX2 cX2_nextBooking mX2_nextBooking 1 0 0 (Qm K NN (eI1 (sH σ h π nr ng nb g) (oI (fNxt g r nb))) XF 0 0) NN none (sH σ h π nr ng nb g) 0 0 10 [some (.ref h), some (.int (nI r)), some (.int (oI (fNxt g r b))), some (.int (nFi g (fNxt g r b))), some (.int (nI b)), x5] [] := by
    intro k
    induction k with
    | zero => intro b h1 h2 x5; exact absurd h2 (Nat.not_lt_zero _)
    | succ k ih =>
      intro b h1 h2 x5
      refine aw_iload4 dX2_nextBooking_10 ?_
      refine aw_aload0 dX2_nextBooking_12 ?_
      refine aw_getI dX2_nextBooking_13 fI_2_42 hc.t hc.l (sH_nb.trans hw.nb) ?_
      refine aw_ic_ge (tgt := 72) dX2_nextBooking_16 (by decide) (fun c_16 => ?_) (fun c_16 => ?_)
      · have hbb : b = nb := by
          have := (nI_leI (by omega) (by omega)).mp c_16
          omega
        subst hbb
        refine aw_iload2 dX2_nextBooking_72 ?_
        exact aw_iret dX2_nextBooking_73 rfl (by decide) eI_of
      · have hlt : b < nb := by
          rcases Nat.lt_or_ge b nb with q | q
          · exact q
          · exact absurd (nI_le q (by omega)) c_16
        refine aw_aload0 dX2_nextBooking_19 ?_
        refine aw_getR dX2_nextBooking_20 fR_2_27 hc.t hc.l (sH_books hc) ?_
        refine aw_iload4 dX2_nextBooking_23 ?_
        refine aw_aald (j := b) dX2_nextBooking_25 hc.tB (by decide) hc.lB rfl (by omega) (sH_book (by omega)) ?_
        refine aw_getI dX2_nextBooking_26 fI_2_92 (hc.tb (by omega)) (hc.lb (by omega)) (show _ = g (31 + 10 * b + 2) from sH_b hc hlt hw.nb12 (by decide)) ?_
        refine aw_istore5 dX2_nextBooking_29 (by decide) rfl ?_
        refine aw_aload0 dX2_nextBooking_31 ?_
        refine aw_getR dX2_nextBooking_32 fR_2_27 hc.t hc.l (sH_books hc) ?_
        refine aw_iload4 dX2_nextBooking_35 ?_
        refine aw_aald (j := b) dX2_nextBooking_37 hc.tB (by decide) hc.lB rfl (by omega) (sH_book (by omega)) ?_
        refine aw_getI dX2_nextBooking_38 fI_2_74 (hc.tb (by omega)) (hc.lb (by omega)) (show _ = g (31 + 10 * b + 0) from sH_b hc hlt hw.nb12 (by decide)) ?_
        refine aw_iload1 dX2_nextBooking_41 ?_
        refine aw_ic_ne (tgt := 66) dX2_nextBooking_42 (by decide) (fun c_42 => ?_) (fun c_42 => ?_)
        · refine aw_iinc4 (w := nI (b + 1)) dX2_nextBooking_66 (nI_1 b) (by decide) rfl ?_
          refine aw_goto (tgt := 10) dX2_nextBooking_69 (by decide) ?_
          have e : fNxt g r (b + 1) = fNxt g r b := if_neg (fun q => by
            obtain ⟨q1, q2, q3⟩ := nxtD_iff.mp q
            first
              | exact c_42 q1
              | exact Int32.not_le.mpr q2 c_51
              | exact Int32.not_le.mpr ((nFi_lt hw hlt).mpr q3) c_57)
          have k9 := ih (b + 1) hlt (by omega) (some (.int (g (31 + 10 * b + 2))))
          rw [e] at k9
          exact k9
        · refine aw_iload5 dX2_nextBooking_45 ?_
          refine aw_aload0 dX2_nextBooking_47 ?_
          refine aw_getI dX2_nextBooking_48 fI_2_33 hc.t hc.l sH_hour ?_
          refine aw_ic_le (tgt := 66) dX2_nextBooking_51 (by decide) (fun c_51 => ?_) (fun c_51 => ?_)
          · refine aw_iinc4 (w := nI (b + 1)) dX2_nextBooking_66 (nI_1 b) (by decide) rfl ?_
            refine aw_goto (tgt := 10) dX2_nextBooking_69 (by decide) ?_
            have e : fNxt g r (b + 1) = fNxt g r b := if_neg (fun q => by
              obtain ⟨q1, q2, q3⟩ := nxtD_iff.mp q
              first
                | exact c_42 q1
                | exact Int32.not_le.mpr q2 c_51
                | exact Int32.not_le.mpr ((nFi_lt hw hlt).mpr q3) c_57)
            have k9 := ih (b + 1) hlt (by omega) (some (.int (g (31 + 10 * b + 2))))
            rw [e] at k9
            exact k9
          · refine aw_iload5 dX2_nextBooking_54 ?_
            refine aw_iload3 dX2_nextBooking_56 ?_
            refine aw_ic_ge (tgt := 66) dX2_nextBooking_57 (by decide) (fun c_57 => ?_) (fun c_57 => ?_)
            · refine aw_iinc4 (w := nI (b + 1)) dX2_nextBooking_66 (nI_1 b) (by decide) rfl ?_
              refine aw_goto (tgt := 10) dX2_nextBooking_69 (by decide) ?_
              have e : fNxt g r (b + 1) = fNxt g r b := if_neg (fun q => by
                obtain ⟨q1, q2, q3⟩ := nxtD_iff.mp q
                first
                  | exact c_42 q1
                  | exact Int32.not_le.mpr q2 c_51
                  | exact Int32.not_le.mpr ((nFi_lt hw hlt).mpr q3) c_57)
              have k9 := ih (b + 1) hlt (by omega) (some (.int (g (31 + 10 * b + 2))))
              rw [e] at k9
              exact k9
            · refine aw_iload4 dX2_nextBooking_60 ?_
              refine aw_istore2 dX2_nextBooking_62 (by decide) rfl ?_
              refine aw_iload5 dX2_nextBooking_63 ?_
              refine aw_istore3 dX2_nextBooking_65 (by decide) rfl ?_
              refine aw_iinc4 (w := nI (b + 1)) dX2_nextBooking_66 (nI_1 b) (by decide) rfl ?_
              refine aw_goto (tgt := 10) dX2_nextBooking_69 (by decide) ?_
              have e : fNxt g r (b + 1) = some b := if_pos (nxtD_iff.mpr ⟨c_42, Int32.not_le.mp c_51, (nFi_lt hw hlt).mp (Int32.not_le.mp c_57)⟩)
              have k9 := ih (b + 1) hlt (by omega) (some (.int (g (31 + 10 * b + 2))))
              rw [e] at k9
              exact k9
  refine aw_bipush (v := (-99)) dX2_nextBooking_0 (by decide) ?_
  refine aw_istore2 dX2_nextBooking_2 (by decide) rfl ?_
  refine aw_sipush (v := 200) dX2_nextBooking_3 (by decide) ?_
  refine aw_istore3 dX2_nextBooking_6 (by decide) rfl ?_
  refine aw_iconst (v := 0) dX2_nextBooking_7 (by decide) ?_
  refine aw_istore4 dX2_nextBooking_8 (by decide) rfl ?_
  exact L10 (nb + 1) 0 (Nat.zero_le _) (by omega) none
theorem sub_c (a b c : Int32) : a - b - c = a - c - b := by grind
set_option maxHeartbeats 4000000 in
theorem k2_mustPreheat (σ : Sg) (h : Nat) (π : Nat → Nat) (nr ng nb t : Nat) (g : Rw) (r b : Nat) (hc : HC σ h π) (hw : WF g nr ng nb t) (hr : r < nr) (hb : b < nb) : Ct yX2_mustPreheat cX2_mustPreheat mX2_mustPreheat 2 0 0 NN false (sH σ h π nr ng nb g) [.ref h, .ref (h + 4 + r), .ref (h + 8 + π b)] NN (eZ1 (sH σ h π nr ng nb g) (fPre g r b)) XF := by
  refine ct_of (ls0 := [some (.ref h), some (.ref (h + 4 + r)), some (.ref (h + 8 + π b)), none]) 1 (by decide +kernel) rfl rfl (ndR (ndR (ndR nd0))) rfl (Nat.le_of_ble_eq_true rfl) (fun K => ?_)
  have hnr4 := hw.nr4
  have hng6 := hw.ng6
  have hnb12 := hw.nb12
  refine aw_aload1 dX2_mustPreheat_0 ?_
  refine aw_ifnull dX2_mustPreheat_1 ?_
  refine aw_aload2 dX2_mustPreheat_4 ?_
  refine aw_ifnn (tgt := 10) dX2_mustPreheat_5 (by decide) ?_
  refine aw_aload2 dX2_mustPreheat_10 ?_
  refine aw_getI dX2_mustPreheat_11 fI_2_92 (hc.tb (by omega)) (hc.lb (by omega)) (show _ = g (31 + 10 * b + 2) from sH_b hc hb hw.nb12 (by decide)) ?_
  refine aw_iconst (v := 1) dX2_mustPreheat_14 (by decide) ?_
  refine aw_isub dX2_mustPreheat_15 ?_
  refine aw_aload0 dX2_mustPreheat_16 ?_
  refine aw_getI dX2_mustPreheat_17 fI_2_33 hc.t hc.l sH_hour ?_
  refine aw_isub dX2_mustPreheat_20 ?_
  refine aw_istore3 dX2_mustPreheat_21 (by decide) rfl ?_
  refine aw_aload2 dX2_mustPreheat_22 ?_
  refine aw_getI dX2_mustPreheat_23 fI_2_110 (hc.tb (by omega)) (hc.lb (by omega)) (show _ = g (31 + 10 * b + 9) from sH_b hc hb hw.nb12 (by decide)) ?_
  refine aw_if_ne (tgt := 51) dX2_mustPreheat_26 (by decide) (fun c_26 => ?_) (fun c_26 => ?_)
  · refine aw_iconst (v := 1) dX2_mustPreheat_51 (by decide) ?_
    refine aw_goto (tgt := 56) dX2_mustPreheat_52 (by decide) ?_
    exact aw_zret dX2_mustPreheat_56 rfl (by decide) (by decide) ⟨_, rfl, rfl, Or.inl ⟨rfl, by
      first
        | exact Or.inl ((hw.begun hb).elim (fun q => absurd q c_26) id)
        | exact Or.inr (by rw [sub_c] at c_48; exact Int32.not_le.mp c_48)⟩⟩
  · refine aw_aload1 dX2_mustPreheat_29 ?_
    refine aw_aload0 dX2_mustPreheat_30 ?_
    refine aw_getI dX2_mustPreheat_31 fI_2_9 hc.t hc.l sH_outd ?_
    refine aw_VI1 (k5_cooled _ _ _ (fun k => g (9 + 4 * r + k)) (fun j hj => sH_r (by omega) hw.nr4 hj) (hc.tr (by omega)) (hc.lr (by omega))) dX2_mustPreheat_34 vl_2_114 (hc.tr (by omega)) (hc.lr (by omega)) (by decide) (Nat.le_of_ble_eq_true rfl) (fun σ_34 r_34 h_34 => ?_)
    obtain ⟨rfl, rfl⟩ := h_34
    refine aw_aload1 dX2_mustPreheat_37 ?_
    refine aw_getI dX2_mustPreheat_38 fI_2_117 (hc.tr (by omega)) (hc.lr (by omega)) (show _ = g (9 + 4 * r + 2) from sH_r hr hw.nr4 (by decide)) ?_
    refine aw_iload3 dX2_mustPreheat_41 ?_
    refine aw_imul dX2_mustPreheat_42 ?_
    refine aw_iadd dX2_mustPreheat_43 ?_
    refine aw_aload2 dX2_mustPreheat_44 ?_
    refine aw_getI dX2_mustPreheat_45 fI_2_120 (hc.tb (by omega)) (hc.lb (by omega)) (show _ = g (31 + 10 * b + 4) from sH_b hc hb hw.nb12 (by decide)) ?_
    refine aw_ic_ge (tgt := 55) dX2_mustPreheat_48 (by decide) (fun c_48 => ?_) (fun c_48 => ?_)
    · refine aw_iconst (v := 0) dX2_mustPreheat_55 (by decide) ?_
      exact aw_zret dX2_mustPreheat_56 rfl (by decide) (by decide) ⟨_, rfl, rfl, Or.inr ⟨rfl, fun q => by
        rw [sub_c] at c_48
        rcases q with q | q
        · rw [c_26] at q; exact absurd q (by decide)
        · exact Int32.not_le.mpr q c_48⟩⟩
    · refine aw_iconst (v := 1) dX2_mustPreheat_51 (by decide) ?_
      refine aw_goto (tgt := 56) dX2_mustPreheat_52 (by decide) ?_
      exact aw_zret dX2_mustPreheat_56 rfl (by decide) (by decide) ⟨_, rfl, rfl, Or.inl ⟨rfl, by
        first
          | exact Or.inl ((hw.begun hb).elim (fun q => absurd q c_26) id)
          | exact Or.inr (by rw [sub_c] at c_48; exact Int32.not_le.mp c_48)⟩⟩
set_option maxHeartbeats 4000000 in
theorem k2_mustPreheatN (σ : Sg) (h : Nat) (π : Nat → Nat) (nr ng nb t : Nat) (g : Rw) (r : Nat) (hc : HC σ h π) (hw : WF g nr ng nb t) : Ct yX2_mustPreheat cX2_mustPreheat mX2_mustPreheat 2 0 0 NN false (sH σ h π nr ng nb g) [.ref h, .ref (h + 4 + r), .null] NN (eI1 (sH σ h π nr ng nb g) 0) XF := by
  refine ct_of (ls0 := [some (.ref h), some (.ref (h + 4 + r)), some (.null), none]) 1 (by decide +kernel) rfl rfl (ndR (ndR (ndN nd0))) rfl (Nat.le_of_ble_eq_true rfl) (fun K => ?_)
  have hnr4 := hw.nr4
  have hng6 := hw.ng6
  have hnb12 := hw.nb12
  refine aw_aload1 dX2_mustPreheat_0 ?_
  refine aw_ifnull dX2_mustPreheat_1 ?_
  refine aw_aload2N dX2_mustPreheat_4 ?_
  refine aw_ifnnN dX2_mustPreheat_5 ?_
  refine aw_iconst (v := 0) dX2_mustPreheat_8 (by decide) ?_
  exact aw_zret dX2_mustPreheat_9 rfl (by decide) (by decide) eI_of
set_option maxHeartbeats 4000000 in
theorem k2_heatingBooking (σ : Sg) (h : Nat) (π : Nat → Nat) (nr ng nb t : Nat) (g : Rw) (r : Nat) (hc : HC σ h π) (hw : WF g nr ng nb t) (hr : r < nr) : Ct yX2_heatingBooking cX2_heatingBooking mX2_heatingBooking 3 0 0 NN false (sH σ h π nr ng nb g) [.ref h, .int (nI r)] NN (eI1 (sH σ h π nr ng nb g) (oI (fHeater g r nb))) XF := by
  refine ct_of (ls0 := [some (.ref h), some (.int (nI r)), none, none]) 2 (by decide +kernel) rfl rfl (ndR (ndI nd0)) rfl (Nat.le_of_ble_eq_true rfl) (fun K => ?_)
  have hnr4 := hw.nr4
  have hng6 := hw.ng6
  have hnb12 := hw.nb12
  refine aw_aload0 dX2_heatingBooking_0 ?_
  refine aw_iload1 dX2_heatingBooking_1 ?_
  refine aw_VI1 (k2_bookingOfNow _ _ _ _ _ _ _ _ _ hc hw (by omega)) dX2_heatingBooking_2 vl_2_95 hc.t hc.l (by decide) (Nat.le_of_ble_eq_true rfl) (fun σ_2 r_2 h_2 => ?_)
  obtain ⟨rfl, rfl⟩ := h_2
  refine aw_istore2 dX2_heatingBooking_5 (by decide) rfl ?_
  refine aw_iload2 dX2_heatingBooking_6 ?_
  refine aw_bipush (v := (-99)) dX2_heatingBooking_7 (by decide) ?_
  refine aw_ic_eq (tgt := 14) dX2_heatingBooking_9 (by decide) (fun c_9 => ?_) (fun c_9 => ?_)
  · refine aw_aload0 dX2_heatingBooking_14 ?_
    refine aw_iload1 dX2_heatingBooking_15 ?_
    refine aw_VI1 (k2_nextBooking _ _ _ _ _ _ _ _ _ hc hw) dX2_heatingBooking_16 vl_2_99 hc.t hc.l (by decide) (Nat.le_of_ble_eq_true rfl) (fun σ_16 r_16 h_16 => ?_)
    obtain ⟨rfl, h_16⟩ := h_16
    rcases hN : fNxt g r nb with _ | f
    · rw [hN] at h_16
      have h_16 : (-99 : Int32) = r_16 := h_16
      subst h_16
      refine aw_istore3 dX2_heatingBooking_19 (by decide) rfl ?_
      refine aw_aload0 dX2_heatingBooking_20 ?_
      refine aw_aload0 dX2_heatingBooking_21 ?_
      refine aw_iload1 dX2_heatingBooking_22 ?_
      refine aw_VA1 (k2_findRoom _ _ _ _ _ _ _ _ _ hc hw) dX2_heatingBooking_23 vl_2_102 hc.t hc.l (by decide) (Nat.le_of_ble_eq_true rfl) (fun σ_23 r_23 h_23 => ?_)
      obtain ⟨rfl, h_23⟩ := h_23
      obtain ⟨k_23, hk_23, e_23, rfl⟩ : ∃ k, k < nr ∧ nI r = nI k ∧ r_23 = some (h + 4 + k) := h_23.elim id (fun q => absurd ⟨r, hr, rfl⟩ q.1)
      have e_23 := (nI_eq (by omega) (by omega)).mp e_23
      subst e_23
      refine aw_aload0 dX2_heatingBooking_26 ?_
      refine aw_iload3 dX2_heatingBooking_27 ?_
      refine aw_VA1 (k2_findBooking _ _ _ _ _ _ _ _ _ hc hw) dX2_heatingBooking_28 vl_2_84 hc.t hc.l (by decide) (Nat.le_of_ble_eq_true rfl) (fun σ_28 r_28 h_28 => ?_)
      obtain ⟨rfl, h_28⟩ := h_28
      obtain rfl : r_28 = none := h_28.elim (fun q => by obtain ⟨k, hk, e, -⟩ := q; exact absurd (show oI none = nI k from e) (oI_ne (by omega))) (fun q => q.2)
      refine aw_VI2 (k2_mustPreheatN _ _ _ _ _ _ _ _ _ hc hw) dX2_heatingBooking_31 vl_2_106 hc.t hc.l (by decide) (Nat.le_of_ble_eq_true rfl) (fun σ_31 r_31 h_31 => ?_)
      obtain ⟨rfl, rfl⟩ := h_31
      refine aw_if_eq (tgt := 41) dX2_heatingBooking_34 (by decide) (fun _ => ?_) (fun c_34 => absurd c_34 (by decide))
      refine aw_bipush (v := (-99)) dX2_heatingBooking_41 (by decide) ?_
      exact aw_iret dX2_heatingBooking_43 rfl (by decide) (eI_to (by
        have q1 := oI_n (fun f hf => by have := fCur_lt hf; omega) c_9
        first
          | (rw [fHeater, q1, hN]; simp only [fPreD_iff, p_31, if_true, if_false]; done)
          | (rw [fHeater, q1, hN]; simp only [fPreD_iff, p_31, if_true, if_false]; rfl)
          | (rw [fHeater, q1, hN]; rfl)))
    · rw [hN] at h_16
      have h_16 : nI f = r_16 := h_16
      subst h_16
      have hf12 := fNxt_lt hN
      refine aw_istore3 dX2_heatingBooking_19 (by decide) rfl ?_
      refine aw_aload0 dX2_heatingBooking_20 ?_
      refine aw_aload0 dX2_heatingBooking_21 ?_
      refine aw_iload1 dX2_heatingBooking_22 ?_
      refine aw_VA1 (k2_findRoom _ _ _ _ _ _ _ _ _ hc hw) dX2_heatingBooking_23 vl_2_102 hc.t hc.l (by decide) (Nat.le_of_ble_eq_true rfl) (fun σ_23 r_23 h_23 => ?_)
      obtain ⟨rfl, h_23⟩ := h_23
      obtain ⟨k_23, hk_23, e_23, rfl⟩ : ∃ k, k < nr ∧ nI r = nI k ∧ r_23 = some (h + 4 + k) := h_23.elim id (fun q => absurd ⟨r, hr, rfl⟩ q.1)
      have e_23 := (nI_eq (by omega) (by omega)).mp e_23
      subst e_23
      refine aw_aload0 dX2_heatingBooking_26 ?_
      refine aw_iload3 dX2_heatingBooking_27 ?_
      refine aw_VA1 (k2_findBooking _ _ _ _ _ _ _ _ _ hc hw) dX2_heatingBooking_28 vl_2_84 hc.t hc.l (by decide) (Nat.le_of_ble_eq_true rfl) (fun σ_28 r_28 h_28 => ?_)
      obtain ⟨rfl, h_28⟩ := h_28
      obtain ⟨k_28, hk_28, e_28, rfl⟩ : ∃ k, k < nb ∧ nI f = nI k ∧ r_28 = some (h + 8 + π k) := h_28.elim id (fun q => absurd ⟨f, hf12, rfl⟩ q.1)
      have e_28 := (nI_eq (by omega) (by omega)).mp e_28
      subst e_28
      refine aw_VI2 (k2_mustPreheat _ _ _ _ _ _ _ _ _ _ hc hw hr (by omega)) dX2_heatingBooking_31 vl_2_106 hc.t hc.l (by decide) (Nat.le_of_ble_eq_true rfl) (fun σ_31 r_31 h_31 => ?_)
      obtain ⟨rfl, h_31⟩ := h_31
      rcases h_31 with ⟨rfl, p_31⟩ | ⟨rfl, p_31⟩
      · refine aw_if_eq (tgt := 41) dX2_heatingBooking_34 (by decide) (fun c_34 => absurd c_34 (by decide)) (fun _ => ?_)
        refine aw_iload3 dX2_heatingBooking_37 ?_
        refine aw_goto (tgt := 43) dX2_heatingBooking_38 (by decide) ?_
        exact aw_iret dX2_heatingBooking_43 rfl (by decide) (eI_to (by
          have q1 := oI_n (fun f hf => by have := fCur_lt hf; omega) c_9
          first
            | (rw [fHeater, q1, hN]; simp only [fPreD_iff, p_31, if_true, if_false]; done)
            | (rw [fHeater, q1, hN]; simp only [fPreD_iff, p_31, if_true, if_false]; rfl)
            | (rw [fHeater, q1, hN]; rfl)))
      · refine aw_if_eq (tgt := 41) dX2_heatingBooking_34 (by decide) (fun _ => ?_) (fun c_34 => absurd c_34 (by decide))
        refine aw_bipush (v := (-99)) dX2_heatingBooking_41 (by decide) ?_
        exact aw_iret dX2_heatingBooking_43 rfl (by decide) (eI_to (by
          have q1 := oI_n (fun f hf => by have := fCur_lt hf; omega) c_9
          first
            | (rw [fHeater, q1, hN]; simp only [fPreD_iff, p_31, if_true, if_false]; done)
            | (rw [fHeater, q1, hN]; simp only [fPreD_iff, p_31, if_true, if_false]; rfl)
            | (rw [fHeater, q1, hN]; rfl)))
  · refine aw_iload2 dX2_heatingBooking_12 ?_
    exact aw_iret dX2_heatingBooking_13 rfl (by decide) (eI_to (by obtain ⟨f, hf⟩ := oI_s c_9; rw [fHeater, hf]))
set_option maxHeartbeats 4000000 in
theorem k2_hasPlaceFor (σ : Sg) (h : Nat) (π : Nat → Nat) (nr ng nb t : Nat) (g : Rw) (r first0 hours : Int32) (hc : HC σ h π) (hw : WF g nr ng nb t) : Ct yX2_hasPlaceFor cX2_hasPlaceFor mX2_hasPlaceFor 3 0 0 NN false (sH σ h π nr ng nb g) [.ref h, .int r, .int first0, .int hours] NN (eZ1 (sH σ h π nr ng nb g) (nb < 12 ∧ fFree g r first0 hours nb)) XF := by
  refine ct_of (ls0 := [some (.ref h), some (.int r), some (.int first0), some (.int hours), none]) 1 (by decide +kernel) rfl rfl (ndR (ndI (ndI (ndI nd0)))) rfl (Nat.le_of_ble_eq_true rfl) (fun K => ?_)
  have hnr4 := hw.nr4
  have hng6 := hw.ng6
  have hnb12 := hw.nb12
  have L3 : ∀ (k : Nat) (b : Nat) (h1 : b ≤ nb) (hN : ∀ c, c < b → freeP g r first0 hours c) (h2 : nb - b < k), AW K RX2 cX2_hasPlaceFor mX2_hasPlaceFor 3 0 0 (Qm K NN (eZ1 (sH σ h π nr ng nb g) (nb < 12 ∧ fFree g r first0 hours nb)) XF 0 0) NN none (sH σ h π nr ng nb g) 0 0 3 [some (.ref h), some (.int r), some (.int first0), some (.int hours), some (.int (nI b))] [] := by
    intro k
    induction k with
    | zero => intro b h1 hN h2; exact absurd h2 (Nat.not_lt_zero _)
    | succ k ih =>
      intro b h1 hN h2
      refine aw_iload4 dX2_hasPlaceFor_3 ?_
      refine aw_aload0 dX2_hasPlaceFor_5 ?_
      refine aw_getI dX2_hasPlaceFor_6 fI_2_42 hc.t hc.l (sH_nb.trans hw.nb) ?_
      refine aw_ic_ge (tgt := 49) dX2_hasPlaceFor_9 (by decide) (fun c_9 => ?_) (fun c_9 => ?_)
      · have hbb : b = nb := by
          have := (nI_leI (by omega) (by omega)).mp c_9
          omega
        subst hbb
        refine aw_aload0 dX2_hasPlaceFor_49 ?_
        refine aw_getI dX2_hasPlaceFor_50 fI_2_42 hc.t hc.l (sH_nb.trans hw.nb) ?_
        refine aw_aload0 dX2_hasPlaceFor_53 ?_
        refine aw_getR dX2_hasPlaceFor_54 fR_2_27 hc.t hc.l (sH_books hc) ?_
        refine aw_alen dX2_hasPlaceFor_57 hc.tB hc.lB ?_
        refine aw_ic_ge (tgt := 65) dX2_hasPlaceFor_58 (by decide) (fun c_58 => ?_) (fun c_58 => ?_)
        · refine aw_iconst (v := 0) dX2_hasPlaceFor_65 (by decide) ?_
          exact aw_zret dX2_hasPlaceFor_66 rfl (by decide) (by decide) (eZ_0 (fun q => absurd ((nI_leI (a := 12) (by omega) (by omega)).mp c_58) (by omega)))
        · refine aw_iconst (v := 1) dX2_hasPlaceFor_61 (by decide) ?_
          refine aw_goto (tgt := 66) dX2_hasPlaceFor_62 (by decide) ?_
          exact aw_zret dX2_hasPlaceFor_66 rfl (by decide) (by decide) (eZ_1 ⟨by have := mt (nI_leI (a := 12) (by omega) (by omega)).mpr c_58; omega, hN⟩)
      · have hlt : b < nb := by
          rcases Nat.lt_or_ge b nb with q | q
          · exact q
          · exact absurd (nI_le q (by omega)) c_9
        refine aw_aload0 dX2_hasPlaceFor_12 ?_
        refine aw_getR dX2_hasPlaceFor_13 fR_2_27 hc.t hc.l (sH_books hc) ?_
        refine aw_iload4 dX2_hasPlaceFor_16 ?_
        refine aw_aald (j := b) dX2_hasPlaceFor_18 hc.tB (by decide) hc.lB rfl (by omega) (sH_book (by omega)) ?_
        refine aw_getI dX2_hasPlaceFor_19 fI_2_74 (hc.tb (by omega)) (hc.lb (by omega)) (show _ = g (31 + 10 * b + 0) from sH_b hc hlt hw.nb12 (by decide)) ?_
        refine aw_iload1 dX2_hasPlaceFor_22 ?_
        refine aw_ic_ne (tgt := 43) dX2_hasPlaceFor_23 (by decide) (fun c_23 => ?_) (fun c_23 => ?_)
        · refine aw_iinc4 (w := nI (b + 1)) dX2_hasPlaceFor_43 (nI_1 b) (by decide) rfl ?_
          refine aw_goto (tgt := 3) dX2_hasPlaceFor_46 (by decide) ?_
          refine ih (b + 1) hlt (fun c hc2 => ?_) (by omega)
          rcases Nat.lt_or_ge c b with q | q
          · exact hN c q
          · rw [show c = b by omega]
            first
              | exact Or.inl c_23
              | (exact (Classical.em (g (31 + 10 * b + 2) < first0 + hours)).elim (fun q1 => Or.inr (Or.inl (Int32.not_lt.mp (fun q2 => p_35 ⟨q1, q2⟩)))) (fun q1 => Or.inr (Or.inr (Int32.not_lt.mp q1))))
        · refine aw_aload0 dX2_hasPlaceFor_26 ?_
          refine aw_getR dX2_hasPlaceFor_27 fR_2_27 hc.t hc.l (sH_books hc) ?_
          refine aw_iload4 dX2_hasPlaceFor_30 ?_
          refine aw_aald (j := b) dX2_hasPlaceFor_32 hc.tB (by decide) hc.lB rfl (by omega) (sH_book (by omega)) ?_
          refine aw_iload2 dX2_hasPlaceFor_33 ?_
          refine aw_iload3 dX2_hasPlaceFor_34 ?_
          refine aw_VI2 (k0_meets _ _ _ _ (fun k => g (31 + 10 * b + k)) (fun j hj => sH_b hc (by omega) hw.nb12 hj) (hc.tb (by omega)) (hc.lb (by omega))) dX2_hasPlaceFor_35 vl_2_77 (hc.tb (by omega)) (hc.lb (by omega)) (by decide) (Nat.le_of_ble_eq_true rfl) (fun σ_35 r_35 h_35 => ?_)
          obtain ⟨rfl, h_35⟩ := h_35
          rcases h_35 with ⟨rfl, p_35⟩ | ⟨rfl, p_35⟩
          · refine aw_if_eq (tgt := 43) dX2_hasPlaceFor_38 (by decide) (fun c_38 => absurd c_38 (by decide)) (fun _ => ?_)
            refine aw_iconst (v := 0) dX2_hasPlaceFor_41 (by decide) ?_
            exact aw_zret dX2_hasPlaceFor_42 rfl (by decide) (by decide) (eZ_0 (fun q => by
              rcases q.2 b hlt with q1 | q1 | q1
              · exact q1 c_23
              · exact Int32.not_lt.mpr q1 p_35.2
              · exact Int32.not_lt.mpr q1 p_35.1))
          · refine aw_if_eq (tgt := 43) dX2_hasPlaceFor_38 (by decide) (fun _ => ?_) (fun c_38 => absurd c_38 (by decide))
            refine aw_iinc4 (w := nI (b + 1)) dX2_hasPlaceFor_43 (nI_1 b) (by decide) rfl ?_
            refine aw_goto (tgt := 3) dX2_hasPlaceFor_46 (by decide) ?_
            refine ih (b + 1) hlt (fun c hc2 => ?_) (by omega)
            rcases Nat.lt_or_ge c b with q | q
            · exact hN c q
            · rw [show c = b by omega]
              first
                | exact Or.inl c_23
                | (exact (Classical.em (g (31 + 10 * b + 2) < first0 + hours)).elim (fun q1 => Or.inr (Or.inl (Int32.not_lt.mp (fun q2 => p_35 ⟨q1, q2⟩)))) (fun q1 => Or.inr (Or.inr (Int32.not_lt.mp q1))))
  refine aw_iconst (v := 0) dX2_hasPlaceFor_0 (by decide) ?_
  refine aw_istore4 dX2_hasPlaceFor_1 (by decide) rfl ?_
  exact L3 (nb + 1) 0 (Nat.zero_le _) (fun _ q => absurd q (Nat.not_lt_zero _)) (by omega)
set_option maxHeartbeats 4000000 in
theorem k2_owedBy (σ : Sg) (h : Nat) (π : Nat → Nat) (nr ng nb t : Nat) (g : Rw) (w : Nat) (hc : HC σ h π) (hw : WF g nr ng nb t) (hwn : w < ng) : Ct yX2_owedBy cX2_owedBy mX2_owedBy 2 0 0 NN false (sH σ h π nr ng nb g) [.ref h, .int (nI w)] NN (eI1 (sH σ h π nr ng nb g) (g (25 + w))) XF := by
  refine ct_of (ls0 := [some (.ref h), some (.int (nI w))]) 0 (by decide +kernel) rfl rfl (ndR (ndI nd0)) rfl (Nat.le_of_ble_eq_true rfl) (fun K => ?_)
  have hnr4 := hw.nr4
  have hng6 := hw.ng6
  have hnb12 := hw.nb12
  refine aw_aload0 dX2_owedBy_0 ?_
  refine aw_iload1 dX2_owedBy_1 ?_
  refine aw_VI1 (k2_hasGroup _ _ _ _ _ _ _ _ _ hc hw) dX2_owedBy_2 vl_2_130 hc.t hc.l (by decide) (Nat.le_of_ble_eq_true rfl) (fun σ_2 r_2 h_2 => ?_)
  obtain ⟨rfl, h_2⟩ := h_2
  rcases h_2 with ⟨rfl, p_2⟩ | ⟨rfl, p_2⟩
  · refine aw_if_eq (tgt := 17) dX2_owedBy_5 (by decide) (fun c_5 => absurd c_5 (by decide)) (fun _ => ?_)
    refine aw_aload0 dX2_owedBy_8 ?_
    refine aw_getR dX2_owedBy_9 fR_2_21 hc.t hc.l (sH_owed hc) ?_
    refine aw_iload1 dX2_owedBy_12 ?_
    refine aw_iald (j := w) dX2_owedBy_13 hc.tO hc.lO rfl (by omega) (sH_o hwn) ?_
    refine aw_goto (tgt := 18) dX2_owedBy_14 (by decide) ?_
    exact aw_iret dX2_owedBy_18 rfl (by decide) eI_of
  · refine aw_if_eq (tgt := 17) dX2_owedBy_5 (by decide) (fun _ => ?_) (fun c_5 => absurd c_5 (by decide))
    refine aw_iconst (v := 0) dX2_owedBy_17 (by decide) ?_
    exact aw_iret dX2_owedBy_18 rfl (by decide) (absurd ⟨w, hwn, rfl⟩ p_2)
set_option maxHeartbeats 4000000 in
theorem k2_settle (σ : Sg) (h : Nat) (π : Nat → Nat) (nr ng nb t : Nat) (g : Rw) (w : Nat) (hc : HC σ h π) (hw : WF g nr ng nb t) (hwn : w < ng) : Ct yX2_settle cX2_settle mX2_settle 2 0 0 NN false (sH σ h π nr ng nb g) [.ref h, .int (nI w)] NN (rI fun σ2 v => sH σ h π nr ng nb (upd g (25 + w) 0) = σ2 ∧ g (25 + w) = v) XF := by
  refine ct_of (ls0 := [some (.ref h), some (.int (nI w)), none]) 1 (by decide +kernel) rfl rfl (ndR (ndI nd0)) rfl (Nat.le_of_ble_eq_true rfl) (fun K => ?_)
  have hnr4 := hw.nr4
  have hng6 := hw.ng6
  have hnb12 := hw.nb12
  refine aw_aload0 dX2_settle_0 ?_
  refine aw_iload1 dX2_settle_1 ?_
  refine aw_VI1 (k2_hasGroup _ _ _ _ _ _ _ _ _ hc hw) dX2_settle_2 vl_2_130 hc.t hc.l (by decide) (Nat.le_of_ble_eq_true rfl) (fun σ_2 r_2 h_2 => ?_)
  obtain ⟨rfl, h_2⟩ := h_2
  rcases h_2 with ⟨rfl, p_2⟩ | ⟨rfl, p_2⟩
  · refine aw_if_ne (tgt := 10) dX2_settle_5 (by decide) (fun _ => ?_) (fun c_5 => absurd c_5 (by decide))
    refine aw_aload0 dX2_settle_10 ?_
    refine aw_getR dX2_settle_11 fR_2_21 hc.t hc.l (sH_owed hc) ?_
    refine aw_iload1 dX2_settle_14 ?_
    refine aw_iald (j := w) dX2_settle_15 hc.tO hc.lO rfl (by omega) (sH_o hwn) ?_
    refine aw_istore2 dX2_settle_16 (by decide) rfl ?_
    refine aw_aload0 dX2_settle_17 ?_
    refine aw_getR dX2_settle_18 fR_2_21 hc.t hc.l (sH_owed hc) ?_
    refine aw_iload1 dX2_settle_21 ?_
    refine aw_iconst (v := 0) dX2_settle_22 (by decide) ?_
    refine aw_iast (j := w) dX2_settle_23 hc.tO hc.lO rfl (by omega) ?_
    refine AW.eqs (sW_o hwn hng6) ?_
    refine aw_iload2 dX2_settle_24 ?_
    exact aw_iret dX2_settle_25 rfl (by decide) ⟨_, rfl, rfl, rfl⟩
  · refine aw_if_ne (tgt := 10) dX2_settle_5 (by decide) (fun c_5 => absurd c_5 (by decide)) (fun _ => ?_)
    refine aw_iconst (v := 0) dX2_settle_8 (by decide) ?_
    exact aw_iret dX2_settle_9 rfl (by decide) (absurd ⟨w, hwn, rfl⟩ p_2)
def cG (g : Rw) (w : Nat) (u : Int32) : Rw := upd (upd g (25 + w) (g (25 + w) + u)) 6 (upd g (25 + w) (g (25 + w) + u) 6 + u)
set_option maxHeartbeats 4000000 in
theorem k2_chargeGroup (σ : Sg) (h : Nat) (π : Nat → Nat) (nr ng nb t : Nat) (g : Rw) (w : Nat) (w0 u : Int32) (hc : HC σ h π) (hng : g 2 = nI ng) (hng6 : ng ≤ 6) (hwn : w < ng) (hw0 : w0 = nI w) : Ct yX2_chargeGroup cX2_chargeGroup mX2_chargeGroup 1 0 0 NN false (sH σ h π nr ng nb g) [.ref h, .int w0, .int u] NN (eV1 (sH σ h π nr ng nb (cG g w u))) XF := by
  refine ct_of (ls0 := [some (.ref h), some (.int w0), some (.int u)]) 0 (by decide +kernel) rfl rfl (ndR (ndI (ndI nd0))) rfl (Nat.le_of_ble_eq_true rfl) (fun K => ?_)
  subst hw0
  refine aw_iload1 dX2_chargeGroup_0 ?_
  refine aw_if_lt (tgt := 32) dX2_chargeGroup_1 (by decide) (fun c_1 => absurd c_1 (nI_pos (by omega))) (fun c_1 => ?_)
  refine aw_iload1 dX2_chargeGroup_4 ?_
  refine aw_aload0 dX2_chargeGroup_5 ?_
  refine aw_getI dX2_chargeGroup_6 fI_2_39 hc.t hc.l (sH_ng.trans hng) ?_
  refine aw_ic_ge (tgt := 32) dX2_chargeGroup_9 (by decide) (fun c_9 => absurd c_9 (nI_ge hwn (by omega))) (fun c_9 => ?_)
  refine aw_aload0 dX2_chargeGroup_12 ?_
  refine aw_getR dX2_chargeGroup_13 fR_2_21 hc.t hc.l (sH_owed hc) ?_
  refine aw_iload1 dX2_chargeGroup_16 ?_
  refine aw_dup2 dX2_chargeGroup_17 rfl rfl ?_
  refine aw_iald (j := w) dX2_chargeGroup_18 hc.tO hc.lO rfl (by omega) (sH_o hwn) ?_
  refine aw_iload2 dX2_chargeGroup_19 ?_
  refine aw_iadd dX2_chargeGroup_20 ?_
  refine aw_iast (j := w) dX2_chargeGroup_21 hc.tO hc.lO rfl (by omega) ?_
  refine AW.eqs (sW_o hwn hng6) ?_
  refine aw_aload0 dX2_chargeGroup_22 ?_
  refine aw_dup dX2_chargeGroup_23 rfl ?_
  refine aw_getI dX2_chargeGroup_24 fI_2_48 hc.t hc.l sH_gch ?_
  refine aw_iload2 dX2_chargeGroup_27 ?_
  refine aw_iadd dX2_chargeGroup_28 ?_
  refine aw_putI dX2_chargeGroup_29 fP_2_48 hc.t hc.l ?_
  refine AW.eqs (sW_i (j := 9) (by unfold isI; omega)) ?_
  exact aw_vret dX2_chargeGroup_32 rfl (by decide) eV_of
set_option maxHeartbeats 4000000 in
theorem k2_mark (σ : Sg) (h : Nat) (π : Nat → Nat) (nr ng nb t : Nat) (g : Rw) (r : Nat) (v : Int32) (hc : HC σ h π) (hw : WF g nr ng nb t) (hr : r < 1000) (hv : v = 0 ∨ v = 1) : Ct yX2_mark cX2_mark mX2_mark 3 0 0 NN false (sH σ h π nr ng nb g) [.ref h, .int (nI r), .int v] NN (eV1 (sH σ h π nr ng nb (match fCur g r nb with | none => g | some b => upd g (31 + 10 * b + 7) v))) XF := by
  refine ct_of (ls0 := [some (.ref h), some (.int (nI r)), some (.int v), none]) 1 (by decide +kernel) rfl rfl (ndR (ndI (ndI nd0))) rfl (Nat.le_of_ble_eq_true rfl) (fun K => ?_)
  have hnr4 := hw.nr4
  have hng6 := hw.ng6
  have hnb12 := hw.nb12
  refine aw_aload0 dX2_mark_0 ?_
  refine aw_aload0 dX2_mark_1 ?_
  refine aw_iload1 dX2_mark_2 ?_
  refine aw_VI1 (k2_bookingOfNow _ _ _ _ _ _ _ _ _ hc hw (by omega)) dX2_mark_3 vl_2_95 hc.t hc.l (by decide) (Nat.le_of_ble_eq_true rfl) (fun σ_3 r_3 h_3 => ?_)
  obtain ⟨rfl, h_3⟩ := h_3
  rcases hN : fCur g r nb with _ | f
  · rw [hN] at h_3
    have h_3 : (-99 : Int32) = r_3 := h_3
    subst h_3
    refine aw_VA1 (k2_findBooking _ _ _ _ _ _ _ _ _ hc hw) dX2_mark_6 vl_2_84 hc.t hc.l (by decide) (Nat.le_of_ble_eq_true rfl) (fun σ_6 r_6 h_6 => ?_)
    obtain ⟨rfl, h_6⟩ := h_6
    obtain rfl : r_6 = none := h_6.elim (fun q => by obtain ⟨k, hk, e, -⟩ := q; exact absurd (show oI none = nI k from e) (oI_ne (by omega))) (fun q => q.2)
    refine aw_astore3N dX2_mark_9 (by decide) rfl ?_
    refine aw_aload3N dX2_mark_10 ?_
    refine aw_ifnullN (tgt := 19) dX2_mark_11 (by decide) ?_
    exact aw_vret dX2_mark_19 rfl (by decide) (eV_to rfl)
  · rw [hN] at h_3
    have h_3 : nI f = r_3 := h_3
    subst h_3
    have hf12 := fCur_lt hN
    refine aw_VA1 (k2_findBooking _ _ _ _ _ _ _ _ _ hc hw) dX2_mark_6 vl_2_84 hc.t hc.l (by decide) (Nat.le_of_ble_eq_true rfl) (fun σ_6 r_6 h_6 => ?_)
    obtain ⟨rfl, h_6⟩ := h_6
    obtain ⟨k_6, hk_6, e_6, rfl⟩ : ∃ k, k < nb ∧ nI f = nI k ∧ r_6 = some (h + 8 + π k) := h_6.elim id (fun q => absurd ⟨f, hf12, rfl⟩ q.1)
    have e_6 := (nI_eq (by omega) (by omega)).mp e_6
    subst e_6
    refine aw_astore3 dX2_mark_9 (by decide) rfl ?_
    refine aw_aload3 dX2_mark_10 ?_
    refine aw_ifnull dX2_mark_11 ?_
    refine aw_aload3 dX2_mark_14 ?_
    refine aw_iload2 dX2_mark_15 ?_
    refine aw_putZ dX2_mark_16 fP_2_123 (hc.tb (by omega)) (hc.lb (by omega)) hv ?_
    refine AW.eqs (sW_b hc (by omega) (by omega) (by omega) (by decide)) ?_
    exact aw_vret dX2_mark_19 rfl (by decide) (eV_to rfl)
set_option maxHeartbeats 4000000 in
theorem k2_markAll (σ : Sg) (h : Nat) (π : Nat → Nat) (nr ng nb t : Nat) (g : Rw) (hc : HC σ h π) (hw : WF g nr ng nb t) : Ct yX2_markAll cX2_markAll mX2_markAll 4 0 0 NN false (sH σ h π nr ng nb g) [.ref h] NN (eV1 (sH σ h π nr ng nb (fMk g nb nr))) XF := by
  refine ct_of (ls0 := [some (.ref h), none]) 1 (by decide +kernel) rfl rfl (ndR nd0) rfl (Nat.le_of_ble_eq_true rfl) (fun K => ?_)
  have hnr4 := hw.nr4
  have hng6 := hw.ng6
  have hnb12 := hw.nb12
  have L2 : ∀ (k : Nat) (i : Nat) (h1 : i ≤ nr) (h2 : nr - i < k), AW K RX2 cX2_markAll mX2_markAll 4 0 0 (Qm K NN (eV1 (sH σ h π nr ng nb (fMk g nb nr))) XF 0 0) NN none (sH σ h π nr ng nb (fMk g nb i)) 0 0 2 [some (.ref h), some (.int (nI i))] [] := by
    intro k
    induction k with
    | zero => intro i h1 h2; exact absurd h2 (Nat.not_lt_zero _)
    | succ k ih =>
      intro i h1 h2
      refine aw_iload1 dX2_markAll_2 ?_
      refine aw_aload0 dX2_markAll_3 ?_
      refine aw_getI dX2_markAll_4 fI_2_36 hc.t hc.l (sH_nr.trans (hw.mks i).nr) ?_
      refine aw_ic_ge (tgt := 22) dX2_markAll_7 (by decide) (fun c_7 => ?_) (fun c_7 => ?_)
      · have hbb : i = nr := by
          have := (nI_leI (by omega) (by omega)).mp c_7
          omega
        subst hbb
        exact aw_vret dX2_markAll_22 rfl (by decide) eV_of
      · have hlt : i < nr := by
          rcases Nat.lt_or_ge i nr with q | q
          · exact q
          · exact absurd (nI_le q (by omega)) c_7
        refine aw_aload0 dX2_markAll_10 ?_
        refine aw_iload1 dX2_markAll_11 ?_
        refine aw_iconst (v := 1) dX2_markAll_12 (by decide) ?_
        refine aw_VV2 (k2_mark _ _ _ _ _ _ _ _ i 1 hc (hw.mks i) (by omega) (Or.inr rfl)) dX2_markAll_13 vl_2_126 hc.t hc.l (by decide) (Nat.le_of_ble_eq_true rfl) (fun σ_13 h_13 => ?_)
        obtain rfl := h_13
        refine aw_iinc1 (w := nI (i + 1)) dX2_markAll_16 (nI_1 i) (by decide) rfl ?_
        refine aw_goto (tgt := 2) dX2_markAll_19 (by decide) ?_
        exact ih (i + 1) (by omega) (by omega)
  refine aw_iconst (v := 0) dX2_markAll_0 (by decide) ?_
  refine aw_istore1 dX2_markAll_1 (by decide) rfl ?_
  exact L2 (nr + 1) 0 (Nat.zero_le _) (by omega)
set_option maxHeartbeats 4000000 in
theorem k2_endOfBookings (σ : Sg) (h : Nat) (π : Nat → Nat) (nr ng nb t : Nat) (g : Rw) (hc : HC σ h π) (hw : WF g nr ng nb t) : Ct yX2_endOfBookings cX2_endOfBookings mX2_endOfBookings 2 0 0 NN false (sH σ h π nr ng nb g) [.ref h] NN (eI1 (sH σ h π nr ng nb g) (fMax g 0 nb)) XF := by
  refine ct_of (ls0 := [some (.ref h), none, none]) 2 (by decide +kernel) rfl rfl (ndR nd0) rfl (Nat.le_of_ble_eq_true rfl) (fun K => ?_)
  have hnr4 := hw.nr4
  have hng6 := hw.ng6
  have hnb12 := hw.nb12
  have L4 : ∀ (k : Nat) (i : Nat) (h1 : i ≤ nb) (h2 : nb - i < k), AW K RX2 cX2_endOfBookings mX2_endOfBookings 2 0 0 (Qm K NN (eI1 (sH σ h π nr ng nb g) (fMax g 0 nb)) XF 0 0) NN none (sH σ h π nr ng nb g) 0 0 4 [some (.ref h), some (.int (fMax g 0 i)), some (.int (nI i))] [] := by
    intro k
    induction k with
    | zero => intro i h1 h2; exact absurd h2 (Nat.not_lt_zero _)
    | succ k ih =>
      intro i h1 h2
      refine aw_iload2 dX2_endOfBookings_4 ?_
      refine aw_aload0 dX2_endOfBookings_5 ?_
      refine aw_getI dX2_endOfBookings_6 fI_2_42 hc.t hc.l (sH_nb.trans hw.nb) ?_
      refine aw_ic_ge (tgt := 32) dX2_endOfBookings_9 (by decide) (fun c_9 => ?_) (fun c_9 => ?_)
      · have hbb : i = nb := by
          have := (nI_leI (by omega) (by omega)).mp c_9
          omega
        subst hbb
        refine aw_iload1 dX2_endOfBookings_32 ?_
        exact aw_iret dX2_endOfBookings_33 rfl (by decide) eI_of
      · have hlt : i < nb := by
          rcases Nat.lt_or_ge i nb with q | q
          · exact q
          · exact absurd (nI_le q (by omega)) c_9
        refine aw_iload1 dX2_endOfBookings_12 ?_
        refine aw_aload0 dX2_endOfBookings_13 ?_
        refine aw_getR dX2_endOfBookings_14 fR_2_27 hc.t hc.l (sH_books hc) ?_
        refine aw_iload2 dX2_endOfBookings_17 ?_
        refine aw_aald (j := i) dX2_endOfBookings_18 hc.tB (by decide) hc.lB rfl (by omega) (sH_book (by omega)) ?_
        refine aw_VI0 (k0_end _ _ (fun k => g (31 + 10 * i + k)) (fun j hj => sH_b hc (by omega) hw.nb12 hj) (hc.tb (by omega)) (hc.lb (by omega))) dX2_endOfBookings_19 vl_2_143 (hc.tb (by omega)) (hc.lb (by omega)) (by decide) (Nat.le_of_ble_eq_true rfl) (fun σ_19 r_19 h_19 => ?_)
        obtain ⟨rfl, rfl⟩ := h_19
        refine aw_mmax dX2_endOfBookings_22 jl_2_180 mm_smax mm_i mm_cmax (by decide) (Nat.le_of_ble_eq_true rfl) ?_
        refine aw_istore1 dX2_endOfBookings_25 (by decide) rfl ?_
        refine aw_iinc2 (w := nI (i + 1)) dX2_endOfBookings_26 (nI_1 i) (by decide) rfl ?_
        refine aw_goto (tgt := 4) dX2_endOfBookings_29 (by decide) ?_
        exact ih (i + 1) (by omega) (by omega)
  refine aw_iconst (v := 0) dX2_endOfBookings_0 (by decide) ?_
  refine aw_istore1 dX2_endOfBookings_1 (by decide) rfl ?_
  refine aw_iconst (v := 0) dX2_endOfBookings_2 (by decide) ?_
  refine aw_istore2 dX2_endOfBookings_3 (by decide) rfl ?_
  exact L4 (nb + 1) 0 (Nat.zero_le _) (by omega)
/-- cold hours are counted: there are not many -/
def CB (g : Rw) (nb c : Nat) : Prop := ∀ b, b < nb → ∃ k, k ≤ c ∧ g (31 + 10 * b + 8) = nI k
def cM (g : Rw) (o : Option Nat) : Int32 := match o with
  | none => -1
  | some c => g (31 + 10 * c + 8)
theorem cM_lt {g : Rw} {nb c b : Nat} (h : CB g nb c) (hc : c < 5000) (hb : b < nb) (k : Nat) : fCold g (k + 1) = (if cM g (fCold g k) < g (31 + 10 * k + 8) then some k else fCold g k) ∨ nb ≤ k := by
  rcases Nat.lt_or_ge k nb with q | q
  · refine Or.inl ?_
    rw [fCold]
    match hf : fCold g k with
    | none =>
      obtain ⟨x, hx1, hx2⟩ := h k q
      refine (if_pos (show cM g none < g (31 + 10 * k + 8) from ?_)).symm
      have e : (nI x).toInt = (x : Int) := nI_toInt (by omega)
      rw [hx2, show cM g none = -1 from rfl, Int32.lt_iff_toInt_lt, e]
      have : (-1 : Int32).toInt = -1 := by decide
      omega
    | some d => rfl
  · exact Or.inr q
set_option maxHeartbeats 4000000 in
theorem k2_coldestBooking (σ : Sg) (h : Nat) (π : Nat → Nat) (nr ng nb t : Nat) (g : Rw) (c : Nat) (hc : HC σ h π) (hw : WF g nr ng nb t) (hcb : CB g nb c) (hc5 : c < 5000) : Ct yX2_coldestBooking cX2_coldestBooking mX2_coldestBooking 1 0 0 NN false (sH σ h π nr ng nb g) [.ref h] NN (eI1 (sH σ h π nr ng nb g) (oI (fCold g nb))) XF := by
  refine ct_of (ls0 := [some (.ref h), none, none, none]) 3 (by decide +kernel) rfl rfl (ndR nd0) rfl (Nat.le_of_ble_eq_true rfl) (fun K => ?_)
  have hnr4 := hw.nr4
  have hng6 := hw.ng6
  have hnb12 := hw.nb12
  have L7 : ∀ (k : Nat) (i : Nat) (h1 : i ≤ nb) (h2 : nb - i < k), AW K RX2 cX2_coldestBooking mX2_coldestBooking 1 0 0 (Qm K NN (eI1 (sH σ h π nr ng nb g) (oI (fCold g nb))) XF 0 0) NN none (sH σ h π nr ng nb g) 0 0 7 [some (.ref h), some (.int (oI (fCold g i))), some (.int (cM g (fCold g i))), some (.int (nI i))] [] := by
    intro k
    induction k with
    | zero => intro i h1 h2; exact absurd h2 (Nat.not_lt_zero _)
    | succ k ih =>
      intro i h1 h2
      refine aw_iload3 dX2_coldestBooking_7 ?_
      refine aw_aload0 dX2_coldestBooking_8 ?_
      refine aw_getI dX2_coldestBooking_9 fI_2_42 hc.t hc.l (sH_nb.trans hw.nb) ?_
      refine aw_ic_ge (tgt := 46) dX2_coldestBooking_12 (by decide) (fun c_12 => ?_) (fun c_12 => ?_)
      · have hbb : i = nb := by
          have := (nI_leI (by omega) (by omega)).mp c_12
          omega
        subst hbb
        refine aw_iload1 dX2_coldestBooking_46 ?_
        exact aw_iret dX2_coldestBooking_47 rfl (by decide) eI_of
      · have hlt : i < nb := by
          rcases Nat.lt_or_ge i nb with q | q
          · exact q
          · exact absurd (nI_le q (by omega)) c_12
        refine aw_aload0 dX2_coldestBooking_15 ?_
        refine aw_getR dX2_coldestBooking_16 fR_2_27 hc.t hc.l (sH_books hc) ?_
        refine aw_iload3 dX2_coldestBooking_19 ?_
        refine aw_aald (j := i) dX2_coldestBooking_20 hc.tB (by decide) hc.lB rfl (by omega) (sH_book (by omega)) ?_
        refine aw_getI dX2_coldestBooking_21 fI_2_177 (hc.tb (by omega)) (hc.lb (by omega)) (show _ = g (31 + 10 * i + 8) from sH_b hc hlt hw.nb12 (by decide)) ?_
        refine aw_iload2 dX2_coldestBooking_24 ?_
        refine aw_ic_le (tgt := 40) dX2_coldestBooking_25 (by decide) (fun c_25 => ?_) (fun c_25 => ?_)
        · refine aw_iinc3 (w := nI (i + 1)) dX2_coldestBooking_40 (nI_1 i) (by decide) rfl ?_
          refine aw_goto (tgt := 7) dX2_coldestBooking_43 (by decide) ?_
          have e : fCold g (i + 1) = fCold g i := ((cM_lt hcb hc5 hlt i).resolve_right (by omega)).trans (if_neg (Int32.not_lt.mpr c_25))
          have k9 := ih (i + 1) (by omega) (by omega)
          rw [e] at k9
          exact k9
        · refine aw_iload3 dX2_coldestBooking_28 ?_
          refine aw_istore1 dX2_coldestBooking_29 (by decide) rfl ?_
          refine aw_aload0 dX2_coldestBooking_30 ?_
          refine aw_getR dX2_coldestBooking_31 fR_2_27 hc.t hc.l (sH_books hc) ?_
          refine aw_iload3 dX2_coldestBooking_34 ?_
          refine aw_aald (j := i) dX2_coldestBooking_35 hc.tB (by decide) hc.lB rfl (by omega) (sH_book (by omega)) ?_
          refine aw_getI dX2_coldestBooking_36 fI_2_177 (hc.tb (by omega)) (hc.lb (by omega)) (show _ = g (31 + 10 * i + 8) from sH_b hc hlt hw.nb12 (by decide)) ?_
          refine aw_istore2 dX2_coldestBooking_39 (by decide) rfl ?_
          refine aw_iinc3 (w := nI (i + 1)) dX2_coldestBooking_40 (nI_1 i) (by decide) rfl ?_
          refine aw_goto (tgt := 7) dX2_coldestBooking_43 (by decide) ?_
          have e : fCold g (i + 1) = some i := ((cM_lt hcb hc5 hlt i).resolve_right (by omega)).trans (if_pos (Int32.not_le.mp c_25))
          have k9 := ih (i + 1) (by omega) (by omega)
          rw [e] at k9
          exact k9
  refine aw_bipush (v := (-99)) dX2_coldestBooking_0 (by decide) ?_
  refine aw_istore1 dX2_coldestBooking_2 (by decide) rfl ?_
  refine aw_iconst (v := (-1)) dX2_coldestBooking_3 (by decide) ?_
  refine aw_istore2 dX2_coldestBooking_4 (by decide) rfl ?_
  refine aw_iconst (v := 0) dX2_coldestBooking_5 (by decide) ?_
  refine aw_istore3 dX2_coldestBooking_6 (by decide) rfl ?_
  exact L7 (nb + 1) 0 (Nat.zero_le _) (by omega)
set_option maxHeartbeats 4000000 in
theorem k2_numberAbout (σ : Sg) (h : Nat) (π : Nat → Nat) (nr ng nb t : Nat) (g : Rw) (k : Nat) (hc : HC σ h π) (hw : WF g nr ng nb t) (hk : k ≤ 9) : Ct yX2_numberAbout cX2_numberAbout mX2_numberAbout 1 0 0 NN false (sH σ h π nr ng nb g) [.ref h, .int (nI k)] NN (eI1 (sH σ h π nr ng nb g) (aboutV g k)) XF := by
  refine ct_of (ls0 := [some (.ref h), some (.int (nI k))]) 0 (by decide +kernel) rfl rfl (ndR (ndI nd0)) rfl (Nat.le_of_ble_eq_true rfl) (fun K => ?_)
  refine aw_iload1 dX2_numberAbout_0 ?_
  have hk9 : k = 0 ∨ k = 1 ∨ k = 2 ∨ k = 3 ∨ k = 4 ∨ k = 5 ∨ k = 6 ∨ k = 7 ∨ k = 8 ∨ k = 9 := by omega
  rcases hk9 with rfl | rfl | rfl | rfl | rfl | rfl | rfl | rfl | rfl | rfl
  · refine aw_table (off := 51) (tgt := 52) dX2_numberAbout_1 (by decide) (by decide) (by decide) (by decide) ?_
    refine aw_aload0 dX2_numberAbout_52 ?_
    refine aw_getI dX2_numberAbout_53 fI_2_33 hc.t hc.l sH_hour ?_
    exact aw_iret dX2_numberAbout_56 rfl (by decide) eI_of
  · refine aw_table (off := 56) (tgt := 57) dX2_numberAbout_1 (by decide) (by decide) (by decide) (by decide) ?_
    refine aw_aload0 dX2_numberAbout_57 ?_
    refine aw_getI dX2_numberAbout_58 fI_2_36 hc.t hc.l sH_nr ?_
    exact aw_iret dX2_numberAbout_61 rfl (by decide) eI_of
  · refine aw_table (off := 61) (tgt := 62) dX2_numberAbout_1 (by decide) (by decide) (by decide) (by decide) ?_
    refine aw_aload0 dX2_numberAbout_62 ?_
    refine aw_getI dX2_numberAbout_63 fI_2_39 hc.t hc.l sH_ng ?_
    exact aw_iret dX2_numberAbout_66 rfl (by decide) eI_of
  · refine aw_table (off := 66) (tgt := 67) dX2_numberAbout_1 (by decide) (by decide) (by decide) (by decide) ?_
    refine aw_aload0 dX2_numberAbout_67 ?_
    refine aw_getI dX2_numberAbout_68 fI_2_42 hc.t hc.l sH_nb ?_
    exact aw_iret dX2_numberAbout_71 rfl (by decide) eI_of
  · refine aw_table (off := 71) (tgt := 72) dX2_numberAbout_1 (by decide) (by decide) (by decide) (by decide) ?_
    refine aw_aload0 dX2_numberAbout_72 ?_
    refine aw_getI dX2_numberAbout_73 fI_2_9 hc.t hc.l sH_outd ?_
    exact aw_iret dX2_numberAbout_76 rfl (by decide) eI_of
  · refine aw_table (off := 76) (tgt := 77) dX2_numberAbout_1 (by decide) (by decide) (by decide) (by decide) ?_
    refine aw_aload0 dX2_numberAbout_77 ?_
    refine aw_getI dX2_numberAbout_78 fI_2_45 hc.t hc.l sH_met ?_
    exact aw_iret dX2_numberAbout_81 rfl (by decide) eI_of
  · refine aw_table (off := 81) (tgt := 82) dX2_numberAbout_1 (by decide) (by decide) (by decide) (by decide) ?_
    refine aw_aload0 dX2_numberAbout_82 ?_
    refine aw_getI dX2_numberAbout_83 fI_2_48 hc.t hc.l sH_gch ?_
    exact aw_iret dX2_numberAbout_86 rfl (by decide) eI_of
  · refine aw_table (off := 86) (tgt := 87) dX2_numberAbout_1 (by decide) (by decide) (by decide) (by decide) ?_
    refine aw_aload0 dX2_numberAbout_87 ?_
    refine aw_getI dX2_numberAbout_88 fI_2_51 hc.t hc.l sH_par ?_
    exact aw_iret dX2_numberAbout_91 rfl (by decide) eI_of
  · refine aw_table (off := 91) (tgt := 92) dX2_numberAbout_1 (by decide) (by decide) (by decide) (by decide) ?_
    refine aw_aload0 dX2_numberAbout_92 ?_
    refine aw_getI dX2_numberAbout_93 fI_2_45 hc.t hc.l sH_met ?_
    refine aw_aload0 dX2_numberAbout_96 ?_
    refine aw_getI dX2_numberAbout_97 fI_2_48 hc.t hc.l sH_gch ?_
    refine aw_isub dX2_numberAbout_100 ?_
    refine aw_aload0 dX2_numberAbout_101 ?_
    refine aw_getI dX2_numberAbout_102 fI_2_51 hc.t hc.l sH_par ?_
    refine aw_isub dX2_numberAbout_105 ?_
    exact aw_iret dX2_numberAbout_106 rfl (by decide) eI_of
  · refine aw_tableO (tgt := 107) dX2_numberAbout_1 (Or.inr (by decide)) (by decide) ?_
    refine aw_aload0 dX2_numberAbout_107 ?_
    refine aw_getI dX2_numberAbout_108 fI_2_54 hc.t hc.l sH_hea ?_
    exact aw_iret dX2_numberAbout_111 rfl (by decide) eI_of
