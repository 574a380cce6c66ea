/-! the reference: what is tried out -/
theorem oI_ne {k : Nat} (hk : k < 1000) : ¬ oI none = nI k := fun h => by
  have h9 := congrArg Int32.toInt h
  rw [nI_toInt (by omega)] at h9
  have h3 : (oI none).toInt = -99 := by decide
  omega
theorem oI_eq {o : Option Nat} {k : Nat} (h : ∀ f, o = some f → f < 1000) (hk : k < 1000) : oI o = nI k ↔ o = some k := by
  cases o with
  | none => exact ⟨fun e => absurd e (oI_ne hk), fun e => by cases e⟩
  | some x =>
    have hx := h x rfl
    constructor
    · intro e
      rw [(nI_eq (a := x) (b := k) (by omega) (by omega)).mp e]
    · intro e
      cases e
      rfl
set_option maxHeartbeats 4000000 in
theorem k_begin (σ : Sg) (g : Rw) (hM : MS σ) : Ct yX7_begin cX7_begin mX7_begin 2 0 0 NN false (sA σ 391 g) [.ref 388] NN (eV1 (sA (sA σ 391 g) 392 g)) XF := by
  refine ct_of (ls0 := [some (.ref 388)]) 0 (by decide +kernel) rfl rfl (ndR nd0) rfl (Nat.le_of_ble_eq_true rfl) (fun K => ?_)
  refine aw_aload0 dX7_begin_0 ?_
  refine aw_getR dX7_begin_1 fR_7_16 rfl (by decide) hM.now ?_
  refine aw_iconst (v := 0) dX7_begin_4 (by decide) ?_
  refine aw_aload0 dX7_begin_5 ?_
  refine aw_getR dX7_begin_6 fR_7_19 rfl (by decide) hM.trial ?_
  refine aw_iconst (v := 0) dX7_begin_9 (by decide) ?_
  refine aw_sipush (v := 151) dX7_begin_10 (by decide) ?_
  refine aw_SV5 (k_copy _ 391 392 0 0 151 151 151 g rfl rfl (by decide) (by decide) (by decide) (by decide) (Or.inl (by decide)) (by decide) (fun j hj => (if_pos ⟨Nat.zero_le _, by omega⟩).trans (show (sA σ 391 g).1 391 (0 + (j - 0)) = g j from congrArg g (by omega)))) dX7_begin_13 sl_7_45 (by decide) (Nat.le_of_ble_eq_true rfl) (fun σ_13 h_13 => ?_)
  obtain rfl := h_13
  exact aw_vret dX7_begin_16 rfl (by decide) eV_of
set_option maxHeartbeats 4000000 in
theorem k_later (σ : Sg) (g : Rw) (nr ng nb t : Nat) (r h : Int32) (hM : MS σ) (hw : WF g nr ng nb t) : Ct yX7_later cX7_later mX7_later 9 0 0 NN false (sA σ 391 g) [.ref 388, .int r, .int h] NN (eX σ g (cd2 (isN r nr) (0 ≤ h ∧ h ≤ 48)) (fHours g nr nb (cN h) (9 + 4 * cN r + 3))) XF := by
  refine ct_of (ls0 := [some (.ref 388), some (.int r), some (.int h)]) 0 (by decide +kernel) rfl rfl (ndR (ndI (ndI nd0))) rfl (Nat.le_of_ble_eq_true rfl) (fun K => ?_)
  refine aw_aload0 dX7_later_0 ?_
  refine AW.tern0 (E := (cd2 (isN r nr) (0 ≤ h ∧ h ≤ 48))) (pc2 := 30) (fun x_30 hx_30 => ?_) (fun J_30 => ?_)
  · subst hx_30
    refine aw_VI1 (k_refusedN _ _ _) dX7_later_30 vl_7_110 rfl (by decide) (by decide) (Nat.le_of_ble_eq_true rfl) (fun σ_30 r_30 h_30 => ?_)
    obtain ⟨rfl, h_30⟩ := h_30
    rcases h_30 with ⟨rfl, p_30⟩ | ⟨rfl, p_30⟩
    · refine aw_if_eq (tgt := 38) dX7_later_33 (by decide) (fun c_33 => absurd c_33 (by decide)) (fun _ => ?_)
      refine aw_iconst (v := 0) dX7_later_36 (by decide) ?_
      exact aw_iret dX7_later_37 rfl (by decide) (eX_r p_30)
    · refine aw_if_eq (tgt := 38) dX7_later_33 (by decide) (fun _ => ?_) (fun c_33 => absurd c_33 (by decide))
      have hab := cd2_z p_30
      obtain ⟨ri, hri, rfl⟩ := hab.1
      obtain ⟨k, hk, rfl⟩ := Int32.rng (n := 48) (by omega) hab.2.1 hab.2.2
      have hnr4 := hw.nr4
      rw [cN, nI_clamp (by omega), cN, nI_clamp (by omega)]
      refine aw_aload0 dX7_later_38 ?_
      refine aw_VV0 (k_begin _ _ hM) dX7_later_39 vl_7_201 rfl (by decide) (by decide) (Nat.le_of_ble_eq_true rfl) (fun σ_39 h_39 => ?_)
      obtain rfl := h_39
      refine aw_aload0 dX7_later_42 ?_
      refine aw_getR dX7_later_43 fR_7_19 rfl (by decide) hM.trial ?_
      refine aw_iload2 dX7_later_46 ?_
      refine aw_SV2 (k_goHours _ 392 _ _ _ _ rfl (by decide) hw.nb hw.nb12 hw.nr hw.nr4 hw.who (by omega)) dX7_later_47 sl_7_94 (by decide) (Nat.le_of_ble_eq_true rfl) (fun σ_47 h_47 => ?_)
      obtain rfl := h_47
      refine aw_aload0 dX7_later_50 ?_
      refine aw_getR dX7_later_51 fR_7_19 rfl (by decide) hM.trial ?_
      refine aw_iload1 dX7_later_54 ?_
      refine aw_iconst (v := 3) dX7_later_55 (by decide) ?_
      refine aw_SI2 (k_roomAt _ _ 3) dX7_later_56 sl_7_61 (by decide) (Nat.le_of_ble_eq_true rfl) (fun σ_56 r_56 h_56 => ?_)
      obtain ⟨rfl, rfl⟩ := h_56
      refine aw_iald dX7_later_59 rfl (by decide) rfl (by omega) (show _ = fHours g nr nb k (9 + 4 * ri + 3) from sA_at) ?_
      exact aw_iret dX7_later_60 rfl (by decide) (eX_o (cd2_0 ⟨ri, hri, rfl⟩ hab.2) rfl)
  · refine aw_aload0 dX7_later_1 ?_
    refine aw_iload1 dX7_later_2 ?_
    refine aw_VI1 (k_isRoom _ _ _ _ hM hw.nr (by have := hw.nr4; omega)) dX7_later_3 vl_7_157 rfl (by decide) (by decide) (Nat.le_of_ble_eq_true rfl) (fun σ_3 r_3 h_3 => ?_)
    obtain ⟨rfl, h_3⟩ := h_3
    rcases h_3 with ⟨rfl, p_3⟩ | ⟨rfl, p_3⟩
    · refine aw_if_ne (tgt := 13) dX7_later_6 (by decide) (fun _ => ?_) (fun c_6 => absurd c_6 (by decide))
      refine aw_iload2 dX7_later_13 ?_
      refine aw_i2l dX7_later_14 ?_
      refine aw_lconst (v := 0) dX7_later_15 (by decide) ?_
      refine aw_ldc2 dX7_later_16 kl_7_199 ?_
      refine aw_SI3 (k_inC _ _ _ _ 0 48 rfl rfl) dX7_later_19 sl_7_103 (by decide) (Nat.le_of_ble_eq_true rfl) (fun σ_19 r_19 h_19 => ?_)
      obtain ⟨rfl, h_19⟩ := h_19
      rcases h_19 with ⟨rfl, p_19⟩ | ⟨rfl, p_19⟩
      · refine aw_if_eq (tgt := 29) dX7_later_22 (by decide) (fun c_22 => absurd c_22 (by decide)) (fun _ => ?_)
        refine aw_iconst (v := 0) dX7_later_25 (by decide) ?_
        refine aw_goto (tgt := 30) dX7_later_26 (by decide) ?_
        exact J_30 _ (by first | exact cd2_1 p_3 | exact cd2_2 p_3 p_19 | exact cd2_0 p_3 p_19)
      · refine aw_if_eq (tgt := 29) dX7_later_22 (by decide) (fun _ => ?_) (fun c_22 => absurd c_22 (by decide))
        refine aw_iconst (v := 2) dX7_later_29 (by decide) ?_
        exact J_30 _ (by first | exact cd2_1 p_3 | exact cd2_2 p_3 p_19 | exact cd2_0 p_3 p_19)
    · refine aw_if_ne (tgt := 13) dX7_later_6 (by decide) (fun c_6 => absurd c_6 (by decide)) (fun _ => ?_)
      refine aw_iconst (v := 1) dX7_later_9 (by decide) ?_
      refine aw_goto (tgt := 30) dX7_later_10 (by decide) ?_
      exact J_30 _ (by first | exact cd2_1 p_3 | exact cd2_2 p_3 p_19 | exact cd2_0 p_3 p_19)
/-- when a booking begins to be heated for, within so many hours from now -/
def fBeg (g : Rw) (nr nb r b : Nat) : Nat → Int32
  | 0 => -99
  | k + 1 => if fHeater g r nb = some b then g 0 else fBeg (fHour g nr nb) nr nb r b k
def fLeft (g : Rw) (b : Nat) : Nat := (fEnd g b).toNatClampNeg - (g 0).toNatClampNeg
theorem fEnd_off {g e : Rw} {b : Nat} (h : ∀ j, kept0 j → j ≠ 0 → e j = g j) : fEnd e b = fEnd g b := by
  rw [fEnd, fEnd, h _ (by unfold kept0; omega) (by omega), h _ (by unfold kept0; omega) (by omega)]
theorem fHour_0 {g : Rw} {nr nb : Nat} (hw : WHO g nb) (hnr : nr ≤ 4) : fHour g nr nb 0 = g 0 + 1 := by
  have hw2 : WHO (fMid g nr nb) nb := fun b hb => by
    obtain ⟨w, h1, h2⟩ := hw b hb
    exact ⟨w, h1, by rw [fMid_off hw hnr _ kept0_who (by omega)]; exact h2⟩
  show fEnds (fMid g nr nb) nb nb 0 = _
  rw [fEnds_off hw2 nb (Nat.le_refl _) 0 (Or.inl (by decide))]
  show upd _ 0 _ 0 = _
  rw [upd_s, upd_n (by decide), fRooms_off hw nr hnr 0 (Or.inl (by decide))]
/-- what of a row stays as the hours go by -/
def KP (g e : Rw) : Prop := ∀ j, kept0 j → j ≠ 0 → e j = g j
theorem KP.hour {g e : Rw} {nr nb : Nat} (h : KP g e) (hw : WHO e nb) (hnr : nr ≤ 4) : KP g (fHour e nr nb) := fun j hj h0 => by rw [fHour_off hw hnr j hj h0, h j hj h0]
theorem KP.who {g e : Rw} {nb : Nat} (h : KP g e) (hw : WHO g nb) : WHO e nb := fun b hb => by
  obtain ⟨w, h1, h2⟩ := hw b hb
  exact ⟨w, h1, by rw [h _ kept0_who (by omega)]; exact h2⟩
theorem KP.hours {g : Rw} {nr nb k : Nat} (hw : WHO g nb) (hnr : nr ≤ 4) : KP g (fHours g nr nb k) := fun j hj h0 => fHours_off hw hnr k j hj h0
set_option maxHeartbeats 4000000 in
theorem k_begL (σ : Sg) (g : Rw) (nr ng nb t k0 r0 e0 : Nat) (V : Int32) (hM : MS σ) (hw : WF g nr ng nb t) (hk0 : k0 < nb) (hr0 : r0 < nr) (hgr : g (31 + 10 * k0 + 0) = nI r0) (he0 : e0 ≤ 300) (hge : fEnd g k0 = nI e0) (K : KT) (Q : State → Prop)
    (kk : ∀ X, AW K RX7 cX7_begins mX7_begins 9 0 0 Q NN none (sA (sA σ 391 g) 392 X) 0 0 77 [some (.ref 388), some (.int (nI k0))] [.int V])
    (kr : ∀ X, AW K RX7 cX7_begins mX7_begins 9 0 0 Q NN none (sA (sA σ 391 g) 392 X) 0 0 64 [some (.ref 388), some (.int (nI k0))] [.int V]) :
    ∀ (k i : Nat) (e : Rw) (h1 : KP g e) (h3 : e 0 = nI i) (h4 : i ≤ 700) (h5 : fBeg e nr nb r0 k0 (e0 - i) = V) (h2 : e0 - i < k), AW K RX7 cX7_begins mX7_begins 9 0 0 Q NN none (sA (sA σ 391 g) 392 e) 0 0 26 [some (.ref 388), some (.int (nI k0))] [] := by
  intro k
  induction k with
  | zero => intro i e h1 h3 h4 h5 h2; exact absurd h2 (Nat.not_lt_zero _)
  | succ k ih =>
    intro i e h1 h3 h4 h5 h2
    have hnb12 := hw.nb12
    have hnr4 := hw.nr4
    have hee : fEnd e k0 = nI e0 := (fEnd_off h1).trans hge
    have hwe := h1.who hw.who
    have hnbe : e 3 = nI nb := (h1 3 kept0_3 (by decide)).trans hw.nb
    have hnre : e 1 = nI nr := (h1 1 kept0_1 (by decide)).trans hw.nr
    have hre : e (31 + 10 * k0 + 0) = nI r0 := (h1 _ (by unfold kept0; omega) (by omega)).trans hgr
    refine aw_aload0 dX7_begins_26 ?_
    refine aw_getR dX7_begins_27 fR_7_19 rfl (by decide) hM.trial ?_
    refine aw_iload1 dX7_begins_30 ?_
    refine aw_SI2 (k_isOver _ 392 _ _ rfl (by decide) (by omega)) dX7_begins_31 sl_7_57 (by decide) (Nat.le_of_ble_eq_true rfl) (fun σ_31 r_31 h_31 => ?_)
    obtain ⟨rfl, h_31⟩ := h_31
    rcases h_31 with ⟨rfl, p_31⟩ | ⟨rfl, p_31⟩
    · refine aw_if_ne (tgt := 75) dX7_begins_34 (by decide) (fun _ => ?_) (fun c_34 => absurd c_34 (by decide))
      have hge0 : e0 ≤ i := by
        rw [hee, h3] at p_31
        exact (nI_leI (by omega) (by omega)).mp p_31
      refine aw_bipush (v := (-99)) dX7_begins_75 (by decide) ?_
      rw [show e0 - i = 0 by omega] at h5
      rw [show fBeg e nr nb r0 k0 0 = -99 from rfl] at h5
      subst h5
      exact kk _
    · refine aw_if_ne (tgt := 75) dX7_begins_34 (by decide) (fun c_34 => absurd c_34 (by decide)) (fun _ => ?_)
      have hlt : i < e0 := by
        rw [hee, h3] at p_31
        rcases Nat.lt_or_ge i e0 with q | q
        · exact q
        · exact absurd (nI_le q (by omega)) p_31
      refine aw_aload0 dX7_begins_37 ?_
      refine aw_getR dX7_begins_38 fR_7_19 rfl (by decide) hM.trial ?_
      refine aw_aload0 dX7_begins_41 ?_
      refine aw_getR dX7_begins_42 fR_7_19 rfl (by decide) hM.trial ?_
      refine aw_iload1 dX7_begins_45 ?_
      refine aw_iconst (v := 0) dX7_begins_46 (by decide) ?_
      refine aw_SI2 (k_bookAt _ _ 0) dX7_begins_47 sl_7_49 (by decide) (Nat.le_of_ble_eq_true rfl) (fun σ_47 r_47 h_47 => ?_)
      obtain ⟨rfl, rfl⟩ := h_47
      refine aw_iald dX7_begins_50 rfl (by decide) rfl (by omega) sA_at ?_
      rw [hre]
      refine aw_SI2 (k_heaterOf _ 392 _ r0 _ rfl (by decide) hnbe hnb12 (by omega)) dX7_begins_51 sl_7_77 (by decide) (Nat.le_of_ble_eq_true rfl) (fun σ_51 r_51 h_51 => ?_)
      obtain ⟨rfl, rfl⟩ := h_51
      have hEQ : oI (fHeater e r0 nb) = nI k0 ↔ fHeater e r0 nb = some k0 := oI_eq (fun f hf => by have := fHeater_lt hf; omega) (by omega)
      refine aw_iload1 dX7_begins_54 ?_
      refine aw_ic_ne (tgt := 65) dX7_begins_55 (by decide) (fun c_55 => ?_) (fun c_55 => ?_)
      · refine aw_aload0 dX7_begins_65 ?_
        refine aw_getR dX7_begins_66 fR_7_19 rfl (by decide) hM.trial ?_
        refine aw_SV1 (k_goHour _ 392 _ _ _ rfl (by decide) hnbe hnb12 hnre hnr4 hwe) dX7_begins_69 sl_7_91 (by decide) (Nat.le_of_ble_eq_true rfl) (fun σ_69 h_69 => ?_)
        obtain rfl := h_69
        refine aw_goto (tgt := 26) dX7_begins_72 (by decide) ?_
        rw [show e0 - i = (e0 - i - 1) + 1 by omega] at h5
        rw [show fBeg e nr nb r0 k0 (e0 - i - 1 + 1) = fBeg (fHour e nr nb) nr nb r0 k0 (e0 - i - 1) from if_neg (fun h => c_55 (hEQ.mpr h))] at h5
        exact ih (i + 1) (fHour e nr nb) (h1.hour hwe hnr4) ((fHour_0 hwe hnr4).trans (by rw [h3, nI_1])) (by omega) (by rw [show e0 - (i + 1) = e0 - i - 1 by omega]; exact h5) (by omega)
      · refine aw_aload0 dX7_begins_58 ?_
        refine aw_getR dX7_begins_59 fR_7_19 rfl (by decide) hM.trial ?_
        refine aw_iconst (v := 0) dX7_begins_62 (by decide) ?_
        refine aw_iald (j := 0) dX7_begins_63 rfl (by decide) rfl (by decide) sA_at ?_
        rw [show e0 - i = (e0 - i - 1) + 1 by omega] at h5
        rw [show fBeg e nr nb r0 k0 (e0 - i - 1 + 1) = e 0 from if_pos (hEQ.mp c_55)] at h5
        rw [h5]
        exact kr _
set_option maxHeartbeats 4000000 in
theorem k_begins (σ : Sg) (g : Rw) (nr ng nb t : Nat) (b : Int32) (hM : MS σ) (hw : WF g nr ng nb t) (ht : t ≤ 300) : Ct yX7_begins cX7_begins mX7_begins 9 0 0 NN false (sA σ 391 g) [.ref 388, .int b] NN (eX σ g (cd1 (isN b nb)) (fBeg g nr nb (cN (g (31 + 10 * cN b + 0))) (cN b) (fLeft g (cN b)))) XF := by
  refine ct_of (ls0 := [some (.ref 388), some (.int b)]) 0 (by decide +kernel) rfl rfl (ndR (ndI nd0)) rfl (Nat.le_of_ble_eq_true rfl) (fun K => ?_)
  refine aw_aload0 dX7_begins_0 ?_
  refine AW.tern0 (E := (cd1 (isN b nb))) (pc2 := 14) (fun x_14 hx_14 => ?_) (fun J_14 => ?_)
  · subst hx_14
    refine aw_VI1 (k_refusedN _ _ _) dX7_begins_14 vl_7_110 rfl (by decide) (by decide) (Nat.le_of_ble_eq_true rfl) (fun σ_14 r_14 h_14 => ?_)
    obtain ⟨rfl, h_14⟩ := h_14
    rcases h_14 with ⟨rfl, p_14⟩ | ⟨rfl, p_14⟩
    · refine aw_if_eq (tgt := 22) dX7_begins_17 (by decide) (fun c_17 => absurd c_17 (by decide)) (fun _ => ?_)
      refine aw_iconst (v := 0) dX7_begins_20 (by decide) ?_
      exact aw_iret dX7_begins_21 rfl (by decide) (eX_r p_14)
    · refine aw_if_eq (tgt := 22) dX7_begins_17 (by decide) (fun _ => ?_) (fun c_17 => absurd c_17 (by decide))
      obtain ⟨k0, hk0, rfl⟩ := cd1_z p_14
      have hnb12 := hw.nb12
      have hnr4 := hw.nr4
      obtain ⟨r0, hr0, hgr⟩ := hw.room hk0
      obtain ⟨e0, he0, hge⟩ := hw.end hk0
      rw [show cN (nI k0) = k0 from nI_clamp (by omega), hgr, show cN (nI r0) = r0 from nI_clamp (by omega)]
      refine aw_aload0 dX7_begins_22 ?_
      refine aw_VV0 (k_begin _ _ hM) dX7_begins_23 vl_7_201 rfl (by decide) (by decide) (Nat.le_of_ble_eq_true rfl) (fun σ_23 h_23 => ?_)
      obtain rfl := h_23
      have hl : fLeft g k0 = e0 - t := by rw [fLeft, hge, hw.hr, nI_clamp (by omega), nI_clamp (by omega)]
      refine k_begL (sI σ 388 0 (cd1 (isN (nI k0) nb))) g nr ng nb t k0 r0 e0 (fBeg g nr nb r0 k0 (fLeft g k0)) hM hw hk0 hr0 hgr (by omega) hge K _ (fun X => ?_) (fun X => ?_) (e0 - t + 1) t g (fun _ _ _ => rfl) hw.hr (by omega) (by rw [hl]) (by omega)
      · exact aw_iret dX7_begins_77 rfl (by decide) (eX_o (cd1_0 ⟨k0, hk0, rfl⟩) rfl)
      · exact aw_iret dX7_begins_64 rfl (by decide) (eX_o (cd1_0 ⟨k0, hk0, rfl⟩) rfl)
  · refine aw_aload0 dX7_begins_1 ?_
    refine aw_iload1 dX7_begins_2 ?_
    refine aw_VI1 (k_isBooking _ _ _ _ hM hw.nb (by have := hw.nb12; omega)) dX7_begins_3 vl_7_165 rfl (by decide) (by decide) (Nat.le_of_ble_eq_true rfl) (fun σ_3 r_3 h_3 => ?_)
    obtain ⟨rfl, h_3⟩ := h_3
    rcases h_3 with ⟨rfl, p_3⟩ | ⟨rfl, p_3⟩
    · refine aw_if_eq (tgt := 13) dX7_begins_6 (by decide) (fun c_6 => absurd c_6 (by decide)) (fun _ => ?_)
      refine aw_iconst (v := 0) dX7_begins_9 (by decide) ?_
      refine aw_goto (tgt := 14) dX7_begins_10 (by decide) ?_
      exact J_14 _ (by first | exact cd1_0 p_3 | exact cd1_1 p_3)
    · refine aw_if_eq (tgt := 13) dX7_begins_6 (by decide) (fun _ => ?_) (fun c_6 => absurd c_6 (by decide))
      refine aw_iconst (v := 1) dX7_begins_13 (by decide) ?_
      exact J_14 _ (by first | exact cd1_0 p_3 | exact cd1_1 p_3)
theorem beg2 {s : Sg} {g X Y : Rw} : sA (sA (sA s 392 X) 391 g) 392 Y = sA (sA s 391 g) 392 Y := by
  rw [sA_comm (a := 392) (b := 391) (by decide), sA_sA]
def fL (g : Rw) (f h : Int32) : Nat := cN (f + h - g 0)
theorem fL_of {g : Rw} {nr ng nb t : Nat} {f h t0 : Int32} (hw : WF g nr ng nb t) (ht : t ≤ 300) (hs : sound g f h t0) : f + h - g 0 = nI (fL g f h) ∧ fL g f h ≤ 300 := by
  obtain ⟨⟨h1, h2⟩, ⟨h3, h4⟩, -⟩ := hs
  rw [hw.hr] at h1
  obtain ⟨j, hj, rfl⟩ := nI_of (x := f) (Int32.not_lt.mpr (Int32.le_trans (nI_pos' (by omega)) h1))
  obtain ⟨k, hk, rfl⟩ := Int32.rng (n := 12) (by omega) (Int32.le_trans (by decide) h3) h4
  have h5 := (nI_leI (b := 199) hj (by omega)).mp h2
  have h6 := (nI_leI (by omega) hj).mp h1
  have e : nI j + nI k - g 0 = nI (j + k - t) := by rw [hw.hr, nI_add, pk_sub (by omega)]
  have e2 : fL g (nI j) (nI k) = j + k - t := by rw [fL, e, cN, nI_clamp (by omega)]
  rw [e2]
  exact ⟨e, by omega⟩
theorem fBookTo_off {g : Rw} {nb j : Nat} {r w f h t : Int32} (hj : j ≠ 3) (h2 : j < 31 + 10 * nb ∨ 41 + 10 * nb ≤ j) : fBookTo g nb r w f h t j = g j := by
  simp only [fBookTo]
  rw [upd_n hj, upd_n (by omega), upd_n (by omega), upd_n (by omega), upd_n (by omega), upd_n (by omega), fZero_off _ _ (by omega)]
theorem fBookTo_w {g : Rw} {nb : Nat} {r w f h t : Int32} : fBookTo g nb r w f h t (31 + 10 * nb + 1) = w := by
  simp only [fBookTo]
  rw [upd_n (by omega), upd_n (by omega), upd_n (by omega), upd_n (by omega), upd_s]
theorem WHO.book {g : Rw} {nb k : Nat} {r f h t : Int32} (hw : WHO g nb) (hk : k < 6) : WHO (fBookTo g nb r (nI k) f h t) (nb + 1) := fun b hb => by
  rcases Nat.lt_or_ge b nb with q | q
  · obtain ⟨x, h1, h2⟩ := hw b q
    exact ⟨x, h1, by rw [fBookTo_off (by omega) (by omega)]; exact h2⟩
  · have : b = nb := by omega
    subst this
    exact ⟨k, hk, fBookTo_w⟩
set_option maxHeartbeats 4000000 in
theorem k_cost (σ : Sg) (g : Rw) (nr ng nb t : Nat) (r w f h t0 : Int32) (hM : MS σ) (hw : WF g nr ng nb t) (ht : t ≤ 300) : Ct yX7_cost cX7_cost mX7_cost 9 0 0 NN false (sA σ 391 g) [.ref 388, .int r, .int w, .int f, .int h, .int t0] NN (eX σ g (cd2 (isN r nr ∧ isN w ng) (sound g f h t0)) (@ite _ (nb < 12 ∧ fFree g r f h nb) (Classical.propDecidable _) (fHours (fBookTo g nb r w f h t0) nr (nb + 1) (fL g f h) 5 - fHours g nr nb (fL g f h) 5) (-99))) XF := by
  refine ct_of (ls0 := [some (.ref 388), some (.int r), some (.int w), some (.int f), some (.int h), some (.int t0), none, none]) 2 (by decide +kernel) rfl rfl (ndR (ndI (ndI (ndI (ndI (ndI nd0)))))) rfl (Nat.le_of_ble_eq_true rfl) (fun K => ?_)
  refine AW.tern0 (E := (zI (isN r nr ∧ isN w ng))) (pc2 := 21) (fun x_21 hx_21 => ?_) (fun J_21 => ?_)
  · subst hx_21
    refine aw_istore6 dX7_cost_21 (by decide) rfl ?_
    refine aw_aload0 dX7_cost_23 ?_
    refine AW.tern0 (E := (cd2 (isN r nr ∧ isN w ng) (sound g f h t0))) (pc2 := 50) (fun x_50 hx_50 => ?_) (fun J_50 => ?_)
    · subst hx_50
      refine aw_VI1 (k_refusedN _ _ _) dX7_cost_50 vl_7_110 rfl (by decide) (by decide) (Nat.le_of_ble_eq_true rfl) (fun σ_50 r_50 h_50 => ?_)
      obtain ⟨rfl, h_50⟩ := h_50
      rcases h_50 with ⟨rfl, p_50⟩ | ⟨rfl, p_50⟩
      · refine aw_if_eq (tgt := 58) dX7_cost_53 (by decide) (fun c_53 => absurd c_53 (by decide)) (fun _ => ?_)
        refine aw_iconst (v := 0) dX7_cost_56 (by decide) ?_
        exact aw_iret dX7_cost_57 rfl (by decide) (eX_r p_50)
      · refine aw_if_eq (tgt := 58) dX7_cost_53 (by decide) (fun _ => ?_) (fun c_53 => absurd c_53 (by decide))
        have hab := cd2_z p_50
        obtain ⟨hL1, hL2⟩ := fL_of hw ht hab.2
        obtain ⟨wi, hwi, hwe⟩ := hab.1.2
        have hng6 := hw.ng6
        refine aw_aload0 dX7_cost_58 ?_
        refine aw_getR dX7_cost_59 fR_7_16 rfl (by decide) hM.now ?_
        refine aw_iload1 dX7_cost_62 ?_
        refine aw_iload3 dX7_cost_63 ?_
        refine aw_iload4 dX7_cost_64 ?_
        refine aw_SI4 (k_canBook _ 391 _ _ _ _ _ rfl (by decide) hw.nb hw.nb12) dX7_cost_66 sl_7_185 (by decide) (Nat.le_of_ble_eq_true rfl) (fun σ_66 r_66 h_66 => ?_)
        obtain ⟨rfl, h_66⟩ := h_66
        rcases h_66 with ⟨rfl, p_66⟩ | ⟨rfl, p_66⟩
        · refine aw_if_ne (tgt := 75) dX7_cost_69 (by decide) (fun _ => ?_) (fun c_69 => absurd c_69 (by decide))
          have hnb12 := p_66.1
          refine aw_aload0 dX7_cost_75 ?_
          refine aw_VV0 (k_begin _ _ hM) dX7_cost_76 vl_7_201 rfl (by decide) (by decide) (Nat.le_of_ble_eq_true rfl) (fun σ_76 h_76 => ?_)
          obtain rfl := h_76
          refine aw_aload0 dX7_cost_79 ?_
          refine aw_getR dX7_cost_80 fR_7_19 rfl (by decide) hM.trial ?_
          refine aw_iload3 dX7_cost_83 ?_
          refine aw_iload4 dX7_cost_84 ?_
          refine aw_iadd dX7_cost_86 ?_
          refine aw_aload0 dX7_cost_87 ?_
          refine aw_getR dX7_cost_88 fR_7_16 rfl (by decide) hM.now ?_
          refine aw_iconst (v := 0) dX7_cost_91 (by decide) ?_
          refine aw_iald (j := 0) dX7_cost_92 rfl (by decide) rfl (by decide) (show _ = g 0 from rfl) ?_
          refine aw_isub dX7_cost_93 ?_
          rw [hL1]
          refine aw_SV2 (k_goHours _ 392 _ _ _ _ rfl (by decide) hw.nb hw.nb12 hw.nr hw.nr4 hw.who (by omega)) dX7_cost_94 sl_7_94 (by decide) (Nat.le_of_ble_eq_true rfl) (fun σ_94 h_94 => ?_)
          obtain rfl := h_94
          refine aw_aload0 dX7_cost_97 ?_
          refine aw_getR dX7_cost_98 fR_7_19 rfl (by decide) hM.trial ?_
          refine aw_iconst (v := 5) dX7_cost_101 (by decide) ?_
          refine aw_iald (j := 5) dX7_cost_102 rfl (by decide) rfl (by decide) (show _ = fHours g nr nb (fL g f h) 5 from sA_at) ?_
          refine aw_istore7 dX7_cost_103 (by decide) rfl ?_
          refine AW.eqs (sA_comm (by decide)) ?_
          refine aw_aload0 dX7_cost_105 ?_
          refine aw_VV0 (k_begin _ _ hM) dX7_cost_106 vl_7_201 rfl (by decide) (by decide) (Nat.le_of_ble_eq_true rfl) (fun σ_106 h_106 => ?_)
          obtain rfl := h_106
          refine AW.eqs beg2 ?_
          refine aw_aload0 dX7_cost_109 ?_
          refine aw_getR dX7_cost_110 fR_7_19 rfl (by decide) hM.trial ?_
          refine aw_iload1 dX7_cost_113 ?_
          refine aw_iload2 dX7_cost_114 ?_
          refine aw_iload3 dX7_cost_115 ?_
          refine aw_iload4 dX7_cost_116 ?_
          refine aw_iload5 dX7_cost_118 ?_
          refine aw_SV6 (k_bookTo _ 392 _ _ _ _ _ _ _ rfl (by decide) hw.nb hnb12) dX7_cost_120 sl_7_140 (by decide) (Nat.le_of_ble_eq_true rfl) (fun σ_120 h_120 => ?_)
          obtain rfl := h_120
          subst hwe
          have hB3 : fBookTo g nb r (nI wi) f h t0 3 = nI (nb + 1) := by rw [fBookTo_3, hw.nb, nI_1]
          have hB1 : fBookTo g nb r (nI wi) f h t0 1 = nI nr := by rw [fBookTo_off (by omega) (by omega)]; exact hw.nr
          have hBW : WHO (fBookTo g nb r (nI wi) f h t0) (nb + 1) := hw.who.book (by omega)
          refine aw_aload0 dX7_cost_123 ?_
          refine aw_getR dX7_cost_124 fR_7_19 rfl (by decide) hM.trial ?_
          refine aw_iload3 dX7_cost_127 ?_
          refine aw_iload4 dX7_cost_128 ?_
          refine aw_iadd dX7_cost_130 ?_
          refine aw_aload0 dX7_cost_131 ?_
          refine aw_getR dX7_cost_132 fR_7_16 rfl (by decide) hM.now ?_
          refine aw_iconst (v := 0) dX7_cost_135 (by decide) ?_
          refine aw_iald (j := 0) dX7_cost_136 rfl (by decide) rfl (by decide) (show _ = g 0 from rfl) ?_
          refine aw_isub dX7_cost_137 ?_
          rw [hL1]
          refine aw_SV2 (k_goHours _ 392 _ _ _ _ rfl (by decide) hB3 (by omega) hB1 hw.nr4 hBW (by omega)) dX7_cost_138 sl_7_94 (by decide) (Nat.le_of_ble_eq_true rfl) (fun σ_138 h_138 => ?_)
          obtain rfl := h_138
          refine aw_aload0 dX7_cost_141 ?_
          refine aw_getR dX7_cost_142 fR_7_19 rfl (by decide) hM.trial ?_
          refine aw_iconst (v := 5) dX7_cost_145 (by decide) ?_
          refine aw_iald (j := 5) dX7_cost_146 rfl (by decide) rfl (by decide) (show _ = fHours (fBookTo g nb r (nI wi) f h t0) nr (nb + 1) (fL g f h) 5 from sA_at) ?_
          refine aw_iload7 dX7_cost_147 ?_
          refine aw_isub dX7_cost_149 ?_
          exact aw_iret dX7_cost_150 rfl (by decide) ⟨_, rfl, Or.inr ⟨(cd2_0 hab.1 hab.2).symm, ⟨_, rfl⟩, @if_pos _ (Classical.propDecidable _) p_66 _ _ _⟩⟩
        · refine aw_if_ne (tgt := 75) dX7_cost_69 (by decide) (fun c_69 => absurd c_69 (by decide)) (fun _ => ?_)
          refine aw_bipush (v := (-99)) dX7_cost_72 (by decide) ?_
          exact aw_iret dX7_cost_74 rfl (by decide) ⟨_, rfl, Or.inr ⟨(cd2_0 hab.1 hab.2).symm, ⟨_, sA_self _ 392⟩, @if_neg _ (Classical.propDecidable _) p_66 _ _ _⟩⟩
    · refine aw_iload6 dX7_cost_24 ?_
      refine aw_if_ne (tgt := 33) dX7_cost_26 (by decide) (fun c_26 => ?_) (fun c_26 => ?_)
      · refine aw_aload0 dX7_cost_33 ?_
        refine aw_iload3 dX7_cost_34 ?_
        refine aw_iload4 dX7_cost_35 ?_
        refine aw_iload5 dX7_cost_37 ?_
        refine aw_VI3 (k_isSound _ _ _ _ _ hM) dX7_cost_39 vl_7_181 rfl (by decide) (by decide) (Nat.le_of_ble_eq_true rfl) (fun σ_39 r_39 h_39 => ?_)
        obtain ⟨rfl, h_39⟩ := h_39
        rcases h_39 with ⟨rfl, p_39⟩ | ⟨rfl, p_39⟩
        · refine aw_if_eq (tgt := 49) dX7_cost_42 (by decide) (fun c_42 => absurd c_42 (by decide)) (fun _ => ?_)
          refine aw_iconst (v := 0) dX7_cost_45 (by decide) ?_
          refine aw_goto (tgt := 50) dX7_cost_46 (by decide) ?_
          exact J_50 _ (by first | exact cd2_1 (zI_0 c_26) | exact cd2_2 (zI_1 c_26) p_39 | exact cd2_0 (zI_1 c_26) p_39)
        · refine aw_if_eq (tgt := 49) dX7_cost_42 (by decide) (fun _ => ?_) (fun c_42 => absurd c_42 (by decide))
          refine aw_iconst (v := 2) dX7_cost_49 (by decide) ?_
          exact J_50 _ (by first | exact cd2_1 (zI_0 c_26) | exact cd2_2 (zI_1 c_26) p_39 | exact cd2_0 (zI_1 c_26) p_39)
      · refine aw_iconst (v := 1) dX7_cost_29 (by decide) ?_
        refine aw_goto (tgt := 50) dX7_cost_30 (by decide) ?_
        exact J_50 _ (by first | exact cd2_1 (zI_0 c_26) | exact cd2_2 (zI_1 c_26) p_39 | exact cd2_0 (zI_1 c_26) p_39)
  · refine aw_aload0 dX7_cost_0 ?_
    refine aw_iload1 dX7_cost_1 ?_
    refine aw_VI1 (k_isRoom _ _ _ _ hM hw.nr (by have := hw.nr4; omega)) dX7_cost_2 vl_7_157 rfl (by decide) (by decide) (Nat.le_of_ble_eq_true rfl) (fun σ_2 r_2 h_2 => ?_)
    obtain ⟨rfl, h_2⟩ := h_2
    rcases h_2 with ⟨rfl, p_2⟩ | ⟨rfl, p_2⟩
    · refine aw_if_eq (tgt := 20) dX7_cost_5 (by decide) (fun c_5 => absurd c_5 (by decide)) (fun _ => ?_)
      refine aw_aload0 dX7_cost_8 ?_
      refine aw_iload2 dX7_cost_9 ?_
      refine aw_VI1 (k_isGroup _ _ _ _ hM hw.ng (by have := hw.ng6; omega)) dX7_cost_10 vl_7_162 rfl (by decide) (by decide) (Nat.le_of_ble_eq_true rfl) (fun σ_10 r_10 h_10 => ?_)
      obtain ⟨rfl, h_10⟩ := h_10
      rcases h_10 with ⟨rfl, p_10⟩ | ⟨rfl, p_10⟩
      · refine aw_if_eq (tgt := 20) dX7_cost_13 (by decide) (fun c_13 => absurd c_13 (by decide)) (fun _ => ?_)
        refine aw_iconst (v := 1) dX7_cost_16 (by decide) ?_
        refine aw_goto (tgt := 21) dX7_cost_17 (by decide) ?_
        exact J_21 _ (by first | exact zI_t ⟨p_2, p_10⟩ | exact zI_f (fun h => p_2 h.1) | exact zI_f (fun h => p_10 h.2))
      · refine aw_if_eq (tgt := 20) dX7_cost_13 (by decide) (fun _ => ?_) (fun c_13 => absurd c_13 (by decide))
        refine aw_iconst (v := 0) dX7_cost_20 (by decide) ?_
        exact J_21 _ (by first | exact zI_t ⟨p_2, p_10⟩ | exact zI_f (fun h => p_2 h.1) | exact zI_f (fun h => p_10 h.2))
    · refine aw_if_eq (tgt := 20) dX7_cost_5 (by decide) (fun _ => ?_) (fun c_5 => absurd c_5 (by decide))
      refine aw_iconst (v := 0) dX7_cost_20 (by decide) ?_
      exact J_21 _ (by first | exact zI_t ⟨p_2, p_10⟩ | exact zI_f (fun h => p_2 h.1) | exact zI_f (fun h => p_10 h.2))
set_option maxHeartbeats 4000000 in
theorem k_willOwe (σ : Sg) (g : Rw) (nr ng nb t : Nat) (w : Int32) (hM : MS σ) (hw : WF g nr ng nb t) (ht : t ≤ 300) : Ct yX7_willOwe cX7_willOwe mX7_willOwe 10 0 0 NN false (sA σ 391 g) [.ref 388, .int w] NN (eX σ g (cd1 (isN w ng)) (fHours g nr nb (fH g nb) (25 + cN w))) XF := by
  refine ct_of (ls0 := [some (.ref 388), some (.int w)]) 0 (by decide +kernel) rfl rfl (ndR (ndI nd0)) rfl (Nat.le_of_ble_eq_true rfl) (fun K => ?_)
  refine aw_aload0 dX7_willOwe_0 ?_
  refine AW.tern0 (E := (cd1 (isN w ng))) (pc2 := 14) (fun x_14 hx_14 => ?_) (fun J_14 => ?_)
  · subst hx_14
    refine aw_VI1 (k_refusedN _ _ _) dX7_willOwe_14 vl_7_110 rfl (by decide) (by decide) (Nat.le_of_ble_eq_true rfl) (fun σ_14 r_14 h_14 => ?_)
    obtain ⟨rfl, h_14⟩ := h_14
    rcases h_14 with ⟨rfl, p_14⟩ | ⟨rfl, p_14⟩
    · refine aw_if_eq (tgt := 22) dX7_willOwe_17 (by decide) (fun c_17 => absurd c_17 (by decide)) (fun _ => ?_)
      refine aw_iconst (v := 0) dX7_willOwe_20 (by decide) ?_
      exact aw_iret dX7_willOwe_21 rfl (by decide) (eX_r p_14)
    · refine aw_if_eq (tgt := 22) dX7_willOwe_17 (by decide) (fun _ => ?_) (fun c_17 => absurd c_17 (by decide))
      obtain ⟨k, hk, rfl⟩ := cd1_z p_14
      have hng6 := hw.ng6
      rw [cN, nI_clamp (by omega)]
      obtain ⟨hH1, hH2⟩ := hw.fHs ht
      refine aw_aload0 dX7_willOwe_22 ?_
      refine aw_VV0 (k_begin _ _ hM) dX7_willOwe_23 vl_7_201 rfl (by decide) (by decide) (Nat.le_of_ble_eq_true rfl) (fun σ_23 h_23 => ?_)
      obtain rfl := h_23
      refine aw_aload0 dX7_willOwe_26 ?_
      refine aw_getR dX7_willOwe_27 fR_7_19 rfl (by decide) hM.trial ?_
      refine aw_SV1 (k_goAll _ 392 _ _ _ _ rfl (by decide) hw.nb hw.nb12 hw.nr hw.nr4 hw.who hH1 hH2) dX7_willOwe_30 sl_7_204 (by decide) (Nat.le_of_ble_eq_true rfl) (fun σ_30 h_30 => ?_)
      obtain rfl := h_30
      refine aw_aload0 dX7_willOwe_33 ?_
      refine aw_getR dX7_willOwe_34 fR_7_19 rfl (by decide) hM.trial ?_
      refine aw_bipush (v := 25) dX7_willOwe_37 (by decide) ?_
      refine aw_iload1 dX7_willOwe_39 ?_
      refine aw_iadd dX7_willOwe_40 ?_
      refine aw_iald (j := 25 + k) dX7_willOwe_41 rfl (by decide) (nI_add 25 k) (by omega) (show _ = fHours g nr nb (fH g nb) (25 + k) from sA_at) ?_
      exact aw_iret dX7_willOwe_42 rfl (by decide) (eX_o (cd1_0 ⟨k, hk, rfl⟩) rfl)
  · refine aw_aload0 dX7_willOwe_1 ?_
    refine aw_iload1 dX7_willOwe_2 ?_
    refine aw_VI1 (k_isGroup _ _ _ _ hM hw.ng (by have := hw.ng6; omega)) dX7_willOwe_3 vl_7_162 rfl (by decide) (by decide) (Nat.le_of_ble_eq_true rfl) (fun σ_3 r_3 h_3 => ?_)
    obtain ⟨rfl, h_3⟩ := h_3
    rcases h_3 with ⟨rfl, p_3⟩ | ⟨rfl, p_3⟩
    · refine aw_if_eq (tgt := 13) dX7_willOwe_6 (by decide) (fun c_6 => absurd c_6 (by decide)) (fun _ => ?_)
      refine aw_iconst (v := 0) dX7_willOwe_9 (by decide) ?_
      refine aw_goto (tgt := 14) dX7_willOwe_10 (by decide) ?_
      exact J_14 _ (by first | exact cd1_0 p_3 | exact cd1_1 p_3)
    · refine aw_if_eq (tgt := 13) dX7_willOwe_6 (by decide) (fun _ => ?_) (fun c_6 => absurd c_6 (by decide))
      refine aw_iconst (v := 1) dX7_willOwe_13 (by decide) ?_
      exact J_14 _ (by first | exact cd1_0 p_3 | exact cd1_1 p_3)
def fCold (e : Rw) : Nat → Option Nat
  | 0 => none
  | k + 1 => match fCold e k with
    | none => some k
    | some c => if e (31 + 10 * c + 8) < e (31 + 10 * k + 8) then some k else some c
theorem fCold_lt {e : Rw} : ∀ {k c : Nat}, fCold e k = some c → c < k
  | 0, _, h => nomatch h
  | k + 1, c, h => by
    unfold fCold at h
    split at h
    · cases h; omega
    · rename_i x hx
      have := fCold_lt hx
      split at h
      · cases h; omega
      · cases h; omega
set_option maxHeartbeats 4000000 in
theorem k_coldest (σ : Sg) (g : Rw) (nr ng nb t : Nat) (hM : MS σ) (hw : WF g nr ng nb t) (ht : t ≤ 300) : Ct yX7_coldest cX7_coldest mX7_coldest 10 0 0 NN false (sA σ 391 g) [.ref 388] NN (rI fun σ2 v => (∃ X, sA (sA (sI σ 388 0 0) 391 g) 392 X = σ2) ∧ oI (fCold (fHours g nr nb (fH g nb)) nb) = v) XF := by
  refine ct_of (ls0 := [some (.ref 388), none, none]) 2 (by decide +kernel) rfl rfl (ndR nd0) rfl (Nat.le_of_ble_eq_true rfl) (fun K => ?_)
  have hnb12 := hw.nb12
  obtain ⟨hH1, hH2⟩ := hw.fHs ht
  have hE3 : (fHours g nr nb (fH g nb)) 3 = nI nb := (fHours_off hw.who hw.nr4 _ 3 kept0_3 (by decide)).trans hw.nb
  have L21 : ∀ (k : Nat) (i : Nat) (h1 : i ≤ nb) (h2 : nb - i < k), AW K RX7 cX7_coldest mX7_coldest 10 0 0 (Qm K NN (rI fun σ2 v => (∃ X, sA (sA (sI σ 388 0 0) 391 g) 392 X = σ2) ∧ oI (fCold (fHours g nr nb (fH g nb)) nb) = v) XF 0 0) NN none (sA (sA (sI σ 388 0 0) 391 g) 392 (fHours g nr nb (fH g nb))) 0 0 21 [some (.ref 388), some (.int (oI (fCold (fHours g nr nb (fH g nb)) i))), some (.int (nI i))] [] := by
    intro k
    induction k with
    | zero => intro i h1 h2; exact absurd h2 (Nat.not_lt_zero _)
    | succ k ih =>
      intro i h1 h2
      refine aw_iload2 dX7_coldest_21 ?_
      refine aw_aload0 dX7_coldest_22 ?_
      refine aw_getR dX7_coldest_23 fR_7_19 rfl (by decide) hM.trial ?_
      refine aw_iconst (v := 3) dX7_coldest_26 (by decide) ?_
      refine aw_iald (j := 3) dX7_coldest_27 rfl (by decide) rfl (by decide) (sA_at.trans hE3) ?_
      refine aw_ic_ge (tgt := 74) dX7_coldest_28 (by decide) (fun c_28 => ?_) (fun c_28 => ?_)
      · have hbb : i = nb := by
          have := (nI_leI (by omega) (by omega)).mp c_28
          omega
        subst hbb
        refine aw_iload1 dX7_coldest_74 ?_
        exact aw_iret dX7_coldest_75 rfl (by decide) ⟨_, rfl, ⟨_, rfl⟩, rfl⟩
      · have hlt : i < nb := by
          rcases Nat.lt_or_ge i nb with q | q
          · exact q
          · exact absurd (nI_le q (by omega)) c_28
        refine aw_iload1 dX7_coldest_31 ?_
        refine aw_bipush (v := (-99)) dX7_coldest_32 (by decide) ?_
        refine aw_ic_eq (tgt := 62) dX7_coldest_34 (by decide) (fun c_34 => ?_) (fun c_34 => ?_)
        · refine aw_iload2 dX7_coldest_62 ?_
          refine aw_goto (tgt := 67) dX7_coldest_63 (by decide) ?_
          refine aw_istore1 dX7_coldest_67 (by decide) rfl ?_
          refine aw_iinc2 (w := nI (i + 1)) dX7_coldest_68 (nI_1 i) (by decide) rfl ?_
          refine aw_goto (tgt := 21) dX7_coldest_71 (by decide) ?_
          have k9 := ih (i + 1) (by omega) (by omega)
          rw [show fCold (fHours g nr nb (fH g nb)) (i + 1) = some i from (by first | (rw [fCold, hc]; exact if_pos (Int32.not_le.mp c_59)) | (rw [fCold, oI_n (fun f hf => by have := fCold_lt hf; omega) c_34]))] at k9
          exact k9
        · obtain ⟨c, hc⟩ := oI_s c_34
          have hc12 := fCold_lt hc
          rw [hc]
          rw [show oI (some c) = nI c from rfl]
          refine aw_aload0 dX7_coldest_37 ?_
          refine aw_getR dX7_coldest_38 fR_7_19 rfl (by decide) hM.trial ?_
          refine aw_iload2 dX7_coldest_41 ?_
          refine aw_bipush (v := 8) dX7_coldest_42 (by decide) ?_
          refine aw_SI2 (k_bookAt _ _ 8) dX7_coldest_44 sl_7_49 (by decide) (Nat.le_of_ble_eq_true rfl) (fun σ_44 r_44 h_44 => ?_)
          obtain ⟨rfl, rfl⟩ := h_44
          refine aw_iald dX7_coldest_47 rfl (by decide) rfl (by omega) sA_at ?_
          refine aw_aload0 dX7_coldest_48 ?_
          refine aw_getR dX7_coldest_49 fR_7_19 rfl (by decide) hM.trial ?_
          refine aw_iload1 dX7_coldest_52 ?_
          refine aw_bipush (v := 8) dX7_coldest_53 (by decide) ?_
          refine aw_SI2 (k_bookAt _ _ 8) dX7_coldest_55 sl_7_49 (by decide) (Nat.le_of_ble_eq_true rfl) (fun σ_55 r_55 h_55 => ?_)
          obtain ⟨rfl, rfl⟩ := h_55
          refine aw_iald dX7_coldest_58 rfl (by decide) rfl (by omega) sA_at ?_
          refine aw_ic_le (tgt := 66) dX7_coldest_59 (by decide) (fun c_59 => ?_) (fun c_59 => ?_)
          · refine aw_iload1 dX7_coldest_66 ?_
            refine aw_istore1 dX7_coldest_67 (by decide) rfl ?_
            refine aw_iinc2 (w := nI (i + 1)) dX7_coldest_68 (nI_1 i) (by decide) rfl ?_
            refine aw_goto (tgt := 21) dX7_coldest_71 (by decide) ?_
            have k9 := ih (i + 1) (by omega) (by omega)
            rw [show fCold (fHours g nr nb (fH g nb)) (i + 1) = some c from (by first | (rw [fCold, hc]; exact if_neg (Int32.not_lt.mpr c_59)) | (rw [fCold, oI_n (fun f hf => by have := fCold_lt hf; omega) c_34]))] at k9
            exact k9
          · refine aw_iload2 dX7_coldest_62 ?_
            refine aw_goto (tgt := 67) dX7_coldest_63 (by decide) ?_
            refine aw_istore1 dX7_coldest_67 (by decide) rfl ?_
            refine aw_iinc2 (w := nI (i + 1)) dX7_coldest_68 (nI_1 i) (by decide) rfl ?_
            refine aw_goto (tgt := 21) dX7_coldest_71 (by decide) ?_
            have k9 := ih (i + 1) (by omega) (by omega)
            rw [show fCold (fHours g nr nb (fH g nb)) (i + 1) = some i from (by first | (rw [fCold, hc]; exact if_pos (Int32.not_le.mp c_59)) | (rw [fCold, oI_n (fun f hf => by have := fCold_lt hf; omega) c_34]))] at k9
            exact k9
  refine aw_aload0 dX7_coldest_0 ?_
  refine aw_iconst (v := 0) dX7_coldest_1 (by decide) ?_
  refine aw_putI dX7_coldest_2 fP_7_36 rfl (by decide) ?_
  refine AW.eqs (sI_sA_ne (by decide)) ?_
  refine aw_aload0 dX7_coldest_5 ?_
  refine aw_VV0 (k_begin _ _ hM) dX7_coldest_6 vl_7_201 rfl (by decide) (by decide) (Nat.le_of_ble_eq_true rfl) (fun σ_6 h_6 => ?_)
  obtain rfl := h_6
  refine aw_aload0 dX7_coldest_9 ?_
  refine aw_getR dX7_coldest_10 fR_7_19 rfl (by decide) hM.trial ?_
  refine aw_SV1 (k_goAll _ 392 _ _ _ _ rfl (by decide) hw.nb hw.nb12 hw.nr hw.nr4 hw.who hH1 hH2) dX7_coldest_13 sl_7_204 (by decide) (Nat.le_of_ble_eq_true rfl) (fun σ_13 h_13 => ?_)
  obtain rfl := h_13
  refine aw_bipush (v := (-99)) dX7_coldest_16 (by decide) ?_
  refine aw_istore1 dX7_coldest_18 (by decide) rfl ?_
  refine aw_iconst (v := 0) dX7_coldest_19 (by decide) ?_
  refine aw_istore2 dX7_coldest_20 (by decide) rfl ?_
  exact L21 (nb + 1) 0 (Nat.zero_le _) (by omega)
