/-! the class: what calls require; what is tried out, what is remembered -/
def gX (σ : Sg) (p : Prop) (e : String) : XT := fun σ' E => σ = σ' ∧ ¬ p ∧ E = e
def x1 (σ : Sg) (c : Int32) (e : String) : XT := fun σ' E => DG σ σ' ∧ c = 1 ∧ E = e
def x2 (σ : Sg) (c : Int32) (e f : String) : XT := fun σ' E => DG σ σ' ∧ ((c = 1 ∧ E = e) ∨ (c = 2 ∧ E = f))
def x3 (σ : Sg) (c : Int32) (e f k : String) : XT := fun σ' E => DG σ σ' ∧ ((c = 1 ∧ E = e) ∨ (c = 2 ∧ E = f) ∨ (c = 3 ∧ E = k))
theorem gx1 {σ s : Sg} {p q : Prop} {e E : String} (h : gX σ p e s E) (hi : q → p) : x1 σ (cd1 q) e s E := by
  obtain ⟨rfl, h1, h2⟩ := h
  exact ⟨DG.refl, (cd1_1 (fun z => h1 (hi z))).symm, h2⟩
theorem gx2 {σ s : Sg} {p q r : Prop} {e f E : String} (h : gX σ p e s E) (hi : q → p) : x2 σ (cd2 q r) e f s E := by
  obtain ⟨rfl, h1, h2⟩ := h
  exact ⟨DG.refl, Or.inl ⟨(cd2_1 (fun z => h1 (hi z))).symm, h2⟩⟩
theorem gx2b {σ s : Sg} {p q r : Prop} {e f E : String} (hq : q) (h : gX σ p f s E) (hi : r → p) : x2 σ (cd2 q r) e f s E := by
  obtain ⟨rfl, h1, h2⟩ := h
  exact ⟨DG.refl, Or.inr ⟨(cd2_2 hq (fun z => h1 (hi z))).symm, h2⟩⟩
theorem hx1 {σ : Sg} {p : Prop} {e : String} (h : ¬ p) : x1 σ (cd1 p) e σ e := ⟨DG.refl, (cd1_1 h).symm, rfl⟩
theorem hx2 {σ : Sg} {p q : Prop} {e f : String} (hp : p) (h : ¬ q) : x2 σ (cd2 p q) e f σ f := ⟨DG.refl, Or.inr ⟨(cd2_2 hp h).symm, rfl⟩⟩
theorem hx3 {σ : Sg} {p q r : Prop} {e f k : String} (hp : p) (hq : q) (h : ¬ r) : x3 σ (cd3 p q r) e f k σ k := ⟨DG.refl, Or.inr (Or.inr ⟨(cd3_3 hp hq h).symm, rfl⟩)⟩
set_option maxHeartbeats 4000000 in
theorem k6_requireRange (σ : Sg) (v lo hi : Int32) : Ct yX6_requireRange cX6_requireRange mX6_requireRange 6 1 6 NN false σ [.int v, .int lo, .int hi] NN (rV fun σ2 => σ = σ2 ∧ (lo ≤ v ∧ v ≤ hi)) (gX σ (lo ≤ v ∧ v ≤ hi) eA) := by
  refine ct_of (ls0 := [some (.int v), some (.int lo), some (.int hi)]) 0 (by decide +kernel) rfl rfl (ndI (ndI (ndI nd0))) rfl (Nat.le_of_ble_eq_true rfl) (fun K => ?_)
  refine aw_iload0 dX6_requireRange_0 ?_
  refine aw_iload1 dX6_requireRange_1 ?_
  refine aw_ic_lt (tgt := 10) dX6_requireRange_2 (by decide) (fun c_2 => ?_) (fun c_2 => ?_)
  · exact aw_throwW (E := eA) (text := "an argument is out of its range") dX6_requireRange_10 dX6_requireRange_13 dX6_requireRange_14 dX6_requireRange_17 dX6_requireRange_20 rfl cl_6_225 ei_eA (List.mem_of_getElem? (i := 0) rfl) ex_eA at_eA go_eA_225 rfl (by decide) (by decide) (by decide) ⟨rfl, by first | exact fun z => Int32.not_lt.mpr z.1 c_2 | exact fun z => c_7 z.2, rfl⟩
  · refine aw_iload0 dX6_requireRange_5 ?_
    refine aw_iload2 dX6_requireRange_6 ?_
    refine aw_ic_le (tgt := 21) dX6_requireRange_7 (by decide) (fun c_7 => ?_) (fun c_7 => ?_)
    · exact aw_vret dX6_requireRange_21 rfl (by decide) ⟨rfl, rfl, Int32.not_lt.mp c_2, c_7⟩
    · exact aw_throwW (E := eA) (text := "an argument is out of its range") dX6_requireRange_10 dX6_requireRange_13 dX6_requireRange_14 dX6_requireRange_17 dX6_requireRange_20 rfl cl_6_225 ei_eA (List.mem_of_getElem? (i := 0) rfl) ex_eA at_eA go_eA_225 rfl (by decide) (by decide) (by decide) ⟨rfl, by first | exact fun z => Int32.not_lt.mpr z.1 c_2 | exact fun z => c_7 z.2, rfl⟩
theorem slot_le {v : Int32} (h : v < 2) : v ≤ 1 := by
  have h1 := Int32.lt_iff_toInt_lt.mp h
  have h2 : (2 : Int32).toInt = 2 := by decide
  have h3 : (1 : Int32).toInt = 1 := by decide
  exact Int32.le_iff_toInt_le.mpr (by omega)
theorem slot_lt {v : Int32} (h : v ≤ 1) : v < 2 := by
  have h1 := Int32.le_iff_toInt_le.mp h
  have h2 : (2 : Int32).toInt = 2 := by decide
  have h3 : (1 : Int32).toInt = 1 := by decide
  exact Int32.lt_iff_toInt_lt.mpr (by omega)
set_option maxHeartbeats 4000000 in
theorem k6_requireSlot (σ : Sg) (v : Int32) : Ct yX6_requireSlot cX6_requireSlot mX6_requireSlot 6 1 6 NN false σ [.int v] NN (rV fun σ2 => σ = σ2 ∧ (0 ≤ v ∧ v ≤ 1)) (gX σ (0 ≤ v ∧ v ≤ 1) eI) := by
  refine ct_of (ls0 := [some (.int v)]) 0 (by decide +kernel) rfl rfl (ndI nd0) rfl (Nat.le_of_ble_eq_true rfl) (fun K => ?_)
  refine aw_iload0 dX6_requireSlot_0 ?_
  refine aw_if_lt (tgt := 9) dX6_requireSlot_1 (by decide) (fun c_1 => ?_) (fun c_1 => ?_)
  · exact aw_throwW (E := eI) (text := "there is no such save slot") dX6_requireSlot_9 dX6_requireSlot_12 dX6_requireSlot_13 dX6_requireSlot_16 dX6_requireSlot_19 rfl cl_6_264 ei_eI (List.mem_of_getElem? (i := 14) rfl) ex_eI at_eI go_eI_264 rfl (by decide) (by decide) (by decide) ⟨rfl, by first | exact fun z => Int32.not_lt.mpr z.1 c_1 | exact fun z => c_6 (slot_lt z.2), rfl⟩
  · refine aw_iload0 dX6_requireSlot_4 ?_
    refine aw_iconst (v := 2) dX6_requireSlot_5 (by decide) ?_
    refine aw_ic_lt (tgt := 20) dX6_requireSlot_6 (by decide) (fun c_6 => ?_) (fun c_6 => ?_)
    · exact aw_vret dX6_requireSlot_20 rfl (by decide) ⟨rfl, rfl, Int32.not_lt.mp c_1, slot_le c_6⟩
    · exact aw_throwW (E := eI) (text := "there is no such save slot") dX6_requireSlot_9 dX6_requireSlot_12 dX6_requireSlot_13 dX6_requireSlot_16 dX6_requireSlot_19 rfl cl_6_264 ei_eI (List.mem_of_getElem? (i := 14) rfl) ex_eI at_eI go_eI_264 rfl (by decide) (by decide) (by decide) ⟨rfl, by first | exact fun z => Int32.not_lt.mpr z.1 c_1 | exact fun z => c_6 (slot_lt z.2), rfl⟩
set_option maxHeartbeats 4000000 in
theorem k6_requireRoom (σ : Sg) (π : Nat → Nat) (nr ng nb t : Nat) (g : Rw) (r : Int32) (hF : RF σ) (hc : HC σ 3 π) (hw : WF g nr ng nb t) : Ct yX6_requireRoom cX6_requireRoom mX6_requireRoom 6 1 6 NN false (sH σ 3 π nr ng nb g) [.ref 0, .int r] NN (rA fun σ2 a => (sH σ 3 π nr ng nb g) = σ2 ∧ ∃ k, k < nr ∧ r = nI k ∧ a = some (3 + 4 + k)) (gX (sH σ 3 π nr ng nb g) (isN r nr) eI) := by
  refine ct_of (ls0 := [some (.ref 0), some (.int r), none]) 1 (by decide +kernel) rfl rfl (ndR (ndI nd0)) rfl (Nat.le_of_ble_eq_true rfl) (fun K => ?_)
  have hnr4 := hw.nr4
  have hng6 := hw.ng6
  have hnb12 := hw.nb12
  refine aw_aload0 dX6_requireRoom_0 ?_
  refine aw_getR dX6_requireRoom_1 fR_6_19 rfl (by decide) ((sH_R (by omega)).trans hF.1.2.1) ?_
  refine aw_iload1 dX6_requireRoom_4 ?_
  refine aw_VA1 (k2_findRoom _ 3 _ _ _ _ _ _ _ hc hw) dX6_requireRoom_5 vl_6_197 hc.t hc.l (by decide) (Nat.le_of_ble_eq_true rfl) (fun σ_5 r_5 h_5 => ?_)
  obtain ⟨rfl, h_5⟩ := h_5
  rcases h_5 with ⟨k_5, hk_5, e_5, rfl⟩ | ⟨hn_5, rfl⟩
  · refine aw_astore2 dX6_requireRoom_8 (by decide) rfl ?_
    refine aw_aload2 dX6_requireRoom_9 ?_
    refine aw_ifnn (tgt := 24) dX6_requireRoom_10 (by decide) ?_
    refine aw_aload2 dX6_requireRoom_24 ?_
    exact aw_aret dX6_requireRoom_25 rfl (by decide) ⟨_, rfl, rfl, k_5, hk_5, e_5, rfl⟩
  · refine aw_astore2N dX6_requireRoom_8 (by decide) rfl ?_
    refine aw_aload2N dX6_requireRoom_9 ?_
    refine aw_ifnnN dX6_requireRoom_10 ?_
    exact aw_throwW (E := eI) (text := "there is no such room") dX6_requireRoom_13 dX6_requireRoom_16 dX6_requireRoom_17 dX6_requireRoom_20 dX6_requireRoom_23 rfl cl_6_264 ei_eI (List.mem_of_getElem? (i := 3) rfl) ex_eI at_eI go_eI_264 rfl (by decide) (by decide) (by decide) ⟨rfl, hn_5, rfl⟩
set_option maxHeartbeats 4000000 in
theorem k6_requireBooking (σ : Sg) (π : Nat → Nat) (nr ng nb t : Nat) (g : Rw) (r : Int32) (hF : RF σ) (hc : HC σ 3 π) (hw : WF g nr ng nb t) : Ct yX6_requireBooking cX6_requireBooking mX6_requireBooking 6 1 6 NN false (sH σ 3 π nr ng nb g) [.ref 0, .int r] NN (rA fun σ2 a => (sH σ 3 π nr ng nb g) = σ2 ∧ ∃ k, k < nb ∧ r = nI k ∧ a = some (3 + 8 + π k)) (gX (sH σ 3 π nr ng nb g) (isN r nb) eI) := by
  refine ct_of (ls0 := [some (.ref 0), some (.int r), none]) 1 (by decide +kernel) rfl rfl (ndR (ndI nd0)) rfl (Nat.le_of_ble_eq_true rfl) (fun K => ?_)
  have hnr4 := hw.nr4
  have hng6 := hw.ng6
  have hnb12 := hw.nb12
  refine aw_aload0 dX6_requireBooking_0 ?_
  refine aw_getR dX6_requireBooking_1 fR_6_19 rfl (by decide) ((sH_R (by omega)).trans hF.1.2.1) ?_
  refine aw_iload1 dX6_requireBooking_4 ?_
  refine aw_VA1 (k2_findBooking _ 3 _ _ _ _ _ _ _ hc hw) dX6_requireBooking_5 vl_6_274 hc.t hc.l (by decide) (Nat.le_of_ble_eq_true rfl) (fun σ_5 r_5 h_5 => ?_)
  obtain ⟨rfl, h_5⟩ := h_5
  rcases h_5 with ⟨k_5, hk_5, e_5, rfl⟩ | ⟨hn_5, rfl⟩
  · refine aw_astore2 dX6_requireBooking_8 (by decide) rfl ?_
    refine aw_aload2 dX6_requireBooking_9 ?_
    refine aw_ifnn (tgt := 24) dX6_requireBooking_10 (by decide) ?_
    refine aw_aload2 dX6_requireBooking_24 ?_
    exact aw_aret dX6_requireBooking_25 rfl (by decide) ⟨_, rfl, rfl, k_5, hk_5, e_5, rfl⟩
  · refine aw_astore2N dX6_requireBooking_8 (by decide) rfl ?_
    refine aw_aload2N dX6_requireBooking_9 ?_
    refine aw_ifnnN dX6_requireBooking_10 ?_
    exact aw_throwW (E := eI) (text := "there is no such booking") dX6_requireBooking_13 dX6_requireBooking_16 dX6_requireBooking_17 dX6_requireBooking_20 dX6_requireBooking_23 rfl cl_6_264 ei_eI (List.mem_of_getElem? (i := 5) rfl) ex_eI at_eI go_eI_264 rfl (by decide) (by decide) (by decide) ⟨rfl, hn_5, rfl⟩
set_option maxHeartbeats 4000000 in
theorem k6_requireGroup (σ : Sg) (π : Nat → Nat) (nr ng nb t : Nat) (g : Rw) (r : Int32) (hF : RF σ) (hc : HC σ 3 π) (hw : WF g nr ng nb t) : Ct yX6_requireGroup cX6_requireGroup mX6_requireGroup 6 1 6 NN false (sH σ 3 π nr ng nb g) [.ref 0, .int r] NN (rV fun σ2 => (sH σ 3 π nr ng nb g) = σ2 ∧ isN r ng) (gX (sH σ 3 π nr ng nb g) (isN r ng) eI) := by
  refine ct_of (ls0 := [some (.ref 0), some (.int r)]) 0 (by decide +kernel) rfl rfl (ndR (ndI nd0)) rfl (Nat.le_of_ble_eq_true rfl) (fun K => ?_)
  have hnr4 := hw.nr4
  have hng6 := hw.ng6
  have hnb12 := hw.nb12
  refine aw_aload0 dX6_requireGroup_0 ?_
  refine aw_getR dX6_requireGroup_1 fR_6_19 rfl (by decide) ((sH_R (by omega)).trans hF.1.2.1) ?_
  refine aw_iload1 dX6_requireGroup_4 ?_
  refine aw_VI1 (k2_hasGroup _ 3 _ _ _ _ _ _ _ hc hw) dX6_requireGroup_5 vl_6_269 hc.t hc.l (by decide) (Nat.le_of_ble_eq_true rfl) (fun σ_5 r_5 h_5 => ?_)
  obtain ⟨rfl, h_5⟩ := h_5
  rcases h_5 with ⟨rfl, p_5⟩ | ⟨rfl, p_5⟩
  · refine aw_if_ne (tgt := 22) dX6_requireGroup_8 (by decide) (fun _ => ?_) (fun c_8 => absurd c_8 (by decide))
    exact aw_vret dX6_requireGroup_22 rfl (by decide) ⟨rfl, rfl, p_5⟩
  · refine aw_if_ne (tgt := 22) dX6_requireGroup_8 (by decide) (fun c_8 => absurd c_8 (by decide)) (fun _ => ?_)
    exact aw_throwW (E := eI) (text := "there is no such group") dX6_requireGroup_11 dX6_requireGroup_14 dX6_requireGroup_15 dX6_requireGroup_18 dX6_requireGroup_21 rfl cl_6_264 ei_eI (List.mem_of_getElem? (i := 4) rfl) ex_eI at_eI go_eI_264 rfl (by decide) (by decide) (by decide) ⟨rfl, p_5, rfl⟩
set_option maxHeartbeats 4000000 in
theorem k6_requireArgs (σ : Sg) (π : Nat → Nat) (nr ng nb t : Nat) (g : Rw) (r w f h t0 : Int32) (hF : RF σ) (hc : HC σ 3 π) (hw : WF g nr ng nb t) : Ct yX6_requireBookingArguments cX6_requireBookingArguments mX6_requireBookingArguments 7 5 30 NN false (sH σ 3 π nr ng nb g) [.ref 0, .int r, .int w, .int f, .int h, .int t0] NN (rV fun σ2 => (sH σ 3 π nr ng nb g) = σ2 ∧ ((isN r nr ∧ isN w ng) ∧ sound g f h t0)) (fun σ2 E => (sH σ 3 π nr ng nb g) = σ2 ∧ ((¬ (isN r nr ∧ isN w ng) ∧ E = eI) ∨ ((isN r nr ∧ isN w ng) ∧ ¬ sound g f h t0 ∧ E = eA))) := by
  refine ct_of (ls0 := [some (.ref 0), some (.int r), some (.int w), some (.int f), some (.int h), some (.int t0)]) 0 (by decide +kernel) rfl rfl (ndR (ndI (ndI (ndI (ndI (ndI nd0)))))) rfl (Nat.le_of_ble_eq_true rfl) (fun K => ?_)
  have hnr4 := hw.nr4
  have hng6 := hw.ng6
  have hnb12 := hw.nb12
  refine aw_aload0 dX6_requireBookingArguments_0 ?_
  refine aw_iload1 dX6_requireBookingArguments_1 ?_
  refine aw_VXA1 (k6_requireRoom σ π nr ng nb t g r hF hc hw) dX6_requireBookingArguments_2 vl_6_90 rfl (by decide) (by decide) (Nat.le_of_ble_eq_true rfl) rfl (fun σ2 E h => ⟨h.1, Or.inl ⟨fun z => h.2.1 z.1, h.2.2⟩⟩) (fun σ_2 r_2 h_2 => ?_)
  obtain ⟨rfl, k_2, hk_2, e_2, rfl⟩ := h_2
  refine aw_pop dX6_requireBookingArguments_5 rfl ?_
  refine aw_aload0 dX6_requireBookingArguments_6 ?_
  refine aw_iload2 dX6_requireBookingArguments_7 ?_
  refine aw_VXV1 (k6_requireGroup σ π nr ng nb t g w hF hc hw) dX6_requireBookingArguments_8 vl_6_106 rfl (by decide) (by decide) (Nat.le_of_ble_eq_true rfl) rfl (fun σ2 E h => ⟨h.1, Or.inl ⟨fun z => h.2.1 z.2, h.2.2⟩⟩) (fun σ_8 h_8 => ?_)
  obtain ⟨rfl, q_8⟩ := h_8
  refine aw_iload3 dX6_requireBookingArguments_11 ?_
  refine aw_aload0 dX6_requireBookingArguments_12 ?_
  refine aw_getR dX6_requireBookingArguments_13 fR_6_19 rfl (by decide) ((sH_R (by omega)).trans hF.1.2.1) ?_
  refine aw_getI dX6_requireBookingArguments_16 fI_6_116 hc.t hc.l sH_hour ?_
  refine aw_sipush (v := 199) dX6_requireBookingArguments_19 (by decide) ?_
  refine aw_SXV3 (k6_requireRange _ _ _ _) dX6_requireBookingArguments_22 sl_6_51 (by decide) (Nat.le_of_ble_eq_true rfl) rfl (fun σ2 E h => ⟨h.1, Or.inr ⟨⟨⟨k_2, hk_2, e_2⟩, q_8⟩, fun z => h.2.1 z.1, h.2.2⟩⟩) (fun σ_22 h_22 => ?_)
  obtain ⟨rfl, q_22⟩ := h_22
  refine aw_iload4 dX6_requireBookingArguments_25 ?_
  refine aw_iconst (v := 1) dX6_requireBookingArguments_27 (by decide) ?_
  refine aw_bipush (v := 12) dX6_requireBookingArguments_28 (by decide) ?_
  refine aw_SXV3 (k6_requireRange _ _ _ _) dX6_requireBookingArguments_30 sl_6_51 (by decide) (Nat.le_of_ble_eq_true rfl) rfl (fun σ2 E h => ⟨h.1, Or.inr ⟨⟨⟨k_2, hk_2, e_2⟩, q_8⟩, fun z => h.2.1 z.2.1, h.2.2⟩⟩) (fun σ_30 h_30 => ?_)
  obtain ⟨rfl, q_30⟩ := h_30
  refine aw_iload5 dX6_requireBookingArguments_33 ?_
  refine aw_bipush (v := 12) dX6_requireBookingArguments_35 (by decide) ?_
  refine aw_bipush (v := 25) dX6_requireBookingArguments_37 (by decide) ?_
  refine aw_SXV3 (k6_requireRange _ _ _ _) dX6_requireBookingArguments_39 sl_6_51 (by decide) (Nat.le_of_ble_eq_true rfl) rfl (fun σ2 E h => ⟨h.1, Or.inr ⟨⟨⟨k_2, hk_2, e_2⟩, q_8⟩, fun z => h.2.1 z.2.2, h.2.2⟩⟩) (fun σ_39 h_39 => ?_)
  obtain ⟨rfl, q_39⟩ := h_39
  exact aw_vret dX6_requireBookingArguments_42 rfl (by decide) ⟨rfl, rfl, ⟨⟨k_2, hk_2, e_2⟩, q_8⟩, q_22, q_30, q_39⟩
theorem KJ.bb {σ : Sg} {n c : Nat} {T : Rw} {M S : Nat → Rw} {B : Nat → Bool} (x : KJ σ n T c M B S) {h : Nat} (hh : HL h) : BB σ h := x.2.1 h hh
theorem KJ.hs {σ : Sg} {n c : Nat} {T : Rw} {M S : Nat → Rw} {B : Nat → Bool} (x : KJ σ n T c M B S) {h : Nat} (hh : HL h) : HS σ h := x.1.2.2.2.2 h hh
theorem hs3 {σ : Sg} {π : Nat → Nat} {nr ng nb : Nat} {g : Rw} (hc : HC σ 3 π) : HS (sH σ 3 π nr ng nb g) 3 := ⟨sH_rooms hc, sH_owed hc, sH_books hc, fun _ hr => sH_room hc hr⟩
theorem sHc {σ : Sg} {h nr ng nb : Nat} {π : Nat → Nat} {g : Rw} (hc : HC σ h π) : HC (sH σ h π nr ng nb g) h π := ⟨hc.1, ⟨sH_rooms hc, sH_owed hc, sH_books hc, fun _ hr => sH_room hc hr⟩, hc.2.2⟩
/-- the hall of now is copied into another one -/
theorem k6_copy {σ : Sg} {n c : Nat} {T : Rw} {M S : Nat → Rw} {B : Nat → Bool} {π : Nat → Nat} {nr ng nb t : Nat} {g : Rw} (hJ : KJ σ n T c M B S) (hc : HC σ 3 π) (hw : WF g nr ng nb t) (hR : RH σ 3 π nr ng nb g) {h : Nat} (hh : HL h) (h3 : 23 ≤ h) : ∃ πt, HC (oC σ 3 h) h πt ∧ Ct yX2_copyFrom cX2_copyFrom mX2_copyFrom 3 0 0 NN false σ [.ref h, .ref 3] NN (eV1 (sH (oC σ 3 h) h πt nr ng nb g)) XF := by
  obtain ⟨πt, hp, hb⟩ := hJ.bb hh
  have hch : HC σ h πt := ⟨hh.t, hJ.hs hh, hp⟩
  exact ⟨πt, ⟨hh.t, hJ.hs hh, hp⟩, k2_copyR σ h 3 πt π nr ng nb t g hch hb hw HT_3 hc.2.1 hc.2.2 hR (by omega)⟩
theorem k6_trial {σ : Sg} {n c : Nat} {T : Rw} {M S : Nat → Rw} {B : Nat → Bool} {π : Nat → Nat} {nr ng nb t : Nat} {g : Rw} (hJ : KJ σ n T c M B S) (hc : HC σ 3 π) (hw : WF g nr ng nb t) : ∃ τ πt, HC τ 308 πt ∧ DG (sH σ 3 π nr ng nb g) τ ∧ Ct yX2_copyFrom cX2_copyFrom mX2_copyFrom 3 0 0 NN false (sH σ 3 π nr ng nb g) [.ref 308, .ref 3] NN (eV1 (sH τ 308 πt nr ng nb g)) XF := by
  obtain ⟨πt, h1, h2⟩ := k6_copy (hJ.h3 (nr := nr) (ng := ng) (nb := nb) (g := g) hc.2.2) (sHc hc) hw (sH_RH hc hw.nr4 hw.nb12) (h := 308) (Or.inr (Or.inl rfl)) (by decide)
  exact ⟨_, πt, h1, DG.refl.a (by decide), h2⟩
def remM (M : Nat → Rw) (c : Nat) (g : Rw) : Nat → Rw := fun i => if c = 14 then (if i < 13 then M (i + 1) else g) else if i < c then M i else g
/-- an action's result: what is remembered, what is now -/
def PA (σ : Sg) (n : Nat) (T : Rw) (c : Nat) (M : Nat → Rw) (B : Nat → Bool) (S : Nat → Rw) (g : Rw) (τ : Sg) : Prop := KJ τ n T c M B S ∧ SA τ 3 g ∧ FMo σ τ
theorem k6_rem {σ : Sg} {n c : Nat} {T : Rw} {M S : Nat → Rw} {B : Nat → Bool} {π : Nat → Nat} {nr ng nb t : Nat} {g : Rw} (hJ : KJ σ n T c M B S) (hc : HC σ 3 π) (hw : WF g nr ng nb t) (hR : RH σ 3 π nr ng nb g) (ht : t ≤ 240) (hcb : CB g nb (4 * t)) : ∃ τ, Ct yX4_remember cX4_remember mX4_remember 4 0 0 NN false σ [.ref 23, .ref 3] NN (eV1 τ) XF ∧ KJ τ n T (remA c) (remM M c g) B S ∧ HC τ 3 π ∧ RH τ 3 π nr ng nb g ∧ FMo σ τ := by
  obtain ⟨hF, hBB, ⟨ht1, ht2, ht3⟩, ⟨p, hp, hc14, e1, e2, e3⟩, hS⟩ := id hJ
  have hl : HL (25 + 20 * p) := Or.inr (Or.inr (Or.inr (Or.inr (Or.inr ⟨p, hp, rfl⟩))))
  obtain ⟨πm, hpm, hbm⟩ := hBB _ hl
  have hcm : HC σ (25 + 20 * p) πm := ⟨hl.t, hF.2.2.2.2 _ hl, hpm⟩
  have k := k4_remember σ p c πm π nr ng nb t g hF.2.2.1 hp e1 hc14 e2 hcm hbm hw hc.2.1 hc.2.2 hR
  have fi : ∀ i j, i < 23 ∨ 305 ≤ i → (sI (sI (sH (oC σ 3 (25 + 20 * p)) (25 + 20 * p) πm nr ng nb g) 23 1 (nI ((p + 1) % 14))) 23 2 (nI (if c = 14 then 14 else c + 1))).1 i j = σ.1 i j := fun i j h => (if_neg (by omega)).trans ((if_neg (by omega)).trans ((sH_out (by omega)).trans (oC_ne (by omega))))
  have fs : ∀ q, q < 14 → q ≠ p → ∀ i j, 25 + 20 * q ≤ i → i < 25 + 20 * q + 20 → (sI (sI (sH (oC σ 3 (25 + 20 * p)) (25 + 20 * p) πm nr ng nb g) 23 1 (nI ((p + 1) % 14))) 23 2 (nI (if c = 14 then 14 else c + 1))).1 i j = σ.1 i j := fun q hq hqp i j h1 h2 => (if_neg (by omega)).trans ((if_neg (by omega)).trans ((sH_out (by omega)).trans (oC_ne (by omega))))
  have gr : ∀ i j, i ≠ 25 + 20 * p + 3 → (sI (sI (sH (oC σ 3 (25 + 20 * p)) (25 + 20 * p) πm nr ng nb g) 23 1 (nI ((p + 1) % 14))) 23 2 (nI (if c = 14 then 14 else c + 1))).2.1 i j = σ.2.1 i j := fun i j h => sH_R (nr := nr) (ng := ng) (nb := nb) (g := g) h
  have gb : ∀ j, j < 12 → (sI (sI (sH (oC σ 3 (25 + 20 * p)) (25 + 20 * p) πm nr ng nb g) 23 1 (nI ((p + 1) % 14))) 23 2 (nI (if c = 14 then 14 else c + 1))).2.1 (25 + 20 * p + 3) j = some (25 + 20 * p + 8 + πm j) := fun j hj => sH_book (nr := nr) (ng := ng) (nb := nb) (g := g) hj
  have e23 : (sI (sI (sH (oC σ 3 (25 + 20 * p)) (25 + 20 * p) πm nr ng nb g) 23 1 (nI ((p + 1) % 14))) 23 2 (nI (if c = 14 then 14 else c + 1))).1 23 1 = nI ((p + 1) % 14) := rfl
  have e24 : (sI (sI (sH (oC σ 3 (25 + 20 * p)) (25 + 20 * p) πm nr ng nb g) 23 1 (nI ((p + 1) % 14))) 23 2 (nI (if c = 14 then 14 else c + 1))).1 23 2 = nI (remA c) := rfl
  have hsl : SA (sI (sI (sH (oC σ 3 (25 + 20 * p)) (25 + 20 * p) πm nr ng nb g) 23 1 (nI ((p + 1) % 14))) 23 2 (nI (if c = 14 then 14 else c + 1))) (25 + 20 * p) g :=
    (SA.mk (σ := oC σ 3 (25 + 20 * p)) hcm hw ht hcb).frame (fun i j h1 h2 => (if_neg (by omega)).trans (if_neg (by omega))) (fun _ _ _ _ => rfl)
  generalize sI (sI (sH (oC σ 3 (25 + 20 * p)) (25 + 20 * p) πm nr ng nb g) 23 1 (nI ((p + 1) % 14))) 23 2 (nI (if c = 14 then 14 else c + 1)) = τ at k fi fs gr gb e23 e24 hsl
  refine ⟨τ, k, ⟨?_, ?_, ⟨(fi _ _ (by omega)).trans ht1, ht2, (funext fun j => fi _ _ (by omega)).trans ht3⟩, ⟨(p + 1) % 14, by omega, by unfold remA; split <;> omega, e23, e24, fun i hi => ?_⟩, fun s hs => ⟨(fi _ _ (by omega)).trans (hS s hs).1, fun q => ((hS s hs).2 q).frame (fun x j h1 h2 => fi _ _ (by omega)) (fun x j h1 h2 => gr _ _ (by omega))⟩⟩, ?_, ?_, ⟨fun i j h => fi _ _ (by omega), fun i j h => gr _ _ (by omega)⟩⟩
  · obtain ⟨⟨a0, a1, a2, a3, a4, a5, a6, a7⟩, b, cc, d, e⟩ := hF
    have f : ∀ i j, i ≠ 25 + 20 * p + 3 → ∀ {v}, σ.2.1 i j = v → τ.2.1 i j = v := fun i j h v q => (gr i j h).trans q
    refine ⟨⟨f _ _ (by omega) a0, f _ _ (by omega) a1, f _ _ (by omega) a2, f _ _ (by omega) a3, f _ _ (by omega) a4, f _ _ (by omega) a5, f _ _ (by omega) a6, f _ _ (by omega) a7⟩, f _ _ (by omega) b, ⟨f _ _ (by omega) cc.1, fun k hk => f _ _ (by omega) (cc.2 k hk)⟩, fun s hs => f _ _ (by omega) (d s hs), fun h hh => ?_⟩
    have hl : h ≠ 25 + 20 * p + 3 ∧ h + 1 ≠ 25 + 20 * p + 3 := by
      rcases hh with rfl | rfl | rfl | rfl | rfl | ⟨k, hk, rfl⟩ <;> omega
    obtain ⟨e1, e2, e3, e4⟩ := e h hh
    exact ⟨f _ _ (by omega) e1, f _ _ (by omega) e2, f _ _ (by omega) e3, fun r hr => f _ _ (by omega) (e4 r hr)⟩
  · intro h hh
    by_cases q : h = 25 + 20 * p
    · subst q
      exact ⟨πm, hpm, gb⟩
    · exact (hBB h hh).frame (fun j => gr _ _ (by omega))
  · have old : ∀ q i0, q < 14 → q ≠ p → SA σ (25 + 20 * q) (M i0) → SA τ (25 + 20 * q) (M i0) := fun q i0 hq hqp x => x.frame (fs q hq hqp) (fun i j h1 h2 => gr _ _ (by omega))
    unfold remA at hi ⊢
    unfold remM
    by_cases h14 : c = 14
    · rw [if_pos h14] at hi ⊢
      rw [if_pos h14]
      by_cases h13 : i < 13
      · rw [if_pos h13]
        have x := e3 (i + 1) (by omega)
        rw [show (p + 14 - c + (i + 1)) % 14 = ((p + 1) % 14 + 14 - 14 + i) % 14 by omega] at x
        exact old _ _ (by omega) (by omega) x
      · rw [if_neg h13, show ((p + 1) % 14 + 14 - 14 + i) % 14 = p by omega]
        exact hsl
    · rw [if_neg h14] at hi ⊢
      rw [if_neg h14]
      by_cases hic : i < c
      · rw [if_pos hic]
        have x := e3 i hic
        rw [show (p + 14 - c + i) % 14 = ((p + 1) % 14 + 14 - (c + 1) + i) % 14 by omega] at x
        exact old _ _ (by omega) (by omega) x
      · rw [if_neg hic, show ((p + 1) % 14 + 14 - (c + 1) + i) % 14 = p by omega]
        exact hsl
  · exact hc.frame (fun i j h1 h2 => gr _ _ (by omega))
  · exact hR.frame hc.2.2 hw (fun i j h1 h2 => fi _ _ (by omega)) (fun i j h1 h2 => gr _ _ (by omega))
