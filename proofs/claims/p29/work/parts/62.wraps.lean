/-! the law: its wrappers -/
set_option maxHeartbeats 4000000 in
theorem kL_append (σ : Sg) (v : Int32) (cd val : Int32) (po px : Sg → Prop) (hC : Ct yX6_append cX6_append mX6_append 7 8 48 NN false σ [.ref 0, .int v] NN (oX cd po val) (z2 px cd eA eS)) : CtH yL_append cL_append mL_append 9 8 48 NN false σ [.ref 0, .int v] NN (wX cd po px (av2 kA kS_ cd val)) XF := by
  refine ctH_of (ls0 := [some (.ref 0), some (.int v), none]) 1 (by decide +kernel) rfl (ndR (ndI nd0)) rfl (Nat.le_of_ble_eq_true rfl) (fun K => ?_)
  refine aw_aload0 dL_append_0 ?_
  refine aw_iload1 dL_append_1 ?_
  refine aw_callV (As := [.int v]) hC dL_append_2 vl_L_9 rfl (by decide) (Rm1 (by decide)) (Nat.le_of_ble_eq_true rfl) (fun σ2 r h => ?_) (fun σ2 E h => ?_)
  · obtain ⟨v, rfl, hcd, hpo, rfl⟩ := h
    refine (?_ : AW K yL_append.cls cL_append mL_append 9 8 48 _ NN none σ2 (0 + 8) (0 + 48) 5 _ [.int val])
    refine aw_i2l dL_append_5 ?_
    exact aw_lret dL_append_6 rfl (by decide) (wX2_0 hcd hpo)
  · obtain ⟨hd, h⟩ := h
    rcases h with ⟨hcd, rfl⟩ | ⟨hcd, rfl⟩
    · refine ax_catch (x := ⟨0, 6, 7, 15⟩) (pre := []) rfl (fun y hy => absurd hy List.not_mem_nil) (by decide) (by decide) cl_L_15 ca_eA (fun q => ?_)
      refine aw_astore2E dL_append_7 (by decide) rfl ?_
      refine aw_ldc2 dL_append_8 kl_L_17 ?_
      exact aw_lret dL_append_11 rfl (by decide) (wX2_1 hcd hd)
    · refine ax_catch (x := ⟨0, 6, 12, 19⟩) (pre := [⟨0, 6, 7, 15⟩]) rfl (List.forall_mem_cons.mpr ⟨⟨by decide, eA, ex_eA, by decide, cl_L_15⟩, fun y hy => absurd hy List.not_mem_nil⟩) (by decide) (by decide) cl_L_19 ca_eS (fun q => ?_)
      refine aw_astore2E dL_append_12 (by decide) rfl ?_
      refine aw_ldc2 dL_append_13 kl_L_21 ?_
      exact aw_lret dL_append_16 rfl (by decide) (wX2_2 hcd hd)
theorem qL_append {σ : Sg} {s : AS} (hI : CI σ s) (v : Int32) : CtH yL_append cL_append mL_append 9 8 48 NN false σ [.ref 0, .int v] NN (rL fun τ y0 => CI τ (aAppend s v) ∧ vAppend s v = y0) XF :=
  (kL_append σ v _ _ _ _ (q6_append hI v)).mono (fun ρ r ⟨v, e, h1, h2⟩ => ⟨v, e, h2.elim (fun z => by rw [aAppend, if_pos z.1]; exact z.2) (fun z => by rw [aAppend, if_neg z.1]; exact z.2), h1⟩) (fun ρ E h => h)
set_option maxHeartbeats 4000000 in
theorem kL_load (σ : Sg)  (cd val : Int32) (po px : Sg → Prop) (hC : Ct yX6_load cX6_load mX6_load 7 8 48 NN false σ [.ref 0] NN (oX cd po val) (z1 px cd eS)) : CtH yL_load cL_load mL_load 9 8 48 NN false σ [.ref 0] NN (wX cd po px (av1 kS_ cd val)) XF := by
  refine ctH_of (ls0 := [some (.ref 0), none]) 1 (by decide +kernel) rfl (ndR nd0) rfl (Nat.le_of_ble_eq_true rfl) (fun K => ?_)
  refine aw_aload0 dL_load_0 ?_
  refine aw_callV (As := []) hC dL_load_1 vl_L_23 rfl (by decide) (Rm1 (by decide)) (Nat.le_of_ble_eq_true rfl) (fun σ2 r h => ?_) (fun σ2 E h => ?_)
  · obtain ⟨v, rfl, hcd, hpo, rfl⟩ := h
    refine (?_ : AW K yL_load.cls cL_load mL_load 9 8 48 _ NN none σ2 (0 + 8) (0 + 48) 4 _ [.int val])
    refine aw_i2l dL_load_4 ?_
    exact aw_lret dL_load_5 rfl (by decide) (wX1_0 hcd hpo)
  · obtain ⟨hd, h⟩ := h
    obtain ⟨hcd, rfl⟩ := h
    refine ax_catch (x := ⟨0, 5, 6, 19⟩) (pre := []) rfl (fun y hy => absurd hy List.not_mem_nil) (by decide) (by decide) cl_L_19 ca_eS (fun q => ?_)
    refine aw_astore1E dL_load_6 (by decide) rfl ?_
    refine aw_ldc2 dL_load_7 kl_L_21 ?_
    exact aw_lret dL_load_10 rfl (by decide) (wX1_1 hcd hd)
theorem qL_load {σ : Sg} {s : AS} (hI : CI σ s)  : CtH yL_load cL_load mL_load 9 8 48 NN false σ [.ref 0] NN (rL fun τ y0 => CI τ (aLoad s ) ∧ vLoad s  = y0) XF :=
  (kL_load σ  _ _ _ _ (q6_load hI )).mono (fun ρ r ⟨v, e, h1, h2⟩ => ⟨v, e, h2.elim (fun z => by rw [aLoad, if_pos z.1]; exact z.2) (fun z => by rw [aLoad, if_neg z.1]; exact z.2), h1⟩) (fun ρ E h => h)
set_option maxHeartbeats 4000000 in
theorem kL_about (σ : Sg) (k : Int32) (cd val : Int32) (po px : Sg → Prop) (hC : Ct yX6_about cX6_about mX6_about 7 8 48 NN false σ [.ref 0, .int k] NN (oX cd po val) (z1 px cd eA)) : CtH yL_about cL_about mL_about 9 8 48 NN false σ [.ref 0, .int k] NN (wX cd po px (av1 kA cd val)) XF := by
  refine ctH_of (ls0 := [some (.ref 0), some (.int k), none]) 1 (by decide +kernel) rfl (ndR (ndI nd0)) rfl (Nat.le_of_ble_eq_true rfl) (fun K => ?_)
  refine aw_aload0 dL_about_0 ?_
  refine aw_iload1 dL_about_1 ?_
  refine aw_callV (As := [.int k]) hC dL_about_2 vl_L_27 rfl (by decide) (Rm1 (by decide)) (Nat.le_of_ble_eq_true rfl) (fun σ2 r h => ?_) (fun σ2 E h => ?_)
  · obtain ⟨v, rfl, hcd, hpo, rfl⟩ := h
    refine (?_ : AW K yL_about.cls cL_about mL_about 9 8 48 _ NN none σ2 (0 + 8) (0 + 48) 5 _ [.int val])
    refine aw_i2l dL_about_5 ?_
    exact aw_lret dL_about_6 rfl (by decide) (wX1_0 hcd hpo)
  · obtain ⟨hd, h⟩ := h
    obtain ⟨hcd, rfl⟩ := h
    refine ax_catch (x := ⟨0, 6, 7, 15⟩) (pre := []) rfl (fun y hy => absurd hy List.not_mem_nil) (by decide) (by decide) cl_L_15 ca_eA (fun q => ?_)
    refine aw_astore2E dL_about_7 (by decide) rfl ?_
    refine aw_ldc2 dL_about_8 kl_L_17 ?_
    exact aw_lret dL_about_11 rfl (by decide) (wX1_1 hcd hd)
theorem qL_about {σ : Sg} {s : AS} (hI : CI σ s) (k : Int32) : CtH yL_about cL_about mL_about 9 8 48 NN false σ [.ref 0, .int k] NN (rL fun τ y0 => CI τ s ∧ vAbout s k = y0) XF :=
  (kL_about σ k _ _ _ _ (q6_about hI k)).mono (fun ρ r ⟨v, e, h1, h2⟩ => ⟨v, e, h2.elim (fun z => z.2) (fun z => z.2), h1⟩) (fun ρ E h => h)
set_option maxHeartbeats 4000000 in
theorem kL_room (σ : Sg) (r : Int32) (k : Int32) (cd val : Int32) (po px : Sg → Prop) (hC : Ct yX6_room cX6_room mX6_room 7 8 48 NN false σ [.ref 0, .int r, .int k] NN (oX cd po val) (z2 px cd eI eA)) : CtH yL_room cL_room mL_room 9 8 48 NN false σ [.ref 0, .int r, .int k] NN (wX cd po px (av2 kI kA cd val)) XF := by
  refine ctH_of (ls0 := [some (.ref 0), some (.int r), some (.int k), none]) 1 (by decide +kernel) rfl (ndR (ndI (ndI nd0))) rfl (Nat.le_of_ble_eq_true rfl) (fun K => ?_)
  refine aw_aload0 dL_room_0 ?_
  refine aw_iload1 dL_room_1 ?_
  refine aw_iload2 dL_room_2 ?_
  refine aw_callV (As := [.int r, .int k]) hC dL_room_3 vl_L_30 rfl (by decide) (Rm1 (by decide)) (Nat.le_of_ble_eq_true rfl) (fun σ2 r h => ?_) (fun σ2 E h => ?_)
  · obtain ⟨v, rfl, hcd, hpo, rfl⟩ := h
    refine (?_ : AW K yL_room.cls cL_room mL_room 9 8 48 _ NN none σ2 (0 + 8) (0 + 48) 6 _ [.int val])
    refine aw_i2l dL_room_6 ?_
    exact aw_lret dL_room_7 rfl (by decide) (wX2_0 hcd hpo)
  · obtain ⟨hd, h⟩ := h
    rcases h with ⟨hcd, rfl⟩ | ⟨hcd, rfl⟩
    · refine ax_catch (x := ⟨0, 7, 8, 34⟩) (pre := []) rfl (fun y hy => absurd hy List.not_mem_nil) (by decide) (by decide) cl_L_34 ca_eI (fun q => ?_)
      refine aw_astore3E dL_room_8 (by decide) rfl ?_
      refine aw_ldc2 dL_room_9 kl_L_36 ?_
      exact aw_lret dL_room_12 rfl (by decide) (wX2_1 hcd hd)
    · refine ax_catch (x := ⟨0, 7, 13, 15⟩) (pre := [⟨0, 7, 8, 34⟩]) rfl (List.forall_mem_cons.mpr ⟨⟨by decide, eI, ex_eI, by decide, cl_L_34⟩, fun y hy => absurd hy List.not_mem_nil⟩) (by decide) (by decide) cl_L_15 ca_eA (fun q => ?_)
      refine aw_astore3E dL_room_13 (by decide) rfl ?_
      refine aw_ldc2 dL_room_14 kl_L_17 ?_
      exact aw_lret dL_room_17 rfl (by decide) (wX2_2 hcd hd)
theorem qL_room {σ : Sg} {s : AS} (hI : CI σ s) (r : Int32) (k : Int32) : CtH yL_room cL_room mL_room 9 8 48 NN false σ [.ref 0, .int r, .int k] NN (rL fun τ y0 => CI τ s ∧ vRoom s r k = y0) XF :=
  (kL_room σ r k _ _ _ _ (q6_room hI r k)).mono (fun ρ r ⟨v, e, h1, h2⟩ => ⟨v, e, h2.elim (fun z => z.2) (fun z => z.2), h1⟩) (fun ρ E h => h)
set_option maxHeartbeats 4000000 in
theorem kL_owes (σ : Sg) (w : Int32) (cd val : Int32) (po px : Sg → Prop) (hC : Ct yX6_owes cX6_owes mX6_owes 7 8 48 NN false σ [.ref 0, .int w] NN (oX cd po val) (z1 px cd eI)) : CtH yL_owes cL_owes mL_owes 9 8 48 NN false σ [.ref 0, .int w] NN (wX cd po px (av1 kI cd val)) XF := by
  refine ctH_of (ls0 := [some (.ref 0), some (.int w), none]) 1 (by decide +kernel) rfl (ndR (ndI nd0)) rfl (Nat.le_of_ble_eq_true rfl) (fun K => ?_)
  refine aw_aload0 dL_owes_0 ?_
  refine aw_iload1 dL_owes_1 ?_
  refine aw_callV (As := [.int w]) hC dL_owes_2 vl_L_38 rfl (by decide) (Rm1 (by decide)) (Nat.le_of_ble_eq_true rfl) (fun σ2 r h => ?_) (fun σ2 E h => ?_)
  · obtain ⟨v, rfl, hcd, hpo, rfl⟩ := h
    refine (?_ : AW K yL_owes.cls cL_owes mL_owes 9 8 48 _ NN none σ2 (0 + 8) (0 + 48) 5 _ [.int val])
    refine aw_i2l dL_owes_5 ?_
    exact aw_lret dL_owes_6 rfl (by decide) (wX1_0 hcd hpo)
  · obtain ⟨hd, h⟩ := h
    obtain ⟨hcd, rfl⟩ := h
    refine ax_catch (x := ⟨0, 6, 7, 34⟩) (pre := []) rfl (fun y hy => absurd hy List.not_mem_nil) (by decide) (by decide) cl_L_34 ca_eI (fun q => ?_)
    refine aw_astore2E dL_owes_7 (by decide) rfl ?_
    refine aw_ldc2 dL_owes_8 kl_L_36 ?_
    exact aw_lret dL_owes_11 rfl (by decide) (wX1_1 hcd hd)
theorem qL_owes {σ : Sg} {s : AS} (hI : CI σ s) (w : Int32) : CtH yL_owes cL_owes mL_owes 9 8 48 NN false σ [.ref 0, .int w] NN (rL fun τ y0 => CI τ s ∧ vOwes s w = y0) XF :=
  (kL_owes σ w _ _ _ _ (q6_owes hI w)).mono (fun ρ r ⟨v, e, h1, h2⟩ => ⟨v, e, h2.elim (fun z => z.2) (fun z => z.2), h1⟩) (fun ρ E h => h)
set_option maxHeartbeats 4000000 in
theorem kL_booking (σ : Sg) (b : Int32) (k : Int32) (cd val : Int32) (po px : Sg → Prop) (hC : Ct yX6_booking cX6_booking mX6_booking 7 8 48 NN false σ [.ref 0, .int b, .int k] NN (oX cd po val) (z2 px cd eI eA)) : CtH yL_booking cL_booking mL_booking 9 8 48 NN false σ [.ref 0, .int b, .int k] NN (wX cd po px (av2 kI kA cd val)) XF := by
  refine ctH_of (ls0 := [some (.ref 0), some (.int b), some (.int k), none]) 1 (by decide +kernel) rfl (ndR (ndI (ndI nd0))) rfl (Nat.le_of_ble_eq_true rfl) (fun K => ?_)
  refine aw_aload0 dL_booking_0 ?_
  refine aw_iload1 dL_booking_1 ?_
  refine aw_iload2 dL_booking_2 ?_
  refine aw_callV (As := [.int b, .int k]) hC dL_booking_3 vl_L_41 rfl (by decide) (Rm1 (by decide)) (Nat.le_of_ble_eq_true rfl) (fun σ2 r h => ?_) (fun σ2 E h => ?_)
  · obtain ⟨v, rfl, hcd, hpo, rfl⟩ := h
    refine (?_ : AW K yL_booking.cls cL_booking mL_booking 9 8 48 _ NN none σ2 (0 + 8) (0 + 48) 6 _ [.int val])
    refine aw_i2l dL_booking_6 ?_
    exact aw_lret dL_booking_7 rfl (by decide) (wX2_0 hcd hpo)
  · obtain ⟨hd, h⟩ := h
    rcases h with ⟨hcd, rfl⟩ | ⟨hcd, rfl⟩
    · refine ax_catch (x := ⟨0, 7, 8, 34⟩) (pre := []) rfl (fun y hy => absurd hy List.not_mem_nil) (by decide) (by decide) cl_L_34 ca_eI (fun q => ?_)
      refine aw_astore3E dL_booking_8 (by decide) rfl ?_
      refine aw_ldc2 dL_booking_9 kl_L_36 ?_
      exact aw_lret dL_booking_12 rfl (by decide) (wX2_1 hcd hd)
    · refine ax_catch (x := ⟨0, 7, 13, 15⟩) (pre := [⟨0, 7, 8, 34⟩]) rfl (List.forall_mem_cons.mpr ⟨⟨by decide, eI, ex_eI, by decide, cl_L_34⟩, fun y hy => absurd hy List.not_mem_nil⟩) (by decide) (by decide) cl_L_15 ca_eA (fun q => ?_)
      refine aw_astore3E dL_booking_13 (by decide) rfl ?_
      refine aw_ldc2 dL_booking_14 kl_L_17 ?_
      exact aw_lret dL_booking_17 rfl (by decide) (wX2_2 hcd hd)
theorem qL_booking {σ : Sg} {s : AS} (hI : CI σ s) (b : Int32) (k : Int32) : CtH yL_booking cL_booking mL_booking 9 8 48 NN false σ [.ref 0, .int b, .int k] NN (rL fun τ y0 => CI τ s ∧ vBooking s b k = y0) XF :=
  (kL_booking σ b k _ _ _ _ (q6_booking hI b k)).mono (fun ρ r ⟨v, e, h1, h2⟩ => ⟨v, e, h2.elim (fun z => z.2) (fun z => z.2), h1⟩) (fun ρ E h => h)
set_option maxHeartbeats 4000000 in
theorem kL_addRoom (σ : Sg) (a : Int32) (l : Int32) (p : Int32) (t0 : Int32) (cd val : Int32) (po px : Sg → Prop) (hC : Ct yX6_addRoom cX6_addRoom mX6_addRoom 7 8 48 NN false σ [.ref 0, .int a, .int l, .int p, .int t0] NN (oX cd po val) (z2 px cd eA eS)) : CtH yL_addRoom cL_addRoom mL_addRoom 9 8 48 NN false σ [.ref 0, .int a, .int l, .int p, .int t0] NN (wX cd po px (av2 kA kS_ cd val)) XF := by
  refine ctH_of (ls0 := [some (.ref 0), some (.int a), some (.int l), some (.int p), some (.int t0), none]) 1 (by decide +kernel) rfl (ndR (ndI (ndI (ndI (ndI nd0))))) rfl (Nat.le_of_ble_eq_true rfl) (fun K => ?_)
  refine aw_aload0 dL_addRoom_0 ?_
  refine aw_iload1 dL_addRoom_1 ?_
  refine aw_iload2 dL_addRoom_2 ?_
  refine aw_iload3 dL_addRoom_3 ?_
  refine aw_iload4 dL_addRoom_4 ?_
  refine aw_callV (As := [.int a, .int l, .int p, .int t0]) hC dL_addRoom_6 vl_L_44 rfl (by decide) (Rm1 (by decide)) (Nat.le_of_ble_eq_true rfl) (fun σ2 r h => ?_) (fun σ2 E h => ?_)
  · obtain ⟨v, rfl, hcd, hpo, rfl⟩ := h
    refine (?_ : AW K yL_addRoom.cls cL_addRoom mL_addRoom 9 8 48 _ NN none σ2 (0 + 8) (0 + 48) 9 _ [.int val])
    refine aw_i2l dL_addRoom_9 ?_
    exact aw_lret dL_addRoom_10 rfl (by decide) (wX2_0 hcd hpo)
  · obtain ⟨hd, h⟩ := h
    rcases h with ⟨hcd, rfl⟩ | ⟨hcd, rfl⟩
    · refine ax_catch (x := ⟨0, 10, 11, 15⟩) (pre := []) rfl (fun y hy => absurd hy List.not_mem_nil) (by decide) (by decide) cl_L_15 ca_eA (fun q => ?_)
      refine aw_astore5E dL_addRoom_11 (by decide) rfl ?_
      refine aw_ldc2 dL_addRoom_13 kl_L_17 ?_
      exact aw_lret dL_addRoom_16 rfl (by decide) (wX2_1 hcd hd)
    · refine ax_catch (x := ⟨0, 10, 17, 19⟩) (pre := [⟨0, 10, 11, 15⟩]) rfl (List.forall_mem_cons.mpr ⟨⟨by decide, eA, ex_eA, by decide, cl_L_15⟩, fun y hy => absurd hy List.not_mem_nil⟩) (by decide) (by decide) cl_L_19 ca_eS (fun q => ?_)
      refine aw_astore5E dL_addRoom_17 (by decide) rfl ?_
      refine aw_ldc2 dL_addRoom_19 kl_L_21 ?_
      exact aw_lret dL_addRoom_22 rfl (by decide) (wX2_2 hcd hd)
theorem qL_addRoom {σ : Sg} {s : AS} (hI : CI σ s) (a : Int32) (l : Int32) (p : Int32) (t0 : Int32) : CtH yL_addRoom cL_addRoom mL_addRoom 9 8 48 NN false σ [.ref 0, .int a, .int l, .int p, .int t0] NN (rL fun τ y0 => CI τ (aAddRoom s a l p t0) ∧ vAddRoom s a l p t0 = y0) XF :=
  (kL_addRoom σ a l p t0 _ _ _ _ (q6_addRoom hI a l p t0)).mono (fun ρ r ⟨v, e, h1, h2⟩ => ⟨v, e, h2.elim (fun z => by rw [aAddRoom, if_pos z.1]; exact z.2) (fun z => by rw [aAddRoom, if_neg z.1]; exact z.2), h1⟩) (fun ρ E h => h)
set_option maxHeartbeats 4000000 in
theorem kL_addGroup (σ : Sg)  (cd val : Int32) (po px : Sg → Prop) (hC : Ct yX6_addGroup cX6_addGroup mX6_addGroup 7 8 48 NN false σ [.ref 0] NN (oX cd po val) (z1 px cd eS)) : CtH yL_addGroup cL_addGroup mL_addGroup 9 8 48 NN false σ [.ref 0] NN (wX cd po px (av1 kS_ cd val)) XF := by
  refine ctH_of (ls0 := [some (.ref 0), none]) 1 (by decide +kernel) rfl (ndR nd0) rfl (Nat.le_of_ble_eq_true rfl) (fun K => ?_)
  refine aw_aload0 dL_addGroup_0 ?_
  refine aw_callV (As := []) hC dL_addGroup_1 vl_L_48 rfl (by decide) (Rm1 (by decide)) (Nat.le_of_ble_eq_true rfl) (fun σ2 r h => ?_) (fun σ2 E h => ?_)
  · obtain ⟨v, rfl, hcd, hpo, rfl⟩ := h
    refine (?_ : AW K yL_addGroup.cls cL_addGroup mL_addGroup 9 8 48 _ NN none σ2 (0 + 8) (0 + 48) 4 _ [.int val])
    refine aw_i2l dL_addGroup_4 ?_
    exact aw_lret dL_addGroup_5 rfl (by decide) (wX1_0 hcd hpo)
  · obtain ⟨hd, h⟩ := h
    obtain ⟨hcd, rfl⟩ := h
    refine ax_catch (x := ⟨0, 5, 6, 19⟩) (pre := []) rfl (fun y hy => absurd hy List.not_mem_nil) (by decide) (by decide) cl_L_19 ca_eS (fun q => ?_)
    refine aw_astore1E dL_addGroup_6 (by decide) rfl ?_
    refine aw_ldc2 dL_addGroup_7 kl_L_21 ?_
    exact aw_lret dL_addGroup_10 rfl (by decide) (wX1_1 hcd hd)
theorem qL_addGroup {σ : Sg} {s : AS} (hI : CI σ s)  : CtH yL_addGroup cL_addGroup mL_addGroup 9 8 48 NN false σ [.ref 0] NN (rL fun τ y0 => CI τ (aAddGroup s ) ∧ vAddGroup s  = y0) XF :=
  (kL_addGroup σ  _ _ _ _ (q6_addGroup hI )).mono (fun ρ r ⟨v, e, h1, h2⟩ => ⟨v, e, h2.elim (fun z => by rw [aAddGroup, if_pos z.1]; exact z.2) (fun z => by rw [aAddGroup, if_neg z.1]; exact z.2), h1⟩) (fun ρ E h => h)
set_option maxHeartbeats 4000000 in
theorem kL_book (σ : Sg) (r : Int32) (w : Int32) (f : Int32) (h : Int32) (t0 : Int32) (cd val : Int32) (po px : Sg → Prop) (hC : Ct yX6_book cX6_book mX6_book 8 8 48 NN false σ [.ref 0, .int r, .int w, .int f, .int h, .int t0] NN (oX cd po val) (z3 px cd eI eA eS)) : CtH yL_book cL_book mL_book 9 8 48 NN false σ [.ref 0, .int r, .int w, .int f, .int h, .int t0] NN (wX cd po px (av3 kI kA kS_ cd val)) XF := by
  refine ctH_of (ls0 := [some (.ref 0), some (.int r), some (.int w), some (.int f), some (.int h), some (.int t0), none]) 1 (by decide +kernel) rfl (ndR (ndI (ndI (ndI (ndI (ndI nd0)))))) rfl (Nat.le_of_ble_eq_true rfl) (fun K => ?_)
  refine aw_aload0 dL_book_0 ?_
  refine aw_iload1 dL_book_1 ?_
  refine aw_iload2 dL_book_2 ?_
  refine aw_iload3 dL_book_3 ?_
  refine aw_iload4 dL_book_4 ?_
  refine aw_iload5 dL_book_6 ?_
  refine aw_callV (As := [.int r, .int w, .int f, .int h, .int t0]) hC dL_book_8 vl_L_51 rfl (by decide) (Rm1 (by decide)) (Nat.le_of_ble_eq_true rfl) (fun σ2 r h => ?_) (fun σ2 E h => ?_)
  · obtain ⟨v, rfl, hcd, hpo, rfl⟩ := h
    refine (?_ : AW K yL_book.cls cL_book mL_book 9 8 48 _ NN none σ2 (0 + 8) (0 + 48) 11 _ [.int val])
    refine aw_i2l dL_book_11 ?_
    exact aw_lret dL_book_12 rfl (by decide) (wX3_0 hcd hpo)
  · obtain ⟨hd, h⟩ := h
    rcases h with ⟨hcd, rfl⟩ | ⟨hcd, rfl⟩ | ⟨hcd, rfl⟩
    · refine ax_catch (x := ⟨0, 12, 13, 34⟩) (pre := []) rfl (fun y hy => absurd hy List.not_mem_nil) (by decide) (by decide) cl_L_34 ca_eI (fun q => ?_)
      refine aw_astore6E dL_book_13 (by decide) rfl ?_
      refine aw_ldc2 dL_book_15 kl_L_36 ?_
      exact aw_lret dL_book_18 rfl (by decide) (wX3_1 hcd hd)
    · refine ax_catch (x := ⟨0, 12, 19, 15⟩) (pre := [⟨0, 12, 13, 34⟩]) rfl (List.forall_mem_cons.mpr ⟨⟨by decide, eI, ex_eI, by decide, cl_L_34⟩, fun y hy => absurd hy List.not_mem_nil⟩) (by decide) (by decide) cl_L_15 ca_eA (fun q => ?_)
      refine aw_astore6E dL_book_19 (by decide) rfl ?_
      refine aw_ldc2 dL_book_21 kl_L_17 ?_
      exact aw_lret dL_book_24 rfl (by decide) (wX3_2 hcd hd)
    · refine ax_catch (x := ⟨0, 12, 25, 19⟩) (pre := [⟨0, 12, 13, 34⟩, ⟨0, 12, 19, 15⟩]) rfl (List.forall_mem_cons.mpr ⟨⟨by decide, eI, ex_eI, by decide, cl_L_34⟩, List.forall_mem_cons.mpr ⟨⟨by decide, eA, ex_eA, by decide, cl_L_15⟩, fun y hy => absurd hy List.not_mem_nil⟩⟩) (by decide) (by decide) cl_L_19 ca_eS (fun q => ?_)
      refine aw_astore6E dL_book_25 (by decide) rfl ?_
      refine aw_ldc2 dL_book_27 kl_L_21 ?_
      exact aw_lret dL_book_30 rfl (by decide) (wX3_3 hcd hd)
theorem qL_book {σ : Sg} {s : AS} (hI : CI σ s) (r : Int32) (w : Int32) (f : Int32) (h : Int32) (t0 : Int32) : CtH yL_book cL_book mL_book 9 8 48 NN false σ [.ref 0, .int r, .int w, .int f, .int h, .int t0] NN (rL fun τ y0 => CI τ (aBook s r w f h t0) ∧ vBook s r w f h t0 = y0) XF :=
  (kL_book σ r w f h t0 _ _ _ _ (q6_book hI r w f h t0)).mono (fun ρ r ⟨v, e, h1, h2⟩ => ⟨v, e, h2.elim (fun z => by rw [aBook, if_pos z.1]; exact z.2) (fun z => by rw [aBook, if_neg z.1]; exact z.2), h1⟩) (fun ρ E h => h)
set_option maxHeartbeats 4000000 in
theorem kL_cancel (σ : Sg) (b : Int32) (cd val : Int32) (po px : Sg → Prop) (hC : Ct yX6_cancel cX6_cancel mX6_cancel 7 8 48 NN false σ [.ref 0, .int b] NN (oX cd po val) (z2 px cd eI eS)) : CtH yL_cancel cL_cancel mL_cancel 9 8 48 NN false σ [.ref 0, .int b] NN (wX cd po px (av2 kI kS_ cd val)) XF := by
  refine ctH_of (ls0 := [some (.ref 0), some (.int b), none]) 1 (by decide +kernel) rfl (ndR (ndI nd0)) rfl (Nat.le_of_ble_eq_true rfl) (fun K => ?_)
  refine aw_aload0 dL_cancel_0 ?_
  refine aw_iload1 dL_cancel_1 ?_
  refine aw_callV (As := [.int b]) hC dL_cancel_2 vl_L_55 rfl (by decide) (Rm1 (by decide)) (Nat.le_of_ble_eq_true rfl) (fun σ2 r h => ?_) (fun σ2 E h => ?_)
  · obtain ⟨v, rfl, hcd, hpo, rfl⟩ := h
    refine (?_ : AW K yL_cancel.cls cL_cancel mL_cancel 9 8 48 _ NN none σ2 (0 + 8) (0 + 48) 5 _ [.int val])
    refine aw_i2l dL_cancel_5 ?_
    exact aw_lret dL_cancel_6 rfl (by decide) (wX2_0 hcd hpo)
  · obtain ⟨hd, h⟩ := h
    rcases h with ⟨hcd, rfl⟩ | ⟨hcd, rfl⟩
    · refine ax_catch (x := ⟨0, 6, 7, 34⟩) (pre := []) rfl (fun y hy => absurd hy List.not_mem_nil) (by decide) (by decide) cl_L_34 ca_eI (fun q => ?_)
      refine aw_astore2E dL_cancel_7 (by decide) rfl ?_
      refine aw_ldc2 dL_cancel_8 kl_L_36 ?_
      exact aw_lret dL_cancel_11 rfl (by decide) (wX2_1 hcd hd)
    · refine ax_catch (x := ⟨0, 6, 12, 19⟩) (pre := [⟨0, 6, 7, 34⟩]) rfl (List.forall_mem_cons.mpr ⟨⟨by decide, eI, ex_eI, by decide, cl_L_34⟩, fun y hy => absurd hy List.not_mem_nil⟩) (by decide) (by decide) cl_L_19 ca_eS (fun q => ?_)
      refine aw_astore2E dL_cancel_12 (by decide) rfl ?_
      refine aw_ldc2 dL_cancel_13 kl_L_21 ?_
      exact aw_lret dL_cancel_16 rfl (by decide) (wX2_2 hcd hd)
theorem qL_cancel {σ : Sg} {s : AS} (hI : CI σ s) (b : Int32) : CtH yL_cancel cL_cancel mL_cancel 9 8 48 NN false σ [.ref 0, .int b] NN (rL fun τ y0 => CI τ (aCancel s b) ∧ vCancel s b = y0) XF :=
  (kL_cancel σ b _ _ _ _ (q6_cancel hI b)).mono (fun ρ r ⟨v, e, h1, h2⟩ => ⟨v, e, h2.elim (fun z => by rw [aCancel, if_pos z.1]; exact z.2) (fun z => by rw [aCancel, if_neg z.1]; exact z.2), h1⟩) (fun ρ E h => h)
set_option maxHeartbeats 4000000 in
theorem kL_prove (σ : Sg) (r : Int32) (is : Int32) (cd val : Int32) (po px : Sg → Prop) (hC : Ct yX6_prove cX6_prove mX6_prove 7 8 48 NN false σ [.ref 0, .int r, .int is] NN (oX cd po val) (z2 px cd eI eS)) : CtH yL_prove cL_prove mL_prove 9 8 48 NN false σ [.ref 0, .int r, .int is] NN (wX cd po px (av2 kI kS_ cd val)) XF := by
  refine ctH_of (ls0 := [some (.ref 0), some (.int r), some (.int is), none]) 1 (by decide +kernel) rfl (ndR (ndI (ndI nd0))) rfl (Nat.le_of_ble_eq_true rfl) (fun K => ?_)
  refine aw_aload0 dL_prove_0 ?_
  refine aw_iload1 dL_prove_1 ?_
  refine aw_iload2 dL_prove_2 ?_
  refine aw_callV (As := [.int r, .int is]) hC dL_prove_3 vl_L_58 rfl (by decide) (Rm1 (by decide)) (Nat.le_of_ble_eq_true rfl) (fun σ2 r h => ?_) (fun σ2 E h => ?_)
  · obtain ⟨v, rfl, hcd, hpo, rfl⟩ := h
    refine (?_ : AW K yL_prove.cls cL_prove mL_prove 9 8 48 _ NN none σ2 (0 + 8) (0 + 48) 6 _ [.int val])
    refine aw_i2l dL_prove_6 ?_
    exact aw_lret dL_prove_7 rfl (by decide) (wX2_0 hcd hpo)
  · obtain ⟨hd, h⟩ := h
    rcases h with ⟨hcd, rfl⟩ | ⟨hcd, rfl⟩
    · refine ax_catch (x := ⟨0, 7, 8, 34⟩) (pre := []) rfl (fun y hy => absurd hy List.not_mem_nil) (by decide) (by decide) cl_L_34 ca_eI (fun q => ?_)
      refine aw_astore3E dL_prove_8 (by decide) rfl ?_
      refine aw_ldc2 dL_prove_9 kl_L_36 ?_
      exact aw_lret dL_prove_12 rfl (by decide) (wX2_1 hcd hd)
    · refine ax_catch (x := ⟨0, 7, 13, 19⟩) (pre := [⟨0, 7, 8, 34⟩]) rfl (List.forall_mem_cons.mpr ⟨⟨by decide, eI, ex_eI, by decide, cl_L_34⟩, fun y hy => absurd hy List.not_mem_nil⟩) (by decide) (by decide) cl_L_19 ca_eS (fun q => ?_)
      refine aw_astore3E dL_prove_13 (by decide) rfl ?_
      refine aw_ldc2 dL_prove_14 kl_L_21 ?_
      exact aw_lret dL_prove_17 rfl (by decide) (wX2_2 hcd hd)
theorem qL_prove {σ : Sg} {s : AS} (hI : CI σ s) (r : Int32) (is : Int32) (his : is = 0 ∨ is = 1) : CtH yL_prove cL_prove mL_prove 9 8 48 NN false σ [.ref 0, .int r, .int is] NN (rL fun τ y0 => CI τ (aProve s r is) ∧ vProve s r is = y0) XF :=
  (kL_prove σ r is _ _ _ _ (q6_prove hI r is his)).mono (fun ρ r ⟨v, e, h1, h2⟩ => ⟨v, e, h2.elim (fun z => by rw [aProve, if_pos z.1]; exact z.2) (fun z => by rw [aProve, if_neg z.1]; exact z.2), h1⟩) (fun ρ E h => h)
set_option maxHeartbeats 4000000 in
theorem kL_outside (σ : Sg) (t0 : Int32) (cd val : Int32) (po px : Sg → Prop) (hC : Ct yX6_outside cX6_outside mX6_outside 7 8 48 NN false σ [.ref 0, .int t0] NN (oX cd po val) (z1 px cd eA)) : CtH yL_outside cL_outside mL_outside 9 8 48 NN false σ [.ref 0, .int t0] NN (wX cd po px (av1 kA cd val)) XF := by
  refine ctH_of (ls0 := [some (.ref 0), some (.int t0), none]) 1 (by decide +kernel) rfl (ndR (ndI nd0)) rfl (Nat.le_of_ble_eq_true rfl) (fun K => ?_)
  refine aw_aload0 dL_outside_0 ?_
  refine aw_iload1 dL_outside_1 ?_
  refine aw_callV (As := [.int t0]) hC dL_outside_2 vl_L_62 rfl (by decide) (Rm1 (by decide)) (Nat.le_of_ble_eq_true rfl) (fun σ2 r h => ?_) (fun σ2 E h => ?_)
  · obtain ⟨v, rfl, hcd, hpo, rfl⟩ := h
    refine (?_ : AW K yL_outside.cls cL_outside mL_outside 9 8 48 _ NN none σ2 (0 + 8) (0 + 48) 5 _ [.int val])
    refine aw_i2l dL_outside_5 ?_
    exact aw_lret dL_outside_6 rfl (by decide) (wX1_0 hcd hpo)
  · obtain ⟨hd, h⟩ := h
    obtain ⟨hcd, rfl⟩ := h
    refine ax_catch (x := ⟨0, 6, 7, 15⟩) (pre := []) rfl (fun y hy => absurd hy List.not_mem_nil) (by decide) (by decide) cl_L_15 ca_eA (fun q => ?_)
    refine aw_astore2E dL_outside_7 (by decide) rfl ?_
    refine aw_ldc2 dL_outside_8 kl_L_17 ?_
    exact aw_lret dL_outside_11 rfl (by decide) (wX1_1 hcd hd)
theorem qL_outside {σ : Sg} {s : AS} (hI : CI σ s) (t0 : Int32) : CtH yL_outside cL_outside mL_outside 9 8 48 NN false σ [.ref 0, .int t0] NN (rL fun τ y0 => CI τ (aOutside s t0) ∧ vOutside s t0 = y0) XF :=
  (kL_outside σ t0 _ _ _ _ (q6_outside hI t0)).mono (fun ρ r ⟨v, e, h1, h2⟩ => ⟨v, e, h2.elim (fun z => by rw [aOutside, if_pos z.1]; exact z.2) (fun z => by rw [aOutside, if_neg z.1]; exact z.2), h1⟩) (fun ρ E h => h)
set_option maxHeartbeats 4000000 in
theorem kL_pay (σ : Sg) (w : Int32) (cd val : Int32) (po px : Sg → Prop) (hC : Ct yX6_pay cX6_pay mX6_pay 7 8 48 NN false σ [.ref 0, .int w] NN (oX cd po val) (z1 px cd eI)) : CtH yL_pay cL_pay mL_pay 9 8 48 NN false σ [.ref 0, .int w] NN (wX cd po px (av1 kI cd val)) XF := by
  refine ctH_of (ls0 := [some (.ref 0), some (.int w), none]) 1 (by decide +kernel) rfl (ndR (ndI nd0)) rfl (Nat.le_of_ble_eq_true rfl) (fun K => ?_)
  refine aw_aload0 dL_pay_0 ?_
  refine aw_iload1 dL_pay_1 ?_
  refine aw_callV (As := [.int w]) hC dL_pay_2 vl_L_65 rfl (by decide) (Rm1 (by decide)) (Nat.le_of_ble_eq_true rfl) (fun σ2 r h => ?_) (fun σ2 E h => ?_)
  · obtain ⟨v, rfl, hcd, hpo, rfl⟩ := h
    refine (?_ : AW K yL_pay.cls cL_pay mL_pay 9 8 48 _ NN none σ2 (0 + 8) (0 + 48) 5 _ [.int val])
    refine aw_i2l dL_pay_5 ?_
    exact aw_lret dL_pay_6 rfl (by decide) (wX1_0 hcd hpo)
  · obtain ⟨hd, h⟩ := h
    obtain ⟨hcd, rfl⟩ := h
    refine ax_catch (x := ⟨0, 6, 7, 34⟩) (pre := []) rfl (fun y hy => absurd hy List.not_mem_nil) (by decide) (by decide) cl_L_34 ca_eI (fun q => ?_)
    refine aw_astore2E dL_pay_7 (by decide) rfl ?_
    refine aw_ldc2 dL_pay_8 kl_L_36 ?_
    exact aw_lret dL_pay_11 rfl (by decide) (wX1_1 hcd hd)
theorem qL_pay {σ : Sg} {s : AS} (hI : CI σ s) (w : Int32) : CtH yL_pay cL_pay mL_pay 9 8 48 NN false σ [.ref 0, .int w] NN (rL fun τ y0 => CI τ (aPay s w) ∧ vPay s w = y0) XF :=
  (kL_pay σ w _ _ _ _ (q6_pay hI w)).mono (fun ρ r ⟨v, e, h1, h2⟩ => ⟨v, e, h2.elim (fun z => by rw [aPay, if_pos z.1]; exact z.2) (fun z => by rw [aPay, if_neg z.1]; exact z.2), h1⟩) (fun ρ E h => h)
set_option maxHeartbeats 4000000 in
theorem kL_pass (σ : Sg) (h : Int32) (cd val : Int32) (po px : Sg → Prop) (hC : Ct yX6_pass cX6_pass mX6_pass 7 8 48 NN false σ [.ref 0, .int h] NN (oX cd po val) (z2 px cd eA eS)) : CtH yL_pass cL_pass mL_pass 9 8 48 NN false σ [.ref 0, .int h] NN (wX cd po px (av2 kA kS_ cd val)) XF := by
  refine ctH_of (ls0 := [some (.ref 0), some (.int h), none]) 1 (by decide +kernel) rfl (ndR (ndI nd0)) rfl (Nat.le_of_ble_eq_true rfl) (fun K => ?_)
  refine aw_aload0 dL_pass_0 ?_
  refine aw_iload1 dL_pass_1 ?_
  refine aw_callV (As := [.int h]) hC dL_pass_2 vl_L_68 rfl (by decide) (Rm1 (by decide)) (Nat.le_of_ble_eq_true rfl) (fun σ2 r h => ?_) (fun σ2 E h => ?_)
  · obtain ⟨v, rfl, hcd, hpo, rfl⟩ := h
    refine (?_ : AW K yL_pass.cls cL_pass mL_pass 9 8 48 _ NN none σ2 (0 + 8) (0 + 48) 5 _ [.int val])
    refine aw_i2l dL_pass_5 ?_
    exact aw_lret dL_pass_6 rfl (by decide) (wX2_0 hcd hpo)
  · obtain ⟨hd, h⟩ := h
    rcases h with ⟨hcd, rfl⟩ | ⟨hcd, rfl⟩
    · refine ax_catch (x := ⟨0, 6, 7, 15⟩) (pre := []) rfl (fun y hy => absurd hy List.not_mem_nil) (by decide) (by decide) cl_L_15 ca_eA (fun q => ?_)
      refine aw_astore2E dL_pass_7 (by decide) rfl ?_
      refine aw_ldc2 dL_pass_8 kl_L_17 ?_
      exact aw_lret dL_pass_11 rfl (by decide) (wX2_1 hcd hd)
    · refine ax_catch (x := ⟨0, 6, 12, 19⟩) (pre := [⟨0, 6, 7, 15⟩]) rfl (List.forall_mem_cons.mpr ⟨⟨by decide, eA, ex_eA, by decide, cl_L_15⟩, fun y hy => absurd hy List.not_mem_nil⟩) (by decide) (by decide) cl_L_19 ca_eS (fun q => ?_)
      refine aw_astore2E dL_pass_12 (by decide) rfl ?_
      refine aw_ldc2 dL_pass_13 kl_L_21 ?_
      exact aw_lret dL_pass_16 rfl (by decide) (wX2_2 hcd hd)
theorem qL_pass {σ : Sg} {s : AS} (hI : CI σ s) (h : Int32) : CtH yL_pass cL_pass mL_pass 9 8 48 NN false σ [.ref 0, .int h] NN (rL fun τ y0 => CI τ (aPass s h) ∧ vPass s h = y0) XF :=
  (kL_pass σ h _ _ _ _ (q6_pass hI h)).mono (fun ρ r ⟨v, e, h1, h2⟩ => ⟨v, e, h2.elim (fun z => by rw [aPass, if_pos z.1]; exact z.2) (fun z => by rw [aPass, if_neg z.1]; exact z.2), h1⟩) (fun ρ E h => h)
set_option maxHeartbeats 4000000 in
theorem kL_undo (σ : Sg)  (cd val : Int32) (po px : Sg → Prop) (hC : Ct yX6_undo cX6_undo mX6_undo 7 8 48 NN false σ [.ref 0] NN (oX cd po val) (z1 px cd eS)) : CtH yL_undo cL_undo mL_undo 9 8 48 NN false σ [.ref 0] NN (wX cd po px (av1 kS_ cd val)) XF := by
  refine ctH_of (ls0 := [some (.ref 0), none]) 1 (by decide +kernel) rfl (ndR nd0) rfl (Nat.le_of_ble_eq_true rfl) (fun K => ?_)
  refine aw_aload0 dL_undo_0 ?_
  refine aw_callV (As := []) hC dL_undo_1 vl_L_71 rfl (by decide) (Rm1 (by decide)) (Nat.le_of_ble_eq_true rfl) (fun σ2 r h => ?_) (fun σ2 E h => ?_)
  · obtain ⟨v, rfl, hcd, hpo, rfl⟩ := h
    refine (?_ : AW K yL_undo.cls cL_undo mL_undo 9 8 48 _ NN none σ2 (0 + 8) (0 + 48) 4 _ [.int val])
    refine aw_i2l dL_undo_4 ?_
    exact aw_lret dL_undo_5 rfl (by decide) (wX1_0 hcd hpo)
  · obtain ⟨hd, h⟩ := h
    obtain ⟨hcd, rfl⟩ := h
    refine ax_catch (x := ⟨0, 5, 6, 19⟩) (pre := []) rfl (fun y hy => absurd hy List.not_mem_nil) (by decide) (by decide) cl_L_19 ca_eS (fun q => ?_)
    refine aw_astore1E dL_undo_6 (by decide) rfl ?_
    refine aw_ldc2 dL_undo_7 kl_L_21 ?_
    exact aw_lret dL_undo_10 rfl (by decide) (wX1_1 hcd hd)
theorem qL_undo {σ : Sg} {s : AS} (hI : CI σ s)  : CtH yL_undo cL_undo mL_undo 9 8 48 NN false σ [.ref 0] NN (rL fun τ y0 => CI τ (aUndo s ) ∧ vUndo s  = y0) XF :=
  (kL_undo σ  _ _ _ _ (q6_undo hI )).mono (fun ρ r ⟨v, e, h1, h2⟩ => ⟨v, e, h2.elim (fun z => by rw [aUndo, if_pos z.1]; exact z.2) (fun z => by rw [aUndo, if_neg z.1]; exact z.2), h1⟩) (fun ρ E h => h)
set_option maxHeartbeats 4000000 in
theorem kL_later (σ : Sg) (r : Int32) (h : Int32) (cd val : Int32) (po px : Sg → Prop) (hC : Ct yX6_later cX6_later mX6_later 7 8 48 NN false σ [.ref 0, .int r, .int h] NN (oX cd po val) (z2 px cd eI eA)) : CtH yL_later cL_later mL_later 9 8 48 NN false σ [.ref 0, .int r, .int h] NN (wX cd po px (av2 kI kA cd val)) XF := by
  refine ctH_of (ls0 := [some (.ref 0), some (.int r), some (.int h), none]) 1 (by decide +kernel) rfl (ndR (ndI (ndI nd0))) rfl (Nat.le_of_ble_eq_true rfl) (fun K => ?_)
  refine aw_aload0 dL_later_0 ?_
  refine aw_iload1 dL_later_1 ?_
  refine aw_iload2 dL_later_2 ?_
  refine aw_callV (As := [.int r, .int h]) hC dL_later_3 vl_L_74 rfl (by decide) (Rm1 (by decide)) (Nat.le_of_ble_eq_true rfl) (fun σ2 r h => ?_) (fun σ2 E h => ?_)
  · obtain ⟨v, rfl, hcd, hpo, rfl⟩ := h
    refine (?_ : AW K yL_later.cls cL_later mL_later 9 8 48 _ NN none σ2 (0 + 8) (0 + 48) 6 _ [.int val])
    refine aw_i2l dL_later_6 ?_
    exact aw_lret dL_later_7 rfl (by decide) (wX2_0 hcd hpo)
  · obtain ⟨hd, h⟩ := h
    rcases h with ⟨hcd, rfl⟩ | ⟨hcd, rfl⟩
    · refine ax_catch (x := ⟨0, 7, 8, 34⟩) (pre := []) rfl (fun y hy => absurd hy List.not_mem_nil) (by decide) (by decide) cl_L_34 ca_eI (fun q => ?_)
      refine aw_astore3E dL_later_8 (by decide) rfl ?_
      refine aw_ldc2 dL_later_9 kl_L_36 ?_
      exact aw_lret dL_later_12 rfl (by decide) (wX2_1 hcd hd)
    · refine ax_catch (x := ⟨0, 7, 13, 15⟩) (pre := [⟨0, 7, 8, 34⟩]) rfl (List.forall_mem_cons.mpr ⟨⟨by decide, eI, ex_eI, by decide, cl_L_34⟩, fun y hy => absurd hy List.not_mem_nil⟩) (by decide) (by decide) cl_L_15 ca_eA (fun q => ?_)
      refine aw_astore3E dL_later_13 (by decide) rfl ?_
      refine aw_ldc2 dL_later_14 kl_L_17 ?_
      exact aw_lret dL_later_17 rfl (by decide) (wX2_2 hcd hd)
theorem qL_later {σ : Sg} {s : AS} (hI : CI σ s) (r : Int32) (h : Int32) : CtH yL_later cL_later mL_later 9 8 48 NN false σ [.ref 0, .int r, .int h] NN (rL fun τ y0 => CI τ s ∧ vLater s r h = y0) XF :=
  (kL_later σ r h _ _ _ _ (q6_later hI r h)).mono (fun ρ r ⟨v, e, h1, h2⟩ => ⟨v, e, h2.elim (fun z => z.2) (fun z => z.2), h1⟩) (fun ρ E h => h)
set_option maxHeartbeats 4000000 in
theorem kL_begins (σ : Sg) (b : Int32) (cd val : Int32) (po px : Sg → Prop) (hC : Ct yX6_begins cX6_begins mX6_begins 7 8 48 NN false σ [.ref 0, .int b] NN (oX cd po val) (z1 px cd eI)) : CtH yL_begins cL_begins mL_begins 9 8 48 NN false σ [.ref 0, .int b] NN (wX cd po px (av1 kI cd val)) XF := by
  refine ctH_of (ls0 := [some (.ref 0), some (.int b), none]) 1 (by decide +kernel) rfl (ndR (ndI nd0)) rfl (Nat.le_of_ble_eq_true rfl) (fun K => ?_)
  refine aw_aload0 dL_begins_0 ?_
  refine aw_iload1 dL_begins_1 ?_
  refine aw_callV (As := [.int b]) hC dL_begins_2 vl_L_77 rfl (by decide) (Rm1 (by decide)) (Nat.le_of_ble_eq_true rfl) (fun σ2 r h => ?_) (fun σ2 E h => ?_)
  · obtain ⟨v, rfl, hcd, hpo, rfl⟩ := h
    refine (?_ : AW K yL_begins.cls cL_begins mL_begins 9 8 48 _ NN none σ2 (0 + 8) (0 + 48) 5 _ [.int val])
    refine aw_i2l dL_begins_5 ?_
    exact aw_lret dL_begins_6 rfl (by decide) (wX1_0 hcd hpo)
  · obtain ⟨hd, h⟩ := h
    obtain ⟨hcd, rfl⟩ := h
    refine ax_catch (x := ⟨0, 6, 7, 34⟩) (pre := []) rfl (fun y hy => absurd hy List.not_mem_nil) (by decide) (by decide) cl_L_34 ca_eI (fun q => ?_)
    refine aw_astore2E dL_begins_7 (by decide) rfl ?_
    refine aw_ldc2 dL_begins_8 kl_L_36 ?_
    exact aw_lret dL_begins_11 rfl (by decide) (wX1_1 hcd hd)
theorem qL_begins {σ : Sg} {s : AS} (hI : CI σ s) (b : Int32) : CtH yL_begins cL_begins mL_begins 9 8 48 NN false σ [.ref 0, .int b] NN (rL fun τ y0 => CI τ s ∧ vBegins s b = y0) XF :=
  (kL_begins σ b _ _ _ _ (q6_begins hI b)).mono (fun ρ r ⟨v, e, h1, h2⟩ => ⟨v, e, h2.elim (fun z => z.2) (fun z => z.2), h1⟩) (fun ρ E h => h)
set_option maxHeartbeats 4000000 in
theorem kL_cost (σ : Sg) (r : Int32) (w : Int32) (f : Int32) (h : Int32) (t0 : Int32) (cd val : Int32) (po px : Sg → Prop) (hC : Ct yX6_cost cX6_cost mX6_cost 8 8 48 NN false σ [.ref 0, .int r, .int w, .int f, .int h, .int t0] NN (oX cd po val) (z2 px cd eI eA)) : CtH yL_cost cL_cost mL_cost 9 8 48 NN false σ [.ref 0, .int r, .int w, .int f, .int h, .int t0] NN (wX cd po px (av2 kI kA cd val)) XF := by
  refine ctH_of (ls0 := [some (.ref 0), some (.int r), some (.int w), some (.int f), some (.int h), some (.int t0), none]) 1 (by decide +kernel) rfl (ndR (ndI (ndI (ndI (ndI (ndI nd0)))))) rfl (Nat.le_of_ble_eq_true rfl) (fun K => ?_)
  refine aw_aload0 dL_cost_0 ?_
  refine aw_iload1 dL_cost_1 ?_
  refine aw_iload2 dL_cost_2 ?_
  refine aw_iload3 dL_cost_3 ?_
  refine aw_iload4 dL_cost_4 ?_
  refine aw_iload5 dL_cost_6 ?_
  refine aw_callV (As := [.int r, .int w, .int f, .int h, .int t0]) hC dL_cost_8 vl_L_80 rfl (by decide) (Rm1 (by decide)) (Nat.le_of_ble_eq_true rfl) (fun σ2 r h => ?_) (fun σ2 E h => ?_)
  · obtain ⟨v, rfl, hcd, hpo, rfl⟩ := h
    refine (?_ : AW K yL_cost.cls cL_cost mL_cost 9 8 48 _ NN none σ2 (0 + 8) (0 + 48) 11 _ [.int val])
    refine aw_i2l dL_cost_11 ?_
    exact aw_lret dL_cost_12 rfl (by decide) (wX2_0 hcd hpo)
  · obtain ⟨hd, h⟩ := h
    rcases h with ⟨hcd, rfl⟩ | ⟨hcd, rfl⟩
    · refine ax_catch (x := ⟨0, 12, 13, 34⟩) (pre := []) rfl (fun y hy => absurd hy List.not_mem_nil) (by decide) (by decide) cl_L_34 ca_eI (fun q => ?_)
      refine aw_astore6E dL_cost_13 (by decide) rfl ?_
      refine aw_ldc2 dL_cost_15 kl_L_36 ?_
      exact aw_lret dL_cost_18 rfl (by decide) (wX2_1 hcd hd)
    · refine ax_catch (x := ⟨0, 12, 19, 15⟩) (pre := [⟨0, 12, 13, 34⟩]) rfl (List.forall_mem_cons.mpr ⟨⟨by decide, eI, ex_eI, by decide, cl_L_34⟩, fun y hy => absurd hy List.not_mem_nil⟩) (by decide) (by decide) cl_L_15 ca_eA (fun q => ?_)
      refine aw_astore6E dL_cost_19 (by decide) rfl ?_
      refine aw_ldc2 dL_cost_21 kl_L_17 ?_
      exact aw_lret dL_cost_24 rfl (by decide) (wX2_2 hcd hd)
theorem qL_cost {σ : Sg} {s : AS} (hI : CI σ s) (r : Int32) (w : Int32) (f : Int32) (h : Int32) (t0 : Int32) : CtH yL_cost cL_cost mL_cost 9 8 48 NN false σ [.ref 0, .int r, .int w, .int f, .int h, .int t0] NN (rL fun τ y0 => CI τ s ∧ vCost s r w f h t0 = y0) XF :=
  (kL_cost σ r w f h t0 _ _ _ _ (q6_cost hI r w f h t0)).mono (fun ρ r ⟨v, e, h1, h2⟩ => ⟨v, e, h2.elim (fun z => z.2) (fun z => z.2), h1⟩) (fun ρ E h => h)
set_option maxHeartbeats 4000000 in
theorem kL_willOwe (σ : Sg) (w : Int32) (cd val : Int32) (po px : Sg → Prop) (hC : Ct yX6_willOwe cX6_willOwe mX6_willOwe 7 8 48 NN false σ [.ref 0, .int w] NN (oX cd po val) (z1 px cd eI)) : CtH yL_willOwe cL_willOwe mL_willOwe 9 8 48 NN false σ [.ref 0, .int w] NN (wX cd po px (av1 kI cd val)) XF := by
  refine ctH_of (ls0 := [some (.ref 0), some (.int w), none]) 1 (by decide +kernel) rfl (ndR (ndI nd0)) rfl (Nat.le_of_ble_eq_true rfl) (fun K => ?_)
  refine aw_aload0 dL_willOwe_0 ?_
  refine aw_iload1 dL_willOwe_1 ?_
  refine aw_callV (As := [.int w]) hC dL_willOwe_2 vl_L_83 rfl (by decide) (Rm1 (by decide)) (Nat.le_of_ble_eq_true rfl) (fun σ2 r h => ?_) (fun σ2 E h => ?_)
  · obtain ⟨v, rfl, hcd, hpo, rfl⟩ := h
    refine (?_ : AW K yL_willOwe.cls cL_willOwe mL_willOwe 9 8 48 _ NN none σ2 (0 + 8) (0 + 48) 5 _ [.int val])
    refine aw_i2l dL_willOwe_5 ?_
    exact aw_lret dL_willOwe_6 rfl (by decide) (wX1_0 hcd hpo)
  · obtain ⟨hd, h⟩ := h
    obtain ⟨hcd, rfl⟩ := h
    refine ax_catch (x := ⟨0, 6, 7, 34⟩) (pre := []) rfl (fun y hy => absurd hy List.not_mem_nil) (by decide) (by decide) cl_L_34 ca_eI (fun q => ?_)
    refine aw_astore2E dL_willOwe_7 (by decide) rfl ?_
    refine aw_ldc2 dL_willOwe_8 kl_L_36 ?_
    exact aw_lret dL_willOwe_11 rfl (by decide) (wX1_1 hcd hd)
theorem qL_willOwe {σ : Sg} {s : AS} (hI : CI σ s) (w : Int32) : CtH yL_willOwe cL_willOwe mL_willOwe 9 8 48 NN false σ [.ref 0, .int w] NN (rL fun τ y0 => CI τ s ∧ vWillOwe s w = y0) XF :=
  (kL_willOwe σ w _ _ _ _ (q6_willOwe hI w)).mono (fun ρ r ⟨v, e, h1, h2⟩ => ⟨v, e, h2.elim (fun z => z.2) (fun z => z.2), h1⟩) (fun ρ E h => h)
set_option maxHeartbeats 4000000 in
theorem kL_script (σ : Sg) (v : Int32) (x : Int64) (cd val : Int32) (po px : Sg → Prop) (hC : Ct yX6_runScript cX6_runScript mX6_runScript 7 8 48 NN false σ [.ref 0, .int v, .long x] NN (oX cd po val) (z1 px cd eA)) : CtH yL_script cL_script mL_script 9 8 48 NN false σ [.ref 0, .int v, .long x] NN (wX cd po px (av1 kA cd val)) XF := by
  refine ctH_of (ls0 := [some (.ref 0), some (.int v), some (.long x), none, none]) 1 (by decide +kernel) rfl (ndR (ndI (ndL nd0))) rfl (Nat.le_of_ble_eq_true rfl) (fun K => ?_)
  refine aw_aload0 dL_script_0 ?_
  refine aw_iload1 dL_script_1 ?_
  refine aw_lload2 dL_script_2 ?_
  refine aw_callV (As := [.int v, .long x]) hC dL_script_3 vl_L_86 rfl (by decide) (Rm1 (by decide)) (Nat.le_of_ble_eq_true rfl) (fun σ2 r h => ?_) (fun σ2 E h => ?_)
  · obtain ⟨v, rfl, hcd, hpo, rfl⟩ := h
    refine (?_ : AW K yL_script.cls cL_script mL_script 9 8 48 _ NN none σ2 (0 + 8) (0 + 48) 6 _ [.int val])
    refine aw_i2l dL_script_6 ?_
    exact aw_lret dL_script_7 rfl (by decide) (wX1_0 hcd hpo)
  · obtain ⟨hd, h⟩ := h
    obtain ⟨hcd, rfl⟩ := h
    refine ax_catch (x := ⟨0, 7, 8, 15⟩) (pre := []) rfl (fun y hy => absurd hy List.not_mem_nil) (by decide) (by decide) cl_L_15 ca_eA (fun q => ?_)
    refine aw_astore4E dL_script_8 (by decide) rfl ?_
    refine aw_ldc2 dL_script_10 kl_L_17 ?_
    exact aw_lret dL_script_13 rfl (by decide) (wX1_1 hcd hd)
theorem qL_script {σ : Sg} {s : AS} (hI : CI σ s) (v : Int32) (x : Int64) : CtH yL_script cL_script mL_script 9 8 48 NN false σ [.ref 0, .int v, .long x] NN (rL fun τ y0 => CI τ s ∧ vScript s v x = y0) XF :=
  (kL_script σ v x _ _ _ _ (q6_script hI v x)).mono (fun ρ r ⟨v, e, h1, h2⟩ => ⟨v, e, h2.elim (fun z => z.2) (fun z => z.2), h1⟩) (fun ρ E h => h)
set_option maxHeartbeats 4000000 in
theorem kL_simulate (σ : Sg) (x : Int64) (v : Int32) (cd val : Int32) (po px : Sg → Prop) (hC : Ct yX6_simulate cX6_simulate mX6_simulate 7 8 48 NN false σ [.ref 0, .long x, .int v] NN (oX cd po val) (z1 px cd eA)) : CtH yL_simulate cL_simulate mL_simulate 9 8 48 NN false σ [.ref 0, .long x, .int v] NN (wX cd po px (av1 kA cd val)) XF := by
  refine ctH_of (ls0 := [some (.ref 0), some (.long x), none, some (.int v), none]) 1 (by decide +kernel) rfl (ndR (ndL (ndI nd0))) rfl (Nat.le_of_ble_eq_true rfl) (fun K => ?_)
  refine aw_aload0 dL_simulate_0 ?_
  refine aw_lload1 dL_simulate_1 ?_
  refine aw_iload3 dL_simulate_2 ?_
  refine aw_callV (As := [.long x, .int v]) hC dL_simulate_3 vl_L_90 rfl (by decide) (Rm1 (by decide)) (Nat.le_of_ble_eq_true rfl) (fun σ2 r h => ?_) (fun σ2 E h => ?_)
  · obtain ⟨v, rfl, hcd, hpo, rfl⟩ := h
    refine (?_ : AW K yL_simulate.cls cL_simulate mL_simulate 9 8 48 _ NN none σ2 (0 + 8) (0 + 48) 6 _ [.int val])
    refine aw_i2l dL_simulate_6 ?_
    exact aw_lret dL_simulate_7 rfl (by decide) (wX1_0 hcd hpo)
  · obtain ⟨hd, h⟩ := h
    obtain ⟨hcd, rfl⟩ := h
    refine ax_catch (x := ⟨0, 7, 8, 15⟩) (pre := []) rfl (fun y hy => absurd hy List.not_mem_nil) (by decide) (by decide) cl_L_15 ca_eA (fun q => ?_)
    refine aw_astore4E dL_simulate_8 (by decide) rfl ?_
    refine aw_ldc2 dL_simulate_10 kl_L_17 ?_
    exact aw_lret dL_simulate_13 rfl (by decide) (wX1_1 hcd hd)
theorem qL_simulate {σ : Sg} {s : AS} (hI : CI σ s) (x : Int64) (v : Int32) : CtH yL_simulate cL_simulate mL_simulate 9 8 48 NN false σ [.ref 0, .long x, .int v] NN (rL fun τ y0 => CI τ s ∧ vSimulate s x v = y0) XF :=
  (kL_simulate σ x v _ _ _ _ (q6_simulate hI x v)).mono (fun ρ r ⟨v, e, h1, h2⟩ => ⟨v, e, h2.elim (fun z => z.2) (fun z => z.2), h1⟩) (fun ρ E h => h)
set_option maxHeartbeats 4000000 in
theorem kL_save (σ : Sg) (k : Int32) (cd val : Int32) (po px : Sg → Prop) (hC : Ct yX6_save cX6_save mX6_save 7 8 48 NN false σ [.ref 0, .int k] NN (oX cd po val) (z1 px cd eI)) : CtH yL_save cL_save mL_save 9 8 48 NN false σ [.ref 0, .int k] NN (wX cd po px (av1 kI cd val)) XF := by
  refine ctH_of (ls0 := [some (.ref 0), some (.int k), none]) 1 (by decide +kernel) rfl (ndR (ndI nd0)) rfl (Nat.le_of_ble_eq_true rfl) (fun K => ?_)
  refine aw_aload0 dL_save_0 ?_
  refine aw_iload1 dL_save_1 ?_
  refine aw_callV (As := [.int k]) hC dL_save_2 vl_L_94 rfl (by decide) (Rm1 (by decide)) (Nat.le_of_ble_eq_true rfl) (fun σ2 r h => ?_) (fun σ2 E h => ?_)
  · obtain ⟨v, rfl, hcd, hpo, rfl⟩ := h
    refine (?_ : AW K yL_save.cls cL_save mL_save 9 8 48 _ NN none σ2 (0 + 8) (0 + 48) 5 _ [.int val])
    refine aw_i2l dL_save_5 ?_
    exact aw_lret dL_save_6 rfl (by decide) (wX1_0 hcd hpo)
  · obtain ⟨hd, h⟩ := h
    obtain ⟨hcd, rfl⟩ := h
    refine ax_catch (x := ⟨0, 6, 7, 34⟩) (pre := []) rfl (fun y hy => absurd hy List.not_mem_nil) (by decide) (by decide) cl_L_34 ca_eI (fun q => ?_)
    refine aw_astore2E dL_save_7 (by decide) rfl ?_
    refine aw_ldc2 dL_save_8 kl_L_36 ?_
    exact aw_lret dL_save_11 rfl (by decide) (wX1_1 hcd hd)
theorem qL_save {σ : Sg} {s : AS} (hI : CI σ s) (k : Int32) : CtH yL_save cL_save mL_save 9 8 48 NN false σ [.ref 0, .int k] NN (rL fun τ y0 => CI τ (aSave s k) ∧ vSave s k = y0) XF :=
  (kL_save σ k _ _ _ _ (q6_save hI k)).mono (fun ρ r ⟨v, e, h1, h2⟩ => ⟨v, e, h2.elim (fun z => by rw [aSave, if_pos z.1]; exact z.2) (fun z => by rw [aSave, if_neg z.1]; exact z.2), h1⟩) (fun ρ E h => h)
set_option maxHeartbeats 4000000 in
theorem kL_restore (σ : Sg) (k : Int32) (cd val : Int32) (po px : Sg → Prop) (hC : Ct yX6_restore cX6_restore mX6_restore 7 8 48 NN false σ [.ref 0, .int k] NN (oX cd po val) (z2 px cd eI eS)) : CtH yL_restore cL_restore mL_restore 9 8 48 NN false σ [.ref 0, .int k] NN (wX cd po px (av2 kI kS_ cd val)) XF := by
  refine ctH_of (ls0 := [some (.ref 0), some (.int k), none]) 1 (by decide +kernel) rfl (ndR (ndI nd0)) rfl (Nat.le_of_ble_eq_true rfl) (fun K => ?_)
  refine aw_aload0 dL_restore_0 ?_
  refine aw_iload1 dL_restore_1 ?_
  refine aw_callV (As := [.int k]) hC dL_restore_2 vl_L_97 rfl (by decide) (Rm1 (by decide)) (Nat.le_of_ble_eq_true rfl) (fun σ2 r h => ?_) (fun σ2 E h => ?_)
  · obtain ⟨v, rfl, hcd, hpo, rfl⟩ := h
    refine (?_ : AW K yL_restore.cls cL_restore mL_restore 9 8 48 _ NN none σ2 (0 + 8) (0 + 48) 5 _ [.int val])
    refine aw_i2l dL_restore_5 ?_
    exact aw_lret dL_restore_6 rfl (by decide) (wX2_0 hcd hpo)
  · obtain ⟨hd, h⟩ := h
    rcases h with ⟨hcd, rfl⟩ | ⟨hcd, rfl⟩
    · refine ax_catch (x := ⟨0, 6, 7, 34⟩) (pre := []) rfl (fun y hy => absurd hy List.not_mem_nil) (by decide) (by decide) cl_L_34 ca_eI (fun q => ?_)
      refine aw_astore2E dL_restore_7 (by decide) rfl ?_
      refine aw_ldc2 dL_restore_8 kl_L_36 ?_
      exact aw_lret dL_restore_11 rfl (by decide) (wX2_1 hcd hd)
    · refine ax_catch (x := ⟨0, 6, 12, 19⟩) (pre := [⟨0, 6, 7, 34⟩]) rfl (List.forall_mem_cons.mpr ⟨⟨by decide, eI, ex_eI, by decide, cl_L_34⟩, fun y hy => absurd hy List.not_mem_nil⟩) (by decide) (by decide) cl_L_19 ca_eS (fun q => ?_)
      refine aw_astore2E dL_restore_12 (by decide) rfl ?_
      refine aw_ldc2 dL_restore_13 kl_L_21 ?_
      exact aw_lret dL_restore_16 rfl (by decide) (wX2_2 hcd hd)
theorem qL_restore {σ : Sg} {s : AS} (hI : CI σ s) (k : Int32) : CtH yL_restore cL_restore mL_restore 9 8 48 NN false σ [.ref 0, .int k] NN (rL fun τ y0 => CI τ (aRestore s k) ∧ vRestore s k = y0) XF :=
  (kL_restore σ k _ _ _ _ (q6_restore hI k)).mono (fun ρ r ⟨v, e, h1, h2⟩ => ⟨v, e, h2.elim (fun z => by rw [aRestore, if_pos z.1]; exact z.2) (fun z => by rw [aRestore, if_neg z.1]; exact z.2), h1⟩) (fun ρ E h => h)
