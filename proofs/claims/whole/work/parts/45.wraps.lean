/-! the law: its wrappers -/
def wX (σ : Sg) (cd : Int32) (po : Sg → Prop) (val : Int32) : PT := rI fun σ' v => cd = v ∧ ((cd = 0 ∧ ∃ τ, po τ ∧ sL τ 396 0 val.toInt64 = σ') ∨ (¬ cd = 0 ∧ DG σ σ'))
theorem wX_0 {σ τ : Sg} {cd val : Int32} {po : Sg → Prop} (h : cd = 0) (hp : po τ) : wX σ cd po val (sL τ 396 0 val.toInt64) (some (.int 0)) := ⟨_, rfl, h, Or.inl ⟨h, τ, hp, rfl⟩⟩
theorem wX_1 {σ τ : Sg} {cd val k : Int32} {po : Sg → Prop} (h : cd = k) (hk : ¬ k = 0) (hd : DG σ τ) : wX σ cd po val τ (some (.int k)) := ⟨_, rfl, h, Or.inr ⟨by rw [h]; exact hk, hd⟩⟩
set_option maxHeartbeats 4000000 in
theorem kL_append (σ : Sg) (p0 : Int32) (cd val : Int32) (po : Sg → Prop) (hC : Ct yX6_append cX6_append mX6_append 7 8 48 NN false σ [.ref 0, .int p0] NN (oX cd po val) (x2 σ cd eA eS)) : CtH yL_append cL_append mL_append 9 8 48 NN false σ [.ref 0, .int p0, .ref 396] NN (wX σ cd po val) XF := by
  refine ctH_of (ls0 := [some (.ref 0), some (.int p0), some (.ref 396), none]) 1 (by decide +kernel) rfl (ndR (ndI (ndR nd0))) rfl (Nat.le_of_ble_eq_true rfl) (fun K => ?_)
  refine aw_aload2 dL_append_0 ?_
  refine aw_iconst (v := 0) dL_append_1 (by decide) ?_
  refine aw_aload0 dL_append_2 ?_
  refine aw_iload1 dL_append_3 ?_
  refine aw_callV (As := [.int p0]) hC dL_append_4 vl_L_7 rfl (by decide) (Rm1 (by decide)) (Nat.le_of_ble_eq_true rfl) (fun σ2 r h => ?_) (fun σ2 E h => ?_)
  · obtain ⟨v, rfl, hcd, hpo, rfl⟩ := h
    refine (?_ : AW K yL_append.cls cL_append mL_append 9 8 48 _ NN none σ2 (0 + 8) (0 + 48) 7 _ [.int val, .int 0, .ref 396])
    refine aw_i2l dL_append_7 ?_
    refine aw_last (j := 0) dL_append_8 rfl (by decide) rfl (by decide) ?_
    refine aw_goto (tgt := 18) dL_append_9 (by decide) ?_
    refine aw_iconst (v := 0) dL_append_18 (by decide) ?_
    exact aw_iret dL_append_19 rfl (by decide) (wX_0 hcd hpo)
  · obtain ⟨hd, h⟩ := h
    rcases h with ⟨hcd, rfl⟩ | ⟨hcd, rfl⟩
    · refine ax_catch (x := ⟨0, 9, 12, 13⟩) (pre := []) rfl (fun y hy => absurd hy List.not_mem_nil) (by decide) (by decide) cl_L_13 ca_eA (fun q => ?_)
      refine aw_astore3E dL_append_12 (by decide) rfl ?_
      refine aw_iconst (v := 1) dL_append_13 (by decide) ?_
      exact aw_iret dL_append_14 rfl (by decide) (wX_1 hcd (by decide) hd)
    · refine ax_catch (x := ⟨0, 9, 15, 15⟩) (pre := [⟨0, 9, 12, 13⟩]) rfl (List.forall_mem_cons.mpr ⟨⟨by decide, eA, ex_eA, by decide, cl_L_13⟩, fun y hy => absurd hy List.not_mem_nil⟩) (by decide) (by decide) cl_L_15 ca_eS (fun q => ?_)
      refine aw_astore3E dL_append_15 (by decide) rfl ?_
      refine aw_iconst (v := 2) dL_append_16 (by decide) ?_
      exact aw_iret dL_append_17 rfl (by decide) (wX_1 hcd (by decide) hd)
set_option maxHeartbeats 4000000 in
theorem kL_load (σ : Sg)  (cd val : Int32) (po : Sg → Prop) (hC : Ct yX6_load cX6_load mX6_load 7 8 48 NN false σ [.ref 0] NN (oX cd po val) (x1 σ cd eS)) : CtH yL_load cL_load mL_load 9 8 48 NN false σ [.ref 0, .ref 396] NN (wX σ cd po val) XF := by
  refine ctH_of (ls0 := [some (.ref 0), some (.ref 396), none]) 1 (by decide +kernel) rfl (ndR (ndR nd0)) rfl (Nat.le_of_ble_eq_true rfl) (fun K => ?_)
  refine aw_aload1 dL_load_0 ?_
  refine aw_iconst (v := 0) dL_load_1 (by decide) ?_
  refine aw_aload0 dL_load_2 ?_
  refine aw_callV (As := []) hC dL_load_3 vl_L_17 rfl (by decide) (Rm1 (by decide)) (Nat.le_of_ble_eq_true rfl) (fun σ2 r h => ?_) (fun σ2 E h => ?_)
  · obtain ⟨v, rfl, hcd, hpo, rfl⟩ := h
    refine (?_ : AW K yL_load.cls cL_load mL_load 9 8 48 _ NN none σ2 (0 + 8) (0 + 48) 6 _ [.int val, .int 0, .ref 396])
    refine aw_i2l dL_load_6 ?_
    refine aw_last (j := 0) dL_load_7 rfl (by decide) rfl (by decide) ?_
    refine aw_goto (tgt := 14) dL_load_8 (by decide) ?_
    refine aw_iconst (v := 0) dL_load_14 (by decide) ?_
    exact aw_iret dL_load_15 rfl (by decide) (wX_0 hcd hpo)
  · obtain ⟨hd, h⟩ := h
    obtain ⟨hcd, rfl⟩ := h
    refine ax_catch (x := ⟨0, 8, 11, 15⟩) (pre := []) rfl (fun y hy => absurd hy List.not_mem_nil) (by decide) (by decide) cl_L_15 ca_eS (fun q => ?_)
    refine aw_astore2E dL_load_11 (by decide) rfl ?_
    refine aw_iconst (v := 1) dL_load_12 (by decide) ?_
    exact aw_iret dL_load_13 rfl (by decide) (wX_1 hcd (by decide) hd)
set_option maxHeartbeats 4000000 in
theorem kL_about (σ : Sg) (p0 : Int32) (cd val : Int32) (po : Sg → Prop) (hC : Ct yX6_about cX6_about mX6_about 7 8 48 NN false σ [.ref 0, .int p0] NN (oX cd po val) (x1 σ cd eA)) : CtH yL_about cL_about mL_about 9 8 48 NN false σ [.ref 0, .int p0, .ref 396] NN (wX σ cd po val) XF := by
  refine ctH_of (ls0 := [some (.ref 0), some (.int p0), some (.ref 396), none]) 1 (by decide +kernel) rfl (ndR (ndI (ndR nd0))) rfl (Nat.le_of_ble_eq_true rfl) (fun K => ?_)
  refine aw_aload2 dL_about_0 ?_
  refine aw_iconst (v := 0) dL_about_1 (by decide) ?_
  refine aw_aload0 dL_about_2 ?_
  refine aw_iload1 dL_about_3 ?_
  refine aw_callV (As := [.int p0]) hC dL_about_4 vl_L_21 rfl (by decide) (Rm1 (by decide)) (Nat.le_of_ble_eq_true rfl) (fun σ2 r h => ?_) (fun σ2 E h => ?_)
  · obtain ⟨v, rfl, hcd, hpo, rfl⟩ := h
    refine (?_ : AW K yL_about.cls cL_about mL_about 9 8 48 _ NN none σ2 (0 + 8) (0 + 48) 7 _ [.int val, .int 0, .ref 396])
    refine aw_i2l dL_about_7 ?_
    refine aw_last (j := 0) dL_about_8 rfl (by decide) rfl (by decide) ?_
    refine aw_goto (tgt := 15) dL_about_9 (by decide) ?_
    refine aw_iconst (v := 0) dL_about_15 (by decide) ?_
    exact aw_iret dL_about_16 rfl (by decide) (wX_0 hcd hpo)
  · obtain ⟨hd, h⟩ := h
    obtain ⟨hcd, rfl⟩ := h
    refine ax_catch (x := ⟨0, 9, 12, 13⟩) (pre := []) rfl (fun y hy => absurd hy List.not_mem_nil) (by decide) (by decide) cl_L_13 ca_eA (fun q => ?_)
    refine aw_astore3E dL_about_12 (by decide) rfl ?_
    refine aw_iconst (v := 1) dL_about_13 (by decide) ?_
    exact aw_iret dL_about_14 rfl (by decide) (wX_1 hcd (by decide) hd)
set_option maxHeartbeats 4000000 in
theorem kL_room (σ : Sg) (p0 : Int32) (p1 : Int32) (cd val : Int32) (po : Sg → Prop) (hC : Ct yX6_room cX6_room mX6_room 7 8 48 NN false σ [.ref 0, .int p0, .int p1] NN (oX cd po val) (x2 σ cd eI eA)) : CtH yL_room cL_room mL_room 9 8 48 NN false σ [.ref 0, .int p0, .int p1, .ref 396] NN (wX σ cd po val) XF := by
  refine ctH_of (ls0 := [some (.ref 0), some (.int p0), some (.int p1), some (.ref 396), none]) 1 (by decide +kernel) rfl (ndR (ndI (ndI (ndR nd0)))) rfl (Nat.le_of_ble_eq_true rfl) (fun K => ?_)
  refine aw_aload3 dL_room_0 ?_
  refine aw_iconst (v := 0) dL_room_1 (by decide) ?_
  refine aw_aload0 dL_room_2 ?_
  refine aw_iload1 dL_room_3 ?_
  refine aw_iload2 dL_room_4 ?_
  refine aw_callV (As := [.int p0, .int p1]) hC dL_room_5 vl_L_24 rfl (by decide) (Rm1 (by decide)) (Nat.le_of_ble_eq_true rfl) (fun σ2 r h => ?_) (fun σ2 E h => ?_)
  · obtain ⟨v, rfl, hcd, hpo, rfl⟩ := h
    refine (?_ : AW K yL_room.cls cL_room mL_room 9 8 48 _ NN none σ2 (0 + 8) (0 + 48) 8 _ [.int val, .int 0, .ref 396])
    refine aw_i2l dL_room_8 ?_
    refine aw_last (j := 0) dL_room_9 rfl (by decide) rfl (by decide) ?_
    refine aw_goto (tgt := 21) dL_room_10 (by decide) ?_
    refine aw_iconst (v := 0) dL_room_21 (by decide) ?_
    exact aw_iret dL_room_22 rfl (by decide) (wX_0 hcd hpo)
  · obtain ⟨hd, h⟩ := h
    rcases h with ⟨hcd, rfl⟩ | ⟨hcd, rfl⟩
    · refine ax_catch (x := ⟨0, 10, 13, 28⟩) (pre := []) rfl (fun y hy => absurd hy List.not_mem_nil) (by decide) (by decide) cl_L_28 ca_eI (fun q => ?_)
      refine aw_astore4E dL_room_13 (by decide) rfl ?_
      refine aw_iconst (v := 1) dL_room_15 (by decide) ?_
      exact aw_iret dL_room_16 rfl (by decide) (wX_1 hcd (by decide) hd)
    · refine ax_catch (x := ⟨0, 10, 17, 13⟩) (pre := [⟨0, 10, 13, 28⟩]) rfl (List.forall_mem_cons.mpr ⟨⟨by decide, eI, ex_eI, by decide, cl_L_28⟩, fun y hy => absurd hy List.not_mem_nil⟩) (by decide) (by decide) cl_L_13 ca_eA (fun q => ?_)
      refine aw_astore4E dL_room_17 (by decide) rfl ?_
      refine aw_iconst (v := 2) dL_room_19 (by decide) ?_
      exact aw_iret dL_room_20 rfl (by decide) (wX_1 hcd (by decide) hd)
set_option maxHeartbeats 4000000 in
theorem kL_owes (σ : Sg) (p0 : Int32) (cd val : Int32) (po : Sg → Prop) (hC : Ct yX6_owes cX6_owes mX6_owes 7 8 48 NN false σ [.ref 0, .int p0] NN (oX cd po val) (x1 σ cd eI)) : CtH yL_owes cL_owes mL_owes 9 8 48 NN false σ [.ref 0, .int p0, .ref 396] NN (wX σ cd po val) XF := by
  refine ctH_of (ls0 := [some (.ref 0), some (.int p0), some (.ref 396), none]) 1 (by decide +kernel) rfl (ndR (ndI (ndR nd0))) rfl (Nat.le_of_ble_eq_true rfl) (fun K => ?_)
  refine aw_aload2 dL_owes_0 ?_
  refine aw_iconst (v := 0) dL_owes_1 (by decide) ?_
  refine aw_aload0 dL_owes_2 ?_
  refine aw_iload1 dL_owes_3 ?_
  refine aw_callV (As := [.int p0]) hC dL_owes_4 vl_L_30 rfl (by decide) (Rm1 (by decide)) (Nat.le_of_ble_eq_true rfl) (fun σ2 r h => ?_) (fun σ2 E h => ?_)
  · obtain ⟨v, rfl, hcd, hpo, rfl⟩ := h
    refine (?_ : AW K yL_owes.cls cL_owes mL_owes 9 8 48 _ NN none σ2 (0 + 8) (0 + 48) 7 _ [.int val, .int 0, .ref 396])
    refine aw_i2l dL_owes_7 ?_
    refine aw_last (j := 0) dL_owes_8 rfl (by decide) rfl (by decide) ?_
    refine aw_goto (tgt := 15) dL_owes_9 (by decide) ?_
    refine aw_iconst (v := 0) dL_owes_15 (by decide) ?_
    exact aw_iret dL_owes_16 rfl (by decide) (wX_0 hcd hpo)
  · obtain ⟨hd, h⟩ := h
    obtain ⟨hcd, rfl⟩ := h
    refine ax_catch (x := ⟨0, 9, 12, 28⟩) (pre := []) rfl (fun y hy => absurd hy List.not_mem_nil) (by decide) (by decide) cl_L_28 ca_eI (fun q => ?_)
    refine aw_astore3E dL_owes_12 (by decide) rfl ?_
    refine aw_iconst (v := 1) dL_owes_13 (by decide) ?_
    exact aw_iret dL_owes_14 rfl (by decide) (wX_1 hcd (by decide) hd)
set_option maxHeartbeats 4000000 in
theorem kL_booking (σ : Sg) (p0 : Int32) (p1 : Int32) (cd val : Int32) (po : Sg → Prop) (hC : Ct yX6_booking cX6_booking mX6_booking 7 8 48 NN false σ [.ref 0, .int p0, .int p1] NN (oX cd po val) (x2 σ cd eI eA)) : CtH yL_booking cL_booking mL_booking 9 8 48 NN false σ [.ref 0, .int p0, .int p1, .ref 396] NN (wX σ cd po val) XF := by
  refine ctH_of (ls0 := [some (.ref 0), some (.int p0), some (.int p1), some (.ref 396), none]) 1 (by decide +kernel) rfl (ndR (ndI (ndI (ndR nd0)))) rfl (Nat.le_of_ble_eq_true rfl) (fun K => ?_)
  refine aw_aload3 dL_booking_0 ?_
  refine aw_iconst (v := 0) dL_booking_1 (by decide) ?_
  refine aw_aload0 dL_booking_2 ?_
  refine aw_iload1 dL_booking_3 ?_
  refine aw_iload2 dL_booking_4 ?_
  refine aw_callV (As := [.int p0, .int p1]) hC dL_booking_5 vl_L_33 rfl (by decide) (Rm1 (by decide)) (Nat.le_of_ble_eq_true rfl) (fun σ2 r h => ?_) (fun σ2 E h => ?_)
  · obtain ⟨v, rfl, hcd, hpo, rfl⟩ := h
    refine (?_ : AW K yL_booking.cls cL_booking mL_booking 9 8 48 _ NN none σ2 (0 + 8) (0 + 48) 8 _ [.int val, .int 0, .ref 396])
    refine aw_i2l dL_booking_8 ?_
    refine aw_last (j := 0) dL_booking_9 rfl (by decide) rfl (by decide) ?_
    refine aw_goto (tgt := 21) dL_booking_10 (by decide) ?_
    refine aw_iconst (v := 0) dL_booking_21 (by decide) ?_
    exact aw_iret dL_booking_22 rfl (by decide) (wX_0 hcd hpo)
  · obtain ⟨hd, h⟩ := h
    rcases h with ⟨hcd, rfl⟩ | ⟨hcd, rfl⟩
    · refine ax_catch (x := ⟨0, 10, 13, 28⟩) (pre := []) rfl (fun y hy => absurd hy List.not_mem_nil) (by decide) (by decide) cl_L_28 ca_eI (fun q => ?_)
      refine aw_astore4E dL_booking_13 (by decide) rfl ?_
      refine aw_iconst (v := 1) dL_booking_15 (by decide) ?_
      exact aw_iret dL_booking_16 rfl (by decide) (wX_1 hcd (by decide) hd)
    · refine ax_catch (x := ⟨0, 10, 17, 13⟩) (pre := [⟨0, 10, 13, 28⟩]) rfl (List.forall_mem_cons.mpr ⟨⟨by decide, eI, ex_eI, by decide, cl_L_28⟩, fun y hy => absurd hy List.not_mem_nil⟩) (by decide) (by decide) cl_L_13 ca_eA (fun q => ?_)
      refine aw_astore4E dL_booking_17 (by decide) rfl ?_
      refine aw_iconst (v := 2) dL_booking_19 (by decide) ?_
      exact aw_iret dL_booking_20 rfl (by decide) (wX_1 hcd (by decide) hd)
set_option maxHeartbeats 4000000 in
theorem kL_addRoom (σ : Sg) (p0 : Int32) (p1 : Int32) (p2 : Int32) (p3 : Int32) (cd val : Int32) (po : Sg → Prop) (hC : Ct yX6_addRoom cX6_addRoom mX6_addRoom 7 8 48 NN false σ [.ref 0, .int p0, .int p1, .int p2, .int p3] NN (oX cd po val) (x2 σ cd eA eS)) : CtH yL_addRoom cL_addRoom mL_addRoom 9 8 48 NN false σ [.ref 0, .int p0, .int p1, .int p2, .int p3, .ref 396] NN (wX σ cd po val) XF := by
  refine ctH_of (ls0 := [some (.ref 0), some (.int p0), some (.int p1), some (.int p2), some (.int p3), some (.ref 396), none]) 1 (by decide +kernel) rfl (ndR (ndI (ndI (ndI (ndI (ndR nd0)))))) rfl (Nat.le_of_ble_eq_true rfl) (fun K => ?_)
  refine aw_aload5 dL_addRoom_0 ?_
  refine aw_iconst (v := 0) dL_addRoom_2 (by decide) ?_
  refine aw_aload0 dL_addRoom_3 ?_
  refine aw_iload1 dL_addRoom_4 ?_
  refine aw_iload2 dL_addRoom_5 ?_
  refine aw_iload3 dL_addRoom_6 ?_
  refine aw_iload4 dL_addRoom_7 ?_
  refine aw_callV (As := [.int p0, .int p1, .int p2, .int p3]) hC dL_addRoom_9 vl_L_36 rfl (by decide) (Rm1 (by decide)) (Nat.le_of_ble_eq_true rfl) (fun σ2 r h => ?_) (fun σ2 E h => ?_)
  · obtain ⟨v, rfl, hcd, hpo, rfl⟩ := h
    refine (?_ : AW K yL_addRoom.cls cL_addRoom mL_addRoom 9 8 48 _ NN none σ2 (0 + 8) (0 + 48) 12 _ [.int val, .int 0, .ref 396])
    refine aw_i2l dL_addRoom_12 ?_
    refine aw_last (j := 0) dL_addRoom_13 rfl (by decide) rfl (by decide) ?_
    refine aw_goto (tgt := 25) dL_addRoom_14 (by decide) ?_
    refine aw_iconst (v := 0) dL_addRoom_25 (by decide) ?_
    exact aw_iret dL_addRoom_26 rfl (by decide) (wX_0 hcd hpo)
  · obtain ⟨hd, h⟩ := h
    rcases h with ⟨hcd, rfl⟩ | ⟨hcd, rfl⟩
    · refine ax_catch (x := ⟨0, 14, 17, 13⟩) (pre := []) rfl (fun y hy => absurd hy List.not_mem_nil) (by decide) (by decide) cl_L_13 ca_eA (fun q => ?_)
      refine aw_astore6E dL_addRoom_17 (by decide) rfl ?_
      refine aw_iconst (v := 1) dL_addRoom_19 (by decide) ?_
      exact aw_iret dL_addRoom_20 rfl (by decide) (wX_1 hcd (by decide) hd)
    · refine ax_catch (x := ⟨0, 14, 21, 15⟩) (pre := [⟨0, 14, 17, 13⟩]) rfl (List.forall_mem_cons.mpr ⟨⟨by decide, eA, ex_eA, by decide, cl_L_13⟩, fun y hy => absurd hy List.not_mem_nil⟩) (by decide) (by decide) cl_L_15 ca_eS (fun q => ?_)
      refine aw_astore6E dL_addRoom_21 (by decide) rfl ?_
      refine aw_iconst (v := 2) dL_addRoom_23 (by decide) ?_
      exact aw_iret dL_addRoom_24 rfl (by decide) (wX_1 hcd (by decide) hd)
set_option maxHeartbeats 4000000 in
theorem kL_addGroup (σ : Sg)  (cd val : Int32) (po : Sg → Prop) (hC : Ct yX6_addGroup cX6_addGroup mX6_addGroup 7 8 48 NN false σ [.ref 0] NN (oX cd po val) (x1 σ cd eS)) : CtH yL_addGroup cL_addGroup mL_addGroup 9 8 48 NN false σ [.ref 0, .ref 396] NN (wX σ cd po val) XF := by
  refine ctH_of (ls0 := [some (.ref 0), some (.ref 396), none]) 1 (by decide +kernel) rfl (ndR (ndR nd0)) rfl (Nat.le_of_ble_eq_true rfl) (fun K => ?_)
  refine aw_aload1 dL_addGroup_0 ?_
  refine aw_iconst (v := 0) dL_addGroup_1 (by decide) ?_
  refine aw_aload0 dL_addGroup_2 ?_
  refine aw_callV (As := []) hC dL_addGroup_3 vl_L_40 rfl (by decide) (Rm1 (by decide)) (Nat.le_of_ble_eq_true rfl) (fun σ2 r h => ?_) (fun σ2 E h => ?_)
  · obtain ⟨v, rfl, hcd, hpo, rfl⟩ := h
    refine (?_ : AW K yL_addGroup.cls cL_addGroup mL_addGroup 9 8 48 _ NN none σ2 (0 + 8) (0 + 48) 6 _ [.int val, .int 0, .ref 396])
    refine aw_i2l dL_addGroup_6 ?_
    refine aw_last (j := 0) dL_addGroup_7 rfl (by decide) rfl (by decide) ?_
    refine aw_goto (tgt := 14) dL_addGroup_8 (by decide) ?_
    refine aw_iconst (v := 0) dL_addGroup_14 (by decide) ?_
    exact aw_iret dL_addGroup_15 rfl (by decide) (wX_0 hcd hpo)
  · obtain ⟨hd, h⟩ := h
    obtain ⟨hcd, rfl⟩ := h
    refine ax_catch (x := ⟨0, 8, 11, 15⟩) (pre := []) rfl (fun y hy => absurd hy List.not_mem_nil) (by decide) (by decide) cl_L_15 ca_eS (fun q => ?_)
    refine aw_astore2E dL_addGroup_11 (by decide) rfl ?_
    refine aw_iconst (v := 1) dL_addGroup_12 (by decide) ?_
    exact aw_iret dL_addGroup_13 rfl (by decide) (wX_1 hcd (by decide) hd)
set_option maxHeartbeats 4000000 in
theorem kL_book (σ : Sg) (p0 : Int32) (p1 : Int32) (p2 : Int32) (p3 : Int32) (p4 : Int32) (cd val : Int32) (po : Sg → Prop) (hC : Ct yX6_book cX6_book mX6_book 8 8 48 NN false σ [.ref 0, .int p0, .int p1, .int p2, .int p3, .int p4] NN (oX cd po val) (x3 σ cd eI eA eS)) : CtH yL_book cL_book mL_book 9 8 48 NN false σ [.ref 0, .int p0, .int p1, .int p2, .int p3, .int p4, .ref 396] NN (wX σ cd po val) XF := by
  refine ctH_of (ls0 := [some (.ref 0), some (.int p0), some (.int p1), some (.int p2), some (.int p3), some (.int p4), some (.ref 396), none]) 1 (by decide +kernel) rfl (ndR (ndI (ndI (ndI (ndI (ndI (ndR nd0))))))) rfl (Nat.le_of_ble_eq_true rfl) (fun K => ?_)
  refine aw_aload6 dL_book_0 ?_
  refine aw_iconst (v := 0) dL_book_2 (by decide) ?_
  refine aw_aload0 dL_book_3 ?_
  refine aw_iload1 dL_book_4 ?_
  refine aw_iload2 dL_book_5 ?_
  refine aw_iload3 dL_book_6 ?_
  refine aw_iload4 dL_book_7 ?_
  refine aw_iload5 dL_book_9 ?_
  refine aw_callV (As := [.int p0, .int p1, .int p2, .int p3, .int p4]) hC dL_book_11 vl_L_43 rfl (by decide) (Rm1 (by decide)) (Nat.le_of_ble_eq_true rfl) (fun σ2 r h => ?_) (fun σ2 E h => ?_)
  · obtain ⟨v, rfl, hcd, hpo, rfl⟩ := h
    refine (?_ : AW K yL_book.cls cL_book mL_book 9 8 48 _ NN none σ2 (0 + 8) (0 + 48) 14 _ [.int val, .int 0, .ref 396])
    refine aw_i2l dL_book_14 ?_
    refine aw_last (j := 0) dL_book_15 rfl (by decide) rfl (by decide) ?_
    refine aw_goto (tgt := 31) dL_book_16 (by decide) ?_
    refine aw_iconst (v := 0) dL_book_31 (by decide) ?_
    exact aw_iret dL_book_32 rfl (by decide) (wX_0 hcd hpo)
  · obtain ⟨hd, h⟩ := h
    rcases h with ⟨hcd, rfl⟩ | ⟨hcd, rfl⟩ | ⟨hcd, rfl⟩
    · refine ax_catch (x := ⟨0, 16, 19, 28⟩) (pre := []) rfl (fun y hy => absurd hy List.not_mem_nil) (by decide) (by decide) cl_L_28 ca_eI (fun q => ?_)
      refine aw_astore7E dL_book_19 (by decide) rfl ?_
      refine aw_iconst (v := 1) dL_book_21 (by decide) ?_
      exact aw_iret dL_book_22 rfl (by decide) (wX_1 hcd (by decide) hd)
    · refine ax_catch (x := ⟨0, 16, 23, 13⟩) (pre := [⟨0, 16, 19, 28⟩]) rfl (List.forall_mem_cons.mpr ⟨⟨by decide, eI, ex_eI, by decide, cl_L_28⟩, fun y hy => absurd hy List.not_mem_nil⟩) (by decide) (by decide) cl_L_13 ca_eA (fun q => ?_)
      refine aw_astore7E dL_book_23 (by decide) rfl ?_
      refine aw_iconst (v := 2) dL_book_25 (by decide) ?_
      exact aw_iret dL_book_26 rfl (by decide) (wX_1 hcd (by decide) hd)
    · refine ax_catch (x := ⟨0, 16, 27, 15⟩) (pre := [⟨0, 16, 19, 28⟩, ⟨0, 16, 23, 13⟩]) rfl (List.forall_mem_cons.mpr ⟨⟨by decide, eI, ex_eI, by decide, cl_L_28⟩, List.forall_mem_cons.mpr ⟨⟨by decide, eA, ex_eA, by decide, cl_L_13⟩, fun y hy => absurd hy List.not_mem_nil⟩⟩) (by decide) (by decide) cl_L_15 ca_eS (fun q => ?_)
      refine aw_astore7E dL_book_27 (by decide) rfl ?_
      refine aw_iconst (v := 3) dL_book_29 (by decide) ?_
      exact aw_iret dL_book_30 rfl (by decide) (wX_1 hcd (by decide) hd)
set_option maxHeartbeats 4000000 in
theorem kL_cancel (σ : Sg) (p0 : Int32) (cd val : Int32) (po : Sg → Prop) (hC : Ct yX6_cancel cX6_cancel mX6_cancel 7 8 48 NN false σ [.ref 0, .int p0] NN (oX cd po val) (x2 σ cd eI eS)) : CtH yL_cancel cL_cancel mL_cancel 9 8 48 NN false σ [.ref 0, .int p0, .ref 396] NN (wX σ cd po val) XF := by
  refine ctH_of (ls0 := [some (.ref 0), some (.int p0), some (.ref 396), none]) 1 (by decide +kernel) rfl (ndR (ndI (ndR nd0))) rfl (Nat.le_of_ble_eq_true rfl) (fun K => ?_)
  refine aw_aload2 dL_cancel_0 ?_
  refine aw_iconst (v := 0) dL_cancel_1 (by decide) ?_
  refine aw_aload0 dL_cancel_2 ?_
  refine aw_iload1 dL_cancel_3 ?_
  refine aw_callV (As := [.int p0]) hC dL_cancel_4 vl_L_47 rfl (by decide) (Rm1 (by decide)) (Nat.le_of_ble_eq_true rfl) (fun σ2 r h => ?_) (fun σ2 E h => ?_)
  · obtain ⟨v, rfl, hcd, hpo, rfl⟩ := h
    refine (?_ : AW K yL_cancel.cls cL_cancel mL_cancel 9 8 48 _ NN none σ2 (0 + 8) (0 + 48) 7 _ [.int val, .int 0, .ref 396])
    refine aw_i2l dL_cancel_7 ?_
    refine aw_last (j := 0) dL_cancel_8 rfl (by decide) rfl (by decide) ?_
    refine aw_goto (tgt := 18) dL_cancel_9 (by decide) ?_
    refine aw_iconst (v := 0) dL_cancel_18 (by decide) ?_
    exact aw_iret dL_cancel_19 rfl (by decide) (wX_0 hcd hpo)
  · obtain ⟨hd, h⟩ := h
    rcases h with ⟨hcd, rfl⟩ | ⟨hcd, rfl⟩
    · refine ax_catch (x := ⟨0, 9, 12, 28⟩) (pre := []) rfl (fun y hy => absurd hy List.not_mem_nil) (by decide) (by decide) cl_L_28 ca_eI (fun q => ?_)
      refine aw_astore3E dL_cancel_12 (by decide) rfl ?_
      refine aw_iconst (v := 1) dL_cancel_13 (by decide) ?_
      exact aw_iret dL_cancel_14 rfl (by decide) (wX_1 hcd (by decide) hd)
    · refine ax_catch (x := ⟨0, 9, 15, 15⟩) (pre := [⟨0, 9, 12, 28⟩]) rfl (List.forall_mem_cons.mpr ⟨⟨by decide, eI, ex_eI, by decide, cl_L_28⟩, fun y hy => absurd hy List.not_mem_nil⟩) (by decide) (by decide) cl_L_15 ca_eS (fun q => ?_)
      refine aw_astore3E dL_cancel_15 (by decide) rfl ?_
      refine aw_iconst (v := 2) dL_cancel_16 (by decide) ?_
      exact aw_iret dL_cancel_17 rfl (by decide) (wX_1 hcd (by decide) hd)
set_option maxHeartbeats 4000000 in
theorem kL_prove (σ : Sg) (p0 : Int32) (p1 : Int32) (cd val : Int32) (po : Sg → Prop) (hC : Ct yX6_prove cX6_prove mX6_prove 7 8 48 NN false σ [.ref 0, .int p0, .int p1] NN (oX cd po val) (x2 σ cd eI eS)) : CtH yL_prove cL_prove mL_prove 9 8 48 NN false σ [.ref 0, .int p0, .int p1, .ref 396] NN (wX σ cd po val) XF := by
  refine ctH_of (ls0 := [some (.ref 0), some (.int p0), some (.int p1), some (.ref 396), none]) 1 (by decide +kernel) rfl (ndR (ndI (ndI (ndR nd0)))) rfl (Nat.le_of_ble_eq_true rfl) (fun K => ?_)
  refine aw_aload3 dL_prove_0 ?_
  refine aw_iconst (v := 0) dL_prove_1 (by decide) ?_
  refine aw_aload0 dL_prove_2 ?_
  refine aw_iload1 dL_prove_3 ?_
  refine aw_iload2 dL_prove_4 ?_
  refine aw_callV (As := [.int p0, .int p1]) hC dL_prove_5 vl_L_50 rfl (by decide) (Rm1 (by decide)) (Nat.le_of_ble_eq_true rfl) (fun σ2 r h => ?_) (fun σ2 E h => ?_)
  · obtain ⟨v, rfl, hcd, hpo, rfl⟩ := h
    refine (?_ : AW K yL_prove.cls cL_prove mL_prove 9 8 48 _ NN none σ2 (0 + 8) (0 + 48) 8 _ [.int val, .int 0, .ref 396])
    refine aw_i2l dL_prove_8 ?_
    refine aw_last (j := 0) dL_prove_9 rfl (by decide) rfl (by decide) ?_
    refine aw_goto (tgt := 21) dL_prove_10 (by decide) ?_
    refine aw_iconst (v := 0) dL_prove_21 (by decide) ?_
    exact aw_iret dL_prove_22 rfl (by decide) (wX_0 hcd hpo)
  · obtain ⟨hd, h⟩ := h
    rcases h with ⟨hcd, rfl⟩ | ⟨hcd, rfl⟩
    · refine ax_catch (x := ⟨0, 10, 13, 28⟩) (pre := []) rfl (fun y hy => absurd hy List.not_mem_nil) (by decide) (by decide) cl_L_28 ca_eI (fun q => ?_)
      refine aw_astore4E dL_prove_13 (by decide) rfl ?_
      refine aw_iconst (v := 1) dL_prove_15 (by decide) ?_
      exact aw_iret dL_prove_16 rfl (by decide) (wX_1 hcd (by decide) hd)
    · refine ax_catch (x := ⟨0, 10, 17, 15⟩) (pre := [⟨0, 10, 13, 28⟩]) rfl (List.forall_mem_cons.mpr ⟨⟨by decide, eI, ex_eI, by decide, cl_L_28⟩, fun y hy => absurd hy List.not_mem_nil⟩) (by decide) (by decide) cl_L_15 ca_eS (fun q => ?_)
      refine aw_astore4E dL_prove_17 (by decide) rfl ?_
      refine aw_iconst (v := 2) dL_prove_19 (by decide) ?_
      exact aw_iret dL_prove_20 rfl (by decide) (wX_1 hcd (by decide) hd)
set_option maxHeartbeats 4000000 in
theorem kL_outside (σ : Sg) (p0 : Int32) (cd val : Int32) (po : Sg → Prop) (hC : Ct yX6_outside cX6_outside mX6_outside 7 8 48 NN false σ [.ref 0, .int p0] NN (oX cd po val) (x1 σ cd eA)) : CtH yL_outside cL_outside mL_outside 9 8 48 NN false σ [.ref 0, .int p0, .ref 396] NN (wX σ cd po val) XF := by
  refine ctH_of (ls0 := [some (.ref 0), some (.int p0), some (.ref 396), none]) 1 (by decide +kernel) rfl (ndR (ndI (ndR nd0))) rfl (Nat.le_of_ble_eq_true rfl) (fun K => ?_)
  refine aw_aload2 dL_outside_0 ?_
  refine aw_iconst (v := 0) dL_outside_1 (by decide) ?_
  refine aw_aload0 dL_outside_2 ?_
  refine aw_iload1 dL_outside_3 ?_
  refine aw_callV (As := [.int p0]) hC dL_outside_4 vl_L_54 rfl (by decide) (Rm1 (by decide)) (Nat.le_of_ble_eq_true rfl) (fun σ2 r h => ?_) (fun σ2 E h => ?_)
  · obtain ⟨v, rfl, hcd, hpo, rfl⟩ := h
    refine (?_ : AW K yL_outside.cls cL_outside mL_outside 9 8 48 _ NN none σ2 (0 + 8) (0 + 48) 7 _ [.int val, .int 0, .ref 396])
    refine aw_i2l dL_outside_7 ?_
    refine aw_last (j := 0) dL_outside_8 rfl (by decide) rfl (by decide) ?_
    refine aw_goto (tgt := 15) dL_outside_9 (by decide) ?_
    refine aw_iconst (v := 0) dL_outside_15 (by decide) ?_
    exact aw_iret dL_outside_16 rfl (by decide) (wX_0 hcd hpo)
  · obtain ⟨hd, h⟩ := h
    obtain ⟨hcd, rfl⟩ := h
    refine ax_catch (x := ⟨0, 9, 12, 13⟩) (pre := []) rfl (fun y hy => absurd hy List.not_mem_nil) (by decide) (by decide) cl_L_13 ca_eA (fun q => ?_)
    refine aw_astore3E dL_outside_12 (by decide) rfl ?_
    refine aw_iconst (v := 1) dL_outside_13 (by decide) ?_
    exact aw_iret dL_outside_14 rfl (by decide) (wX_1 hcd (by decide) hd)
set_option maxHeartbeats 4000000 in
theorem kL_pay (σ : Sg) (p0 : Int32) (cd val : Int32) (po : Sg → Prop) (hC : Ct yX6_pay cX6_pay mX6_pay 7 8 48 NN false σ [.ref 0, .int p0] NN (oX cd po val) (x1 σ cd eI)) : CtH yL_pay cL_pay mL_pay 9 8 48 NN false σ [.ref 0, .int p0, .ref 396] NN (wX σ cd po val) XF := by
  refine ctH_of (ls0 := [some (.ref 0), some (.int p0), some (.ref 396), none]) 1 (by decide +kernel) rfl (ndR (ndI (ndR nd0))) rfl (Nat.le_of_ble_eq_true rfl) (fun K => ?_)
  refine aw_aload2 dL_pay_0 ?_
  refine aw_iconst (v := 0) dL_pay_1 (by decide) ?_
  refine aw_aload0 dL_pay_2 ?_
  refine aw_iload1 dL_pay_3 ?_
  refine aw_callV (As := [.int p0]) hC dL_pay_4 vl_L_57 rfl (by decide) (Rm1 (by decide)) (Nat.le_of_ble_eq_true rfl) (fun σ2 r h => ?_) (fun σ2 E h => ?_)
  · obtain ⟨v, rfl, hcd, hpo, rfl⟩ := h
    refine (?_ : AW K yL_pay.cls cL_pay mL_pay 9 8 48 _ NN none σ2 (0 + 8) (0 + 48) 7 _ [.int val, .int 0, .ref 396])
    refine aw_i2l dL_pay_7 ?_
    refine aw_last (j := 0) dL_pay_8 rfl (by decide) rfl (by decide) ?_
    refine aw_goto (tgt := 15) dL_pay_9 (by decide) ?_
    refine aw_iconst (v := 0) dL_pay_15 (by decide) ?_
    exact aw_iret dL_pay_16 rfl (by decide) (wX_0 hcd hpo)
  · obtain ⟨hd, h⟩ := h
    obtain ⟨hcd, rfl⟩ := h
    refine ax_catch (x := ⟨0, 9, 12, 28⟩) (pre := []) rfl (fun y hy => absurd hy List.not_mem_nil) (by decide) (by decide) cl_L_28 ca_eI (fun q => ?_)
    refine aw_astore3E dL_pay_12 (by decide) rfl ?_
    refine aw_iconst (v := 1) dL_pay_13 (by decide) ?_
    exact aw_iret dL_pay_14 rfl (by decide) (wX_1 hcd (by decide) hd)
set_option maxHeartbeats 4000000 in
theorem kL_pass (σ : Sg) (p0 : Int32) (cd val : Int32) (po : Sg → Prop) (hC : Ct yX6_pass cX6_pass mX6_pass 7 8 48 NN false σ [.ref 0, .int p0] NN (oX cd po val) (x2 σ cd eA eS)) : CtH yL_pass cL_pass mL_pass 9 8 48 NN false σ [.ref 0, .int p0, .ref 396] NN (wX σ cd po val) XF := by
  refine ctH_of (ls0 := [some (.ref 0), some (.int p0), some (.ref 396), none]) 1 (by decide +kernel) rfl (ndR (ndI (ndR nd0))) rfl (Nat.le_of_ble_eq_true rfl) (fun K => ?_)
  refine aw_aload2 dL_pass_0 ?_
  refine aw_iconst (v := 0) dL_pass_1 (by decide) ?_
  refine aw_aload0 dL_pass_2 ?_
  refine aw_iload1 dL_pass_3 ?_
  refine aw_callV (As := [.int p0]) hC dL_pass_4 vl_L_60 rfl (by decide) (Rm1 (by decide)) (Nat.le_of_ble_eq_true rfl) (fun σ2 r h => ?_) (fun σ2 E h => ?_)
  · obtain ⟨v, rfl, hcd, hpo, rfl⟩ := h
    refine (?_ : AW K yL_pass.cls cL_pass mL_pass 9 8 48 _ NN none σ2 (0 + 8) (0 + 48) 7 _ [.int val, .int 0, .ref 396])
    refine aw_i2l dL_pass_7 ?_
    refine aw_last (j := 0) dL_pass_8 rfl (by decide) rfl (by decide) ?_
    refine aw_goto (tgt := 18) dL_pass_9 (by decide) ?_
    refine aw_iconst (v := 0) dL_pass_18 (by decide) ?_
    exact aw_iret dL_pass_19 rfl (by decide) (wX_0 hcd hpo)
  · obtain ⟨hd, h⟩ := h
    rcases h with ⟨hcd, rfl⟩ | ⟨hcd, rfl⟩
    · refine ax_catch (x := ⟨0, 9, 12, 13⟩) (pre := []) rfl (fun y hy => absurd hy List.not_mem_nil) (by decide) (by decide) cl_L_13 ca_eA (fun q => ?_)
      refine aw_astore3E dL_pass_12 (by decide) rfl ?_
      refine aw_iconst (v := 1) dL_pass_13 (by decide) ?_
      exact aw_iret dL_pass_14 rfl (by decide) (wX_1 hcd (by decide) hd)
    · refine ax_catch (x := ⟨0, 9, 15, 15⟩) (pre := [⟨0, 9, 12, 13⟩]) rfl (List.forall_mem_cons.mpr ⟨⟨by decide, eA, ex_eA, by decide, cl_L_13⟩, fun y hy => absurd hy List.not_mem_nil⟩) (by decide) (by decide) cl_L_15 ca_eS (fun q => ?_)
      refine aw_astore3E dL_pass_15 (by decide) rfl ?_
      refine aw_iconst (v := 2) dL_pass_16 (by decide) ?_
      exact aw_iret dL_pass_17 rfl (by decide) (wX_1 hcd (by decide) hd)
set_option maxHeartbeats 4000000 in
theorem kL_undo (σ : Sg)  (cd val : Int32) (po : Sg → Prop) (hC : Ct yX6_undo cX6_undo mX6_undo 7 8 48 NN false σ [.ref 0] NN (oX cd po val) (x1 σ cd eS)) : CtH yL_undo cL_undo mL_undo 9 8 48 NN false σ [.ref 0, .ref 396] NN (wX σ cd po val) XF := by
  refine ctH_of (ls0 := [some (.ref 0), some (.ref 396), none]) 1 (by decide +kernel) rfl (ndR (ndR nd0)) rfl (Nat.le_of_ble_eq_true rfl) (fun K => ?_)
  refine aw_aload1 dL_undo_0 ?_
  refine aw_iconst (v := 0) dL_undo_1 (by decide) ?_
  refine aw_aload0 dL_undo_2 ?_
  refine aw_callV (As := []) hC dL_undo_3 vl_L_63 rfl (by decide) (Rm1 (by decide)) (Nat.le_of_ble_eq_true rfl) (fun σ2 r h => ?_) (fun σ2 E h => ?_)
  · obtain ⟨v, rfl, hcd, hpo, rfl⟩ := h
    refine (?_ : AW K yL_undo.cls cL_undo mL_undo 9 8 48 _ NN none σ2 (0 + 8) (0 + 48) 6 _ [.int val, .int 0, .ref 396])
    refine aw_i2l dL_undo_6 ?_
    refine aw_last (j := 0) dL_undo_7 rfl (by decide) rfl (by decide) ?_
    refine aw_goto (tgt := 14) dL_undo_8 (by decide) ?_
    refine aw_iconst (v := 0) dL_undo_14 (by decide) ?_
    exact aw_iret dL_undo_15 rfl (by decide) (wX_0 hcd hpo)
  · obtain ⟨hd, h⟩ := h
    obtain ⟨hcd, rfl⟩ := h
    refine ax_catch (x := ⟨0, 8, 11, 15⟩) (pre := []) rfl (fun y hy => absurd hy List.not_mem_nil) (by decide) (by decide) cl_L_15 ca_eS (fun q => ?_)
    refine aw_astore2E dL_undo_11 (by decide) rfl ?_
    refine aw_iconst (v := 1) dL_undo_12 (by decide) ?_
    exact aw_iret dL_undo_13 rfl (by decide) (wX_1 hcd (by decide) hd)
set_option maxHeartbeats 4000000 in
theorem kL_later (σ : Sg) (p0 : Int32) (p1 : Int32) (cd val : Int32) (po : Sg → Prop) (hC : Ct yX6_later cX6_later mX6_later 7 8 48 NN false σ [.ref 0, .int p0, .int p1] NN (oX cd po val) (x2 σ cd eI eA)) : CtH yL_later cL_later mL_later 9 8 48 NN false σ [.ref 0, .int p0, .int p1, .ref 396] NN (wX σ cd po val) XF := by
  refine ctH_of (ls0 := [some (.ref 0), some (.int p0), some (.int p1), some (.ref 396), none]) 1 (by decide +kernel) rfl (ndR (ndI (ndI (ndR nd0)))) rfl (Nat.le_of_ble_eq_true rfl) (fun K => ?_)
  refine aw_aload3 dL_later_0 ?_
  refine aw_iconst (v := 0) dL_later_1 (by decide) ?_
  refine aw_aload0 dL_later_2 ?_
  refine aw_iload1 dL_later_3 ?_
  refine aw_iload2 dL_later_4 ?_
  refine aw_callV (As := [.int p0, .int p1]) hC dL_later_5 vl_L_66 rfl (by decide) (Rm1 (by decide)) (Nat.le_of_ble_eq_true rfl) (fun σ2 r h => ?_) (fun σ2 E h => ?_)
  · obtain ⟨v, rfl, hcd, hpo, rfl⟩ := h
    refine (?_ : AW K yL_later.cls cL_later mL_later 9 8 48 _ NN none σ2 (0 + 8) (0 + 48) 8 _ [.int val, .int 0, .ref 396])
    refine aw_i2l dL_later_8 ?_
    refine aw_last (j := 0) dL_later_9 rfl (by decide) rfl (by decide) ?_
    refine aw_goto (tgt := 21) dL_later_10 (by decide) ?_
    refine aw_iconst (v := 0) dL_later_21 (by decide) ?_
    exact aw_iret dL_later_22 rfl (by decide) (wX_0 hcd hpo)
  · obtain ⟨hd, h⟩ := h
    rcases h with ⟨hcd, rfl⟩ | ⟨hcd, rfl⟩
    · refine ax_catch (x := ⟨0, 10, 13, 28⟩) (pre := []) rfl (fun y hy => absurd hy List.not_mem_nil) (by decide) (by decide) cl_L_28 ca_eI (fun q => ?_)
      refine aw_astore4E dL_later_13 (by decide) rfl ?_
      refine aw_iconst (v := 1) dL_later_15 (by decide) ?_
      exact aw_iret dL_later_16 rfl (by decide) (wX_1 hcd (by decide) hd)
    · refine ax_catch (x := ⟨0, 10, 17, 13⟩) (pre := [⟨0, 10, 13, 28⟩]) rfl (List.forall_mem_cons.mpr ⟨⟨by decide, eI, ex_eI, by decide, cl_L_28⟩, fun y hy => absurd hy List.not_mem_nil⟩) (by decide) (by decide) cl_L_13 ca_eA (fun q => ?_)
      refine aw_astore4E dL_later_17 (by decide) rfl ?_
      refine aw_iconst (v := 2) dL_later_19 (by decide) ?_
      exact aw_iret dL_later_20 rfl (by decide) (wX_1 hcd (by decide) hd)
set_option maxHeartbeats 4000000 in
theorem kL_begins (σ : Sg) (p0 : Int32) (cd val : Int32) (po : Sg → Prop) (hC : Ct yX6_begins cX6_begins mX6_begins 7 8 48 NN false σ [.ref 0, .int p0] NN (oX cd po val) (x1 σ cd eI)) : CtH yL_begins cL_begins mL_begins 9 8 48 NN false σ [.ref 0, .int p0, .ref 396] NN (wX σ cd po val) XF := by
  refine ctH_of (ls0 := [some (.ref 0), some (.int p0), some (.ref 396), none]) 1 (by decide +kernel) rfl (ndR (ndI (ndR nd0))) rfl (Nat.le_of_ble_eq_true rfl) (fun K => ?_)
  refine aw_aload2 dL_begins_0 ?_
  refine aw_iconst (v := 0) dL_begins_1 (by decide) ?_
  refine aw_aload0 dL_begins_2 ?_
  refine aw_iload1 dL_begins_3 ?_
  refine aw_callV (As := [.int p0]) hC dL_begins_4 vl_L_69 rfl (by decide) (Rm1 (by decide)) (Nat.le_of_ble_eq_true rfl) (fun σ2 r h => ?_) (fun σ2 E h => ?_)
  · obtain ⟨v, rfl, hcd, hpo, rfl⟩ := h
    refine (?_ : AW K yL_begins.cls cL_begins mL_begins 9 8 48 _ NN none σ2 (0 + 8) (0 + 48) 7 _ [.int val, .int 0, .ref 396])
    refine aw_i2l dL_begins_7 ?_
    refine aw_last (j := 0) dL_begins_8 rfl (by decide) rfl (by decide) ?_
    refine aw_goto (tgt := 15) dL_begins_9 (by decide) ?_
    refine aw_iconst (v := 0) dL_begins_15 (by decide) ?_
    exact aw_iret dL_begins_16 rfl (by decide) (wX_0 hcd hpo)
  · obtain ⟨hd, h⟩ := h
    obtain ⟨hcd, rfl⟩ := h
    refine ax_catch (x := ⟨0, 9, 12, 28⟩) (pre := []) rfl (fun y hy => absurd hy List.not_mem_nil) (by decide) (by decide) cl_L_28 ca_eI (fun q => ?_)
    refine aw_astore3E dL_begins_12 (by decide) rfl ?_
    refine aw_iconst (v := 1) dL_begins_13 (by decide) ?_
    exact aw_iret dL_begins_14 rfl (by decide) (wX_1 hcd (by decide) hd)
set_option maxHeartbeats 4000000 in
theorem kL_cost (σ : Sg) (p0 : Int32) (p1 : Int32) (p2 : Int32) (p3 : Int32) (p4 : Int32) (cd val : Int32) (po : Sg → Prop) (hC : Ct yX6_cost cX6_cost mX6_cost 8 8 48 NN false σ [.ref 0, .int p0, .int p1, .int p2, .int p3, .int p4] NN (oX cd po val) (x2 σ cd eI eA)) : CtH yL_cost cL_cost mL_cost 9 8 48 NN false σ [.ref 0, .int p0, .int p1, .int p2, .int p3, .int p4, .ref 396] NN (wX σ cd po val) XF := by
  refine ctH_of (ls0 := [some (.ref 0), some (.int p0), some (.int p1), some (.int p2), some (.int p3), some (.int p4), some (.ref 396), none]) 1 (by decide +kernel) rfl (ndR (ndI (ndI (ndI (ndI (ndI (ndR nd0))))))) rfl (Nat.le_of_ble_eq_true rfl) (fun K => ?_)
  refine aw_aload6 dL_cost_0 ?_
  refine aw_iconst (v := 0) dL_cost_2 (by decide) ?_
  refine aw_aload0 dL_cost_3 ?_
  refine aw_iload1 dL_cost_4 ?_
  refine aw_iload2 dL_cost_5 ?_
  refine aw_iload3 dL_cost_6 ?_
  refine aw_iload4 dL_cost_7 ?_
  refine aw_iload5 dL_cost_9 ?_
  refine aw_callV (As := [.int p0, .int p1, .int p2, .int p3, .int p4]) hC dL_cost_11 vl_L_72 rfl (by decide) (Rm1 (by decide)) (Nat.le_of_ble_eq_true rfl) (fun σ2 r h => ?_) (fun σ2 E h => ?_)
  · obtain ⟨v, rfl, hcd, hpo, rfl⟩ := h
    refine (?_ : AW K yL_cost.cls cL_cost mL_cost 9 8 48 _ NN none σ2 (0 + 8) (0 + 48) 14 _ [.int val, .int 0, .ref 396])
    refine aw_i2l dL_cost_14 ?_
    refine aw_last (j := 0) dL_cost_15 rfl (by decide) rfl (by decide) ?_
    refine aw_goto (tgt := 27) dL_cost_16 (by decide) ?_
    refine aw_iconst (v := 0) dL_cost_27 (by decide) ?_
    exact aw_iret dL_cost_28 rfl (by decide) (wX_0 hcd hpo)
  · obtain ⟨hd, h⟩ := h
    rcases h with ⟨hcd, rfl⟩ | ⟨hcd, rfl⟩
    · refine ax_catch (x := ⟨0, 16, 19, 28⟩) (pre := []) rfl (fun y hy => absurd hy List.not_mem_nil) (by decide) (by decide) cl_L_28 ca_eI (fun q => ?_)
      refine aw_astore7E dL_cost_19 (by decide) rfl ?_
      refine aw_iconst (v := 1) dL_cost_21 (by decide) ?_
      exact aw_iret dL_cost_22 rfl (by decide) (wX_1 hcd (by decide) hd)
    · refine ax_catch (x := ⟨0, 16, 23, 13⟩) (pre := [⟨0, 16, 19, 28⟩]) rfl (List.forall_mem_cons.mpr ⟨⟨by decide, eI, ex_eI, by decide, cl_L_28⟩, fun y hy => absurd hy List.not_mem_nil⟩) (by decide) (by decide) cl_L_13 ca_eA (fun q => ?_)
      refine aw_astore7E dL_cost_23 (by decide) rfl ?_
      refine aw_iconst (v := 2) dL_cost_25 (by decide) ?_
      exact aw_iret dL_cost_26 rfl (by decide) (wX_1 hcd (by decide) hd)
set_option maxHeartbeats 4000000 in
theorem kL_willOwe (σ : Sg) (p0 : Int32) (cd val : Int32) (po : Sg → Prop) (hC : Ct yX6_willOwe cX6_willOwe mX6_willOwe 7 8 48 NN false σ [.ref 0, .int p0] NN (oX cd po val) (x1 σ cd eI)) : CtH yL_willOwe cL_willOwe mL_willOwe 9 8 48 NN false σ [.ref 0, .int p0, .ref 396] NN (wX σ cd po val) XF := by
  refine ctH_of (ls0 := [some (.ref 0), some (.int p0), some (.ref 396), none]) 1 (by decide +kernel) rfl (ndR (ndI (ndR nd0))) rfl (Nat.le_of_ble_eq_true rfl) (fun K => ?_)
  refine aw_aload2 dL_willOwe_0 ?_
  refine aw_iconst (v := 0) dL_willOwe_1 (by decide) ?_
  refine aw_aload0 dL_willOwe_2 ?_
  refine aw_iload1 dL_willOwe_3 ?_
  refine aw_callV (As := [.int p0]) hC dL_willOwe_4 vl_L_75 rfl (by decide) (Rm1 (by decide)) (Nat.le_of_ble_eq_true rfl) (fun σ2 r h => ?_) (fun σ2 E h => ?_)
  · obtain ⟨v, rfl, hcd, hpo, rfl⟩ := h
    refine (?_ : AW K yL_willOwe.cls cL_willOwe mL_willOwe 9 8 48 _ NN none σ2 (0 + 8) (0 + 48) 7 _ [.int val, .int 0, .ref 396])
    refine aw_i2l dL_willOwe_7 ?_
    refine aw_last (j := 0) dL_willOwe_8 rfl (by decide) rfl (by decide) ?_
    refine aw_goto (tgt := 15) dL_willOwe_9 (by decide) ?_
    refine aw_iconst (v := 0) dL_willOwe_15 (by decide) ?_
    exact aw_iret dL_willOwe_16 rfl (by decide) (wX_0 hcd hpo)
  · obtain ⟨hd, h⟩ := h
    obtain ⟨hcd, rfl⟩ := h
    refine ax_catch (x := ⟨0, 9, 12, 28⟩) (pre := []) rfl (fun y hy => absurd hy List.not_mem_nil) (by decide) (by decide) cl_L_28 ca_eI (fun q => ?_)
    refine aw_astore3E dL_willOwe_12 (by decide) rfl ?_
    refine aw_iconst (v := 1) dL_willOwe_13 (by decide) ?_
    exact aw_iret dL_willOwe_14 rfl (by decide) (wX_1 hcd (by decide) hd)
set_option maxHeartbeats 4000000 in
theorem kL_runScript (σ : Sg) (p0 : Int32) (p1 : Int64) (cd val : Int32) (po : Sg → Prop) (hC : Ct yX6_runScript cX6_runScript mX6_runScript 7 8 48 NN false σ [.ref 0, .int p0, .long p1] NN (oX cd po val) (x1 σ cd eA)) : CtH yL_runScript cL_runScript mL_runScript 9 8 48 NN false σ [.ref 0, .int p0, .long p1, .ref 396] NN (wX σ cd po val) XF := by
  refine ctH_of (ls0 := [some (.ref 0), some (.int p0), some (.long p1), none, some (.ref 396), none]) 1 (by decide +kernel) rfl (ndR (ndI (ndL (ndR nd0)))) rfl (Nat.le_of_ble_eq_true rfl) (fun K => ?_)
  refine aw_aload4 dL_runScript_0 ?_
  refine aw_iconst (v := 0) dL_runScript_2 (by decide) ?_
  refine aw_aload0 dL_runScript_3 ?_
  refine aw_iload1 dL_runScript_4 ?_
  refine aw_lload2 dL_runScript_5 ?_
  refine aw_callV (As := [.int p0, .long p1]) hC dL_runScript_6 vl_L_78 rfl (by decide) (Rm1 (by decide)) (Nat.le_of_ble_eq_true rfl) (fun σ2 r h => ?_) (fun σ2 E h => ?_)
  · obtain ⟨v, rfl, hcd, hpo, rfl⟩ := h
    refine (?_ : AW K yL_runScript.cls cL_runScript mL_runScript 9 8 48 _ NN none σ2 (0 + 8) (0 + 48) 9 _ [.int val, .int 0, .ref 396])
    refine aw_i2l dL_runScript_9 ?_
    refine aw_last (j := 0) dL_runScript_10 rfl (by decide) rfl (by decide) ?_
    refine aw_goto (tgt := 18) dL_runScript_11 (by decide) ?_
    refine aw_iconst (v := 0) dL_runScript_18 (by decide) ?_
    exact aw_iret dL_runScript_19 rfl (by decide) (wX_0 hcd hpo)
  · obtain ⟨hd, h⟩ := h
    obtain ⟨hcd, rfl⟩ := h
    refine ax_catch (x := ⟨0, 11, 14, 13⟩) (pre := []) rfl (fun y hy => absurd hy List.not_mem_nil) (by decide) (by decide) cl_L_13 ca_eA (fun q => ?_)
    refine aw_astore5E dL_runScript_14 (by decide) rfl ?_
    refine aw_iconst (v := 1) dL_runScript_16 (by decide) ?_
    exact aw_iret dL_runScript_17 rfl (by decide) (wX_1 hcd (by decide) hd)
set_option maxHeartbeats 4000000 in
theorem kL_simulate (σ : Sg) (p0 : Int64) (p1 : Int32) (cd val : Int32) (po : Sg → Prop) (hC : Ct yX6_simulate cX6_simulate mX6_simulate 7 8 48 NN false σ [.ref 0, .long p0, .int p1] NN (oX cd po val) (x1 σ cd eA)) : CtH yL_simulate cL_simulate mL_simulate 9 8 48 NN false σ [.ref 0, .long p0, .int p1, .ref 396] NN (wX σ cd po val) XF := by
  refine ctH_of (ls0 := [some (.ref 0), some (.long p0), none, some (.int p1), some (.ref 396), none]) 1 (by decide +kernel) rfl (ndR (ndL (ndI (ndR nd0)))) rfl (Nat.le_of_ble_eq_true rfl) (fun K => ?_)
  refine aw_aload4 dL_simulate_0 ?_
  refine aw_iconst (v := 0) dL_simulate_2 (by decide) ?_
  refine aw_aload0 dL_simulate_3 ?_
  refine aw_lload1 dL_simulate_4 ?_
  refine aw_iload3 dL_simulate_5 ?_
  refine aw_callV (As := [.long p0, .int p1]) hC dL_simulate_6 vl_L_82 rfl (by decide) (Rm1 (by decide)) (Nat.le_of_ble_eq_true rfl) (fun σ2 r h => ?_) (fun σ2 E h => ?_)
  · obtain ⟨v, rfl, hcd, hpo, rfl⟩ := h
    refine (?_ : AW K yL_simulate.cls cL_simulate mL_simulate 9 8 48 _ NN none σ2 (0 + 8) (0 + 48) 9 _ [.int val, .int 0, .ref 396])
    refine aw_i2l dL_simulate_9 ?_
    refine aw_last (j := 0) dL_simulate_10 rfl (by decide) rfl (by decide) ?_
    refine aw_goto (tgt := 18) dL_simulate_11 (by decide) ?_
    refine aw_iconst (v := 0) dL_simulate_18 (by decide) ?_
    exact aw_iret dL_simulate_19 rfl (by decide) (wX_0 hcd hpo)
  · obtain ⟨hd, h⟩ := h
    obtain ⟨hcd, rfl⟩ := h
    refine ax_catch (x := ⟨0, 11, 14, 13⟩) (pre := []) rfl (fun y hy => absurd hy List.not_mem_nil) (by decide) (by decide) cl_L_13 ca_eA (fun q => ?_)
    refine aw_astore5E dL_simulate_14 (by decide) rfl ?_
    refine aw_iconst (v := 1) dL_simulate_16 (by decide) ?_
    exact aw_iret dL_simulate_17 rfl (by decide) (wX_1 hcd (by decide) hd)
set_option maxHeartbeats 4000000 in
theorem kL_save (σ : Sg) (p0 : Int32) (cd val : Int32) (po : Sg → Prop) (hC : Ct yX6_save cX6_save mX6_save 7 8 48 NN false σ [.ref 0, .int p0] NN (oX cd po val) (x1 σ cd eI)) : CtH yL_save cL_save mL_save 9 8 48 NN false σ [.ref 0, .int p0, .ref 396] NN (wX σ cd po val) XF := by
  refine ctH_of (ls0 := [some (.ref 0), some (.int p0), some (.ref 396), none]) 1 (by decide +kernel) rfl (ndR (ndI (ndR nd0))) rfl (Nat.le_of_ble_eq_true rfl) (fun K => ?_)
  refine aw_aload2 dL_save_0 ?_
  refine aw_iconst (v := 0) dL_save_1 (by decide) ?_
  refine aw_aload0 dL_save_2 ?_
  refine aw_iload1 dL_save_3 ?_
  refine aw_callV (As := [.int p0]) hC dL_save_4 vl_L_86 rfl (by decide) (Rm1 (by decide)) (Nat.le_of_ble_eq_true rfl) (fun σ2 r h => ?_) (fun σ2 E h => ?_)
  · obtain ⟨v, rfl, hcd, hpo, rfl⟩ := h
    refine (?_ : AW K yL_save.cls cL_save mL_save 9 8 48 _ NN none σ2 (0 + 8) (0 + 48) 7 _ [.int val, .int 0, .ref 396])
    refine aw_i2l dL_save_7 ?_
    refine aw_last (j := 0) dL_save_8 rfl (by decide) rfl (by decide) ?_
    refine aw_goto (tgt := 15) dL_save_9 (by decide) ?_
    refine aw_iconst (v := 0) dL_save_15 (by decide) ?_
    exact aw_iret dL_save_16 rfl (by decide) (wX_0 hcd hpo)
  · obtain ⟨hd, h⟩ := h
    obtain ⟨hcd, rfl⟩ := h
    refine ax_catch (x := ⟨0, 9, 12, 28⟩) (pre := []) rfl (fun y hy => absurd hy List.not_mem_nil) (by decide) (by decide) cl_L_28 ca_eI (fun q => ?_)
    refine aw_astore3E dL_save_12 (by decide) rfl ?_
    refine aw_iconst (v := 1) dL_save_13 (by decide) ?_
    exact aw_iret dL_save_14 rfl (by decide) (wX_1 hcd (by decide) hd)
set_option maxHeartbeats 4000000 in
theorem kL_restore (σ : Sg) (p0 : Int32) (cd val : Int32) (po : Sg → Prop) (hC : Ct yX6_restore cX6_restore mX6_restore 7 8 48 NN false σ [.ref 0, .int p0] NN (oX cd po val) (x2 σ cd eI eS)) : CtH yL_restore cL_restore mL_restore 9 8 48 NN false σ [.ref 0, .int p0, .ref 396] NN (wX σ cd po val) XF := by
  refine ctH_of (ls0 := [some (.ref 0), some (.int p0), some (.ref 396), none]) 1 (by decide +kernel) rfl (ndR (ndI (ndR nd0))) rfl (Nat.le_of_ble_eq_true rfl) (fun K => ?_)
  refine aw_aload2 dL_restore_0 ?_
  refine aw_iconst (v := 0) dL_restore_1 (by decide) ?_
  refine aw_aload0 dL_restore_2 ?_
  refine aw_iload1 dL_restore_3 ?_
  refine aw_callV (As := [.int p0]) hC dL_restore_4 vl_L_89 rfl (by decide) (Rm1 (by decide)) (Nat.le_of_ble_eq_true rfl) (fun σ2 r h => ?_) (fun σ2 E h => ?_)
  · obtain ⟨v, rfl, hcd, hpo, rfl⟩ := h
    refine (?_ : AW K yL_restore.cls cL_restore mL_restore 9 8 48 _ NN none σ2 (0 + 8) (0 + 48) 7 _ [.int val, .int 0, .ref 396])
    refine aw_i2l dL_restore_7 ?_
    refine aw_last (j := 0) dL_restore_8 rfl (by decide) rfl (by decide) ?_
    refine aw_goto (tgt := 18) dL_restore_9 (by decide) ?_
    refine aw_iconst (v := 0) dL_restore_18 (by decide) ?_
    exact aw_iret dL_restore_19 rfl (by decide) (wX_0 hcd hpo)
  · obtain ⟨hd, h⟩ := h
    rcases h with ⟨hcd, rfl⟩ | ⟨hcd, rfl⟩
    · refine ax_catch (x := ⟨0, 9, 12, 28⟩) (pre := []) rfl (fun y hy => absurd hy List.not_mem_nil) (by decide) (by decide) cl_L_28 ca_eI (fun q => ?_)
      refine aw_astore3E dL_restore_12 (by decide) rfl ?_
      refine aw_iconst (v := 1) dL_restore_13 (by decide) ?_
      exact aw_iret dL_restore_14 rfl (by decide) (wX_1 hcd (by decide) hd)
    · refine ax_catch (x := ⟨0, 9, 15, 15⟩) (pre := [⟨0, 9, 12, 28⟩]) rfl (List.forall_mem_cons.mpr ⟨⟨by decide, eI, ex_eI, by decide, cl_L_28⟩, fun y hy => absurd hy List.not_mem_nil⟩) (by decide) (by decide) cl_L_15 ca_eS (fun q => ?_)
      refine aw_astore3E dL_restore_15 (by decide) rfl ?_
      refine aw_iconst (v := 2) dL_restore_16 (by decide) ?_
      exact aw_iret dL_restore_17 rfl (by decide) (wX_1 hcd (by decide) hd)
