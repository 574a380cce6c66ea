/-! the class: the parts of a text -/
theorem ro_frost {T : Rw} {n : Nat} {s : PSt} (h : ¬ b01 (roy T n s) = 0) : ro2 T n s = two T n 1 20 (ro1 T n s) ∧ rov T n s = -twov T n 1 20 (ro1 T n s) := by
  have e := b01_t h
  constructor
  · show two T n (b01 (roy T n s)) (if roy T n s = true then 20 else 25) (ro1 T n s) = _
    rw [e, if_pos rfl]
    rfl
  · show (if roy T n s = true then -twov T n (b01 (roy T n s)) (if roy T n s = true then 20 else 25) (ro1 T n s) else _) = _
    rw [if_pos e, e, if_pos rfl]
    rfl
theorem ro_warm {T : Rw} {n : Nat} {s : PSt} (h : b01 (roy T n s) = 0) : ro2 T n s = two T n 0 25 (ro1 T n s) ∧ rov T n s = twov T n 0 25 (ro1 T n s) := by
  have e := b01_f h
  constructor
  · show two T n (b01 (roy T n s)) (if roy T n s = true then 20 else 25) (ro1 T n s) = _
    rw [e, if_neg (by decide)]
    rfl
  · show (if roy T n s = true then _ else twov T n (b01 (roy T n s)) (if roy T n s = true then 20 else 25) (ro1 T n s)) = _
    rw [e, if_neg (by decide), if_neg (by decide)]
    rfl
theorem sgn_nx1 {T : Rw} {n p : Nat} {c : Int32} (hp : p ≤ n) (hn : n ≤ 120) (hc : ¬ (-1 : Int32) = c) (h : sgn T n (nI p) = c) : nx T n p c = true := by
  rw [sgn_at hp hn] at h
  by_cases q : p < n
  · rw [if_pos q] at h
    rw [nx, decide_eq_true q, decide_eq_true h]
    rfl
  · rw [if_neg q] at h
    exact absurd h hc
theorem sgn_nx0 {T : Rw} {n p : Nat} {c : Int32} (hp : p ≤ n) (hn : n ≤ 120) (h : ¬ sgn T n (nI p) = c) : nx T n p c = false := by
  rw [sgn_at hp hn] at h
  by_cases q : p < n
  · rw [if_pos q] at h
    rw [nx, decide_eq_false h, Bool.and_false]
  · rw [nx, decide_eq_false q, Bool.false_and]
theorem stp_t {s : PSt} {c : Bool} (hs : s.2 = true) (hc : c = true) : stp s c = (s.1 + 1, true) := by
  obtain ⟨p, b⟩ := s
  subst hs
  subst hc
  rfl
theorem stp_f {s : PSt} {c : Bool} (hc : c = false) : stp s c = (s.1, false) := by
  obtain ⟨p, b⟩ := s
  subst hc
  cases b <;> rfl
theorem lk_none {x : Int32} (h1 : ¬ x = 98) (h2 : ¬ x = 103) (h3 : ¬ x = 111) (h4 : ¬ x = 114) : Op.lookupswitch.offset [(98, 68), (103, 52), (111, 60), (114, 44)] 76 x.toInt = 76 := by
  have q : ∀ c : Int32, ¬ x = c → ¬ c.toInt = x.toInt := fun c h e => h (Int32.toInt_inj.mp e.symm)
  have q1 : ¬ (98 : Int) = x.toInt := q 98 h1
  have q2 : ¬ (103 : Int) = x.toInt := q 103 h2
  have q3 : ¬ (111 : Int) = x.toInt := q 111 h3
  have q4 : ¬ (114 : Int) = x.toInt := q 114 h4
  rw [Op.lookupswitch.offset, if_neg q1, Op.lookupswitch.offset, if_neg q2, Op.lookupswitch.offset, if_neg q3, Op.lookupswitch.offset, if_neg q4, Op.lookupswitch.offset]
theorem ro_bad {T : Rw} {n : Nat} {s : PSt} (h : nx T n s.1 111 = false) : ro2 T n s = stp s false := by
  have e0 : ro0 T n s = (s.1, false) := stp_f h
  have e1 : ro1 T n s = (s.1, false) := by
    show stp (ro0 T n s) _ = _
    rw [e0]
    exact stp_bad rfl
  show two T n _ _ (ro1 T n s) = _
  rw [e1, stp_f rfl]
  exact (congrArg (fun x => dig T n _ _ x) (stp_bad rfl)).trans (stp_bad rfl)
theorem PI.grp {n : Nat} {s : PSt} {g : Rw} {nr ng nb : Nat} (h : PI n s g nr ng nb) (hn : ng < 6) : fAddGroup g ng = upd g 2 (g 2 + 1) := by
  have : upd g (25 + ng) 0 = g := funext fun j => by
    by_cases hj : j = 25 + ng
    · rw [hj, upd_s, h.2.2 ng hn]
    · rw [upd_n hj]
  rw [fAddGroup, this]
set_option maxHeartbeats 4000000 in
theorem k3_readRoom (σ : Sg) (h : Nat) (π : Nat → Nat) (nr ng nb : Nat) (g : Rw) (a er : Int32) (s : PSt) (n : Nat) (hh : 2 < h) (hr : σ.2.1 1 0 = some 2) (hn : σ.1 1 1 = nI n) (hn120 : n ≤ 120) (hc : HC σ h π) (hI : PI n s g nr ng nb) (hP : PR a er s) (hok : s.2 = true) (hlt : s.1 < n) : Ct yX3_readRoom cX3_readRoom mX3_readRoom 3 0 0 NN false (sH (cS σ a er) h π nr ng nb g) [.ref 1, .ref h] NN (rV fun σ2 => ∃ a2 er2, sH (cS σ a2 er2) h π (if (rr4 (σ.1 2) n s nr).2 = true then nr + 1 else nr) ng nb (rrG (σ.1 2) n s g nr) = σ2 ∧ PR a2 er2 (rr4 (σ.1 2) n s nr)) XF := by
  refine ct_of (ls0 := [some (.ref 1), some (.ref h), none, none, none, none]) 4 (by decide +kernel) rfl rfl (ndR (ndR nd0)) rfl (Nat.le_of_ble_eq_true rfl) (fun K => ?_)
  have hw := hI.2.1
  have hnr4 := hw.nr4
  have hng6 := hw.ng6
  have hnb12 := hw.nb12
  have hs := hI.1
  have hs0 : (rr0 s nr).1 ≤ n := stp_le hs (fun _ => hlt)
  have hs1 : (rr1 (σ.1 2) n s nr).1 ≤ n := dig_le hs0
  have hs2 : (rr2 (σ.1 2) n s nr).1 ≤ n := dig_le hs1
  have hs3 : (rr3 (σ.1 2) n s nr).1 ≤ n := dig_le hs2
  have hl4 : (rr4 (σ.1 2) n s nr).1 < 1000 := Nat.lt_of_le_of_lt (two_le hs3) (by omega)
  refine aw_aload0 dX3_readRoom_0 ?_
  refine AW.tern0 (E := (b01 (decide (nr < 4)))) (pc2 := 14) (fun x_14 hx_14 => ?_) (fun J_14 => ?_)
  · subst hx_14
    refine aw_VV1 (k3_require _ _ _ _ _ _ _ _ _ _ _ (by omega) hP (Nat.lt_of_le_of_lt hs (by omega))) dX3_readRoom_14 vl_3_34 rfl (by decide) (by decide) (Nat.le_of_ble_eq_true rfl) (fun σ_14 h_14 => ?_)
    obtain ⟨a0, e0, rfl, hP0⟩ := h_14
    refine aw_aload0 dX3_readRoom_17 ?_
    refine aw_iconst (v := 1) dX3_readRoom_18 (by decide) ?_
    refine aw_iconst (v := 1) dX3_readRoom_19 (by decide) ?_
    refine aw_bipush (v := 9) dX3_readRoom_20 (by decide) ?_
    refine aw_VI3 (k3_num1 _ _ _ _ _ _ _ _ _ _ n _ _ hh hr hn hn120 hP0 hs0) dX3_readRoom_22 vl_3_57 rfl (by decide) (by decide) (Nat.le_of_ble_eq_true rfl) (fun σ_22 r_22 h_22 => ?_)
    obtain ⟨a1, e1, rfl, hP1, hv1⟩ := h_22
    refine aw_istore2 dX3_readRoom_25 (by decide) rfl ?_
    refine aw_aload0 dX3_readRoom_26 ?_
    refine aw_iconst (v := 1) dX3_readRoom_27 (by decide) ?_
    refine aw_iconst (v := 1) dX3_readRoom_28 (by decide) ?_
    refine aw_bipush (v := 9) dX3_readRoom_29 (by decide) ?_
    refine aw_VI3 (k3_num1 _ _ _ _ _ _ _ _ _ _ n _ _ hh hr hn hn120 hP1 hs1) dX3_readRoom_31 vl_3_57 rfl (by decide) (by decide) (Nat.le_of_ble_eq_true rfl) (fun σ_31 r_31 h_31 => ?_)
    obtain ⟨a2, e2, rfl, hP2, hv2⟩ := h_31
    refine aw_istore3 dX3_readRoom_34 (by decide) rfl ?_
    refine aw_aload0 dX3_readRoom_35 ?_
    refine aw_iconst (v := 1) dX3_readRoom_36 (by decide) ?_
    refine aw_iconst (v := 1) dX3_readRoom_37 (by decide) ?_
    refine aw_bipush (v := 9) dX3_readRoom_38 (by decide) ?_
    refine aw_VI3 (k3_num1 _ _ _ _ _ _ _ _ _ _ n _ _ hh hr hn hn120 hP2 hs2) dX3_readRoom_40 vl_3_57 rfl (by decide) (by decide) (Nat.le_of_ble_eq_true rfl) (fun σ_40 r_40 h_40 => ?_)
    obtain ⟨a3, e3, rfl, hP3, hv3⟩ := h_40
    refine aw_istore4 dX3_readRoom_43 (by decide) rfl ?_
    refine aw_aload0 dX3_readRoom_45 ?_
    refine aw_iconst (v := 2) dX3_readRoom_46 (by decide) ?_
    refine aw_iconst (v := 0) dX3_readRoom_47 (by decide) ?_
    refine aw_bipush (v := 30) dX3_readRoom_48 (by decide) ?_
    refine aw_VI3 (k3_num2 _ _ _ _ _ _ _ _ _ _ n 0 30 (by decide) (by decide) hh hr hn hn120 hP3 hs3) dX3_readRoom_50 vl_3_57 rfl (by decide) (by decide) (Nat.le_of_ble_eq_true rfl) (fun σ_50 r_50 h_50 => ?_)
    obtain ⟨a4, e4, rfl, hP4, hv4⟩ := h_50
    replace hP4 : PR a4 e4 (rr4 (σ.1 2) n s nr) := hP4
    refine aw_istore5 dX3_readRoom_53 (by decide) rfl ?_
    refine aw_aload0 dX3_readRoom_55 ?_
    refine aw_getI dX3_readRoom_56 fI_3_27 rfl (by decide) (show _ = e4 from (sH_out (by omega)).trans rfl) ?_
    refine aw_bipush (v := (-99)) dX3_readRoom_59 (by decide) ?_
    refine aw_ic_ne (tgt := 75) dX3_readRoom_61 (by decide) (fun c_61 => ?_) (fun c_61 => ?_)
    · exact aw_vret dX3_readRoom_75 rfl (by decide) (by
        first
          | exact ⟨rfl, a4, e4, by rw [rrG, if_pos hq, if_pos hq]; rfl, hP4⟩
          | exact ⟨rfl, a4, e4, by rw [rrG, if_neg (fun z => by rw [(PR_bad hP4 hl4 c_61).1] at z; cases z), if_neg (fun z => by rw [(PR_bad hP4 hl4 c_61).1] at z; cases z)], hP4⟩)
    · have hq : (rr4 (σ.1 2) n s nr).2 = true := (PR_good hP4 hl4 c_61).1
      have q3 := (dig_ok (two_ok hq)).1
      have q2 := (dig_ok q3).1
      have q1 := (dig_ok q2).1
      obtain rfl := hv1 q1
      obtain rfl := hv2 q2
      obtain rfl := hv3 q3
      obtain rfl := hv4 hq
      refine aw_aload1 dX3_readRoom_64 ?_
      refine aw_iload2 dX3_readRoom_65 ?_
      refine aw_iload3 dX3_readRoom_66 ?_
      refine aw_iload4 dX3_readRoom_67 ?_
      refine aw_iload5 dX3_readRoom_69 ?_
      refine aw_VI4 (k2_newRoom (cS σ a4 e4) h π nr ng nb 0 g _ _ _ _ hc hw (rr_nr hq)) dX3_readRoom_71 vl_3_61 hc.t hc.l (by decide) (Nat.le_of_ble_eq_true rfl) (fun σ_71 r_71 h_71 => ?_)
      obtain ⟨rfl, rfl⟩ := h_71
      refine aw_pop dX3_readRoom_74 rfl ?_
      exact aw_vret dX3_readRoom_75 rfl (by decide) (by
        first
          | exact ⟨rfl, a4, e4, by rw [rrG, if_pos hq, if_pos hq]; rfl, hP4⟩
          | exact ⟨rfl, a4, e4, by rw [rrG, if_neg (fun z => by rw [(PR_bad hP4 hl4 c_61).1] at z; cases z), if_neg (fun z => by rw [(PR_bad hP4 hl4 c_61).1] at z; cases z)], hP4⟩)
  · refine aw_aload1 dX3_readRoom_1 ?_
    refine aw_getI dX3_readRoom_2 fI_3_54 hc.t hc.l (sH_nr.trans hw.nr) ?_
    refine aw_iconst (v := 4) dX3_readRoom_5 (by decide) ?_
    refine aw_ic_ge (tgt := 13) dX3_readRoom_6 (by decide) (fun c_6 => ?_) (fun c_6 => ?_)
    · refine aw_iconst (v := 0) dX3_readRoom_13 (by decide) ?_
      exact J_14 _ (by first | exact b01_D1 (by have := mt (nI_leI (a := 4) (by omega) (by omega)).mpr c_6; omega) | exact b01_D0 (Nat.not_lt.mpr ((nI_leI (a := 4) (by omega) (by omega)).mp c_6)))
    · refine aw_iconst (v := 1) dX3_readRoom_9 (by decide) ?_
      refine aw_goto (tgt := 14) dX3_readRoom_10 (by decide) ?_
      exact J_14 _ (by first | exact b01_D1 (by have := mt (nI_leI (a := 4) (by omega) (by omega)).mpr c_6; omega) | exact b01_D0 (Nat.not_lt.mpr ((nI_leI (a := 4) (by omega) (by omega)).mp c_6)))
theorem upd_self {g : Rw} {i : Nat} {v : Int32} (h : v = g i) : upd g i v = g := funext fun j => by
  by_cases hj : j = i
  · rw [hj, upd_s, h]
  · rw [upd_n hj]
set_option maxHeartbeats 4000000 in
theorem k3_readGroup (σ : Sg) (h : Nat) (π : Nat → Nat) (nr ng nb : Nat) (g : Rw) (a er : Int32) (s : PSt) (n : Nat) (hh : 2 < h) (hr : σ.2.1 1 0 = some 2) (hn : σ.1 1 1 = nI n) (hn120 : n ≤ 120) (hc : HC σ h π) (hI : PI n s g nr ng nb) (hP : PR a er s) (hok : s.2 = true) (hlt : s.1 < n) : Ct yX3_readGroup cX3_readGroup mX3_readGroup 3 0 0 NN false (sH (cS σ a er) h π nr ng nb g) [.ref 1, .ref h] NN (rV fun σ2 => ∃ a2 er2, sH (cS σ a2 er2) h π nr (if (stp s (decide (ng < 6))).2 = true then ng + 1 else ng) nb (upd g 2 (g 2 + b01 (stp s (decide (ng < 6))).2)) = σ2 ∧ PR a2 er2 (stp s (decide (ng < 6)))) XF := by
  refine ct_of (ls0 := [some (.ref 1), some (.ref h)]) 0 (by decide +kernel) rfl rfl (ndR (ndR nd0)) rfl (Nat.le_of_ble_eq_true rfl) (fun K => ?_)
  have hw := hI.2.1
  have hnr4 := hw.nr4
  have hng6 := hw.ng6
  have hnb12 := hw.nb12
  have hs := hI.1
  have hl0 : (stp s (decide (ng < 6))).1 < 1000 := Nat.lt_of_le_of_lt (stp_le hs (fun _ => hlt)) (by omega)
  refine aw_aload0 dX3_readGroup_0 ?_
  refine AW.tern0 (E := (b01 (decide (ng < 6)))) (pc2 := 15) (fun x_15 hx_15 => ?_) (fun J_15 => ?_)
  · subst hx_15
    refine aw_VV1 (k3_require _ _ _ _ _ _ _ _ _ _ _ (by omega) hP (Nat.lt_of_le_of_lt hs (by omega))) dX3_readGroup_15 vl_3_34 rfl (by decide) (by decide) (Nat.le_of_ble_eq_true rfl) (fun σ_15 h_15 => ?_)
    obtain ⟨a0, e0, rfl, hP0⟩ := h_15
    refine aw_aload0 dX3_readGroup_18 ?_
    refine aw_getI dX3_readGroup_19 fI_3_27 rfl (by decide) (show _ = e0 from (sH_out (by omega)).trans rfl) ?_
    refine aw_bipush (v := (-99)) dX3_readGroup_22 (by decide) ?_
    refine aw_ic_ne (tgt := 32) dX3_readGroup_24 (by decide) (fun c_24 => ?_) (fun c_24 => ?_)
    · exact aw_vret dX3_readGroup_32 rfl (by decide) (by
        first
          | exact ⟨rfl, a0, e0, by rw [if_pos hq, hq, hI.grp (of_decide_eq_true (stp_ok hq).2)]; rfl, hP0⟩
          | exact ⟨rfl, a0, e0, by rw [(PR_bad hP0 hl0 c_24).1, if_neg (by decide), show upd g 2 (g 2 + b01 false) = g from upd_self (by rw [hw.ng]; exact nI_add ng 0)], hP0⟩)
    · have hq : (stp s (decide (ng < 6))).2 = true := (PR_good hP0 hl0 c_24).1
      refine aw_aload1 dX3_readGroup_27 ?_
      refine aw_VI0 (k2_newGroup (cS σ a0 e0) h π nr ng nb 0 g hc hw (of_decide_eq_true (stp_ok hq).2)) dX3_readGroup_28 vl_3_68 hc.t hc.l (by decide) (Nat.le_of_ble_eq_true rfl) (fun σ_28 r_28 h_28 => ?_)
      obtain ⟨rfl, rfl⟩ := h_28
      refine aw_pop dX3_readGroup_31 rfl ?_
      exact aw_vret dX3_readGroup_32 rfl (by decide) (by
        first
          | exact ⟨rfl, a0, e0, by rw [if_pos hq, hq, hI.grp (of_decide_eq_true (stp_ok hq).2)]; rfl, hP0⟩
          | exact ⟨rfl, a0, e0, by rw [(PR_bad hP0 hl0 c_24).1, if_neg (by decide), show upd g 2 (g 2 + b01 false) = g from upd_self (by rw [hw.ng]; exact nI_add ng 0)], hP0⟩)
  · refine aw_aload1 dX3_readGroup_1 ?_
    refine aw_getI dX3_readGroup_2 fI_3_65 hc.t hc.l (sH_ng.trans hw.ng) ?_
    refine aw_bipush (v := 6) dX3_readGroup_5 (by decide) ?_
    refine aw_ic_ge (tgt := 14) dX3_readGroup_7 (by decide) (fun c_7 => ?_) (fun c_7 => ?_)
    · refine aw_iconst (v := 0) dX3_readGroup_14 (by decide) ?_
      exact J_15 _ (by first | exact b01_D1 (by have := mt (nI_leI (a := 6) (by omega) (by omega)).mpr c_7; omega) | exact b01_D0 (Nat.not_lt.mpr ((nI_leI (a := 6) (by omega) (by omega)).mp c_7)))
    · refine aw_iconst (v := 1) dX3_readGroup_10 (by decide) ?_
      refine aw_goto (tgt := 15) dX3_readGroup_11 (by decide) ?_
      exact J_15 _ (by first | exact b01_D1 (by have := mt (nI_leI (a := 6) (by omega) (by omega)).mpr c_7; omega) | exact b01_D0 (Nat.not_lt.mpr ((nI_leI (a := 6) (by omega) (by omega)).mp c_7)))
set_option maxHeartbeats 4000000 in
theorem k3_readOutdoors (σ : Sg) (h : Nat) (π : Nat → Nat) (nr ng nb : Nat) (g : Rw) (a er : Int32) (s : PSt) (n : Nat) (hh : 2 < h) (hr : σ.2.1 1 0 = some 2) (hn : σ.1 1 1 = nI n) (hn120 : n ≤ 120) (hc : HC σ h π) (hI : PI n s g nr ng nb) (hP : PR a er s) (hok : s.2 = true) (hlt : s.1 < n) (hx1 : nx (σ.1 2) n s.1 111 = true) : Ct yX3_readOutdoors cX3_readOutdoors mX3_readOutdoors 3 0 0 NN false (sH (cS σ a er) h π nr ng nb g) [.ref 1, .ref h] NN (rV fun σ2 => ∃ a2 er2, sH (cS σ a2 er2) h π nr ng nb (roG (σ.1 2) n s g) = σ2 ∧ PR a2 er2 (ro2 (σ.1 2) n s)) XF := by
  refine ct_of (ls0 := [some (.ref 1), some (.ref h), none, none]) 2 (by decide +kernel) rfl rfl (ndR (ndR nd0)) rfl (Nat.le_of_ble_eq_true rfl) (fun K => ?_)
  have hw := hI.2.1
  have hnr4 := hw.nr4
  have hng6 := hw.ng6
  have hnb12 := hw.nb12
  have hs := hI.1
  have ea := PR_ok hP hok
  have er9 : er = -99 := hP.elim (fun z => z.2.2) (fun z => by rw [hok] at z; exact absurd z.1 (by decide))
  have e00 : (ro0 (σ.1 2) n s) = (s.1 + 1, true) := stp_t hok hx1
  have hs0 : (ro0 (σ.1 2) n s).1 ≤ n := by rw [e00]; exact hlt
  have ea0 : a + 1 = nI (ro0 (σ.1 2) n s).1 := by rw [ea, nI_1, e00]
  have hP0 : PR (nI (ro0 (σ.1 2) n s).1) er (ro0 (σ.1 2) n s) := Or.inl ⟨by rw [e00], rfl, er9⟩
  have hs1 : (ro1 (σ.1 2) n s).1 ≤ n := ro1_le hs
  have hl2 : (ro2 (σ.1 2) n s).1 < 1000 := Nat.lt_of_le_of_lt (two_le hs1) (by omega)
  refine aw_aload0 dX3_readOutdoors_0 ?_
  refine aw_dup dX3_readOutdoors_1 rfl ?_
  refine aw_getI dX3_readOutdoors_2 fI_3_24 rfl (by decide) (show _ = a from (sH_out (by omega)).trans rfl) ?_
  refine aw_iconst (v := 1) dX3_readOutdoors_5 (by decide) ?_
  refine aw_iadd dX3_readOutdoors_6 ?_
  refine aw_putI dX3_readOutdoors_7 fP_3_24 rfl (by decide) ?_
  refine AW.eqs ((sI_sH_out (by omega)).trans (by rw [cS_at, ea0])) ?_
  refine AW.tern0 (E := (b01 (roy (σ.1 2) n s))) (pc2 := 24) (fun x_24 hx_24 => ?_) (fun J_24 => ?_)
  · subst hx_24
    refine aw_istore2 dX3_readOutdoors_24 (by decide) rfl ?_
    refine aw_aload0 dX3_readOutdoors_25 ?_
    refine AW.tern0 (E := (b01 ((roy (σ.1 2) n s) || nx (σ.1 2) n (ro0 (σ.1 2) n s).1 43))) (pc2 := 44) (fun x_44 hx_44 => ?_) (fun J_44 => ?_)
    · subst hx_44
      refine aw_VV1 (k3_require _ _ _ _ _ _ _ _ _ _ _ (by omega) hP0 (Nat.lt_of_le_of_lt hs0 (by omega))) dX3_readOutdoors_44 vl_3_34 rfl (by decide) (by decide) (Nat.le_of_ble_eq_true rfl) (fun σ_44 h_44 => ?_)
      obtain ⟨a1, e1, rfl, hP1⟩ := h_44
      refine aw_iload2 dX3_readOutdoors_47 ?_
      refine aw_if_eq (tgt := 62) dX3_readOutdoors_48 (by decide) (fun c_48 => ?_) (fun c_48 => ?_)
      · obtain ⟨hre, hrv⟩ := ro_warm c_48
        refine aw_aload0 dX3_readOutdoors_62 ?_
        refine aw_iconst (v := 2) dX3_readOutdoors_63 (by decide) ?_
        refine aw_iconst (v := 0) dX3_readOutdoors_64 (by decide) ?_
        refine aw_bipush (v := 25) dX3_readOutdoors_65 (by decide) ?_
        refine aw_VI3 (k3_num2 _ _ _ _ _ _ _ _ _ _ n 0 25 (by decide) (by decide) hh hr hn hn120 hP1 hs1) dX3_readOutdoors_67 vl_3_57 rfl (by decide) (by decide) (Nat.le_of_ble_eq_true rfl) (fun σ_67 r_67 h_67 => ?_)
        obtain ⟨a2, e2, rfl, hP2, hv2⟩ := h_67
        refine aw_istore3 dX3_readOutdoors_70 (by decide) rfl ?_
        replace hP2 : PR a2 e2 (ro2 (σ.1 2) n s) := by rw [hre]; exact hP2
        refine aw_aload0 dX3_readOutdoors_71 ?_
        refine aw_getI dX3_readOutdoors_72 fI_3_27 rfl (by decide) (show _ = e2 from (sH_out (by omega)).trans rfl) ?_
        refine aw_bipush (v := (-99)) dX3_readOutdoors_75 (by decide) ?_
        refine aw_ic_ne (tgt := 94) dX3_readOutdoors_77 (by decide) (fun c_77 => ?_) (fun c_77 => ?_)
        · exact aw_vret dX3_readOutdoors_94 rfl (by decide) (by
            first
              | exact ⟨rfl, a2, e2, by rw [roG, if_pos hq]; rfl, hP2⟩
              | exact ⟨rfl, a2, e2, by rw [roG, if_neg (fun z => by rw [(PR_bad hP2 hl2 c_77).1] at z; cases z)], hP2⟩)
        · have hq : (ro2 (σ.1 2) n s).2 = true := (PR_good hP2 hl2 c_77).1
          refine aw_aload1 dX3_readOutdoors_80 ?_
          refine AW.tern0 (E := (rov (σ.1 2) n s)) (pc2 := 91) (fun x_91 hx_91 => ?_) (fun J_91 => ?_)
          · subst hx_91
            refine aw_putI dX3_readOutdoors_91 fP_3_71 hc.t hc.l ?_
            refine AW.eqs (sW_i (j := 1) (by unfold isI; omega)) ?_
            exact aw_vret dX3_readOutdoors_94 rfl (by decide) (by
              first
                | exact ⟨rfl, a2, e2, by rw [roG, if_pos hq]; rfl, hP2⟩
                | exact ⟨rfl, a2, e2, by rw [roG, if_neg (fun z => by rw [(PR_bad hP2 hl2 c_77).1] at z; cases z)], hP2⟩)
          · refine aw_iload2 dX3_readOutdoors_81 ?_
            refine aw_if_eq (tgt := 90) dX3_readOutdoors_82 (by decide) (fun c_82 => ?_) (fun c_82 => ?_)
            · refine aw_iload3 dX3_readOutdoors_90 ?_
              exact J_91 _ (by
                first
                  | (rw [hrv]; exact congrArg (fun x => -x) (hv2 (by rw [hre] at hq; exact hq)))
                  | exact (hv2 (by rw [hre] at hq; exact hq)).trans hrv.symm
                  | exact absurd c_82 c_48
                  | exact absurd c_48 c_82)
            · refine aw_iload3 dX3_readOutdoors_85 ?_
              refine aw_ineg dX3_readOutdoors_86 ?_
              refine aw_goto (tgt := 91) dX3_readOutdoors_87 (by decide) ?_
              exact J_91 _ (by
                first
                  | (rw [hrv]; exact congrArg (fun x => -x) (hv2 (by rw [hre] at hq; exact hq)))
                  | exact (hv2 (by rw [hre] at hq; exact hq)).trans hrv.symm
                  | exact absurd c_82 c_48
                  | exact absurd c_48 c_82)
      · obtain ⟨hre, hrv⟩ := ro_frost c_48
        refine aw_aload0 dX3_readOutdoors_51 ?_
        refine aw_iconst (v := 2) dX3_readOutdoors_52 (by decide) ?_
        refine aw_iconst (v := 1) dX3_readOutdoors_53 (by decide) ?_
        refine aw_bipush (v := 20) dX3_readOutdoors_54 (by decide) ?_
        refine aw_VI3 (k3_num2 _ _ _ _ _ _ _ _ _ _ n 1 20 (by decide) (by decide) hh hr hn hn120 hP1 hs1) dX3_readOutdoors_56 vl_3_57 rfl (by decide) (by decide) (Nat.le_of_ble_eq_true rfl) (fun σ_56 r_56 h_56 => ?_)
        obtain ⟨a2, e2, rfl, hP2, hv2⟩ := h_56
        refine aw_goto (tgt := 70) dX3_readOutdoors_59 (by decide) ?_
        refine aw_istore3 dX3_readOutdoors_70 (by decide) rfl ?_
        replace hP2 : PR a2 e2 (ro2 (σ.1 2) n s) := by rw [hre]; exact hP2
        refine aw_aload0 dX3_readOutdoors_71 ?_
        refine aw_getI dX3_readOutdoors_72 fI_3_27 rfl (by decide) (show _ = e2 from (sH_out (by omega)).trans rfl) ?_
        refine aw_bipush (v := (-99)) dX3_readOutdoors_75 (by decide) ?_
        refine aw_ic_ne (tgt := 94) dX3_readOutdoors_77 (by decide) (fun c_77 => ?_) (fun c_77 => ?_)
        · exact aw_vret dX3_readOutdoors_94 rfl (by decide) (by
            first
              | exact ⟨rfl, a2, e2, by rw [roG, if_pos hq]; rfl, hP2⟩
              | exact ⟨rfl, a2, e2, by rw [roG, if_neg (fun z => by rw [(PR_bad hP2 hl2 c_77).1] at z; cases z)], hP2⟩)
        · have hq : (ro2 (σ.1 2) n s).2 = true := (PR_good hP2 hl2 c_77).1
          refine aw_aload1 dX3_readOutdoors_80 ?_
          refine AW.tern0 (E := (rov (σ.1 2) n s)) (pc2 := 91) (fun x_91 hx_91 => ?_) (fun J_91 => ?_)
          · subst hx_91
            refine aw_putI dX3_readOutdoors_91 fP_3_71 hc.t hc.l ?_
            refine AW.eqs (sW_i (j := 1) (by unfold isI; omega)) ?_
            exact aw_vret dX3_readOutdoors_94 rfl (by decide) (by
              first
                | exact ⟨rfl, a2, e2, by rw [roG, if_pos hq]; rfl, hP2⟩
                | exact ⟨rfl, a2, e2, by rw [roG, if_neg (fun z => by rw [(PR_bad hP2 hl2 c_77).1] at z; cases z)], hP2⟩)
          · refine aw_iload2 dX3_readOutdoors_81 ?_
            refine aw_if_eq (tgt := 90) dX3_readOutdoors_82 (by decide) (fun c_82 => ?_) (fun c_82 => ?_)
            · refine aw_iload3 dX3_readOutdoors_90 ?_
              exact J_91 _ (by
                first
                  | (rw [hrv]; exact congrArg (fun x => -x) (hv2 (by rw [hre] at hq; exact hq)))
                  | exact (hv2 (by rw [hre] at hq; exact hq)).trans hrv.symm
                  | exact absurd c_82 c_48
                  | exact absurd c_48 c_82)
            · refine aw_iload3 dX3_readOutdoors_85 ?_
              refine aw_ineg dX3_readOutdoors_86 ?_
              refine aw_goto (tgt := 91) dX3_readOutdoors_87 (by decide) ?_
              exact J_91 _ (by
                first
                  | (rw [hrv]; exact congrArg (fun x => -x) (hv2 (by rw [hre] at hq; exact hq)))
                  | exact (hv2 (by rw [hre] at hq; exact hq)).trans hrv.symm
                  | exact absurd c_82 c_48
                  | exact absurd c_48 c_82)
    · refine aw_iload2 dX3_readOutdoors_26 ?_
      refine aw_if_ne (tgt := 39) dX3_readOutdoors_27 (by decide) (fun c_27 => ?_) (fun c_27 => ?_)
      · refine aw_iconst (v := 1) dX3_readOutdoors_39 (by decide) ?_
        refine aw_goto (tgt := 44) dX3_readOutdoors_40 (by decide) ?_
        exact J_44 _ (by first | exact bor1 c_27 | exact bor2 c_27 (by rw [sgn_nx1 hs0 hn120 (by decide) c_36]; decide) | exact bor0 c_27 (by rw [sgn_nx0 hs0 hn120 c_36]; rfl))
      · refine aw_aload0 dX3_readOutdoors_30 ?_
        refine aw_VI0 (k3_signH _ _ _ _ _ _ _ _ _ n hh hr hn hn120) dX3_readOutdoors_31 vl_3_30 rfl (by decide) (by decide) (Nat.le_of_ble_eq_true rfl) (fun σ_31 r_31 h_31 => ?_)
        obtain ⟨rfl, rfl⟩ := h_31
        refine aw_bipush (v := 43) dX3_readOutdoors_34 (by decide) ?_
        refine aw_ic_ne (tgt := 43) dX3_readOutdoors_36 (by decide) (fun c_36 => ?_) (fun c_36 => ?_)
        · refine aw_iconst (v := 0) dX3_readOutdoors_43 (by decide) ?_
          exact J_44 _ (by first | exact bor1 c_27 | exact bor2 c_27 (by rw [sgn_nx1 hs0 hn120 (by decide) c_36]; decide) | exact bor0 c_27 (by rw [sgn_nx0 hs0 hn120 c_36]; rfl))
        · refine aw_iconst (v := 1) dX3_readOutdoors_39 (by decide) ?_
          refine aw_goto (tgt := 44) dX3_readOutdoors_40 (by decide) ?_
          exact J_44 _ (by first | exact bor1 c_27 | exact bor2 c_27 (by rw [sgn_nx1 hs0 hn120 (by decide) c_36]; decide) | exact bor0 c_27 (by rw [sgn_nx0 hs0 hn120 c_36]; rfl))
  · refine aw_aload0 dX3_readOutdoors_10 ?_
    refine aw_VI0 (k3_signH _ _ _ _ _ _ _ _ _ n hh hr hn hn120) dX3_readOutdoors_11 vl_3_30 rfl (by decide) (by decide) (Nat.le_of_ble_eq_true rfl) (fun σ_11 r_11 h_11 => ?_)
    obtain ⟨rfl, rfl⟩ := h_11
    refine aw_bipush (v := 45) dX3_readOutdoors_14 (by decide) ?_
    refine aw_ic_ne (tgt := 23) dX3_readOutdoors_16 (by decide) (fun c_16 => ?_) (fun c_16 => ?_)
    · refine aw_iconst (v := 0) dX3_readOutdoors_23 (by decide) ?_
      exact J_24 _ (by first | exact congrArg b01 (sgn_nx1 hs0 hn120 (by decide) c_16).symm | exact congrArg b01 (sgn_nx0 hs0 hn120 c_16).symm)
    · refine aw_iconst (v := 1) dX3_readOutdoors_19 (by decide) ?_
      refine aw_goto (tgt := 24) dX3_readOutdoors_20 (by decide) ?_
      exact J_24 _ (by first | exact congrArg b01 (sgn_nx1 hs0 hn120 (by decide) c_16).symm | exact congrArg b01 (sgn_nx0 hs0 hn120 c_16).symm)
set_option maxHeartbeats 4000000 in
theorem k3_readBooking (σ : Sg) (h : Nat) (π : Nat → Nat) (nr ng nb : Nat) (g : Rw) (a er : Int32) (s : PSt) (n : Nat) (hh : 2 < h) (hr : σ.2.1 1 0 = some 2) (hn : σ.1 1 1 = nI n) (hn120 : n ≤ 120) (hc : HC σ h π) (hI : PI n s g nr ng nb) (hP : PR a er s) (hok : s.2 = true) (hlt : s.1 < n) : Ct yX3_readBooking cX3_readBooking mX3_readBooking 4 0 0 NN false (sH (cS σ a er) h π nr ng nb g) [.ref 1, .ref h] NN (rV fun σ2 => ∃ a2 er2, sH (cS σ a2 er2) h π nr ng (if (rbS (σ.1 2) n s g nr ng nb).2 = true then nb + 1 else nb) (rbG (σ.1 2) n s g nr ng nb) = σ2 ∧ PR a2 er2 (rbS (σ.1 2) n s g nr ng nb)) XF := by
  refine ct_of (ls0 := [some (.ref 1), some (.ref h), none, none, none, none, none, none]) 6 (by decide +kernel) rfl rfl (ndR (ndR nd0)) rfl (Nat.le_of_ble_eq_true rfl) (fun K => ?_)
  have hw := hI.2.1
  have hnr4 := hw.nr4
  have hng6 := hw.ng6
  have hnb12 := hw.nb12
  have hs := hI.1
  have ea := PR_ok hP hok
  have hs0 : (rb0 s nr ng nb).1 ≤ n := stp_le hs (fun _ => hlt)
  have hs1 : (rb1 (σ.1 2) n s nr ng nb).1 ≤ n := dig_le hs0
  have hs2 : (rb2 (σ.1 2) n s nr ng nb).1 ≤ n := dig_le hs1
  have hs3 : (rb3 (σ.1 2) n s nr ng nb).1 ≤ n := dig_le hs2
  have hs4 : (rb4 (σ.1 2) n s nr ng nb).1 ≤ n := two_le hs3
  have hs5 : (rb5 (σ.1 2) n s nr ng nb).1 ≤ n := two_le hs4
  have hl6 : (rb6 (σ.1 2) n s nr ng nb).1 < 1000 := Nat.lt_of_le_of_lt (two_le hs5) (by omega)
  refine aw_aload0 dX3_readBooking_0 ?_
  refine aw_getI dX3_readBooking_1 fI_3_24 rfl (by decide) (show _ = a from (sH_out (by omega)).trans rfl) ?_
  refine aw_istore2 dX3_readBooking_4 (by decide) rfl ?_
  refine aw_aload0 dX3_readBooking_5 ?_
  refine AW.tern0 (E := (b01 (rbc nr ng nb))) (pc2 := 34) (fun x_34 hx_34 => ?_) (fun J_34 => ?_)
  · subst hx_34
    refine aw_VV1 (k3_require _ _ _ _ _ _ _ _ _ _ _ (by omega) hP (Nat.lt_of_le_of_lt hs (by omega))) dX3_readBooking_34 vl_3_34 rfl (by decide) (by decide) (Nat.le_of_ble_eq_true rfl) (fun σ_34 h_34 => ?_)
    obtain ⟨a0, e0, rfl, hP0⟩ := h_34
    refine aw_aload0 dX3_readBooking_37 ?_
    refine aw_iconst (v := 1) dX3_readBooking_38 (by decide) ?_
    refine aw_iconst (v := 0) dX3_readBooking_39 (by decide) ?_
    refine aw_aload1 dX3_readBooking_40 ?_
    refine aw_getI dX3_readBooking_41 fI_3_54 hc.t hc.l (sH_nr.trans hw.nr) ?_
    refine aw_iconst (v := 1) dX3_readBooking_44 (by decide) ?_
    refine aw_isub dX3_readBooking_45 ?_
    refine aw_VI3 (k3_num1 _ _ _ _ _ _ _ _ _ _ n _ _ hh hr hn hn120 hP0 hs0) dX3_readBooking_46 vl_3_57 rfl (by decide) (by decide) (Nat.le_of_ble_eq_true rfl) (fun σ_46 r_46 h_46 => ?_)
    obtain ⟨a1, e1, rfl, hP1, hv1⟩ := h_46
    replace hP1 : PR a1 e1 (rb1 (σ.1 2) n s nr ng nb) := hP1
    refine aw_istore3 dX3_readBooking_49 (by decide) rfl ?_
    refine aw_aload0 dX3_readBooking_50 ?_
    refine aw_iconst (v := 1) dX3_readBooking_51 (by decide) ?_
    refine aw_iconst (v := 0) dX3_readBooking_52 (by decide) ?_
    refine aw_aload1 dX3_readBooking_53 ?_
    refine aw_getI dX3_readBooking_54 fI_3_65 hc.t hc.l (sH_ng.trans hw.ng) ?_
    refine aw_iconst (v := 1) dX3_readBooking_57 (by decide) ?_
    refine aw_isub dX3_readBooking_58 ?_
    refine aw_VI3 (k3_num1 _ _ _ _ _ _ _ _ _ _ n _ _ hh hr hn hn120 hP1 hs1) dX3_readBooking_59 vl_3_57 rfl (by decide) (by decide) (Nat.le_of_ble_eq_true rfl) (fun σ_59 r_59 h_59 => ?_)
    obtain ⟨a2, e2, rfl, hP2, hv2⟩ := h_59
    replace hP2 : PR a2 e2 (rb2 (σ.1 2) n s nr ng nb) := hP2
    refine aw_istore4 dX3_readBooking_62 (by decide) rfl ?_
    refine aw_aload0 dX3_readBooking_64 ?_
    refine aw_iconst (v := 3) dX3_readBooking_65 (by decide) ?_
    refine aw_iconst (v := 0) dX3_readBooking_66 (by decide) ?_
    refine aw_sipush (v := 199) dX3_readBooking_67 (by decide) ?_
    refine aw_VI3 (k3_num3 _ _ _ _ _ _ _ _ _ _ n hh hr hn hn120 hP2 hs2) dX3_readBooking_70 vl_3_57 rfl (by decide) (by decide) (Nat.le_of_ble_eq_true rfl) (fun σ_70 r_70 h_70 => ?_)
    obtain ⟨a4, e4, rfl, hP4, hv4⟩ := h_70
    replace hP4 : PR a4 e4 (rb4 (σ.1 2) n s nr ng nb) := hP4
    refine aw_istore5 dX3_readBooking_73 (by decide) rfl ?_
    refine aw_aload0 dX3_readBooking_75 ?_
    refine aw_iconst (v := 2) dX3_readBooking_76 (by decide) ?_
    refine aw_iconst (v := 1) dX3_readBooking_77 (by decide) ?_
    refine aw_bipush (v := 12) dX3_readBooking_78 (by decide) ?_
    refine aw_VI3 (k3_num2 _ _ _ _ _ _ _ _ _ _ n 1 12 (by decide) (by decide) hh hr hn hn120 hP4 hs4) dX3_readBooking_80 vl_3_57 rfl (by decide) (by decide) (Nat.le_of_ble_eq_true rfl) (fun σ_80 r_80 h_80 => ?_)
    obtain ⟨a5, e5, rfl, hP5, hv5⟩ := h_80
    replace hP5 : PR a5 e5 (rb5 (σ.1 2) n s nr ng nb) := hP5
    refine aw_istore6 dX3_readBooking_83 (by decide) rfl ?_
    refine aw_aload0 dX3_readBooking_85 ?_
    refine aw_iconst (v := 2) dX3_readBooking_86 (by decide) ?_
    refine aw_bipush (v := 12) dX3_readBooking_87 (by decide) ?_
    refine aw_bipush (v := 25) dX3_readBooking_89 (by decide) ?_
    refine aw_VI3 (k3_num2 _ _ _ _ _ _ _ _ _ _ n 12 25 (by decide) (by decide) hh hr hn hn120 hP5 hs5) dX3_readBooking_91 vl_3_57 rfl (by decide) (by decide) (Nat.le_of_ble_eq_true rfl) (fun σ_91 r_91 h_91 => ?_)
    obtain ⟨a6, e6, rfl, hP6, hv6⟩ := h_91
    replace hP6 : PR a6 e6 (rb6 (σ.1 2) n s nr ng nb) := hP6
    refine aw_istore7 dX3_readBooking_94 (by decide) rfl ?_
    refine aw_aload0 dX3_readBooking_96 ?_
    refine aw_getI dX3_readBooking_97 fI_3_27 rfl (by decide) (show _ = e6 from (sH_out (by omega)).trans rfl) ?_
    refine aw_bipush (v := (-99)) dX3_readBooking_100 (by decide) ?_
    refine aw_ic_eq (tgt := 106) dX3_readBooking_102 (by decide) (fun c_102 => ?_) (fun c_102 => ?_)
    · have h6 : (rb6 (σ.1 2) n s nr ng nb).2 = true := (PR_good hP6 hl6 c_102).1
      have q5 := (dig_ok (two_ok h6)).1
      have q4 := (dig_ok (two_ok q5)).1
      have q3 := (dig_ok (two_ok q4)).1
      have q2 := (dig_ok q3).1
      have q1 := (dig_ok q2).1
      have hnb := (rb_nb12 (rb_nb h6)).1
      obtain rfl := hv1 q1
      obtain rfl := hv2 q2
      obtain rfl := hv4 q4
      obtain rfl := hv5 q5
      obtain rfl := hv6 h6
      refine aw_aload1 dX3_readBooking_106 ?_
      refine aw_iload3 dX3_readBooking_107 ?_
      refine aw_iload5 dX3_readBooking_108 ?_
      refine aw_iload6 dX3_readBooking_110 ?_
      refine aw_VI3 (k2_hasPlaceFor (cS σ a6 e6) h π nr ng nb 0 g (rbr (σ.1 2) n s nr ng nb) (rbf (σ.1 2) n s nr ng nb) (rbh (σ.1 2) n s nr ng nb) hc hw) dX3_readBooking_112 vl_3_77 hc.t hc.l (by decide) (Nat.le_of_ble_eq_true rfl) (fun σ_112 r_112 h_112 => ?_)
      obtain ⟨rfl, h_112⟩ := h_112
      rcases h_112 with ⟨rfl, p_112⟩ | ⟨rfl, p_112⟩
      · refine aw_if_eq (tgt := 135) dX3_readBooking_115 (by decide) (fun c_115 => absurd c_115 (by decide)) (fun _ => ?_)
        refine aw_aload1 dX3_readBooking_118 ?_
        refine aw_iload3 dX3_readBooking_119 ?_
        refine aw_iload4 dX3_readBooking_120 ?_
        refine aw_iload5 dX3_readBooking_122 ?_
        refine aw_iload6 dX3_readBooking_124 ?_
        refine aw_iload7 dX3_readBooking_126 ?_
        refine aw_VI5 (k2_newBooking (cS σ a6 e6) h π nr ng nb 0 g (rbr (σ.1 2) n s nr ng nb) (rbw (σ.1 2) n s nr ng nb) (rbf (σ.1 2) n s nr ng nb) (rbh (σ.1 2) n s nr ng nb) (rbt (σ.1 2) n s nr ng nb) hc hw hnb) dX3_readBooking_128 vl_3_81 hc.t hc.l (by decide) (Nat.le_of_ble_eq_true rfl) (fun σ_128 r_128 h_128 => ?_)
        obtain ⟨rfl, rfl⟩ := h_128
        refine aw_pop dX3_readBooking_131 rfl ?_
        refine aw_goto (tgt := 140) dX3_readBooking_132 (by decide) ?_
        exact aw_vret dX3_readBooking_140 rfl (by decide) (by
          first
            | (have hq : rbq (σ.1 2) n s g nr ng nb = true := @decide_eq_true _ (Classical.propDecidable _) p_112.2
               have e : rbS (σ.1 2) n s g nr ng nb = (rb6 (σ.1 2) n s nr ng nb) := by rw [rbS_t h6, hq, if_pos rfl]; exact Prod.ext rfl h6.symm
               rw [e]
               have eG : rbG (σ.1 2) n s g nr ng nb = _ := if_pos ⟨h6, hq⟩
               exact ⟨rfl, a6, e6, by rw [eG, if_pos h6], hP6⟩)
            | (have hq : rbq (σ.1 2) n s g nr ng nb = false := @decide_eq_false _ (Classical.propDecidable _) (fun z => p_112 ⟨hnb, z⟩)
               have e : rbS (σ.1 2) n s g nr ng nb = (s.1, false) := by rw [rbS_t h6, hq, if_neg (by decide)]
               rw [e]
               have eG : rbG (σ.1 2) n s g nr ng nb = g := if_neg (fun z => by rw [hq] at z; exact absurd z.2 (by decide))
               exact ⟨rfl, a6, a, by rw [eG, if_neg (show ¬ false = true by decide)], Or.inr ⟨rfl, ea⟩⟩))
      · refine aw_if_eq (tgt := 135) dX3_readBooking_115 (by decide) (fun _ => ?_) (fun c_115 => absurd c_115 (by decide))
        refine aw_aload0 dX3_readBooking_135 ?_
        refine aw_iload2 dX3_readBooking_136 ?_
        refine aw_putI dX3_readBooking_137 fP_3_27 rfl (by decide) ?_
        refine AW.eqs ((sI_sH_out (by omega)).trans (by rw [cS_er])) ?_
        exact aw_vret dX3_readBooking_140 rfl (by decide) (by
          first
            | (have hq : rbq (σ.1 2) n s g nr ng nb = true := @decide_eq_true _ (Classical.propDecidable _) p_112.2
               have e : rbS (σ.1 2) n s g nr ng nb = (rb6 (σ.1 2) n s nr ng nb) := by rw [rbS_t h6, hq, if_pos rfl]; exact Prod.ext rfl h6.symm
               rw [e]
               have eG : rbG (σ.1 2) n s g nr ng nb = _ := if_pos ⟨h6, hq⟩
               exact ⟨rfl, a6, e6, by rw [eG, if_pos h6], hP6⟩)
            | (have hq : rbq (σ.1 2) n s g nr ng nb = false := @decide_eq_false _ (Classical.propDecidable _) (fun z => p_112 ⟨hnb, z⟩)
               have e : rbS (σ.1 2) n s g nr ng nb = (s.1, false) := by rw [rbS_t h6, hq, if_neg (by decide)]
               rw [e]
               have eG : rbG (σ.1 2) n s g nr ng nb = g := if_neg (fun z => by rw [hq] at z; exact absurd z.2 (by decide))
               exact ⟨rfl, a6, a, by rw [eG, if_neg (show ¬ false = true by decide)], Or.inr ⟨rfl, ea⟩⟩))
    · exact aw_vret dX3_readBooking_105 rfl (by decide) (by
        have q0 := (PR_bad hP6 hl6 c_102).1
        have e : rbS (σ.1 2) n s g nr ng nb = (rb6 (σ.1 2) n s nr ng nb) := by rw [rbS, if_neg (fun z => by rw [q0] at z; cases z)]
        rw [e]
        have eG : rbG (σ.1 2) n s g nr ng nb = g := if_neg (fun z => by rw [q0] at z; exact absurd z.1 (by decide))
        exact ⟨rfl, a6, e6, by rw [eG, if_neg (fun z => by rw [q0] at z; cases z)], hP6⟩)
  · refine aw_aload1 dX3_readBooking_6 ?_
    refine aw_getI dX3_readBooking_7 fI_3_54 hc.t hc.l (sH_nr.trans hw.nr) ?_
    refine aw_if_le (tgt := 33) dX3_readBooking_10 (by decide) (fun c_10 => ?_) (fun c_10 => ?_)
    · refine aw_iconst (v := 0) dX3_readBooking_33 (by decide) ?_
      exact J_34 _ (by first | exact rbc_1 (by have := mt (nI_leI (a := 12) (by omega) (by omega)).mpr c_26; omega) (nI_nz c_10) (nI_nz c_17) | exact rbc_0 (fun h => absurd ((nI_leI (a := 12) (by omega) (by omega)).mp c_26) (by omega)) | exact rbc_0 (fun h => nI_nle h.2.1 (by omega) c_10) | exact rbc_0 (fun h => nI_nle h.2.2 (by omega) c_17))
    · refine aw_aload1 dX3_readBooking_13 ?_
      refine aw_getI dX3_readBooking_14 fI_3_65 hc.t hc.l (sH_ng.trans hw.ng) ?_
      refine aw_if_le (tgt := 33) dX3_readBooking_17 (by decide) (fun c_17 => ?_) (fun c_17 => ?_)
      · refine aw_iconst (v := 0) dX3_readBooking_33 (by decide) ?_
        exact J_34 _ (by first | exact rbc_1 (by have := mt (nI_leI (a := 12) (by omega) (by omega)).mpr c_26; omega) (nI_nz c_10) (nI_nz c_17) | exact rbc_0 (fun h => absurd ((nI_leI (a := 12) (by omega) (by omega)).mp c_26) (by omega)) | exact rbc_0 (fun h => nI_nle h.2.1 (by omega) c_10) | exact rbc_0 (fun h => nI_nle h.2.2 (by omega) c_17))
      · refine aw_aload1 dX3_readBooking_20 ?_
        refine aw_getI dX3_readBooking_21 fI_3_74 hc.t hc.l (sH_nb.trans hw.nb) ?_
        refine aw_bipush (v := 12) dX3_readBooking_24 (by decide) ?_
        refine aw_ic_ge (tgt := 33) dX3_readBooking_26 (by decide) (fun c_26 => ?_) (fun c_26 => ?_)
        · refine aw_iconst (v := 0) dX3_readBooking_33 (by decide) ?_
          exact J_34 _ (by first | exact rbc_1 (by have := mt (nI_leI (a := 12) (by omega) (by omega)).mpr c_26; omega) (nI_nz c_10) (nI_nz c_17) | exact rbc_0 (fun h => absurd ((nI_leI (a := 12) (by omega) (by omega)).mp c_26) (by omega)) | exact rbc_0 (fun h => nI_nle h.2.1 (by omega) c_10) | exact rbc_0 (fun h => nI_nle h.2.2 (by omega) c_17))
        · refine aw_iconst (v := 1) dX3_readBooking_29 (by decide) ?_
          refine aw_goto (tgt := 34) dX3_readBooking_30 (by decide) ?_
          exact J_34 _ (by first | exact rbc_1 (by have := mt (nI_leI (a := 12) (by omega) (by omega)).mpr c_26; omega) (nI_nz c_10) (nI_nz c_17) | exact rbc_0 (fun h => absurd ((nI_leI (a := 12) (by omega) (by omega)).mp c_26) (by omega)) | exact rbc_0 (fun h => nI_nle h.2.1 (by omega) c_10) | exact rbc_0 (fun h => nI_nle h.2.2 (by omega) c_17))
set_option maxHeartbeats 4000000 in
theorem k3_readPart (σ : Sg) (h : Nat) (π : Nat → Nat) (nr ng nb : Nat) (g : Rw) (a er : Int32) (s : PSt) (n : Nat) (hh : 2 < h) (hr : σ.2.1 1 0 = some 2) (hn : σ.1 1 1 = nI n) (hn120 : n ≤ 120) (hc : HC σ h π) (hI : PI n s g nr ng nb) (hP : PR a er s) (hok : s.2 = true) (hlt : s.1 < n) : Ct yX3_readPart cX3_readPart mX3_readPart 5 0 0 NN false (sH (cS σ a er) h π nr ng nb g) [.ref 1, .ref h] NN (rV fun σ2 => ∃ a2 er2, sH (cS σ a2 er2) h π (pPart (σ.1 2) n s g nr ng nb).2.2.1 (pPart (σ.1 2) n s g nr ng nb).2.2.2.1 (pPart (σ.1 2) n s g nr ng nb).2.2.2.2 (pPart (σ.1 2) n s g nr ng nb).2.1 = σ2 ∧ PR a2 er2 (pPart (σ.1 2) n s g nr ng nb).1) XF := by
  refine ct_of (ls0 := [some (.ref 1), some (.ref h)]) 0 (by decide +kernel) rfl rfl (ndR (ndR nd0)) rfl (Nat.le_of_ble_eq_true rfl) (fun K => ?_)
  have hw := hI.2.1
  have hnr4 := hw.nr4
  have hng6 := hw.ng6
  have hnb12 := hw.nb12
  have hs := hI.1
  have ea := PR_ok hP hok
  refine aw_aload0 dX3_readPart_0 ?_
  refine aw_VI0 (k3_signH _ _ _ _ _ _ _ _ _ n hh hr hn hn120) dX3_readPart_1 vl_3_30 rfl (by decide) (by decide) (Nat.le_of_ble_eq_true rfl) (fun σ_1 r_1 h_1 => ?_)
  obtain ⟨rfl, rfl⟩ := h_1
  have hnx : ∀ c : Int32, nx (σ.1 2) n s.1 c = decide (sgn (σ.1 2) n a = c) := fun c => by
    rw [ea, sgn_at hs hn120, if_pos hlt, nx, decide_eq_true hlt, Bool.true_and]
  generalize hv : sgn (σ.1 2) n a = v at hnx ⊢
  by_cases q114 : v = 114
  · subst q114
    refine aw_lookup (off := 44) (tgt := 48) dX3_readPart_4 (by decide) (by decide) (by decide) ?_
    have hp := @pPart_r (σ.1 2) n s g nr ng nb (by rw [hnx]; decide)
    refine aw_aload0 dX3_readPart_48 ?_
    refine aw_aload1 dX3_readPart_49 ?_
    refine aw_VV1 (k3_readRoom σ h π nr ng nb g a er s n hh hr hn hn120 hc hI hP hok hlt) dX3_readPart_50 vl_3_42 rfl (by decide) (by decide) (Nat.le_of_ble_eq_true rfl) (fun σ_50 h_50 => ?_)
    obtain ⟨a2, e2, rfl, hP2⟩ := h_50
    refine aw_goto (tgt := 85) dX3_readPart_53 (by decide) ?_
    exact aw_vret dX3_readPart_85 rfl (by decide) (by
      rw [hp]
      exact ⟨rfl, a2, e2, rfl, hP2⟩)
  by_cases q98 : v = 98
  · subst q98
    refine aw_lookup (off := 68) (tgt := 72) dX3_readPart_4 (by decide) (by decide) (by decide) ?_
    have hp := @pPart_b (σ.1 2) n s g nr ng nb (by rw [hnx]; decide) (by rw [hnx]; decide)
    refine aw_aload0 dX3_readPart_72 ?_
    refine aw_aload1 dX3_readPart_73 ?_
    refine aw_VV1 (k3_readBooking σ h π nr ng nb g a er s n hh hr hn hn120 hc hI hP hok hlt) dX3_readPart_74 vl_3_51 rfl (by decide) (by decide) (Nat.le_of_ble_eq_true rfl) (fun σ_74 h_74 => ?_)
    obtain ⟨a2, e2, rfl, hP2⟩ := h_74
    refine aw_goto (tgt := 85) dX3_readPart_77 (by decide) ?_
    exact aw_vret dX3_readPart_85 rfl (by decide) (by
      rw [hp]
      exact ⟨rfl, a2, e2, rfl, hP2⟩)
  by_cases q103 : v = 103
  · subst q103
    refine aw_lookup (off := 52) (tgt := 56) dX3_readPart_4 (by decide) (by decide) (by decide) ?_
    have hp := @pPart_g (σ.1 2) n s g nr ng nb (by rw [hnx]; decide) (by rw [hnx]; decide) (by rw [hnx]; decide)
    refine aw_aload0 dX3_readPart_56 ?_
    refine aw_aload1 dX3_readPart_57 ?_
    refine aw_VV1 (k3_readGroup σ h π nr ng nb g a er s n hh hr hn hn120 hc hI hP hok hlt) dX3_readPart_58 vl_3_45 rfl (by decide) (by decide) (Nat.le_of_ble_eq_true rfl) (fun σ_58 h_58 => ?_)
    obtain ⟨a2, e2, rfl, hP2⟩ := h_58
    refine aw_goto (tgt := 85) dX3_readPart_61 (by decide) ?_
    exact aw_vret dX3_readPart_85 rfl (by decide) (by
      rw [hp]
      exact ⟨rfl, a2, e2, rfl, hP2⟩)
  by_cases q111 : v = 111
  · subst q111
    refine aw_lookup (off := 60) (tgt := 64) dX3_readPart_4 (by decide) (by decide) (by decide) ?_
    have hp := @pPart_o (σ.1 2) n s g nr ng nb (by rw [hnx]; decide) (by rw [hnx]; decide) (by rw [hnx]; decide)
    refine aw_aload0 dX3_readPart_64 ?_
    refine aw_aload1 dX3_readPart_65 ?_
    refine aw_VV1 (k3_readOutdoors σ h π nr ng nb g a er s n hh hr hn hn120 hc hI hP hok hlt (hx1 := by rw [hnx]; decide)) dX3_readPart_66 vl_3_48 rfl (by decide) (by decide) (Nat.le_of_ble_eq_true rfl) (fun σ_66 h_66 => ?_)
    obtain ⟨a2, e2, rfl, hP2⟩ := h_66
    refine aw_goto (tgt := 85) dX3_readPart_69 (by decide) ?_
    exact aw_vret dX3_readPart_85 rfl (by decide) (by
      rw [hp]
      exact ⟨rfl, a2, e2, rfl, hP2⟩)
  refine aw_lookup (off := 76) (tgt := 80) dX3_readPart_4 (by decide) (lk_none q98 q103 q111 q114) (by decide) ?_
  have hp := @pPart_o (σ.1 2) n s g nr ng nb (by rw [hnx, decide_eq_false q114]; rfl) (by rw [hnx, decide_eq_false q98]; rfl) (by rw [hnx, decide_eq_false q103]; rfl)
  have hb := @ro_bad (σ.1 2) n s (by rw [hnx, decide_eq_false q111])
  have hgG : roG (σ.1 2) n s g = g := by rw [roG, hb, if_neg (fun z => by rw [stp_f rfl] at z; cases z)]
  rw [hb, hgG] at hp
  refine aw_aload0 dX3_readPart_80 ?_
  refine aw_iconst (v := 0) dX3_readPart_81 (by decide) ?_
  refine aw_VV1 (k3_require _ _ _ _ _ _ _ _ _ _ false (by omega) hP (Nat.lt_of_le_of_lt hs (by omega))) dX3_readPart_82 vl_3_34 rfl (by decide) (by decide) (Nat.le_of_ble_eq_true rfl) (fun σ_82 h_82 => ?_)
  obtain ⟨a2, e2, rfl, hP2⟩ := h_82
  exact aw_vret dX3_readPart_85 rfl (by decide) (by
    rw [hp]
    exact ⟨rfl, a2, e2, rfl, hP2⟩)
theorem PR_err {a er : Int32} {s : PSt} (h : PR a er s) : pErr s = er := by
  rcases h with q | q
  · rw [pErr, if_pos q.1, q.2.2]
  · rw [pErr, if_neg (by rw [q.1]; decide), q.2]
set_option maxHeartbeats 4000000 in
theorem k3_readInto (σ : Sg) (h : Nat) (π : Nat → Nat) (n : Nat) (g0 : Rw) (hh : 2 < h) (hr : σ.2.1 1 0 = some 2) (hn : σ.1 1 1 = nI n) (hn120 : n ≤ 120) (hc : HC σ h π) (hB : ∀ j, j < 12 → σ.2.1 (h + 3) j = some (h + 8 + π j)) : Ct yX3_readInto cX3_readInto mX3_readInto 6 0 0 NN false σ [.ref 1, .ref h] NN (rI fun σ2 v => ∃ a2 er2, sH (cS σ a2 er2) h π (pText (σ.1 2) n (fClean g0)).2.2.1 (pText (σ.1 2) n (fClean g0)).2.2.2.1 (pText (σ.1 2) n (fClean g0)).2.2.2.2 (pText (σ.1 2) n (fClean g0)).2.1 = σ2 ∧ pErr (pText (σ.1 2) n (fClean g0)).1 = v) XF := by
  refine ct_of (ls0 := [some (.ref 1), some (.ref h), none]) 1 (by decide +kernel) rfl rfl (ndR (ndR nd0)) rfl (Nat.le_of_ble_eq_true rfl) (fun K => ?_)
  refine AW.eqs (sH_start (h := h) (π := π) (g := g0) hB).symm ?_
  have L35 : ∀ (k : Nat) (i : Nat) (nr ng nb : Nat) (g : Rw) (a er : Int32) (s : PSt) (h1 : i ≤ 120) (hI : PI n s g nr ng nb) (hP : PR a er s) (hR : pLoop (σ.1 2) n (120 - i) (s, g, nr, ng, nb) = (pText (σ.1 2) n (fClean g0))) (h2 : 120 - i < k), AW K RX3 cX3_readInto mX3_readInto 6 0 0 (Qm K NN (rI fun σ2 v => ∃ a2 er2, sH (cS σ a2 er2) h π (pText (σ.1 2) n (fClean g0)).2.2.1 (pText (σ.1 2) n (fClean g0)).2.2.2.1 (pText (σ.1 2) n (fClean g0)).2.2.2.2 (pText (σ.1 2) n (fClean g0)).2.1 = σ2 ∧ pErr (pText (σ.1 2) n (fClean g0)).1 = v) XF 0 0) NN none (sH (cS σ a er) h π nr ng nb g) 0 0 35 [some (.ref 1), some (.ref h), some (.int (nI i))] [] := by
    intro k
    induction k with
    | zero => intro i nr ng nb g a er s h1 hI hP hR h2; exact absurd h2 (Nat.not_lt_zero _)
    | succ k ih =>
      intro i nr ng nb g a er s h1 hI hP hR h2
      refine aw_iload2 dX3_readInto_35 ?_
      refine aw_bipush (v := 120) dX3_readInto_36 (by decide) ?_
      refine aw_ic_ge (tgt := 72) dX3_readInto_38 (by decide) (fun c_38 => ?_) (fun c_38 => ?_)
      · have hend : rI (fun σ2 v => ∃ a2 er2, sH (cS σ a2 er2) h π (pText (σ.1 2) n (fClean g0)).2.2.1 (pText (σ.1 2) n (fClean g0)).2.2.2.1 (pText (σ.1 2) n (fClean g0)).2.2.2.2 (pText (σ.1 2) n (fClean g0)).2.1 = σ2 ∧ pErr (pText (σ.1 2) n (fClean g0)).1 = v) (sH (cS σ a er) h π nr ng nb g) (some (.int er)) := by
          have e : pLoop (σ.1 2) n (120 - i) (s, g, nr, ng, nb) = (s, g, nr, ng, nb) := by
            first
              | (have : i = 120 := by have := (nI_leI (a := 120) (by omega) (by omega)).mp c_38; omega
                 rw [show 120 - i = 0 by omega]
                 rfl)
              | exact pLoop_e (fun z => c_47 (hP.elim (fun y => y.2.2) (fun y => by rw [y.1] at z; exact absurd z.1 (by decide))))
              | exact pLoop_e (fun z => by
                  have hz := z.2
                  have := hI.1
                  exact absurd (nI_lt hz (by omega)) (by rw [← ha]; exact Int32.not_lt.mpr c_58))
          have e2 : (pText (σ.1 2) n (fClean g0)) = (s, g, nr, ng, nb) := hR.symm.trans e
          rw [e2]
          exact ⟨_, rfl, a, er, rfl, PR_err hP⟩
        refine aw_aload0 dX3_readInto_72 ?_
        refine aw_getI dX3_readInto_73 fI_3_27 rfl (by decide) (show _ = er from (sH_out (by omega)).trans rfl) ?_
        exact aw_iret dX3_readInto_76 rfl (by decide) hend
      · have hi : i < 120 := by
          rcases Nat.lt_or_ge i 120 with q | q
          · exact q
          · exact absurd (nI_le (a := 120) q (by omega)) c_38
        refine aw_aload0 dX3_readInto_41 ?_
        refine aw_getI dX3_readInto_42 fI_3_27 rfl (by decide) (show _ = er from (sH_out (by omega)).trans rfl) ?_
        refine aw_bipush (v := (-99)) dX3_readInto_45 (by decide) ?_
        refine aw_ic_ne (tgt := 72) dX3_readInto_47 (by decide) (fun c_47 => ?_) (fun c_47 => ?_)
        · have hend : rI (fun σ2 v => ∃ a2 er2, sH (cS σ a2 er2) h π (pText (σ.1 2) n (fClean g0)).2.2.1 (pText (σ.1 2) n (fClean g0)).2.2.2.1 (pText (σ.1 2) n (fClean g0)).2.2.2.2 (pText (σ.1 2) n (fClean g0)).2.1 = σ2 ∧ pErr (pText (σ.1 2) n (fClean g0)).1 = v) (sH (cS σ a er) h π nr ng nb g) (some (.int er)) := by
            have e : pLoop (σ.1 2) n (120 - i) (s, g, nr, ng, nb) = (s, g, nr, ng, nb) := by
              first
                | (have : i = 120 := by have := (nI_leI (a := 120) (by omega) (by omega)).mp c_38; omega
                   rw [show 120 - i = 0 by omega]
                   rfl)
                | exact pLoop_e (fun z => c_47 (hP.elim (fun y => y.2.2) (fun y => by rw [y.1] at z; exact absurd z.1 (by decide))))
                | exact pLoop_e (fun z => by
                    have hz := z.2
                    have := hI.1
                    exact absurd (nI_lt hz (by omega)) (by rw [← ha]; exact Int32.not_lt.mpr c_58))
            have e2 : (pText (σ.1 2) n (fClean g0)) = (s, g, nr, ng, nb) := hR.symm.trans e
            rw [e2]
            exact ⟨_, rfl, a, er, rfl, PR_err hP⟩
          refine aw_aload0 dX3_readInto_72 ?_
          refine aw_getI dX3_readInto_73 fI_3_27 rfl (by decide) (show _ = er from (sH_out (by omega)).trans rfl) ?_
          exact aw_iret dX3_readInto_76 rfl (by decide) hend
        · obtain ⟨hok, ha⟩ := PR_good hP (Nat.lt_of_le_of_lt hI.1 (by omega)) c_47
          refine aw_aload0 dX3_readInto_50 ?_
          refine aw_getI dX3_readInto_51 fI_3_24 rfl (by decide) (show _ = a from (sH_out (by omega)).trans rfl) ?_
          refine aw_aload0 dX3_readInto_54 ?_
          refine aw_getI dX3_readInto_55 fI_3_15 rfl (by decide) ((sH_out (by omega)).trans hn) ?_
          refine aw_ic_ge (tgt := 72) dX3_readInto_58 (by decide) (fun c_58 => ?_) (fun c_58 => ?_)
          · have hend : rI (fun σ2 v => ∃ a2 er2, sH (cS σ a2 er2) h π (pText (σ.1 2) n (fClean g0)).2.2.1 (pText (σ.1 2) n (fClean g0)).2.2.2.1 (pText (σ.1 2) n (fClean g0)).2.2.2.2 (pText (σ.1 2) n (fClean g0)).2.1 = σ2 ∧ pErr (pText (σ.1 2) n (fClean g0)).1 = v) (sH (cS σ a er) h π nr ng nb g) (some (.int er)) := by
              have e : pLoop (σ.1 2) n (120 - i) (s, g, nr, ng, nb) = (s, g, nr, ng, nb) := by
                first
                  | (have : i = 120 := by have := (nI_leI (a := 120) (by omega) (by omega)).mp c_38; omega
                     rw [show 120 - i = 0 by omega]
                     rfl)
                  | exact pLoop_e (fun z => c_47 (hP.elim (fun y => y.2.2) (fun y => by rw [y.1] at z; exact absurd z.1 (by decide))))
                  | exact pLoop_e (fun z => by
                      have hz := z.2
                      have := hI.1
                      exact absurd (nI_lt hz (by omega)) (by rw [← ha]; exact Int32.not_lt.mpr c_58))
              have e2 : (pText (σ.1 2) n (fClean g0)) = (s, g, nr, ng, nb) := hR.symm.trans e
              rw [e2]
              exact ⟨_, rfl, a, er, rfl, PR_err hP⟩
            refine aw_aload0 dX3_readInto_72 ?_
            refine aw_getI dX3_readInto_73 fI_3_27 rfl (by decide) (show _ = er from (sH_out (by omega)).trans rfl) ?_
            exact aw_iret dX3_readInto_76 rfl (by decide) hend
          · have hlt : s.1 < n := by
              rcases Nat.lt_or_ge s.1 n with q | q
              · exact q
              · exact absurd (by rw [ha]; exact nI_le q (by have := hI.1; omega)) c_58
            refine aw_aload0 dX3_readInto_61 ?_
            refine aw_aload1 dX3_readInto_62 ?_
            refine aw_VV1 (k3_readPart σ h π nr ng nb g a er s n hh hr hn hn120 hc hI hP hok hlt) dX3_readInto_63 vl_3_38 rfl (by decide) (by decide) (Nat.le_of_ble_eq_true rfl) (fun σ_63 h_63 => ?_)
            obtain ⟨a2, e2, rfl, hP2⟩ := h_63
            refine aw_iinc2 (w := nI (i + 1)) dX3_readInto_66 (nI_1 i) (by decide) rfl ?_
            refine aw_goto (tgt := 35) dX3_readInto_69 (by decide) ?_
            have hX := hI.part (T := σ.1 2) hok hlt
            exact ih (i + 1) _ _ _ _ a2 e2 _ (by omega) hX.1 hP2 (by rw [show 120 - i = 120 - (i + 1) + 1 by omega, pLoop_s hok hlt] at hR; exact hR) (by omega)
  refine aw_aload1 dX3_readInto_0 ?_
  refine aw_VV0 (k2_clear σ h π _ g0 hc) dX3_readInto_1 vl_3_19 hc.t hc.l (by decide) (Nat.le_of_ble_eq_true rfl) (fun σ_1 h_1 => ?_)
  obtain rfl := h_1
  refine aw_aload0 dX3_readInto_4 ?_
  refine aw_iconst (v := 0) dX3_readInto_5 (by decide) ?_
  refine aw_putI dX3_readInto_6 fP_3_24 rfl (by decide) ?_
  refine AW.eqs (sI_sH_out (by omega)) ?_
  refine aw_aload0 dX3_readInto_9 ?_
  refine aw_bipush (v := (-99)) dX3_readInto_10 (by decide) ?_
  refine aw_putI dX3_readInto_12 fP_3_27 rfl (by decide) ?_
  refine AW.eqs ((sI_sH_out (by omega)).trans (show _ = sH (cS σ 0 (-99)) h π 0 0 0 (fClean g0) from rfl)) ?_
  have hP : PR 0 (-99) (0, true) := Or.inl ⟨rfl, rfl, rfl⟩
  refine aw_aload0 dX3_readInto_15 ?_
  refine AW.tern0 (E := (b01 (nx (σ.1 2) n 0 72))) (pc2 := 30) (fun x_30 hx_30 => ?_) (fun J_30 => ?_)
  · subst hx_30
    refine aw_VV1 (k3_require _ _ _ _ _ _ _ _ _ (0, true) _ (by omega) hP (by decide)) dX3_readInto_30 vl_3_34 rfl (by decide) (by decide) (Nat.le_of_ble_eq_true rfl) (fun σ_30 h_30 => ?_)
    obtain ⟨a1, e1, rfl, hP1⟩ := h_30
    refine aw_iconst (v := 0) dX3_readInto_33 (by decide) ?_
    refine aw_istore2 dX3_readInto_34 (by decide) rfl ?_
    exact L35 121 0 0 0 0 _ a1 e1 _ (by omega) ⟨stp_le (Nat.zero_le _) nx_lt, WF.clean, fun i hi => by rw [fClean, if_neg (by omega), if_pos (by omega)]⟩ hP1 rfl (by omega)
  · refine aw_aload0 dX3_readInto_16 ?_
    refine aw_VI0 (k3_signH _ _ _ _ _ _ _ _ _ n hh hr hn hn120) dX3_readInto_17 vl_3_30 rfl (by decide) (by decide) (Nat.le_of_ble_eq_true rfl) (fun σ_17 r_17 h_17 => ?_)
    obtain ⟨rfl, rfl⟩ := h_17
    refine aw_bipush (v := 72) dX3_readInto_20 (by decide) ?_
    refine aw_ic_ne (tgt := 29) dX3_readInto_22 (by decide) (fun c_22 => ?_) (fun c_22 => ?_)
    · refine aw_iconst (v := 0) dX3_readInto_29 (by decide) ?_
      exact J_30 _ (by first | exact congrArg b01 (sgn_nx1 (p := 0) (Nat.zero_le _) hn120 (by decide) c_22).symm | exact congrArg b01 (sgn_nx0 (p := 0) (Nat.zero_le _) hn120 c_22).symm)
    · refine aw_iconst (v := 1) dX3_readInto_25 (by decide) ?_
      refine aw_goto (tgt := 30) dX3_readInto_26 (by decide) ?_
      exact J_30 _ (by first | exact congrArg b01 (sgn_nx1 (p := 0) (Nat.zero_le _) hn120 (by decide) c_22).symm | exact congrArg b01 (sgn_nx0 (p := 0) (Nat.zero_le _) hn120 c_22).symm)
