/-! an hour keeps it -/
theorem HK.cold {g : Rw} {nr ng nb t k : Nat} {c o : Int} (H : HK g nr ng nb t k c o) (hk : k < nr) (hf : fHeater g k nb = none) : HK (rs g k nb) nr ng nb t (k + 1) c (o + 81) ∧ (fRoom g k nb).2 = 0 := by
  obtain ⟨hw, hR, hB, hM, hT, hO⟩ := H
  have h4 := hw.nr4
  have h12 := hw.nb12
  have h6 := hw.ng6
  have e : ∀ j, j ≠ 9 + 4 * k + 3 → rs g k nb j = g j := fun j hj => by rw [(rs_none hf (by omega)).1, upd_n hj]
  have eT : rs g k nb (9 + 4 * k + 3) = fCool g k := by rw [(rs_none hf (by omega)).1, upd_s]
  refine ⟨⟨rs_WF hw hk, ⟨fun r hr => ?_, ?_⟩, fun b hb => ((hB b hb).e (fun i h1 h2 h3 => e _ (by omega))).mono, hM.e (fun b hb => ⟨e _ (by omega), e _ (by omega), e _ (by omega)⟩), ?_, (hO.e (fun w hw => e _ (by omega))).mono (by omega)⟩, (rs_none hf (j := 0) (by omega)).2⟩
  · obtain ⟨r1, r2, r3, r4⟩ := hR.1 r hr
    by_cases q : r = k
    · subst q
      have hc := cool_Z (g := g) (r := r) (by omega) (by omega) hR.2
      rw [zz_e (e (9 + 4 * r + 0) (by omega)), zz_e (e (9 + 4 * r + 1) (by omega)), zz_e (e (9 + 4 * r + 2) (by omega))]
      have : zz (rs g r nb) (9 + 4 * r + 3) = (fCool g r).toInt := by rw [zz, eT]
      rw [this]
      have hO2 := hR.2
      refine ⟨r1, r2, r3, ?_, ?_⟩ <;> omega
    · rw [zz_e (e (9 + 4 * r + 0) (by omega)), zz_e (e (9 + 4 * r + 1) (by omega)), zz_e (e (9 + 4 * r + 2) (by omega)), zz_e (e (9 + 4 * r + 3) (by omega))]
      exact ⟨r1, r2, r3, r4⟩
  · rw [zz_e (e 4 (by omega))]
    exact hR.2
  · have hT2 := hT.e (e := rs g k nb) ⟨e _ (by omega), e _ (by omega), e _ (by omega), e _ (by omega)⟩ (sm_e (fun b hb => ⟨e _ (by omega), e _ (by omega)⟩))
    obtain ⟨a1, a2, a3, a4, a5⟩ := hT2
    exact ⟨by omega, a2, a3, a4, by omega⟩
set_option maxHeartbeats 2000000 in
theorem HK.heat {g : Rw} {nr ng nb t k b : Nat} {c o : Int} (H : HK g nr ng nb t k c o) (hk : k < nr) (ht : t < 300) (ho : 0 ≤ o ∧ o ≤ 700000000) (hf : fHeater g k nb = some b) : ∃ U : Int, 0 ≤ U ∧ U ≤ 81 ∧ ((fRoom g k nb).2).toInt = U ∧ HK (rs g k nb) nr ng nb t (k + 1) (c + if 0 < U then 1 else 0) (o + 81) := by
  obtain ⟨hw, hR, hB, hM, hT, hO⟩ := H
  have h4 := hw.nr4
  have h12 := hw.nb12
  have h6 := hw.ng6
  have hb := fHeater_lt hf
  obtain ⟨w, hwn, hgw⟩ := hw.grp hb
  have hroom := fHeater_room hf
  have hown := fHeater_own hf
  have hU := heat_Z hw hk hf
  have h8 := rs_8 (g := g) (r := k) (b := b) (w := w) (nb := nb) (by omega) (by omega) (by omega) hgw hf
  obtain ⟨f, hf200, hff⟩ := hw.first hb
  obtain ⟨h, hh1, hh12, hhh⟩ := hw.hours hb
  have zf : zz g (31 + 10 * b + 2) = f := zz_nI hff (by omega)
  have zh : zz g (31 + 10 * b + 3) = h := zz_nI hhh (by omega)
  have zt : zz g 0 = t := zz_nI hw.hr (by omega)
  have zr : zz g (31 + 10 * b + 0) = k := zz_nI hroom (by omega)
  obtain ⟨r1, r2, r3, r4⟩ := hR.1 k hk
  have hc := cool_Z (g := g) (r := k) (by omega) (by omega) hR.2
  have hO2 := hR.2
  obtain ⟨b1, b2, b3, b5, b6, b7, b9⟩ := hB b hb
  have hdb : dn g b k = 0 := by rw [dn, if_neg (by rw [zr]; omega)]
  rw [hdb] at b2 b3 b6 b7
  -- the heat's degrees
  have hm1 : (g (31 + 10 * b + 4) - fCool g k).toInt = zz g (31 + 10 * b + 4) - (fCool g k).toInt := i32_sub rfl rfl (by show _ ≤ zz g _ - _; omega) (by show zz g _ - _ < _; omega)
  obtain ⟨u1, u2, u3⟩ := byOf_Z (m := g (31 + 10 * b + 4) - fCool g k) (p := g (9 + 4 * k + 2)) (by show 0 ≤ zz g _; omega)
  have hu2 : (byOf (g (31 + 10 * b + 4) - fCool g k) (g (9 + 4 * k + 2))).toInt ≤ zz g (9 + 4 * k + 2) := u2
  rw [hm1] at u3
  have eT : zz (rs g k nb) (9 + 4 * k + 3) = (fCool g k).toInt + (rmU g k b).toInt := by
    rw [zz, (h8 _).1, if_neg (by omega), if_neg (by omega), rmF_T]
    exact i32_add rfl rfl (by show _ ≤ _ + (byOf _ _).toInt; omega) (by show _ + (byOf _ _).toInt < _; omega)
  generalize hUe : (rmH g k b).toInt = U at hU
  have own_iff : (decide (g (31 + 10 * b + 2) ≤ g 0) = true) ↔ f ≤ t := by
    rw [decide_eq_true_iff, Int32.le_iff_toInt_le]
    show zz g _ ≤ zz g _ ↔ _
    rw [zf, zt]
    omega
  have e : ∀ j, j ≠ 9 + 4 * k + 3 → (j < 31 + 10 * b + 5 ∨ 31 + 10 * b + 7 = j ∨ 31 + 10 * b + 10 ≤ j) → j ≠ 7 → j ≠ 6 → j ≠ 25 + w → j ≠ 5 → j ≠ 8 → rs g k nb j = g j := fun j q1 q2 q3 q4 q5 q6 q7 => by
    rw [(h8 j).1, if_neg q6, if_neg q7, rmF_n q1 q2 q3 q4 q5]
  have eR : ∀ j, j ≠ 5 → j ≠ 8 → rs g k nb j = rmF g k b w (decide (g (31 + 10 * b + 2) ≤ g 0)) (decide (g (9 + 4 * k + 3) < g (31 + 10 * b + 4) - 1)) (decide (g (31 + 10 * b + 7) = 1)) j := fun j q1 q2 => by rw [(h8 j).1, if_neg q1, if_neg q2]
  obtain ⟨t1, t2, t3, t4, t5⟩ := hT
  have hnr := nr_m h4 (zz g 5 - zz g 6 - zz g 7) t3.1
  have e5 : zz (rs g k nb) 5 = zz g 5 + U := by
    rw [zz, (h8 5).1, if_pos rfl]
    exact i32_add rfl hUe (by show _ ≤ zz g _ + _; omega) (by show zz g _ + _ < _; omega)
  have e8 : zz (rs g k nb) 8 = zz g 8 + if 0 < U then 1 else 0 := by
    rw [zz, (h8 8).1, if_neg (by omega), if_pos rfl]
    obtain ⟨p1, p2⟩ := pos1_Z (u := rmH g k b)
    rw [hUe] at p1 p2
    by_cases q : 0 < U
    · rw [if_pos q]
      exact i32_add rfl (p1 q) (by show _ ≤ zz g _ + _; omega) (by show zz g _ + _ < _; omega)
    · rw [if_neg q]
      exact i32_add rfl (p2 q) (by show _ ≤ zz g _ + _; omega) (by show zz g _ + _ < _; omega)
  -- the charges: own or ahead, to whom
  have hch : ∃ x y z : Int, (x = 0 ∧ y = U ∨ x = U ∧ y = 0) ∧ (z = 0 ∨ z = 1) ∧ (f ≤ t → x = 0 ∧ zz (rs g k nb) (31 + 10 * b + 9) = zz g (31 + 10 * b + 9)) ∧ (¬ f ≤ t → y = 0 ∧ z = 0 ∧ zz (rs g k nb) (31 + 10 * b + 9) = 1) ∧ zz (rs g k nb) (31 + 10 * b + 5) = zz g (31 + 10 * b + 5) + x ∧ zz (rs g k nb) (31 + 10 * b + 6) = zz g (31 + 10 * b + 6) + y ∧ zz (rs g k nb) (31 + 10 * b + 8) = zz g (31 + 10 * b + 8) + z := by
    have q5 := eR (31 + 10 * b + 5) (by omega) (by omega)
    have q6 := eR (31 + 10 * b + 6) (by omega) (by omega)
    have q8 := eR (31 + 10 * b + 8) (by omega) (by omega)
    have q9 := eR (31 + 10 * b + 9) (by omega) (by omega)
    rw [rmF_5 (by omega)] at q5
    rw [rmF_6 (by omega)] at q6
    rw [rmF_8 (by omega)] at q8
    rw [rmF_9 (by omega)] at q9
    have h1 : (1 : Int32).toInt = 1 := by decide
    have h0 : (0 : Int32).toInt = 0 := by decide
    by_cases ow : f ≤ t
    · have ow' := own_iff.mpr ow
      rw [if_pos ow'] at q5 q6 q9
      refine ⟨0, U, if decide (g (9 + 4 * k + 3) < g (31 + 10 * b + 4) - 1) = true then 1 else 0, Or.inl ⟨rfl, rfl⟩, by split <;> simp, fun _ => ⟨rfl, zz_e q9⟩, fun z => absurd ow z, by rw [zz_e q5]; omega, ?_, ?_⟩
      · rw [zz, q6]
        exact i32_add rfl hUe (by show _ ≤ zz g _ + _; omega) (by show zz g _ + _ < _; omega)
      · rw [zz, q8]
        by_cases cc : decide (g (9 + 4 * k + 3) < g (31 + 10 * b + 4) - 1) = true
        · rw [if_pos ⟨ow', cc⟩, if_pos cc]
          exact i32_add rfl h1 (by show _ ≤ zz g _ + _; omega) (by show zz g _ + _ < _; omega)
        · rw [if_neg (fun z => cc z.2), if_neg cc]
          exact i32_add rfl h0 (by show _ ≤ zz g _ + _; omega) (by show zz g _ + _ < _; omega)
    · have ow' : ¬ decide (g (31 + 10 * b + 2) ≤ g 0) = true := fun z => ow (own_iff.mp z)
      rw [if_neg ow'] at q5 q6 q9
      refine ⟨U, 0, 0, Or.inr ⟨rfl, rfl⟩, Or.inl rfl, fun z => absurd z ow, fun _ => ⟨rfl, rfl, by rw [zz, q9, h1]⟩, ?_, by rw [zz_e q6]; omega, ?_⟩
      · rw [zz, q5]
        exact i32_add rfl hUe (by show _ ≤ zz g _ + _; omega) (by show zz g _ + _ < _; omega)
      · rw [zz, q8, if_neg (fun z => ow' z.1)]
        exact i32_add rfl h0 (by show _ ≤ zz g _ + _; omega) (by show zz g _ + _ < _; omega)
  have hgp : ∃ x y : Int, (x = U ∧ y = 0 ∨ x = 0 ∧ y = U) ∧ zz (rs g k nb) 6 = zz g 6 + x ∧ zz (rs g k nb) 7 = zz g 7 + y ∧ zz (rs g k nb) (25 + w) = zz g (25 + w) + x := by
    have q6 := eR 6 (by omega) (by omega)
    have q7 := eR 7 (by omega) (by omega)
    have qo := eR (25 + w) (by omega) (by omega)
    rw [rmF_g] at q6
    rw [rmF_p] at q7
    rw [rmF_o (by omega) (by omega)] at qo
    have := hO w hwn
    by_cases om : decide (g (31 + 10 * b + 2) ≤ g 0) = true ∧ decide (g (31 + 10 * b + 7) = 1) = true
    · rw [if_pos om] at q6 q7 qo
      refine ⟨0, U, Or.inr ⟨rfl, rfl⟩, by rw [zz_e q6]; omega, ?_, by rw [zz_e qo]; omega⟩
      rw [zz, q7]
      exact i32_add rfl hUe (by show _ ≤ zz g _ + _; omega) (by show zz g _ + _ < _; omega)
    · rw [if_neg om] at q6 q7 qo
      refine ⟨U, 0, Or.inl ⟨rfl, rfl⟩, ?_, by rw [zz_e q7]; omega, ?_⟩
      · rw [zz, q6]
        exact i32_add rfl hUe (by show _ ≤ zz g _ + _; omega) (by show zz g _ + _ < _; omega)
      · rw [zz, qo]
        exact i32_add rfl hUe (by show _ ≤ zz g _ + _; omega) (by show zz g _ + _ < _; omega)
  refine ⟨U, hU.1, hU.2, by rw [(h8 0).2, hUe], rs_WF hw hk, ⟨fun r hr => ?_, ?_⟩, fun d hd => ?_, hM.e (fun d hd => ⟨e _ (by omega) (by omega) (by omega) (by omega) (by omega) (by omega) (by omega), e _ (by omega) (by omega) (by omega) (by omega) (by omega) (by omega) (by omega), e _ (by omega) (by omega) (by omega) (by omega) (by omega) (by omega) (by omega)⟩), ?_, fun v hv => ?_⟩
  · obtain ⟨s1, s2, s3, s4⟩ := hR.1 r hr
    by_cases q : r = k
    · subst q
      rw [zz_e (e (9 + 4 * r + 0) (by omega) (by omega) (by omega) (by omega) (by omega) (by omega) (by omega)), zz_e (e (9 + 4 * r + 1) (by omega) (by omega) (by omega) (by omega) (by omega) (by omega) (by omega)), zz_e (e (9 + 4 * r + 2) (by omega) (by omega) (by omega) (by omega) (by omega) (by omega) (by omega)), eT]
      have : (rmU g r b).toInt = (byOf (g (31 + 10 * b + 4) - fCool g r) (g (9 + 4 * r + 2))).toInt := rfl
      refine ⟨s1, s2, s3, ?_, ?_⟩ <;> omega
    · rw [zz_e (e (9 + 4 * r + 0) (by omega) (by omega) (by omega) (by omega) (by omega) (by omega) (by omega)), zz_e (e (9 + 4 * r + 1) (by omega) (by omega) (by omega) (by omega) (by omega) (by omega) (by omega)), zz_e (e (9 + 4 * r + 2) (by omega) (by omega) (by omega) (by omega) (by omega) (by omega) (by omega)), zz_e (e (9 + 4 * r + 3) (by omega) (by omega) (by omega) (by omega) (by omega) (by omega) (by omega))]
      exact ⟨s1, s2, s3, s4⟩
  · rw [zz_e (e 4 (by omega) (by omega) (by omega) (by omega) (by omega) (by omega) (by omega))]
    exact hR.2
  · by_cases q : d = b
    · subst q
      obtain ⟨x, y, z, xy, zv, o1, o2, c5, c6, c8⟩ := hch
      have k0 := e (31 + 10 * d + 0) (by omega) (by omega) (by omega) (by omega) (by omega) (by omega) (by omega)
      have k2 := e (31 + 10 * d + 2) (by omega) (by omega) (by omega) (by omega) (by omega) (by omega) (by omega)
      have k3 := e (31 + 10 * d + 3) (by omega) (by omega) (by omega) (by omega) (by omega) (by omega) (by omega)
      have k4 := e (31 + 10 * d + 4) (by omega) (by omega) (by omega) (by omega) (by omega) (by omega) (by omega)
      have hd1 : dn (rs g k nb) d (k + 1) = 1 := by rw [dn, zz_e k0, zr, if_pos (by omega)]
      unfold KB1
      rw [hd1, zz_e k2, zz_e k3, zz_e k4, c5, c6, c8, zf, zh]
      rw [zf] at b6 b7
      rw [zh] at b5
      refine ⟨b1, ⟨by omega, by omega⟩, ⟨by omega, by omega⟩, ⟨by omega, ?_⟩, fun p => ?_, fun p => ?_, fun p => ?_⟩
      · by_cases ow : f ≤ t
        · have hfin : (t : Int) < f + h := by
            have := (hown.mpr (by rw [Int32.le_iff_toInt_le]; show zz g _ ≤ zz g _; rw [zf, zt]; omega)).2
            have h3 := Int32.lt_iff_toInt_lt.mp this
            have h4 : (g (31 + 10 * d + 2) + g (31 + 10 * d + 3)).toInt = (f : Int) + h := i32_add zf zh (by omega) (by omega)
            rw [h4] at h3
            have h5 : (g 0).toInt = (t : Int) := zt
            rw [h5] at h3
            exact h3
          rcases (show (f : Int) < t ∨ (f : Int) = t by omega) with p | p
          · have := b7 (by omega); omega
          · have := (b6 (by omega)).1; omega
        · have := (o2 ow).2.1; omega
      · have := o2 (by omega); have := b6 (by omega); omega
      · by_cases ow : f ≤ t
        · rcases (show (f : Int) < t ∨ (f : Int) = t by omega) with p | p
          · have := b7 (by omega); omega
          · have := (b6 (by omega)).1; omega
        · have := (o2 ow).2.1; have := b6 (by omega); omega
      · by_cases ow : f ≤ t
        · have q1 := o1 ow
          have := b9 (by omega)
          omega
        · have q1 := o2 ow
          omega
    · refine ((hB d hd).e (fun i h1 h2 h3 => ?_)).mono
      exact e _ (by omega) (by omega) (by omega) (by omega) (by omega) (by omega) (by omega)
  · obtain ⟨x, y, xy, c6, c7, co⟩ := hgp
    have hs : sm (rs g k nb) nb = sm g nb + U := by
      obtain ⟨x, y, z, xy, zv, o1, o2, c5, c6, c8⟩ := hch
      refine sm_u (b := b) (by omega) hb (fun d hd hdb => ⟨?_, ?_⟩)
      · exact e _ (by omega) (by omega) (by omega) (by omega) (by omega) (by omega) (by omega)
      · exact e _ (by omega) (by omega) (by omega) (by omega) (by omega) (by omega) (by omega)
    unfold KU
    rw [e5, e8, c6, c7, hs]
    have hx : zz g 5 + U - (zz g 6 + x) - (zz g 7 + y) = zz g 5 - zz g 6 - zz g 7 := by omega
    rw [hx]
    by_cases q : 0 < U
    · rw [if_pos q]
      exact ⟨by omega, by omega, t3, by omega, by omega⟩
    · rw [if_neg q]
      exact ⟨by omega, by omega, t3, by omega, by omega⟩
  · obtain ⟨x, y, xy, c6, c7, co⟩ := hgp
    have := hO v hv
    by_cases q : v = w
    · subst q
      rw [co]
      omega
    · rw [zz_e (e (25 + v) (by omega) (by omega) (by omega) (by omega) (by omega) (by omega) (by omega))]
      omega
/-- the rooms of an hour, one after the other -/
theorem HK.rooms {g : Rw} {nr ng nb t : Nat} {o : Int} (ho : 0 ≤ o ∧ o ≤ 600000000) (ht : t < 300) (H : HK g nr ng nb t 0 0 o) : ∀ k, k ≤ nr → ∃ c : Int, HK (fRooms g nb k).1 nr ng nb t k c (o + 81 * k) ∧ ((fRooms g nb k).2 = true ↔ 0 < c)
  | 0, _ => ⟨0, by simpa [fRooms] using H, by simp [fRooms]⟩
  | k + 1, hk => by
    obtain ⟨c, h1, h2⟩ := HK.rooms ho ht H k (by omega)
    have h4 := h1.1.nr4
    have h0 : (0 : Int32).toInt = 0 := by decide
    rw [fRooms_rs]
    show ∃ c : Int, HK (rs (fRooms g nb k).1 k nb) nr ng nb t (k + 1) c _ ∧ (((fRooms g nb k).2 || decide (0 < (fRoom (fRooms g nb k).1 k nb).2)) = true ↔ 0 < c)
    have hoo : o + 81 * (k : Int) + 81 = o + 81 * ((k + 1 : Nat) : Int) := by omega
    match hf : fHeater (fRooms g nb k).1 k nb with
    | none =>
      obtain ⟨h3, h5⟩ := h1.cold (by omega) hf
      refine ⟨c, by rw [← hoo]; exact h3, ?_⟩
      rw [h5]
      simp [h2]
    | some b =>
      obtain ⟨U, u1, u2, u3, h3⟩ := h1.heat (by omega) ht (by omega) hf
      refine ⟨_, by rw [← hoo]; exact h3, ?_⟩
      have hc : 0 ≤ c := h1.2.2.2.2.1.2.2.2.2.1
      rw [Bool.or_eq_true, h2, decide_eq_true_iff, Int32.lt_iff_toInt_lt, h0, u3]
      by_cases q : 0 < U
      · rw [if_pos q]; omega
      · rw [if_neg q]; omega
