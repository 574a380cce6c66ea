/-! behind the rooms of an hour: what is over is settled, marks are gone -/
theorem half_Z {x : Int32} (h : 0 ≤ x.toInt ∧ x.toInt ≤ 24300) : 0 ≤ (x / 2).toInt ∧ (x / 2).toInt ≤ 12150 := by
  rw [Int32.toInt_div_of_ne_right _ _ (by decide), show (2 : Int32).toInt = 2 by decide, Int.tdiv_eq_ediv_of_nonneg h.1]
  omega
theorem whoN_lt {g : Rw} {nr ng nb t b : Nat} (hw : WF g nr ng nb t) (hb : b < nb) : whoN g b < ng ∧ g (31 + 10 * b + 1) = nI (whoN g b) := by
  obtain ⟨w, h1, h2⟩ := hw.grp hb
  have := hw.ng6
  rw [whoN_of h2 (by omega)]
  exact ⟨h1, h2⟩
theorem KO.put {g : Rw} {ng v : Nat} {o d : Int} {x : Int32} (h : KO g ng o) (hd : 0 ≤ d) (hx : -(o + d) ≤ x.toInt ∧ x.toInt ≤ o + d) : KO (upd g (25 + v) x) ng (o + d) := fun w hw => by
  have := h w hw
  by_cases q : w = v
  · subst q
    rw [zz, upd_s]
    exact hx
  · rw [zz, upd_n (by omega)]
    show -(o + d) ≤ zz g (25 + w) ∧ zz g (25 + w) ≤ o + d
    omega
theorem KO.set1 {g : Rw} {nr ng nb t b q : Nat} {o : Int} (hw : WF g nr ng nb t) (hb : b < nb) (hq : q < nb) (ho : 0 ≤ o ∧ o ≤ 1000000000) (hp : 0 ≤ zz g (31 + 10 * b + 5) ∧ zz g (31 + 10 * b + 5) ≤ 24300) (h : KO g ng o) : KO (fSet1 g b q) ng (o + 12150) := by
  obtain ⟨h1, h2⟩ := whoN_lt hw hb
  obtain ⟨h3, h4⟩ := whoN_lt hw hq
  obtain ⟨u1, u2⟩ := half_Z (x := g (31 + 10 * b + 5)) hp
  unfold fSet1
  split
  · rename_i hs
    have hne := (setD_iff.mp hs).2.1
    have hn : whoN g b ≠ whoN g q := fun z => hne (by rw [h4, h2, z])
    have a1 := h _ h1
    have a2 := h _ h3
    have k1 := h.put (v := whoN g b) (x := g (25 + whoN g b) - g (31 + 10 * b + 5) / 2) (d := 12150) (by omega) (by
      rw [i32_sub rfl rfl (by show _ ≤ zz g _ - _; omega) (by show zz g _ - _ < _; omega)]
      show -(o + 12150) ≤ zz g _ - _ ∧ zz g _ - _ ≤ o + 12150
      omega)
    show KO (upd (upd g (25 + whoN g b) (g (25 + whoN g b) - g (31 + 10 * b + 5) / 2)) (25 + whoN g q) (upd g (25 + whoN g b) (g (25 + whoN g b) - g (31 + 10 * b + 5) / 2) (25 + whoN g q) + g (31 + 10 * b + 5) / 2)) ng _
    intro w hw2
    by_cases z : w = whoN g q
    · subst z
      rw [zz, upd_s, upd_n (by omega), i32_add rfl rfl (by show _ ≤ zz g _ + _; omega) (by show zz g _ + _ < _; omega)]
      show -(o + 12150) ≤ zz g _ + _ ∧ zz g _ + _ ≤ o + 12150
      omega
    · rw [zz, upd_n (by omega)]
      exact k1 w hw2
  · exact h.mono (by omega)
theorem KO.settle {g : Rw} {nr ng nb t b : Nat} {o : Int} (hw : WF g nr ng nb t) (hb : b < nb) (ho : 0 ≤ o ∧ o ≤ 800000000) (hp : 0 ≤ zz g (31 + 10 * b + 5) ∧ zz g (31 + 10 * b + 5) ≤ 24300) (h : KO g ng o) : ∀ k, k ≤ nb → KO (fSettle g b k) ng (o + 12150 * k)
  | 0, _ => by simpa [fSettle] using h
  | k + 1, hk => by
    have ih := KO.settle hw hb ho hp h k (by omega)
    have hoff := fSettle_off hw.who hb k (by omega)
    have h12 := hw.nb12
    have hw2 : WF (fSettle g b k) nr ng nb t := hw.of (fun j hj h0 => hoff j (by unfold kept0 at hj; omega)) ((hoff 0 (by omega)).trans hw.hr) (hw.bt.eqs (fun c hc => hoff _ (by omega)) (fun c hc => hoff _ (by omega)))
    have := KO.set1 (q := k) hw2 hb (by omega) (o := o + 12150 * k) (by omega) (by rw [zz_e (hoff (31 + 10 * b + 5) (by omega))]; exact hp) ih
    exact this.mono (by omega)
/-- the row behind an hour, j bookings settled -/
def EK (g : Rw) (nr ng nb t j : Nat) (o : Int) : Prop := WF g nr ng nb t ∧ KR g nr ∧ KB g nb t 0 ∧ (∀ b, b < j → zz g (31 + 10 * b + 7) = 0) ∧ KU g nr nb t 0 0 ∧ KO g ng o
theorem EK.ends {g : Rw} {nr ng nb t : Nat} {o : Int} (ho : 0 ≤ o ∧ o ≤ 700000000) (ht : t ≤ 300) (H : EK g nr ng nb t 0 o) : ∀ j, j ≤ nb → EK (fEnds g nb j) nr ng nb t j (o + 145800 * j)
  | 0, _ => by simpa [fEnds] using H
  | j + 1, hj => by
    obtain ⟨hw, hR, hB, hM, hT, hO⟩ := EK.ends ho ht H j (by omega)
    have h12 := hw.nb12
    have h6 := hw.ng6
    have h4 := hw.nr4
    have e : ∀ i, i ≠ 31 + 10 * j + 7 → upd (fEnds g nb j) (31 + 10 * j + 7) 0 i = fEnds g nb j i := fun i hi => upd_n hi
    have hw2 : WF (upd (fEnds g nb j) (31 + 10 * j + 7) 0) nr ng nb t := hw.marks 0 (Or.inl rfl)
    have hB2 : KB (upd (fEnds g nb j) (31 + 10 * j + 7) 0) nb t 0 := hB.e (fun b i hb h1 h2 h3 => e _ (by omega))
    have hM2 : ∀ b, b < j + 1 → zz (upd (fEnds g nb j) (31 + 10 * j + 7) 0) (31 + 10 * b + 7) = 0 := fun b hb => by
      by_cases q : b = j
      · subst q
        rw [zz, upd_s]
        decide
      · rw [zz_e (e _ (by omega))]
        exact hM b (by omega)
    have hT2 : KU (upd (fEnds g nb j) (31 + 10 * j + 7) 0) nr nb t 0 0 := hT.e ⟨e _ (by omega), e _ (by omega), e _ (by omega), e _ (by omega)⟩ (sm_e (fun b hb => ⟨e _ (by omega), e _ (by omega)⟩))
    have hR2 : KR (upd (fEnds g nb j) (31 + 10 * j + 7) 0) nr := hR.e (fun i hi => e _ (by omega))
    have hO2 : KO (upd (fEnds g nb j) (31 + 10 * j + 7) 0) ng (o + 145800 * j) := hO.e (fun w hw => e _ (by omega))
    rw [fEnds_s]
    generalize upd (fEnds g nb j) (31 + 10 * j + 7) 0 = G at *
    split
    · have hp := (hB2 j (by omega)).2.1
      have hd : dn G j 0 ≤ 1 := by
        have := (dn_01 (g := G) (b := j) (k := 0)).1
        omega
      have ht3 : (t : Int) ≤ 300 := by omega
      have hd0 : dn G j 0 = 0 := by
        unfold dn
        obtain ⟨r, hr, hr2⟩ := hw2.room (b := j) (by omega)
        rw [zz_nI hr2 (by omega), if_neg (by omega)]
      rw [hd0] at hp
      have hO3 := KO.settle hw2 (b := j) (by omega) (o := o + 145800 * j) (by omega) (by omega) hO2 nb (Nat.le_refl _)
      have hoff := fSettle_off hw2.who (b := j) (by omega) nb (Nat.le_refl _)
      refine ⟨hw2.of (fun i hi h0 => hoff i (by unfold kept0 at hi; omega)) ((hoff 0 (by omega)).trans hw2.hr) (hw2.bt.eqs (fun c hc => hoff _ (by omega)) (fun c hc => hoff _ (by omega))), hR2.e (fun i hi => hoff i (by omega)), hB2.e (fun b i hb h1 h2 h3 => hoff _ (by omega)), fun b hb => by rw [zz_e (hoff _ (by omega))]; exact hM2 b hb, hT2.e ⟨hoff _ (by omega), hoff _ (by omega), hoff _ (by omega), hoff _ (by omega)⟩ (sm_e (fun b hb => ⟨hoff _ (by omega), hoff _ (by omega)⟩)), hO3.mono (by omega)⟩
    · exact ⟨hw2, hR2, hB2, hM2, hT2, hO2.mono (by omega)⟩
theorem HK.mid {g : Rw} {nr ng nb t : Nat} {o : Int} (ho : 0 ≤ o ∧ o ≤ 600000000) (ht : t < 300) (H : HK g nr ng nb t 0 0 o) : EK (fMid g nr nb) nr ng nb (t + 1) 0 (o + 324) := by
  obtain ⟨c, h1, h2⟩ := H.rooms ho ht nr (Nat.le_refl _)
  have hwm := H.1.mid
  obtain ⟨hw, hR, hB, hM, hT, hO⟩ := h1
  have h4 := hw.nr4
  have h6 := hw.ng6
  have h12 := hw.nb12
  have e : ∀ j, j ≠ 0 → j ≠ 5 → fMid g nr nb j = (fRooms g nb nr).1 j := fun j q1 q2 => by
    show upd (upd _ 5 _) 0 _ j = _
    rw [upd_n q1, upd_n q2]
  obtain ⟨t1, t2, t3, t4, t5⟩ := hT
  have hnr := nr_m h4 (zz (fRooms g nb nr).1 5 - zz (fRooms g nb nr).1 6 - zz (fRooms g nb nr).1 7) t3.1
  have b1 : (1 : Int32).toInt = 1 := by decide
  have b0 : (0 : Int32).toInt = 0 := by decide
  have e5 : ∃ x : Int, (x = 1 ∧ 0 < c ∨ x = 0 ∧ c = 0) ∧ zz (fMid g nr nb) 5 = zz (fRooms g nb nr).1 5 + x := by
    have q : fMid g nr nb 5 = (fRooms g nb nr).1 5 + b01 (fRooms g nb nr).2 := by
      show upd (upd _ 5 _) 0 _ 5 = _
      rw [upd_n (by omega), upd_s]
    by_cases p : (fRooms g nb nr).2 = true
    · refine ⟨1, Or.inl ⟨rfl, h2.mp p⟩, ?_⟩
      rw [zz, q, p]
      exact i32_add rfl b1 (by show _ ≤ zz _ _ + _; omega) (by show zz _ _ + _ < _; omega)
    · have pf : (fRooms g nb nr).2 = false := by simpa using p
      refine ⟨0, Or.inr ⟨rfl, ?_⟩, ?_⟩
      · have : ¬ 0 < c := fun z => p (h2.mpr z)
        omega
      · rw [zz, q, pf]
        exact i32_add rfl b0 (by show _ ≤ zz _ _ + _; omega) (by show zz _ _ + _ < _; omega)
  obtain ⟨x, hx, e5⟩ := e5
  refine ⟨hwm, hR.e (fun j hj => e j (by omega) (by omega)), fun b hb => ?_, fun b hb => absurd hb (Nat.not_lt_zero _), ?_, (hO.e (fun w hw => e _ (by omega) (by omega))).mono (by omega)⟩
  · obtain ⟨r, hr, hr2⟩ := hw.room hb
    have hk := (hB b hb).e (e := fMid g nr nb) (fun i q1 q2 q3 => e _ (by omega) (by omega))
    have zr := zz_nI (hwm.2.2.1 b hb).1.choose_spec.2 (by have := (hwm.2.2.1 b hb).1.choose_spec.1; omega)
    have d1 : dn (fMid g nr nb) b nr = 1 := by
      rw [dn, if_pos]
      rw [zr]
      have := (hwm.2.2.1 b hb).1.choose_spec.1
      omega
    have d0 : dn (fMid g nr nb) b 0 = 0 := by
      rw [dn, if_neg]
      rw [zr]
      omega
    unfold KB1 at hk ⊢
    rw [d1] at hk
    rw [d0]
    obtain ⟨k1, k2, k3, k4, k5, k6, k7⟩ := hk
    exact ⟨k1, ⟨k2.1, by omega⟩, ⟨k3.1, by omega⟩, k4, fun q => k5 (by omega), fun q => by have := k6 (by omega); omega, k7⟩
  · unfold KU
    rw [zz_e (e 6 (by omega) (by omega)), zz_e (e 7 (by omega) (by omega)), zz_e (e 8 (by omega) (by omega)), e5, sm_e (fun b hb => ⟨e _ (by omega) (by omega), e _ (by omega) (by omega)⟩)]
    have hn2 := nr_m h4 (zz (fRooms g nb nr).1 5 - zz (fRooms g nb nr).1 6 - zz (fRooms g nb nr).1 7) t3.1
    rcases hx with ⟨rfl, hc⟩ | ⟨rfl, hc⟩
    · have hx2 : zz (fRooms g nb nr).1 5 + 1 - zz (fRooms g nb nr).1 6 - zz (fRooms g nb nr).1 7 = zz (fRooms g nb nr).1 5 - zz (fRooms g nb nr).1 6 - zz (fRooms g nb nr).1 7 + 1 := by omega
      rw [hx2]
      exact ⟨by omega, t2, by omega, by omega, by omega⟩
    · have hx2 : zz (fRooms g nb nr).1 5 + 0 - zz (fRooms g nb nr).1 6 - zz (fRooms g nb nr).1 7 = zz (fRooms g nb nr).1 5 - zz (fRooms g nb nr).1 6 - zz (fRooms g nb nr).1 7 := by omega
      rw [hx2]
      exact ⟨by omega, t2, by omega, by omega, by omega⟩
/-- an hour keeps it -/
theorem WK.hour {g : Rw} {nr ng nb t : Nat} (H : WK g nr ng nb t) (ht : t < 300) : WK (fHour g nr nb) nr ng nb (t + 1) := by
  have h12 := H.1.nb12
  obtain ⟨hw, hR, hB, hM, hT, hO⟩ := EK.ends (o := 2000000 * t + 324) (by omega) (by omega) (HK.mid (by omega) ht H) nb (Nat.le_refl _)
  refine ⟨hw, hR, hB, fun b hb q => ?_, hT, hO.mono (by omega)⟩
  have := hM b hb
  rw [show fEnds (fMid g nr nb) nb nb = fHour g nr nb from rfl] at this
  omega
theorem WK.hours {g : Rw} {nr ng nb t : Nat} (H : WK g nr ng nb t) : ∀ k, t + k ≤ 300 → WK (fHours g nr nb k) nr ng nb (t + k)
  | 0, _ => H
  | k + 1, h => (WK.hours H k (by omega)).hour (by omega)
