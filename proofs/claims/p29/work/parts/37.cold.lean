/-! cold hours stay small -/
theorem CB.keep {g e : Rw} {nb c : Nat} (h : CB g nb c) (he : ∀ b, b < nb → e (31 + 10 * b + 8) = g (31 + 10 * b + 8)) : CB e nb c := fun b hb => by
  obtain ⟨k, h1, h2⟩ := h b hb
  exact ⟨k, h1, by rw [he b hb]; exact h2⟩
theorem CB.mono {g : Rw} {nb c d : Nat} (h : CB g nb c) (hd : c ≤ d) : CB g nb d := fun b hb => by
  obtain ⟨k, h1, h2⟩ := h b hb
  exact ⟨k, by omega, h2⟩
theorem fCharge_8 {g : Rw} {b c w : Nat} {u : Int32} (hw : g (31 + 10 * b + 1) = nI w) (hw6 : w < 6) : fCharge g b u (31 + 10 * c + 8) = g (31 + 10 * c + 8) := by
  have hwh : whoN g b = w := by rw [whoN, hw, nI_clamp (by omega)]
  simp only [fCharge, hwh]
  have e1 : ∀ x : Nat, (x = 5 ∨ x = 6) → 31 + 10 * c + 8 ≠ 31 + 10 * b + x := fun x hx => by omega
  rw [upd_n (e1 _ (by split <;> omega))]
  split
  · rw [upd_n (by omega)]
  · rw [upd_n (by omega), upd_n (by omega)]
theorem CB.room {g : Rw} {r nb c : Nat} (h : CB g nb c) (hw : WHO g nb) (hr : r < 4) : CB (fRoom g r nb).1 nb (c + 1) := fun b hb => by
  obtain ⟨k, h1, h2⟩ := h b hb
  unfold fRoom
  split
  · refine ⟨k, by omega, ?_⟩
    show upd g (9 + 4 * r + 3) (fCool g r) (31 + 10 * b + 8) = _
    rw [upd_n (by omega)]
    exact h2
  · rename_i q hq
    obtain ⟨w, hw6, hw9⟩ := hw q (fHeater_lt hq)
    simp only []
    rw [fCharge_8 (w := w) (by rw [upd_n (by omega), upd_n (by omega), upd_n (by omega), upd_n (by omega)]; exact hw9) hw6, upd_n (by omega)]
    by_cases e : b = q
    · subst e
      rw [upd_s, upd_n (by omega), upd_n (by omega), h2]
      have aux : ∀ (p : Prop) (d : Decidable p), ∃ j, j ≤ c + 1 ∧ nI k + (@ite _ p d 1 0) = nI j := fun p d => by
        by_cases hp : p
        · exact ⟨k + 1, by omega, by rw [@if_pos _ d hp]; exact nI_1 k⟩
        · exact ⟨k, by omega, by rw [@if_neg _ d hp]; exact nI_add k 0⟩
      exact aux _ _
    · refine ⟨k, by omega, ?_⟩
      rw [upd_n (by omega), upd_n (by omega), upd_n (by omega)]
      exact h2
theorem CB.rooms {g : Rw} {nb c : Nat} (h : CB g nb c) (hw : WHO g nb) : ∀ k, k ≤ 4 → CB (fRooms g nb k).1 nb (c + k)
  | 0, _ => h
  | k + 1, hk => by
    have ih := CB.rooms h hw k (by omega)
    have hw2 : WHO (fRooms g nb k).1 nb := hw.keep (fRooms_off hw k (by omega))
    refine (ih.room (r := k) hw2 (by omega)).keep (fun b hb => ?_)
    have e : (fRooms g nb (k + 1)).1 = upd (upd (fRoom (fRooms g nb k).1 k nb).1 8 ((fRoom (fRooms g nb k).1 k nb).1 8 + pos1 (fRoom (fRooms g nb k).1 k nb).2)) 5 (upd (fRoom (fRooms g nb k).1 k nb).1 8 ((fRoom (fRooms g nb k).1 k nb).1 8 + pos1 (fRoom (fRooms g nb k).1 k nb).2) 5 + (fRoom (fRooms g nb k).1 k nb).2) := rfl
    rw [e, upd_n (by omega), upd_n (by omega)]
theorem fEnds_8 {g : Rw} {nb c : Nat} (hw : WHO g nb) : ∀ (k : Nat), k ≤ nb → fEnds g nb k (31 + 10 * c + 8) = g (31 + 10 * c + 8)
  | 0, _ => rfl
  | k + 1, hk => by
    have ih := fEnds_8 (c := c) hw k (by omega)
    have hw2 : WHO (upd (fEnds g nb k) (31 + 10 * k + 7) 0) nb := fun b hb => by
      obtain ⟨w, h1, h2⟩ := hw b hb
      exact ⟨w, h1, by rw [upd_n (by omega), fEnds_off hw k (by omega) _ (by unfold kept0; omega)]; exact h2⟩
    have e : fEnds g nb (k + 1) = if fEnd (upd (fEnds g nb k) (31 + 10 * k + 7) 0) k = (upd (fEnds g nb k) (31 + 10 * k + 7) 0) 0 then fSettle (upd (fEnds g nb k) (31 + 10 * k + 7) 0) k nb else upd (fEnds g nb k) (31 + 10 * k + 7) 0 := rfl
    rw [e]
    split
    · rw [fSettle_off hw2 (by omega) nb (Nat.le_refl _) _ (by omega), upd_n (by omega), ih]
    · rw [upd_n (by omega), ih]
theorem CB.hour {g : Rw} {nr nb c : Nat} (h : CB g nb c) (hw : WHO g nb) (hnr : nr ≤ 4) : CB (fHour g nr nb) nb (c + 4) := by
  have hw2 : WHO (fMid g nr nb) nb := fun b hb => by
    obtain ⟨w, h1, h2⟩ := hw b hb
    exact ⟨w, h1, by rw [fMid_off hw hnr _ kept0_who (by omega)]; exact h2⟩
  refine ((h.rooms hw nr hnr).mono (d := c + 4) (by omega)).keep (fun b hb => ?_)
  show fEnds (fMid g nr nb) nb nb _ = _
  rw [fEnds_8 hw2 nb (Nat.le_refl _)]
  show upd (upd _ 5 _) 0 _ _ = _
  rw [upd_n (by omega), upd_n (by omega)]
theorem CB.hoursN {g : Rw} {nr ng nb t c : Nat} (h : CB g nb c) (hw : WF g nr ng nb t) : ∀ k, CB (fHours g nr nb k) nb (c + 4 * k)
  | 0 => h
  | k + 1 => ((CB.hoursN h hw k).hour (hw.hoursN k).who hw.nr4).mono (by omega)
theorem CB.book {g : Rw} {nb c : Nat} {r w f h t : Int32} (x : CB g nb c) : CB (fBookTo g nb r w f h t) (nb + 1) c := fun b hb => by
  by_cases q : b = nb
  · subst q
    refine ⟨0, by omega, ?_⟩
    simp only [fBookTo]
    rw [upd_n (by omega), upd_n (by omega), upd_n (by omega), upd_n (by omega), upd_n (by omega), upd_n (by omega), fZero_in _ _ (by omega) (by omega)]
    rfl
  · obtain ⟨k, h1, h2⟩ := x b (by omega)
    exact ⟨k, h1, by rw [fBookTo_off (by omega) (by omega)]; exact h2⟩
theorem CB.drop {g : Rw} {nb c b : Nat} (x : CB g nb c) (hb : b < nb) (h12 : nb ≤ 12) : CB (fDrop g b) (nb - 1) c := fun i hi => by
  obtain ⟨k, h1, h2⟩ := x (skp b i) (by unfold skp; split <;> omega)
  exact ⟨k, h1, by rw [fDrop_at (by omega) (by omega) (by omega)]; exact h2⟩
theorem CB.addRoom {g : Rw} {nb c nr : Nat} {s l p t : Int32} (x : CB g nb c) (hr : nr < 4) : CB (fAddRoom g nr s l p t) nb c := x.keep (fun b hb => fAddRoom_off (by omega) (by omega))
theorem CB.upd {g : Rw} {nb c j : Nat} {v : Int32} (x : CB g nb c) (hj : ∀ b, b < nb → 31 + 10 * b + 8 ≠ j) : CB (upd g j v) nb c := x.keep (fun b hb => upd_n (hj b hb))
theorem CB.part {T : Rw} {n : Nat} {s : PSt} {g : Rw} {nr ng nb : Nat} (h : CB g nb 0) (hw : WF g nr ng nb 0) : CB (pPart T n s g nr ng nb).2.1 (pPart T n s g nr ng nb).2.2.2.2 0 := by
  have hnr4 := hw.nr4
  unfold pPart
  split
  · show CB (rrG T n s g nr) nb 0
    unfold rrG
    split
    · rename_i q
      exact h.addRoom (rr_nr q)
    · exact h
  · split
    · show CB (rbG T n s g nr ng nb) (if (rbS T n s g nr ng nb).2 = true then nb + 1 else nb) 0
      by_cases q : (rbS T n s g nr ng nb).2 = true
      · rw [if_pos q, rbG, if_pos (rbS_ok.mp q)]
        exact h.book
      · rw [if_neg q, rbG, if_neg (fun z => q (rbS_ok.mpr z))]
        exact h
    · split
      · exact h.upd (fun b hb => by omega)
      · show CB (roG T n s g) nb 0
        unfold roG
        split
        · exact h.upd (fun b hb => by omega)
        · exact h
theorem CB.loop {T : Rw} {n : Nat} : ∀ (k : Nat) {s : PSt} {g : Rw} {nr ng nb : Nat}, PI n s g nr ng nb → CB g nb 0 → CB (pLoop T n k (s, g, nr, ng, nb)).2.1 (pLoop T n k (s, g, nr, ng, nb)).2.2.2.2 0
  | 0, s, g, nr, ng, nb, _, h => h
  | k + 1, s, g, nr, ng, nb, hI, h => by
    by_cases hc : s.2 = true ∧ s.1 < n
    · rw [pLoop_s hc.1 hc.2]
      exact CB.loop k (hI.part hc.1 hc.2).1 (h.part hI.2.1)
    · rw [pLoop_e (q := (s, g, nr, ng, nb)) hc]
      exact h
theorem pText_CB {T : Rw} {n : Nat} {g : Rw} : CB (pText T n (fClean g)).2.1 (pText T n (fClean g)).2.2.2.2 0 :=
  CB.loop 120 ⟨stp_le (Nat.zero_le _) nx_lt, WF.clean, fun i hi => by rw [fClean, if_neg (by omega), if_pos (by omega)]⟩ (fun b hb => absurd hb (Nat.not_lt_zero _))
