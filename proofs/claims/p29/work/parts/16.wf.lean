/-! a row stays well formed -/
/-- marks and beginnings are 0 or 1 -/
def BT (g : Rw) (nb : Nat) : Prop := ∀ b, b < nb → (g (31 + 10 * b + 7) = 0 ∨ g (31 + 10 * b + 7) = 1) ∧ (g (31 + 10 * b + 9) = 0 ∨ g (31 + 10 * b + 9) = 1)
theorem WF.bt {g : Rw} {nr ng nb t : Nat} (h : WF g nr ng nb t) : BT g nb := h.2.2.2.1
theorem BT.eqs {g e : Rw} {nb : Nat} (h : BT g nb) (h7 : ∀ b, b < nb → e (31 + 10 * b + 7) = g (31 + 10 * b + 7)) (h9 : ∀ b, b < nb → e (31 + 10 * b + 9) = g (31 + 10 * b + 9)) : BT e nb := fun b hb => by
  rw [h7 b hb, h9 b hb]
  exact h b hb
theorem WF.of {g e : Rw} {nr ng nb t t2 : Nat} (h : WF g nr ng nb t) (hk : KP g e) (h0 : e 0 = nI t2) (hb : BT e nb) : WF e nr ng nb t2 := by
  refine ⟨⟨(hk 1 kept0_1 (by decide)).trans h.nr, h.nr4, (hk 2 (Or.inl (by decide)) (by decide)).trans h.ng, h.ng6, (hk 3 kept0_3 (by decide)).trans h.nb, h.nb12, h0⟩, fun r hr => ?_, fun b hb2 => ?_, hb, fun b c hb2 hc hbc he => ?_⟩
  · have := h.nr4
    rw [hk _ (by unfold kept0; omega) (by omega), hk (9 + 4 * r + 2) (by unfold kept0; omega) (by omega)]
    exact h.2.1 r hr
  · rw [hk _ (by unfold kept0; omega) (by omega), hk (31 + 10 * b + 1) (by unfold kept0; omega) (by omega), hk (31 + 10 * b + 2) (by unfold kept0; omega) (by omega), hk (31 + 10 * b + 3) (by unfold kept0; omega) (by omega)]
    exact h.2.2.1 b hb2
  · rw [fEnd_off hk, fEnd_off hk, hk (31 + 10 * b + 2) (by unfold kept0; omega) (by omega), hk (31 + 10 * c + 2) (by unfold kept0; omega) (by omega)]
    rw [hk (31 + 10 * b + 0) (by unfold kept0; omega) (by omega), hk (31 + 10 * c + 0) (by unfold kept0; omega) (by omega)] at he
    exact h.2.2.2.2 b c hb2 hc hbc he
theorem fCharge_bit {g : Rw} {b w c k : Nat} {u : Int32} (hw : g (31 + 10 * b + 1) = nI w) (hw6 : w < 6) (hk : k = 7 ∨ k = 9) : fCharge g b u (31 + 10 * c + k) = g (31 + 10 * c + k) := by
  have hwh : whoN g b = w := by rw [whoN, hw, nI_clamp (by omega)]
  simp only [fCharge, hwh]
  rw [upd_n (by split <;> omega)]
  split
  · rw [upd_n (by omega)]
  · rw [upd_n (by omega), upd_n (by omega)]
theorem fRoom_7 {g : Rw} {r nb c : Nat} (hw : WHO g nb) (hr : r < 4) : (fRoom g r nb).1 (31 + 10 * c + 7) = g (31 + 10 * c + 7) := by
  unfold fRoom
  split
  · show upd g (9 + 4 * r + 3) (fCool g r) _ = _
    rw [upd_n (by omega)]
  · rename_i b hb
    obtain ⟨w, hw6, hw9⟩ := hw b (fHeater_lt hb)
    simp only []
    rw [fCharge_bit (w := w) (by rw [upd_n (by omega), upd_n (by omega), upd_n (by omega), upd_n (by omega)]; exact hw9) hw6 (Or.inl rfl), upd_n (by omega), upd_n (by omega), upd_n (by omega), upd_n (by omega)]
theorem fRoom_9 {g : Rw} {r nb c : Nat} (hw : WHO g nb) (hr : r < 4) : (fRoom g r nb).1 (31 + 10 * c + 9) = g (31 + 10 * c + 9) ∨ (fRoom g r nb).1 (31 + 10 * c + 9) = 1 := by
  unfold fRoom
  split
  · refine Or.inl ?_
    show upd g (9 + 4 * r + 3) (fCool g r) _ = _
    rw [upd_n (by omega)]
  · rename_i b hb
    obtain ⟨w, hw6, hw9⟩ := hw b (fHeater_lt hb)
    simp only []
    rw [fCharge_bit (w := w) (by rw [upd_n (by omega), upd_n (by omega), upd_n (by omega), upd_n (by omega)]; exact hw9) hw6 (Or.inr rfl), upd_n (by omega), upd_n (by omega)]
    by_cases e : c = b
    · subst e
      rw [upd_s]
      split
      · exact Or.inl (upd_n (by omega))
      · exact Or.inr rfl
    · rw [upd_n (by omega), upd_n (by omega)]
      exact Or.inl rfl
theorem fRooms_at {g : Rw} {nb k j : Nat} (h8 : j ≠ 8) (h5 : j ≠ 5) : (fRooms g nb (k + 1)).1 j = (fRoom (fRooms g nb k).1 k nb).1 j := by
  show upd (upd _ 8 _) 5 _ j = _
  rw [upd_n h5, upd_n h8]
theorem fRooms_7 {g : Rw} {nb c : Nat} (hw : WHO g nb) : ∀ k, k ≤ 4 → (fRooms g nb k).1 (31 + 10 * c + 7) = g (31 + 10 * c + 7)
  | 0, _ => rfl
  | k + 1, hk => by
    rw [fRooms_at (by omega) (by omega), fRoom_7 (hw.keep (fRooms_off hw k (by omega))) (by omega), fRooms_7 hw k (by omega)]
theorem fRooms_9 {g : Rw} {nb c : Nat} (hw : WHO g nb) : ∀ k, k ≤ 4 → (fRooms g nb k).1 (31 + 10 * c + 9) = g (31 + 10 * c + 9) ∨ (fRooms g nb k).1 (31 + 10 * c + 9) = 1
  | 0, _ => Or.inl rfl
  | k + 1, hk => by
    rw [fRooms_at (by omega) (by omega)]
    rcases fRoom_9 (c := c) (hw.keep (fRooms_off hw k (by omega))) (show k < 4 by omega) with h | h
    · rw [h]
      exact fRooms_9 hw k (by omega)
    · exact Or.inr h
theorem fMid_bits {g : Rw} {nr nb : Nat} (h : BT g nb) (hw : WHO g nb) (hnr : nr ≤ 4) : BT (fMid g nr nb) nb := fun b hb => by
  have e : ∀ k, fMid g nr nb (31 + 10 * b + k) = (fRooms g nb nr).1 (31 + 10 * b + k) := fun k => by
    show upd (upd _ 5 _) 0 _ _ = _
    rw [upd_n (by omega), upd_n (by omega)]
  rw [e, e, fRooms_7 hw nr hnr]
  refine ⟨(h b hb).1, ?_⟩
  rcases fRooms_9 (c := b) hw nr hnr with q | q
  · rw [q]; exact (h b hb).2
  · exact Or.inr q
theorem fEnds_bits {g : Rw} {nb : Nat} (h : BT g nb) (hw : WHO g nb) : ∀ k, k ≤ nb → BT (fEnds g nb k) nb
  | 0, _ => h
  | k + 1, hk => by
    have ih := fEnds_bits h hw k (by omega)
    have hw2 : WHO (upd (fEnds g nb k) (31 + 10 * k + 7) 0) nb := WHO.upd (hw.keep (fEnds_off hw k (by omega))) (fun b _ => by omega)
    have i2 : BT (upd (fEnds g nb k) (31 + 10 * k + 7) 0) nb := fun b hb => by
      rw [upd_n (j := 31 + 10 * b + 9) (by omega)]
      refine ⟨?_, (ih b hb).2⟩
      by_cases e : b = k
      · subst e; rw [upd_s]; exact Or.inl rfl
      · rw [upd_n (by omega)]; exact (ih b hb).1
    rw [fEnds_s]
    split
    · exact i2.eqs (fun b hb => fSettle_off hw2 (by omega) nb (Nat.le_refl _) _ (by omega)) (fun b hb => fSettle_off hw2 (by omega) nb (Nat.le_refl _) _ (by omega))
    · exact i2
theorem WF.hour {g : Rw} {nr ng nb t : Nat} (h : WF g nr ng nb t) : WF (fHour g nr nb) nr ng nb (t + 1) := by
  refine h.of (fun j hj h0 => fHour_off h.who h.nr4 j hj h0) (by rw [fHour_0 h.who h.nr4, h.hr, nI_1]) ?_
  have hw2 : WHO (fMid g nr nb) nb := fun b hb => by
    obtain ⟨w, h1, h2⟩ := h.who b hb
    exact ⟨w, h1, by rw [fMid_off h.who h.nr4 _ kept0_who (by omega)]; exact h2⟩
  exact fEnds_bits (fMid_bits h.bt h.who h.nr4) hw2 nb (Nat.le_refl _)
theorem WF.hoursN {g : Rw} {nr ng nb t : Nat} (h : WF g nr ng nb t) : ∀ k, WF (fHours g nr nb k) nr ng nb (t + k)
  | 0 => h
  | k + 1 => (WF.hoursN h k).hour
theorem WF.out {g : Rw} {nr ng nb t : Nat} (h : WF g nr ng nb t) (v : Int32) : WF (upd g 4 v) nr ng nb t := by
  refine ⟨⟨(upd_n (by decide)).trans h.nr, h.nr4, (upd_n (by decide)).trans h.ng, h.ng6, (upd_n (by decide)).trans h.nb, h.nb12, (upd_n (by decide)).trans h.hr⟩, fun r hr => ?_, fun b hb2 => ?_, fun b hb => ?_, fun b c hb2 hc hbc he => ?_⟩
  · rw [upd_n (by omega), upd_n (by omega)]
    exact h.2.1 r hr
  · rw [upd_n (by omega), upd_n (by omega), upd_n (by omega), upd_n (by omega)]
    exact h.2.2.1 b hb2
  · rw [upd_n (by omega), upd_n (by omega)]
    exact h.2.2.2.1 b hb
  · simp only [fEnd] at *
    rw [upd_n (by omega), upd_n (by omega), upd_n (by omega), upd_n (by omega)]
    rw [upd_n (by omega), upd_n (by omega)] at he
    exact h.2.2.2.2 b c hb2 hc hbc he
theorem WF.owe {g : Rw} {nr ng nb t w : Nat} (h : WF g nr ng nb t) (hw : w < 6) (v : Int32) : WF (upd g (25 + w) v) nr ng nb t := by
  have := h.nr4
  exact h.of (fun j hj _ => upd_n (by unfold kept0 at hj; omega)) ((upd_n (by omega)).trans h.hr) (h.bt.eqs (fun b hb => upd_n (by omega)) (fun b hb => upd_n (by omega)))
theorem WF.marks {g : Rw} {nr ng nb t b : Nat} (h : WF g nr ng nb t) (v : Int32) (hv : v = 0 ∨ v = 1) : WF (upd g (31 + 10 * b + 7) v) nr ng nb t := by
  refine h.of (fun j hj _ => upd_n (by unfold kept0 at hj; omega)) ((upd_n (by omega)).trans h.hr) (fun c hc => ?_)
  rw [upd_n (j := 31 + 10 * c + 9) (by omega)]
  refine ⟨?_, (h.bt c hc).2⟩
  by_cases e : c = b
  · subst e; rw [upd_s]; exact hv
  · rw [upd_n (by omega)]; exact (h.bt c hc).1
theorem WF.addGroup {g : Rw} {nr ng nb t : Nat} (h : WF g nr ng nb t) (hg : ng < 6) : WF (fAddGroup g ng) nr (ng + 1) nb t := by
  have e : ∀ j, j ≠ 2 → j < 25 ∨ 31 ≤ j → fAddGroup g ng j = g j := fun j h1 h2 => by
    rw [fAddGroup, upd_n h1, upd_n (by omega)]
  have := h.nr4
  refine ⟨⟨(e 1 (by decide) (by omega)).trans h.nr, h.nr4, by rw [fAddGroup_2, h.ng, nI_1], by omega, (e 3 (by decide) (by omega)).trans h.nb, h.nb12, (e 0 (by decide) (by omega)).trans h.hr⟩, fun r hr => ?_, fun b hb2 => ?_, fun b hb => ?_, fun b c hb2 hc hbc he => ?_⟩
  · rw [e _ (by omega) (by omega), e _ (by omega) (by omega)]
    exact h.2.1 r hr
  · rw [e _ (by omega) (by omega), e _ (by omega) (by omega), e _ (by omega) (by omega), e _ (by omega) (by omega)]
    obtain ⟨h1, ⟨w, h2, h3⟩, h4, h5⟩ := h.2.2.1 b hb2
    exact ⟨h1, ⟨w, by omega, h3⟩, h4, h5⟩
  · rw [e _ (by omega) (by omega), e _ (by omega) (by omega)]
    exact h.2.2.2.1 b hb
  · simp only [fEnd] at *
    rw [e _ (by omega) (by omega), e _ (by omega) (by omega), e _ (by omega) (by omega), e _ (by omega) (by omega)]
    rw [e _ (by omega) (by omega), e _ (by omega) (by omega)] at he
    exact h.2.2.2.2 b c hb2 hc hbc he
theorem fAddRoom_off {g : Rw} {nr j : Nat} {s l p t : Int32} (h1 : j ≠ 1) (h2 : j < 9 + 4 * nr ∨ 13 + 4 * nr ≤ j) : fAddRoom g nr s l p t j = g j := by
  simp only [fAddRoom]
  rw [upd_n h1, upd_n (by omega), upd_n (by omega), upd_n (by omega), upd_n (by omega)]
theorem WF.addRoom {g : Rw} {nr ng nb t : Nat} {s l p u : Int32} (h : WF g nr ng nb t) (hr : nr < 4) (hs : ∃ k, k ≤ 9 ∧ s = nI k) (hp : ∃ k, k ≤ 9 ∧ p = nI k) : WF (fAddRoom g nr s l p u) (nr + 1) ng nb t := by
  have e : ∀ j, j ≠ 1 → j < 9 + 4 * nr ∨ 13 + 4 * nr ≤ j → fAddRoom g nr s l p u j = g j := fun j h1 h2 => fAddRoom_off h1 h2
  refine ⟨⟨by rw [fAddRoom_1 hr, h.nr, nI_1], by omega, (e 2 (by decide) (by omega)).trans h.ng, h.ng6, (e 3 (by decide) (by omega)).trans h.nb, h.nb12, (e 0 (by decide) (by omega)).trans h.hr⟩, fun r hr2 => ?_, fun b hb2 => ?_, fun b hb => ?_, fun b c hb2 hc hbc he => ?_⟩
  · rcases Nat.lt_or_ge r nr with q | q
    · rw [e _ (by omega) (by omega), e _ (by omega) (by omega)]
      exact h.2.1 r q
    · have : r = nr := by omega
      subst this
      simp only [fAddRoom]
      rw [upd_n (by omega), upd_n (by omega), upd_n (by omega), upd_n (by omega), upd_s, upd_n (j := 9 + 4 * r + 2) (by omega), upd_n (j := 9 + 4 * r + 2) (by omega), upd_s]
      exact ⟨hs, hp⟩
  · rw [e _ (by omega) (by omega), e _ (by omega) (by omega), e _ (by omega) (by omega), e _ (by omega) (by omega)]
    obtain ⟨⟨r, h1, h2⟩, h3⟩ := h.2.2.1 b hb2
    exact ⟨⟨r, by omega, h2⟩, h3⟩
  · rw [e _ (by omega) (by omega), e _ (by omega) (by omega)]
    exact h.2.2.2.1 b hb
  · simp only [fEnd] at *
    rw [e _ (by omega) (by omega), e _ (by omega) (by omega), e _ (by omega) (by omega), e _ (by omega) (by omega)]
    rw [e _ (by omega) (by omega), e _ (by omega) (by omega)] at he
    exact h.2.2.2.2 b c hb2 hc hbc he
theorem fBookTo_in {g : Rw} {nb : Nat} {r w f h t : Int32} : fBookTo g nb r w f h t (31 + 10 * nb + 0) = r ∧ fBookTo g nb r w f h t (31 + 10 * nb + 2) = f ∧ fBookTo g nb r w f h t (31 + 10 * nb + 3) = h ∧ fBookTo g nb r w f h t (31 + 10 * nb + 4) = t ∧ ∀ k, 5 ≤ k → k < 10 → fBookTo g nb r w f h t (31 + 10 * nb + k) = 0 := by
  simp only [fBookTo]
  refine ⟨?_, ?_, ?_, ?_, fun k h1 h2 => ?_⟩
  · rw [upd_n (by omega), upd_n (by omega), upd_n (by omega), upd_n (by omega), upd_n (by omega), upd_s]
  · rw [upd_n (by omega), upd_n (by omega), upd_n (by omega), upd_s]
  · rw [upd_n (by omega), upd_n (by omega), upd_s]
  · rw [upd_n (by omega), upd_s]
  · rw [upd_n (by omega), upd_n (by omega), upd_n (by omega), upd_n (by omega), upd_n (by omega), upd_n (by omega), fZero_in _ _ (by omega) (by omega)]
theorem WF.book {g : Rw} {nr ng nb t ri wi fi hi : Nat} {u : Int32} (h : WF g nr ng nb t) (hb : nb < 12) (hr : ri < nr) (hw : wi < ng) (hf : fi < 200) (h1 : 1 ≤ hi) (h12 : hi ≤ 12) (hfree : fFree g (nI ri) (nI fi) (nI hi) nb) : WF (fBookTo g nb (nI ri) (nI wi) (nI fi) (nI hi) u) nr ng (nb + 1) t := by
  have e : ∀ j, j ≠ 3 → j < 31 + 10 * nb ∨ 41 + 10 * nb ≤ j → fBookTo g nb (nI ri) (nI wi) (nI fi) (nI hi) u j = g j := fun j q1 q2 => fBookTo_off q1 q2
  obtain ⟨i0, i2, i3, i4, i5⟩ := fBookTo_in (g := g) (nb := nb) (r := nI ri) (w := nI wi) (f := nI fi) (h := nI hi) (t := u)
  have i1 := fBookTo_w (g := g) (nb := nb) (r := nI ri) (w := nI wi) (f := nI fi) (h := nI hi) (t := u)
  have hnr4 := h.nr4
  refine ⟨⟨(e 1 (by decide) (by omega)).trans h.nr, h.nr4, (e 2 (by decide) (by omega)).trans h.ng, h.ng6, by rw [fBookTo_3, h.nb, nI_1], by omega, (e 0 (by decide) (by omega)).trans h.hr⟩, fun r hr2 => ?_, fun b hb2 => ?_, fun b hb2 => ?_, ?_⟩
  · rw [e _ (by omega) (by omega), e _ (by omega) (by omega)]
    exact h.2.1 r hr2
  · rcases Nat.lt_or_ge b nb with q | q
    · rw [e _ (by omega) (by omega), e _ (by omega) (by omega), e _ (by omega) (by omega), e _ (by omega) (by omega)]
      exact h.2.2.1 b q
    · have : b = nb := by omega
      subst this
      rw [i0, i1, i2, i3]
      exact ⟨⟨ri, hr, rfl⟩, ⟨wi, hw, rfl⟩, ⟨fi, hf, rfl⟩, ⟨hi, h1, h12, rfl⟩⟩
  · rcases Nat.lt_or_ge b nb with q | q
    · rw [e _ (by omega) (by omega), e _ (by omega) (by omega)]
      exact h.2.2.2.1 b q
    · have : b = nb := by omega
      subst this
      rw [i5 7 (by omega) (by omega), i5 9 (by omega) (by omega)]
      exact ⟨Or.inl rfl, Or.inl rfl⟩
  · have key : ∀ b, b < nb → g (31 + 10 * b + 0) = nI ri → fEnd g b ≤ nI fi ∨ nI fi + nI hi ≤ g (31 + 10 * b + 2) := fun b q he => by
      rcases hfree b q with h9 | h9 | h9
      · exact absurd he h9
      · exact Or.inl h9
      · exact Or.inr h9
    have eE : ∀ b, b < nb → fEnd (fBookTo g nb (nI ri) (nI wi) (nI fi) (nI hi) u) b = fEnd g b := fun b q => by
      rw [fEnd, fEnd, e _ (by omega) (by omega), e _ (by omega) (by omega)]
    have eN : fEnd (fBookTo g nb (nI ri) (nI wi) (nI fi) (nI hi) u) nb = nI fi + nI hi := by rw [fEnd, i2, i3]
    intro b c hb2 hc hbc he
    rcases Nat.lt_or_ge b nb with q | q
    · rcases Nat.lt_or_ge c nb with q2 | q2
      · rw [eE b q, eE c q2, e _ (by omega) (by omega), e _ (by omega) (by omega)]
        rw [e _ (by omega) (by omega), e _ (by omega) (by omega)] at he
        exact h.2.2.2.2 b c q q2 hbc he
      · have : c = nb := by omega
        subst this
        rw [eE b q, eN, i2, e _ (by omega) (by omega)]
        rw [i0, e _ (by omega) (by omega)] at he
        exact key b q he
    · have : b = nb := by omega
      subst this
      have q2 : c < b := by omega
      rw [eE c q2, eN, i2, e _ (by omega) (by omega)]
      rw [i0, e _ (by omega) (by omega)] at he
      exact (key c q2 he.symm).symm
theorem fDrop_lo {g : Rw} {b j : Nat} (h1 : j ≠ 3) (h2 : j < 31 + 10 * b) : fDrop g b j = g j := by
  simp only [fDrop]
  rw [upd_n h1]
  exact if_neg (by omega)
theorem fDrop_hi {g : Rw} {b j : Nat} (h1 : 31 + 10 * b ≤ j) (h2 : j < 141) (hb : b < 12) : fDrop g b j = g (j + 10) := by
  simp only [fDrop]
  rw [upd_n (by omega)]
  exact if_pos (by omega)
theorem fDrop_3 {g : Rw} {b : Nat} : fDrop g b 3 = g 3 - 1 := by
  simp only [fDrop]
  rw [upd_s]
  exact congrArg (· - 1) (if_neg (by omega))
/-- which booking stands where when one is gone -/
def skp (b c : Nat) : Nat := if c < b then c else c + 1
theorem fDrop_at {g : Rw} {b c k : Nat} (hb : b < 12) (hc : c < 11) (hk : k < 10) : fDrop g b (31 + 10 * c + k) = g (31 + 10 * skp b c + k) := by
  unfold skp
  split
  · exact fDrop_lo (by omega) (by omega)
  · rw [fDrop_hi (by omega) (by omega) hb]
    congr 1
    omega
theorem WF.drop {g : Rw} {nr ng nb t b : Nat} (h : WF g nr ng nb t) (hb : b < nb) : WF (fDrop g b) nr ng (nb - 1) t := by
  have hnb := h.nb12
  have hnr := h.nr4
  have e : ∀ c, c < nb - 1 → ∀ k, k < 10 → fDrop g b (31 + 10 * c + k) = g (31 + 10 * skp b c + k) := fun c hc k hk => fDrop_at (by omega) (by omega) hk
  have hs : ∀ c, c < nb - 1 → skp b c < nb := fun c hc => by unfold skp; split <;> omega
  have eE : ∀ c, c < nb - 1 → fEnd (fDrop g b) c = fEnd g (skp b c) := fun c hc => by rw [fEnd, fEnd, e c hc 2 (by omega), e c hc 3 (by omega)]
  refine ⟨⟨(fDrop_lo (by decide) (by omega)).trans h.nr, h.nr4, (fDrop_lo (by decide) (by omega)).trans h.ng, h.ng6, ?_, by omega, (fDrop_lo (by decide) (by omega)).trans h.hr⟩, fun r hr2 => ?_, fun c hc => ?_, fun c hc => ?_, fun c d hc hd hcd he => ?_⟩
  · rw [fDrop_3, h.nb]
    have := nI_pred (nb - 1)
    rwa [show nb - 1 + 1 = nb by omega] at this
  · rw [fDrop_lo (by omega) (by omega), fDrop_lo (by omega) (by omega)]
    exact h.2.1 r hr2
  · rw [e c hc 0 (by omega), e c hc 1 (by omega), e c hc 2 (by omega), e c hc 3 (by omega)]
    exact h.2.2.1 _ (hs c hc)
  · rw [e c hc 7 (by omega), e c hc 9 (by omega)]
    exact h.2.2.2.1 _ (hs c hc)
  · rw [eE c hc, eE d hd, e c hc 2 (by omega), e d hd 2 (by omega)]
    rw [e c hc 0 (by omega), e d hd 0 (by omega)] at he
    exact h.2.2.2.2 _ _ (hs c hc) (hs d hd) (by unfold skp; split <;> split <;> omega) he
/-- an empty hall -/
theorem WF.clean {g : Rw} : WF (fClean g) 0 0 0 0 := by
  have e : ∀ j, j < 151 → j ≠ 4 → fClean g j = 0 := fun j h1 h2 => by rw [fClean, if_neg h2, if_pos h1]
  exact ⟨⟨e 1 (by omega) (by omega), by omega, e 2 (by omega) (by omega), by omega, e 3 (by omega) (by omega), by omega, e 0 (by omega) (by omega)⟩, fun _ h => absurd h (Nat.not_lt_zero _), fun _ h => absurd h (Nat.not_lt_zero _), fun _ h => absurd h (Nat.not_lt_zero _), fun _ _ h => absurd h (Nat.not_lt_zero _)⟩

