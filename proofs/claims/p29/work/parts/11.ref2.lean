theorem byOf_n {m p : Int32} (h : m < 0) : byOf m p = 0 := if_pos h
theorem byOf_p {m p : Int32} (h : ¬ m < 0) (h2 : p < m) : byOf m p = p := by rw [byOf, if_neg h, if_pos h2]
theorem byOf_m {m p : Int32} (h : ¬ m < 0) (h2 : ¬ p < m) : byOf m p = m := by rw [byOf, if_neg h, if_neg h2]
/-- whom a booking belongs to: a group that there can be -/
def WHO (g : Rw) (nb : Nat) : Prop := ∀ b, b < nb → ∃ w, w < 6 ∧ g (31 + 10 * b + 1) = nI w
theorem WHO.upd {g : Rw} {nb j : Nat} {v : Int32} (h : WHO g nb) (hj : ∀ b, b < nb → 31 + 10 * b + 1 ≠ j) : WHO (upd g j v) nb := fun b hb => by
  obtain ⟨w, h1, h2⟩ := h b hb
  exact ⟨w, h1, by rw [upd_n (hj b hb)]; exact h2⟩
def setP (g : Rw) (b q : Nat) : Prop := g (31 + 10 * q + 0) = g (31 + 10 * b + 0) ∧ ¬ g (31 + 10 * q + 1) = g (31 + 10 * b + 1) ∧ g (31 + 10 * q + 2) = fEnd g b
def setD (g : Rw) (b q : Nat) : Bool := decide (g (31 + 10 * q + 0) = g (31 + 10 * b + 0)) && (!decide (g (31 + 10 * q + 1) = g (31 + 10 * b + 1)) && decide (g (31 + 10 * q + 2) = fEnd g b))
theorem setD_iff {g : Rw} {b q : Nat} : setD g b q = true ↔ setP g b q := by simp [setD, setP]
def fSet1 (g : Rw) (b q : Nat) : Rw := if setD g b q = true then
    let g1 := upd g (25 + whoN g b) (g (25 + whoN g b) - g (31 + 10 * b + 5) / 2)
    upd g1 (25 + whoN g q) (g1 (25 + whoN g q) + g (31 + 10 * b + 5) / 2)
  else g
def fSettle (g : Rw) (b : Nat) : Nat → Rw
  | 0 => g
  | k + 1 => fSet1 (fSettle g b k) b k
theorem whoN_of {g : Rw} {b w : Nat} (h : g (31 + 10 * b + 1) = nI w) (hw : w < 6) : whoN g b = w := by rw [whoN, h, nI_clamp (by omega)]
/-- only what is owed changes -/
theorem fSet1_off {g : Rw} {b q nb : Nat} (hw : WHO g nb) (hb : b < nb) (hq : q < nb) {j : Nat} (hj : j < 25 ∨ 31 ≤ j) : fSet1 g b q j = g j := by
  obtain ⟨w, h1, h2⟩ := hw b hb
  obtain ⟨v, h3, h4⟩ := hw q hq
  unfold fSet1
  split
  · simp only [whoN_of h2 h1, whoN_of h4 h3]
    rw [upd_n (by omega), upd_n (by omega)]
  · rfl
theorem WHO.eqs {g g2 : Rw} {nb : Nat} (h : WHO g nb) (e : ∀ j, j < 25 ∨ 31 ≤ j → g2 j = g j) : WHO g2 nb := fun b hb => by
  obtain ⟨w, h1, h2⟩ := h b hb
  exact ⟨w, h1, by rw [e _ (by omega)]; exact h2⟩
theorem fSettle_off {g : Rw} {b nb : Nat} (hw : WHO g nb) (hb : b < nb) : ∀ (k : Nat), k ≤ nb → ∀ (j : Nat), j < 25 ∨ 31 ≤ j → fSettle g b k j = g j
  | 0, _, _, _ => rfl
  | k + 1, hk, j, hj => by
    have ih := fSettle_off hw hb k (by omega)
    show fSet1 (fSettle g b k) b k j = g j
    rw [fSet1_off (hw.eqs ih) hb (by omega) hj, ih _ hj]
/-- what stays in a row: bookings' rooms, groups, first hours, hours and wanted temperatures; rooms but for their temperatures; the counts, the hour and what is outside -/
def kept0 (j : Nat) : Prop := j < 5 ∨ (9 ≤ j ∧ j < 25 ∧ (j - 9) % 4 ≠ 3) ∨ (31 ≤ j ∧ (j - 31) % 10 < 5)
theorem fCharge_off {g : Rw} {b w : Nat} {u : Int32} (hw : g (31 + 10 * b + 1) = nI w) (hw6 : w < 6) (j : Nat) (hj : kept0 j) : fCharge g b u j = g j := by
  unfold kept0 at hj
  have hwh : whoN g b = w := by rw [whoN, hw, nI_clamp (by omega)]
  simp only [fCharge, hwh]
  have e1 : ∀ x : Nat, (x = 5 ∨ x = 6) → j ≠ 31 + 10 * b + x := fun x hx => by omega
  rw [upd_n (e1 _ (by split <;> omega))]
  split
  · rw [upd_n (by omega)]
  · rw [upd_n (by omega), upd_n (by omega)]
theorem fRoom_off {g : Rw} {r nb : Nat} (hw : WHO g nb) (hr : r < 4) (j : Nat) (hj : kept0 j) : (fRoom g r nb).1 j = g j := by
  unfold kept0 at hj
  unfold fRoom
  split
  · show upd g (9 + 4 * r + 3) (fCool g r) j = g j
    rw [upd_n (by omega)]
  · rename_i b hb
    obtain ⟨w, hw6, hw9⟩ := hw b (fHeater_lt hb)
    simp only []
    rw [fCharge_off (w := w) (by rw [upd_n (by omega), upd_n (by omega), upd_n (by omega), upd_n (by omega)]; exact hw9) hw6 j hj, upd_n (by omega), upd_n (by omega), upd_n (by omega), upd_n (by omega)]
def b01 (b : Bool) : Int32 := if b = true then 1 else 0
def pos1 (u : Int32) : Int32 := if 0 < u then 1 else 0
/-- the rooms of an hour, one after the other; whether any of them is heated -/
def fRooms (g : Rw) (nb : Nat) : Nat → Rw × Bool
  | 0 => (g, false)
  | k + 1 =>
    let p := fRooms g nb k
    let q := fRoom p.1 k nb
    let g3 := upd q.1 8 (q.1 8 + pos1 q.2)
    (upd g3 5 (g3 5 + q.2), p.2 || decide (0 < q.2))
theorem fRooms_off {g : Rw} {nb : Nat} (hw : WHO g nb) : ∀ (k : Nat), k ≤ 4 → ∀ (j : Nat), kept0 j → (fRooms g nb k).1 j = g j
  | 0, _, _, _ => rfl
  | k + 1, hk, j, hj => by
    have ih := fRooms_off hw k (by omega)
    have hw2 : WHO (fRooms g nb k).1 nb := fun b hb => by
      obtain ⟨w, h1, h2⟩ := hw b hb
      exact ⟨w, h1, by rw [ih _ (by unfold kept0; omega)]; exact h2⟩
    have h9 : j ≠ 5 ∧ j ≠ 8 := by unfold kept0 at hj; omega
    show upd (upd _ 8 _) 5 _ j = g j
    rw [upd_n h9.1, upd_n h9.2, fRoom_off hw2 (by omega) j hj, ih j hj]
/-- behind an hour: marks are gone, and what is over is settled -/
def fEnds (g : Rw) (nb : Nat) : Nat → Rw
  | 0 => g
  | k + 1 =>
    let g1 := upd (fEnds g nb k) (31 + 10 * k + 7) 0
    if fEnd g1 k = g1 0 then fSettle g1 k nb else g1
theorem fEnds_off {g : Rw} {nb : Nat} (hw : WHO g nb) : ∀ (k : Nat), k ≤ nb → ∀ (j : Nat), kept0 j → fEnds g nb k j = g j
  | 0, _, _, _ => rfl
  | k + 1, hk, j, hj => by
    have ih := fEnds_off hw k (by omega)
    have h7 : j ≠ 31 + 10 * k + 7 := by unfold kept0 at hj; omega
    have hw2 : WHO (upd (fEnds g nb k) (31 + 10 * k + 7) 0) nb := fun b hb => by
      obtain ⟨w, h1, h2⟩ := hw b hb
      exact ⟨w, h1, by rw [upd_n (by omega), ih _ (by unfold kept0; omega)]; exact h2⟩
    have hj2 : j < 25 ∨ 31 ≤ j := by unfold kept0 at hj; omega
    have e : fEnds g nb (k + 1) = if fEnd (upd (fEnds g nb k) (31 + 10 * k + 7) 0) k = (upd (fEnds g nb k) (31 + 10 * k + 7) 0) 0 then fSettle (upd (fEnds g nb k) (31 + 10 * k + 7) 0) k nb else upd (fEnds g nb k) (31 + 10 * k + 7) 0 := rfl
    rw [e]
    split
    · rw [fSettle_off hw2 (by omega) nb (Nat.le_refl _) j hj2, upd_n h7, ih j hj]
    · rw [upd_n h7, ih j hj]
theorem fEnds_s (g : Rw) (nb k : Nat) : fEnds g nb (k + 1) = if fEnd (upd (fEnds g nb k) (31 + 10 * k + 7) 0) k = (upd (fEnds g nb k) (31 + 10 * k + 7) 0) 0 then fSettle (upd (fEnds g nb k) (31 + 10 * k + 7) 0) k nb else upd (fEnds g nb k) (31 + 10 * k + 7) 0 := rfl
def fMid (g : Rw) (nr nb : Nat) : Rw :=
  let p := fRooms g nb nr
  let g1 := upd p.1 5 (p.1 5 + b01 p.2)
  upd g1 0 (g1 0 + 1)
def fHour (g : Rw) (nr nb : Nat) : Rw := fEnds (fMid g nr nb) nb nb
def fHours (g : Rw) (nr nb : Nat) : Nat → Rw
  | 0 => g
  | k + 1 => fHour (fHours g nr nb k) nr nb
theorem kept0_who {b : Nat} : kept0 (31 + 10 * b + 1) := by unfold kept0; omega
theorem WHO.keep {g g2 : Rw} {nb : Nat} (h : WHO g nb) (e : ∀ j, kept0 j → g2 j = g j) : WHO g2 nb := fun b hb => by
  obtain ⟨w, h1, h2⟩ := h b hb
  exact ⟨w, h1, by rw [e _ kept0_who]; exact h2⟩
theorem kept0_3 : kept0 3 := Or.inl (by decide)
theorem kept0_1 : kept0 1 := Or.inl (by decide)
theorem fMid_off {g : Rw} {nr nb : Nat} (hw : WHO g nb) (hnr : nr ≤ 4) (j : Nat) (hj : kept0 j) (h0 : j ≠ 0) : fMid g nr nb j = g j := by
  have h5 : j ≠ 5 := by unfold kept0 at hj; omega
  show upd (upd _ 5 _) 0 _ j = _
  rw [upd_n h0, upd_n h5, fRooms_off hw nr hnr j hj]
theorem b01_1 {x y : Bool} (h : ¬ b01 x = 0) : (1 : Int32) = b01 (x || y) := by cases x <;> cases y <;> simp_all [b01]
theorem b01_2 {x : Bool} {u : Int32} (h : 0 < u) : (1 : Int32) = b01 (x || decide (0 < u)) := by simp [b01, h]
theorem b01_3 {x : Bool} {u : Int32} (hx : b01 x = 0) (h : ¬ 0 < u) : (0 : Int32) = b01 (x || decide (0 < u)) := by cases x <;> simp_all [b01]
theorem b01_c {x : Bool} (h : b01 x = 0) : (0 : Int32) = b01 x := h.symm
theorem b01_d {x : Bool} (h : ¬ b01 x = 0) : (1 : Int32) = b01 x := by cases x <;> simp_all [b01]
