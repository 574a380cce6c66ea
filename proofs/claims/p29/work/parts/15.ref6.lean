/-! the reference: what is tried out -/
theorem oI_ne {k : Nat} (hk : k < 1000) : ¬ oI none = nI k := fun h => by
  have h9 := congrArg Int32.toInt h
  rw [nI_toInt (by omega)] at h9
  have h3 : (oI none).toInt = -99 := by decide
  omega
theorem oI_eq {o : Option Nat} {k : Nat} (h : ∀ f, o = some f → f < 1000) (hk : k < 1000) : oI o = nI k ↔ o = some k := by
  cases o with
  | none => exact ⟨fun e => absurd e (oI_ne hk), fun e => by cases e⟩
  | some x =>
    have hx := h x rfl
    constructor
    · intro e
      rw [(nI_eq (a := x) (b := k) (by omega) (by omega)).mp e]
    · intro e
      cases e
      rfl
/-- when a booking begins to be heated for, within so many hours from now -/
def fBeg (g : Rw) (nr nb r b : Nat) : Nat → Int32
  | 0 => -99
  | k + 1 => if fHeater g r nb = some b then g 0 else fBeg (fHour g nr nb) nr nb r b k
def fLeft (g : Rw) (b : Nat) : Nat := (fEnd g b).toNatClampNeg - (g 0).toNatClampNeg
theorem fEnd_off {g e : Rw} {b : Nat} (h : ∀ j, kept0 j → j ≠ 0 → e j = g j) : fEnd e b = fEnd g b := by
  rw [fEnd, fEnd, h _ (by unfold kept0; omega) (by omega), h _ (by unfold kept0; omega) (by omega)]
theorem fHour_0 {g : Rw} {nr nb : Nat} (hw : WHO g nb) (hnr : nr ≤ 4) : fHour g nr nb 0 = g 0 + 1 := by
  have hw2 : WHO (fMid g nr nb) nb := fun b hb => by
    obtain ⟨w, h1, h2⟩ := hw b hb
    exact ⟨w, h1, by rw [fMid_off hw hnr _ kept0_who (by omega)]; exact h2⟩
  show fEnds (fMid g nr nb) nb nb 0 = _
  rw [fEnds_off hw2 nb (Nat.le_refl _) 0 (Or.inl (by decide))]
  show upd _ 0 _ 0 = _
  rw [upd_s, upd_n (by decide), fRooms_off hw nr hnr 0 (Or.inl (by decide))]
/-- what of a row stays as the hours go by -/
def KP (g e : Rw) : Prop := ∀ j, kept0 j → j ≠ 0 → e j = g j
theorem KP.hour {g e : Rw} {nr nb : Nat} (h : KP g e) (hw : WHO e nb) (hnr : nr ≤ 4) : KP g (fHour e nr nb) := fun j hj h0 => by rw [fHour_off hw hnr j hj h0, h j hj h0]
theorem KP.who {g e : Rw} {nb : Nat} (h : KP g e) (hw : WHO g nb) : WHO e nb := fun b hb => by
  obtain ⟨w, h1, h2⟩ := hw b hb
  exact ⟨w, h1, by rw [h _ kept0_who (by omega)]; exact h2⟩
theorem KP.hours {g : Rw} {nr nb k : Nat} (hw : WHO g nb) (hnr : nr ≤ 4) : KP g (fHours g nr nb k) := fun j hj h0 => fHours_off hw hnr k j hj h0
def fL (g : Rw) (f h : Int32) : Nat := cN (f + h - g 0)
theorem fL_of {g : Rw} {nr ng nb t : Nat} {f h t0 : Int32} (hw : WF g nr ng nb t) (ht : t ≤ 300) (hs : sound g f h t0) : f + h - g 0 = nI (fL g f h) ∧ fL g f h ≤ 300 := by
  obtain ⟨⟨h1, h2⟩, ⟨h3, h4⟩, -⟩ := hs
  rw [hw.hr] at h1
  obtain ⟨j, hj, rfl⟩ := nI_of (x := f) (Int32.not_lt.mpr (Int32.le_trans (nI_pos' (by omega)) h1))
  obtain ⟨k, hk, rfl⟩ := Int32.rng (n := 12) (by omega) (Int32.le_trans (by decide) h3) h4
  have h5 := (nI_leI (b := 199) hj (by omega)).mp h2
  have h6 := (nI_leI (by omega) hj).mp h1
  have e : nI j + nI k - g 0 = nI (j + k - t) := by rw [hw.hr, nI_add, pk_sub (by omega)]
  have e2 : fL g (nI j) (nI k) = j + k - t := by rw [fL, e, cN, nI_clamp (by omega)]
  rw [e2]
  exact ⟨e, by omega⟩
theorem fBookTo_off {g : Rw} {nb j : Nat} {r w f h t : Int32} (hj : j ≠ 3) (h2 : j < 31 + 10 * nb ∨ 41 + 10 * nb ≤ j) : fBookTo g nb r w f h t j = g j := by
  simp only [fBookTo]
  rw [upd_n hj, upd_n (by omega), upd_n (by omega), upd_n (by omega), upd_n (by omega), upd_n (by omega), fZero_off _ _ (by omega)]
theorem fBookTo_w {g : Rw} {nb : Nat} {r w f h t : Int32} : fBookTo g nb r w f h t (31 + 10 * nb + 1) = w := by
  simp only [fBookTo]
  rw [upd_n (by omega), upd_n (by omega), upd_n (by omega), upd_n (by omega), upd_s]
theorem WHO.book {g : Rw} {nb k : Nat} {r f h t : Int32} (hw : WHO g nb) (hk : k < 6) : WHO (fBookTo g nb r (nI k) f h t) (nb + 1) := fun b hb => by
  rcases Nat.lt_or_ge b nb with q | q
  · obtain ⟨x, h1, h2⟩ := hw b q
    exact ⟨x, h1, by rw [fBookTo_off (by omega) (by omega)]; exact h2⟩
  · have : b = nb := by omega
    subst this
    exact ⟨k, hk, fBookTo_w⟩
def fCold (e : Rw) : Nat → Option Nat
  | 0 => none
  | k + 1 => match fCold e k with
    | none => some k
    | some c => if e (31 + 10 * c + 8) < e (31 + 10 * k + 8) then some k else some c
theorem fCold_lt {e : Rw} : ∀ {k c : Nat}, fCold e k = some c → c < k
  | 0, _, h => nomatch h
  | k + 1, c, h => by
    unfold fCold at h
    split at h
    · cases h; omega
    · rename_i x hx
      have := fCold_lt hx
      split at h
      · cases h; omega
      · cases h; omega
