/-! the reference: a whole script; a simulation; save slots -/
theorem WF.does {e e2 : Rw} {nr ng nb t c nb2 : Nat} (hw : WF e nr ng nb t) (ht : t ≤ 300) (h : fDoes e nr ng nb c = some (e2, nb2)) : nb2 ≤ nb ∧ ∃ t2, t2 ≤ 300 ∧ WF e2 nr ng nb2 t2 := by
  have cIx : ∀ {p : Prop} {x : Option (Rw × Nat)}, cI p x = some (e2, nb2) → p ∧ x = some (e2, nb2) := fun {p} {x} hx => by
    by_cases q : p
    · rw [cI_t q] at hx; exact ⟨q, hx⟩
    · rw [cI_f q] at hx; cases hx
  rw [fDoes] at h
  have hd9 : c / 10000 = 0 ∨ c / 10000 = 1 ∨ c / 10000 = 2 ∨ c / 10000 = 3 ∨ c / 10000 = 4 ∨ c / 10000 = 5 ∨ c / 10000 = 6 ∨ c / 10000 = 7 ∨ c / 10000 = 8 ∨ c / 10000 = 9 ∨ 10 ≤ c / 10000 := by omega
  rcases hd9 with hd | hd | hd | hd | hd | hd | hd | hd | hd | hd | hd
  · rw [hd] at h; cases h
  · rw [hd] at h
    obtain ⟨⟨-, ⟨h1, h2⟩, h3⟩, h4⟩ := cIx h
    cases h4
    refine ⟨Nat.le_refl _, _, ?_, hw.hoursN _⟩
    rw [hw.hr, nI_add] at h3
    have := (nI_leI (b := 240) (by omega) (by omega)).mp h3
    omega
  · rw [hd] at h
    obtain ⟨-, h4⟩ := cIx h
    cases h4
    exact ⟨Nat.le_refl _, t, ht, hw.out _⟩
  · rw [hd] at h
    match hb : fCur e (c / 1000 % 10) nb with
    | none => rw [show fDo e nr ng nb (c / 1000 % 10) (c / 100 % 10) (c % 100) (c / 100 % 100) (c % 1000) (c % 10000) 3 = fDo3 e nr nb (c / 1000 % 10) (c / 100 % 10) (c % 100) from rfl, fDo3_n hb] at h; cases h
    | some b =>
      rw [show fDo e nr ng nb (c / 1000 % 10) (c / 100 % 10) (c % 100) (c / 100 % 100) (c % 1000) (c % 10000) 3 = fDo3 e nr nb (c / 1000 % 10) (c / 100 % 10) (c % 100) from rfl, fDo3_s hb] at h
      obtain ⟨⟨-, h2, -⟩, h4⟩ := cIx h
      cases h4
      exact ⟨Nat.le_refl _, t, ht, hw.marks _ (by
        rcases (show c / 100 % 10 = 0 ∨ c / 100 % 10 = 1 by omega) with q | q
        · exact Or.inl (by rw [q]; rfl)
        · exact Or.inr (by rw [q]; rfl))⟩
  · rw [hd] at h
    obtain ⟨⟨h1, -⟩, h4⟩ := cIx h
    cases h4
    have := hw.ng6
    exact ⟨Nat.le_refl _, t, ht, hw.owe (by omega) _⟩
  · rw [hd] at h
    obtain ⟨⟨h1, -⟩, h4⟩ := cIx h
    cases h4
    exact ⟨by omega, t, ht, hw.drop h1⟩
  · rw [hd] at h
    obtain ⟨-, h4⟩ := cIx h
    cases h4
    exact ⟨Nat.le_refl _, t, ht, hw⟩
  · rw [hd] at h
    obtain ⟨-, h4⟩ := cIx h
    cases h4
    exact ⟨Nat.le_refl _, t, ht, hw⟩
  · rw [hd] at h
    obtain ⟨-, h4⟩ := cIx h
    cases h4
    exact ⟨Nat.le_refl _, t, ht, hw⟩
  · rw [hd] at h
    obtain ⟨-, h4⟩ := cIx h
    cases h4
    exact ⟨Nat.le_refl _, t, ht, hw⟩
  · obtain ⟨x, hx⟩ : ∃ x, c / 10000 = x + 10 := ⟨c / 10000 - 10, by omega⟩
    rw [hx] at h
    cases h
theorem tenL_N : ∀ j, j ≤ 18 → tenL j = lN (10 ^ j)
  | 0, _ => by decide
  | j + 1, h => by
    rw [tenL, tenL_N j (by omega)]
    have e : lN (10 ^ j) * lN 10 = lN (10 ^ j * 10) := (Int64.ofNat_mul _ _).symm
    rw [show (10 : Int64) = lN 10 from rfl, e, Nat.pow_succ]
theorem ten_lt {j : Nat} (h : j ≤ 18) : 10 ^ j < 2 ^ 63 := Nat.lt_of_le_of_lt (Nat.pow_le_pow_right (by decide) h) (by decide)
theorem l2i_N {c : Nat} (h : c < 2 ^ 31) : (lN c).toInt32 = nI c := by
  rw [← nI_l h]
  simp
/-- a script's commands from the m-th last one on: which one fails -/
noncomputable def fRun (nr ng k S : Nat) : Nat → Rw → Nat → Int32
  | 0, _, _ => -99
  | m + 1, e, nb => match fDoes e nr ng nb (S / 10 ^ (5 * m) % 100000) with
    | none => nI (k - (m + 1))
    | some (e2, nb2) => fRun nr ng k S m e2 nb2
theorem fRun_n {nr ng k S m nb : Nat} {e : Rw} (h : fDoes e nr ng nb (S / 10 ^ (5 * m) % 100000) = none) : fRun nr ng k S (m + 1) e nb = nI (k - (m + 1)) := by rw [fRun, h]
theorem fRun_s {nr ng k S m nb nb2 : Nat} {e e2 : Rw} (h : fDoes e nr ng nb (S / 10 ^ (5 * m) % 100000) = some (e2, nb2)) : fRun nr ng k S (m + 1) e nb = fRun nr ng k S m e2 nb2 := by rw [fRun, h]
def scrA (n : Int32) (s : Int64) : Prop := ∃ k, 1 ≤ k ∧ k ≤ 3 ∧ n = nI k ∧ 0 ≤ s ∧ s ≤ tenL (5 * k) - 1
abbrev lC (s : Int64) : Nat := s.toInt.toNat
theorem lC_of {s : Int64} (h : 0 ≤ s) : s = lN (lC s) ∧ lC s < 2 ^ 63 := by
  obtain ⟨k, hk, rfl⟩ := pk_lOf (x := s) (Int64.not_lt.mpr h)
  have e : lC (lN k) = k := by rw [lC, pk_lT hk]; rfl
  rw [e]
  exact ⟨rfl, hk⟩
def fMk (e : Rw) (nb : Nat) : Nat → Rw
  | 0 => e
  | k + 1 => match fCur (fMk e nb k) k nb with
    | none => fMk e nb k
    | some b => upd (fMk e nb k) (31 + 10 * b + 7) 1
theorem fMk_n {e : Rw} {nb k : Nat} (h : fCur (fMk e nb k) k nb = none) : fMk e nb (k + 1) = fMk e nb k := by rw [fMk, h]
theorem fMk_s {e : Rw} {nb k b : Nat} (h : fCur (fMk e nb k) k nb = some b) : fMk e nb (k + 1) = upd (fMk e nb k) (31 + 10 * b + 7) 1 := by rw [fMk, h]
theorem WF.mks {e : Rw} {nr ng nb t : Nat} (hw : WF e nr ng nb t) : ∀ k, WF (fMk e nb k) nr ng nb t
  | 0 => hw
  | k + 1 => by
    have ih := WF.mks hw k
    match h : fCur (fMk e nb k) k nb with
    | none => rw [fMk_n h]; exact ih
    | some b => rw [fMk_s h]; exact ih.marks 1 (Or.inr rfl)
abbrev lcg (x : Int64) : Int64 := x * 6364136223846793005 + 1442695040888963407
abbrev lcr (x : Int64) : Int32 := (x.toUInt64 >>> ((33 : Int32).toInt64.toUInt64 &&& Int64.toUInt64 63)).toInt64.toInt32
def simOut (e : Rw) (r : Int32) : Rw := upd e 4 (r - r / 30 * 30 - 10)
def simMark (e : Rw) (nr nb : Nat) (r : Int32) : Rw := if r / 64 - r / 64 / 8 * 8 = 0 then fMk (simOut e r) nb nr else simOut e r
/-- so many hours of a simulation -/
def fSim (nr nb : Nat) : Nat → Rw → Int64 → Rw
  | 0, e, _ => e
  | k + 1, e, x => if e 0 < 240 then fSim nr nb k (fHour (simMark e nr nb (lcr (lcg x))) nr nb) (lcg x) else e
theorem fSim_s {nr nb k : Nat} {e : Rw} {x : Int64} (h : e 0 < 240) : fSim nr nb (k + 1) e x = fSim nr nb k (fHour (simMark e nr nb (lcr (lcg x))) nr nb) (lcg x) := by rw [fSim, if_pos h]
theorem fSim_e {nr nb k : Nat} {e : Rw} {x : Int64} (h : ¬ e 0 < 240) : fSim nr nb k e x = e := by
  cases k with
  | zero => rfl
  | succ k => rw [fSim, if_neg h]
theorem WF.sim {e : Rw} {nr ng nb t : Nat} (hw : WF e nr ng nb t) (r : Int32) : WF (simMark e nr nb r) nr ng nb t := by
  unfold simMark
  split
  · exact (hw.out _).mks nr
  · exact hw.out _
def mn9 (x : Int32) : Int32 := if x ≤ 9999 then x else 9999
def simV (g e : Rw) : Int32 := 1000 * mn9 (e 7 - g 7) + e 8 - g 8
