theorem lt_of_neq {n K : Nat} (K9 : K < 1000) (h : n ≤ K) (c : ¬ nI n = nI K) : n < K := by
  rcases Nat.lt_or_ge n K with q | q
  · exact q
  · exact absurd (by rw [show n = K by omega]) c
theorem nlt_of_eq {n K : Nat} (hn : n < 1000) (K9 : K < 1000) (c : nI n = nI K) : ¬ n < K := fun h => by
  have := (nI_eq (by omega) (by omega)).mp c
  omega
/-- one of the first n -/
def isN (r : Int32) (n : Nat) : Prop := ∃ k, k < n ∧ r = nI k
theorem isN_le {r : Int32} {n : Nat} (hn : n < 1000) : (0 ≤ r ∧ r ≤ nI n - 1) ↔ isN r n := by
  constructor
  · rintro ⟨h1, h2⟩
    obtain ⟨j, hj, rfl⟩ := nI_of (Int32.not_lt.mpr h1)
    cases n with
    | zero => exact absurd (Int32.le_trans h1 h2) (by decide)
    | succ n =>
      rw [nI_pred] at h2
      exact ⟨j, by have := (nI_leI hj (by omega)).mp h2; omega, rfl⟩
  · rintro ⟨k, hk, rfl⟩
    cases n with
    | zero => omega
    | succ n =>
      rw [nI_pred]
      exact ⟨nI_pos' (by omega), nI_le (by omega) (by omega)⟩
theorem isN_lt {r : Int32} {n : Nat} (hn : n < 1000) : (0 ≤ r ∧ r < nI n) ↔ isN r n := by
  constructor
  · rintro ⟨h1, h2⟩
    obtain ⟨j, hj, rfl⟩ := nI_of (Int32.not_lt.mpr h1)
    exact ⟨j, (nI_ltI hj (by omega)).mp h2, rfl⟩
  · rintro ⟨k, hk, rfl⟩
    exact ⟨nI_pos' (by omega), nI_lt hk (by omega)⟩
theorem Int32.rng {x : Int32} {n : Nat} (hn : n < 1000) (h1 : 0 ≤ x) (h2 : x ≤ nI n) : ∃ k, k ≤ n ∧ x = nI k := by
  obtain ⟨j, hj, rfl⟩ := nI_of (Int32.not_lt.mpr h1)
  exact ⟨j, (nI_leI hj (by omega)).mp h2, rfl⟩
/-! refusals: the first thing that is wrong -/
noncomputable def cd1 (a : Prop) : Int32 := @ite _ a (Classical.propDecidable a) 0 1
noncomputable def cd2 (a b : Prop) : Int32 := @ite _ a (Classical.propDecidable a) (@ite _ b (Classical.propDecidable b) 0 2) 1
noncomputable def cd3 (a b c : Prop) : Int32 := @ite _ a (Classical.propDecidable a) (@ite _ b (Classical.propDecidable b) (@ite _ c (Classical.propDecidable c) 0 3) 2) 1
section CD
variable {a b c : Prop}
theorem cd1_0 (h : a) : 0 = cd1 a := (@if_pos _ (Classical.propDecidable a) h _ _ _).symm
theorem cd1_1 (h : ¬ a) : 1 = cd1 a := (@if_neg _ (Classical.propDecidable a) h _ _ _).symm
theorem cd2_1 (h : ¬ a) : 1 = cd2 a b := (@if_neg _ (Classical.propDecidable a) h _ _ _).symm
theorem cd2_2 (h : a) (h2 : ¬ b) : 2 = cd2 a b := ((@if_pos _ (Classical.propDecidable a) h _ _ _).trans (@if_neg _ (Classical.propDecidable b) h2 _ _ _)).symm
theorem cd2_0 (h : a) (h2 : b) : 0 = cd2 a b := ((@if_pos _ (Classical.propDecidable a) h _ _ _).trans (@if_pos _ (Classical.propDecidable b) h2 _ _ _)).symm
theorem cd3_1 (h : ¬ a) : 1 = cd3 a b c := (@if_neg _ (Classical.propDecidable a) h _ _ _).symm
theorem cd3_2 (h : a) (h2 : ¬ b) : 2 = cd3 a b c := ((@if_pos _ (Classical.propDecidable a) h _ _ _).trans (@if_neg _ (Classical.propDecidable b) h2 _ _ _)).symm
theorem cd3_3 (h : a) (h2 : b) (h3 : ¬ c) : 3 = cd3 a b c := ((@if_pos _ (Classical.propDecidable a) h _ _ _).trans ((@if_pos _ (Classical.propDecidable b) h2 _ _ _).trans (@if_neg _ (Classical.propDecidable c) h3 _ _ _))).symm
theorem cd3_0 (h : a) (h2 : b) (h3 : c) : 0 = cd3 a b c := ((@if_pos _ (Classical.propDecidable a) h _ _ _).trans ((@if_pos _ (Classical.propDecidable b) h2 _ _ _).trans (@if_pos _ (Classical.propDecidable c) h3 _ _ _))).symm
theorem cd1_z (h : ¬ 0 < cd1 a) : a := Classical.byContradiction fun k => h (by rw [← cd1_1 k]; decide)
theorem cd2_z (h : ¬ 0 < cd2 a b) : a ∧ b := by
  have h1 : a := Classical.byContradiction fun k => h (by rw [← cd2_1 k]; decide)
  exact ⟨h1, Classical.byContradiction fun k => h (by rw [← cd2_2 h1 k]; decide)⟩
theorem cd3_z (h : ¬ 0 < cd3 a b c) : a ∧ b ∧ c := by
  have h1 : a := Classical.byContradiction fun k => h (by rw [← cd3_1 k]; decide)
  have h2 : b := Classical.byContradiction fun k => h (by rw [← cd3_2 h1 k]; decide)
  exact ⟨h1, h2, Classical.byContradiction fun k => h (by rw [← cd3_3 h1 h2 k]; decide)⟩
end CD
theorem cd_ne {x : Int32} (h : 0 < x) : ¬ x = 0 := fun e => by rw [e] at h; exact absurd h (by decide)
theorem sI_sA_ne {σ : Sg} {a b j : Nat} {f : Rw} {v : Int32} (h : b ≠ a) : sI (sA σ a f) b j v = sA (sI σ b j v) a f := by
  refine Prod.ext (funext fun i => funext fun k => ?_) rfl
  by_cases h1 : i = a
  · subst h1
    have h2 : ¬ (i = b ∧ k = j) := fun q => h q.1.symm
    simp [sI, sA, h2]
  · simp [sI, sA, h1]
theorem sA_comm {σ : Sg} {a b : Nat} {f e : Rw} (h : a ≠ b) : sA (sA σ a f) b e = sA (sA σ b e) a f := by
  refine Prod.ext (funext fun i => funext fun k => ?_) rfl
  by_cases h1 : i = a
  · subst h1; simp [sA, h]
  · simp [sA, h1]
theorem Ct.imp {y : MethodName} {cc : ByteArray} {M : MT} {d mc ms n n' : Nat} {z : Bool} {σ : Sg} {av : List Value} {P P' : PT} {X : XT} (h : Ct y cc M d mc ms n z σ av n' P X) (e : P = P') : Ct y cc M d mc ms n z σ av n' P' X := e ▸ h
/-- a row that stands for a hall: rooms, groups, bookings; the hour -/
def WF (g : Rw) (nr ng nb t : Nat) : Prop := (g 1 = nI nr ∧ nr ≤ 4 ∧ g 2 = nI ng ∧ ng ≤ 6 ∧ g 3 = nI nb ∧ nb ≤ 12 ∧ g 0 = nI t) ∧
  (∀ r, r < nr → (∃ k, k ≤ 9 ∧ g (9 + 4 * r + 0) = nI k) ∧ ∃ k, k ≤ 9 ∧ g (9 + 4 * r + 2) = nI k) ∧
  (∀ b, b < nb → (∃ r, r < nr ∧ g (31 + 10 * b + 0) = nI r) ∧ (∃ w, w < ng ∧ g (31 + 10 * b + 1) = nI w) ∧ (∃ f, f < 200 ∧ g (31 + 10 * b + 2) = nI f) ∧ (∃ h, 1 ≤ h ∧ h ≤ 12 ∧ g (31 + 10 * b + 3) = nI h)) ∧
  (∀ b, b < nb → (g (31 + 10 * b + 7) = 0 ∨ g (31 + 10 * b + 7) = 1) ∧ (g (31 + 10 * b + 9) = 0 ∨ g (31 + 10 * b + 9) = 1)) ∧
  ∀ b c, b < nb → c < nb → b ≠ c → g (31 + 10 * b + 0) = g (31 + 10 * c + 0) → fEnd g b ≤ g (31 + 10 * c + 2) ∨ fEnd g c ≤ g (31 + 10 * b + 2)
theorem WF.nr {g : Rw} {nr ng nb t : Nat} (h : WF g nr ng nb t) : g 1 = nI nr := h.1.1
theorem WF.nr4 {g : Rw} {nr ng nb t : Nat} (h : WF g nr ng nb t) : nr ≤ 4 := h.1.2.1
theorem WF.ng {g : Rw} {nr ng nb t : Nat} (h : WF g nr ng nb t) : g 2 = nI ng := h.1.2.2.1
theorem WF.ng6 {g : Rw} {nr ng nb t : Nat} (h : WF g nr ng nb t) : ng ≤ 6 := h.1.2.2.2.1
theorem WF.nb {g : Rw} {nr ng nb t : Nat} (h : WF g nr ng nb t) : g 3 = nI nb := h.1.2.2.2.2.1
theorem WF.nb12 {g : Rw} {nr ng nb t : Nat} (h : WF g nr ng nb t) : nb ≤ 12 := h.1.2.2.2.2.2.1
theorem WF.hr {g : Rw} {nr ng nb t : Nat} (h : WF g nr ng nb t) : g 0 = nI t := h.1.2.2.2.2.2.2
theorem WF.who {g : Rw} {nr ng nb t : Nat} (h : WF g nr ng nb t) : WHO g nb := fun b hb => by
  obtain ⟨w, h1, h2⟩ := (h.2.2.1 b hb).2.1
  have := h.ng6
  exact ⟨w, by omega, h2⟩
theorem WF.room {g : Rw} {nr ng nb t : Nat} (h : WF g nr ng nb t) {b : Nat} (hb : b < nb) : ∃ r, r < nr ∧ g (31 + 10 * b + 0) = nI r := (h.2.2.1 b hb).1
theorem WF.grp {g : Rw} {nr ng nb t : Nat} (h : WF g nr ng nb t) {b : Nat} (hb : b < nb) : ∃ w, w < ng ∧ g (31 + 10 * b + 1) = nI w := (h.2.2.1 b hb).2.1
theorem WF.first {g : Rw} {nr ng nb t : Nat} (h : WF g nr ng nb t) {b : Nat} (hb : b < nb) : ∃ f, f < 200 ∧ g (31 + 10 * b + 2) = nI f := (h.2.2.1 b hb).2.2.1
theorem WF.hours {g : Rw} {nr ng nb t : Nat} (h : WF g nr ng nb t) {b : Nat} (hb : b < nb) : ∃ k, 1 ≤ k ∧ k ≤ 12 ∧ g (31 + 10 * b + 3) = nI k := (h.2.2.1 b hb).2.2.2
theorem WF.mark {g : Rw} {nr ng nb t : Nat} (h : WF g nr ng nb t) {b : Nat} (hb : b < nb) : g (31 + 10 * b + 7) = 0 ∨ g (31 + 10 * b + 7) = 1 := (h.2.2.2.1 b hb).1
theorem WF.begun {g : Rw} {nr ng nb t : Nat} (h : WF g nr ng nb t) {b : Nat} (hb : b < nb) : g (31 + 10 * b + 9) = 0 ∨ g (31 + 10 * b + 9) = 1 := (h.2.2.2.1 b hb).2
theorem WF.end {g : Rw} {nr ng nb t : Nat} (h : WF g nr ng nb t) {b : Nat} (hb : b < nb) : ∃ e, e ≤ 211 ∧ fEnd g b = nI e := by
  obtain ⟨f, h1, h2⟩ := h.first hb
  obtain ⟨k, h3, h4, h5⟩ := h.hours hb
  exact ⟨f + k, by omega, by rw [fEnd, h2, h5, nI_add]⟩
/-- the hours from now to where all bookings are over -/
def fH (g : Rw) (nb : Nat) : Nat := (fMax g (g 0) nb - g 0).toNatClampNeg
theorem WF.maxs {g : Rw} {nr ng nb t : Nat} (h : WF g nr ng nb t) (ht : t ≤ 300) : ∀ k, k ≤ nb → ∃ e, t ≤ e ∧ e ≤ 300 ∧ fMax g (g 0) k = nI e
  | 0, _ => ⟨t, Nat.le_refl _, ht, h.hr⟩
  | k + 1, hk => by
    obtain ⟨e, h1, h2, h3⟩ := WF.maxs h ht k (by omega)
    obtain ⟨e2, h4, h5⟩ := h.end (b := k) (by omega)
    unfold fMax
    rw [h3, h5]
    split
    · rename_i q
      have := (nI_ltI (by omega) (by omega)).mp q
      exact ⟨e2, by omega, by omega, rfl⟩
    · exact ⟨e, h1, h2, rfl⟩
theorem WF.fHs {g : Rw} {nr ng nb t : Nat} (h : WF g nr ng nb t) (ht : t ≤ 300) : fH g nb < 2 ^ 31 ∧ fMax g (g 0) nb - g 0 = nI (fH g nb) := by
  obtain ⟨e, h1, h2, h3⟩ := h.maxs ht nb (Nat.le_refl _)
  have e1 : fMax g (g 0) nb - g 0 = nI (e - t) := by rw [h3, h.hr, pk_sub h1]
  have e2 : fH g nb = e - t := by rw [fH, e1, nI_clamp (by omega)]
  rw [e2]
  exact ⟨by omega, e1⟩
def aboutV (g : Rw) (k : Nat) : Int32 := if k < 8 then g k else if k = 8 then g 5 - g 6 - g 7 else g 8
def roomV (g : Rw) (nb r k : Nat) : Int32 := if k < 4 then g (9 + 4 * r + k) else if k = 4 then oI (fCur g r nb) else if k = 5 then oI (fNxt g r nb) else oI (fHeater g r nb)
def bookV (g : Rw) (b k : Nat) : Int32 := if k < 9 then g (31 + 10 * b + k) else if fEnd g b ≤ g 0 then 1 else 0
abbrev cN (x : Int32) : Nat := x.toNatClampNeg
def remA (a : Nat) : Nat := if a = 14 then 14 else a + 1
def remD (D : Rw) (g : Rw) (a : Nat) : Rw := if a = 14 then cp (cp D D 0 151 1963) g 1963 0 151 else cp D g (151 * a) 0 151
