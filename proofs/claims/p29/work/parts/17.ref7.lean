/-! the reference: scripts and simulations -/
noncomputable def cI {α : Type} (p : Prop) (x : Option α) : Option α := @ite _ p (Classical.propDecidable p) x none
theorem cI_t {α : Type} {p : Prop} {x : Option α} (h : p) : cI p x = x := @if_pos _ (Classical.propDecidable p) h _ _ _
theorem cI_f {α : Type} {p : Prop} {x : Option α} (h : ¬ p) : cI p x = none := @if_neg _ (Classical.propDecidable p) h _ _ _
def tV (d3 d45 : Nat) : Int32 := if d3 = 1 then -nI d45 else nI d45
noncomputable def fDo3 (e : Rw) (nr nb d2 d3 d45 : Nat) : Option (Rw × Nat) := match fCur e d2 nb with
  | none => none
  | some b => cI (d2 < nr ∧ d3 ≤ 1 ∧ d45 = 0) (some (upd e (31 + 10 * b + 7) (nI d3), nb))
theorem fDo3_n {e : Rw} {nr nb d2 d3 d45 : Nat} (h : fCur e d2 nb = none) : fDo3 e nr nb d2 d3 d45 = none := by rw [fDo3, h]
theorem fDo3_s {e : Rw} {nr nb d2 d3 d45 b : Nat} (h : fCur e d2 nb = some b) : fDo3 e nr nb d2 d3 d45 = cI (d2 < nr ∧ d3 ≤ 1 ∧ d45 = 0) (some (upd e (31 + 10 * b + 7) (nI d3), nb)) := by rw [fDo3, h]
theorem fDo3_f {e : Rw} {nr nb d2 d3 d45 : Nat} (h : ¬ (d2 < nr ∧ d3 ≤ 1 ∧ d45 = 0)) : fDo3 e nr nb d2 d3 d45 = none := by
  unfold fDo3
  split
  · rfl
  · exact cI_f h
/-- a command by its digits: what the row becomes, and how many bookings there are then; none where it fails -/
noncomputable def fDo (e : Rw) (nr ng nb : Nat) (d2 d3 d45 d23 d345 c4 : Nat) : Nat → Option (Rw × Nat)
  | 1 => cI (d23 = 0 ∧ (1 ≤ nI d45 ∧ nI d45 ≤ 48) ∧ e 0 + nI d45 ≤ 240) (some (fHours e nr nb d45, nb))
  | 2 => cI (d2 = 0 ∧ d3 ≤ 1 ∧ -20 ≤ tV d3 d45 ∧ tV d3 d45 ≤ 25) (some (upd e 4 (tV d3 d45), nb))
  | 3 => fDo3 e nr nb d2 d3 d45
  | 4 => cI (d2 < ng ∧ d345 = 0) (some (upd e (25 + d2) 0, nb))
  | 5 => cI (d23 < nb ∧ d45 = 0 ∧ goesP e d23) (some (fDrop e d23, nb - 1))
  | 6 => cI (d2 < nr ∧ d3 = 0 ∧ nI d45 ≤ e (9 + 4 * d2 + 3)) (some (e, nb))
  | 7 => cI (d2 < ng ∧ e (25 + d2) ≤ nI d345) (some (e, nb))
  | 8 => cI (d23 < nb ∧ d45 < 2 ∧ (fEnd e d23 ≤ e 0 ↔ d45 = 1)) (some (e, nb))
  | 9 => cI (nI c4 ≤ e 5) (some (e, nb))
  | _ => none
noncomputable def fDoes (e : Rw) (nr ng nb c : Nat) : Option (Rw × Nat) := fDo e nr ng nb (c / 1000 % 10) (c / 100 % 10) (c % 100) (c / 100 % 100) (c % 1000) (c % 10000) (c / 10000)
