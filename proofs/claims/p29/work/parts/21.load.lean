/-! the reference: a text is loaded; a new model -/
theorem PI.loop {T : Rw} {n : Nat} : ∀ (k : Nat) {s : PSt} {g : Rw} {nr ng nb : Nat}, PI n s g nr ng nb → PI n (pLoop T n k (s, g, nr, ng, nb)).1 (pLoop T n k (s, g, nr, ng, nb)).2.1 (pLoop T n k (s, g, nr, ng, nb)).2.2.1 (pLoop T n k (s, g, nr, ng, nb)).2.2.2.1 (pLoop T n k (s, g, nr, ng, nb)).2.2.2.2
  | 0, s, g, nr, ng, nb, h => h
  | k + 1, s, g, nr, ng, nb, h => by
    by_cases hc : s.2 = true ∧ s.1 < n
    · rw [pLoop_s hc.1 hc.2]
      exact PI.loop k (h.part hc.1 hc.2).1
    · rw [pLoop_e hc]
      exact h
theorem pText_PI {T : Rw} {n : Nat} {g : Rw} : PI n (pText T n (fClean g)).1 (pText T n (fClean g)).2.1 (pText T n (fClean g)).2.2.1 (pText T n (fClean g)).2.2.2.1 (pText T n (fClean g)).2.2.2.2 :=
  PI.loop 120 ⟨stp_le (Nat.zero_le _) nx_lt, WF.clean, fun i hi => by rw [fClean, if_neg (by omega), if_pos (by omega)]⟩
theorem pErr_ok {s : PSt} (hs : s.1 < 1000) : pErr s = -99 ↔ s.2 = true := by
  unfold pErr
  split
  · rename_i h; exact ⟨fun _ => h, fun _ => rfl⟩
  · rename_i h; exact ⟨fun e => absurd e.symm (oI_ne hs), fun e => absurd e h⟩
