/-! the class: an hour -/
/-- what an hour makes of a row in a room that is heated, place by place -/
def rmU (g : Rw) (r b : Nat) : Int32 := byOf (g (31 + 10 * b + 4) - fCool g r) (g (9 + 4 * r + 2))
def rmH (g : Rw) (r b : Nat) : Int32 := rmU g r b * g (9 + 4 * r + 0)
def rmF (g : Rw) (r b w : Nat) (own cold mark : Bool) : Rw := fun j =>
  if j = 9 + 4 * r + 3 then fCool g r + rmU g r b
  else if j = 31 + 10 * b + 9 then (if own = true then g j else 1)
  else if j = 31 + 10 * b + 8 then (g j + if own = true ∧ cold = true then 1 else 0)
  else if j = 31 + 10 * b + 6 then (if own = true then g j + rmH g r b else g j)
  else if j = 31 + 10 * b + 5 then (if own = true then g j else g j + rmH g r b)
  else if j = 7 then (if own = true ∧ mark = true then g j + rmH g r b else g j)
  else if j = 6 ∨ j = 25 + w then (if own = true ∧ mark = true then g j else g j + rmH g r b)
  else g j
theorem fRoom_rmF {g : Rw} {r b w nb : Nat} (hr : r < 4) (hb : b < 12) (hw6 : w < 6) (hw : g (31 + 10 * b + 1) = nI w) (hf : fHeater g r nb = some b) : (fRoom g r nb).1 = rmF g r b w (decide (g (31 + 10 * b + 2) ≤ g 0)) (decide (g (9 + 4 * r + 3) < g (31 + 10 * b + 4) - 1)) (decide (g (31 + 10 * b + 7) = 1)) ∧ (fRoom g r nb).2 = rmH g r b := by
  have e0 : ∀ G : Rw, G (31 + 10 * b + 1) = g (31 + 10 * b + 1) → whoN G b = w := fun G h => by rw [whoN, h, hw, nI_clamp (by omega)]
  have hX : ∀ (v1 v2 v3 v4 : Int32), whoN (upd (upd (upd (upd g (9 + 4 * r + 3) v1) (31 + 10 * b + 9) v2) (31 + 10 * b + 8) v3) (9 + 4 * r + 3) v4) b = w := fun v1 v2 v3 v4 => e0 _ (by simp (disch := omega) only [upd_n])
  rw [fRoom, hf]
  simp only [fCharge, hX]
  simp (disch := omega) only [upd_s, upd_n]
  refine ⟨funext fun j => ?_, rfl⟩
  have hu : byOf (g (31 + 10 * b + 4) - fCool g r) (g (9 + 4 * r + 2)) * g (9 + 4 * r + 0) = rmH g r b := rfl
  have hu2 : byOf (g (31 + 10 * b + 4) - fCool g r) (g (9 + 4 * r + 2)) = rmU g r b := rfl
  rw [hu, hu2]
  by_cases own : g (31 + 10 * b + 2) ≤ g 0 <;> by_cases mk : g (31 + 10 * b + 7) = 1 <;> by_cases cold : g (9 + 4 * r + 3) < g (31 + 10 * b + 4) - 1 <;>
  · simp only [own, mk, cold, and_self, and_true, true_and, and_false, false_and, if_true, if_false, decide_true, decide_false, rmF, Bool.false_eq_true]
    by_cases j1 : j = 9 + 4 * r + 3
    · subst j1; simp (disch := omega) only [upd_s, upd_n, if_pos, if_neg]
    by_cases j2 : j = 31 + 10 * b + 9
    · subst j2; simp (disch := omega) only [upd_s, upd_n, if_pos, if_neg, if_true, if_false]
    by_cases j3 : j = 31 + 10 * b + 8
    · subst j3; simp (disch := omega) only [upd_s, upd_n, if_pos, if_neg]
    by_cases j4 : j = 31 + 10 * b + 6
    · subst j4; simp (disch := omega) only [upd_s, upd_n, if_pos, if_neg]
    by_cases j5 : j = 31 + 10 * b + 5
    · subst j5; simp (disch := omega) only [upd_s, upd_n, if_pos, if_neg]
    by_cases j6 : j = 7
    · subst j6; simp (disch := omega) only [upd_s, upd_n, if_pos, if_neg]
    by_cases j7 : j = 6
    · subst j7; simp (disch := omega) only [upd_s, upd_n, if_pos, if_neg, true_or]
    by_cases j8 : j = 25 + w
    · subst j8; simp (disch := omega) only [upd_s, upd_n, if_pos, if_neg, or_true]
    simp (disch := omega) only [upd_s, upd_n, if_pos, if_neg, j1, j2, j3, j4, j5, j6, j7, j8, if_false, or_self]
