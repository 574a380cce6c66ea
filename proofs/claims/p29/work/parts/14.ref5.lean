/-! the reference: what is done and tried out -/
noncomputable def zI (a : Prop) : Int32 := @ite _ a (Classical.propDecidable a) 1 0
theorem zI_t {a : Prop} (h : a) : 1 = zI a := (@if_pos _ (Classical.propDecidable a) h _ _ _).symm
theorem zI_f {a : Prop} (h : ¬ a) : 0 = zI a := (@if_neg _ (Classical.propDecidable a) h _ _ _).symm
theorem zI_1 {a : Prop} (h : ¬ zI a = 0) : a := Classical.byContradiction fun k => h (zI_f k).symm
theorem zI_0 {a : Prop} (h : zI a = 0) : ¬ a := fun k => by rw [← zI_t k] at h; exact absurd h (by decide)
theorem fAddRoom_1 {g : Rw} {nr : Nat} {s l p t : Int32} (h : nr < 4) : fAddRoom g nr s l p t 1 = g 1 + 1 := by
  simp only [fAddRoom]
  rw [upd_s, upd_n (by omega), upd_n (by omega), upd_n (by omega), upd_n (by omega)]
theorem fBookTo_3 {g : Rw} {nb : Nat} {r w f h t : Int32} : fBookTo g nb r w f h t 3 = g 3 + 1 := by
  simp only [fBookTo]
  rw [upd_s, upd_n (by omega), upd_n (by omega), upd_n (by omega), upd_n (by omega), upd_n (by omega), fZero_off _ _ (by omega)]
def fAddGroup (g : Rw) (ng : Nat) : Rw := upd (upd g (25 + ng) 0) 2 (upd g (25 + ng) 0 2 + 1)
theorem fAddGroup_2 {g : Rw} {ng : Nat} : fAddGroup g ng 2 = g 2 + 1 := by
  rw [fAddGroup, upd_s, upd_n (by omega)]
def sound (g : Rw) (f h t0 : Int32) : Prop := (g 0 ≤ f ∧ f ≤ 199) ∧ (1 ≤ h ∧ h ≤ 12) ∧ 12 ≤ t0 ∧ t0 ≤ 25
def goesP (g : Rw) (b : Nat) : Prop := g (31 + 10 * b + 9) = 0 ∧ g 0 ≤ g (31 + 10 * b + 2)
