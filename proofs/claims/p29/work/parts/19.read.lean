/-! the reference: the reading of a text -/
abbrev PSt : Type := Nat × Bool
def pN (p : Nat) (o : Bool) : Nat := if o = true then p + 1 else p
def stp (s : PSt) (c : Bool) : PSt := (pN s.1 (s.2 && c), s.2 && c)
theorem b01_01 {o : Bool} : b01 o = 0 ∨ b01 o = 1 := by cases o <;> simp [b01]
theorem b01_t {o : Bool} (h : ¬ b01 o = 0) : o = true := by cases o <;> simp_all [b01]
theorem b01_f {o : Bool} (h : b01 o = 0) : o = false := by cases o <;> simp_all [b01]
theorem bt1 {o : Bool} (h : ¬ b01 o = 0) : 1 = b01 o := by rw [b01_t h]; rfl
theorem bf0 {o : Bool} (h : b01 o = 0) : 0 = b01 o := h.symm
theorem nb01 {o : Bool} (h : b01 o = 0) : ¬ o = true := by rw [b01_f h]; decide
theorem bor1 {x y : Bool} (h : ¬ b01 x = 0) : 1 = b01 (x || y) := by rw [b01_t h]; rfl
theorem bor2 {x y : Bool} (h : b01 x = 0) (h2 : ¬ b01 y = 0) : 1 = b01 (x || y) := by rw [b01_f h, b01_t h2]; rfl
theorem bor0 {x y : Bool} (h : b01 x = 0) (h2 : b01 y = 0) : 0 = b01 (x || y) := by rw [b01_f h, b01_f h2]; rfl
theorem b01_D1 {p : Prop} [Decidable p] (h : p) : 1 = b01 (decide p) := by simp [b01, h]
theorem b01_D0 {p : Prop} [Decidable p] (h : ¬ p) : 0 = b01 (decide p) := by simp [b01, h]
theorem pN_add {p : Nat} {o : Bool} : nI p + b01 o = nI (pN p o) := by
  cases o
  · show nI p + 0 = nI p
    exact nI_add p 0
  · show nI p + 1 = nI (p + 1)
    exact nI_1 p
/-- the sign at the place is this one -/
def nx (T : Rw) (n p : Nat) (c : Int32) : Bool := decide (p < n) && decide (T p = c)
def dV (T : Rw) (n p : Nat) : Int32 := if p < n then T p - 48 else -99
def gD (T : Rw) (n p : Nat) (lo hi : Int32) : Bool := decide (0 ≤ dV T n p ∧ dV T n p ≤ 9) && decide (lo ≤ dV T n p ∧ dV T n p ≤ hi)
def dig (T : Rw) (n : Nat) (lo hi : Int32) (s : PSt) : PSt := stp s (gD T n s.1 lo hi)
def digv (T : Rw) (n : Nat) (lo hi : Int32) (s : PSt) : Int32 := if (dig T n lo hi s).2 = true then dV T n s.1 else lo
def lo2 (lo t : Int32) : Int32 := if lo - 10 * t < 0 then 0 else lo - 10 * t
def hi2 (hi t : Int32) : Int32 := if hi - 10 * t ≤ 9 then hi - 10 * t else 9
def two (T : Rw) (n : Nat) (lo hi : Int32) (s : PSt) : PSt := dig T n (lo2 lo (digv T n (lo / 10) (hi / 10) s)) (hi2 hi (digv T n (lo / 10) (hi / 10) s)) (dig T n (lo / 10) (hi / 10) s)
def twov (T : Rw) (n : Nat) (lo hi : Int32) (s : PSt) : Int32 := 10 * digv T n (lo / 10) (hi / 10) s + digv T n (lo2 lo (digv T n (lo / 10) (hi / 10) s)) (hi2 hi (digv T n (lo / 10) (hi / 10) s)) (dig T n (lo / 10) (hi / 10) s)
/-- places go on within the text -/
theorem stp_le {s : PSt} {c : Bool} {n : Nat} (hs : s.1 ≤ n) (h : c = true → s.1 < n) : (stp s c).1 ≤ n := by
  unfold stp pN
  cases c
  · simp; exact hs
  · have := h rfl
    simp
    split <;> omega
theorem gD_lt {T : Rw} {n p : Nat} {lo hi : Int32} (h : gD T n p lo hi = true) : p < n := by
  rcases Nat.lt_or_ge p n with q | q
  · exact q
  · have e : dV T n p = -99 := if_neg (Nat.not_lt.mpr q)
    rw [gD, e, show decide ((0 : Int32) ≤ -99 ∧ (-99 : Int32) ≤ 9) = false from by decide, Bool.false_and] at h
    cases h
theorem nx_lt {T : Rw} {n p : Nat} {c : Int32} (h : nx T n p c = true) : p < n := by
  simp [nx] at h
  exact h.1
theorem dig_le {T : Rw} {n : Nat} {lo hi : Int32} {s : PSt} (hs : s.1 ≤ n) : (dig T n lo hi s).1 ≤ n := stp_le hs gD_lt
theorem two_le {T : Rw} {n : Nat} {lo hi : Int32} {s : PSt} (hs : s.1 ≤ n) : (two T n lo hi s).1 ≤ n := dig_le (dig_le hs)
theorem stp_ok {s : PSt} {c : Bool} (h : (stp s c).2 = true) : s.2 = true ∧ c = true := by
  simp [stp] at h
  exact h
theorem dig_ok {T : Rw} {n : Nat} {lo hi : Int32} {s : PSt} (h : (dig T n lo hi s).2 = true) : s.2 = true ∧ gD T n s.1 lo hi = true := stp_ok h
theorem two_ok {T : Rw} {n : Nat} {lo hi : Int32} {s : PSt} (h : (two T n lo hi s).2 = true) : (dig T n (lo / 10) (hi / 10) s).2 = true := (dig_ok h).1
/-! a room -/
abbrev rr0 (s : PSt) (nr : Nat) : PSt := stp s (decide (nr < 4))
abbrev rr1 (T : Rw) (n : Nat) (s : PSt) (nr : Nat) : PSt := dig T n 1 9 (rr0 s nr)
abbrev rr2 (T : Rw) (n : Nat) (s : PSt) (nr : Nat) : PSt := dig T n 1 9 (rr1 T n s nr)
abbrev rr3 (T : Rw) (n : Nat) (s : PSt) (nr : Nat) : PSt := dig T n 1 9 (rr2 T n s nr)
abbrev rr4 (T : Rw) (n : Nat) (s : PSt) (nr : Nat) : PSt := two T n 0 30 (rr3 T n s nr)
abbrev rrN (T : Rw) (n : Nat) (s : PSt) (g : Rw) (nr : Nat) : Rw := fAddRoom g nr (digv T n 1 9 (rr0 s nr)) (digv T n 1 9 (rr1 T n s nr)) (digv T n 1 9 (rr2 T n s nr)) (twov T n 0 30 (rr3 T n s nr))
def rrG (T : Rw) (n : Nat) (s : PSt) (g : Rw) (nr : Nat) : Rw := if (rr4 T n s nr).2 = true then rrN T n s g nr else g
theorem rr_nr {T : Rw} {n : Nat} {s : PSt} {nr : Nat} (h : (rr4 T n s nr).2 = true) : nr < 4 := by
  have h1 := (dig_ok (dig_ok (dig_ok (dig_ok (two_ok h)).1).1).1).1
  exact of_decide_eq_true (stp_ok h1).2
/-! outdoors -/
abbrev ro0 (T : Rw) (n : Nat) (s : PSt) : PSt := stp s (nx T n s.1 111)
abbrev roy (T : Rw) (n : Nat) (s : PSt) : Bool := nx T n (ro0 T n s).1 45
abbrev ro1 (T : Rw) (n : Nat) (s : PSt) : PSt := stp (ro0 T n s) (roy T n s || nx T n (ro0 T n s).1 43)
abbrev roh (T : Rw) (n : Nat) (s : PSt) : Int32 := if roy T n s = true then 20 else 25
abbrev ro2 (T : Rw) (n : Nat) (s : PSt) : PSt := two T n (b01 (roy T n s)) (roh T n s) (ro1 T n s)
abbrev rov (T : Rw) (n : Nat) (s : PSt) : Int32 := if roy T n s = true then -twov T n (b01 (roy T n s)) (roh T n s) (ro1 T n s) else twov T n (b01 (roy T n s)) (roh T n s) (ro1 T n s)
def roG (T : Rw) (n : Nat) (s : PSt) (g : Rw) : Rw := if (ro2 T n s).2 = true then upd g 4 (rov T n s) else g
theorem ro1_le {T : Rw} {n : Nat} {s : PSt} (hs : s.1 ≤ n) : (ro1 T n s).1 ≤ n := stp_le (stp_le hs nx_lt) (fun h => by
  rcases Bool.or_eq_true_iff.mp h with q | q
  · exact nx_lt q
  · exact nx_lt q)
theorem nI_nz {n : Nat} (h : ¬ nI n ≤ 0) : 0 < n := by
  rcases Nat.eq_zero_or_pos n with q | q
  · exact absurd (by rw [q]; decide) h
  · exact q
/-! a booking -/
abbrev rbc (nr ng nb : Nat) : Bool := decide (nb < 12) && (decide (0 < nr) && decide (0 < ng))
abbrev rb0 (s : PSt) (nr ng nb : Nat) : PSt := stp s (rbc nr ng nb)
abbrev rb1 (T : Rw) (n : Nat) (s : PSt) (nr ng nb : Nat) : PSt := dig T n 0 (nI nr - 1) (rb0 s nr ng nb)
abbrev rb2 (T : Rw) (n : Nat) (s : PSt) (nr ng nb : Nat) : PSt := dig T n 0 (nI ng - 1) (rb1 T n s nr ng nb)
abbrev rb3 (T : Rw) (n : Nat) (s : PSt) (nr ng nb : Nat) : PSt := dig T n 0 1 (rb2 T n s nr ng nb)
abbrev rb4 (T : Rw) (n : Nat) (s : PSt) (nr ng nb : Nat) : PSt := two T n 0 99 (rb3 T n s nr ng nb)
abbrev rb5 (T : Rw) (n : Nat) (s : PSt) (nr ng nb : Nat) : PSt := two T n 1 12 (rb4 T n s nr ng nb)
abbrev rb6 (T : Rw) (n : Nat) (s : PSt) (nr ng nb : Nat) : PSt := two T n 12 25 (rb5 T n s nr ng nb)
abbrev rbr (T : Rw) (n : Nat) (s : PSt) (nr ng nb : Nat) : Int32 := digv T n 0 (nI nr - 1) (rb0 s nr ng nb)
abbrev rbw (T : Rw) (n : Nat) (s : PSt) (nr ng nb : Nat) : Int32 := digv T n 0 (nI ng - 1) (rb1 T n s nr ng nb)
abbrev rbf (T : Rw) (n : Nat) (s : PSt) (nr ng nb : Nat) : Int32 := 100 * digv T n 0 1 (rb2 T n s nr ng nb) + twov T n 0 99 (rb3 T n s nr ng nb)
abbrev rbh (T : Rw) (n : Nat) (s : PSt) (nr ng nb : Nat) : Int32 := twov T n 1 12 (rb4 T n s nr ng nb)
abbrev rbt (T : Rw) (n : Nat) (s : PSt) (nr ng nb : Nat) : Int32 := twov T n 12 25 (rb5 T n s nr ng nb)
noncomputable def rbq (T : Rw) (n : Nat) (s : PSt) (g : Rw) (nr ng nb : Nat) : Bool := @decide (fFree g (rbr T n s nr ng nb) (rbf T n s nr ng nb) (rbh T n s nr ng nb) nb) (Classical.propDecidable _)
noncomputable def rbS (T : Rw) (n : Nat) (s : PSt) (g : Rw) (nr ng nb : Nat) : PSt := if (rb6 T n s nr ng nb).2 = true then (if rbq T n s g nr ng nb = true then ((rb6 T n s nr ng nb).1, true) else (s.1, false)) else rb6 T n s nr ng nb
noncomputable def rbG (T : Rw) (n : Nat) (s : PSt) (g : Rw) (nr ng nb : Nat) : Rw := if (rb6 T n s nr ng nb).2 = true ∧ rbq T n s g nr ng nb = true then fBookTo g nb (rbr T n s nr ng nb) (rbw T n s nr ng nb) (rbf T n s nr ng nb) (rbh T n s nr ng nb) (rbt T n s nr ng nb) else g
theorem rbc_1 {nr ng nb : Nat} (h1 : nb < 12) (h2 : 0 < nr) (h3 : 0 < ng) : 1 = b01 (rbc nr ng nb) := by simp [rbc, h1, h2, h3, b01]
theorem rbc_0 {nr ng nb : Nat} (h : ¬ (nb < 12 ∧ 0 < nr ∧ 0 < ng)) : 0 = b01 (rbc nr ng nb) := by
  have : rbc nr ng nb = false := by
    rcases Bool.eq_false_or_eq_true (rbc nr ng nb) with q | q
    · exact absurd (by simpa [rbc] using q) h
    · exact q
  rw [this]; rfl
theorem rbq_of {T : Rw} {n : Nat} {s : PSt} {g : Rw} {nr ng nb : Nat} {v : Int32} (h : bz (fFree g (rbr T n s nr ng nb) (rbf T n s nr ng nb) (rbh T n s nr ng nb) nb) v) : b01 (rbq T n s g nr ng nb) = v := by
  rcases h with ⟨rfl, h⟩ | ⟨rfl, h⟩
  · rw [rbq, @decide_eq_true _ (Classical.propDecidable _) h]; rfl
  · rw [rbq, @decide_eq_false _ (Classical.propDecidable _) h]; rfl
theorem rbS_t {T : Rw} {n : Nat} {s : PSt} {g : Rw} {nr ng nb : Nat} (h : (rb6 T n s nr ng nb).2 = true) : rbS T n s g nr ng nb = ((if rbq T n s g nr ng nb = true then (rb6 T n s nr ng nb).1 else s.1), rbq T n s g nr ng nb) := by
  rw [rbS, if_pos h]
  cases rbq T n s g nr ng nb <;> rfl
theorem rbS_f {T : Rw} {n : Nat} {s : PSt} {g : Rw} {nr ng nb : Nat} (h : b01 (rb6 T n s nr ng nb).2 = 0) : rbS T n s g nr ng nb = rb6 T n s nr ng nb := by
  rw [rbS, if_neg (nb01 h)]
theorem rbS_ok {T : Rw} {n : Nat} {s : PSt} {g : Rw} {nr ng nb : Nat} : (rbS T n s g nr ng nb).2 = true ↔ (rb6 T n s nr ng nb).2 = true ∧ rbq T n s g nr ng nb = true := by
  by_cases h : (rb6 T n s nr ng nb).2 = true
  · rw [rbS_t h]
    exact ⟨fun q => ⟨h, q⟩, fun q => q.2⟩
  · rw [rbS, if_neg h]
    exact ⟨fun q => absurd q h, fun q => absurd q.1 h⟩
theorem rb_nb {T : Rw} {n : Nat} {s : PSt} {nr ng nb : Nat} (h : (rb6 T n s nr ng nb).2 = true) : rbc nr ng nb = true := (stp_ok (dig_ok (dig_ok (dig_ok (dig_ok (two_ok (dig_ok (two_ok (dig_ok (two_ok h)).1)).1)).1).1).1).1).2
theorem rb_nb12 {nr ng nb : Nat} (h : rbc nr ng nb = true) : nb < 12 ∧ 0 < nr ∧ 0 < ng := by
  simp [rbc] at h
  exact h
