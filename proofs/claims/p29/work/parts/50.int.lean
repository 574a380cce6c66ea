/-! whole numbers behind ints and longs -/
def iI (x : Int) : Int32 := Int32.ofInt x
def lI (x : Int) : Int64 := Int64.ofInt x
theorem iI_toInt {x : Int} (h : -2147483648 ≤ x) (h2 : x < 2147483648) : (iI x).toInt = x := Int32.toInt_ofInt_of_le h h2
theorem lI_toInt {x : Int} (h : -9223372036854775808 ≤ x) (h2 : x < 9223372036854775808) : (lI x).toInt = x := Int64.toInt_ofInt_of_le h h2
theorem iI_of (x : Int32) : x = iI x.toInt := (Int32.ofInt_toInt x).symm
theorem nI_iI (n : Nat) : nI n = iI (n : Int) := Int32.ofInt_eq_ofNat.symm
theorem lN_lI (n : Nat) : lN n = lI (n : Int) := Int64.ofInt_eq_ofNat.symm
theorem iI_add (a b : Int) : iI a + iI b = iI (a + b) := (Int32.ofInt_add a b).symm
theorem iI_sub (a b : Int) : iI a - iI b = iI (a - b) := (Int32.ofInt_sub a b).symm
theorem iI_mul (a b : Int) : iI a * iI b = iI (a * b) := (Int32.ofInt_mul a b).symm
theorem lI_add (a b : Int) : lI a + lI b = lI (a + b) := (Int64.ofInt_add a b).symm
theorem lI_sub (a b : Int) : lI a - lI b = lI (a - b) := (Int64.ofInt_sub a b).symm
theorem lI_mul (a b : Int) : lI a * lI b = lI (a * b) := (Int64.ofInt_mul a b).symm
theorem i2l_I (x : Int32) : x.toInt64 = lI x.toInt := (Int64.ofInt_int32ToInt x).symm
theorem i2l_iI {x : Int} (h : -2147483648 ≤ x) (h2 : x < 2147483648) : (iI x).toInt64 = lI x := by rw [i2l_I, iI_toInt h h2]
theorem l2i_I (x : Int) : (lI x).toInt32 = iI x := Int64.toInt32_ofInt
theorem i2l_l2i (x : Int32) : x.toInt64.toInt32 = x := by rw [i2l_I, l2i_I, ← iI_of]
theorem lI_inj {a b : Int} (ha : -9223372036854775808 ≤ a) (ha2 : a < 9223372036854775808) (hb : -9223372036854775808 ≤ b) (hb2 : b < 9223372036854775808) : lI a = lI b ↔ a = b :=
  ⟨fun h => by rw [← lI_toInt ha ha2, ← lI_toInt hb hb2, h], fun h => by rw [h]⟩
theorem iI_inj {a b : Int} (ha : -2147483648 ≤ a) (ha2 : a < 2147483648) (hb : -2147483648 ≤ b) (hb2 : b < 2147483648) : iI a = iI b ↔ a = b :=
  ⟨fun h => by rw [← iI_toInt ha ha2, ← iI_toInt hb hb2, h], fun h => by rw [h]⟩
theorem iI_le {a b : Int} (ha : -2147483648 ≤ a) (ha2 : a < 2147483648) (hb : -2147483648 ≤ b) (hb2 : b < 2147483648) : iI a ≤ iI b ↔ a ≤ b := by
  rw [Int32.le_iff_toInt_le, iI_toInt ha ha2, iI_toInt hb hb2]
theorem iI_lt {a b : Int} (ha : -2147483648 ≤ a) (ha2 : a < 2147483648) (hb : -2147483648 ≤ b) (hb2 : b < 2147483648) : iI a < iI b ↔ a < b := by
  rw [Int32.lt_iff_toInt_lt, iI_toInt ha ha2, iI_toInt hb hb2]
theorem lI_le {a b : Int} (ha : -9223372036854775808 ≤ a) (ha2 : a < 9223372036854775808) (hb : -9223372036854775808 ≤ b) (hb2 : b < 9223372036854775808) : lI a ≤ lI b ↔ a ≤ b := by
  rw [Int64.le_iff_toInt_le, lI_toInt ha ha2, lI_toInt hb hb2]
theorem lI_lt {a b : Int} (ha : -9223372036854775808 ≤ a) (ha2 : a < 9223372036854775808) (hb : -9223372036854775808 ≤ b) (hb2 : b < 9223372036854775808) : lI a < lI b ↔ a < b := by
  rw [Int64.lt_iff_toInt_lt, lI_toInt ha ha2, lI_toInt hb hb2]
theorem i32_rng (x : Int32) : -2147483648 ≤ x.toInt ∧ x.toInt < 2147483648 := ⟨x.le_toInt, x.toInt_lt⟩
theorem i32_add {x y : Int32} {a b : Int} (hx : x.toInt = a) (hy : y.toInt = b) (h1 : -2147483648 ≤ a + b) (h2 : a + b < 2147483648) : (x + y).toInt = a + b := by
  rw [iI_of x, iI_of y, hx, hy, iI_add, iI_toInt h1 h2]
theorem i32_sub {x y : Int32} {a b : Int} (hx : x.toInt = a) (hy : y.toInt = b) (h1 : -2147483648 ≤ a - b) (h2 : a - b < 2147483648) : (x - y).toInt = a - b := by
  rw [iI_of x, iI_of y, hx, hy, iI_sub, iI_toInt h1 h2]
theorem i32_mul {x y : Int32} {a b : Int} (hx : x.toInt = a) (hy : y.toInt = b) (h1 : -2147483648 ≤ a * b) (h2 : a * b < 2147483648) : (x * y).toInt = a * b := by
  rw [iI_of x, iI_of y, hx, hy, iI_mul, iI_toInt h1 h2]
theorem tdiv100 (x : Int) : (0 ≤ x ∧ x.tdiv 100 = x / 100) ∨ (x < 0 ∧ x.tdiv 100 = -((-x) / 100)) := by
  rcases Int.lt_or_le x 0 with h | h
  · refine Or.inr ⟨h, ?_⟩
    have h1 : x.tdiv 100 = -((-x).tdiv 100) := by rw [Int.neg_tdiv, Int.neg_neg]
    rw [h1, Int.tdiv_eq_ediv_of_nonneg (by omega)]
  · exact Or.inl ⟨h, Int.tdiv_eq_ediv_of_nonneg h⟩
/-- a number of a row -/
def zz (g : Rw) (j : Nat) : Int := (g j).toInt
theorem zz_nI {g : Rw} {j n : Nat} (h : g j = nI n) (hn : n < 2147483648) : zz g j = n := by rw [zz, h, nI_toInt hn]
theorem zz_rng (g : Rw) (j : Nat) : -2147483648 ≤ zz g j ∧ zz g j < 2147483648 := i32_rng _
theorem zz_iI (g : Rw) (j : Nat) : g j = iI (zz g j) := iI_of _
theorem zz_of {g : Rw} {j n : Nat} (h : zz g j = (n : Int)) : g j = nI n := by rw [zz_iI g j, h, nI_iI]
theorem zz_e {g e : Rw} {j : Nat} (h : e j = g j) : zz e j = zz g j := by rw [zz, h, zz]
theorem byOf_Z {m p : Int32} (hp : 0 ≤ p.toInt) : 0 ≤ (byOf m p).toInt ∧ (byOf m p).toInt ≤ p.toInt ∧ ((byOf m p).toInt ≤ 0 ∨ (byOf m p).toInt ≤ m.toInt) := by
  have h0 : (0 : Int32).toInt = 0 := by decide
  unfold byOf
  split
  · rw [h0]; omega
  · rename_i h
    have h' : ¬ m.toInt < 0 := fun q => h (Int32.lt_iff_toInt_lt.mpr (by rw [h0]; exact q))
    split
    · rename_i h2
      have := Int32.lt_iff_toInt_lt.mp h2
      omega
    · rename_i h2
      have : ¬ p.toInt < m.toInt := fun q => h2 (Int32.lt_iff_toInt_lt.mpr q)
      omega
/-- without heating -/
theorem cool_Z {g : Rw} {r : Nat} (hL : 0 ≤ zz g (9 + 4 * r + 1) ∧ zz g (9 + 4 * r + 1) ≤ 9) (hT : -20 ≤ zz g (9 + 4 * r + 3) ∧ zz g (9 + 4 * r + 3) ≤ 30) (hO : -20 ≤ zz g 4 ∧ zz g 4 ≤ 25) :
    (zz g (9 + 4 * r + 3) ≤ (fCool g r).toInt ∧ (fCool g r).toInt ≤ zz g 4) ∨ (zz g 4 ≤ (fCool g r).toInt ∧ (fCool g r).toInt ≤ zz g (9 + 4 * r + 3)) := by
  have e1 : (g (9 + 4 * r + 3) - g 4).toInt = zz g (9 + 4 * r + 3) - zz g 4 := i32_sub rfl rfl (by unfold zz at *; omega) (by unfold zz at *; omega)
  have hd : ∀ L D : Int, 0 ≤ L → L ≤ 9 → (0 ≤ D → 0 ≤ L * D ∧ L * D ≤ 9 * D) ∧ (D ≤ 0 → L * D ≤ 0 ∧ 9 * D ≤ L * D) := fun L D h1 h2 => by
    rcases (show L = 0 ∨ L = 1 ∨ L = 2 ∨ L = 3 ∨ L = 4 ∨ L = 5 ∨ L = 6 ∨ L = 7 ∨ L = 8 ∨ L = 9 by omega) with rfl | rfl | rfl | rfl | rfl | rfl | rfl | rfl | rfl | rfl <;> omega
  obtain ⟨d1, d2⟩ := hd (zz g (9 + 4 * r + 1)) (zz g (9 + 4 * r + 3) - zz g 4) hL.1 hL.2
  have e2 : (g (9 + 4 * r + 1) * (g (9 + 4 * r + 3) - g 4)).toInt = zz g (9 + 4 * r + 1) * (zz g (9 + 4 * r + 3) - zz g 4) := i32_mul rfl e1 (by omega) (by omega)
  have e3 : (g (9 + 4 * r + 1) * (g (9 + 4 * r + 3) - g 4) / 100).toInt = (zz g (9 + 4 * r + 1) * (zz g (9 + 4 * r + 3) - zz g 4)).tdiv 100 := by
    rw [Int32.toInt_div_of_ne_right _ _ (by decide), e2, show (100 : Int32).toInt = 100 by decide]
  generalize zz g (9 + 4 * r + 1) * (zz g (9 + 4 * r + 3) - zz g 4) = X at *
  have e4 : (fCool g r).toInt = zz g (9 + 4 * r + 3) - X.tdiv 100 := by
    rcases tdiv100 X with ⟨h1, h2⟩ | ⟨h1, h2⟩
    · exact i32_sub rfl e3 (by rw [h2]; show _ ≤ zz g _ - _; omega) (by rw [h2]; show zz g _ - _ < _; omega)
    · exact i32_sub rfl e3 (by rw [h2]; show _ ≤ zz g _ - _; omega) (by rw [h2]; show zz g _ - _ < _; omega)
  rw [e4]
  rcases tdiv100 X with ⟨h1, h2⟩ | ⟨h1, h2⟩
  · rw [h2]; omega
  · rw [h2]; omega
/-- what was heated for the first n bookings -/
def sm (g : Rw) : Nat → Int
  | 0 => 0
  | k + 1 => sm g k + (zz g (31 + 10 * k + 5) + zz g (31 + 10 * k + 6))
theorem sm_e {g e : Rw} : ∀ {n : Nat}, (∀ b, b < n → e (31 + 10 * b + 5) = g (31 + 10 * b + 5) ∧ e (31 + 10 * b + 6) = g (31 + 10 * b + 6)) → sm e n = sm g n
  | 0, _ => rfl
  | n + 1, h => by
    rw [sm, sm, sm_e (fun b hb => h b (by omega)), zz_e (h n (by omega)).1, zz_e (h n (by omega)).2]
theorem sm_u {g e : Rw} {b : Nat} {U : Int} (hU : zz e (31 + 10 * b + 5) + zz e (31 + 10 * b + 6) = zz g (31 + 10 * b + 5) + zz g (31 + 10 * b + 6) + U) : ∀ {n : Nat}, b < n → (∀ c, c < n → c ≠ b → e (31 + 10 * c + 5) = g (31 + 10 * c + 5) ∧ e (31 + 10 * c + 6) = g (31 + 10 * c + 6)) → sm e n = sm g n + U
  | 0, hb, _ => absurd hb (Nat.not_lt_zero _)
  | n + 1, hb, h => by
    rw [sm, sm]
    by_cases q : b = n
    · subst q
      rw [sm_e (fun c hc => h c (by omega) (by omega))]
      omega
    · rw [sm_u hU (n := n) (by omega) (fun c hc => h c (by omega)), zz_e (h n (by omega) (by omega)).1, zz_e (h n (by omega) (by omega)).2]
      omega
