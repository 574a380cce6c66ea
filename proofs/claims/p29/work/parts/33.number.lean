/-! the class: a number of a text -/
def cy (d w u lo hi : Int32) : Bool := decide (0 ≤ d) && (decide (d ≤ 9) && (decide (w ≤ hi) && decide (lo ≤ w + u - 1)))
theorem cy_1 {d w u lo hi : Int32} (h1 : ¬ d < 0) (h2 : ¬ 9 < d) (h3 : ¬ hi < w) (h4 : ¬ w + u - 1 < lo) : 1 = b01 (cy d w u lo hi) := by
  rw [cy, decide_eq_true (Int32.not_lt.mp h1), decide_eq_true (Int32.not_lt.mp h2), decide_eq_true (Int32.not_lt.mp h3), decide_eq_true (Int32.not_lt.mp h4)]
  rfl
theorem cy_a {d w u lo hi : Int32} (h : d < 0) : 0 = b01 (cy d w u lo hi) := by
  rw [cy, decide_eq_false (Int32.not_le.mpr h), Bool.false_and]
  rfl
theorem cy_b {d w u lo hi : Int32} (h : 9 < d) : 0 = b01 (cy d w u lo hi) := by
  rw [cy, decide_eq_false (Int32.not_le.mpr h), Bool.false_and, Bool.and_false]
  rfl
theorem cy_c {d w u lo hi : Int32} (h : hi < w) : 0 = b01 (cy d w u lo hi) := by
  rw [cy, decide_eq_false (Int32.not_le.mpr h), Bool.false_and, Bool.and_false, Bool.and_false]
  rfl
theorem cy_d {d w u lo hi : Int32} (h : w + u - 1 < lo) : 0 = b01 (cy d w u lo hi) := by
  rw [cy, decide_eq_false (Int32.not_le.mpr h), Bool.and_false, Bool.and_false, Bool.and_false]
  rfl
theorem stp_le1 {s : PSt} {c : Bool} : (stp s c).1 ≤ s.1 + 1 := by
  show pN s.1 _ ≤ _
  unfold pN
  split <;> omega
theorem PR_ok {a er : Int32} {s : PSt} (h : PR a er s) (ok : s.2 = true) : a = nI s.1 := by
  rcases h with q | q
  · exact q.2.1
  · rw [ok] at q
    exact absurd q.1 (by decide)
theorem sgn_at {T : Rw} {n p : Nat} (hp : p ≤ n) (hn : n ≤ 120) : sgn T n (nI p) = if p < n then T p else -1 := by
  unfold sgn
  rw [cN, nI_clamp (by omega)]
  by_cases q : p < n
  · rw [if_pos ⟨nI_pos' (by omega), nI_lt q (by omega)⟩, if_pos q]
  · rw [if_neg (fun z => nI_nlt (a := p) (b := n) (by omega) (by omega) z.2), if_neg q]
theorem gcy {T : Rw} {n p : Nat} {lo hi d w u L H : Int32} (hd : d = (if p < n then T p else -1) - 48) (hq : ∀ k, k ≤ 9 → d = nI k → ((w ≤ H ∧ L ≤ w + u - 1) ↔ (lo ≤ d ∧ d ≤ hi))) : cy d w u L H = gD T n p lo hi := by
  by_cases hp : p < n
  · rw [if_pos hp] at hd
    have e : dV T n p = d := (if_pos hp).trans hd.symm
    rw [gD, e]
    by_cases q : 0 ≤ d ∧ d ≤ 9
    · obtain ⟨k, hk, ek⟩ := Int32.rng (n := 9) (by omega) q.1 q.2
      have := hq k hk ek
      rw [cy, decide_eq_true q, decide_eq_true q.1, decide_eq_true q.2, Bool.true_and, Bool.true_and, Bool.true_and]
      rw [← Bool.decide_and]
      exact decide_eq_decide.mpr this
    · rw [decide_eq_false q, Bool.false_and, cy, ← Bool.and_assoc, ← Bool.decide_and, decide_eq_false q, Bool.false_and]
  · rw [if_neg hp] at hd
    have e : dV T n p = -99 := if_neg hp
    rw [gD, e, hd]
    rfl
/-- one digit of the class is one of the model -/
theorem dstep {a er : Int32} {s : PSt} {T : Rw} {n : Nat} {lo hi w u L H : Int32} (hP : PR a er s) (hs : s.1 ≤ n) (hn : n ≤ 120) (hq : s.2 = true → ∀ k, k ≤ 9 → sgn T n a - 48 = nI k → ((w ≤ H ∧ L ≤ w + u - 1) ↔ (lo ≤ nI k ∧ nI k ≤ hi))) : stp s (cy (sgn T n a - 48) w u L H) = dig T n lo hi s ∧ ((dig T n lo hi s).2 = true → sgn T n a - 48 = digv T n lo hi s ∧ ∃ k, k ≤ 9 ∧ digv T n lo hi s = nI k ∧ lo ≤ nI k ∧ nI k ≤ hi) := by
  by_cases ok : s.2 = true
  · have ea := PR_ok hP ok
    have es : sgn T n a - 48 = (if s.1 < n then T s.1 else -1) - 48 := by rw [ea, sgn_at hs hn]
    refine ⟨?_, fun g => ?_⟩
    · rw [gcy (lo := lo) (hi := hi) es (fun k hk e => by rw [e]; exact hq ok k hk e)]
      rfl
    · have hp := gD_lt (dig_ok g).2
      obtain ⟨k, k1, k2, k3, k4, -⟩ := dig_N g
      refine ⟨?_, k, k1, k2, k3, k4⟩
      rw [es, digv, if_pos g, if_pos hp, dV, if_pos hp]
  · have ok : s.2 = false := by simpa using ok
    refine ⟨by rw [stp_bad ok, dig, stp_bad ok], fun g => ?_⟩
    rw [(dig_ok g).1] at ok
    cases ok
theorem num1 {T : Rw} {n : Nat} {lo hi a er a1 e1 : Int32} {s : PSt} (hP : PR a er s) (hs : s.1 ≤ n) (hn : n ≤ 120) (h1 : PR a1 e1 (stp s (cy (sgn T n a - 48) (0 + (sgn T n a - 48) * 1) 1 lo hi))) : PR a1 e1 (dig T n lo hi s) ∧ ((dig T n lo hi s).2 = true → 0 + (sgn T n a - 48) * 1 = digv T n lo hi s) := by
  have e : (0 : Int32) + (sgn T n a - 48) * 1 = sgn T n a - 48 := by rw [Int32.zero_add, Int32.mul_one]
  rw [e] at h1 ⊢
  have k := dstep (T := T) (lo := lo) (hi := hi) (w := sgn T n a - 48) (u := 1) (L := lo) (H := hi) hP hs hn (fun _ k hk ek => by rw [ek, Int32.add_sub_cancel]; exact And.comm)
  rw [k.1] at h1
  exact ⟨h1, fun g => (k.2 g).1⟩
theorem nI_sneg {a b : Nat} (h : a < b) (hb : b < 2 ^ 30) : nI a - nI b < 0 := Int32.lt_iff_toInt_lt.mpr (by
  rw [pk_sub_toInt (by omega) hb]
  show _ < (0 : Int)
  omega)
theorem nI10 {k : Nat} : nI k * (1 * 10) = nI (10 * k) := by
  rw [show (1 : Int32) * 10 = nI 10 from by decide, pk_mul, Nat.mul_comm]
theorem nI100 {k : Nat} : nI k * (1 * 10 * 10) = nI (100 * k) := by
  rw [show (1 : Int32) * 10 * 10 = nI 100 from by decide, pk_mul, Nat.mul_comm]
theorem two10 {T : Rw} {n lo hi : Nat} {a er w0 b : Int32} {s : PSt} {c : Nat} (hlo : lo < 100) (hhi : hi < 100) (hP : PR a er s) (hs : s.1 ≤ n) (hn : n ≤ 120) (hc : c ≤ 1) (hw : s.2 = true → w0 = nI (100 * c)) (u : Int32) (hu : u = 1 * 10) : stp s (cy (sgn T n a - 48) (w0 + (sgn T n a - 48) * u) u (nI (100 * c + lo)) (nI (100 * c + hi))) = dig T n (nI lo / 10) (nI hi / 10) s ∧ ((dig T n (nI lo / 10) (nI hi / 10) s).2 = true → sgn T n a - 48 = digv T n (nI lo / 10) (nI hi / 10) s ∧ ∃ k, k ≤ 9 ∧ digv T n (nI lo / 10) (nI hi / 10) s = nI k ∧ 10 * k ≤ hi) := by
  subst hu
  have ea : nI lo / 10 = nI (lo / 10) := pk_div (d := 10) (by omega) (by decide) (by decide)
  have eb : nI hi / 10 = nI (hi / 10) := pk_div (d := 10) (by omega) (by decide) (by decide)
  rw [ea, eb]
  have k := dstep (T := T) (lo := nI (lo / 10)) (hi := nI (hi / 10)) (w := w0 + (sgn T n a - 48) * (1 * 10)) (u := 1 * 10) (L := nI (100 * c + lo)) (H := nI (100 * c + hi)) hP hs hn (fun ok k hk ek => by
    rw [ek, hw ok, nI10, nI_add, show (1 : Int32) * 10 = nI 10 from by decide, nI_add, show 100 * c + 10 * k + 10 = 100 * c + 10 * k + 9 + 1 by omega, nI_pred]
    rw [nI_leI (by omega) (by omega), nI_leI (by omega) (by omega), nI_leI (by omega) (by omega), nI_leI (by omega) (by omega)]
    omega)
  refine ⟨k.1, fun g => ?_⟩
  obtain ⟨g1, j, j1, j2, j3, j4⟩ := k.2 g
  have := (nI_leI (by omega) (by omega)).mp j4
  exact ⟨g1, j, j1, j2, by omega⟩
theorem two1 {T : Rw} {n lo hi i : Nat} {a er w0 t : Int32} {s : PSt} {c : Nat} (hlo : lo < 100) (hhi : hi < 100) (hP : PR a er s) (hs : s.1 ≤ n) (hn : n ≤ 120) (hc : c ≤ 1) (hw : s.2 = true → w0 = nI (100 * c + 10 * i) ∧ t = nI i ∧ i ≤ 9 ∧ 10 * i ≤ hi) (u : Int32) (hu : u = 1) : stp s (cy (sgn T n a - 48) (w0 + (sgn T n a - 48) * u) u (nI (100 * c + lo)) (nI (100 * c + hi))) = dig T n (lo2 (nI lo) t) (hi2 (nI hi) t) s ∧ ((dig T n (lo2 (nI lo) t) (hi2 (nI hi) t) s).2 = true → sgn T n a - 48 = digv T n (lo2 (nI lo) t) (hi2 (nI hi) t) s ∧ ∃ k, k ≤ 9 ∧ digv T n (lo2 (nI lo) t) (hi2 (nI hi) t) s = nI k) := by
  subst hu
  have k := dstep (T := T) (lo := lo2 (nI lo) t) (hi := hi2 (nI hi) t) (w := w0 + (sgn T n a - 48) * 1) (u := 1) (L := nI (100 * c + lo)) (H := nI (100 * c + hi)) hP hs hn (fun ok k hk ek => by
    obtain ⟨h1, h2, h3, h4⟩ := hw ok
    rw [ek, h1, h2, Int32.mul_one, nI_add, Int32.add_sub_cancel]
    have e10 : (10 : Int32) * nI i = nI (10 * i) := pk_mul 10 i
    rw [nI_leI (by omega) (by omega), nI_leI (by omega) (by omega)]
    have el : lo2 (nI lo) (nI i) ≤ nI k ↔ lo ≤ 10 * i + k := by
      rcases Nat.lt_or_ge lo (10 * i) with q | q
      · have e : lo2 (nI lo) (nI i) = 0 := by
          rw [lo2, e10]
          exact if_pos (nI_sneg q (by omega))
        rw [e]
        exact ⟨fun _ => by omega, fun _ => nI_pos' (by omega)⟩
      · rw [lo2, e10, pk_sub q, if_neg (nI_pos (by omega)), nI_leI (by omega) (by omega)]
        omega
    have eh : nI k ≤ hi2 (nI hi) (nI i) ↔ 10 * i + k ≤ hi := by
      rw [hi2, e10, pk_sub h4]
      by_cases q : hi - 10 * i ≤ 9
      · rw [if_pos (show nI (hi - 10 * i) ≤ 9 from (nI_leI (b := 9) (by omega) (by omega)).mpr q), nI_leI (by omega) (by omega)]
        omega
      · rw [if_neg (show ¬ nI (hi - 10 * i) ≤ 9 from fun z => q ((nI_leI (b := 9) (by omega) (by omega)).mp z))]
        exact ⟨fun _ => by omega, fun _ => (nI_leI (b := 9) (by omega) (by omega)).mpr hk⟩
    rw [el, eh]
    omega)
  refine ⟨k.1, fun g => ?_⟩
  obtain ⟨g1, j, j1, j2, -⟩ := k.2 g
  exact ⟨g1, j, j1, j2⟩
theorem num2 {T : Rw} {n lo hi : Nat} {a er a1 e1 a2 e2 : Int32} {s : PSt} (hlo : lo < 100) (hhi : hi < 100) (hP : PR a er s) (hs : s.1 < n + 1) (hn : n ≤ 120)
    (h1 : PR a1 e1 (stp s (cy (sgn T n a - 48) (0 + (sgn T n a - 48) * (1 * 10)) (1 * 10) (nI lo) (nI hi))))
    (h2 : PR a2 e2 (stp (stp s (cy (sgn T n a - 48) (0 + (sgn T n a - 48) * (1 * 10)) (1 * 10) (nI lo) (nI hi))) (cy (sgn T n a1 - 48) (0 + (sgn T n a - 48) * (1 * 10) + (sgn T n a1 - 48) * (1 * 10 / 10)) (1 * 10 / 10) (nI lo) (nI hi)))) :
    PR a2 e2 (two T n (nI lo) (nI hi) s) ∧ ((two T n (nI lo) (nI hi) s).2 = true → 0 + (sgn T n a - 48) * (1 * 10) + (sgn T n a1 - 48) * (1 * 10 / 10) = twov T n (nI lo) (nI hi) s) := by
  have k := two10 (T := T) (n := n) (lo := lo) (hi := hi) (w0 := 0) (c := 0) (b := 0) hlo hhi hP (by omega) hn (by omega) (fun _ => rfl) (1 * 10) rfl
  rw [show 100 * 0 + lo = lo by omega, show 100 * 0 + hi = hi by omega] at k
  rw [k.1] at h1 h2
  by_cases g1 : (dig T n (nI lo / 10) (nI hi / 10) s).2 = true
  · obtain ⟨v1, i, i1, i2, i3⟩ := k.2 g1
    have k2 := two1 (T := T) (n := n) (lo := lo) (hi := hi) (i := i) (w0 := 0 + (sgn T n a - 48) * (1 * 10)) (t := digv T n (nI lo / 10) (nI hi / 10) s) (c := 0) hlo hhi h1 (dig_le (by omega)) hn (by omega) (fun _ => ⟨by rw [v1, i2, nI10, show 100 * 0 + 10 * i = 10 * i by omega]; exact Int32.zero_add _, i2, i1, i3⟩) (1 * 10 / 10) (by decide)
    rw [show 100 * 0 + lo = lo by omega, show 100 * 0 + hi = hi by omega] at k2
    rw [k2.1] at h2
    refine ⟨h2, fun g2 => ?_⟩
    obtain ⟨v2, -⟩ := k2.2 g2
    show _ = 10 * digv T n (nI lo / 10) (nI hi / 10) s + digv T n _ _ (dig T n (nI lo / 10) (nI hi / 10) s)
    rw [v2, v1, Int32.zero_add, show (1 : Int32) * 10 / 10 = 1 from by decide, Int32.mul_one, show (1 : Int32) * 10 = 10 from by decide, Int32.mul_comm]
  · have g0 : (dig T n (nI lo / 10) (nI hi / 10) s).2 = false := by simpa using g1
    rw [stp_bad g0] at h2
    have e : two T n (nI lo) (nI hi) s = dig T n (nI lo / 10) (nI hi / 10) s := stp_bad g0
    rw [e]
    exact ⟨h2, fun g => absurd g g1⟩
theorem num3 {T : Rw} {n : Nat} {a er a1 e1 a2 e2 a3 e3 : Int32} {s : PSt} {y1 y2 y3 : Bool} {w1 w2 w3 : Int32} (hP : PR a er s) (hs : s.1 ≤ n) (hn : n ≤ 120)
    (f1 : w1 = 0 + (sgn T n a - 48) * (1 * 10 * 10)) (f2 : w2 = w1 + (sgn T n a1 - 48) * (1 * 10 * 10 / 10)) (f3 : w3 = w2 + (sgn T n a2 - 48) * (1 * 10 * 10 / 10 / 10))
    (q1 : y1 = cy (sgn T n a - 48) w1 (1 * 10 * 10) 0 199) (q2 : y2 = cy (sgn T n a1 - 48) w2 (1 * 10 * 10 / 10) 0 199) (q3 : y3 = cy (sgn T n a2 - 48) w3 (1 * 10 * 10 / 10 / 10) 0 199)
    (h1 : PR a1 e1 (stp s y1)) (h2 : PR a2 e2 (stp (stp s y1) y2)) (h3 : PR a3 e3 (stp (stp (stp s y1) y2) y3)) :
    PR a3 e3 (two T n 0 99 (dig T n 0 1 s)) ∧ ((two T n 0 99 (dig T n 0 1 s)).2 = true → w3 = 100 * digv T n 0 1 s + twov T n 0 99 (dig T n 0 1 s)) := by
  have k := dstep (T := T) (lo := 0) (hi := 1) (w := w1) (u := 1 * 10 * 10) (L := 0) (H := 199) hP hs hn (fun _ k hk ek => by
    rw [f1, ek, nI100, Int32.zero_add, show (1 : Int32) * 10 * 10 = nI 100 from by decide, nI_add, show 100 * k + 100 = 100 * k + 99 + 1 by omega, nI_pred]
    have e1 : nI (100 * k) ≤ 199 ↔ 100 * k ≤ 199 := nI_leI (b := 199) (by omega) (by omega)
    have e2 : nI k ≤ 1 ↔ k ≤ 1 := nI_leI (b := 1) (by omega) (by omega)
    have e3 : (0 : Int32) ≤ nI (100 * k + 99) := nI_pos' (by omega)
    have e4 : (0 : Int32) ≤ nI k := nI_pos' (by omega)
    rw [e1, e2]
    exact ⟨fun z => ⟨e4, by omega⟩, fun z => ⟨by omega, e3⟩⟩)
  rw [← q1] at k
  rw [k.1] at h1 h2 h3
  have bad : (dig T n 0 1 s).2 = false ∨ ((dig T n 0 1 s).2 = true ∧ (dig T n (0 / 10) (99 / 10) (dig T n 0 1 s)).2 = false) → (two T n 0 99 (dig T n 0 1 s)).2 = false := fun z => by
    rcases z with z | z
    · have e : two T n 0 99 (dig T n 0 1 s) = dig T n 0 1 s := (congrArg (fun x => dig T n _ _ x) (stp_bad z)).trans (stp_bad z)
      rw [e, z]
    · have e : two T n 0 99 (dig T n 0 1 s) = dig T n (0 / 10) (99 / 10) (dig T n 0 1 s) := stp_bad z.2
      rw [e, z.2]
  by_cases g1 : (dig T n 0 1 s).2 = true
  · obtain ⟨v1, c, c1, c2, -, c4⟩ := k.2 g1
    have c4 : c ≤ 1 := (nI_leI (b := 1) (by omega) (by omega)).mp c4
    have w1e : w1 = nI (100 * c) := by rw [f1, v1, c2, nI100, Int32.zero_add]
    have hl1 : (dig T n 0 1 s).1 ≤ n := dig_le hs
    have k2 := dstep (T := T) (lo := 0 / 10) (hi := 99 / 10) (w := w2) (u := 1 * 10 * 10 / 10) (L := 0) (H := 199) h1 hl1 hn (fun _ k hk ek => by
      rw [f2, ek, w1e, show (1 : Int32) * 10 * 10 / 10 = 1 * 10 from by decide, nI10, nI_add, show (1 : Int32) * 10 = nI 10 from by decide, nI_add, show 100 * c + 10 * k + 10 = 100 * c + 10 * k + 9 + 1 by omega, nI_pred]
      have e1 : nI (100 * c + 10 * k) ≤ 199 := (nI_leI (b := 199) (by omega) (by omega)).mpr (by omega)
      have e2 : nI k ≤ 99 / 10 := (nI_leI (b := 9) (by omega) (by omega)).mpr hk
      have e3 : (0 : Int32) ≤ nI (100 * c + 10 * k + 9) := nI_pos' (by omega)
      have e4 : (0 : Int32) / 10 ≤ nI k := nI_pos' (by omega)
      exact ⟨fun _ => ⟨e4, e2⟩, fun _ => ⟨e1, e3⟩⟩)
    rw [← q2] at k2
    rw [k2.1] at h2 h3
    by_cases g2 : (dig T n (0 / 10) (99 / 10) (dig T n 0 1 s)).2 = true
    · obtain ⟨v2, i, i1, i2, -, -⟩ := k2.2 g2
      have w2e : w2 = nI (100 * c + 10 * i) := by rw [f2, v2, i2, w1e, show (1 : Int32) * 10 * 10 / 10 = 1 * 10 from by decide, nI10, nI_add]
      have k3 := dstep (T := T) (lo := lo2 0 (digv T n (0 / 10) (99 / 10) (dig T n 0 1 s))) (hi := hi2 99 (digv T n (0 / 10) (99 / 10) (dig T n 0 1 s))) (w := w3) (u := 1 * 10 * 10 / 10 / 10) (L := 0) (H := 199) h2 (dig_le hl1) hn (fun _ k hk ek => by
        rw [f3, ek, w2e, show (1 : Int32) * 10 * 10 / 10 / 10 = 1 from by decide, Int32.mul_one, nI_add, Int32.add_sub_cancel, i2]
        have e10 : (10 : Int32) * nI i = nI (10 * i) := pk_mul 10 i
        have e1 : nI (100 * c + 10 * i + k) ≤ 199 := (nI_leI (b := 199) (by omega) (by omega)).mpr (by omega)
        have e3 : (0 : Int32) ≤ nI (100 * c + 10 * i + k) := nI_pos' (by omega)
        have e4 : lo2 0 (nI i) ≤ nI k := by
          rw [lo2, e10]
          split
          · exact nI_pos' (by omega)
          · rename_i q
            rcases Nat.eq_zero_or_pos i with z | z
            · subst z
              exact nI_pos' (by omega)
            · exact absurd (show (0 : Int32) - nI (10 * i) < 0 from nI_sneg (a := 0) (by omega) (by omega)) q
        have e2 : nI k ≤ hi2 99 (nI i) := by
          rw [hi2, e10, show (99 : Int32) - nI (10 * i) = nI (99 - 10 * i) from pk_sub (a := 99) (by omega)]
          split
          · exact (nI_leI (by omega) (by omega)).mpr (by omega)
          · exact (nI_leI (b := 9) (by omega) (by omega)).mpr hk
        exact ⟨fun _ => ⟨e4, e2⟩, fun _ => ⟨e1, e3⟩⟩)
      rw [← q3] at k3
      rw [k3.1] at h3
      refine ⟨h3, fun g3 => ?_⟩
      obtain ⟨v3, -⟩ := k3.2 g3
      show _ = 100 * digv T n 0 1 s + (10 * digv T n (0 / 10) (99 / 10) (dig T n 0 1 s) + digv T n _ _ (dig T n (0 / 10) (99 / 10) (dig T n 0 1 s)))
      rw [f3, v3, w2e, i2, c2, show (1 : Int32) * 10 * 10 / 10 / 10 = 1 from by decide, Int32.mul_one, show (100 : Int32) * nI c = nI (100 * c) from pk_mul 100 c, show (10 : Int32) * nI i = nI (10 * i) from pk_mul 10 i, ← nI_add, Int32.add_assoc]
    · have g2 : (dig T n (0 / 10) (99 / 10) (dig T n 0 1 s)).2 = false := by simpa using g2
      rw [stp_bad g2] at h3
      have e : two T n 0 99 (dig T n 0 1 s) = dig T n (0 / 10) (99 / 10) (dig T n 0 1 s) := stp_bad g2
      rw [e]
      exact ⟨h3, fun g => by rw [g2] at g; cases g⟩
  · have g0 : (dig T n 0 1 s).2 = false := by simpa using g1
    rw [stp_bad g0, stp_bad g0] at h3
    have e : two T n 0 99 (dig T n 0 1 s) = dig T n 0 1 s := (congrArg (fun x => dig T n _ _ x) (stp_bad g0)).trans (stp_bad g0)
    rw [e]
    exact ⟨h3, fun g => absurd g g1⟩
theorem k3_signH (σ : Sg) (h : Nat) (π : Nat → Nat) (nr ng nb : Nat) (g : Rw) (a er : Int32) (n : Nat) (hh : 2 < h) (hr : σ.2.1 1 0 = some 2) (hn : σ.1 1 1 = nI n) (hn120 : n ≤ 120) : Ct yX3_sign cX3_sign mX3_sign 1 0 0 NN false (sH (cS σ a er) h π nr ng nb g) [.ref 1] NN (eI1 (sH (cS σ a er) h π nr ng nb g) (sgn (σ.1 2) n a)) XF := by
  have k := k3_sign (sH (cS σ a er) h π nr ng nb g) n a ((sH_R (by omega)).trans hr) ((sH_out (by omega)).trans rfl) ((sH_out (by omega)).trans hn) hn120
  rwa [show (sH (cS σ a er) h π nr ng nb g).1 2 = σ.1 2 from funext fun j => (sH_out (by omega)).trans rfl] at k
set_option maxHeartbeats 4000000 in
theorem k3_num1 (σ : Sg) (h : Nat) (π : Nat → Nat) (nr ng nb : Nat) (g : Rw) (a er : Int32) (s : PSt) (n : Nat) (lo hi : Int32) (hh : 2 < h) (hr : σ.2.1 1 0 = some 2) (hn : σ.1 1 1 = nI n) (hn120 : n ≤ 120) (hP : PR a er s) (hs : s.1 ≤ n) : Ct yX3_readNumber cX3_readNumber mX3_readNumber 2 0 0 NN false (sH (cS σ a er) h π nr ng nb g) [.ref 1, .int 1, .int lo, .int hi] NN (rI fun σ2 v => ∃ a2 er2, sH (cS σ a2 er2) h π nr ng nb g = σ2 ∧ PR a2 er2 (dig (σ.1 2) n lo hi s) ∧ ((dig (σ.1 2) n lo hi s).2 = true → v = digv (σ.1 2) n lo hi s)) XF := by
  refine ct_of (ls0 := [some (.ref 1), some (.int 1), some (.int lo), some (.int hi), none, none, none, none]) 4 (by decide +kernel) rfl rfl (ndR (ndI (ndI (ndI nd0)))) rfl (Nat.le_of_ble_eq_true rfl) (fun K => ?_)
  refine aw_iconst (v := 1) dX3_readNumber_0 (by decide) ?_
  refine aw_istore4 dX3_readNumber_1 (by decide) rfl ?_
  refine aw_iconst (v := 1) dX3_readNumber_3 (by decide) ?_
  refine aw_istore5 dX3_readNumber_4 (by decide) rfl ?_
  refine aw_iload5 dX3_readNumber_6 ?_
  refine aw_iload1 dX3_readNumber_8 ?_
  refine aw_ic_ge (tgt := 25) dX3_readNumber_9 (by decide) (fun _ => ?_) (fun c_9 => absurd c_9 (by decide))
  refine aw_iconst (v := 0) dX3_readNumber_25 (by decide) ?_
  refine aw_istore5 dX3_readNumber_26 (by decide) rfl ?_
  refine aw_iconst (v := 0) dX3_readNumber_28 (by decide) ?_
  refine aw_istore6 dX3_readNumber_29 (by decide) rfl ?_
  refine aw_iload6 dX3_readNumber_31 ?_
  refine aw_iload1 dX3_readNumber_33 ?_
  refine aw_ic_ge (tgt := 107) dX3_readNumber_34 (by decide) (fun c_34 => absurd c_34 (by decide)) (fun _ => ?_)
  refine aw_aload0 dX3_readNumber_37 ?_
  refine aw_VI0 (k3_signH _ _ _ _ _ _ _ _ _ n hh hr hn hn120) dX3_readNumber_38 vl_3_30 rfl (by decide) (by decide) (Nat.le_of_ble_eq_true rfl) (fun σ_38 r_38 h_38 => ?_)
  obtain ⟨rfl, rfl⟩ := h_38
  refine aw_bipush (v := 48) dX3_readNumber_41 (by decide) ?_
  refine aw_isub dX3_readNumber_43 ?_
  refine aw_istore7 dX3_readNumber_44 (by decide) rfl ?_
  refine aw_iload5 dX3_readNumber_46 ?_
  refine aw_iload7 dX3_readNumber_48 ?_
  refine aw_iload4 dX3_readNumber_50 ?_
  refine aw_imul dX3_readNumber_52 ?_
  refine aw_iadd dX3_readNumber_53 ?_
  refine aw_istore5 dX3_readNumber_54 (by decide) rfl ?_
  refine aw_aload0 dX3_readNumber_56 ?_
  refine AW.tern0 (E := (b01 (cy (sgn (σ.1 2) n a - 48) (0 + (sgn (σ.1 2) n a - 48) * 1) 1 lo hi))) (pc2 := 91) (fun x_91 hx_91 => ?_) (fun J_91 => ?_)
  · subst hx_91
    refine aw_VV1 (k3_require _ _ _ _ _ _ _ _ _ _ _ (by omega) hP (by omega)) dX3_readNumber_91 vl_3_34 rfl (by decide) (by decide) (Nat.le_of_ble_eq_true rfl) (fun σ_91 h_91 => ?_)
    obtain ⟨a1, e1, rfl, hP1⟩ := h_91
    refine aw_iload4 dX3_readNumber_94 ?_
    refine aw_bipush (v := 10) dX3_readNumber_96 (by decide) ?_
    refine aw_idiv dX3_readNumber_98 (by decide) ?_
    refine aw_istore4 dX3_readNumber_99 (by decide) rfl ?_
    refine aw_iinc6 (w := 1) dX3_readNumber_101 (by decide) (by decide) rfl ?_
    refine aw_goto (tgt := 31) dX3_readNumber_104 (by decide) ?_
    refine aw_iload6 dX3_readNumber_31 ?_
    refine aw_iload1 dX3_readNumber_33 ?_
    refine aw_ic_ge (tgt := 107) dX3_readNumber_34 (by decide) (fun _ => ?_) (fun c_34 => absurd c_34 (by decide))
    refine aw_iload5 dX3_readNumber_107 ?_
    exact aw_iret dX3_readNumber_109 rfl (by decide) ⟨_, rfl, a1, e1, rfl, num1 hP hs hn120 hP1⟩
  · refine aw_iload7 dX3_readNumber_57 ?_
    refine aw_if_lt (tgt := 90) dX3_readNumber_59 (by decide) (fun c_59 => ?_) (fun c_59 => ?_)
    · refine aw_iconst (v := 0) dX3_readNumber_90 (by decide) ?_
      exact J_91 _ (by first | exact cy_1 c_59 c_66 c_72 c_83 | exact cy_a c_59 | exact cy_b c_66 | exact cy_c c_72 | exact cy_d c_83)
    · refine aw_iload7 dX3_readNumber_62 ?_
      refine aw_bipush (v := 9) dX3_readNumber_64 (by decide) ?_
      refine aw_ic_gt (tgt := 90) dX3_readNumber_66 (by decide) (fun c_66 => ?_) (fun c_66 => ?_)
      · refine aw_iconst (v := 0) dX3_readNumber_90 (by decide) ?_
        exact J_91 _ (by first | exact cy_1 c_59 c_66 c_72 c_83 | exact cy_a c_59 | exact cy_b c_66 | exact cy_c c_72 | exact cy_d c_83)
      · refine aw_iload5 dX3_readNumber_69 ?_
        refine aw_iload3 dX3_readNumber_71 ?_
        refine aw_ic_gt (tgt := 90) dX3_readNumber_72 (by decide) (fun c_72 => ?_) (fun c_72 => ?_)
        · refine aw_iconst (v := 0) dX3_readNumber_90 (by decide) ?_
          exact J_91 _ (by first | exact cy_1 c_59 c_66 c_72 c_83 | exact cy_a c_59 | exact cy_b c_66 | exact cy_c c_72 | exact cy_d c_83)
        · refine aw_iload5 dX3_readNumber_75 ?_
          refine aw_iload4 dX3_readNumber_77 ?_
          refine aw_iadd dX3_readNumber_79 ?_
          refine aw_iconst (v := 1) dX3_readNumber_80 (by decide) ?_
          refine aw_isub dX3_readNumber_81 ?_
          refine aw_iload2 dX3_readNumber_82 ?_
          refine aw_ic_lt (tgt := 90) dX3_readNumber_83 (by decide) (fun c_83 => ?_) (fun c_83 => ?_)
          · refine aw_iconst (v := 0) dX3_readNumber_90 (by decide) ?_
            exact J_91 _ (by first | exact cy_1 c_59 c_66 c_72 c_83 | exact cy_a c_59 | exact cy_b c_66 | exact cy_c c_72 | exact cy_d c_83)
          · refine aw_iconst (v := 1) dX3_readNumber_86 (by decide) ?_
            refine aw_goto (tgt := 91) dX3_readNumber_87 (by decide) ?_
            exact J_91 _ (by first | exact cy_1 c_59 c_66 c_72 c_83 | exact cy_a c_59 | exact cy_b c_66 | exact cy_c c_72 | exact cy_d c_83)
set_option maxHeartbeats 4000000 in
theorem k3_num2 (σ : Sg) (h : Nat) (π : Nat → Nat) (nr ng nb : Nat) (g : Rw) (a er : Int32) (s : PSt) (n : Nat) (lo hi : Nat) (hlo : lo < 100) (hhi : hi < 100) (hh : 2 < h) (hr : σ.2.1 1 0 = some 2) (hn : σ.1 1 1 = nI n) (hn120 : n ≤ 120) (hP : PR a er s) (hs : s.1 ≤ n) : Ct yX3_readNumber cX3_readNumber mX3_readNumber 2 0 0 NN false (sH (cS σ a er) h π nr ng nb g) [.ref 1, .int 2, .int (nI lo), .int (nI hi)] NN (rI fun σ2 v => ∃ a2 er2, sH (cS σ a2 er2) h π nr ng nb g = σ2 ∧ PR a2 er2 (two (σ.1 2) n (nI lo) (nI hi) s) ∧ ((two (σ.1 2) n (nI lo) (nI hi) s).2 = true → v = twov (σ.1 2) n (nI lo) (nI hi) s)) XF := by
  refine ct_of (ls0 := [some (.ref 1), some (.int 2), some (.int (nI lo)), some (.int (nI hi)), none, none, none, none]) 4 (by decide +kernel) rfl rfl (ndR (ndI (ndI (ndI nd0)))) rfl (Nat.le_of_ble_eq_true rfl) (fun K => ?_)
  refine aw_iconst (v := 1) dX3_readNumber_0 (by decide) ?_
  refine aw_istore4 dX3_readNumber_1 (by decide) rfl ?_
  refine aw_iconst (v := 1) dX3_readNumber_3 (by decide) ?_
  refine aw_istore5 dX3_readNumber_4 (by decide) rfl ?_
  refine aw_iload5 dX3_readNumber_6 ?_
  refine aw_iload1 dX3_readNumber_8 ?_
  refine aw_ic_ge (tgt := 25) dX3_readNumber_9 (by decide) (fun c_9 => absurd c_9 (by decide)) (fun _ => ?_)
  refine aw_iload4 dX3_readNumber_12 ?_
  refine aw_bipush (v := 10) dX3_readNumber_14 (by decide) ?_
  refine aw_imul dX3_readNumber_16 ?_
  refine aw_istore4 dX3_readNumber_17 (by decide) rfl ?_
  refine aw_iinc5 (w := 2) dX3_readNumber_19 (by decide) (by decide) rfl ?_
  refine aw_goto (tgt := 6) dX3_readNumber_22 (by decide) ?_
  refine aw_iload5 dX3_readNumber_6 ?_
  refine aw_iload1 dX3_readNumber_8 ?_
  refine aw_ic_ge (tgt := 25) dX3_readNumber_9 (by decide) (fun _ => ?_) (fun c_9 => absurd c_9 (by decide))
  refine aw_iconst (v := 0) dX3_readNumber_25 (by decide) ?_
  refine aw_istore5 dX3_readNumber_26 (by decide) rfl ?_
  refine aw_iconst (v := 0) dX3_readNumber_28 (by decide) ?_
  refine aw_istore6 dX3_readNumber_29 (by decide) rfl ?_
  refine aw_iload6 dX3_readNumber_31 ?_
  refine aw_iload1 dX3_readNumber_33 ?_
  refine aw_ic_ge (tgt := 107) dX3_readNumber_34 (by decide) (fun c_34 => absurd c_34 (by decide)) (fun _ => ?_)
  refine aw_aload0 dX3_readNumber_37 ?_
  refine aw_VI0 (k3_signH _ _ _ _ _ _ _ _ _ n hh hr hn hn120) dX3_readNumber_38 vl_3_30 rfl (by decide) (by decide) (Nat.le_of_ble_eq_true rfl) (fun σ_38 r_38 h_38 => ?_)
  obtain ⟨rfl, rfl⟩ := h_38
  refine aw_bipush (v := 48) dX3_readNumber_41 (by decide) ?_
  refine aw_isub dX3_readNumber_43 ?_
  refine aw_istore7 dX3_readNumber_44 (by decide) rfl ?_
  refine aw_iload5 dX3_readNumber_46 ?_
  refine aw_iload7 dX3_readNumber_48 ?_
  refine aw_iload4 dX3_readNumber_50 ?_
  refine aw_imul dX3_readNumber_52 ?_
  refine aw_iadd dX3_readNumber_53 ?_
  refine aw_istore5 dX3_readNumber_54 (by decide) rfl ?_
  refine aw_aload0 dX3_readNumber_56 ?_
  refine AW.tern0 (E := (b01 (cy (sgn (σ.1 2) n a - 48) (0 + (sgn (σ.1 2) n a - 48) * (1 * 10)) (1 * 10) (nI lo) (nI hi)))) (pc2 := 91) (fun x_91 hx_91 => ?_) (fun J_91 => ?_)
  · subst hx_91
    refine aw_VV1 (k3_require _ _ _ _ _ _ _ _ _ _ _ (by omega) hP (by omega)) dX3_readNumber_91 vl_3_34 rfl (by decide) (by decide) (Nat.le_of_ble_eq_true rfl) (fun σ_91 h_91 => ?_)
    obtain ⟨a1, e1, rfl, hP1⟩ := h_91
    refine aw_iload4 dX3_readNumber_94 ?_
    refine aw_bipush (v := 10) dX3_readNumber_96 (by decide) ?_
    refine aw_idiv dX3_readNumber_98 (by decide) ?_
    refine aw_istore4 dX3_readNumber_99 (by decide) rfl ?_
    refine aw_iinc6 (w := 1) dX3_readNumber_101 (by decide) (by decide) rfl ?_
    refine aw_goto (tgt := 31) dX3_readNumber_104 (by decide) ?_
    refine aw_iload6 dX3_readNumber_31 ?_
    refine aw_iload1 dX3_readNumber_33 ?_
    refine aw_ic_ge (tgt := 107) dX3_readNumber_34 (by decide) (fun c_34 => absurd c_34 (by decide)) (fun _ => ?_)
    refine aw_aload0 dX3_readNumber_37 ?_
    refine aw_VI0 (k3_signH _ _ _ _ _ _ _ _ _ n hh hr hn hn120) dX3_readNumber_38 vl_3_30 rfl (by decide) (by decide) (Nat.le_of_ble_eq_true rfl) (fun σ_38 r_38 h_38 => ?_)
    obtain ⟨rfl, rfl⟩ := h_38
    refine aw_bipush (v := 48) dX3_readNumber_41 (by decide) ?_
    refine aw_isub dX3_readNumber_43 ?_
    refine aw_istore7 dX3_readNumber_44 (by decide) rfl ?_
    refine aw_iload5 dX3_readNumber_46 ?_
    refine aw_iload7 dX3_readNumber_48 ?_
    refine aw_iload4 dX3_readNumber_50 ?_
    refine aw_imul dX3_readNumber_52 ?_
    refine aw_iadd dX3_readNumber_53 ?_
    refine aw_istore5 dX3_readNumber_54 (by decide) rfl ?_
    refine aw_aload0 dX3_readNumber_56 ?_
    refine AW.tern0 (E := (b01 (cy (sgn (σ.1 2) n a1 - 48) ((0 + (sgn (σ.1 2) n a - 48) * (1 * 10)) + (sgn (σ.1 2) n a1 - 48) * (1 * 10 / 10)) (1 * 10 / 10) (nI lo) (nI hi)))) (pc2 := 91) (fun x_91 hx_91 => ?_) (fun J_91 => ?_)
    · subst hx_91
      refine aw_VV1 (k3_require _ _ _ _ _ _ _ _ _ _ _ (by omega) hP1 (Nat.lt_of_le_of_lt stp_le1 (by omega))) dX3_readNumber_91 vl_3_34 rfl (by decide) (by decide) (Nat.le_of_ble_eq_true rfl) (fun σ_91 h_91 => ?_)
      obtain ⟨a2, e2, rfl, hP2⟩ := h_91
      refine aw_iload4 dX3_readNumber_94 ?_
      refine aw_bipush (v := 10) dX3_readNumber_96 (by decide) ?_
      refine aw_idiv dX3_readNumber_98 (by decide) ?_
      refine aw_istore4 dX3_readNumber_99 (by decide) rfl ?_
      refine aw_iinc6 (w := 2) dX3_readNumber_101 (by decide) (by decide) rfl ?_
      refine aw_goto (tgt := 31) dX3_readNumber_104 (by decide) ?_
      refine aw_iload6 dX3_readNumber_31 ?_
      refine aw_iload1 dX3_readNumber_33 ?_
      refine aw_ic_ge (tgt := 107) dX3_readNumber_34 (by decide) (fun _ => ?_) (fun c_34 => absurd c_34 (by decide))
      refine aw_iload5 dX3_readNumber_107 ?_
      exact aw_iret dX3_readNumber_109 rfl (by decide) ⟨_, rfl, a2, e2, rfl, num2 hlo hhi hP (by omega) hn120 hP1 hP2⟩
    · refine aw_iload7 dX3_readNumber_57 ?_
      refine aw_if_lt (tgt := 90) dX3_readNumber_59 (by decide) (fun c_59 => ?_) (fun c_59 => ?_)
      · refine aw_iconst (v := 0) dX3_readNumber_90 (by decide) ?_
        exact J_91 _ (by first | exact cy_1 c_59 c_66 c_72 c_83 | exact cy_a c_59 | exact cy_b c_66 | exact cy_c c_72 | exact cy_d c_83)
      · refine aw_iload7 dX3_readNumber_62 ?_
        refine aw_bipush (v := 9) dX3_readNumber_64 (by decide) ?_
        refine aw_ic_gt (tgt := 90) dX3_readNumber_66 (by decide) (fun c_66 => ?_) (fun c_66 => ?_)
        · refine aw_iconst (v := 0) dX3_readNumber_90 (by decide) ?_
          exact J_91 _ (by first | exact cy_1 c_59 c_66 c_72 c_83 | exact cy_a c_59 | exact cy_b c_66 | exact cy_c c_72 | exact cy_d c_83)
        · refine aw_iload5 dX3_readNumber_69 ?_
          refine aw_iload3 dX3_readNumber_71 ?_
          refine aw_ic_gt (tgt := 90) dX3_readNumber_72 (by decide) (fun c_72 => ?_) (fun c_72 => ?_)
          · refine aw_iconst (v := 0) dX3_readNumber_90 (by decide) ?_
            exact J_91 _ (by first | exact cy_1 c_59 c_66 c_72 c_83 | exact cy_a c_59 | exact cy_b c_66 | exact cy_c c_72 | exact cy_d c_83)
          · refine aw_iload5 dX3_readNumber_75 ?_
            refine aw_iload4 dX3_readNumber_77 ?_
            refine aw_iadd dX3_readNumber_79 ?_
            refine aw_iconst (v := 1) dX3_readNumber_80 (by decide) ?_
            refine aw_isub dX3_readNumber_81 ?_
            refine aw_iload2 dX3_readNumber_82 ?_
            refine aw_ic_lt (tgt := 90) dX3_readNumber_83 (by decide) (fun c_83 => ?_) (fun c_83 => ?_)
            · refine aw_iconst (v := 0) dX3_readNumber_90 (by decide) ?_
              exact J_91 _ (by first | exact cy_1 c_59 c_66 c_72 c_83 | exact cy_a c_59 | exact cy_b c_66 | exact cy_c c_72 | exact cy_d c_83)
            · refine aw_iconst (v := 1) dX3_readNumber_86 (by decide) ?_
              refine aw_goto (tgt := 91) dX3_readNumber_87 (by decide) ?_
              exact J_91 _ (by first | exact cy_1 c_59 c_66 c_72 c_83 | exact cy_a c_59 | exact cy_b c_66 | exact cy_c c_72 | exact cy_d c_83)
  · refine aw_iload7 dX3_readNumber_57 ?_
    refine aw_if_lt (tgt := 90) dX3_readNumber_59 (by decide) (fun c_59 => ?_) (fun c_59 => ?_)
    · refine aw_iconst (v := 0) dX3_readNumber_90 (by decide) ?_
      exact J_91 _ (by first | exact cy_1 c_59 c_66 c_72 c_83 | exact cy_a c_59 | exact cy_b c_66 | exact cy_c c_72 | exact cy_d c_83)
    · refine aw_iload7 dX3_readNumber_62 ?_
      refine aw_bipush (v := 9) dX3_readNumber_64 (by decide) ?_
      refine aw_ic_gt (tgt := 90) dX3_readNumber_66 (by decide) (fun c_66 => ?_) (fun c_66 => ?_)
      · refine aw_iconst (v := 0) dX3_readNumber_90 (by decide) ?_
        exact J_91 _ (by first | exact cy_1 c_59 c_66 c_72 c_83 | exact cy_a c_59 | exact cy_b c_66 | exact cy_c c_72 | exact cy_d c_83)
      · refine aw_iload5 dX3_readNumber_69 ?_
        refine aw_iload3 dX3_readNumber_71 ?_
        refine aw_ic_gt (tgt := 90) dX3_readNumber_72 (by decide) (fun c_72 => ?_) (fun c_72 => ?_)
        · refine aw_iconst (v := 0) dX3_readNumber_90 (by decide) ?_
          exact J_91 _ (by first | exact cy_1 c_59 c_66 c_72 c_83 | exact cy_a c_59 | exact cy_b c_66 | exact cy_c c_72 | exact cy_d c_83)
        · refine aw_iload5 dX3_readNumber_75 ?_
          refine aw_iload4 dX3_readNumber_77 ?_
          refine aw_iadd dX3_readNumber_79 ?_
          refine aw_iconst (v := 1) dX3_readNumber_80 (by decide) ?_
          refine aw_isub dX3_readNumber_81 ?_
          refine aw_iload2 dX3_readNumber_82 ?_
          refine aw_ic_lt (tgt := 90) dX3_readNumber_83 (by decide) (fun c_83 => ?_) (fun c_83 => ?_)
          · refine aw_iconst (v := 0) dX3_readNumber_90 (by decide) ?_
            exact J_91 _ (by first | exact cy_1 c_59 c_66 c_72 c_83 | exact cy_a c_59 | exact cy_b c_66 | exact cy_c c_72 | exact cy_d c_83)
          · refine aw_iconst (v := 1) dX3_readNumber_86 (by decide) ?_
            refine aw_goto (tgt := 91) dX3_readNumber_87 (by decide) ?_
            exact J_91 _ (by first | exact cy_1 c_59 c_66 c_72 c_83 | exact cy_a c_59 | exact cy_b c_66 | exact cy_c c_72 | exact cy_d c_83)
set_option maxHeartbeats 4000000 in
theorem k3_num3 (σ : Sg) (h : Nat) (π : Nat → Nat) (nr ng nb : Nat) (g : Rw) (a er : Int32) (s : PSt) (n : Nat)  (hh : 2 < h) (hr : σ.2.1 1 0 = some 2) (hn : σ.1 1 1 = nI n) (hn120 : n ≤ 120) (hP : PR a er s) (hs : s.1 ≤ n) : Ct yX3_readNumber cX3_readNumber mX3_readNumber 2 0 0 NN false (sH (cS σ a er) h π nr ng nb g) [.ref 1, .int 3, .int 0, .int 199] NN (rI fun σ2 v => ∃ a2 er2, sH (cS σ a2 er2) h π nr ng nb g = σ2 ∧ PR a2 er2 (two (σ.1 2) n 0 99 (dig (σ.1 2) n 0 1 s)) ∧ ((two (σ.1 2) n 0 99 (dig (σ.1 2) n 0 1 s)).2 = true → v = 100 * digv (σ.1 2) n 0 1 s + twov (σ.1 2) n 0 99 (dig (σ.1 2) n 0 1 s))) XF := by
  refine ct_of (ls0 := [some (.ref 1), some (.int 3), some (.int 0), some (.int 199), none, none, none, none]) 4 (by decide +kernel) rfl rfl (ndR (ndI (ndI (ndI nd0)))) rfl (Nat.le_of_ble_eq_true rfl) (fun K => ?_)
  refine aw_iconst (v := 1) dX3_readNumber_0 (by decide) ?_
  refine aw_istore4 dX3_readNumber_1 (by decide) rfl ?_
  refine aw_iconst (v := 1) dX3_readNumber_3 (by decide) ?_
  refine aw_istore5 dX3_readNumber_4 (by decide) rfl ?_
  refine aw_iload5 dX3_readNumber_6 ?_
  refine aw_iload1 dX3_readNumber_8 ?_
  refine aw_ic_ge (tgt := 25) dX3_readNumber_9 (by decide) (fun c_9 => absurd c_9 (by decide)) (fun _ => ?_)
  refine aw_iload4 dX3_readNumber_12 ?_
  refine aw_bipush (v := 10) dX3_readNumber_14 (by decide) ?_
  refine aw_imul dX3_readNumber_16 ?_
  refine aw_istore4 dX3_readNumber_17 (by decide) rfl ?_
  refine aw_iinc5 (w := 2) dX3_readNumber_19 (by decide) (by decide) rfl ?_
  refine aw_goto (tgt := 6) dX3_readNumber_22 (by decide) ?_
  refine aw_iload5 dX3_readNumber_6 ?_
  refine aw_iload1 dX3_readNumber_8 ?_
  refine aw_ic_ge (tgt := 25) dX3_readNumber_9 (by decide) (fun c_9 => absurd c_9 (by decide)) (fun _ => ?_)
  refine aw_iload4 dX3_readNumber_12 ?_
  refine aw_bipush (v := 10) dX3_readNumber_14 (by decide) ?_
  refine aw_imul dX3_readNumber_16 ?_
  refine aw_istore4 dX3_readNumber_17 (by decide) rfl ?_
  refine aw_iinc5 (w := 3) dX3_readNumber_19 (by decide) (by decide) rfl ?_
  refine aw_goto (tgt := 6) dX3_readNumber_22 (by decide) ?_
  refine aw_iload5 dX3_readNumber_6 ?_
  refine aw_iload1 dX3_readNumber_8 ?_
  refine aw_ic_ge (tgt := 25) dX3_readNumber_9 (by decide) (fun _ => ?_) (fun c_9 => absurd c_9 (by decide))
  refine aw_iconst (v := 0) dX3_readNumber_25 (by decide) ?_
  refine aw_istore5 dX3_readNumber_26 (by decide) rfl ?_
  refine aw_iconst (v := 0) dX3_readNumber_28 (by decide) ?_
  refine aw_istore6 dX3_readNumber_29 (by decide) rfl ?_
  refine aw_iload6 dX3_readNumber_31 ?_
  refine aw_iload1 dX3_readNumber_33 ?_
  refine aw_ic_ge (tgt := 107) dX3_readNumber_34 (by decide) (fun c_34 => absurd c_34 (by decide)) (fun _ => ?_)
  refine aw_aload0 dX3_readNumber_37 ?_
  refine aw_VI0 (k3_signH _ _ _ _ _ _ _ _ _ n hh hr hn hn120) dX3_readNumber_38 vl_3_30 rfl (by decide) (by decide) (Nat.le_of_ble_eq_true rfl) (fun σ_38 r_38 h_38 => ?_)
  obtain ⟨rfl, rfl⟩ := h_38
  refine aw_bipush (v := 48) dX3_readNumber_41 (by decide) ?_
  refine aw_isub dX3_readNumber_43 ?_
  refine aw_istore7 dX3_readNumber_44 (by decide) rfl ?_
  refine aw_iload5 dX3_readNumber_46 ?_
  refine aw_iload7 dX3_readNumber_48 ?_
  refine aw_iload4 dX3_readNumber_50 ?_
  refine aw_imul dX3_readNumber_52 ?_
  refine aw_iadd dX3_readNumber_53 ?_
  refine aw_istore5 dX3_readNumber_54 (by decide) rfl ?_
  refine aw_aload0 dX3_readNumber_56 ?_
  refine AW.tern0 (E := (b01 (cy (sgn (σ.1 2) n a - 48) (0 + (sgn (σ.1 2) n a - 48) * (1 * 10 * 10)) (1 * 10 * 10) 0 199))) (pc2 := 91) (fun x_91 hx_91 => ?_) (fun J_91 => ?_)
  · subst hx_91
    refine aw_VV1 (k3_require _ _ _ _ _ _ _ _ _ _ _ (by omega) hP (by omega)) dX3_readNumber_91 vl_3_34 rfl (by decide) (by decide) (Nat.le_of_ble_eq_true rfl) (fun σ_91 h_91 => ?_)
    obtain ⟨a1, e1, rfl, hP1⟩ := h_91
    refine aw_iload4 dX3_readNumber_94 ?_
    refine aw_bipush (v := 10) dX3_readNumber_96 (by decide) ?_
    refine aw_idiv dX3_readNumber_98 (by decide) ?_
    refine aw_istore4 dX3_readNumber_99 (by decide) rfl ?_
    refine aw_iinc6 (w := 1) dX3_readNumber_101 (by decide) (by decide) rfl ?_
    refine aw_goto (tgt := 31) dX3_readNumber_104 (by decide) ?_
    refine aw_iload6 dX3_readNumber_31 ?_
    refine aw_iload1 dX3_readNumber_33 ?_
    refine aw_ic_ge (tgt := 107) dX3_readNumber_34 (by decide) (fun c_34 => absurd c_34 (by decide)) (fun _ => ?_)
    refine aw_aload0 dX3_readNumber_37 ?_
    refine aw_VI0 (k3_signH _ _ _ _ _ _ _ _ _ n hh hr hn hn120) dX3_readNumber_38 vl_3_30 rfl (by decide) (by decide) (Nat.le_of_ble_eq_true rfl) (fun σ_38 r_38 h_38 => ?_)
    obtain ⟨rfl, rfl⟩ := h_38
    refine aw_bipush (v := 48) dX3_readNumber_41 (by decide) ?_
    refine aw_isub dX3_readNumber_43 ?_
    refine aw_istore7 dX3_readNumber_44 (by decide) rfl ?_
    refine aw_iload5 dX3_readNumber_46 ?_
    refine aw_iload7 dX3_readNumber_48 ?_
    refine aw_iload4 dX3_readNumber_50 ?_
    refine aw_imul dX3_readNumber_52 ?_
    refine aw_iadd dX3_readNumber_53 ?_
    refine aw_istore5 dX3_readNumber_54 (by decide) rfl ?_
    refine aw_aload0 dX3_readNumber_56 ?_
    refine AW.tern0 (E := (b01 (cy (sgn (σ.1 2) n a1 - 48) ((0 + (sgn (σ.1 2) n a - 48) * (1 * 10 * 10)) + (sgn (σ.1 2) n a1 - 48) * (1 * 10 * 10 / 10)) (1 * 10 * 10 / 10) 0 199))) (pc2 := 91) (fun x_91 hx_91 => ?_) (fun J_91 => ?_)
    · subst hx_91
      refine aw_VV1 (k3_require _ _ _ _ _ _ _ _ _ _ _ (by omega) hP1 (Nat.lt_of_le_of_lt stp_le1 (by omega))) dX3_readNumber_91 vl_3_34 rfl (by decide) (by decide) (Nat.le_of_ble_eq_true rfl) (fun σ_91 h_91 => ?_)
      obtain ⟨a2, e2, rfl, hP2⟩ := h_91
      refine aw_iload4 dX3_readNumber_94 ?_
      refine aw_bipush (v := 10) dX3_readNumber_96 (by decide) ?_
      refine aw_idiv dX3_readNumber_98 (by decide) ?_
      refine aw_istore4 dX3_readNumber_99 (by decide) rfl ?_
      refine aw_iinc6 (w := 2) dX3_readNumber_101 (by decide) (by decide) rfl ?_
      refine aw_goto (tgt := 31) dX3_readNumber_104 (by decide) ?_
      refine aw_iload6 dX3_readNumber_31 ?_
      refine aw_iload1 dX3_readNumber_33 ?_
      refine aw_ic_ge (tgt := 107) dX3_readNumber_34 (by decide) (fun c_34 => absurd c_34 (by decide)) (fun _ => ?_)
      refine aw_aload0 dX3_readNumber_37 ?_
      refine aw_VI0 (k3_signH _ _ _ _ _ _ _ _ _ n hh hr hn hn120) dX3_readNumber_38 vl_3_30 rfl (by decide) (by decide) (Nat.le_of_ble_eq_true rfl) (fun σ_38 r_38 h_38 => ?_)
      obtain ⟨rfl, rfl⟩ := h_38
      refine aw_bipush (v := 48) dX3_readNumber_41 (by decide) ?_
      refine aw_isub dX3_readNumber_43 ?_
      refine aw_istore7 dX3_readNumber_44 (by decide) rfl ?_
      refine aw_iload5 dX3_readNumber_46 ?_
      refine aw_iload7 dX3_readNumber_48 ?_
      refine aw_iload4 dX3_readNumber_50 ?_
      refine aw_imul dX3_readNumber_52 ?_
      refine aw_iadd dX3_readNumber_53 ?_
      refine aw_istore5 dX3_readNumber_54 (by decide) rfl ?_
      refine aw_aload0 dX3_readNumber_56 ?_
      refine AW.tern0 (E := (b01 (cy (sgn (σ.1 2) n a2 - 48) (((0 + (sgn (σ.1 2) n a - 48) * (1 * 10 * 10)) + (sgn (σ.1 2) n a1 - 48) * (1 * 10 * 10 / 10)) + (sgn (σ.1 2) n a2 - 48) * (1 * 10 * 10 / 10 / 10)) (1 * 10 * 10 / 10 / 10) 0 199))) (pc2 := 91) (fun x_91 hx_91 => ?_) (fun J_91 => ?_)
      · subst hx_91
        refine aw_VV1 (k3_require _ _ _ _ _ _ _ _ _ _ _ (by omega) hP2 (Nat.lt_of_le_of_lt stp_le1 (Nat.lt_of_le_of_lt (Nat.succ_le_succ stp_le1) (by omega)))) dX3_readNumber_91 vl_3_34 rfl (by decide) (by decide) (Nat.le_of_ble_eq_true rfl) (fun σ_91 h_91 => ?_)
        obtain ⟨a3, e3, rfl, hP3⟩ := h_91
        refine aw_iload4 dX3_readNumber_94 ?_
        refine aw_bipush (v := 10) dX3_readNumber_96 (by decide) ?_
        refine aw_idiv dX3_readNumber_98 (by decide) ?_
        refine aw_istore4 dX3_readNumber_99 (by decide) rfl ?_
        refine aw_iinc6 (w := 3) dX3_readNumber_101 (by decide) (by decide) rfl ?_
        refine aw_goto (tgt := 31) dX3_readNumber_104 (by decide) ?_
        refine aw_iload6 dX3_readNumber_31 ?_
        refine aw_iload1 dX3_readNumber_33 ?_
        refine aw_ic_ge (tgt := 107) dX3_readNumber_34 (by decide) (fun _ => ?_) (fun c_34 => absurd c_34 (by decide))
        refine aw_iload5 dX3_readNumber_107 ?_
        exact aw_iret dX3_readNumber_109 rfl (by decide) ⟨_, rfl, a3, e3, rfl, num3 hP hs hn120 rfl rfl rfl rfl rfl rfl hP1 hP2 hP3⟩
      · refine aw_iload7 dX3_readNumber_57 ?_
        refine aw_if_lt (tgt := 90) dX3_readNumber_59 (by decide) (fun c_59 => ?_) (fun c_59 => ?_)
        · refine aw_iconst (v := 0) dX3_readNumber_90 (by decide) ?_
          exact J_91 _ (by first | exact cy_1 c_59 c_66 c_72 c_83 | exact cy_a c_59 | exact cy_b c_66 | exact cy_c c_72 | exact cy_d c_83)
        · refine aw_iload7 dX3_readNumber_62 ?_
          refine aw_bipush (v := 9) dX3_readNumber_64 (by decide) ?_
          refine aw_ic_gt (tgt := 90) dX3_readNumber_66 (by decide) (fun c_66 => ?_) (fun c_66 => ?_)
          · refine aw_iconst (v := 0) dX3_readNumber_90 (by decide) ?_
            exact J_91 _ (by first | exact cy_1 c_59 c_66 c_72 c_83 | exact cy_a c_59 | exact cy_b c_66 | exact cy_c c_72 | exact cy_d c_83)
          · refine aw_iload5 dX3_readNumber_69 ?_
            refine aw_iload3 dX3_readNumber_71 ?_
            refine aw_ic_gt (tgt := 90) dX3_readNumber_72 (by decide) (fun c_72 => ?_) (fun c_72 => ?_)
            · refine aw_iconst (v := 0) dX3_readNumber_90 (by decide) ?_
              exact J_91 _ (by first | exact cy_1 c_59 c_66 c_72 c_83 | exact cy_a c_59 | exact cy_b c_66 | exact cy_c c_72 | exact cy_d c_83)
            · refine aw_iload5 dX3_readNumber_75 ?_
              refine aw_iload4 dX3_readNumber_77 ?_
              refine aw_iadd dX3_readNumber_79 ?_
              refine aw_iconst (v := 1) dX3_readNumber_80 (by decide) ?_
              refine aw_isub dX3_readNumber_81 ?_
              refine aw_iload2 dX3_readNumber_82 ?_
              refine aw_ic_lt (tgt := 90) dX3_readNumber_83 (by decide) (fun c_83 => ?_) (fun c_83 => ?_)
              · refine aw_iconst (v := 0) dX3_readNumber_90 (by decide) ?_
                exact J_91 _ (by first | exact cy_1 c_59 c_66 c_72 c_83 | exact cy_a c_59 | exact cy_b c_66 | exact cy_c c_72 | exact cy_d c_83)
              · refine aw_iconst (v := 1) dX3_readNumber_86 (by decide) ?_
                refine aw_goto (tgt := 91) dX3_readNumber_87 (by decide) ?_
                exact J_91 _ (by first | exact cy_1 c_59 c_66 c_72 c_83 | exact cy_a c_59 | exact cy_b c_66 | exact cy_c c_72 | exact cy_d c_83)
    · refine aw_iload7 dX3_readNumber_57 ?_
      refine aw_if_lt (tgt := 90) dX3_readNumber_59 (by decide) (fun c_59 => ?_) (fun c_59 => ?_)
      · refine aw_iconst (v := 0) dX3_readNumber_90 (by decide) ?_
        exact J_91 _ (by first | exact cy_1 c_59 c_66 c_72 c_83 | exact cy_a c_59 | exact cy_b c_66 | exact cy_c c_72 | exact cy_d c_83)
      · refine aw_iload7 dX3_readNumber_62 ?_
        refine aw_bipush (v := 9) dX3_readNumber_64 (by decide) ?_
        refine aw_ic_gt (tgt := 90) dX3_readNumber_66 (by decide) (fun c_66 => ?_) (fun c_66 => ?_)
        · refine aw_iconst (v := 0) dX3_readNumber_90 (by decide) ?_
          exact J_91 _ (by first | exact cy_1 c_59 c_66 c_72 c_83 | exact cy_a c_59 | exact cy_b c_66 | exact cy_c c_72 | exact cy_d c_83)
        · refine aw_iload5 dX3_readNumber_69 ?_
          refine aw_iload3 dX3_readNumber_71 ?_
          refine aw_ic_gt (tgt := 90) dX3_readNumber_72 (by decide) (fun c_72 => ?_) (fun c_72 => ?_)
          · refine aw_iconst (v := 0) dX3_readNumber_90 (by decide) ?_
            exact J_91 _ (by first | exact cy_1 c_59 c_66 c_72 c_83 | exact cy_a c_59 | exact cy_b c_66 | exact cy_c c_72 | exact cy_d c_83)
          · refine aw_iload5 dX3_readNumber_75 ?_
            refine aw_iload4 dX3_readNumber_77 ?_
            refine aw_iadd dX3_readNumber_79 ?_
            refine aw_iconst (v := 1) dX3_readNumber_80 (by decide) ?_
            refine aw_isub dX3_readNumber_81 ?_
            refine aw_iload2 dX3_readNumber_82 ?_
            refine aw_ic_lt (tgt := 90) dX3_readNumber_83 (by decide) (fun c_83 => ?_) (fun c_83 => ?_)
            · refine aw_iconst (v := 0) dX3_readNumber_90 (by decide) ?_
              exact J_91 _ (by first | exact cy_1 c_59 c_66 c_72 c_83 | exact cy_a c_59 | exact cy_b c_66 | exact cy_c c_72 | exact cy_d c_83)
            · refine aw_iconst (v := 1) dX3_readNumber_86 (by decide) ?_
              refine aw_goto (tgt := 91) dX3_readNumber_87 (by decide) ?_
              exact J_91 _ (by first | exact cy_1 c_59 c_66 c_72 c_83 | exact cy_a c_59 | exact cy_b c_66 | exact cy_c c_72 | exact cy_d c_83)
  · refine aw_iload7 dX3_readNumber_57 ?_
    refine aw_if_lt (tgt := 90) dX3_readNumber_59 (by decide) (fun c_59 => ?_) (fun c_59 => ?_)
    · refine aw_iconst (v := 0) dX3_readNumber_90 (by decide) ?_
      exact J_91 _ (by first | exact cy_1 c_59 c_66 c_72 c_83 | exact cy_a c_59 | exact cy_b c_66 | exact cy_c c_72 | exact cy_d c_83)
    · refine aw_iload7 dX3_readNumber_62 ?_
      refine aw_bipush (v := 9) dX3_readNumber_64 (by decide) ?_
      refine aw_ic_gt (tgt := 90) dX3_readNumber_66 (by decide) (fun c_66 => ?_) (fun c_66 => ?_)
      · refine aw_iconst (v := 0) dX3_readNumber_90 (by decide) ?_
        exact J_91 _ (by first | exact cy_1 c_59 c_66 c_72 c_83 | exact cy_a c_59 | exact cy_b c_66 | exact cy_c c_72 | exact cy_d c_83)
      · refine aw_iload5 dX3_readNumber_69 ?_
        refine aw_iload3 dX3_readNumber_71 ?_
        refine aw_ic_gt (tgt := 90) dX3_readNumber_72 (by decide) (fun c_72 => ?_) (fun c_72 => ?_)
        · refine aw_iconst (v := 0) dX3_readNumber_90 (by decide) ?_
          exact J_91 _ (by first | exact cy_1 c_59 c_66 c_72 c_83 | exact cy_a c_59 | exact cy_b c_66 | exact cy_c c_72 | exact cy_d c_83)
        · refine aw_iload5 dX3_readNumber_75 ?_
          refine aw_iload4 dX3_readNumber_77 ?_
          refine aw_iadd dX3_readNumber_79 ?_
          refine aw_iconst (v := 1) dX3_readNumber_80 (by decide) ?_
          refine aw_isub dX3_readNumber_81 ?_
          refine aw_iload2 dX3_readNumber_82 ?_
          refine aw_ic_lt (tgt := 90) dX3_readNumber_83 (by decide) (fun c_83 => ?_) (fun c_83 => ?_)
          · refine aw_iconst (v := 0) dX3_readNumber_90 (by decide) ?_
            exact J_91 _ (by first | exact cy_1 c_59 c_66 c_72 c_83 | exact cy_a c_59 | exact cy_b c_66 | exact cy_c c_72 | exact cy_d c_83)
          · refine aw_iconst (v := 1) dX3_readNumber_86 (by decide) ?_
            refine aw_goto (tgt := 91) dX3_readNumber_87 (by decide) ?_
            exact J_91 _ (by first | exact cy_1 c_59 c_66 c_72 c_83 | exact cy_a c_59 | exact cy_b c_66 | exact cy_c c_72 | exact cy_d c_83)
