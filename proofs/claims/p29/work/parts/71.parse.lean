/-! a text that is told is read -/
theorem stp_T {p : Nat} {c : Bool} (h : c = true) : stp (p, true) c = (p + 1, true) := by rw [h]; rfl
theorem nx_T {T : Rw} {n p : Nat} {c : Int32} (hp : p < n) (h : T p = c) : nx T n p c = true := by simp [nx, hp, h]
theorem nx_F {T : Rw} {n p : Nat} {c : Int32} (h : ¬ T p = c) : nx T n p c = false := by simp [nx, h]
theorem dig_D {T : Rw} {n p d : Nat} {lo hi : Int32} (hp : p < n) (hT : T p = nI (48 + d)) (hd : d ≤ 9) (h1 : lo ≤ nI d) (h2 : nI d ≤ hi) : dig T n lo hi (p, true) = (p + 1, true) ∧ digv T n lo hi (p, true) = nI d := by
  have e : dV T n p = nI d := by
    rw [dV, if_pos hp, hT, show (48 : Int32) = nI 48 from rfl, pk_sub (by omega)]
    congr 1
    omega
  have hg : gD T n p lo hi = true := by
    simp only [gD, e, Bool.and_eq_true, decide_eq_true_eq]
    exact ⟨⟨nI_pos' (by omega), nI_le (b := 9) hd (by omega)⟩, h1, h2⟩
  have h3 : dig T n lo hi (p, true) = (p + 1, true) := stp_T hg
  exact ⟨h3, by rw [digv, h3, if_pos rfl]; exact e⟩
theorem lo2_le {a i j : Nat} (ha : a < 100) (hi : i ≤ 9) (hj : j ≤ 9) (h : a ≤ 10 * i + j) : lo2 (nI a) (nI i) ≤ nI j := by
  have e : (10 : Int32) * nI i = nI (10 * i) := pk_mul 10 i
  have s := pk_sub_toInt (a := a) (b := 10 * i) (by omega) (by omega)
  unfold lo2
  rw [e]
  split
  · exact nI_pos' (by omega)
  · rw [Int32.le_iff_toInt_le, s, nI_toInt (by omega)]
    omega
theorem le_hi2 {b i j : Nat} (hb : b < 100) (hi : i ≤ 9) (hj : j ≤ 9) (h : 10 * i + j ≤ b) : nI j ≤ hi2 (nI b) (nI i) := by
  have e : (10 : Int32) * nI i = nI (10 * i) := pk_mul 10 i
  have s := pk_sub_toInt (a := b) (b := 10 * i) (by omega) (by omega)
  unfold hi2
  rw [e]
  split
  · rw [Int32.le_iff_toInt_le, s, nI_toInt (by omega)]
    omega
  · exact nI_le (b := 9) hj (by omega)
theorem two_D {T : Rw} {n p a b v : Nat} (hp : p + 1 < n) (h0 : T p = nI (48 + v / 10)) (h1 : T (p + 1) = nI (48 + v % 10)) (hv : a ≤ v ∧ v ≤ b) (hb : b < 100) : two T n (nI a) (nI b) (p, true) = (p + 2, true) ∧ twov T n (nI a) (nI b) (p, true) = nI v := by
  have ea : nI a / 10 = nI (a / 10) := pk_div (d := 10) (by omega) (by decide) (by decide)
  have eb : nI b / 10 = nI (b / 10) := pk_div (d := 10) (by omega) (by decide) (by decide)
  obtain ⟨d1, d2⟩ := dig_D (T := T) (n := n) (p := p) (d := v / 10) (lo := nI a / 10) (hi := nI b / 10) (by omega) h0 (by omega) (by rw [ea]; exact nI_le (by omega) (by omega)) (by rw [eb]; exact nI_le (by omega) (by omega))
  obtain ⟨d3, d4⟩ := dig_D (T := T) (n := n) (p := p + 1) (d := v % 10) (lo := lo2 (nI a) (nI (v / 10))) (hi := hi2 (nI b) (nI (v / 10))) hp h1 (by omega) (lo2_le (by omega) (by omega) (by omega) (by omega)) (le_hi2 (by omega) (by omega) (by omega) (by omega))
  unfold two twov
  rw [d1, d2, d3, d4]
  refine ⟨rfl, ?_⟩
  rw [show (10 : Int32) * nI (v / 10) = nI (10 * (v / 10)) from pk_mul 10 _, nI_add]
  congr 1
  omega
theorem pp_room {T : Rw} {n p nr ng nb a b c v : Nat} {g : Rw} (hn : p + 6 ≤ n) (hr : nr < 4) (h0 : T p = 114) (h1 : T (p + 1) = nI (48 + a)) (h2 : T (p + 2) = nI (48 + b)) (h3 : T (p + 3) = nI (48 + c)) (h4 : T (p + 4) = nI (48 + v / 10)) (h5 : T (p + 5) = nI (48 + v % 10)) (ha : 1 ≤ a ∧ a ≤ 9) (hb : 1 ≤ b ∧ b ≤ 9) (hc : 1 ≤ c ∧ c ≤ 9) (hv : v ≤ 30) : pPart T n (p, true) g nr ng nb = ((p + 6, true), fAddRoom g nr (nI a) (nI b) (nI c) (nI v), nr + 1, ng, nb) := by
  have q : ∀ x, 1 ≤ x ∧ x ≤ 9 → (1 : Int32) ≤ nI x ∧ nI x ≤ 9 := fun x hx => ⟨nI_le (a := 1) hx.1 (by omega), nI_le (b := 9) hx.2 (by omega)⟩
  have e0 : rr0 (p, true) nr = (p + 1, true) := stp_T (decide_eq_true hr)
  obtain ⟨a1, a2⟩ := dig_D (T := T) (n := n) (lo := 1) (hi := 9) (by omega) h1 ha.2 (q a ha).1 (q a ha).2
  have e1 : rr1 T n (p, true) nr = (p + 2, true) := by show dig T n 1 9 (rr0 (p, true) nr) = _; rw [e0]; exact a1
  obtain ⟨b1, b2⟩ := dig_D (T := T) (n := n) (lo := 1) (hi := 9) (by omega) h2 hb.2 (q b hb).1 (q b hb).2
  have e2 : rr2 T n (p, true) nr = (p + 3, true) := by show dig T n 1 9 (rr1 T n (p, true) nr) = _; rw [e1]; exact b1
  obtain ⟨c1, c2⟩ := dig_D (T := T) (n := n) (lo := 1) (hi := 9) (by omega) h3 hc.2 (q c hc).1 (q c hc).2
  have e3 : rr3 T n (p, true) nr = (p + 4, true) := by show dig T n 1 9 (rr2 T n (p, true) nr) = _; rw [e2]; exact c1
  obtain ⟨v1, v2⟩ := two_D (T := T) (n := n) (a := 0) (b := 30) (by omega) h4 h5 ⟨by omega, hv⟩ (by omega)
  have e4 : rr4 T n (p, true) nr = (p + 6, true) := by show two T n 0 30 (rr3 T n (p, true) nr) = _; rw [e3]; exact v1
  have x : nx T n (p, true).1 114 = true := nx_T (by show p < n; omega) h0
  unfold pPart
  rw [if_pos x]
  have eG : rrG T n (p, true) g nr = fAddRoom g nr (nI a) (nI b) (nI c) (nI v) := by
    rw [rrG, if_pos (by rw [e4])]
    show fAddRoom g nr (digv T n 1 9 (rr0 (p, true) nr)) (digv T n 1 9 (rr1 T n (p, true) nr)) (digv T n 1 9 (rr2 T n (p, true) nr)) (twov T n 0 30 (rr3 T n (p, true) nr)) = _
    rw [e0, e1, e2, e3, a2, b2, c2]
    exact congrArg _ v2
  rw [eG, e4]
  rfl
theorem pp_grp {T : Rw} {n p nr ng nb : Nat} {g : Rw} (hn : p + 1 ≤ n) (hg : ng < 6) (h0 : T p = 103) : pPart T n (p, true) g nr ng nb = ((p + 1, true), upd g 2 (g 2 + 1), nr, ng + 1, nb) := by
  have x1 : nx T n (p, true).1 114 = false := nx_F (by show ¬ T p = 114; rw [h0]; decide)
  have x2 : nx T n (p, true).1 98 = false := nx_F (by show ¬ T p = 98; rw [h0]; decide)
  have x3 : nx T n (p, true).1 103 = true := nx_T (by show p < n; omega) h0
  have e : stp (p, true) (decide (ng < 6)) = (p + 1, true) := stp_T (decide_eq_true hg)
  unfold pPart
  rw [if_neg (by rw [x1]; decide), if_neg (by rw [x2]; decide), if_pos x3, e]
  rfl
theorem pp_out {T : Rw} {n p nr ng nb v : Nat} {g : Rw} (hn : p + 4 ≤ n) (h0 : T p = 111) (h1 : T (p + 1) = 43) (h2 : T (p + 2) = nI (48 + v / 10)) (h3 : T (p + 3) = nI (48 + v % 10)) (hv : v ≤ 25) : pPart T n (p, true) g nr ng nb = ((p + 4, true), upd g 4 (nI v), nr, ng, nb) := by
  have x1 : nx T n (p, true).1 114 = false := nx_F (by show ¬ T p = 114; rw [h0]; decide)
  have x2 : nx T n (p, true).1 98 = false := nx_F (by show ¬ T p = 98; rw [h0]; decide)
  have x3 : nx T n (p, true).1 103 = false := nx_F (by show ¬ T p = 103; rw [h0]; decide)
  have e0 : ro0 T n (p, true) = (p + 1, true) := stp_T (nx_T (by show p < n; omega) h0)
  have ey : roy T n (p, true) = false := by show nx T n (ro0 T n (p, true)).1 45 = false; rw [e0]; exact nx_F (by show ¬ T (p + 1) = 45; rw [h1]; decide)
  have e1 : ro1 T n (p, true) = (p + 2, true) := by
    show stp (ro0 T n (p, true)) (roy T n (p, true) || nx T n (ro0 T n (p, true)).1 43) = _
    rw [ey, e0]
    exact stp_T (nx_T (by show p + 1 < n; omega) h1)
  obtain ⟨v1, v2⟩ := two_D (T := T) (n := n) (a := 0) (b := 25) (by omega) h2 h3 ⟨by omega, hv⟩ (by omega)
  have e2 : ro2 T n (p, true) = (p + 4, true) := by
    show two T n (b01 (roy T n (p, true))) (if roy T n (p, true) = true then 20 else 25) (ro1 T n (p, true)) = _
    rw [ey, e1]
    exact v1
  have ev : rov T n (p, true) = nI v := by
    show (if roy T n (p, true) = true then -twov T n (b01 (roy T n (p, true))) (if roy T n (p, true) = true then 20 else 25) (ro1 T n (p, true)) else twov T n (b01 (roy T n (p, true))) (if roy T n (p, true) = true then 20 else 25) (ro1 T n (p, true))) = _
    rw [ey, e1]
    exact v2
  unfold pPart
  rw [if_neg (by rw [x1]; decide), if_neg (by rw [x2]; decide), if_neg (by rw [x3]; decide), roG, e2, if_pos rfl, ev]
theorem pp_book {T : Rw} {n p nr ng nb r w f h u : Nat} {g : Rw} (hn : p + 10 ≤ n) (hb : nb < 12) (h0 : T p = 98) (h1 : T (p + 1) = nI (48 + r)) (h2 : T (p + 2) = nI (48 + w)) (h3 : T (p + 3) = nI 48) (h4 : T (p + 4) = nI (48 + f / 10)) (h5 : T (p + 5) = nI (48 + f % 10)) (h6 : T (p + 6) = nI (48 + h / 10)) (h7 : T (p + 7) = nI (48 + h % 10)) (h8 : T (p + 8) = nI (48 + u / 10)) (h9 : T (p + 9) = nI (48 + u % 10)) (hr : r < nr) (hr4 : nr ≤ 4) (hw : w < ng) (hg6 : ng ≤ 6) (hf : f ≤ 99) (hh : 1 ≤ h ∧ h ≤ 12) (hu : 12 ≤ u ∧ u ≤ 25) (hfree : fFree g (nI r) (nI f) (nI h) nb) : pPart T n (p, true) g nr ng nb = ((p + 10, true), fBookTo g nb (nI r) (nI w) (nI f) (nI h) (nI u), nr, ng, nb + 1) := by
  have x1 : nx T n (p, true).1 114 = false := nx_F (by show ¬ T p = 114; rw [h0]; decide)
  have x2 : nx T n (p, true).1 98 = true := nx_T (by show p < n; omega) h0
  have e0 : rb0 (p, true) nr ng nb = (p + 1, true) := stp_T (by simp [rbc, hb, show 0 < nr by omega, show 0 < ng by omega])
  have er : nI nr - 1 = nI (nr - 1) := pk_sub (b := 1) (by omega)
  have eg : nI ng - 1 = nI (ng - 1) := pk_sub (b := 1) (by omega)
  obtain ⟨a1, a2⟩ := dig_D (T := T) (n := n) (lo := 0) (hi := nI nr - 1) (by omega) h1 (by omega) (nI_pos' (by omega)) (by rw [er]; exact nI_le (by omega) (by omega))
  have e1 : rb1 T n (p, true) nr ng nb = (p + 2, true) := by show dig T n 0 (nI nr - 1) (rb0 (p, true) nr ng nb) = _; rw [e0]; exact a1
  obtain ⟨b1, b2⟩ := dig_D (T := T) (n := n) (lo := 0) (hi := nI ng - 1) (by omega) h2 (by omega) (nI_pos' (by omega)) (by rw [eg]; exact nI_le (by omega) (by omega))
  have e2 : rb2 T n (p, true) nr ng nb = (p + 3, true) := by show dig T n 0 (nI ng - 1) (rb1 T n (p, true) nr ng nb) = _; rw [e1]; exact b1
  obtain ⟨c1, c2⟩ := dig_D (T := T) (n := n) (d := 0) (lo := 0) (hi := 1) (by omega) h3 (by omega) (nI_pos' (by omega)) (nI_le (a := 0) (b := 1) (by omega) (by omega))
  have e3 : rb3 T n (p, true) nr ng nb = (p + 4, true) := by show dig T n 0 1 (rb2 T n (p, true) nr ng nb) = _; rw [e2]; exact c1
  obtain ⟨d1, d2⟩ := two_D (T := T) (n := n) (a := 0) (b := 99) (by omega) h4 h5 ⟨by omega, hf⟩ (by omega)
  have e4 : rb4 T n (p, true) nr ng nb = (p + 6, true) := by show two T n 0 99 (rb3 T n (p, true) nr ng nb) = _; rw [e3]; exact d1
  obtain ⟨f1, f2⟩ := two_D (T := T) (n := n) (a := 1) (b := 12) (by omega) h6 h7 hh (by omega)
  have e5 : rb5 T n (p, true) nr ng nb = (p + 8, true) := by show two T n 1 12 (rb4 T n (p, true) nr ng nb) = _; rw [e4]; exact f1
  obtain ⟨u1, u2⟩ := two_D (T := T) (n := n) (a := 12) (b := 25) (by omega) h8 h9 hu (by omega)
  have e6 : rb6 T n (p, true) nr ng nb = (p + 10, true) := by show two T n 12 25 (rb5 T n (p, true) nr ng nb) = _; rw [e5]; exact u1
  have v1 : rbr T n (p, true) nr ng nb = nI r := by show digv T n 0 (nI nr - 1) (rb0 (p, true) nr ng nb) = _; rw [e0]; exact a2
  have v2 : rbw T n (p, true) nr ng nb = nI w := by show digv T n 0 (nI ng - 1) (rb1 T n (p, true) nr ng nb) = _; rw [e1]; exact b2
  have v3 : rbf T n (p, true) nr ng nb = nI f := by
    show 100 * digv T n 0 1 (rb2 T n (p, true) nr ng nb) + twov T n 0 99 (rb3 T n (p, true) nr ng nb) = _
    rw [e2, e3, c2]
    refine (congrArg (fun z => 100 * nI 0 + z) d2).trans ?_
    rw [show (100 : Int32) * nI 0 = nI 0 from by decide, nI_add, Nat.zero_add]
  have v4 : rbh T n (p, true) nr ng nb = nI h := by show twov T n 1 12 (rb4 T n (p, true) nr ng nb) = _; rw [e4]; exact f2
  have v5 : rbt T n (p, true) nr ng nb = nI u := by show twov T n 12 25 (rb5 T n (p, true) nr ng nb) = _; rw [e5]; exact u2
  have hq : rbq T n (p, true) g nr ng nb = true := by
    rw [rbq, v1, v3, v4]
    exact @decide_eq_true _ (Classical.propDecidable _) hfree
  have hS : rbS T n (p, true) g nr ng nb = (p + 10, true) := by rw [rbS, e6, if_pos rfl, if_pos hq]
  have hG : rbG T n (p, true) g nr ng nb = fBookTo g nb (nI r) (nI w) (nI f) (nI h) (nI u) := by
    rw [rbG, @if_pos _ _ ⟨by rw [e6], hq⟩, v1, v2, v3, v4, v5]
  unfold pPart
  rw [if_neg (by rw [x1]; decide), if_pos x2, hS, hG]
  rfl
/-- so far it is read, and the row is sound -/
def PZ (T : Rw) (n p nr ng nb : Nat) (g : Rw) (k : Nat) : Prop := pText T n (fClean g00) = pLoop T n (120 - k) ((p, true), g, nr, ng, nb) ∧ PI n (p, true) g nr ng nb ∧ WK g nr ng nb 0 ∧ k ≤ 50
theorem PZ.step {T : Rw} {n p p' nr ng nb nr' ng' nb' : Nat} {g g' : Rw} {k : Nat} (h : PZ T n p nr ng nb g k) (hp : p < n) (hk : k < 50) (e : pPart T n (p, true) g nr ng nb = ((p', true), g', nr', ng', nb')) (hW : WK g' nr' ng' nb' 0) : PZ T n p' nr' ng' nb' g' (k + 1) := by
  obtain ⟨h1, h2, h3, h4⟩ := h
  obtain ⟨q1, -⟩ := PI.part h2 rfl hp
  rw [e] at q1
  refine ⟨?_, q1, hW, by omega⟩
  rw [h1, show 120 - k = (120 - (k + 1)) + 1 by omega, pLoop_s rfl hp, e]
theorem PZ.start {T : Rw} {n : Nat} (hn : 0 < n) (h : T 0 = 72) : PZ T n 1 0 0 0 (fClean g00) 0 := by
  have e : stp (0, true) (nx T n 0 72) = (1, true) := stp_T (nx_T hn h)
  refine ⟨by rw [pText, e], ⟨by show 1 ≤ n; omega, WF.clean, fun i hi => ?_⟩, WK.clean, by omega⟩
  rw [fClean, if_neg (by omega), if_pos (by omega)]
theorem PZ.done {T : Rw} {n nr ng nb : Nat} {g : Rw} {k : Nat} (h : PZ T n n nr ng nb g k) : pText T n (fClean g00) = ((n, true), g, nr, ng, nb) := by
  rw [h.1]
  exact pLoop_e (fun z => Nat.lt_irrefl _ z.2)
