/-! the reference: the text as a whole -/
abbrev PQ : Type := PSt × Rw × Nat × Nat × Nat
noncomputable def pPart (T : Rw) (n : Nat) (s : PSt) (g : Rw) (nr ng nb : Nat) : PQ :=
  if nx T n s.1 114 = true then (rr4 T n s nr, rrG T n s g nr, (if (rr4 T n s nr).2 = true then nr + 1 else nr), ng, nb)
  else if nx T n s.1 98 = true then (rbS T n s g nr ng nb, rbG T n s g nr ng nb, nr, ng, (if (rbS T n s g nr ng nb).2 = true then nb + 1 else nb))
  else if nx T n s.1 103 = true then (stp s (decide (ng < 6)), upd g 2 (g 2 + b01 (stp s (decide (ng < 6))).2), nr, (if (stp s (decide (ng < 6))).2 = true then ng + 1 else ng), nb)
  else (ro2 T n s, roG T n s g, nr, ng, nb)
noncomputable def pLoop (T : Rw) (n : Nat) : Nat → PQ → PQ
  | 0, q => q
  | k + 1, q => if q.1.2 = true ∧ q.1.1 < n then pLoop T n k (pPart T n q.1 q.2.1 q.2.2.1 q.2.2.2.1 q.2.2.2.2) else q
theorem pLoop_s {T : Rw} {n k : Nat} {s : PSt} {g : Rw} {nr ng nb : Nat} (h1 : s.2 = true) (h2 : s.1 < n) : pLoop T n (k + 1) (s, g, nr, ng, nb) = pLoop T n k (pPart T n s g nr ng nb) := if_pos ⟨h1, h2⟩
theorem pLoop_e {T : Rw} {n k : Nat} {q : PQ} (h : ¬ (q.1.2 = true ∧ q.1.1 < n)) : pLoop T n k q = q := by
  cases k with
  | zero => rfl
  | succ k => exact if_neg h
noncomputable def pText (T : Rw) (n : Nat) (g : Rw) : PQ := pLoop T n 120 (stp (0, true) (nx T n 0 72), g, 0, 0, 0)
/-- the error position; NONE where all is good -/
def pErr (s : PSt) : Int32 := if s.2 = true then -99 else nI s.1
/-- what holds all along a reading -/
def PI (n : Nat) (s : PSt) (g : Rw) (nr ng nb : Nat) : Prop := s.1 ≤ n ∧ WF g nr ng nb 0 ∧ ∀ i, i < 6 → g (25 + i) = 0
theorem dV_N {T : Rw} {n p : Nat} {lo hi : Int32} (h : gD T n p lo hi = true) : ∃ d, d ≤ 9 ∧ dV T n p = nI d ∧ lo ≤ nI d ∧ nI d ≤ hi := by
  simp only [gD, Bool.and_eq_true, decide_eq_true_eq] at h
  obtain ⟨d, hd, e⟩ := Int32.rng (n := 9) (by omega) h.1.1 h.1.2
  rw [e] at h ⊢
  exact ⟨d, hd, rfl, h.2.1, h.2.2⟩
theorem dig_N {T : Rw} {n : Nat} {lo hi : Int32} {s : PSt} (h : (dig T n lo hi s).2 = true) : ∃ d, d ≤ 9 ∧ digv T n lo hi s = nI d ∧ lo ≤ nI d ∧ nI d ≤ hi ∧ (dig T n lo hi s).1 = s.1 + 1 := by
  obtain ⟨d, h1, h2, h3, h4⟩ := dV_N (dig_ok h).2
  refine ⟨d, h1, by rw [digv, if_pos h, h2], h3, h4, ?_⟩
  show pN s.1 _ = _
  rw [show (s.2 && gD T n s.1 lo hi) = true from h]
  rfl
theorem two_N {T : Rw} {n a b : Nat} {s : PSt} (hb : b < 100) (hab : a < 100) (h : (two T n (nI a) (nI b) s).2 = true) : ∃ v, a ≤ v ∧ v ≤ b ∧ twov T n (nI a) (nI b) s = nI v ∧ (two T n (nI a) (nI b) s).1 = s.1 + 2 := by
  have ea : nI a / 10 = nI (a / 10) := pk_div (d := 10) (by omega) (by decide) (by decide)
  have eb : nI b / 10 = nI (b / 10) := pk_div (d := 10) (by omega) (by decide) (by decide)
  obtain ⟨i, h1, h2, h3, h4, h5⟩ := dig_N (two_ok h)
  have h6 := h
  unfold two at h6
  rw [h2] at h6
  obtain ⟨j, k1, k2, k3, k4, k5⟩ := dig_N h6
  rw [ea] at h3
  rw [eb] at h4
  have h3 := (nI_leI (by omega) (by omega)).mp h3
  have h4 := (nI_leI (by omega) (by omega)).mp h4
  have e10 : (10 : Int32) * nI i = nI (10 * i) := pk_mul 10 i
  have q1 : a ≤ 10 * i + j := by
    rcases Nat.lt_or_ge a (10 * i) with q | q
    · omega
    · rw [lo2, e10, pk_sub q, if_neg (nI_pos (by omega))] at k3
      have := (nI_leI (by omega) (by omega)).mp k3
      omega
  have q2 : 10 * i + j ≤ b := by
    rw [hi2, e10, pk_sub (by omega)] at k4
    split at k4
    · have := (nI_leI (by omega) (by omega)).mp k4
      omega
    · rename_i q
      have := mt (nI_leI (b := 9) (by omega) (by omega)).mpr q
      omega
  refine ⟨10 * i + j, q1, q2, ?_, ?_⟩
  · unfold twov
    rw [h2, k2, e10, nI_add]
  · unfold two
    rw [h2, k5, h5]
theorem PI.part {T : Rw} {n : Nat} {s : PSt} {g : Rw} {nr ng nb : Nat} (h : PI n s g nr ng nb) (ok : s.2 = true) (hlt : s.1 < n) : PI n (pPart T n s g nr ng nb).1 (pPart T n s g nr ng nb).2.1 (pPart T n s g nr ng nb).2.2.1 (pPart T n s g nr ng nb).2.2.2.1 (pPart T n s g nr ng nb).2.2.2.2 ∧ ((pPart T n s g nr ng nb).1.2 = true → s.1 + 1 ≤ (pPart T n s g nr ng nb).1.1) := by
  obtain ⟨h1, hw, h0⟩ := h
  have hnr4 := hw.nr4
  have hng6 := hw.ng6
  have hnb12 := hw.nb12
  have st1 : ∀ {c : Bool}, (stp s c).2 = true → (stp s c).1 = s.1 + 1 := fun {c} q => by
    show pN s.1 _ = _
    rw [show (s.2 && c) = true from q]
    rfl
  unfold pPart
  split
  · have hs0 : (rr0 s nr).1 ≤ n := stp_le h1 (fun _ => hlt)
    refine ⟨⟨two_le (dig_le (dig_le (dig_le hs0))), ?_, fun i hi => ?_⟩, fun q => ?_⟩
    · unfold rrG
      by_cases q : (rr4 T n s nr).2 = true
      · rw [if_pos q, if_pos q]
        have q3 := (dig_ok (two_ok q)).1
        have q2 := (dig_ok q3).1
        have q1 := (dig_ok q2).1
        obtain ⟨x, x1, x2, -⟩ := dig_N q1
        obtain ⟨z, z1, z2, -⟩ := dig_N q3
        exact hw.addRoom (rr_nr q) ⟨x, x1, x2⟩ ⟨z, z1, z2⟩
      · rw [if_neg q, if_neg q]
        exact hw
    · unfold rrG
      split
      · rename_i q
        have := rr_nr q
        show rrN T n s g nr (25 + i) = 0
        rw [rrN, fAddRoom_off (by omega) (by omega)]
        exact h0 i hi
      · exact h0 i hi
    · have q3 := (dig_ok (two_ok q)).1
      have q2 := (dig_ok q3).1
      have q1 := (dig_ok q2).1
      obtain ⟨-, -, -, -, -, w1⟩ := dig_N q1
      obtain ⟨-, -, -, -, -, w2⟩ := dig_N q2
      obtain ⟨-, -, -, -, -, w3⟩ := dig_N q3
      obtain ⟨-, -, -, -, w4⟩ := two_N (a := 0) (b := 30) (by omega) (by omega) q
      have w0 := st1 (dig_ok q1).1
      show s.1 + 1 ≤ (rr4 T n s nr).1
      have w4 : (rr4 T n s nr).1 = (rr3 T n s nr).1 + 2 := w4
      have w3 : (rr3 T n s nr).1 = (rr2 T n s nr).1 + 1 := w3
      have w2 : (rr2 T n s nr).1 = (rr1 T n s nr).1 + 1 := w2
      have w1 : (rr1 T n s nr).1 = (rr0 s nr).1 + 1 := w1
      have w0 : (rr0 s nr).1 = s.1 + 1 := w0
      omega
  · split
    · have hs0 : (rb0 s nr ng nb).1 ≤ n := stp_le h1 (fun _ => hlt)
      have hs6 : (rb6 T n s nr ng nb).1 ≤ n := two_le (two_le (two_le (dig_le (dig_le (dig_le hs0)))))
      by_cases q : (rbS T n s g nr ng nb).2 = true
      · obtain ⟨q6, qf⟩ := rbS_ok.mp q
        have q5 := (dig_ok (two_ok q6)).1
        have q4 := (dig_ok (two_ok q5)).1
        have q3 := (dig_ok (two_ok q4)).1
        have q2 := (dig_ok q3).1
        have q1 := (dig_ok q2).1
        obtain ⟨c1, c2, c3⟩ := rb_nb12 (stp_ok (dig_ok q1).1).2
        obtain ⟨r, r1, r2, -, r3, w1⟩ := dig_N q1
        obtain ⟨w, y1, y2, -, y3, w2⟩ := dig_N q2
        obtain ⟨d, d1, d2, -, d3, w3⟩ := dig_N q3
        obtain ⟨f, f1, f2, f3, w4⟩ := two_N (a := 0) (b := 99) (by omega) (by omega) q4
        obtain ⟨k, k1, k2, k3, w5⟩ := two_N (a := 1) (b := 12) (by omega) (by omega) q5
        obtain ⟨-, -, -, -, w6⟩ := two_N (a := 12) (b := 25) (by omega) (by omega) q6
        have d3 := (nI_leI (b := 1) (by omega) (by omega)).mp d3
        have er : nI nr - 1 = nI (nr - 1) := by
          have := nI_pred (nr - 1)
          rwa [show nr - 1 + 1 = nr by omega] at this
        have eg : nI ng - 1 = nI (ng - 1) := by
          have := nI_pred (ng - 1)
          rwa [show ng - 1 + 1 = ng by omega] at this
        rw [er] at r3
        rw [eg] at y3
        have r3 := (nI_leI (by omega) (by omega)).mp r3
        have y3 := (nI_leI (by omega) (by omega)).mp y3
        have eF : rbf T n s nr ng nb = nI (100 * d + f) := by
          show 100 * digv T n 0 1 (rb2 T n s nr ng nb) + twov T n 0 99 (rb3 T n s nr ng nb) = _
          rw [d2, show twov T n 0 99 (rb3 T n s nr ng nb) = nI f from f3, show (100 : Int32) * nI d = nI (100 * d) from pk_mul 100 d, nI_add]
        have eR : rbr T n s nr ng nb = nI r := r2
        have eW : rbw T n s nr ng nb = nI w := y2
        have eH : rbh T n s nr ng nb = nI k := k3
        have free : fFree g (nI r) (nI (100 * d + f)) (nI k) nb := by
          have := @of_decide_eq_true _ (Classical.propDecidable _) qf
          rwa [eR, eF, eH] at this
        have eG : rbG T n s g nr ng nb = fBookTo g nb (nI r) (nI w) (nI (100 * d + f)) (nI k) (rbt T n s nr ng nb) := by
          rw [rbG, if_pos ⟨q6, qf⟩, eR, eW, eF, eH]
        simp only []
        rw [if_pos q, eG, rbS_t q6, if_pos qf]
        refine ⟨⟨hs6, hw.book c1 (by omega) (by omega) (by omega) k1 k2 free, fun i hi => ?_⟩, fun _ => ?_⟩
        · rw [fBookTo_off (by omega) (by omega)]
          exact h0 i hi
        · have w0 := st1 (dig_ok q1).1
          have a6 : (rb6 T n s nr ng nb).1 = (rb5 T n s nr ng nb).1 + 2 := w6
          have a5 : (rb5 T n s nr ng nb).1 = (rb4 T n s nr ng nb).1 + 2 := w5
          have a4 : (rb4 T n s nr ng nb).1 = (rb3 T n s nr ng nb).1 + 2 := w4
          have a3 : (rb3 T n s nr ng nb).1 = (rb2 T n s nr ng nb).1 + 1 := w3
          have a2 : (rb2 T n s nr ng nb).1 = (rb1 T n s nr ng nb).1 + 1 := w2
          have a1 : (rb1 T n s nr ng nb).1 = (rb0 s nr ng nb).1 + 1 := w1
          have a0 : (rb0 s nr ng nb).1 = s.1 + 1 := w0
          show s.1 + 1 ≤ (rb6 T n s nr ng nb).1
          omega
      · simp only []
        rw [if_neg q]
        have eG : rbG T n s g nr ng nb = g := by rw [rbG, if_neg (fun q2 => q (rbS_ok.mpr q2))]
        rw [eG]
        refine ⟨⟨?_, hw, h0⟩, fun q2 => absurd q2 q⟩
        unfold rbS
        split
        · split
          · exact hs6
          · exact h1
        · exact hs6
    · split
      · refine ⟨⟨stp_le h1 (fun _ => hlt), ?_, fun i hi => ?_⟩, fun q => ?_⟩
        · by_cases q : (stp s (decide (ng < 6))).2 = true
          · simp only []
            rw [if_pos q, q]
            have e := hw.addGroup (of_decide_eq_true (stp_ok q).2)
            rw [show upd g 2 (g 2 + b01 true) = fAddGroup g ng from by
              have q6 : ng < 6 := of_decide_eq_true (stp_ok q).2
              have : upd g (25 + ng) 0 = g := funext fun j => by
                by_cases hj : j = 25 + ng
                · rw [hj, upd_s, h0 ng q6]
                · rw [upd_n hj]
              rw [fAddGroup, this]
              rfl]
            exact e
          · simp only []
            rw [if_neg q]
            rw [show (stp s (decide (ng < 6))).2 = false by simpa using q]
            have : upd g 2 (g 2 + b01 false) = g := funext fun j => by
              by_cases hj : j = 2
              · rw [hj, upd_s]
                show g 2 + 0 = g 2
                rw [hw.ng]
                exact nI_add ng 0
              · rw [upd_n hj]
            rw [this]
            exact hw
        · show upd g 2 _ (25 + i) = 0
          rw [upd_n (by omega)]
          exact h0 i hi
        · have := st1 q
          show s.1 + 1 ≤ (stp s _).1
          omega
      · refine ⟨⟨two_le (ro1_le h1), ?_, fun i hi => ?_⟩, fun q => ?_⟩
        · unfold roG
          split
          · exact hw.out _
          · exact hw
        · show roG T n s g (25 + i) = 0
          unfold roG
          split
          · rw [upd_n (by omega)]
            exact h0 i hi
          · exact h0 i hi
        · have q1 := (dig_ok (two_ok q)).1
          have q0 := (stp_ok q1).1
          have e0 := st1 q0
          have : ∀ (S : PSt) (c : Bool), S.1 ≤ (stp S c).1 := fun S c => by
            show S.1 ≤ pN S.1 _
            unfold pN
            split <;> omega
          have e1 := this (ro0 T n s) (roy T n s || nx T n (ro0 T n s).1 43)
          have e2 := this (ro1 T n s) (gD T n (ro1 T n s).1 (b01 (roy T n s) / 10) (roh T n s / 10))
          have e3 := this (dig T n (b01 (roy T n s) / 10) (roh T n s / 10) (ro1 T n s)) (gD T n (dig T n (b01 (roy T n s) / 10) (roh T n s / 10) (ro1 T n s)).1 (lo2 (b01 (roy T n s)) (digv T n (b01 (roy T n s) / 10) (roh T n s / 10) (ro1 T n s))) (hi2 (roh T n s) (digv T n (b01 (roy T n s) / 10) (roh T n s / 10) (ro1 T n s))))
          show s.1 + 1 ≤ (ro2 T n s).1
          exact Nat.le_trans (Nat.le_of_eq e0.symm) (Nat.le_trans e1 (Nat.le_trans e2 e3))
theorem pPart_r {T : Rw} {n : Nat} {s : PSt} {g : Rw} {nr ng nb : Nat} (h : ¬ b01 (nx T n s.1 114) = 0) : pPart T n s g nr ng nb = (rr4 T n s nr, rrG T n s g nr, (if (rr4 T n s nr).2 = true then nr + 1 else nr), ng, nb) := if_pos (b01_t h)
theorem pPart_b {T : Rw} {n : Nat} {s : PSt} {g : Rw} {nr ng nb : Nat} (h0 : b01 (nx T n s.1 114) = 0) (h : ¬ b01 (nx T n s.1 98) = 0) : pPart T n s g nr ng nb = (rbS T n s g nr ng nb, rbG T n s g nr ng nb, nr, ng, (if (rbS T n s g nr ng nb).2 = true then nb + 1 else nb)) := (if_neg (nb01 h0)).trans (if_pos (b01_t h))
theorem pPart_g {T : Rw} {n : Nat} {s : PSt} {g : Rw} {nr ng nb : Nat} (h0 : b01 (nx T n s.1 114) = 0) (h1 : b01 (nx T n s.1 98) = 0) (h : ¬ b01 (nx T n s.1 103) = 0) : pPart T n s g nr ng nb = (stp s (decide (ng < 6)), upd g 2 (g 2 + b01 (stp s (decide (ng < 6))).2), nr, (if (stp s (decide (ng < 6))).2 = true then ng + 1 else ng), nb) := (if_neg (nb01 h0)).trans ((if_neg (nb01 h1)).trans (if_pos (b01_t h)))
theorem pPart_o {T : Rw} {n : Nat} {s : PSt} {g : Rw} {nr ng nb : Nat} (h0 : b01 (nx T n s.1 114) = 0) (h1 : b01 (nx T n s.1 98) = 0) (h : b01 (nx T n s.1 103) = 0) : pPart T n s g nr ng nb = (ro2 T n s, roG T n s g, nr, ng, nb) := (if_neg (nb01 h0)).trans ((if_neg (nb01 h1)).trans (if_neg (nb01 h)))
