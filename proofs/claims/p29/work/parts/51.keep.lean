/-! what holds of a row between two calls, in whole numbers -/
def KR (g : Rw) (nr : Nat) : Prop := (∀ r, r < nr → (1 ≤ zz g (9 + 4 * r + 0) ∧ zz g (9 + 4 * r + 0) ≤ 9) ∧ (1 ≤ zz g (9 + 4 * r + 1) ∧ zz g (9 + 4 * r + 1) ≤ 9) ∧ (1 ≤ zz g (9 + 4 * r + 2) ∧ zz g (9 + 4 * r + 2) ≤ 9) ∧ -20 ≤ zz g (9 + 4 * r + 3) ∧ zz g (9 + 4 * r + 3) ≤ 30) ∧ -20 ≤ zz g 4 ∧ zz g 4 ≤ 25
/-- one more hour counts for the bookings of the first k rooms -/
def dn (g : Rw) (b k : Nat) : Int := if zz g (31 + 10 * b + 0) < (k : Int) then 1 else 0
def KB1 (g : Rw) (b t k : Nat) : Prop :=
  (12 ≤ zz g (31 + 10 * b + 4) ∧ zz g (31 + 10 * b + 4) ≤ 25) ∧ (0 ≤ zz g (31 + 10 * b + 5) ∧ zz g (31 + 10 * b + 5) ≤ 81 * (t + dn g b k)) ∧ (0 ≤ zz g (31 + 10 * b + 6) ∧ zz g (31 + 10 * b + 6) ≤ 81 * (t + dn g b k)) ∧ (0 ≤ zz g (31 + 10 * b + 8) ∧ zz g (31 + 10 * b + 8) ≤ zz g (31 + 10 * b + 3)) ∧ (t + dn g b k ≤ zz g (31 + 10 * b + 2) → zz g (31 + 10 * b + 8) = 0 ∧ zz g (31 + 10 * b + 6) = 0) ∧ (zz g (31 + 10 * b + 2) < t + dn g b k → zz g (31 + 10 * b + 8) ≤ t + dn g b k - zz g (31 + 10 * b + 2)) ∧ (zz g (31 + 10 * b + 9) = 0 → zz g (31 + 10 * b + 5) = 0)
def KB (g : Rw) (nb t k : Nat) : Prop := ∀ b, b < nb → KB1 g b t k
def KM (g : Rw) (nb t : Nat) : Prop := ∀ b, b < nb → zz g (31 + 10 * b + 7) = 1 → zz g (31 + 10 * b + 2) ≤ t ∧ (t : Int) < zz g (31 + 10 * b + 2) + zz g (31 + 10 * b + 3)
def KU (g : Rw) (nr nb t k : Nat) (c : Int) : Prop :=
  (0 ≤ zz g 6 ∧ 0 ≤ zz g 7 ∧ zz g 6 + zz g 7 ≤ 324 * t + 81 * k) ∧ sm g nb = zz g 6 + zz g 7 ∧ (0 ≤ zz g 5 - zz g 6 - zz g 7 ∧ zz g 5 - zz g 6 - zz g 7 ≤ t) ∧ (zz g 5 - zz g 6 - zz g 7 ≤ zz g 8 - c ∧ zz g 8 - c ≤ nr * (zz g 5 - zz g 6 - zz g 7)) ∧ 0 ≤ c ∧ c ≤ k
def KO (g : Rw) (ng : Nat) (o : Int) : Prop := ∀ w, w < ng → -o ≤ zz g (25 + w) ∧ zz g (25 + w) ≤ o
def HK (g : Rw) (nr ng nb t k : Nat) (c o : Int) : Prop := WF g nr ng nb t ∧ KR g nr ∧ KB g nb t k ∧ KM g nb t ∧ KU g nr nb t k c ∧ KO g ng o
def WK (g : Rw) (nr ng nb t : Nat) : Prop := HK g nr ng nb t 0 0 (2000000 * t)
theorem KB1.e {g e : Rw} {b t k : Nat} (h : KB1 g b t k) (he : ∀ i, i < 10 → i ≠ 1 → i ≠ 7 → e (31 + 10 * b + i) = g (31 + 10 * b + i)) : KB1 e b t k := by
  have z : ∀ i, i < 10 → i ≠ 1 → i ≠ 7 → zz e (31 + 10 * b + i) = zz g (31 + 10 * b + i) := fun i h1 h2 h3 => zz_e (he i h1 h2 h3)
  have d : dn e b k = dn g b k := by rw [dn, dn, z 0 (by omega) (by omega) (by omega)]
  unfold KB1 at h ⊢
  rw [d, z 2 (by omega) (by omega) (by omega), z 3 (by omega) (by omega) (by omega), z 4 (by omega) (by omega) (by omega), z 5 (by omega) (by omega) (by omega), z 6 (by omega) (by omega) (by omega), z 8 (by omega) (by omega) (by omega), z 9 (by omega) (by omega) (by omega)]
  exact h
theorem dn_01 {g : Rw} {b k : Nat} : (dn g b k = 0 ∨ dn g b k = 1) ∧ dn g b k ≤ dn g b (k + 1) ∧ (dn g b (k + 1) = 0 ∨ dn g b (k + 1) = 1) := by
  unfold dn
  refine ⟨by split <;> simp, ?_, by split <;> simp⟩
  split
  · rename_i h
    rw [if_pos (by omega)]
    omega
  · split <;> omega
theorem KB1.mono {g : Rw} {b t k : Nat} (h : KB1 g b t k) : KB1 g b t (k + 1) := by
  obtain ⟨d1, d2, d3⟩ := dn_01 (g := g) (b := b) (k := k)
  obtain ⟨h1, h2, h3, h4, h5, h6, h7⟩ := h
  refine ⟨h1, ⟨h2.1, by omega⟩, ⟨h3.1, by omega⟩, h4, fun q => h5 (by omega), fun q => ?_, h7⟩
  rcases (show zz g (31 + 10 * b + 2) < t + dn g b k ∨ t + dn g b k ≤ zz g (31 + 10 * b + 2) by omega) with p | p
  · have := h6 p
    omega
  · have := (h5 p).1
    omega
theorem KB.e {g e : Rw} {nb t k : Nat} (h : KB g nb t k) (he : ∀ b i, b < nb → i < 10 → i ≠ 1 → i ≠ 7 → e (31 + 10 * b + i) = g (31 + 10 * b + i)) : KB e nb t k := fun b hb => (h b hb).e (fun i => he b i hb)
theorem KM.e {g e : Rw} {nb t : Nat} (h : KM g nb t) (he : ∀ b, b < nb → e (31 + 10 * b + 2) = g (31 + 10 * b + 2) ∧ e (31 + 10 * b + 3) = g (31 + 10 * b + 3) ∧ e (31 + 10 * b + 7) = g (31 + 10 * b + 7)) : KM e nb t := fun b hb hm => by
  obtain ⟨e1, e2, e3⟩ := he b hb
  rw [zz_e e1, zz_e e2]
  exact h b hb (by rw [← zz_e e3]; exact hm)
theorem KR.e {g e : Rw} {nr : Nat} (h : KR g nr) (he : ∀ j, j = 4 ∨ (9 ≤ j ∧ j < 9 + 4 * nr) → e j = g j) : KR e nr := by
  have z : ∀ j, j = 4 ∨ (9 ≤ j ∧ j < 9 + 4 * nr) → zz e j = zz g j := fun j hj => zz_e (he j hj)
  refine ⟨fun r hr => ?_, ?_⟩
  · rw [z _ (Or.inr ⟨by omega, by omega⟩), z _ (Or.inr ⟨by omega, by omega⟩), z _ (Or.inr ⟨by omega, by omega⟩), z _ (Or.inr ⟨by omega, by omega⟩)]
    exact h.1 r hr
  · rw [z 4 (Or.inl rfl)]
    exact h.2
theorem KU.e {g e : Rw} {nr nb t k : Nat} {c : Int} (h : KU g nr nb t k c) (he : e 5 = g 5 ∧ e 6 = g 6 ∧ e 7 = g 7 ∧ e 8 = g 8) (hs : sm e nb = sm g nb) : KU e nr nb t k c := by
  obtain ⟨e5, e6, e7, e8⟩ := he
  unfold KU at h ⊢
  rw [zz_e e5, zz_e e6, zz_e e7, zz_e e8, hs]
  exact h
theorem KO.e {g e : Rw} {ng : Nat} {o : Int} (h : KO g ng o) (he : ∀ w, w < ng → e (25 + w) = g (25 + w)) : KO e ng o := fun w hw => by
  rw [zz_e (he w hw)]
  exact h w hw
theorem KO.mono {g : Rw} {ng : Nat} {o o' : Int} (h : KO g ng o) (ho : o ≤ o') : KO g ng o' := fun w hw => by
  have := h w hw
  omega
theorem fHeater_room {g : Rw} {r nb b : Nat} (h : fHeater g r nb = some b) : g (31 + 10 * b + 0) = nI r := by
  unfold fHeater at h
  split at h
  · rename_i c hc; cases h; exact (fCur_spec hc).1
  · split at h
    · cases h
    · rename_i c hc
      split at h
      · cases h; exact (fNxt_spec hc).1
      · cases h
/-- a room's hour with all that is counted of it -/
def rs (g : Rw) (r nb : Nat) : Rw := upd (hR g r nb) 5 (hR g r nb 5 + (fRoom g r nb).2)
theorem fRooms_rs {g : Rw} {nb k : Nat} : fRooms g nb (k + 1) = (rs (fRooms g nb k).1 k nb, (fRooms g nb k).2 || decide (0 < (fRoom (fRooms g nb k).1 k nb).2)) := rfl
theorem rs_none {g : Rw} {r nb j : Nat} (h : fHeater g r nb = none) (hr : r < 4) : rs g r nb j = upd g (9 + 4 * r + 3) (fCool g r) j ∧ (fRoom g r nb).2 = 0 := by
  obtain ⟨h1, h2⟩ := hR_none h
  refine ⟨?_, h2⟩
  rw [rs, h1, h2]
  by_cases q : j = 5
  · subst q
    rw [upd_s, upd_n (by omega)]
    exact Int32.add_zero _
  · rw [upd_n q]
theorem rs_off {g : Rw} {r nb j : Nat} (hw : WHO g nb) (hr : r < 4) (hj : kept0 j) : rs g r nb j = g j := by
  have h5 : j ≠ 5 := by unfold kept0 at hj; omega
  have h8 : j ≠ 8 := by unfold kept0 at hj; omega
  rw [rs, upd_n h5, hR, upd_n h8, fRoom_off hw hr j hj]
theorem rs_WF {g : Rw} {nr ng nb t r : Nat} (hw : WF g nr ng nb t) (hr : r < nr) : WF (rs g r nb) nr ng nb t := by
  have h4 := hw.nr4
  refine hw.of (fun j hj h0 => rs_off hw.who (by omega) hj) ((rs_off hw.who (by omega) (Or.inl (by decide))).trans hw.hr) ?_
  have := hR_bits hw.bt hw.who (r := r) (by omega)
  exact this.eqs (fun b hb => by rw [rs, upd_n (by omega)]) (fun b hb => by rw [rs, upd_n (by omega)])
theorem rs_8 {g : Rw} {r b w nb : Nat} (hr : r < 4) (hb : b < 12) (hw6 : w < 6) (hw : g (31 + 10 * b + 1) = nI w) (hf : fHeater g r nb = some b) (j : Nat) : rs g r nb j = (if j = 5 then g 5 + rmH g r b else if j = 8 then g 8 + pos1 (rmH g r b) else rmF g r b w (decide (g (31 + 10 * b + 2) ≤ g 0)) (decide (g (9 + 4 * r + 3) < g (31 + 10 * b + 4) - 1)) (decide (g (31 + 10 * b + 7) = 1)) j) ∧ (fRoom g r nb).2 = rmH g r b := by
  obtain ⟨h1, h2⟩ := fRoom_rmF hr hb hw6 hw hf
  refine ⟨?_, h2⟩
  rw [rs, hR, h1, h2]
  have e : ∀ x, x = 5 ∨ x = 8 → rmF g r b w (decide (g (31 + 10 * b + 2) ≤ g 0)) (decide (g (9 + 4 * r + 3) < g (31 + 10 * b + 4) - 1)) (decide (g (31 + 10 * b + 7) = 1)) x = g x := fun x hx => by
    rw [rmF, if_neg (by omega), if_neg (by omega), if_neg (by omega), if_neg (by omega), if_neg (by omega), if_neg (by omega), if_neg (by omega)]
  by_cases q : j = 5
  · subst q
    rw [if_pos rfl, upd_s, upd_n (by omega), e 5 (Or.inl rfl)]
  · rw [if_neg q, upd_n q]
    by_cases p : j = 8
    · subst p
      rw [if_pos rfl, upd_s, e 8 (Or.inr rfl)]
    · rw [if_neg p, upd_n p]
section RMF
variable {g : Rw} {r b w : Nat} {o c m : Bool}
theorem rmF_T : rmF g r b w o c m (9 + 4 * r + 3) = fCool g r + rmU g r b := by rw [rmF, if_pos rfl]
theorem rmF_9 (hr : r < 4) : rmF g r b w o c m (31 + 10 * b + 9) = if o = true then g (31 + 10 * b + 9) else 1 := by rw [rmF, if_neg (by omega), if_pos rfl]
theorem rmF_8 (hr : r < 4) : rmF g r b w o c m (31 + 10 * b + 8) = g (31 + 10 * b + 8) + if o = true ∧ c = true then 1 else 0 := by rw [rmF, if_neg (by omega), if_neg (by omega), if_pos rfl]
theorem rmF_6 (hr : r < 4) : rmF g r b w o c m (31 + 10 * b + 6) = if o = true then g (31 + 10 * b + 6) + rmH g r b else g (31 + 10 * b + 6) := by rw [rmF, if_neg (by omega), if_neg (by omega), if_neg (by omega), if_pos rfl]
theorem rmF_5 (hr : r < 4) : rmF g r b w o c m (31 + 10 * b + 5) = if o = true then g (31 + 10 * b + 5) else g (31 + 10 * b + 5) + rmH g r b := by rw [rmF, if_neg (by omega), if_neg (by omega), if_neg (by omega), if_neg (by omega), if_pos rfl]
theorem rmF_p : rmF g r b w o c m 7 = if o = true ∧ m = true then g 7 + rmH g r b else g 7 := by rw [rmF, if_neg (by omega), if_neg (by omega), if_neg (by omega), if_neg (by omega), if_neg (by omega), if_pos rfl]
theorem rmF_g : rmF g r b w o c m 6 = if o = true ∧ m = true then g 6 else g 6 + rmH g r b := by rw [rmF, if_neg (by omega), if_neg (by omega), if_neg (by omega), if_neg (by omega), if_neg (by omega), if_neg (by omega), if_pos (Or.inl rfl)]
theorem rmF_o (hr : r < 4) (hw6 : w < 6) : rmF g r b w o c m (25 + w) = if o = true ∧ m = true then g (25 + w) else g (25 + w) + rmH g r b := by rw [rmF, if_neg (by omega), if_neg (by omega), if_neg (by omega), if_neg (by omega), if_neg (by omega), if_neg (by omega), if_pos (Or.inr rfl)]
theorem rmF_n {j : Nat} (h1 : j ≠ 9 + 4 * r + 3) (h2 : j < 31 + 10 * b + 5 ∨ 31 + 10 * b + 7 = j ∨ 31 + 10 * b + 10 ≤ j) (h3 : j ≠ 7) (h4 : j ≠ 6) (h5 : j ≠ 25 + w) : rmF g r b w o c m j = g j := by rw [rmF, if_neg h1, if_neg (by omega), if_neg (by omega), if_neg (by omega), if_neg (by omega), if_neg h3, if_neg (by omega)]
end RMF
theorem pos1_Z {u : Int32} : (0 < u.toInt → (pos1 u).toInt = 1) ∧ (¬ 0 < u.toInt → (pos1 u).toInt = 0) := by
  have h0 : (0 : Int32).toInt = 0 := by decide
  unfold pos1
  refine ⟨fun h => ?_, fun h => ?_⟩
  · rw [if_pos (Int32.lt_iff_toInt_lt.mpr (by rw [h0]; exact h))]; decide
  · rw [if_neg (fun q => h (by have := Int32.lt_iff_toInt_lt.mp q; rwa [h0] at this))]; decide
theorem heat_Z {g : Rw} {nr ng nb t r b : Nat} (hw : WF g nr ng nb t) (hr : r < nr) (hf : fHeater g r nb = some b) : 0 ≤ (rmH g r b).toInt ∧ (rmH g r b).toInt ≤ 81 := by
  have hb := fHeater_lt hf
  have h4 := hw.nr4
  have h12 := hw.nb12
  obtain ⟨w, hw6, hgw⟩ := hw.who b hb
  obtain ⟨U, hU, e⟩ := heat_N hw hr
  rw [(fRoom_rmF (by omega) (by omega) hw6 hgw hf).2] at e
  rw [e, nI_toInt (by omega)]
  omega
theorem nr_m {nr : Nat} (h : nr ≤ 4) (x : Int) (hx : 0 ≤ x) : 0 ≤ (nr : Int) * x ∧ (nr : Int) * x ≤ 4 * x ∧ (nr : Int) * (x + 1) = nr * x + nr := by
  rcases (show nr = 0 ∨ nr = 1 ∨ nr = 2 ∨ nr = 3 ∨ nr = 4 by omega) with rfl | rfl | rfl | rfl | rfl <;> omega
