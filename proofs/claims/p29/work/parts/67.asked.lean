/-! what is asked of a sound row -/
theorem fHeater_cur {g : Rw} {r nb b : Nat} (h : fCur g r nb = some b) : fHeater g r nb = some b := by unfold fHeater; rw [h]
theorem fHeater_nn {g : Rw} {r nb : Nat} (h : fCur g r nb = none) (h2 : fNxt g r nb = none) : fHeater g r nb = none := by unfold fHeater; rw [h, h2]
theorem fHeater_nc {g : Rw} {r nb c : Nat} (h : fCur g r nb = none) (h2 : fNxt g r nb = some c) : fHeater g r nb = some c ∨ fHeater g r nb = none := by
  unfold fHeater
  rw [h, h2]
  show (if fPreD g r c = true then some c else none) = some c ∨ (if fPreD g r c = true then some c else none) = none
  by_cases q : fPreD g r c = true
  · rw [if_pos q]; exact Or.inl rfl
  · rw [if_neg q]; exact Or.inr rfl
theorem fEnd_Z {g : Rw} {nr ng nb t b : Nat} (hw : WF g nr ng nb t) (hb : b < nb) : (fEnd g b).toInt = zz g (31 + 10 * b + 2) + zz g (31 + 10 * b + 3) := by
  obtain ⟨f, hf, hf2⟩ := hw.first hb
  obtain ⟨q, hq1, hq12, hq2⟩ := hw.hours hb
  have e2 := zz_nI hf2 (by omega)
  have e3 := zz_nI hq2 (by omega)
  exact i32_add rfl rfl (by show _ ≤ zz g _ + zz g _; omega) (by show zz g _ + zz g _ < _; omega)
theorem curP_of {g : Rw} {nr ng nb t r b : Nat} (hw : WF g nr ng nb t) (ht : t ≤ 1000) (hb : b < nb) (hr : g (31 + 10 * b + 0) = nI r) (h1 : zz g (31 + 10 * b + 2) ≤ t) (h2 : (t : Int) < zz g (31 + 10 * b + 2) + zz g (31 + 10 * b + 3)) : curP g r b := by
  have zt : (g 0).toInt = t := zz_nI hw.hr (by omega)
  refine ⟨hr, Int32.le_iff_toInt_le.mpr (by rw [zt]; exact h1), Int32.not_le.mpr (Int32.lt_iff_toInt_lt.mpr ?_)⟩
  rw [zt, fEnd_Z hw hb]
  exact h2
theorem fBeg_Z {r c f nr ng nb : Nat} (hr : r < nr) (hc : c < nb) (hf2 : f < 200) : ∀ (k : Nat) {g : Rw} {t : Nat} (hw : WF g nr ng nb t) (hroom : g (31 + 10 * c + 0) = nI r) (hf : g (31 + 10 * c + 2) = nI f) (ht : t ≤ f) (hk : f < t + k), (t : Int) ≤ (fBeg g nr nb r c k).toInt ∧ (fBeg g nr nb r c k).toInt ≤ f ∧ ((fBeg g nr nb r c k).toInt = t ↔ fHeater g r nb = some c)
  | 0, _, _, _, _, _, _, _ => by omega
  | k + 1, g, t, hw, hroom, hf, ht, hk => by
    have zt : (g 0).toInt = t := zz_nI hw.hr (by omega)
    unfold fBeg
    by_cases q : fHeater g r nb = some c
    · rw [if_pos q, zt]
      exact ⟨Int.le_refl _, by omega, fun _ => q, fun _ => rfl⟩
    · rw [if_neg q]
      have zf := zz_nI hf (by omega)
      obtain ⟨h, hh1, hh12, hh2⟩ := hw.hours hc
      have zh := zz_nI hh2 (by omega)
      have hlt : t < f := by
        rcases Nat.lt_or_ge t f with z | z
        · exact z
        · have : t = f := by omega
          exact absurd (fHeater_cur (hw.cur hc (curP_of hw (by omega) hc hroom (by omega) (by omega)))) q
      have hw2 := hw.hour
      have e : ∀ j, kept0 j → j ≠ 0 → fHour g nr nb j = g j := fun j h1 h2 => fHour_off hw.who hw.nr4 j h1 h2
      obtain ⟨i1, i2, i3⟩ := fBeg_Z hr hc hf2 k hw2 ((e _ (by unfold kept0; omega) (by omega)).trans hroom) ((e _ (by unfold kept0; omega) (by omega)).trans hf) (by omega) (by omega)
      exact ⟨by omega, i2, fun z => by omega, fun z => absurd z q⟩
def ovr (g : Rw) (b : Nat) : Int := (bookV g b 9).toInt
theorem ovr_Z {g : Rw} {nr ng nb t b : Nat} (hw : WF g nr ng nb t) (ht : t ≤ 1000) (hb : b < nb) : (bookV g b 9).toInt64 = lI (ovr g b) ∧ ((zz g (31 + 10 * b + 2) + zz g (31 + 10 * b + 3) ≤ t ∧ ovr g b = 1) ∨ (t < zz g (31 + 10 * b + 2) + zz g (31 + 10 * b + 3) ∧ ovr g b = 0)) := by
  refine ⟨i2l_I _, ?_⟩
  have zt : (g 0).toInt = t := zz_nI hw.hr (by omega)
  unfold ovr bookV
  rw [if_neg (by omega)]
  by_cases q : fEnd g b ≤ g 0
  · rw [if_pos q]
    have := Int32.le_iff_toInt_le.mp q
    rw [fEnd_Z hw hb, zt] at this
    exact Or.inl ⟨this, by decide⟩
  · rw [if_neg q]
    have := Int32.lt_iff_toInt_lt.mp (Int32.not_le.mp q)
    rw [fEnd_Z hw hb, zt] at this
    exact Or.inr ⟨this, by decide⟩
theorem ovl_Z {g : Rw} {nr ng nb t b c : Nat} (hw : WF g nr ng nb t) (hb : b < nb) (hc : c < nb) (hbc : b ≠ c) (he : zz g (31 + 10 * b + 0) = zz g (31 + 10 * c + 0)) : zz g (31 + 10 * b + 2) + zz g (31 + 10 * b + 3) ≤ zz g (31 + 10 * c + 2) ∨ zz g (31 + 10 * c + 2) + zz g (31 + 10 * c + 3) ≤ zz g (31 + 10 * b + 2) := by
  rcases hw.2.2.2.2 b c hb hc hbc (Int32.toInt_inj.mp he) with q | q
  · have := Int32.le_iff_toInt_le.mp q
    rw [fEnd_Z hw hb] at this
    exact Or.inl this
  · have := Int32.le_iff_toInt_le.mp q
    rw [fEnd_Z hw hc] at this
    exact Or.inr this
theorem aboutV_m {g : Rw} {nr ng nb t : Nat} (H : WK g nr ng nb t) (ht : t ≤ 300) : (aboutV g 5).toInt64 = lI (zz g 5) ∧ (aboutV g 6).toInt64 = lI (zz g 6) ∧ (aboutV g 7).toInt64 = lI (zz g 7) ∧ (aboutV g 8).toInt64 = lI (zz g 5 - zz g 6 - zz g 7) ∧ (aboutV g 9).toInt64 = lI (zz g 8) := by
  obtain ⟨t1, t2, t3, t4, t5⟩ := H.2.2.2.2.1
  refine ⟨i2l_I _, i2l_I _, i2l_I _, ?_, i2l_I _⟩
  show (g 5 - g 6 - g 7).toInt64 = _
  rw [i2l_I]
  have e1 : (g 5 - g 6).toInt = zz g 5 - zz g 6 := i32_sub rfl rfl (by show _ ≤ zz g 5 - zz g 6; omega) (by show zz g 5 - zz g 6 < _; omega)
  have e2 : (g 5 - g 6 - g 7).toInt = zz g 5 - zz g 6 - zz g 7 := i32_sub e1 rfl (by show _ ≤ zz g 5 - zz g 6 - zz g 7; omega) (by show zz g 5 - zz g 6 - zz g 7 < _; omega)
  rw [e2]
/-- what a room's three bookings are -/
theorem cur_Z {g : Rw} {nr ng nb t r b : Nat} (hw : WF g nr ng nb t) (ht : t ≤ 300) (h : fCur g r nb = some b) : b < nb ∧ g (31 + 10 * b + 0) = nI r ∧ zz g (31 + 10 * b + 2) ≤ t ∧ (t : Int) < zz g (31 + 10 * b + 2) + zz g (31 + 10 * b + 3) := by
  obtain ⟨h1, h2, h3⟩ := WK.cur hw ht h
  exact ⟨h1, (fCur_spec h).1, h2, h3⟩
theorem nxt_Z {g : Rw} {nr ng nb t r b : Nat} (hw : WF g nr ng nb t) (ht : t ≤ 300) (h : fNxt g r nb = some b) : b < nb ∧ g (31 + 10 * b + 0) = nI r ∧ (t : Int) < zz g (31 + 10 * b + 2) := by
  obtain ⟨h1, h2⟩ := fNxt_spec h
  have zt : (g 0).toInt = t := zz_nI hw.hr (by omega)
  have := Int32.lt_iff_toInt_lt.mp h2
  rw [zt] at this
  exact ⟨fNxt_lt h, h1, this⟩
def bgZ (g : Rw) (b : Nat) : Int := (fBeg g (rn g) (bn g) (cN (g (31 + 10 * b + 0))) b (fLeft g b)).toInt
theorem fLeft_Z {g : Rw} {nr ng nb t b : Nat} (hw : WF g nr ng nb t) (ht : t ≤ 300) (hb : b < nb) (h : (t : Int) < zz g (31 + 10 * b + 2) + zz g (31 + 10 * b + 3)) : (fLeft g b : Int) = zz g (31 + 10 * b + 2) + zz g (31 + 10 * b + 3) - t := by
  obtain ⟨f, hf, hf2⟩ := hw.first hb
  obtain ⟨q, hq1, hq12, hq2⟩ := hw.hours hb
  have e2 := zz_nI hf2 (by omega)
  have e3 := zz_nI hq2 (by omega)
  rw [fLeft, fEnd, hf2, hq2, nI_add, hw.hr, nI_clamp (by omega), nI_clamp (by omega), e2, e3]
  rw [e2, e3] at h
  omega
theorem bg_cur {g : Rw} {ng t r b : Nat} (hr4 : r < 4) (hw : WF g (rn g) ng (bn g) t) (ht : t ≤ 300) (h : fCur g r (bn g) = some b) : bgZ g b = t := by
  obtain ⟨h1, h2, h3, h4⟩ := cur_Z hw ht h
  have hl := fLeft_Z hw ht h1 h4
  have zt : (g 0).toInt = t := zz_nI hw.hr (by omega)
  have hrr : cN (g (31 + 10 * b + 0)) = r := by rw [h2, cN, nI_clamp (by omega)]
  unfold bgZ
  rw [hrr]
  obtain ⟨k, hk⟩ : ∃ k, fLeft g b = k + 1 := ⟨fLeft g b - 1, by omega⟩
  rw [hk]
  unfold fBeg
  rw [if_pos (fHeater_cur h), zt]

theorem bg_nxt {g : Rw} {ng t r b : Nat} (hr : r < rn g) (hw : WF g (rn g) ng (bn g) t) (ht : t ≤ 300) (h : fNxt g r (bn g) = some b) : (t : Int) ≤ bgZ g b ∧ bgZ g b ≤ zz g (31 + 10 * b + 2) ∧ (bgZ g b = t ↔ fHeater g r (bn g) = some b) := by
  obtain ⟨h1, h2, h3⟩ := nxt_Z hw ht h
  have h4 := hw.nr4
  obtain ⟨f, hf, hf2⟩ := hw.first h1
  obtain ⟨q, hq1, hq12, hq2⟩ := hw.hours h1
  have e2 := zz_nI hf2 (by omega)
  have e3 := zz_nI hq2 (by omega)
  have hl := fLeft_Z hw ht h1 (by omega)
  have hrr : cN (g (31 + 10 * b + 0)) = r := by rw [h2, cN, nI_clamp (by omega)]
  unfold bgZ
  rw [hrr, e2]
  exact fBeg_Z hr h1 hf _ hw h2 hf2 (by omega) (by omega)
