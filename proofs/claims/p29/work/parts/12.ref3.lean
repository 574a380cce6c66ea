/-! the reference: copies, and what goes over a whole row -/
/-- two worlds that hold the same -/
def SQ (σ τ : Sg) : Prop := σ.2 = τ.2 ∧ ∀ i j, (∀ k len, cT i = .inr (k, len) → j < len) → σ.1 i j = τ.1 i j
theorem arrV_eq {cI : ClassId} {N : Nat} {f g : Nat → Value} (h : ∀ j, j < N → f j = g j) : arrV cI N f = arrV cI N g := by
  have e : (fun j : Fin N => f j.val) = fun j : Fin N => g j.val := funext fun j => h j.val j.isLt
  unfold arrV
  rw [e]
theorem cE_sq {a0 : Nat} {D : va_G} {cs : Nat → ClassId} {σ τ : Sg} {n : Nat} {H : Heap} (h : SQ σ τ) (hP : va_P D vwCl (wl a0 cs σ n) H) : va_P D vwCl (wl a0 cs τ n) H := by
  intro k q hq
  have hk : k < n := by
    have := (List.getElem?_eq_some_iff.mp hq).1
    rwa [wl_len] at this
  rw [wl_get hk] at hq
  cases hq
  have h0 := hP k _ (wl_get hk)
  obtain ⟨h1, h2⟩ := h
  match hc : cT k with
  | .inl ci =>
    have e : cE a0 cs σ k = cE a0 cs τ k := by
      have e2 : fV a0 σ ci k = fV a0 τ ci k := funext fun j => by
        have e1 : σ.1 k j = τ.1 k j := h2 k j (fun k len e => by rw [hc] at e; cases e)
        simp only [fV, e1, h1]
      rw [cE_o hc, cE_o hc, e2]
    rw [e] at h0
    exact h0
  | .inr (kd, len) =>
    rw [cE_a hc] at h0
    rw [cE_a hc]
    show H[a0 + k]? = some (vp_cell (cs kd) (len, aC a0 τ k kd))
    refine Eq.trans (show H[a0 + k]? = some (vp_cell (cs kd) (len, aC a0 σ k kd)) from h0) ?_
    unfold aC
    by_cases h3 : kd < 2
    · rw [if_pos h3, if_pos h3, vp_cell_i, vp_cell_i]
      refine congrArg some (arrV_eq fun j hj => ?_)
      rw [h2 k j (fun k2 len2 e => by rw [hc] at e; cases e; exact hj)]
    · rw [if_neg h3, if_neg h3, h1]
section AWJ
variable {K : KT} {own : String} {cc : ByteArray} {M : MT} {d mc ms : Nat} {Q : State → Prop} {n : Nat} {z : Option Nat} {σ : Sg} {cells slots pc pc2 : Nat} {ls : List (Option Value)} {st : List Value}
theorem AW.eqw {σ' : Sg} (h : SQ σ σ') (k : AW K own cc M d mc ms Q n z σ' cells slots pc ls st) : AW K own cc M d mc ms Q n z σ cells slots pc ls st := by
  obtain ⟨p, l, e, s, m, args, below, meth, c, D, cs, a0, A0⟩ := K
  intro C H locs la hP hA hS hl
  exact k C H locs la ⟨cE_sq h hP.1, hP.2⟩ hA hS hl
end AWJ
def cp (t f : Rw) (ta fa n : Nat) : Rw := fun j => if ta ≤ j ∧ j < ta + n then f (fa + (j - ta)) else t j
theorem cp_0 {t f : Rw} {ta fa : Nat} : cp t f ta fa 0 = t := funext fun j => if_neg (by omega)
theorem cp_s {t f : Rw} {ta fa n : Nat} : upd (cp t f ta fa n) (ta + n) (f (fa + n)) = cp t f ta fa (n + 1) := funext fun j => by
  unfold upd cp
  by_cases h : j = ta + n
  · subst h; rw [if_pos rfl, if_pos (by omega)]; congr 1; omega
  · rw [if_neg h]
    by_cases h2 : ta ≤ j ∧ j < ta + n
    · rw [if_pos h2, if_pos (by omega)]
    · rw [if_neg h2, if_neg (by omega)]
theorem sA_ne {σ : Sg} {a b j : Nat} {f : Rw} (h : b ≠ a) : (sA σ a f).1 b j = σ.1 b j := if_neg h
def fClean (g : Rw) : Rw := fun j => if j = 4 then 5 else if j < 151 then 0 else g j
def fCl (g : Rw) (k : Nat) : Rw := fun j => if j < k then 0 else g j
theorem fCl_s {g : Rw} {k : Nat} : upd (fCl g k) k 0 = fCl g (k + 1) := funext fun j => by
  unfold upd fCl
  by_cases h : j = k
  · subst h; rw [if_pos rfl, if_pos (by omega)]
  · rw [if_neg h]
    by_cases h2 : j < k
    · rw [if_pos h2, if_pos (by omega)]
    · rw [if_neg h2, if_neg (by omega)]
def tenL : Nat → Int64
  | 0 => 1
  | k + 1 => tenL k * 10
theorem fHour_off {g : Rw} {nr nb : Nat} (hw : WHO g nb) (hnr : nr ≤ 4) (j : Nat) (hj : kept0 j) (h0 : j ≠ 0) : fHour g nr nb j = g j := by
  have hw2 : WHO (fMid g nr nb) nb := fun b hb => by
    obtain ⟨w, h1, h2⟩ := hw b hb
    exact ⟨w, h1, by rw [fMid_off hw hnr _ kept0_who (by omega)]; exact h2⟩
  show fEnds (fMid g nr nb) nb nb j = g j
  rw [fEnds_off hw2 nb (Nat.le_refl _) j hj, fMid_off hw hnr j hj h0]
theorem fHours_off {g : Rw} {nr nb : Nat} (hw : WHO g nb) (hnr : nr ≤ 4) : ∀ (k j : Nat), kept0 j → j ≠ 0 → fHours g nr nb k j = g j
  | 0, _, _, _ => rfl
  | k + 1, j, hj, h0 => by
    have ih := fHours_off hw hnr k
    show fHour (fHours g nr nb k) nr nb j = g j
    rw [fHour_off (fun b hb => by
      obtain ⟨w, h1, h2⟩ := hw b hb
      exact ⟨w, h1, by rw [ih _ kept0_who (by omega)]; exact h2⟩) hnr j hj h0, ih j hj h0]
theorem WHO.hours {g : Rw} {nr nb k : Nat} (hw : WHO g nb) (hnr : nr ≤ 4) : WHO (fHours g nr nb k) nb := fun b hb => by
  obtain ⟨w, h1, h2⟩ := hw b hb
  exact ⟨w, h1, by rw [fHours_off hw hnr k _ kept0_who (by omega)]; exact h2⟩
def fMax (g : Rw) (a : Int32) : Nat → Int32
  | 0 => a
  | k + 1 => if fMax g a k < fEnd g k then fEnd g k else fMax g a k
def fAddRoom (g : Rw) (nr : Nat) (s l p t : Int32) : Rw :=
  let g4 := upd (upd (upd (upd g (9 + 4 * nr + 0) s) (9 + 4 * nr + 1) l) (9 + 4 * nr + 2) p) (9 + 4 * nr + 3) t
  upd g4 1 (g4 1 + 1)
def fZero (g : Rw) (b : Nat) : Nat → Rw
  | 0 => g
  | k + 1 => upd (fZero g b k) (31 + 10 * b + k) 0
def fBookTo (g : Rw) (nb : Nat) (r w f h t : Int32) : Rw :=
  let g5 := upd (upd (upd (upd (upd (fZero g nb 10) (31 + 10 * nb + 0) r) (31 + 10 * nb + 1) w) (31 + 10 * nb + 2) f) (31 + 10 * nb + 3) h) (31 + 10 * nb + 4) t
  upd g5 3 (g5 3 + 1)
theorem fZero_off {g : Rw} {b : Nat} : ∀ (k j : Nat), j < 31 + 10 * b ∨ 31 + 10 * b + k ≤ j → fZero g b k j = g j
  | 0, _, _ => rfl
  | k + 1, j, h => by
    show upd _ _ _ j = _
    rw [upd_n (by omega), fZero_off k j (by omega)]
theorem fZero_in {g : Rw} {b : Nat} : ∀ (k j : Nat), 31 + 10 * b ≤ j → j < 31 + 10 * b + k → fZero g b k j = 0
  | 0, _, _, _ => by omega
  | k + 1, j, h1, h2 => by
    show upd _ _ _ j = _
    by_cases h : j = 31 + 10 * b + k
    · rw [h, upd_s]
    · rw [upd_n h, fZero_in k j h1 (by omega)]
/-- places from a on move down by ten -/
def shF (g : Rw) (a k : Nat) : Rw := fun j => if a ≤ j ∧ j < a + k then g (j + 10) else g j
theorem shF_s {g : Rw} {a k : Nat} : upd (shF g a k) (a + k) (shF g a k (a + k + 10)) = shF g a (k + 1) := funext fun j => by
  unfold upd shF
  by_cases h : j = a + k
  · subst h; rw [if_pos rfl, if_neg (by omega), if_pos (by omega)]
  · rw [if_neg h]
    by_cases h2 : a ≤ j ∧ j < a + k
    · rw [if_pos h2, if_pos (by omega)]
    · rw [if_neg h2, if_neg (by omega)]
def fDrop (g : Rw) (b : Nat) : Rw :=
  let g1 := shF g (31 + 10 * b) (110 - 10 * b)
  upd g1 3 (g1 3 - 1)
