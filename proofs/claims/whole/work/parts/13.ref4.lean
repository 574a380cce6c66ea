/-! the reference: what is asked and done -/
def MS (σ : Sg) : Prop := σ.2.1 388 1 = some 389 ∧ σ.2.1 388 5 = some 390 ∧ σ.2.1 388 6 = some 391 ∧ σ.2.1 388 7 = some 392 ∧ σ.2.1 388 8 = some 393 ∧ σ.2.1 388 10 = some 394 ∧ σ.2.1 388 11 = some 395
theorem MS.script {σ : Sg} (h : MS σ) : σ.2.1 388 1 = some 389 := h.1
theorem MS.read {σ : Sg} (h : MS σ) : σ.2.1 388 5 = some 390 := h.2.1
theorem MS.now {σ : Sg} (h : MS σ) : σ.2.1 388 6 = some 391 := h.2.2.1
theorem MS.trial {σ : Sg} (h : MS σ) : σ.2.1 388 7 = some 392 := h.2.2.2.1
theorem MS.diary {σ : Sg} (h : MS σ) : σ.2.1 388 8 = some 393 := h.2.2.2.2.1
theorem MS.kept {σ : Sg} (h : MS σ) : σ.2.1 388 10 = some 394 := h.2.2.2.2.2.1
theorem MS.isKept {σ : Sg} (h : MS σ) : σ.2.1 388 11 = some 395 := h.2.2.2.2.2.2
theorem lt_of_neq {n K : Nat} (K9 : K < 1000) (h : n ≤ K) (c : ¬ nI n = nI K) : n < K := by
  rcases Nat.lt_or_ge n K with q | q
  · exact q
  · exact absurd (by rw [show n = K by omega]) c
theorem nlt_of_eq {n K : Nat} (hn : n < 1000) (K9 : K < 1000) (c : nI n = nI K) : ¬ n < K := fun h => by
  have := (nI_eq (by omega) (by omega)).mp c
  omega
/-- one of the first n -/
def isN (r : Int32) (n : Nat) : Prop := ∃ k, k < n ∧ r = nI k
theorem isN_le {r : Int32} {n : Nat} (hn : n < 1000) : (0 ≤ r ∧ r ≤ nI n - 1) ↔ isN r n := by
  constructor
  · rintro ⟨h1, h2⟩
    obtain ⟨j, hj, rfl⟩ := nI_of (Int32.not_lt.mpr h1)
    cases n with
    | zero => exact absurd (Int32.le_trans h1 h2) (by decide)
    | succ n =>
      rw [nI_pred] at h2
      exact ⟨j, by have := (nI_leI hj (by omega)).mp h2; omega, rfl⟩
  · rintro ⟨k, hk, rfl⟩
    cases n with
    | zero => omega
    | succ n =>
      rw [nI_pred]
      exact ⟨nI_pos' (by omega), nI_le (by omega) (by omega)⟩
theorem isN_lt {r : Int32} {n : Nat} (hn : n < 1000) : (0 ≤ r ∧ r < nI n) ↔ isN r n := by
  constructor
  · rintro ⟨h1, h2⟩
    obtain ⟨j, hj, rfl⟩ := nI_of (Int32.not_lt.mpr h1)
    exact ⟨j, (nI_ltI hj (by omega)).mp h2, rfl⟩
  · rintro ⟨k, hk, rfl⟩
    exact ⟨nI_pos' (by omega), nI_lt hk (by omega)⟩
theorem Int32.rng {x : Int32} {n : Nat} (hn : n < 1000) (h1 : 0 ≤ x) (h2 : x ≤ nI n) : ∃ k, k ≤ n ∧ x = nI k := by
  obtain ⟨j, hj, rfl⟩ := nI_of (Int32.not_lt.mpr h1)
  exact ⟨j, (nI_leI hj (by omega)).mp h2, rfl⟩
/-! refusals: the first thing that is wrong -/
noncomputable def cd1 (a : Prop) : Int32 := @ite _ a (Classical.propDecidable a) 0 1
noncomputable def cd2 (a b : Prop) : Int32 := @ite _ a (Classical.propDecidable a) (@ite _ b (Classical.propDecidable b) 0 2) 1
noncomputable def cd3 (a b c : Prop) : Int32 := @ite _ a (Classical.propDecidable a) (@ite _ b (Classical.propDecidable b) (@ite _ c (Classical.propDecidable c) 0 3) 2) 1
section CD
variable {a b c : Prop}
theorem cd1_0 (h : a) : 0 = cd1 a := (@if_pos _ (Classical.propDecidable a) h _ _ _).symm
theorem cd1_1 (h : ¬ a) : 1 = cd1 a := (@if_neg _ (Classical.propDecidable a) h _ _ _).symm
theorem cd2_1 (h : ¬ a) : 1 = cd2 a b := (@if_neg _ (Classical.propDecidable a) h _ _ _).symm
theorem cd2_2 (h : a) (h2 : ¬ b) : 2 = cd2 a b := ((@if_pos _ (Classical.propDecidable a) h _ _ _).trans (@if_neg _ (Classical.propDecidable b) h2 _ _ _)).symm
theorem cd2_0 (h : a) (h2 : b) : 0 = cd2 a b := ((@if_pos _ (Classical.propDecidable a) h _ _ _).trans (@if_pos _ (Classical.propDecidable b) h2 _ _ _)).symm
theorem cd3_1 (h : ¬ a) : 1 = cd3 a b c := (@if_neg _ (Classical.propDecidable a) h _ _ _).symm
theorem cd3_2 (h : a) (h2 : ¬ b) : 2 = cd3 a b c := ((@if_pos _ (Classical.propDecidable a) h _ _ _).trans (@if_neg _ (Classical.propDecidable b) h2 _ _ _)).symm
theorem cd3_3 (h : a) (h2 : b) (h3 : ¬ c) : 3 = cd3 a b c := ((@if_pos _ (Classical.propDecidable a) h _ _ _).trans ((@if_pos _ (Classical.propDecidable b) h2 _ _ _).trans (@if_neg _ (Classical.propDecidable c) h3 _ _ _))).symm
theorem cd3_0 (h : a) (h2 : b) (h3 : c) : 0 = cd3 a b c := ((@if_pos _ (Classical.propDecidable a) h _ _ _).trans ((@if_pos _ (Classical.propDecidable b) h2 _ _ _).trans (@if_pos _ (Classical.propDecidable c) h3 _ _ _))).symm
theorem cd1_z (h : ¬ 0 < cd1 a) : a := Classical.byContradiction fun k => h (by rw [← cd1_1 k]; decide)
theorem cd2_z (h : ¬ 0 < cd2 a b) : a ∧ b := by
  have h1 : a := Classical.byContradiction fun k => h (by rw [← cd2_1 k]; decide)
  exact ⟨h1, Classical.byContradiction fun k => h (by rw [← cd2_2 h1 k]; decide)⟩
theorem cd3_z (h : ¬ 0 < cd3 a b c) : a ∧ b ∧ c := by
  have h1 : a := Classical.byContradiction fun k => h (by rw [← cd3_1 k]; decide)
  have h2 : b := Classical.byContradiction fun k => h (by rw [← cd3_2 h1 k]; decide)
  exact ⟨h1, h2, Classical.byContradiction fun k => h (by rw [← cd3_3 h1 h2 k]; decide)⟩
end CD
theorem cd_ne {x : Int32} (h : 0 < x) : ¬ x = 0 := fun e => by rw [e] at h; exact absurd h (by decide)
/-- refused with the code; or the world becomes τ, and the answer is val -/
def eM (σ : Sg) (g : Rw) (code : Int32) (τ : Sg) (val : Int32) : PT := rI fun σ' v => (¬ code = 0 ∧ sA (sI σ 388 0 code) 391 g = σ') ∨ (code = 0 ∧ τ = σ' ∧ val = v)
/-- the same where something was tried out -/
def eX (σ : Sg) (g : Rw) (code : Int32) (val : Int32) : PT := rI fun σ' v => (¬ code = 0 ∧ sA (sI σ 388 0 code) 391 g = σ') ∨ (code = 0 ∧ (∃ X, sA (sA (sI σ 388 0 code) 391 g) 392 X = σ') ∧ val = v)
theorem eM_r {σ : Sg} {g : Rw} {code : Int32} {τ : Sg} {val v : Int32} (h : 0 < code) : eM σ g code τ val (sA (sI σ 388 0 code) 391 g) (some (.int v)) := ⟨_, rfl, Or.inl ⟨cd_ne h, rfl⟩⟩
theorem eX_r {σ : Sg} {g : Rw} {code : Int32} {val v : Int32} (h : 0 < code) : eX σ g code val (sA (sI σ 388 0 code) 391 g) (some (.int v)) := ⟨_, rfl, Or.inl ⟨cd_ne h, rfl⟩⟩
theorem eM_o {σ : Sg} {g : Rw} {code : Int32} {τ : Sg} {val v : Int32} (h : 0 = code) (hv : val = v) : eM σ g code τ val τ (some (.int v)) := ⟨_, rfl, Or.inr ⟨h.symm, rfl, hv⟩⟩
theorem eX_o {σ : Sg} {g X : Rw} {code : Int32} {val v : Int32} (h : 0 = code) (hv : val = v) : eX σ g code val (sA (sA (sI σ 388 0 code) 391 g) 392 X) (some (.int v)) := ⟨_, rfl, Or.inr ⟨h.symm, ⟨X, rfl⟩, hv⟩⟩
theorem sI_sA_ne {σ : Sg} {a b j : Nat} {f : Rw} {v : Int32} (h : b ≠ a) : sI (sA σ a f) b j v = sA (sI σ b j v) a f := by
  refine Prod.ext (funext fun i => funext fun k => ?_) rfl
  by_cases h1 : i = a
  · subst h1
    have h2 : ¬ (i = b ∧ k = j) := fun q => h q.1.symm
    simp [sI, sA, h2]
  · simp [sI, sA, h1]
theorem sA_comm {σ : Sg} {a b : Nat} {f e : Rw} (h : a ≠ b) : sA (sA σ a f) b e = sA (sA σ b e) a f := by
  refine Prod.ext (funext fun i => funext fun k => ?_) rfl
  by_cases h1 : i = a
  · subst h1; simp [sA, h]
  · simp [sA, h1]
theorem Ct.imp {y : MethodName} {cc : ByteArray} {M : MT} {d mc ms n n' : Nat} {z : Bool} {σ : Sg} {av : List Value} {P P' : PT} {X : XT} (h : Ct y cc M d mc ms n z σ av n' P X) (e : P = P') : Ct y cc M d mc ms n z σ av n' P' X := e ▸ h
theorem k_inC (σ : Sg) (v : Int32) (A B : Int64) (a b : Int32) (ha : a.toInt64 = A) (hb : b.toInt64 = B) : Ct yX7_in cX7_in mX7_in 1 0 0 NN false σ [.long v.toInt64, .long A, .long B] NN (eZ1 σ (a ≤ v ∧ v ≤ b)) XF := by
  subst ha; subst hb
  refine (k_in σ v.toInt64 a.toInt64 b.toInt64).imp ?_
  have e : ∀ x y : Int32, (x.toInt64 ≤ y.toInt64) = (x ≤ y) := fun x y => propext (by rw [Int64.le_iff_toInt_le, Int32.le_iff_toInt_le, Int32.toInt_toInt64, Int32.toInt_toInt64])
  rw [e, e]
set_option maxHeartbeats 4000000 in
theorem k_refusedN (σ : Sg) (g : Rw) (code : Int32) : Ct yX7_refused cX7_refused mX7_refused 1 0 0 NN false (sA σ 391 g) [.ref 388, .int code] NN (eZ1 (sA (sI σ 388 0 code) 391 g) (0 < code)) XF := by
  refine ct_of (ls0 := [some (.ref 388), some (.int code)]) 0 (by decide +kernel) rfl rfl (ndR (ndI nd0)) rfl (Nat.le_of_ble_eq_true rfl) (fun K => ?_)
  refine aw_aload0 dX7_refused_0 ?_
  refine aw_iload1 dX7_refused_1 ?_
  refine aw_putI dX7_refused_2 fP_7_36 rfl (by decide) ?_
  refine AW.eqs (sI_sA_ne (by decide)) ?_
  refine aw_iload1 dX7_refused_5 ?_
  refine aw_if_le (tgt := 13) dX7_refused_6 (by decide) (fun c_6 => ?_) (fun c_6 => ?_)
  · refine aw_iconst (v := 0) dX7_refused_13 (by decide) ?_
    exact aw_zret dX7_refused_14 rfl (by decide) (by decide) (eZ_0 (Int32.not_lt.mpr c_6))
  · refine aw_iconst (v := 1) dX7_refused_9 (by decide) ?_
    refine aw_goto (tgt := 14) dX7_refused_10 (by decide) ?_
    exact aw_zret dX7_refused_14 rfl (by decide) (by decide) (eZ_1 (Int32.not_le.mp c_6))

set_option maxHeartbeats 4000000 in
theorem k_isRoom (σ : Sg) (g : Rw) (r : Int32) (c : Nat) (hM : MS σ) (hc : g 1 = nI c) (hn : c < 1000) : Ct yX7_isRoom cX7_isRoom mX7_isRoom 2 0 0 NN false (sA σ 391 g) [.ref 388, .int r] NN (eZ1 (sA σ 391 g) (isN r c)) XF := by
  refine ct_of (ls0 := [some (.ref 388), some (.int r)]) 0 (by decide +kernel) rfl rfl (ndR (ndI nd0)) rfl (Nat.le_of_ble_eq_true rfl) (fun K => ?_)
  refine aw_iload1 dX7_isRoom_0 ?_
  refine aw_i2l dX7_isRoom_1 ?_
  refine aw_lconst (v := 0) dX7_isRoom_2 (by decide) ?_
  refine aw_aload0 dX7_isRoom_3 ?_
  refine aw_getR dX7_isRoom_4 fR_7_16 rfl (by decide) hM.now ?_
  refine aw_iconst (v := 1) dX7_isRoom_7 (by decide) ?_
  refine aw_iald (j := 1) dX7_isRoom_8 rfl (by decide) rfl (by decide) (sA_at.trans hc) ?_
  refine aw_iconst (v := 1) dX7_isRoom_9 (by decide) ?_
  refine aw_isub dX7_isRoom_10 ?_
  refine aw_i2l dX7_isRoom_11 ?_
  refine aw_SI3 (k_inC _ _ _ _ 0 (nI c - 1) rfl rfl) dX7_isRoom_12 sl_7_103 (by decide) (Nat.le_of_ble_eq_true rfl) (fun σ_12 r_12 h_12 => ?_)
  obtain ⟨rfl, h_12⟩ := h_12
  rcases h_12 with ⟨rfl, p_12⟩ | ⟨rfl, p_12⟩
  · exact aw_zret dX7_isRoom_15 rfl (by decide) (by decide) (eZ_1 ((isN_le hn).mp p_12))
  · exact aw_zret dX7_isRoom_15 rfl (by decide) (by decide) (eZ_0 (fun h => p_12 ((isN_le hn).mpr h)))
set_option maxHeartbeats 4000000 in
theorem k_isGroup (σ : Sg) (g : Rw) (r : Int32) (c : Nat) (hM : MS σ) (hc : g 2 = nI c) (hn : c < 1000) : Ct yX7_isGroup cX7_isGroup mX7_isGroup 2 0 0 NN false (sA σ 391 g) [.ref 388, .int r] NN (eZ1 (sA σ 391 g) (isN r c)) XF := by
  refine ct_of (ls0 := [some (.ref 388), some (.int r)]) 0 (by decide +kernel) rfl rfl (ndR (ndI nd0)) rfl (Nat.le_of_ble_eq_true rfl) (fun K => ?_)
  refine aw_iload1 dX7_isGroup_0 ?_
  refine aw_i2l dX7_isGroup_1 ?_
  refine aw_lconst (v := 0) dX7_isGroup_2 (by decide) ?_
  refine aw_aload0 dX7_isGroup_3 ?_
  refine aw_getR dX7_isGroup_4 fR_7_16 rfl (by decide) hM.now ?_
  refine aw_iconst (v := 2) dX7_isGroup_7 (by decide) ?_
  refine aw_iald (j := 2) dX7_isGroup_8 rfl (by decide) rfl (by decide) (sA_at.trans hc) ?_
  refine aw_iconst (v := 1) dX7_isGroup_9 (by decide) ?_
  refine aw_isub dX7_isGroup_10 ?_
  refine aw_i2l dX7_isGroup_11 ?_
  refine aw_SI3 (k_inC _ _ _ _ 0 (nI c - 1) rfl rfl) dX7_isGroup_12 sl_7_103 (by decide) (Nat.le_of_ble_eq_true rfl) (fun σ_12 r_12 h_12 => ?_)
  obtain ⟨rfl, h_12⟩ := h_12
  rcases h_12 with ⟨rfl, p_12⟩ | ⟨rfl, p_12⟩
  · exact aw_zret dX7_isGroup_15 rfl (by decide) (by decide) (eZ_1 ((isN_le hn).mp p_12))
  · exact aw_zret dX7_isGroup_15 rfl (by decide) (by decide) (eZ_0 (fun h => p_12 ((isN_le hn).mpr h)))
set_option maxHeartbeats 4000000 in
theorem k_isBooking (σ : Sg) (g : Rw) (r : Int32) (c : Nat) (hM : MS σ) (hc : g 3 = nI c) (hn : c < 1000) : Ct yX7_isBooking cX7_isBooking mX7_isBooking 2 0 0 NN false (sA σ 391 g) [.ref 388, .int r] NN (eZ1 (sA σ 391 g) (isN r c)) XF := by
  refine ct_of (ls0 := [some (.ref 388), some (.int r)]) 0 (by decide +kernel) rfl rfl (ndR (ndI nd0)) rfl (Nat.le_of_ble_eq_true rfl) (fun K => ?_)
  refine aw_iload1 dX7_isBooking_0 ?_
  refine aw_i2l dX7_isBooking_1 ?_
  refine aw_lconst (v := 0) dX7_isBooking_2 (by decide) ?_
  refine aw_aload0 dX7_isBooking_3 ?_
  refine aw_getR dX7_isBooking_4 fR_7_16 rfl (by decide) hM.now ?_
  refine aw_iconst (v := 3) dX7_isBooking_7 (by decide) ?_
  refine aw_iald (j := 3) dX7_isBooking_8 rfl (by decide) rfl (by decide) (sA_at.trans hc) ?_
  refine aw_iconst (v := 1) dX7_isBooking_9 (by decide) ?_
  refine aw_isub dX7_isBooking_10 ?_
  refine aw_i2l dX7_isBooking_11 ?_
  refine aw_SI3 (k_inC _ _ _ _ 0 (nI c - 1) rfl rfl) dX7_isBooking_12 sl_7_103 (by decide) (Nat.le_of_ble_eq_true rfl) (fun σ_12 r_12 h_12 => ?_)
  obtain ⟨rfl, h_12⟩ := h_12
  rcases h_12 with ⟨rfl, p_12⟩ | ⟨rfl, p_12⟩
  · exact aw_zret dX7_isBooking_15 rfl (by decide) (by decide) (eZ_1 ((isN_le hn).mp p_12))
  · exact aw_zret dX7_isBooking_15 rfl (by decide) (by decide) (eZ_0 (fun h => p_12 ((isN_le hn).mpr h)))
/-- a row that stands for a hall: rooms, groups, bookings; the hour -/
def WF (g : Rw) (nr ng nb t : Nat) : Prop := (g 1 = nI nr ∧ nr ≤ 4 ∧ g 2 = nI ng ∧ ng ≤ 6 ∧ g 3 = nI nb ∧ nb ≤ 12 ∧ g 0 = nI t) ∧
  (∀ r, r < nr → (∃ k, k ≤ 9 ∧ g (9 + 4 * r + 0) = nI k) ∧ ∃ k, k ≤ 9 ∧ g (9 + 4 * r + 2) = nI k) ∧
  (∀ b, b < nb → (∃ r, r < nr ∧ g (31 + 10 * b + 0) = nI r) ∧ (∃ w, w < ng ∧ g (31 + 10 * b + 1) = nI w) ∧ (∃ f, f < 200 ∧ g (31 + 10 * b + 2) = nI f) ∧ (∃ h, 1 ≤ h ∧ h ≤ 12 ∧ g (31 + 10 * b + 3) = nI h)) ∧
  (∀ b, b < nb → (g (31 + 10 * b + 7) = 0 ∨ g (31 + 10 * b + 7) = 1) ∧ (g (31 + 10 * b + 9) = 0 ∨ g (31 + 10 * b + 9) = 1)) ∧
  ∀ b c, b < nb → c < nb → b ≠ c → g (31 + 10 * b + 0) = g (31 + 10 * c + 0) → fEnd g b ≤ g (31 + 10 * c + 2) ∨ fEnd g c ≤ g (31 + 10 * b + 2)
theorem WF.nr {g : Rw} {nr ng nb t : Nat} (h : WF g nr ng nb t) : g 1 = nI nr := h.1.1
theorem WF.nr4 {g : Rw} {nr ng nb t : Nat} (h : WF g nr ng nb t) : nr ≤ 4 := h.1.2.1
theorem WF.ng {g : Rw} {nr ng nb t : Nat} (h : WF g nr ng nb t) : g 2 = nI ng := h.1.2.2.1
theorem WF.ng6 {g : Rw} {nr ng nb t : Nat} (h : WF g nr ng nb t) : ng ≤ 6 := h.1.2.2.2.1
theorem WF.nb {g : Rw} {nr ng nb t : Nat} (h : WF g nr ng nb t) : g 3 = nI nb := h.1.2.2.2.2.1
theorem WF.nb12 {g : Rw} {nr ng nb t : Nat} (h : WF g nr ng nb t) : nb ≤ 12 := h.1.2.2.2.2.2.1
theorem WF.hr {g : Rw} {nr ng nb t : Nat} (h : WF g nr ng nb t) : g 0 = nI t := h.1.2.2.2.2.2.2
theorem WF.who {g : Rw} {nr ng nb t : Nat} (h : WF g nr ng nb t) : WHO g nb := fun b hb => by
  obtain ⟨w, h1, h2⟩ := (h.2.2.1 b hb).2.1
  have := h.ng6
  exact ⟨w, by omega, h2⟩
theorem WF.room {g : Rw} {nr ng nb t : Nat} (h : WF g nr ng nb t) {b : Nat} (hb : b < nb) : ∃ r, r < nr ∧ g (31 + 10 * b + 0) = nI r := (h.2.2.1 b hb).1
theorem WF.grp {g : Rw} {nr ng nb t : Nat} (h : WF g nr ng nb t) {b : Nat} (hb : b < nb) : ∃ w, w < ng ∧ g (31 + 10 * b + 1) = nI w := (h.2.2.1 b hb).2.1
theorem WF.first {g : Rw} {nr ng nb t : Nat} (h : WF g nr ng nb t) {b : Nat} (hb : b < nb) : ∃ f, f < 200 ∧ g (31 + 10 * b + 2) = nI f := (h.2.2.1 b hb).2.2.1
theorem WF.hours {g : Rw} {nr ng nb t : Nat} (h : WF g nr ng nb t) {b : Nat} (hb : b < nb) : ∃ k, 1 ≤ k ∧ k ≤ 12 ∧ g (31 + 10 * b + 3) = nI k := (h.2.2.1 b hb).2.2.2
theorem WF.mark {g : Rw} {nr ng nb t : Nat} (h : WF g nr ng nb t) {b : Nat} (hb : b < nb) : g (31 + 10 * b + 7) = 0 ∨ g (31 + 10 * b + 7) = 1 := (h.2.2.2.1 b hb).1
theorem WF.begun {g : Rw} {nr ng nb t : Nat} (h : WF g nr ng nb t) {b : Nat} (hb : b < nb) : g (31 + 10 * b + 9) = 0 ∨ g (31 + 10 * b + 9) = 1 := (h.2.2.2.1 b hb).2
theorem WF.end {g : Rw} {nr ng nb t : Nat} (h : WF g nr ng nb t) {b : Nat} (hb : b < nb) : ∃ e, e ≤ 211 ∧ fEnd g b = nI e := by
  obtain ⟨f, h1, h2⟩ := h.first hb
  obtain ⟨k, h3, h4, h5⟩ := h.hours hb
  exact ⟨f + k, by omega, by rw [fEnd, h2, h5, nI_add]⟩
/-- the hours from now to where all bookings are over -/
def fH (g : Rw) (nb : Nat) : Nat := (fMax g (g 0) nb - g 0).toNatClampNeg
theorem WF.maxs {g : Rw} {nr ng nb t : Nat} (h : WF g nr ng nb t) (ht : t ≤ 300) : ∀ k, k ≤ nb → ∃ e, t ≤ e ∧ e ≤ 300 ∧ fMax g (g 0) k = nI e
  | 0, _ => ⟨t, Nat.le_refl _, ht, h.hr⟩
  | k + 1, hk => by
    obtain ⟨e, h1, h2, h3⟩ := WF.maxs h ht k (by omega)
    obtain ⟨e2, h4, h5⟩ := h.end (b := k) (by omega)
    unfold fMax
    rw [h3, h5]
    split
    · rename_i q
      have := (nI_ltI (by omega) (by omega)).mp q
      exact ⟨e2, by omega, by omega, rfl⟩
    · exact ⟨e, h1, h2, rfl⟩
theorem WF.fHs {g : Rw} {nr ng nb t : Nat} (h : WF g nr ng nb t) (ht : t ≤ 300) : fH g nb < 2 ^ 31 ∧ fMax g (g 0) nb - g 0 = nI (fH g nb) := by
  obtain ⟨e, h1, h2, h3⟩ := h.maxs ht nb (Nat.le_refl _)
  have e1 : fMax g (g 0) nb - g 0 = nI (e - t) := by rw [h3, h.hr, pk_sub h1]
  have e2 : fH g nb = e - t := by rw [fH, e1, nI_clamp (by omega)]
  rw [e2]
  exact ⟨by omega, e1⟩
set_option maxHeartbeats 4000000 in
theorem k_append (σ : Sg) (g : Rw) (c : Int32) (n : Nat) (hM : MS σ) (hn : σ.1 388 2 = nI n) (hn120 : n ≤ 120) : Ct yX7_append cX7_append mX7_append 3 0 0 NN false (sA σ 391 g) [.ref 388, .int c] NN (eM σ g (cd2 (0 ≤ c ∧ c ≤ 255) (n < 120)) (sI (sI (sA (sI σ 388 0 (cd2 (0 ≤ c ∧ c ≤ 255) (n < 120))) 391 g) 389 n c) 388 2 (nI n + 1)) (nI n + 1)) XF := by
  refine ct_of (ls0 := [some (.ref 388), some (.int c)]) 0 (by decide +kernel) rfl rfl (ndR (ndI nd0)) rfl (Nat.le_of_ble_eq_true rfl) (fun K => ?_)
  refine aw_aload0 dX7_append_0 ?_
  refine AW.tern0 (E := (cd2 (0 ≤ c ∧ c ≤ 255) (n < 120))) (pc2 := 31) (fun x_31 hx_31 => ?_) (fun J_31 => ?_)
  · subst hx_31
    refine aw_VI1 (k_refusedN _ _ _) dX7_append_31 vl_7_110 rfl (by decide) (by decide) (Nat.le_of_ble_eq_true rfl) (fun σ_31 r_31 h_31 => ?_)
    obtain ⟨rfl, h_31⟩ := h_31
    rcases h_31 with ⟨rfl, p_31⟩ | ⟨rfl, p_31⟩
    · refine aw_if_eq (tgt := 39) dX7_append_34 (by decide) (fun c_34 => absurd c_34 (by decide)) (fun _ => ?_)
      refine aw_iconst (v := 0) dX7_append_37 (by decide) ?_
      exact aw_iret dX7_append_38 rfl (by decide) (eM_r p_31)
    · refine aw_if_eq (tgt := 39) dX7_append_34 (by decide) (fun _ => ?_) (fun c_34 => absurd c_34 (by decide))
      have hab := cd2_z p_31
      refine aw_aload0 dX7_append_39 ?_
      refine aw_getR dX7_append_40 fR_7_7 rfl (by decide) hM.script ?_
      refine aw_aload0 dX7_append_43 ?_
      refine aw_getI dX7_append_44 fI_7_107 rfl (by decide) hn ?_
      refine aw_iload1 dX7_append_47 ?_
      refine aw_iast (j := n) dX7_append_48 rfl (by decide) rfl (by omega) ?_
      refine aw_aload0 dX7_append_49 ?_
      refine aw_dup dX7_append_50 rfl ?_
      refine aw_getI dX7_append_51 fI_7_107 rfl (by decide) hn ?_
      refine aw_iconst (v := 1) dX7_append_54 (by decide) ?_
      refine aw_iadd dX7_append_55 ?_
      refine aw_putI dX7_append_56 fP_7_107 rfl (by decide) ?_
      refine aw_aload0 dX7_append_59 ?_
      refine aw_getI dX7_append_60 fI_7_107 rfl (by decide) rfl ?_
      exact aw_iret dX7_append_63 rfl (by decide) (eM_o (cd2_0 hab.1 hab.2) rfl)
  · refine aw_iload1 dX7_append_1 ?_
    refine aw_i2l dX7_append_2 ?_
    refine aw_lconst (v := 0) dX7_append_3 (by decide) ?_
    refine aw_ldc2 dX7_append_4 kl_7_101 ?_
    refine aw_SI3 (k_inC _ _ _ _ 0 255 rfl rfl) dX7_append_7 sl_7_103 (by decide) (Nat.le_of_ble_eq_true rfl) (fun σ_7 r_7 h_7 => ?_)
    obtain ⟨rfl, h_7⟩ := h_7
    rcases h_7 with ⟨rfl, p_7⟩ | ⟨rfl, p_7⟩
    · refine aw_if_ne (tgt := 17) dX7_append_10 (by decide) (fun _ => ?_) (fun c_10 => absurd c_10 (by decide))
      refine aw_aload0 dX7_append_17 ?_
      refine aw_getI dX7_append_18 fI_7_107 rfl (by decide) hn ?_
      refine aw_bipush (v := 120) dX7_append_21 (by decide) ?_
      refine aw_ic_ne (tgt := 30) dX7_append_23 (by decide) (fun c_23 => ?_) (fun c_23 => ?_)
      · refine aw_iconst (v := 0) dX7_append_30 (by decide) ?_
        exact J_31 _ (by first | exact cd2_1 p_7 | exact cd2_2 p_7 (nlt_of_eq (K := 120) (by omega) (by omega) c_23) | exact cd2_0 p_7 (lt_of_neq (K := 120) (by omega) hn120 c_23))
      · refine aw_iconst (v := 2) dX7_append_26 (by decide) ?_
        refine aw_goto (tgt := 31) dX7_append_27 (by decide) ?_
        exact J_31 _ (by first | exact cd2_1 p_7 | exact cd2_2 p_7 (nlt_of_eq (K := 120) (by omega) (by omega) c_23) | exact cd2_0 p_7 (lt_of_neq (K := 120) (by omega) hn120 c_23))
    · refine aw_if_ne (tgt := 17) dX7_append_10 (by decide) (fun c_10 => absurd c_10 (by decide)) (fun _ => ?_)
      refine aw_iconst (v := 1) dX7_append_13 (by decide) ?_
      refine aw_goto (tgt := 31) dX7_append_14 (by decide) ?_
      exact J_31 _ (by first | exact cd2_1 p_7 | exact cd2_2 p_7 (nlt_of_eq (K := 120) (by omega) (by omega) c_23) | exact cd2_0 p_7 (lt_of_neq (K := 120) (by omega) hn120 c_23))
set_option maxHeartbeats 4000000 in
theorem k_clearText (σ : Sg) (g : Rw) (n : Nat) (hM : MS σ) (hn : σ.1 388 2 = nI n) : Ct yX7_clearText cX7_clearText mX7_clearText 1 0 0 NN false (sA σ 391 g) [.ref 388] NN (rI fun σ2 v => sI (sI (sA σ 391 g) 388 0 0) 388 2 0 = σ2 ∧ nI n = v) XF := by
  refine ct_of (ls0 := [some (.ref 388), none]) 1 (by decide +kernel) rfl rfl (ndR nd0) rfl (Nat.le_of_ble_eq_true rfl) (fun K => ?_)
  refine aw_aload0 dX7_clearText_0 ?_
  refine aw_iconst (v := 0) dX7_clearText_1 (by decide) ?_
  refine aw_putI dX7_clearText_2 fP_7_36 rfl (by decide) ?_
  refine aw_aload0 dX7_clearText_5 ?_
  refine aw_getI dX7_clearText_6 fI_7_107 rfl (by decide) hn ?_
  refine aw_istore1 dX7_clearText_9 (by decide) rfl ?_
  refine aw_aload0 dX7_clearText_10 ?_
  refine aw_iconst (v := 0) dX7_clearText_11 (by decide) ?_
  refine aw_putI dX7_clearText_12 fP_7_107 rfl (by decide) ?_
  refine aw_iload1 dX7_clearText_15 ?_
  exact aw_iret dX7_clearText_16 rfl (by decide) ⟨_, rfl, rfl, rfl⟩
def aboutV (g : Rw) (k : Nat) : Int32 := if k < 8 then g k else if k = 8 then g 5 - g 6 - g 7 else g 8
def roomV (g : Rw) (nb r k : Nat) : Int32 := if k < 4 then g (9 + 4 * r + k) else if k = 4 then oI (fCur g r nb) else if k = 5 then oI (fNxt g r nb) else oI (fHeater g r nb)
def bookV (g : Rw) (b k : Nat) : Int32 := if k < 9 then g (31 + 10 * b + k) else if fEnd g b ≤ g 0 then 1 else 0
abbrev cN (x : Int32) : Nat := x.toNatClampNeg
set_option maxHeartbeats 4000000 in
theorem k_about (σ : Sg) (g : Rw) (nr ng nb t : Nat) (what : Int32) (hM : MS σ) : Ct yX7_about cX7_about mX7_about 3 0 0 NN false (sA σ 391 g) [.ref 388, .int what] NN (eM σ g (cd1 (0 ≤ what ∧ what ≤ 9)) (sA (sI σ 388 0 (cd1 (0 ≤ what ∧ what ≤ 9))) 391 g) (aboutV g (cN what))) XF := by
  refine ct_of (ls0 := [some (.ref 388), some (.int what)]) 0 (by decide +kernel) rfl rfl (ndR (ndI nd0)) rfl (Nat.le_of_ble_eq_true rfl) (fun K => ?_)
  refine aw_aload0 dX7_about_0 ?_
  refine AW.tern0 (E := (cd1 (0 ≤ what ∧ what ≤ 9))) (pc2 := 18) (fun x_18 hx_18 => ?_) (fun J_18 => ?_)
  · subst hx_18
    refine aw_VI1 (k_refusedN _ _ _) dX7_about_18 vl_7_110 rfl (by decide) (by decide) (Nat.le_of_ble_eq_true rfl) (fun σ_18 r_18 h_18 => ?_)
    obtain ⟨rfl, h_18⟩ := h_18
    rcases h_18 with ⟨rfl, p_18⟩ | ⟨rfl, p_18⟩
    · refine aw_if_eq (tgt := 26) dX7_about_21 (by decide) (fun c_21 => absurd c_21 (by decide)) (fun _ => ?_)
      refine aw_iconst (v := 0) dX7_about_24 (by decide) ?_
      exact aw_iret dX7_about_25 rfl (by decide) (eM_r p_18)
    · refine aw_if_eq (tgt := 26) dX7_about_21 (by decide) (fun _ => ?_) (fun c_21 => absurd c_21 (by decide))
      have hab := cd1_z p_18
      obtain ⟨k, hk, rfl⟩ := Int32.rng (n := 9) (by omega) hab.1 hab.2
      rw [cN, nI_clamp (by omega)]
      refine aw_iload1 dX7_about_26 ?_
      refine aw_bipush (v := 8) dX7_about_27 (by decide) ?_
      refine aw_ic_ge (tgt := 41) dX7_about_29 (by decide) (fun c_29 => ?_) (fun c_29 => ?_)
      · refine aw_iload1 dX7_about_41 ?_
        refine aw_bipush (v := 8) dX7_about_42 (by decide) ?_
        refine aw_ic_ne (tgt := 72) dX7_about_44 (by decide) (fun c_44 => ?_) (fun c_44 => ?_)
        · refine aw_aload0 dX7_about_72 ?_
          refine aw_getR dX7_about_73 fR_7_16 rfl (by decide) hM.now ?_
          refine aw_bipush (v := 8) dX7_about_76 (by decide) ?_
          refine aw_iald (j := 8) dX7_about_78 rfl (by decide) rfl (by decide) sA_at ?_
          exact aw_iret dX7_about_79 rfl (by decide) (eM_o (cd1_0 hab) (by
            first
              | exact if_pos ((nI_ltI (b := 8) (by omega) (by omega)).mp (Int32.not_le.mp c_29))
              | (have h8 := (nI_eq (b := 8) (by omega) (by omega)).mp c_44
                 subst h8; rfl)
              | (have h8 : k = 9 := by
                   have h1 : ¬ k = 8 := fun h => c_44 ((nI_eq (b := 8) (by omega) (by omega)).mpr h)
                   have h2 := (nI_leI (a := 8) (by omega) (by omega)).mp c_29
                   omega
                 subst h8; rfl)))
        · refine aw_aload0 dX7_about_47 ?_
          refine aw_getR dX7_about_48 fR_7_16 rfl (by decide) hM.now ?_
          refine aw_iconst (v := 5) dX7_about_51 (by decide) ?_
          refine aw_iald (j := 5) dX7_about_52 rfl (by decide) rfl (by decide) sA_at ?_
          refine aw_aload0 dX7_about_53 ?_
          refine aw_getR dX7_about_54 fR_7_16 rfl (by decide) hM.now ?_
          refine aw_bipush (v := 6) dX7_about_57 (by decide) ?_
          refine aw_iald (j := 6) dX7_about_59 rfl (by decide) rfl (by decide) sA_at ?_
          refine aw_isub dX7_about_60 ?_
          refine aw_aload0 dX7_about_61 ?_
          refine aw_getR dX7_about_62 fR_7_16 rfl (by decide) hM.now ?_
          refine aw_bipush (v := 7) dX7_about_65 (by decide) ?_
          refine aw_iald (j := 7) dX7_about_67 rfl (by decide) rfl (by decide) sA_at ?_
          refine aw_isub dX7_about_68 ?_
          refine aw_goto (tgt := 79) dX7_about_69 (by decide) ?_
          exact aw_iret dX7_about_79 rfl (by decide) (eM_o (cd1_0 hab) (by
            first
              | exact if_pos ((nI_ltI (b := 8) (by omega) (by omega)).mp (Int32.not_le.mp c_29))
              | (have h8 := (nI_eq (b := 8) (by omega) (by omega)).mp c_44
                 subst h8; rfl)
              | (have h8 : k = 9 := by
                   have h1 : ¬ k = 8 := fun h => c_44 ((nI_eq (b := 8) (by omega) (by omega)).mpr h)
                   have h2 := (nI_leI (a := 8) (by omega) (by omega)).mp c_29
                   omega
                 subst h8; rfl)))
      · refine aw_aload0 dX7_about_32 ?_
        refine aw_getR dX7_about_33 fR_7_16 rfl (by decide) hM.now ?_
        refine aw_iload1 dX7_about_36 ?_
        refine aw_iald dX7_about_37 rfl (by decide) rfl (by omega) sA_at ?_
        refine aw_goto (tgt := 79) dX7_about_38 (by decide) ?_
        exact aw_iret dX7_about_79 rfl (by decide) (eM_o (cd1_0 hab) (by
          first
            | exact if_pos ((nI_ltI (b := 8) (by omega) (by omega)).mp (Int32.not_le.mp c_29))
            | (have h8 := (nI_eq (b := 8) (by omega) (by omega)).mp c_44
               subst h8; rfl)
            | (have h8 : k = 9 := by
                 have h1 : ¬ k = 8 := fun h => c_44 ((nI_eq (b := 8) (by omega) (by omega)).mpr h)
                 have h2 := (nI_leI (a := 8) (by omega) (by omega)).mp c_29
                 omega
               subst h8; rfl)))
  · refine aw_iload1 dX7_about_1 ?_
    refine aw_i2l dX7_about_2 ?_
    refine aw_lconst (v := 0) dX7_about_3 (by decide) ?_
    refine aw_ldc2 dX7_about_4 kl_7_121 ?_
    refine aw_SI3 (k_inC _ _ _ _ 0 9 rfl rfl) dX7_about_7 sl_7_103 (by decide) (Nat.le_of_ble_eq_true rfl) (fun σ_7 r_7 h_7 => ?_)
    obtain ⟨rfl, h_7⟩ := h_7
    rcases h_7 with ⟨rfl, p_7⟩ | ⟨rfl, p_7⟩
    · refine aw_if_eq (tgt := 17) dX7_about_10 (by decide) (fun c_10 => absurd c_10 (by decide)) (fun _ => ?_)
      refine aw_iconst (v := 0) dX7_about_13 (by decide) ?_
      refine aw_goto (tgt := 18) dX7_about_14 (by decide) ?_
      exact J_18 _ (by first | exact cd1_0 p_7 | exact cd1_1 p_7)
    · refine aw_if_eq (tgt := 17) dX7_about_10 (by decide) (fun _ => ?_) (fun c_10 => absurd c_10 (by decide))
      refine aw_iconst (v := 1) dX7_about_17 (by decide) ?_
      exact J_18 _ (by first | exact cd1_0 p_7 | exact cd1_1 p_7)
set_option maxHeartbeats 4000000 in
theorem k_owes (σ : Sg) (g : Rw) (nr ng nb t : Nat) (w : Int32) (hM : MS σ) (hw : WF g nr ng nb t) : Ct yX7_owes cX7_owes mX7_owes 3 0 0 NN false (sA σ 391 g) [.ref 388, .int w] NN (eM σ g (cd1 (isN w ng)) (sA (sI σ 388 0 (cd1 (isN w ng))) 391 g) (g (25 + cN w))) XF := by
  refine ct_of (ls0 := [some (.ref 388), some (.int w)]) 0 (by decide +kernel) rfl rfl (ndR (ndI nd0)) rfl (Nat.le_of_ble_eq_true rfl) (fun K => ?_)
  refine aw_aload0 dX7_owes_0 ?_
  refine AW.tern0 (E := (cd1 (isN w ng))) (pc2 := 14) (fun x_14 hx_14 => ?_) (fun J_14 => ?_)
  · subst hx_14
    refine aw_VI1 (k_refusedN _ _ _) dX7_owes_14 vl_7_110 rfl (by decide) (by decide) (Nat.le_of_ble_eq_true rfl) (fun σ_14 r_14 h_14 => ?_)
    obtain ⟨rfl, h_14⟩ := h_14
    rcases h_14 with ⟨rfl, p_14⟩ | ⟨rfl, p_14⟩
    · refine aw_if_eq (tgt := 24) dX7_owes_17 (by decide) (fun c_17 => absurd c_17 (by decide)) (fun _ => ?_)
      refine aw_iconst (v := 0) dX7_owes_20 (by decide) ?_
      refine aw_goto (tgt := 33) dX7_owes_21 (by decide) ?_
      exact aw_iret dX7_owes_33 rfl (by decide) (eM_r p_14)
    · refine aw_if_eq (tgt := 24) dX7_owes_17 (by decide) (fun _ => ?_) (fun c_17 => absurd c_17 (by decide))
      obtain ⟨k, hk, rfl⟩ := cd1_z p_14
      have hng6 := hw.ng6
      rw [cN, nI_clamp (by omega)]
      refine aw_aload0 dX7_owes_24 ?_
      refine aw_getR dX7_owes_25 fR_7_16 rfl (by decide) hM.now ?_
      refine aw_bipush (v := 25) dX7_owes_28 (by decide) ?_
      refine aw_iload1 dX7_owes_30 ?_
      refine aw_iadd dX7_owes_31 ?_
      refine aw_iald (j := 25 + k) dX7_owes_32 rfl (by decide) (nI_add 25 k) (by omega) sA_at ?_
      exact aw_iret dX7_owes_33 rfl (by decide) (eM_o (cd1_0 ⟨k, hk, rfl⟩) rfl)
  · refine aw_aload0 dX7_owes_1 ?_
    refine aw_iload1 dX7_owes_2 ?_
    refine aw_VI1 (k_isGroup _ _ _ _ hM hw.ng (by have := hw.ng6; omega)) dX7_owes_3 vl_7_162 rfl (by decide) (by decide) (Nat.le_of_ble_eq_true rfl) (fun σ_3 r_3 h_3 => ?_)
    obtain ⟨rfl, h_3⟩ := h_3
    rcases h_3 with ⟨rfl, p_3⟩ | ⟨rfl, p_3⟩
    · refine aw_if_eq (tgt := 13) dX7_owes_6 (by decide) (fun c_6 => absurd c_6 (by decide)) (fun _ => ?_)
      refine aw_iconst (v := 0) dX7_owes_9 (by decide) ?_
      refine aw_goto (tgt := 14) dX7_owes_10 (by decide) ?_
      exact J_14 _ (by first | exact cd1_0 p_3 | exact cd1_1 p_3)
    · refine aw_if_eq (tgt := 13) dX7_owes_6 (by decide) (fun _ => ?_) (fun c_6 => absurd c_6 (by decide))
      refine aw_iconst (v := 1) dX7_owes_13 (by decide) ?_
      exact J_14 _ (by first | exact cd1_0 p_3 | exact cd1_1 p_3)
set_option maxHeartbeats 4000000 in
theorem k_room (σ : Sg) (g : Rw) (nr ng nb t : Nat) (r what : Int32) (hM : MS σ) (hw : WF g nr ng nb t) : Ct yX7_room cX7_room mX7_room 6 0 0 NN false (sA σ 391 g) [.ref 388, .int r, .int what] NN (eM σ g (cd2 (isN r nr) (0 ≤ what ∧ what ≤ 6)) (sA (sI σ 388 0 (cd2 (isN r nr) (0 ≤ what ∧ what ≤ 6))) 391 g) (roomV g nb (cN r) (cN what))) XF := by
  refine ct_of (ls0 := [some (.ref 388), some (.int r), some (.int what)]) 0 (by decide +kernel) rfl rfl (ndR (ndI (ndI nd0))) rfl (Nat.le_of_ble_eq_true rfl) (fun K => ?_)
  refine aw_aload0 dX7_room_0 ?_
  refine AW.tern0 (E := (cd2 (isN r nr) (0 ≤ what ∧ what ≤ 6))) (pc2 := 30) (fun x_30 hx_30 => ?_) (fun J_30 => ?_)
  · subst hx_30
    refine aw_VI1 (k_refusedN _ _ _) dX7_room_30 vl_7_110 rfl (by decide) (by decide) (Nat.le_of_ble_eq_true rfl) (fun σ_30 r_30 h_30 => ?_)
    obtain ⟨rfl, h_30⟩ := h_30
    rcases h_30 with ⟨rfl, p_30⟩ | ⟨rfl, p_30⟩
    · refine aw_if_eq (tgt := 38) dX7_room_33 (by decide) (fun c_33 => absurd c_33 (by decide)) (fun _ => ?_)
      refine aw_iconst (v := 0) dX7_room_36 (by decide) ?_
      exact aw_iret dX7_room_37 rfl (by decide) (eM_r p_30)
    · refine aw_if_eq (tgt := 38) dX7_room_33 (by decide) (fun _ => ?_) (fun c_33 => absurd c_33 (by decide))
      obtain ⟨⟨ri, hri, rfl⟩, hb0⟩ := cd2_z p_30
      obtain ⟨k, hk, rfl⟩ := Int32.rng (n := 6) (by omega) hb0.1 hb0.2
      have hnr4 := hw.nr4
      rw [cN, nI_clamp (by omega), cN, nI_clamp (by omega)]
      refine aw_iload2 dX7_room_38 ?_
      refine aw_iconst (v := 4) dX7_room_39 (by decide) ?_
      refine aw_ic_ge (tgt := 56) dX7_room_40 (by decide) (fun c_40 => ?_) (fun c_40 => ?_)
      · refine aw_iload2 dX7_room_56 ?_
        refine aw_iconst (v := 4) dX7_room_57 (by decide) ?_
        refine aw_ic_ne (tgt := 72) dX7_room_58 (by decide) (fun c_58 => ?_) (fun c_58 => ?_)
        · refine aw_iload2 dX7_room_72 ?_
          refine aw_iconst (v := 5) dX7_room_73 (by decide) ?_
          refine aw_ic_ne (tgt := 88) dX7_room_74 (by decide) (fun c_74 => ?_) (fun c_74 => ?_)
          · refine aw_aload0 dX7_room_88 ?_
            refine aw_getR dX7_room_89 fR_7_16 rfl (by decide) hM.now ?_
            refine aw_iload1 dX7_room_92 ?_
            refine aw_SI2 (k_heaterOf _ 391 _ _ _ rfl (by decide) hw.nb hw.nb12 (by have := hw.nr4; omega)) dX7_room_93 sl_7_77 (by decide) (Nat.le_of_ble_eq_true rfl) (fun σ_93 r_93 h_93 => ?_)
            obtain ⟨rfl, rfl⟩ := h_93
            exact aw_iret dX7_room_96 rfl (by decide) (eM_o (cd2_0 ⟨ri, hri, rfl⟩ hb0) (by
              first
                | exact if_pos ((nI_ltI (b := 4) (by omega) (by omega)).mp (Int32.not_le.mp c_40))
                | (have h8 := (nI_eq (b := 4) (by omega) (by omega)).mp c_58
                   subst h8; rfl)
                | (have h8 := (nI_eq (b := 5) (by omega) (by omega)).mp c_74
                   subst h8; rfl)
                | (have h8 : k = 6 := by
                     have h1 : ¬ k = 4 := fun h => c_58 ((nI_eq (b := 4) (by omega) (by omega)).mpr h)
                     have h2 : ¬ k = 5 := fun h => c_74 ((nI_eq (b := 5) (by omega) (by omega)).mpr h)
                     have h3 := (nI_leI (a := 4) (by omega) (by omega)).mp c_40
                     omega
                   subst h8; rfl)))
          · refine aw_aload0 dX7_room_77 ?_
            refine aw_getR dX7_room_78 fR_7_16 rfl (by decide) hM.now ?_
            refine aw_iload1 dX7_room_81 ?_
            refine aw_SI2 (k_nextOf _ 391 _ _ _ rfl (by decide) hw.nb hw.nb12) dX7_room_82 sl_7_70 (by decide) (Nat.le_of_ble_eq_true rfl) (fun σ_82 r_82 h_82 => ?_)
            obtain ⟨rfl, rfl⟩ := h_82
            refine aw_goto (tgt := 96) dX7_room_85 (by decide) ?_
            exact aw_iret dX7_room_96 rfl (by decide) (eM_o (cd2_0 ⟨ri, hri, rfl⟩ hb0) (by
              first
                | exact if_pos ((nI_ltI (b := 4) (by omega) (by omega)).mp (Int32.not_le.mp c_40))
                | (have h8 := (nI_eq (b := 4) (by omega) (by omega)).mp c_58
                   subst h8; rfl)
                | (have h8 := (nI_eq (b := 5) (by omega) (by omega)).mp c_74
                   subst h8; rfl)
                | (have h8 : k = 6 := by
                     have h1 : ¬ k = 4 := fun h => c_58 ((nI_eq (b := 4) (by omega) (by omega)).mpr h)
                     have h2 : ¬ k = 5 := fun h => c_74 ((nI_eq (b := 5) (by omega) (by omega)).mpr h)
                     have h3 := (nI_leI (a := 4) (by omega) (by omega)).mp c_40
                     omega
                   subst h8; rfl)))
        · refine aw_aload0 dX7_room_61 ?_
          refine aw_getR dX7_room_62 fR_7_16 rfl (by decide) hM.now ?_
          refine aw_iload1 dX7_room_65 ?_
          refine aw_SI2 (k_currentOf _ 391 _ _ _ rfl (by decide) hw.nb hw.nb12) dX7_room_66 sl_7_67 (by decide) (Nat.le_of_ble_eq_true rfl) (fun σ_66 r_66 h_66 => ?_)
          obtain ⟨rfl, rfl⟩ := h_66
          refine aw_goto (tgt := 96) dX7_room_69 (by decide) ?_
          exact aw_iret dX7_room_96 rfl (by decide) (eM_o (cd2_0 ⟨ri, hri, rfl⟩ hb0) (by
            first
              | exact if_pos ((nI_ltI (b := 4) (by omega) (by omega)).mp (Int32.not_le.mp c_40))
              | (have h8 := (nI_eq (b := 4) (by omega) (by omega)).mp c_58
                 subst h8; rfl)
              | (have h8 := (nI_eq (b := 5) (by omega) (by omega)).mp c_74
                 subst h8; rfl)
              | (have h8 : k = 6 := by
                   have h1 : ¬ k = 4 := fun h => c_58 ((nI_eq (b := 4) (by omega) (by omega)).mpr h)
                   have h2 : ¬ k = 5 := fun h => c_74 ((nI_eq (b := 5) (by omega) (by omega)).mpr h)
                   have h3 := (nI_leI (a := 4) (by omega) (by omega)).mp c_40
                   omega
                 subst h8; rfl)))
      · have hk4 := (nI_ltI (b := 4) (by omega) (by omega)).mp (Int32.not_le.mp c_40)
        refine aw_aload0 dX7_room_43 ?_
        refine aw_getR dX7_room_44 fR_7_16 rfl (by decide) hM.now ?_
        refine aw_iload1 dX7_room_47 ?_
        refine aw_iload2 dX7_room_48 ?_
        refine aw_SI2 (k_roomAt _ _ _) dX7_room_49 sl_7_61 (by decide) (Nat.le_of_ble_eq_true rfl) (fun σ_49 r_49 h_49 => ?_)
        obtain ⟨rfl, rfl⟩ := h_49
        refine aw_iald dX7_room_52 rfl (by decide) rfl (by omega) sA_at ?_
        refine aw_goto (tgt := 96) dX7_room_53 (by decide) ?_
        exact aw_iret dX7_room_96 rfl (by decide) (eM_o (cd2_0 ⟨ri, hri, rfl⟩ hb0) (by
          first
            | exact if_pos ((nI_ltI (b := 4) (by omega) (by omega)).mp (Int32.not_le.mp c_40))
            | (have h8 := (nI_eq (b := 4) (by omega) (by omega)).mp c_58
               subst h8; rfl)
            | (have h8 := (nI_eq (b := 5) (by omega) (by omega)).mp c_74
               subst h8; rfl)
            | (have h8 : k = 6 := by
                 have h1 : ¬ k = 4 := fun h => c_58 ((nI_eq (b := 4) (by omega) (by omega)).mpr h)
                 have h2 : ¬ k = 5 := fun h => c_74 ((nI_eq (b := 5) (by omega) (by omega)).mpr h)
                 have h3 := (nI_leI (a := 4) (by omega) (by omega)).mp c_40
                 omega
               subst h8; rfl)))
  · refine aw_aload0 dX7_room_1 ?_
    refine aw_iload1 dX7_room_2 ?_
    refine aw_VI1 (k_isRoom _ _ _ _ hM hw.nr (by have := hw.nr4; omega)) dX7_room_3 vl_7_157 rfl (by decide) (by decide) (Nat.le_of_ble_eq_true rfl) (fun σ_3 r_3 h_3 => ?_)
    obtain ⟨rfl, h_3⟩ := h_3
    rcases h_3 with ⟨rfl, p_3⟩ | ⟨rfl, p_3⟩
    · refine aw_if_ne (tgt := 13) dX7_room_6 (by decide) (fun _ => ?_) (fun c_6 => absurd c_6 (by decide))
      refine aw_iload2 dX7_room_13 ?_
      refine aw_i2l dX7_room_14 ?_
      refine aw_lconst (v := 0) dX7_room_15 (by decide) ?_
      refine aw_ldc2 dX7_room_16 kl_7_160 ?_
      refine aw_SI3 (k_inC _ _ _ _ 0 6 rfl rfl) dX7_room_19 sl_7_103 (by decide) (Nat.le_of_ble_eq_true rfl) (fun σ_19 r_19 h_19 => ?_)
      obtain ⟨rfl, h_19⟩ := h_19
      rcases h_19 with ⟨rfl, p_19⟩ | ⟨rfl, p_19⟩
      · refine aw_if_eq (tgt := 29) dX7_room_22 (by decide) (fun c_22 => absurd c_22 (by decide)) (fun _ => ?_)
        refine aw_iconst (v := 0) dX7_room_25 (by decide) ?_
        refine aw_goto (tgt := 30) dX7_room_26 (by decide) ?_
        exact J_30 _ (by first | exact cd2_1 p_3 | exact cd2_2 p_3 p_19 | exact cd2_0 p_3 p_19)
      · refine aw_if_eq (tgt := 29) dX7_room_22 (by decide) (fun _ => ?_) (fun c_22 => absurd c_22 (by decide))
        refine aw_iconst (v := 2) dX7_room_29 (by decide) ?_
        exact J_30 _ (by first | exact cd2_1 p_3 | exact cd2_2 p_3 p_19 | exact cd2_0 p_3 p_19)
    · refine aw_if_ne (tgt := 13) dX7_room_6 (by decide) (fun c_6 => absurd c_6 (by decide)) (fun _ => ?_)
      refine aw_iconst (v := 1) dX7_room_9 (by decide) ?_
      refine aw_goto (tgt := 30) dX7_room_10 (by decide) ?_
      exact J_30 _ (by first | exact cd2_1 p_3 | exact cd2_2 p_3 p_19 | exact cd2_0 p_3 p_19)
set_option maxHeartbeats 4000000 in
theorem k_booking (σ : Sg) (g : Rw) (nr ng nb t : Nat) (b what : Int32) (hM : MS σ) (hw : WF g nr ng nb t) : Ct yX7_booking cX7_booking mX7_booking 6 0 0 NN false (sA σ 391 g) [.ref 388, .int b, .int what] NN (eM σ g (cd2 (isN b nb) (0 ≤ what ∧ what ≤ 9)) (sA (sI σ 388 0 (cd2 (isN b nb) (0 ≤ what ∧ what ≤ 9))) 391 g) (bookV g (cN b) (cN what))) XF := by
  refine ct_of (ls0 := [some (.ref 388), some (.int b), some (.int what)]) 0 (by decide +kernel) rfl rfl (ndR (ndI (ndI nd0))) rfl (Nat.le_of_ble_eq_true rfl) (fun K => ?_)
  refine aw_aload0 dX7_booking_0 ?_
  refine AW.tern0 (E := (cd2 (isN b nb) (0 ≤ what ∧ what ≤ 9))) (pc2 := 30) (fun x_30 hx_30 => ?_) (fun J_30 => ?_)
  · subst hx_30
    refine aw_VI1 (k_refusedN _ _ _) dX7_booking_30 vl_7_110 rfl (by decide) (by decide) (Nat.le_of_ble_eq_true rfl) (fun σ_30 r_30 h_30 => ?_)
    obtain ⟨rfl, h_30⟩ := h_30
    rcases h_30 with ⟨rfl, p_30⟩ | ⟨rfl, p_30⟩
    · refine aw_if_eq (tgt := 38) dX7_booking_33 (by decide) (fun c_33 => absurd c_33 (by decide)) (fun _ => ?_)
      refine aw_iconst (v := 0) dX7_booking_36 (by decide) ?_
      exact aw_iret dX7_booking_37 rfl (by decide) (eM_r p_30)
    · refine aw_if_eq (tgt := 38) dX7_booking_33 (by decide) (fun _ => ?_) (fun c_33 => absurd c_33 (by decide))
      obtain ⟨⟨bi, hbi, rfl⟩, hb0⟩ := cd2_z p_30
      obtain ⟨k, hk, rfl⟩ := Int32.rng (n := 9) (by omega) hb0.1 hb0.2
      have hnb12 := hw.nb12
      rw [cN, nI_clamp (by omega), cN, nI_clamp (by omega)]
      refine aw_iload2 dX7_booking_38 ?_
      refine aw_bipush (v := 9) dX7_booking_39 (by decide) ?_
      refine aw_ic_ge (tgt := 57) dX7_booking_41 (by decide) (fun c_41 => ?_) (fun c_41 => ?_)
      · refine aw_aload0 dX7_booking_57 ?_
        refine aw_getR dX7_booking_58 fR_7_16 rfl (by decide) hM.now ?_
        refine aw_iload1 dX7_booking_61 ?_
        refine aw_SI2 (k_isOver _ 391 _ _ rfl (by decide) (by have := hw.nb12; omega)) dX7_booking_62 sl_7_57 (by decide) (Nat.le_of_ble_eq_true rfl) (fun σ_62 r_62 h_62 => ?_)
        obtain ⟨rfl, h_62⟩ := h_62
        rcases h_62 with ⟨rfl, p_62⟩ | ⟨rfl, p_62⟩
        · refine aw_if_eq (tgt := 72) dX7_booking_65 (by decide) (fun c_65 => absurd c_65 (by decide)) (fun _ => ?_)
          refine aw_iconst (v := 1) dX7_booking_68 (by decide) ?_
          refine aw_goto (tgt := 73) dX7_booking_69 (by decide) ?_
          exact aw_iret dX7_booking_73 rfl (by decide) (eM_o (cd2_0 ⟨bi, hbi, rfl⟩ hb0) (by
            first
              | exact if_pos ((nI_ltI (b := 9) (by omega) (by omega)).mp (Int32.not_le.mp c_41))
              | (have h8 : k = 9 := by
                   have h3 := (nI_leI (a := 9) (by omega) (by omega)).mp c_41
                   omega
                 subst h8
                 first
                   | exact if_pos p_62
                   | exact if_neg p_62)))
        · refine aw_if_eq (tgt := 72) dX7_booking_65 (by decide) (fun _ => ?_) (fun c_65 => absurd c_65 (by decide))
          refine aw_iconst (v := 0) dX7_booking_72 (by decide) ?_
          exact aw_iret dX7_booking_73 rfl (by decide) (eM_o (cd2_0 ⟨bi, hbi, rfl⟩ hb0) (by
            first
              | exact if_pos ((nI_ltI (b := 9) (by omega) (by omega)).mp (Int32.not_le.mp c_41))
              | (have h8 : k = 9 := by
                   have h3 := (nI_leI (a := 9) (by omega) (by omega)).mp c_41
                   omega
                 subst h8
                 first
                   | exact if_pos p_62
                   | exact if_neg p_62)))
      · have hk9 := (nI_ltI (b := 9) (by omega) (by omega)).mp (Int32.not_le.mp c_41)
        refine aw_aload0 dX7_booking_44 ?_
        refine aw_getR dX7_booking_45 fR_7_16 rfl (by decide) hM.now ?_
        refine aw_iload1 dX7_booking_48 ?_
        refine aw_iload2 dX7_booking_49 ?_
        refine aw_SI2 (k_bookAt _ _ _) dX7_booking_50 sl_7_49 (by decide) (Nat.le_of_ble_eq_true rfl) (fun σ_50 r_50 h_50 => ?_)
        obtain ⟨rfl, rfl⟩ := h_50
        refine aw_iald dX7_booking_53 rfl (by decide) rfl (by omega) sA_at ?_
        refine aw_goto (tgt := 73) dX7_booking_54 (by decide) ?_
        exact aw_iret dX7_booking_73 rfl (by decide) (eM_o (cd2_0 ⟨bi, hbi, rfl⟩ hb0) (by
          first
            | exact if_pos ((nI_ltI (b := 9) (by omega) (by omega)).mp (Int32.not_le.mp c_41))
            | (have h8 : k = 9 := by
                 have h3 := (nI_leI (a := 9) (by omega) (by omega)).mp c_41
                 omega
               subst h8
               first
                 | exact if_pos p_62
                 | exact if_neg p_62)))
  · refine aw_aload0 dX7_booking_1 ?_
    refine aw_iload1 dX7_booking_2 ?_
    refine aw_VI1 (k_isBooking _ _ _ _ hM hw.nb (by have := hw.nb12; omega)) dX7_booking_3 vl_7_165 rfl (by decide) (by decide) (Nat.le_of_ble_eq_true rfl) (fun σ_3 r_3 h_3 => ?_)
    obtain ⟨rfl, h_3⟩ := h_3
    rcases h_3 with ⟨rfl, p_3⟩ | ⟨rfl, p_3⟩
    · refine aw_if_ne (tgt := 13) dX7_booking_6 (by decide) (fun _ => ?_) (fun c_6 => absurd c_6 (by decide))
      refine aw_iload2 dX7_booking_13 ?_
      refine aw_i2l dX7_booking_14 ?_
      refine aw_lconst (v := 0) dX7_booking_15 (by decide) ?_
      refine aw_ldc2 dX7_booking_16 kl_7_121 ?_
      refine aw_SI3 (k_inC _ _ _ _ 0 9 rfl rfl) dX7_booking_19 sl_7_103 (by decide) (Nat.le_of_ble_eq_true rfl) (fun σ_19 r_19 h_19 => ?_)
      obtain ⟨rfl, h_19⟩ := h_19
      rcases h_19 with ⟨rfl, p_19⟩ | ⟨rfl, p_19⟩
      · refine aw_if_eq (tgt := 29) dX7_booking_22 (by decide) (fun c_22 => absurd c_22 (by decide)) (fun _ => ?_)
        refine aw_iconst (v := 0) dX7_booking_25 (by decide) ?_
        refine aw_goto (tgt := 30) dX7_booking_26 (by decide) ?_
        exact J_30 _ (by first | exact cd2_1 p_3 | exact cd2_2 p_3 p_19 | exact cd2_0 p_3 p_19)
      · refine aw_if_eq (tgt := 29) dX7_booking_22 (by decide) (fun _ => ?_) (fun c_22 => absurd c_22 (by decide))
        refine aw_iconst (v := 2) dX7_booking_29 (by decide) ?_
        exact J_30 _ (by first | exact cd2_1 p_3 | exact cd2_2 p_3 p_19 | exact cd2_0 p_3 p_19)
    · refine aw_if_ne (tgt := 13) dX7_booking_6 (by decide) (fun c_6 => absurd c_6 (by decide)) (fun _ => ?_)
      refine aw_iconst (v := 1) dX7_booking_9 (by decide) ?_
      refine aw_goto (tgt := 30) dX7_booking_10 (by decide) ?_
      exact J_30 _ (by first | exact cd2_1 p_3 | exact cd2_2 p_3 p_19 | exact cd2_0 p_3 p_19)
def remA (a : Nat) : Nat := if a = 14 then 14 else a + 1
def remD (D : Rw) (g : Rw) (a : Nat) : Rw := if a = 14 then cp (cp D D 0 151 1963) g 1963 0 151 else cp D g (151 * a) 0 151
/-- an action: the state ahead of it goes to the diary, the row becomes e -/
def remT (σ : Sg) (g : Rw) (a : Nat) (e : Rw) : Sg := sA (sI (sA σ 393 (remD (σ.1 393) g a)) 388 9 (nI (remA a))) 391 e
theorem rem_eq {σ : Sg} {g F1 F2 : Rw} {x y : Int32} : sA (sI (sA σ 393 F2) 388 9 y) 391 g = sI (sA (sI (sA (sA σ 391 g) 393 F1) 388 9 x) 393 F2) 388 9 y := by
  refine Prod.ext (funext fun i => funext fun k => ?_) rfl
  by_cases h1 : i = 388 <;> by_cases h2 : i = 391 <;> by_cases h3 : i = 393 <;> by_cases h4 : k = 9 <;> simp_all [sA, sI]
theorem rem_eq2 {σ : Sg} {g F2 : Rw} {y : Int32} : sA (sI (sA σ 393 F2) 388 9 y) 391 g = sI (sA (sA σ 391 g) 393 F2) 388 9 y := by
  refine Prod.ext (funext fun i => funext fun k => ?_) rfl
  by_cases h1 : i = 388 <;> by_cases h2 : i = 391 <;> by_cases h3 : i = 393 <;> by_cases h4 : k = 9 <;> simp_all [sA, sI]
theorem remT_14 {σ : Sg} {g e : Rw} : remT σ g 14 e = sA (sI (sA σ 393 (remD (σ.1 393) g 14)) 388 9 (nI 14 - 1 + 1)) 391 e := rfl
theorem remT_a {σ : Sg} {g e : Rw} {a : Nat} (h : ¬ a = 14) : remT σ g a e = sA (sI (sA σ 393 (remD (σ.1 393) g a)) 388 9 (nI a + 1)) 391 e := by
  rw [remT, remA, if_neg h, nI_1]
set_option maxHeartbeats 4000000 in
theorem k_remember (σ : Sg) (g : Rw) (a : Nat) (hM : MS σ) (ha : σ.1 388 9 = nI a) (ha14 : a ≤ 14) : Ct yX7_remember cX7_remember mX7_remember 2 0 0 NN false (sA σ 391 g) [.ref 388] NN (eV1 (remT σ g a g)) XF := by
  refine ct_of (ls0 := [some (.ref 388)]) 0 (by decide +kernel) rfl rfl (ndR nd0) rfl (Nat.le_of_ble_eq_true rfl) (fun K => ?_)
  refine aw_aload0 dX7_remember_0 ?_
  refine aw_getI dX7_remember_1 fI_7_42 rfl (by decide) ha ?_
  refine aw_bipush (v := 14) dX7_remember_4 (by decide) ?_
  refine aw_ic_ne (tgt := 37) dX7_remember_6 (by decide) (fun c_6 => ?_) (fun c_6 => ?_)
  · try (have e14 : ¬ a = 14 := fun h => c_6 ((nI_eq (b := 14) (by omega) (by omega)).mpr h))
    refine aw_aload0 dX7_remember_37 ?_
    refine aw_getR dX7_remember_38 fR_7_16 rfl (by decide) hM.now ?_
    refine aw_iconst (v := 0) dX7_remember_41 (by decide) ?_
    refine aw_aload0 dX7_remember_42 ?_
    refine aw_getR dX7_remember_43 fR_7_22 rfl (by decide) hM.diary ?_
    refine aw_sipush (v := 151) dX7_remember_46 (by decide) ?_
    refine aw_aload0 dX7_remember_49 ?_
    refine aw_getI dX7_remember_50 fI_7_42 rfl (by decide) (by first | exact ha | exact (show _ = nI 14 - 1 from rfl)) ?_
    refine aw_imul dX7_remember_53 ?_
    first
      | rw [show (151 : Int32) * (nI 14 - 1) = nI (151 * 13) from rfl]
      | rw [show (151 : Int32) * nI a = nI (151 * a) from pk_mul 151 a]
    refine aw_sipush (v := 151) dX7_remember_54 (by decide) ?_
    refine aw_SV5 (k_copy _ 391 393 0 (151 * a) 151 151 2114 (remD (σ.1 393) g a) rfl rfl (by decide) (by decide) (by decide) (by omega) (Or.inl (by decide)) (by decide) (fun j hj => (congrFun (if_neg e14) j).symm)) dX7_remember_57 sl_7_45 (by decide) (Nat.le_of_ble_eq_true rfl) (fun σ_57 h_57 => ?_)
    obtain rfl := h_57
    refine aw_aload0 dX7_remember_60 ?_
    refine aw_dup dX7_remember_61 rfl ?_
    refine aw_getI dX7_remember_62 fI_7_42 rfl (by decide) (by first | exact ha | exact (show _ = nI 14 - 1 from rfl)) ?_
    refine aw_iconst (v := 1) dX7_remember_65 (by decide) ?_
    refine aw_iadd dX7_remember_66 ?_
    refine aw_putI dX7_remember_67 fP_7_42 rfl (by decide) ?_
    exact aw_vret dX7_remember_70 rfl (by decide) (eV_to (by
      first
        | exact remT_14.trans rem_eq
        | exact (remT_a e14).trans rem_eq2))
  · have e14 := (nI_eq (b := 14) (by omega) (by omega)).mp c_6
    subst e14
    refine aw_aload0 dX7_remember_9 ?_
    refine aw_getR dX7_remember_10 fR_7_22 rfl (by decide) hM.diary ?_
    refine aw_sipush (v := 151) dX7_remember_13 (by decide) ?_
    refine aw_aload0 dX7_remember_16 ?_
    refine aw_getR dX7_remember_17 fR_7_22 rfl (by decide) hM.diary ?_
    refine aw_iconst (v := 0) dX7_remember_20 (by decide) ?_
    refine aw_sipush (v := 1963) dX7_remember_21 (by decide) ?_
    refine aw_SV5 (k_copy _ 393 393 151 0 1963 2114 2114 (cp (σ.1 393) (σ.1 393) 0 151 1963) rfl rfl (by decide) (by decide) (by decide) (by decide) (Or.inr (by decide)) (by decide) (fun _ _ => rfl)) dX7_remember_24 sl_7_45 (by decide) (Nat.le_of_ble_eq_true rfl) (fun σ_24 h_24 => ?_)
    obtain rfl := h_24
    refine aw_aload0 dX7_remember_27 ?_
    refine aw_dup dX7_remember_28 rfl ?_
    refine aw_getI dX7_remember_29 fI_7_42 rfl (by decide) ha ?_
    refine aw_iconst (v := 1) dX7_remember_32 (by decide) ?_
    refine aw_isub dX7_remember_33 ?_
    refine aw_putI dX7_remember_34 fP_7_42 rfl (by decide) ?_
    try (have e14 : ¬ a = 14 := fun h => c_6 ((nI_eq (b := 14) (by omega) (by omega)).mpr h))
    refine aw_aload0 dX7_remember_37 ?_
    refine aw_getR dX7_remember_38 fR_7_16 rfl (by decide) hM.now ?_
    refine aw_iconst (v := 0) dX7_remember_41 (by decide) ?_
    refine aw_aload0 dX7_remember_42 ?_
    refine aw_getR dX7_remember_43 fR_7_22 rfl (by decide) hM.diary ?_
    refine aw_sipush (v := 151) dX7_remember_46 (by decide) ?_
    refine aw_aload0 dX7_remember_49 ?_
    refine aw_getI dX7_remember_50 fI_7_42 rfl (by decide) (by first | exact ha | exact (show _ = nI 14 - 1 from rfl)) ?_
    refine aw_imul dX7_remember_53 ?_
    first
      | rw [show (151 : Int32) * (nI 14 - 1) = nI (151 * 13) from rfl]
      | rw [show (151 : Int32) * nI a = nI (151 * a) from pk_mul 151 a]
    refine aw_sipush (v := 151) dX7_remember_54 (by decide) ?_
    refine aw_SV5 (k_copy _ 391 393 0 (151 * 13) 151 151 2114 (remD (σ.1 393) g 14) rfl rfl (by decide) (by decide) (by decide) (by omega) (Or.inl (by decide)) (by decide) (fun _ _ => rfl)) dX7_remember_57 sl_7_45 (by decide) (Nat.le_of_ble_eq_true rfl) (fun σ_57 h_57 => ?_)
    obtain rfl := h_57
    refine aw_aload0 dX7_remember_60 ?_
    refine aw_dup dX7_remember_61 rfl ?_
    refine aw_getI dX7_remember_62 fI_7_42 rfl (by decide) (by first | exact ha | exact (show _ = nI 14 - 1 from rfl)) ?_
    refine aw_iconst (v := 1) dX7_remember_65 (by decide) ?_
    refine aw_iadd dX7_remember_66 ?_
    refine aw_putI dX7_remember_67 fP_7_42 rfl (by decide) ?_
    exact aw_vret dX7_remember_70 rfl (by decide) (eV_to (by
      first
        | exact remT_14.trans rem_eq
        | exact (remT_a e14).trans rem_eq2))
