/-! the reference: copies, and what goes over a whole row -/
/-- two worlds that hold the same -/
def SQ (σ τ : Sg) : Prop := σ.2 = τ.2 ∧ ∀ i j, (∀ k len, cT i = .inr (k, len) → j < len) → σ.1 i j = τ.1 i j
theorem arrV_eq {cI : ClassId} {N : Nat} {f g : Nat → Value} (h : ∀ j, j < N → f j = g j) : arrV cI N f = arrV cI N g := by
  have e : (fun j : Fin N => f j.val) = fun j : Fin N => g j.val := funext fun j => h j.val j.isLt
  unfold arrV
  rw [e]
theorem cE_sq {a0 : Nat} {D : va_G} {cs : Nat → ClassId} {σ τ : Sg} {n : Nat} {H : Heap} (h : SQ σ τ) (hP : va_P D vwCl (wl a0 cs σ n) H) : va_P D vwCl (wl a0 cs τ n) H := by
  intro k q hq
  have hk : k < n := by
    have := (List.getElem?_eq_some_iff.mp hq).1
    rwa [wl_len] at this
  rw [wl_get hk] at hq
  cases hq
  have h0 := hP k _ (wl_get hk)
  obtain ⟨h1, h2⟩ := h
  match hc : cT k with
  | .inl ci =>
    have e : cE a0 cs σ k = cE a0 cs τ k := by
      have e2 : fV a0 σ ci k = fV a0 τ ci k := funext fun j => by
        have e1 : σ.1 k j = τ.1 k j := h2 k j (fun k len e => by rw [hc] at e; cases e)
        simp only [fV, e1, h1]
      rw [cE_o hc, cE_o hc, e2]
    rw [e] at h0
    exact h0
  | .inr (kd, len) =>
    rw [cE_a hc] at h0
    rw [cE_a hc]
    show H[a0 + k]? = some (vp_cell (cs kd) (len, aC a0 τ k kd))
    refine Eq.trans (show H[a0 + k]? = some (vp_cell (cs kd) (len, aC a0 σ k kd)) from h0) ?_
    unfold aC
    by_cases h3 : kd < 2
    · rw [if_pos h3, if_pos h3, vp_cell_i, vp_cell_i]
      refine congrArg some (arrV_eq fun j hj => ?_)
      rw [h2 k j (fun k2 len2 e => by rw [hc] at e; cases e; exact hj)]
    · rw [if_neg h3, if_neg h3, h1]
section AWJ
variable {K : KT} {own : String} {cc : ByteArray} {M : MT} {d mc ms : Nat} {Q : State → Prop} {n : Nat} {z : Option Nat} {σ : Sg} {cells slots pc pc2 : Nat} {ls : List (Option Value)} {st : List Value}
theorem AW.eqw {σ' : Sg} (h : SQ σ σ') (k : AW K own cc M d mc ms Q n z σ' cells slots pc ls st) : AW K own cc M d mc ms Q n z σ cells slots pc ls st := by
  obtain ⟨p, l, e, s, m, args, below, meth, c, D, cs, a0, A0⟩ := K
  intro C H locs la hP hA hS hl
  exact k C H locs la ⟨cE_sq h hP.1, hP.2⟩ hA hS hl
end AWJ
def cp (t f : Rw) (ta fa n : Nat) : Rw := fun j => if ta ≤ j ∧ j < ta + n then f (fa + (j - ta)) else t j
theorem cp_0 {t f : Rw} {ta fa : Nat} : cp t f ta fa 0 = t := funext fun j => if_neg (by omega)
theorem cp_s {t f : Rw} {ta fa n : Nat} : upd (cp t f ta fa n) (ta + n) (f (fa + n)) = cp t f ta fa (n + 1) := funext fun j => by
  unfold upd cp
  by_cases h : j = ta + n
  · subst h; rw [if_pos rfl, if_pos (by omega)]; congr 1; omega
  · rw [if_neg h]
    by_cases h2 : ta ≤ j ∧ j < ta + n
    · rw [if_pos h2, if_pos (by omega)]
    · rw [if_neg h2, if_neg (by omega)]
theorem sA_ne {σ : Sg} {a b j : Nat} {f : Rw} (h : b ≠ a) : (sA σ a f).1 b j = σ.1 b j := if_neg h
set_option maxHeartbeats 4000000 in
theorem k_copy (σ : Sg) (a b fa ta n la lb : Nat) (F : Rw) (hTa : cT a = .inr (0, la)) (hTb : cT b = .inr (0, lb)) (han : a < NN) (hbn : b < NN) (hla : fa + n ≤ la) (hlb : ta + n ≤ lb) (hab : a ≠ b ∨ ta ≤ fa) (hL : la < 3000 ∧ lb < 3000) (hF : ∀ j, j < lb → cp (σ.1 b) (σ.1 a) ta fa n j = F j) : Ct yX7_copy cX7_copy mX7_copy 1 0 0 NN false σ [.ref a, .int (nI fa), .ref b, .int (nI ta), .int (nI n)] NN (eV1 (sA σ b F)) XF := by
  refine ct_of (ls0 := [some (.ref a), some (.int (nI fa)), some (.ref b), some (.int (nI ta)), some (.int (nI n)), none]) 1 (by decide +kernel) rfl rfl (ndR (ndI (ndR (ndI (ndI nd0))))) rfl (Nat.le_of_ble_eq_true rfl) (fun K => ?_)
  have L3 : ∀ (k : Nat) (i : Nat) (h1 : i ≤ n) (h2 : n - i < k), AW K RX7 cX7_copy mX7_copy 1 0 0 (Qm K NN (eV1 (sA σ b F)) XF 0 0) NN none (sA σ b (cp (σ.1 b) (σ.1 a) ta fa i)) 0 0 3 [some (.ref a), some (.int (nI fa)), some (.ref b), some (.int (nI ta)), some (.int (nI n)), some (.int (nI i))] [] := by
    intro k
    induction k with
    | zero => intro i h1 h2; exact absurd h2 (Nat.not_lt_zero _)
    | succ k ih =>
      intro i h1 h2
      refine aw_iload5 dX7_copy_3 ?_
      refine aw_iload4 dX7_copy_5 ?_
      refine aw_ic_ge (tgt := 28) dX7_copy_7 (by decide) (fun c_7 => ?_) (fun c_7 => ?_)
      · have hbb : i = n := by
          have := (nI_leI (by omega) (by omega)).mp c_7
          omega
        subst hbb
        refine AW.eqw (σ' := sA σ b F) ⟨rfl, fun x y hy => ?_⟩ ?_
        · by_cases hx : x = b
          · subst hx; rw [sA_at, sA_at]; exact hF y (hy _ _ hTb)
          · rw [sA_ne hx, sA_ne hx]
        exact aw_vret dX7_copy_28 rfl (by decide) eV_of
      · have hlt : i < n := by
          rcases Nat.lt_or_ge i n with q | q
          · exact q
          · exact absurd (nI_le q (by omega)) c_7
        refine aw_aload2 dX7_copy_10 ?_
        refine aw_iload3 dX7_copy_11 ?_
        refine aw_iload5 dX7_copy_12 ?_
        refine aw_iadd dX7_copy_14 ?_
        refine aw_aload0 dX7_copy_15 ?_
        refine aw_iload1 dX7_copy_16 ?_
        refine aw_iload5 dX7_copy_17 ?_
        refine aw_iadd dX7_copy_19 ?_
        refine aw_iald (j := fa + i) dX7_copy_20 hTa han (nI_add fa i) (by omega) (show (sA σ b (cp (σ.1 b) (σ.1 a) ta fa i)).1 a (fa + i) = σ.1 a (fa + i) from by
                by_cases e : a = b
                · subst e; rw [sA_at]; exact if_neg (by omega)
                · exact sA_ne e) ?_
        refine aw_iast (j := ta + i) dX7_copy_21 hTb hbn (nI_add ta i) (by omega) ?_
        refine AW.eqs (sI_sA.trans (by rw [cp_s])) ?_
        refine aw_iinc5 (w := nI (i + 1)) dX7_copy_22 (nI_1 i) (by decide) rfl ?_
        refine aw_goto (tgt := 3) dX7_copy_25 (by decide) ?_
        exact ih (i + 1) (by omega) (by omega)
  refine aw_iconst (v := 0) dX7_copy_0 (by decide) ?_
  refine aw_istore5 dX7_copy_1 (by decide) rfl ?_
  refine AW.eqs (σ' := sA σ b (cp (σ.1 b) (σ.1 a) ta fa 0)) (by rw [cp_0, sA_self]) ?_
  exact L3 (n + 1) 0 (Nat.zero_le _) (by omega)
def fClean (g : Rw) : Rw := fun j => if j = 4 then 5 else if j < 151 then 0 else g j
def fCl (g : Rw) (k : Nat) : Rw := fun j => if j < k then 0 else g j
theorem fCl_s {g : Rw} {k : Nat} : upd (fCl g k) k 0 = fCl g (k + 1) := funext fun j => by
  unfold upd fCl
  by_cases h : j = k
  · subst h; rw [if_pos rfl, if_pos (by omega)]
  · rw [if_neg h]
    by_cases h2 : j < k
    · rw [if_pos h2, if_pos (by omega)]
    · rw [if_neg h2, if_neg (by omega)]
set_option maxHeartbeats 4000000 in
theorem k_clean (σ : Sg) (row : Nat) (g : Rw) (hT : cT row = .inr (0, 151)) (hn : row < NN) : Ct yX7_clean cX7_clean mX7_clean 1 0 0 NN false (sA σ row g) [.ref row] NN (eV1 (sA σ row (fClean g))) XF := by
  refine ct_of (ls0 := [some (.ref row), none]) 1 (by decide +kernel) rfl rfl (ndR nd0) rfl (Nat.le_of_ble_eq_true rfl) (fun K => ?_)
  have L2 : ∀ (k : Nat) (i : Nat) (h1 : i ≤ 151) (h2 : 151 - i < k), AW K RX7 cX7_clean mX7_clean 1 0 0 (Qm K NN (eV1 (sA σ row (fClean g))) XF 0 0) NN none (sA σ row (fCl g i)) 0 0 2 [some (.ref row), some (.int (nI i))] [] := by
    intro k
    induction k with
    | zero => intro i h1 h2; exact absurd h2 (Nat.not_lt_zero _)
    | succ k ih =>
      intro i h1 h2
      refine aw_iload1 dX7_clean_2 ?_
      refine aw_sipush (v := 151) dX7_clean_3 (by decide) ?_
      refine aw_ic_ge (tgt := 19) dX7_clean_6 (by decide) (fun c_6 => ?_) (fun c_6 => ?_)
      · have hbb : i = 151 := by
          have := (nI_leI (a := 151) (by omega) (by omega)).mp c_6
          omega
        subst hbb
        refine aw_aload0 dX7_clean_19 ?_
        refine aw_iconst (v := 4) dX7_clean_20 (by decide) ?_
        refine aw_iconst (v := 5) dX7_clean_21 (by decide) ?_
        refine aw_iast (j := 4) dX7_clean_22 hT hn rfl (by decide) ?_
        refine AW.eqs sI_sA ?_
        exact aw_vret dX7_clean_23 rfl (by decide) (eV_to (congrArg (sA σ row) (funext fun j => by
          unfold fClean upd fCl
          by_cases h : j = 4
          · rw [if_pos h]
          · rw [if_neg h])))
      · have hlt : i < 151 := by
          rcases Nat.lt_or_ge i 151 with q | q
          · exact q
          · exact absurd (nI_le q (by omega)) c_6
        refine aw_aload0 dX7_clean_9 ?_
        refine aw_iload1 dX7_clean_10 ?_
        refine aw_iconst (v := 0) dX7_clean_11 (by decide) ?_
        refine aw_iast dX7_clean_12 hT hn rfl (by omega) ?_
        refine AW.eqs sI_sA ?_
        refine aw_iinc1 (w := nI (i + 1)) dX7_clean_13 (nI_1 i) (by decide) rfl ?_
        refine aw_goto (tgt := 2) dX7_clean_16 (by decide) ?_
        refine AW.eqs (congrArg (sA σ row) fCl_s) ?_
        exact ih (i + 1) (by omega) (by omega)
  refine aw_iconst (v := 0) dX7_clean_0 (by decide) ?_
  refine aw_istore1 dX7_clean_1 (by decide) rfl ?_
  refine AW.eqs (σ' := sA σ row (fCl g 0)) (congrArg (sA σ row) (funext fun j => (if_neg (Nat.not_lt_zero j)).symm)) ?_
  exact L2 152 0 (Nat.zero_le _) (by omega)
def tenL : Nat → Int64
  | 0 => 1
  | k + 1 => tenL k * 10
set_option maxHeartbeats 4000000 in
theorem k_tenTo (σ : Sg) (n : Nat) (hn : n < 100) : Ct yX7_tenTo cX7_tenTo mX7_tenTo 1 0 0 NN false σ [.int (nI n)] NN (rL fun σ2 v => σ = σ2 ∧ tenL n = v) XF := by
  refine ct_of (ls0 := [some (.int (nI n)), none, none, none]) 3 (by decide +kernel) rfl rfl (ndI nd0) rfl (Nat.le_of_ble_eq_true rfl) (fun K => ?_)
  have L4 : ∀ (k : Nat) (i : Nat) (h1 : i ≤ n) (h2 : n - i < k), AW K RX7 cX7_tenTo mX7_tenTo 1 0 0 (Qm K NN (rL fun σ2 v => σ = σ2 ∧ tenL n = v) XF 0 0) NN none σ 0 0 4 [some (.int (nI n)), some (.long (tenL i)), none, some (.int (nI i))] [] := by
    intro k
    induction k with
    | zero => intro i h1 h2; exact absurd h2 (Nat.not_lt_zero _)
    | succ k ih =>
      intro i h1 h2
      refine aw_iload3 dX7_tenTo_4 ?_
      refine aw_iload0 dX7_tenTo_5 ?_
      refine aw_ic_ge (tgt := 21) dX7_tenTo_6 (by decide) (fun c_6 => ?_) (fun c_6 => ?_)
      · have hbb : i = n := by
          have := (nI_leI (by omega) (by omega)).mp c_6
          omega
        subst hbb
        refine aw_lload1 dX7_tenTo_21 ?_
        exact aw_lret dX7_tenTo_22 rfl (by decide) ⟨_, rfl, rfl, rfl⟩
      · have hlt : i < n := by
          rcases Nat.lt_or_ge i n with q | q
          · exact q
          · exact absurd (nI_le q (by omega)) c_6
        refine aw_lload1 dX7_tenTo_9 ?_
        refine aw_ldc2 dX7_tenTo_10 kl_7_40 ?_
        refine aw_lmul dX7_tenTo_13 ?_
        refine aw_lstore1 dX7_tenTo_14 (by decide) rfl ?_
        refine aw_iinc3 (w := nI (i + 1)) dX7_tenTo_15 (nI_1 i) (by decide) rfl ?_
        refine aw_goto (tgt := 4) dX7_tenTo_18 (by decide) ?_
        exact ih (i + 1) (by omega) (by omega)
  refine aw_lconst (v := 1) dX7_tenTo_0 (by decide) ?_
  refine aw_lstore1 dX7_tenTo_1 (by decide) rfl ?_
  refine aw_iconst (v := 0) dX7_tenTo_2 (by decide) ?_
  refine aw_istore3 dX7_tenTo_3 (by decide) rfl ?_
  exact L4 (n + 1) 0 (Nat.zero_le _) (by omega)
set_option maxHeartbeats 4000000 in
theorem k_in (σ : Sg) (v a b : Int64) : Ct yX7_in cX7_in mX7_in 1 0 0 NN false σ [.long v, .long a, .long b] NN (eZ1 σ (a ≤ v ∧ v ≤ b)) XF := by
  refine ct_of (ls0 := [some (.long v), none, some (.long a), none, some (.long b), none]) 0 (by decide +kernel) rfl rfl (ndL (ndL (ndL nd0))) rfl (Nat.le_of_ble_eq_true rfl) (fun K => ?_)
  refine aw_lload0 dX7_in_0 ?_
  refine aw_lload2 dX7_in_1 ?_
  refine aw_lcmp dX7_in_2 ?_
  refine aw_if_lt (tgt := 17) dX7_in_3 (by decide) (fun c_3 => ?_) (fun c_3 => ?_)
  · refine aw_iconst (v := 0) dX7_in_17 (by decide) ?_
    exact aw_zret dX7_in_18 rfl (by decide) (by decide) (eZ_0 (fun h => by first | exact Int64.not_lt.mpr h.1 ((lg_cmp_lt _ _).mp c_3) | exact Int64.not_lt.mpr h.2 ((lg_cmp_gt _ _).mp c_10)))
  · refine aw_lload0 dX7_in_6 ?_
    refine aw_lload4 dX7_in_7 ?_
    refine aw_lcmp dX7_in_9 ?_
    refine aw_if_gt (tgt := 17) dX7_in_10 (by decide) (fun c_10 => ?_) (fun c_10 => ?_)
    · refine aw_iconst (v := 0) dX7_in_17 (by decide) ?_
      exact aw_zret dX7_in_18 rfl (by decide) (by decide) (eZ_0 (fun h => by first | exact Int64.not_lt.mpr h.1 ((lg_cmp_lt _ _).mp c_3) | exact Int64.not_lt.mpr h.2 ((lg_cmp_gt _ _).mp c_10)))
    · refine aw_iconst (v := 1) dX7_in_13 (by decide) ?_
      refine aw_goto (tgt := 18) dX7_in_14 (by decide) ?_
      exact aw_zret dX7_in_18 rfl (by decide) (by decide) (eZ_1 ⟨(lg_cmp_ge _ _).mp (Int32.not_lt.mp c_3), (lg_cmp_le _ _).mp (Int32.not_lt.mp c_10)⟩)
set_option maxHeartbeats 4000000 in
theorem k_refused (σ : Sg) (code : Int32) : Ct yX7_refused cX7_refused mX7_refused 1 0 0 NN false σ [.ref 388, .int code] NN (eZ1 (sI σ 388 0 code) (0 < code)) XF := by
  refine ct_of (ls0 := [some (.ref 388), some (.int code)]) 0 (by decide +kernel) rfl rfl (ndR (ndI nd0)) rfl (Nat.le_of_ble_eq_true rfl) (fun K => ?_)
  refine aw_aload0 dX7_refused_0 ?_
  refine aw_iload1 dX7_refused_1 ?_
  refine aw_putI dX7_refused_2 fP_7_36 rfl (by decide) ?_
  refine aw_iload1 dX7_refused_5 ?_
  refine aw_if_le (tgt := 13) dX7_refused_6 (by decide) (fun c_6 => ?_) (fun c_6 => ?_)
  · refine aw_iconst (v := 0) dX7_refused_13 (by decide) ?_
    exact aw_zret dX7_refused_14 rfl (by decide) (by decide) (eZ_0 (Int32.not_lt.mpr c_6))
  · refine aw_iconst (v := 1) dX7_refused_9 (by decide) ?_
    refine aw_goto (tgt := 14) dX7_refused_10 (by decide) ?_
    exact aw_zret dX7_refused_14 rfl (by decide) (by decide) (eZ_1 (Int32.not_le.mp c_6))
set_option maxHeartbeats 4000000 in
theorem k_thrown (σ : Sg) : Ct yX7_thrown cX7_thrown mX7_thrown 1 0 0 NN false σ [.ref 388] NN (eI1 σ (σ.1 388 0)) XF := by
  refine ct_of (ls0 := [some (.ref 388)]) 0 (by decide +kernel) rfl rfl (ndR nd0) rfl (Nat.le_of_ble_eq_true rfl) (fun K => ?_)
  refine aw_aload0 dX7_thrown_0 ?_
  refine aw_getI dX7_thrown_1 fI_7_36 rfl (by decide) rfl ?_
  exact aw_iret dX7_thrown_4 rfl (by decide) eI_of
theorem fHour_off {g : Rw} {nr nb : Nat} (hw : WHO g nb) (hnr : nr ≤ 4) (j : Nat) (hj : kept0 j) (h0 : j ≠ 0) : fHour g nr nb j = g j := by
  have hw2 : WHO (fMid g nr nb) nb := fun b hb => by
    obtain ⟨w, h1, h2⟩ := hw b hb
    exact ⟨w, h1, by rw [fMid_off hw hnr _ kept0_who (by omega)]; exact h2⟩
  show fEnds (fMid g nr nb) nb nb j = g j
  rw [fEnds_off hw2 nb (Nat.le_refl _) j hj, fMid_off hw hnr j hj h0]
theorem fHours_off {g : Rw} {nr nb : Nat} (hw : WHO g nb) (hnr : nr ≤ 4) : ∀ (k j : Nat), kept0 j → j ≠ 0 → fHours g nr nb k j = g j
  | 0, _, _, _ => rfl
  | k + 1, j, hj, h0 => by
    have ih := fHours_off hw hnr k
    show fHour (fHours g nr nb k) nr nb j = g j
    rw [fHour_off (fun b hb => by
      obtain ⟨w, h1, h2⟩ := hw b hb
      exact ⟨w, h1, by rw [ih _ kept0_who (by omega)]; exact h2⟩) hnr j hj h0, ih j hj h0]
theorem WHO.hours {g : Rw} {nr nb k : Nat} (hw : WHO g nb) (hnr : nr ≤ 4) : WHO (fHours g nr nb k) nb := fun b hb => by
  obtain ⟨w, h1, h2⟩ := hw b hb
  exact ⟨w, h1, by rw [fHours_off hw hnr k _ kept0_who (by omega)]; exact h2⟩
set_option maxHeartbeats 4000000 in
theorem k_goHours (σ : Sg) (row : Nat) (g : Rw) (nr nb h : Nat) (hT : cT row = .inr (0, 151)) (hn : row < NN) (hnb : g 3 = nI nb) (hb : nb ≤ 12) (hnr : g 1 = nI nr) (hnr4 : nr ≤ 4) (hwho : WHO g nb) (hh : h < 2 ^ 31) : Ct yX7_goHours cX7_goHours mX7_goHours 8 0 0 NN false (sA σ row g) [.ref row, .int (nI h)] NN (eV1 (sA σ row (fHours g nr nb h))) XF := by
  refine ct_of (ls0 := [some (.ref row), some (.int (nI h)), none]) 1 (by decide +kernel) rfl rfl (ndR (ndI nd0)) rfl (Nat.le_of_ble_eq_true rfl) (fun K => ?_)
  have L2 : ∀ (k : Nat) (i : Nat) (h1 : i ≤ h) (h2 : h - i < k), AW K RX7 cX7_goHours mX7_goHours 8 0 0 (Qm K NN (eV1 (sA σ row (fHours g nr nb h))) XF 0 0) NN none (sA σ row (fHours g nr nb i)) 0 0 2 [some (.ref row), some (.int (nI h)), some (.int (nI i))] [] := by
    intro k
    induction k with
    | zero => intro i h1 h2; exact absurd h2 (Nat.not_lt_zero _)
    | succ k ih =>
      intro i h1 h2
      refine aw_iload2 dX7_goHours_2 ?_
      refine aw_iload1 dX7_goHours_3 ?_
      refine aw_ic_ge (tgt := 17) dX7_goHours_4 (by decide) (fun c_4 => ?_) (fun c_4 => ?_)
      · have hbb : i = h := by
          have := (nI_leI (by omega) (by omega)).mp c_4
          omega
        subst hbb
        exact aw_vret dX7_goHours_17 rfl (by decide) eV_of
      · have hlt : i < h := by
          rcases Nat.lt_or_ge i h with q | q
          · exact q
          · exact absurd (nI_le q (by omega)) c_4
        have hnb2 := (fHours_off hwho hnr4 i 3 kept0_3 (by decide)).trans hnb
        have hnr2 := (fHours_off hwho hnr4 i 1 kept0_1 (by decide)).trans hnr
        have hwho2 := hwho.hours (k := i) hnr4
        refine aw_aload0 dX7_goHours_7 ?_
        refine aw_SV1 (k_goHour _ _ _ _ _ hT hn (by assumption) hb (by assumption) hnr4 (by assumption)) dX7_goHours_8 sl_7_91 (by decide) (Nat.le_of_ble_eq_true rfl) (fun σ_8 h_8 => ?_)
        obtain rfl := h_8
        refine aw_iinc2 (w := nI (i + 1)) dX7_goHours_11 (nI_1 i) (by decide) rfl ?_
        refine aw_goto (tgt := 2) dX7_goHours_14 (by decide) ?_
        exact ih (i + 1) (by omega) (by omega)
  refine aw_iconst (v := 0) dX7_goHours_0 (by decide) ?_
  refine aw_istore2 dX7_goHours_1 (by decide) rfl ?_
  exact L2 (h + 1) 0 (Nat.zero_le _) (by omega)
def fMax (g : Rw) (a : Int32) : Nat → Int32
  | 0 => a
  | k + 1 => if fMax g a k < fEnd g k then fEnd g k else fMax g a k
set_option maxHeartbeats 4000000 in
theorem k_goAll (σ : Sg) (row : Nat) (g : Rw) (nr nb h : Nat) (hT : cT row = .inr (0, 151)) (hn : row < NN) (hnb : g 3 = nI nb) (hb : nb ≤ 12) (hnr : g 1 = nI nr) (hnr4 : nr ≤ 4) (hwho : WHO g nb) (hh : h < 2 ^ 31) (he : fMax g (g 0) nb - g 0 = nI h) : Ct yX7_goAll cX7_goAll mX7_goAll 9 0 0 NN false (sA σ row g) [.ref row] NN (eV1 (sA σ row (fHours g nr nb h))) XF := by
  refine ct_of (ls0 := [some (.ref row), none, none]) 2 (by decide +kernel) rfl rfl (ndR nd0) rfl (Nat.le_of_ble_eq_true rfl) (fun K => ?_)
  have L6 : ∀ (k : Nat) (i : Nat) (h1 : i ≤ nb) (h2 : nb - i < k), AW K RX7 cX7_goAll mX7_goAll 9 0 0 (Qm K NN (eV1 (sA σ row (fHours g nr nb h))) XF 0 0) NN none (sA σ row g) 0 0 6 [some (.ref row), some (.int (fMax g (g 0) i)), some (.int (nI i))] [] := by
    intro k
    induction k with
    | zero => intro i h1 h2; exact absurd h2 (Nat.not_lt_zero _)
    | succ k ih =>
      intro i h1 h2
      refine aw_iload2 dX7_goAll_6 ?_
      refine aw_aload0 dX7_goAll_7 ?_
      refine aw_iconst (v := 3) dX7_goAll_8 (by decide) ?_
      refine aw_iald (j := 3) dX7_goAll_9 hT hn rfl (by decide) (sA_at.trans hnb) ?_
      refine aw_ic_ge (tgt := 38) dX7_goAll_10 (by decide) (fun c_10 => ?_) (fun c_10 => ?_)
      · have hbb : i = nb := by
          have := (nI_leI (by omega) (by omega)).mp c_10
          omega
        subst hbb
        refine aw_aload0 dX7_goAll_38 ?_
        refine aw_iload1 dX7_goAll_39 ?_
        refine aw_aload0 dX7_goAll_40 ?_
        refine aw_iconst (v := 0) dX7_goAll_41 (by decide) ?_
        refine aw_iald (j := 0) dX7_goAll_42 hT hn rfl (by decide) sA_at ?_
        refine aw_isub dX7_goAll_43 ?_
        rw [he]
        refine aw_SV2 (k_goHours _ _ _ _ _ _ hT hn hnb hb hnr hnr4 hwho hh) dX7_goAll_44 sl_7_94 (by decide) (Nat.le_of_ble_eq_true rfl) (fun σ_44 h_44 => ?_)
        obtain rfl := h_44
        exact aw_vret dX7_goAll_47 rfl (by decide) eV_of
      · have hlt : i < nb := by
          rcases Nat.lt_or_ge i nb with q | q
          · exact q
          · exact absurd (nI_le q (by omega)) c_10
        refine aw_aload0 dX7_goAll_13 ?_
        refine aw_iload2 dX7_goAll_14 ?_
        refine aw_SI2 (k_endOf _ _ _ _ hT hn (by omega)) dX7_goAll_15 sl_7_53 (by decide) (Nat.le_of_ble_eq_true rfl) (fun σ_15 r_15 h_15 => ?_)
        obtain ⟨rfl, rfl⟩ := h_15
        refine aw_iload1 dX7_goAll_18 ?_
        refine aw_ic_le (tgt := 30) dX7_goAll_19 (by decide) (fun c_19 => ?_) (fun c_19 => ?_)
        · refine aw_iload1 dX7_goAll_30 ?_
          refine aw_istore1 dX7_goAll_31 (by decide) rfl ?_
          refine aw_iinc2 (w := nI (i + 1)) dX7_goAll_32 (nI_1 i) (by decide) rfl ?_
          refine aw_goto (tgt := 6) dX7_goAll_35 (by decide) ?_
          have k9 := ih (i + 1) (by omega) (by omega)
          rw [show fMax g (g 0) (i + 1) = fMax g (g 0) i from if_neg (Int32.not_lt.mpr c_19)] at k9
          exact k9
        · refine aw_aload0 dX7_goAll_22 ?_
          refine aw_iload2 dX7_goAll_23 ?_
          refine aw_SI2 (k_endOf _ _ _ _ hT hn (by omega)) dX7_goAll_24 sl_7_53 (by decide) (Nat.le_of_ble_eq_true rfl) (fun σ_24 r_24 h_24 => ?_)
          obtain ⟨rfl, rfl⟩ := h_24
          refine aw_goto (tgt := 31) dX7_goAll_27 (by decide) ?_
          refine aw_istore1 dX7_goAll_31 (by decide) rfl ?_
          refine aw_iinc2 (w := nI (i + 1)) dX7_goAll_32 (nI_1 i) (by decide) rfl ?_
          refine aw_goto (tgt := 6) dX7_goAll_35 (by decide) ?_
          have k9 := ih (i + 1) (by omega) (by omega)
          rw [show fMax g (g 0) (i + 1) = fEnd g i from if_pos (Int32.not_le.mp c_19)] at k9
          exact k9
  refine aw_aload0 dX7_goAll_0 ?_
  refine aw_iconst (v := 0) dX7_goAll_1 (by decide) ?_
  refine aw_iald (j := 0) dX7_goAll_2 hT hn rfl (by decide) sA_at ?_
  refine aw_istore1 dX7_goAll_3 (by decide) rfl ?_
  refine aw_iconst (v := 0) dX7_goAll_4 (by decide) ?_
  refine aw_istore2 dX7_goAll_5 (by decide) rfl ?_
  exact L6 (nb + 1) 0 (Nat.zero_le _) (by omega)
def fAddRoom (g : Rw) (nr : Nat) (s l p t : Int32) : Rw :=
  let g4 := upd (upd (upd (upd g (9 + 4 * nr + 0) s) (9 + 4 * nr + 1) l) (9 + 4 * nr + 2) p) (9 + 4 * nr + 3) t
  upd g4 1 (g4 1 + 1)
set_option maxHeartbeats 4000000 in
theorem k_addRoomTo (σ : Sg) (row : Nat) (g : Rw) (nr : Nat) (a l p t : Int32) (hT : cT row = .inr (0, 151)) (hn : row < NN) (hnr : g 1 = nI nr) (hnr4 : nr < 4) : Ct yX7_addRoomTo cX7_addRoomTo mX7_addRoomTo 2 0 0 NN false (sA σ row g) [.ref row, .int a, .int l, .int p, .int t] NN (eV1 (sA σ row (fAddRoom g nr a l p t))) XF := by
  refine ct_of (ls0 := [some (.ref row), some (.int a), some (.int l), some (.int p), some (.int t), none]) 1 (by decide +kernel) rfl rfl (ndR (ndI (ndI (ndI (ndI nd0))))) rfl (Nat.le_of_ble_eq_true rfl) (fun K => ?_)
  refine aw_aload0 dX7_addRoomTo_0 ?_
  refine aw_iconst (v := 1) dX7_addRoomTo_1 (by decide) ?_
  refine aw_iald (j := 1) dX7_addRoomTo_2 hT hn rfl (by decide) (sA_at.trans hnr) ?_
  refine aw_istore5 dX7_addRoomTo_3 (by decide) rfl ?_
  refine aw_aload0 dX7_addRoomTo_5 ?_
  refine aw_iload5 dX7_addRoomTo_6 ?_
  refine aw_iconst (v := 0) dX7_addRoomTo_8 (by decide) ?_
  refine aw_SI2 (k_roomAt _ _ 0) dX7_addRoomTo_9 sl_7_61 (by decide) (Nat.le_of_ble_eq_true rfl) (fun σ_9 r_9 h_9 => ?_)
  obtain ⟨rfl, rfl⟩ := h_9
  refine aw_iload1 dX7_addRoomTo_12 ?_
  refine aw_iast dX7_addRoomTo_13 hT hn rfl (by omega) ?_
  refine AW.eqs sI_sA ?_
  refine aw_aload0 dX7_addRoomTo_14 ?_
  refine aw_iload5 dX7_addRoomTo_15 ?_
  refine aw_iconst (v := 1) dX7_addRoomTo_17 (by decide) ?_
  refine aw_SI2 (k_roomAt _ _ 1) dX7_addRoomTo_18 sl_7_61 (by decide) (Nat.le_of_ble_eq_true rfl) (fun σ_18 r_18 h_18 => ?_)
  obtain ⟨rfl, rfl⟩ := h_18
  refine aw_iload2 dX7_addRoomTo_21 ?_
  refine aw_iast dX7_addRoomTo_22 hT hn rfl (by omega) ?_
  refine AW.eqs sI_sA ?_
  refine aw_aload0 dX7_addRoomTo_23 ?_
  refine aw_iload5 dX7_addRoomTo_24 ?_
  refine aw_iconst (v := 2) dX7_addRoomTo_26 (by decide) ?_
  refine aw_SI2 (k_roomAt _ _ 2) dX7_addRoomTo_27 sl_7_61 (by decide) (Nat.le_of_ble_eq_true rfl) (fun σ_27 r_27 h_27 => ?_)
  obtain ⟨rfl, rfl⟩ := h_27
  refine aw_iload3 dX7_addRoomTo_30 ?_
  refine aw_iast dX7_addRoomTo_31 hT hn rfl (by omega) ?_
  refine AW.eqs sI_sA ?_
  refine aw_aload0 dX7_addRoomTo_32 ?_
  refine aw_iload5 dX7_addRoomTo_33 ?_
  refine aw_iconst (v := 3) dX7_addRoomTo_35 (by decide) ?_
  refine aw_SI2 (k_roomAt _ _ 3) dX7_addRoomTo_36 sl_7_61 (by decide) (Nat.le_of_ble_eq_true rfl) (fun σ_36 r_36 h_36 => ?_)
  obtain ⟨rfl, rfl⟩ := h_36
  refine aw_iload4 dX7_addRoomTo_39 ?_
  refine aw_iast dX7_addRoomTo_41 hT hn rfl (by omega) ?_
  refine AW.eqs sI_sA ?_
  refine aw_aload0 dX7_addRoomTo_42 ?_
  refine aw_iconst (v := 1) dX7_addRoomTo_43 (by decide) ?_
  refine aw_dup2 dX7_addRoomTo_44 rfl rfl ?_
  refine aw_iald (j := 1) dX7_addRoomTo_45 hT hn rfl (by decide) sA_at ?_
  refine aw_iconst (v := 1) dX7_addRoomTo_46 (by decide) ?_
  refine aw_iadd dX7_addRoomTo_47 ?_
  refine aw_iast (j := 1) dX7_addRoomTo_48 hT hn rfl (by decide) ?_
  refine AW.eqs sI_sA ?_
  exact aw_vret dX7_addRoomTo_49 rfl (by decide) eV_of
def fZero (g : Rw) (b : Nat) : Nat → Rw
  | 0 => g
  | k + 1 => upd (fZero g b k) (31 + 10 * b + k) 0
def fBookTo (g : Rw) (nb : Nat) (r w f h t : Int32) : Rw :=
  let g5 := upd (upd (upd (upd (upd (fZero g nb 10) (31 + 10 * nb + 0) r) (31 + 10 * nb + 1) w) (31 + 10 * nb + 2) f) (31 + 10 * nb + 3) h) (31 + 10 * nb + 4) t
  upd g5 3 (g5 3 + 1)
theorem fZero_off {g : Rw} {b : Nat} : ∀ (k j : Nat), j < 31 + 10 * b ∨ 31 + 10 * b + k ≤ j → fZero g b k j = g j
  | 0, _, _ => rfl
  | k + 1, j, h => by
    show upd _ _ _ j = _
    rw [upd_n (by omega), fZero_off k j (by omega)]
theorem fZero_in {g : Rw} {b : Nat} : ∀ (k j : Nat), 31 + 10 * b ≤ j → j < 31 + 10 * b + k → fZero g b k j = 0
  | 0, _, _, _ => by omega
  | k + 1, j, h1, h2 => by
    show upd _ _ _ j = _
    by_cases h : j = 31 + 10 * b + k
    · rw [h, upd_s]
    · rw [upd_n h, fZero_in k j h1 (by omega)]
/-- places from a on move down by ten -/
def shF (g : Rw) (a k : Nat) : Rw := fun j => if a ≤ j ∧ j < a + k then g (j + 10) else g j
theorem shF_s {g : Rw} {a k : Nat} : upd (shF g a k) (a + k) (shF g a k (a + k + 10)) = shF g a (k + 1) := funext fun j => by
  unfold upd shF
  by_cases h : j = a + k
  · subst h; rw [if_pos rfl, if_neg (by omega), if_pos (by omega)]
  · rw [if_neg h]
    by_cases h2 : a ≤ j ∧ j < a + k
    · rw [if_pos h2, if_pos (by omega)]
    · rw [if_neg h2, if_neg (by omega)]
def fDrop (g : Rw) (b : Nat) : Rw :=
  let g1 := shF g (31 + 10 * b) (110 - 10 * b)
  upd g1 3 (g1 3 - 1)
set_option maxHeartbeats 4000000 in
theorem k_bookTo (σ : Sg) (row : Nat) (g : Rw) (nb : Nat) (r w f h t : Int32) (hT : cT row = .inr (0, 151)) (hn : row < NN) (hnb : g 3 = nI nb) (hb : nb < 12) : Ct yX7_bookTo cX7_bookTo mX7_bookTo 2 0 0 NN false (sA σ row g) [.ref row, .int r, .int w, .int f, .int h, .int t] NN (eV1 (sA σ row (fBookTo g nb r w f h t))) XF := by
  refine ct_of (ls0 := [some (.ref row), some (.int r), some (.int w), some (.int f), some (.int h), some (.int t), none, none]) 2 (by decide +kernel) rfl rfl (ndR (ndI (ndI (ndI (ndI (ndI nd0)))))) rfl (Nat.le_of_ble_eq_true rfl) (fun K => ?_)
  have L8 : ∀ (k : Nat) (i : Nat) (h1 : i ≤ 10) (h2 : 10 - i < k), AW K RX7 cX7_bookTo mX7_bookTo 2 0 0 (Qm K NN (eV1 (sA σ row (fBookTo g nb r w f h t))) XF 0 0) NN none (sA σ row (fZero g nb i)) 0 0 8 [some (.ref row), some (.int r), some (.int w), some (.int f), some (.int h), some (.int t), some (.int (nI nb)), some (.int (nI i))] [] := by
    intro k
    induction k with
    | zero => intro i h1 h2; exact absurd h2 (Nat.not_lt_zero _)
    | succ k ih =>
      intro i h1 h2
      refine aw_iload7 dX7_bookTo_8 ?_
      refine aw_bipush (v := 10) dX7_bookTo_10 (by decide) ?_
      refine aw_ic_ge (tgt := 31) dX7_bookTo_12 (by decide) (fun c_12 => ?_) (fun c_12 => ?_)
      · have hbb : i = 10 := by
          have := (nI_leI (a := 10) (by omega) (by omega)).mp c_12
          omega
        subst hbb
        refine aw_aload0 dX7_bookTo_31 ?_
        refine aw_iload6 dX7_bookTo_32 ?_
        refine aw_iconst (v := 0) dX7_bookTo_34 (by decide) ?_
        refine aw_SI2 (k_bookAt _ _ 0) dX7_bookTo_35 sl_7_49 (by decide) (Nat.le_of_ble_eq_true rfl) (fun σ_35 r_35 h_35 => ?_)
        obtain ⟨rfl, rfl⟩ := h_35
        refine aw_iload1 dX7_bookTo_38 ?_
        refine aw_iast dX7_bookTo_39 hT hn rfl (by omega) ?_
        refine AW.eqs sI_sA ?_
        refine aw_aload0 dX7_bookTo_40 ?_
        refine aw_iload6 dX7_bookTo_41 ?_
        refine aw_iconst (v := 1) dX7_bookTo_43 (by decide) ?_
        refine aw_SI2 (k_bookAt _ _ 1) dX7_bookTo_44 sl_7_49 (by decide) (Nat.le_of_ble_eq_true rfl) (fun σ_44 r_44 h_44 => ?_)
        obtain ⟨rfl, rfl⟩ := h_44
        refine aw_iload2 dX7_bookTo_47 ?_
        refine aw_iast dX7_bookTo_48 hT hn rfl (by omega) ?_
        refine AW.eqs sI_sA ?_
        refine aw_aload0 dX7_bookTo_49 ?_
        refine aw_iload6 dX7_bookTo_50 ?_
        refine aw_iconst (v := 2) dX7_bookTo_52 (by decide) ?_
        refine aw_SI2 (k_bookAt _ _ 2) dX7_bookTo_53 sl_7_49 (by decide) (Nat.le_of_ble_eq_true rfl) (fun σ_53 r_53 h_53 => ?_)
        obtain ⟨rfl, rfl⟩ := h_53
        refine aw_iload3 dX7_bookTo_56 ?_
        refine aw_iast dX7_bookTo_57 hT hn rfl (by omega) ?_
        refine AW.eqs sI_sA ?_
        refine aw_aload0 dX7_bookTo_58 ?_
        refine aw_iload6 dX7_bookTo_59 ?_
        refine aw_iconst (v := 3) dX7_bookTo_61 (by decide) ?_
        refine aw_SI2 (k_bookAt _ _ 3) dX7_bookTo_62 sl_7_49 (by decide) (Nat.le_of_ble_eq_true rfl) (fun σ_62 r_62 h_62 => ?_)
        obtain ⟨rfl, rfl⟩ := h_62
        refine aw_iload4 dX7_bookTo_65 ?_
        refine aw_iast dX7_bookTo_67 hT hn rfl (by omega) ?_
        refine AW.eqs sI_sA ?_
        refine aw_aload0 dX7_bookTo_68 ?_
        refine aw_iload6 dX7_bookTo_69 ?_
        refine aw_iconst (v := 4) dX7_bookTo_71 (by decide) ?_
        refine aw_SI2 (k_bookAt _ _ 4) dX7_bookTo_72 sl_7_49 (by decide) (Nat.le_of_ble_eq_true rfl) (fun σ_72 r_72 h_72 => ?_)
        obtain ⟨rfl, rfl⟩ := h_72
        refine aw_iload5 dX7_bookTo_75 ?_
        refine aw_iast dX7_bookTo_77 hT hn rfl (by omega) ?_
        refine AW.eqs sI_sA ?_
        refine aw_aload0 dX7_bookTo_78 ?_
        refine aw_iconst (v := 3) dX7_bookTo_79 (by decide) ?_
        refine aw_dup2 dX7_bookTo_80 rfl rfl ?_
        refine aw_iald (j := 3) dX7_bookTo_81 hT hn rfl (by decide) sA_at ?_
        refine aw_iconst (v := 1) dX7_bookTo_82 (by decide) ?_
        refine aw_iadd dX7_bookTo_83 ?_
        refine aw_iast (j := 3) dX7_bookTo_84 hT hn rfl (by decide) ?_
        refine AW.eqs sI_sA ?_
        exact aw_vret dX7_bookTo_85 rfl (by decide) eV_of
      · have hlt : i < 10 := by
          rcases Nat.lt_or_ge i 10 with q | q
          · exact q
          · exact absurd (nI_le q (by omega)) c_12
        refine aw_aload0 dX7_bookTo_15 ?_
        refine aw_iload6 dX7_bookTo_16 ?_
        refine aw_iload7 dX7_bookTo_18 ?_
        refine aw_SI2 (k_bookAt _ _ _) dX7_bookTo_20 sl_7_49 (by decide) (Nat.le_of_ble_eq_true rfl) (fun σ_20 r_20 h_20 => ?_)
        obtain ⟨rfl, rfl⟩ := h_20
        refine aw_iconst (v := 0) dX7_bookTo_23 (by decide) ?_
        refine aw_iast dX7_bookTo_24 hT hn rfl (by omega) ?_
        refine AW.eqs sI_sA ?_
        refine aw_iinc7 (w := nI (i + 1)) dX7_bookTo_25 (nI_1 i) (by decide) rfl ?_
        refine aw_goto (tgt := 8) dX7_bookTo_28 (by decide) ?_
        exact ih (i + 1) (by omega) (by omega)
  refine aw_aload0 dX7_bookTo_0 ?_
  refine aw_iconst (v := 3) dX7_bookTo_1 (by decide) ?_
  refine aw_iald (j := 3) dX7_bookTo_2 hT hn rfl (by decide) (sA_at.trans hnb) ?_
  refine aw_istore6 dX7_bookTo_3 (by decide) rfl ?_
  refine aw_iconst (v := 0) dX7_bookTo_5 (by decide) ?_
  refine aw_istore7 dX7_bookTo_6 (by decide) rfl ?_
  exact L8 11 0 (Nat.zero_le _) (by omega)
set_option maxHeartbeats 4000000 in
theorem k_drop (σ : Sg) (row : Nat) (g : Rw) (b : Nat) (hT : cT row = .inr (0, 151)) (hn : row < NN) (hb : b < 12) : Ct yX7_drop cX7_drop mX7_drop 2 0 0 NN false (sA σ row g) [.ref row, .int (nI b)] NN (eV1 (sA σ row (fDrop g b))) XF := by
  refine ct_of (ls0 := [some (.ref row), some (.int (nI b)), none]) 1 (by decide +kernel) rfl rfl (ndR (ndI nd0)) rfl (Nat.le_of_ble_eq_true rfl) (fun K => ?_)
  have L6 : ∀ (k : Nat) (i : Nat) (h1 : i ≤ 110 - 10 * b) (h2 : 110 - 10 * b - i < k), AW K RX7 cX7_drop mX7_drop 2 0 0 (Qm K NN (eV1 (sA σ row (fDrop g b))) XF 0 0) NN none (sA σ row (shF g (31 + 10 * b) i)) 0 0 6 [some (.ref row), some (.int (nI b)), some (.int (nI (31 + 10 * b + i)))] [] := by
    intro k
    induction k with
    | zero => intro i h1 h2; exact absurd h2 (Nat.not_lt_zero _)
    | succ k ih =>
      intro i h1 h2
      refine aw_iload2 dX7_drop_6 ?_
      refine aw_sipush (v := 141) dX7_drop_7 (by decide) ?_
      refine aw_ic_ge (tgt := 28) dX7_drop_10 (by decide) (fun c_10 => ?_) (fun c_10 => ?_)
      · have hbb : i = 110 - 10 * b := by
          have := (nI_leI (a := 141) (by omega) (by omega)).mp c_10
          omega
        subst hbb
        refine aw_aload0 dX7_drop_28 ?_
        refine aw_iconst (v := 3) dX7_drop_29 (by decide) ?_
        refine aw_dup2 dX7_drop_30 rfl rfl ?_
        refine aw_iald (j := 3) dX7_drop_31 hT hn rfl (by decide) sA_at ?_
        refine aw_iconst (v := 1) dX7_drop_32 (by decide) ?_
        refine aw_isub dX7_drop_33 ?_
        refine aw_iast (j := 3) dX7_drop_34 hT hn rfl (by decide) ?_
        refine AW.eqs sI_sA ?_
        exact aw_vret dX7_drop_35 rfl (by decide) eV_of
      · have hlt : i < 110 - 10 * b := by
          rcases Nat.lt_or_ge i (110 - 10 * b) with q | q
          · exact q
          · exact absurd (nI_le (a := 141) (by omega) (by omega)) c_10
        refine aw_aload0 dX7_drop_13 ?_
        refine aw_iload2 dX7_drop_14 ?_
        refine aw_aload0 dX7_drop_15 ?_
        refine aw_iload2 dX7_drop_16 ?_
        refine aw_bipush (v := 10) dX7_drop_17 (by decide) ?_
        refine aw_iadd dX7_drop_19 ?_
        refine aw_iald (j := 31 + 10 * b + i + 10) dX7_drop_20 hT hn (nI_add (31 + 10 * b + i) 10) (by omega) sA_at ?_
        refine aw_iast dX7_drop_21 hT hn rfl (by omega) ?_
        refine AW.eqs sI_sA ?_
        refine aw_iinc2 (w := nI (31 + 10 * b + (i + 1))) dX7_drop_22 (nI_1 _) (by decide) rfl ?_
        refine aw_goto (tgt := 6) dX7_drop_25 (by decide) ?_
        refine AW.eqs (congrArg (sA σ row) shF_s) ?_
        exact ih (i + 1) (by omega) (by omega)
  refine aw_iload1 dX7_drop_0 ?_
  refine aw_iconst (v := 0) dX7_drop_1 (by decide) ?_
  refine aw_SI2 (k_bookAt _ _ 0) dX7_drop_2 sl_7_49 (by decide) (Nat.le_of_ble_eq_true rfl) (fun σ_2 r_2 h_2 => ?_)
  obtain ⟨rfl, rfl⟩ := h_2
  refine aw_istore2 dX7_drop_5 (by decide) rfl ?_
  refine AW.eqs (σ' := sA σ row (shF g (31 + 10 * b) 0)) (congrArg (sA σ row) (funext fun j => (if_neg (by omega)).symm)) ?_
  exact L6 (111 - 10 * b) 0 (Nat.zero_le _) (by omega)
