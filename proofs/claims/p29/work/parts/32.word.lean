/-! the class: the reading of a text -/
def cS (σ : Sg) (a er : Int32) : Sg := sI (sI σ 1 2 a) 1 3 er
/-- place and error of the class against the model's place and whether all is good -/
def PR (a er : Int32) (s : PSt) : Prop := (s.2 = true ∧ a = nI s.1 ∧ er = -99) ∨ (s.2 = false ∧ er = nI s.1)
theorem sI_sH_out {σ : Sg} {h nr ng nb i k : Nat} {π : Nat → Nat} {g : Rw} {v : Int32} (hi : i < h ∨ h + 20 ≤ i) : sI (sH σ h π nr ng nb g) i k v = sH (sI σ i k v) h π nr ng nb g := by
  refine Prod.ext (funext fun x => funext fun y => ?_) rfl
  by_cases q : x < h ∨ h + 20 ≤ x
  · rw [sH_out q]
    show @ite _ _ _ _ _ = @ite _ _ _ _ _
    rw [sH_out q]
  · have qi : ¬ (x = i ∧ y = k) := fun z => q (by omega)
    show @ite _ _ _ _ _ = _
    rw [if_neg qi]
    have e : (sI σ i k v).1 x y = σ.1 x y := if_neg qi
    show @ite _ _ _ _ _ = @ite _ _ _ _ _
    rw [e]
theorem cS_at {σ : Sg} {a er b : Int32} : sI (cS σ a er) 1 2 b = cS σ b er := by
  refine Prod.ext (funext fun i => funext fun k => ?_) rfl
  by_cases h1 : i = 1 <;> by_cases h2 : k = 2 <;> by_cases h3 : k = 3 <;> simp_all [sI, cS]
theorem cS_er {σ : Sg} {a er b : Int32} : sI (cS σ a er) 1 3 b = cS σ a b := by
  refine Prod.ext (funext fun i => funext fun k => ?_) rfl
  by_cases h1 : i = 1 <;> by_cases h2 : k = 2 <;> by_cases h3 : k = 3 <;> simp_all [sI, cS]
def sgn (T : Rw) (n : Nat) (a : Int32) : Int32 := if 0 ≤ a ∧ a < nI n then T (cN a) else -1
set_option maxHeartbeats 4000000 in
theorem k3_sign (σ : Sg) (n : Nat) (a : Int32) (hr : σ.2.1 1 0 = some 2) (ha : σ.1 1 2 = a) (hn : σ.1 1 1 = nI n) (hn120 : n ≤ 120) : Ct yX3_sign cX3_sign mX3_sign 1 0 0 NN false σ [.ref 1] NN (eI1 σ (sgn (σ.1 2) n a)) XF := by
  refine ct_of (ls0 := [some (.ref 1)]) 0 (by decide +kernel) rfl rfl (ndR nd0) rfl (Nat.le_of_ble_eq_true rfl) (fun K => ?_)
  refine aw_aload0 dX3_sign_0 ?_
  refine aw_getI dX3_sign_1 fI_3_24 rfl (by decide) ha ?_
  refine aw_if_lt (tgt := 42) dX3_sign_4 (by decide) (fun c_4 => ?_) (fun c_4 => ?_)
  · refine aw_iconst (v := (-1)) dX3_sign_42 (by decide) ?_
    exact aw_iret dX3_sign_43 rfl (by decide) (eI_to (by first | exact if_neg (fun q => Int32.not_lt.mpr q.1 c_4) | exact if_neg (fun q => Int32.not_lt.mpr c_15 q.2) | exact absurd ((nI_leI (a := 120) (by omega) (by omega)).mp c_27) (by omega)))
  · refine aw_aload0 dX3_sign_7 ?_
    refine aw_getI dX3_sign_8 fI_3_24 rfl (by decide) ha ?_
    refine aw_aload0 dX3_sign_11 ?_
    refine aw_getI dX3_sign_12 fI_3_15 rfl (by decide) hn ?_
    refine aw_ic_ge (tgt := 42) dX3_sign_15 (by decide) (fun c_15 => ?_) (fun c_15 => ?_)
    · refine aw_iconst (v := (-1)) dX3_sign_42 (by decide) ?_
      exact aw_iret dX3_sign_43 rfl (by decide) (eI_to (by first | exact if_neg (fun q => Int32.not_lt.mpr q.1 c_4) | exact if_neg (fun q => Int32.not_lt.mpr c_15 q.2) | exact absurd ((nI_leI (a := 120) (by omega) (by omega)).mp c_27) (by omega)))
    · obtain ⟨k, hk, rfl⟩ := (isN_lt (n := n) (by omega)).mp ⟨Int32.not_lt.mp c_4, Int32.not_le.mp c_15⟩
      refine aw_aload0 dX3_sign_18 ?_
      refine aw_getI dX3_sign_19 fI_3_24 rfl (by decide) ha ?_
      refine aw_aload0 dX3_sign_22 ?_
      refine aw_getR dX3_sign_23 fR_3_9 rfl (by decide) hr ?_
      refine aw_alen dX3_sign_26 rfl (by decide) ?_
      refine aw_ic_ge (tgt := 42) dX3_sign_27 (by decide) (fun c_27 => ?_) (fun c_27 => ?_)
      · refine aw_iconst (v := (-1)) dX3_sign_42 (by decide) ?_
        exact aw_iret dX3_sign_43 rfl (by decide) (eI_to (by first | exact if_neg (fun q => Int32.not_lt.mpr q.1 c_4) | exact if_neg (fun q => Int32.not_lt.mpr c_15 q.2) | exact absurd ((nI_leI (a := 120) (by omega) (by omega)).mp c_27) (by omega)))
      · refine aw_aload0 dX3_sign_30 ?_
        refine aw_getR dX3_sign_31 fR_3_9 rfl (by decide) hr ?_
        refine aw_aload0 dX3_sign_34 ?_
        refine aw_getI dX3_sign_35 fI_3_24 rfl (by decide) ha ?_
        refine aw_iald (j := k) dX3_sign_38 rfl (by decide) rfl (by omega) rfl ?_
        refine aw_goto (tgt := 43) dX3_sign_39 (by decide) ?_
        exact aw_iret dX3_sign_43 rfl (by decide) (eI_to ((if_pos ⟨Int32.not_lt.mp c_4, Int32.not_le.mp c_15⟩).trans (by rw [cN, nI_clamp (by omega)])))
set_option maxHeartbeats 4000000 in
theorem k3_add (σ : Sg) (n : Nat) (c : Int32) (hr : σ.2.1 1 0 = some 2) (hn : σ.1 1 1 = nI n) (hn120 : n < 120) : Ct yX3_add cX3_add mX3_add 1 0 0 NN false σ [.ref 1, .int c] NN (eV1 (sI (sI σ 2 n c) 1 1 (nI n + 1))) XF := by
  refine ct_of (ls0 := [some (.ref 1), some (.int c)]) 0 (by decide +kernel) rfl rfl (ndR (ndI nd0)) rfl (Nat.le_of_ble_eq_true rfl) (fun K => ?_)
  refine aw_aload0 dX3_add_0 ?_
  refine aw_getI dX3_add_1 fI_3_15 rfl (by decide) hn ?_
  refine aw_aload0 dX3_add_4 ?_
  refine aw_getR dX3_add_5 fR_3_9 rfl (by decide) hr ?_
  refine aw_alen dX3_add_8 rfl (by decide) ?_
  refine aw_ic_ge (tgt := 32) dX3_add_9 (by decide) (fun c_9 => absurd c_9 (nI_ge hn120 (by omega))) (fun c_9 => ?_)
  refine aw_aload0 dX3_add_12 ?_
  refine aw_getR dX3_add_13 fR_3_9 rfl (by decide) hr ?_
  refine aw_aload0 dX3_add_16 ?_
  refine aw_getI dX3_add_17 fI_3_15 rfl (by decide) hn ?_
  refine aw_iload1 dX3_add_20 ?_
  refine aw_iast (j := n) dX3_add_21 rfl (by decide) rfl (by omega) ?_
  refine aw_aload0 dX3_add_22 ?_
  refine aw_dup dX3_add_23 rfl ?_
  refine aw_getI dX3_add_24 fI_3_15 rfl (by decide) hn ?_
  refine aw_iconst (v := 1) dX3_add_27 (by decide) ?_
  refine aw_iadd dX3_add_28 ?_
  refine aw_putI dX3_add_29 fP_3_15 rfl (by decide) ?_
  exact aw_vret dX3_add_32 rfl (by decide) eV_of
theorem PR_bad {a er : Int32} {s : PSt} (h : PR a er s) (hs : s.1 < 1000) (he : ¬ er = -99) : s.2 = false ∧ er = nI s.1 := h.resolve_left (fun q => he q.2.2)
theorem PR_good {a er : Int32} {s : PSt} (h : PR a er s) (hs : s.1 < 1000) (he : er = -99) : s.2 = true ∧ a = nI s.1 := by
  rcases h with q | q
  · exact ⟨q.1, q.2.1⟩
  · exact absurd (he.symm.trans q.2) (oI_ne hs)
theorem stp_bad {s : PSt} {y : Bool} (h : s.2 = false) : stp s y = s := by
  obtain ⟨p, o⟩ := s
  cases h
  rfl
set_option maxHeartbeats 4000000 in
theorem k3_require (σ : Sg) (h : Nat) (π : Nat → Nat) (nr ng nb : Nat) (g : Rw) (a er : Int32) (s : PSt) (y : Bool) (hh : 1 < h) (hP : PR a er s) (hs : s.1 < 1000) : Ct yX3_require cX3_require mX3_require 1 0 0 NN false (sH (cS σ a er) h π nr ng nb g) [.ref 1, .int (b01 y)] NN (rV fun σ2 => ∃ a2 er2, sH (cS σ a2 er2) h π nr ng nb g = σ2 ∧ PR a2 er2 (stp s y)) XF := by
  refine ct_of (ls0 := [some (.ref 1), some (.int (b01 y))]) 0 (by decide +kernel) rfl rfl (ndR (ndI nd0)) rfl (Nat.le_of_ble_eq_true rfl) (fun K => ?_)
  refine aw_aload0 dX3_require_0 ?_
  refine aw_getI dX3_require_1 fI_3_27 rfl (by decide) (show _ = er from (sH_out (by omega)).trans rfl) ?_
  refine aw_bipush (v := (-99)) dX3_require_4 (by decide) ?_
  refine aw_ic_eq (tgt := 10) dX3_require_6 (by decide) (fun c_6 => ?_) (fun c_6 => ?_)
  · refine aw_iload1 dX3_require_10 ?_
    refine aw_if_eq (tgt := 27) dX3_require_11 (by decide) (fun c_11 => ?_) (fun c_11 => ?_)
    · refine aw_aload0 dX3_require_27 ?_
      refine aw_aload0 dX3_require_28 ?_
      refine aw_getI dX3_require_29 fI_3_24 rfl (by decide) (show _ = a from (sH_out (by omega)).trans rfl) ?_
      refine aw_putI dX3_require_32 fP_3_27 rfl (by decide) ?_
      refine AW.eqs ((sI_sH_out (by omega)).trans (by rw [cS_er])) ?_
      exact aw_vret dX3_require_35 rfl (by decide) ⟨rfl, _, _, rfl, by
        obtain ⟨q1, q2⟩ := PR_good hP hs c_6
        first
          | (rw [b01_t c_11]; refine Or.inl ⟨by simp [stp, q1], ?_, c_6⟩; rw [q2, nI_1]; simp [stp, pN, q1])
          | (rw [b01_f c_11]; refine Or.inr ⟨by simp [stp], ?_⟩; rw [q2]; simp [stp, pN])⟩
    · refine aw_aload0 dX3_require_14 ?_
      refine aw_dup dX3_require_15 rfl ?_
      refine aw_getI dX3_require_16 fI_3_24 rfl (by decide) (show _ = a from (sH_out (by omega)).trans rfl) ?_
      refine aw_iconst (v := 1) dX3_require_19 (by decide) ?_
      refine aw_iadd dX3_require_20 ?_
      refine aw_putI dX3_require_21 fP_3_24 rfl (by decide) ?_
      refine AW.eqs ((sI_sH_out (by omega)).trans (by rw [cS_at])) ?_
      refine aw_goto (tgt := 35) dX3_require_24 (by decide) ?_
      exact aw_vret dX3_require_35 rfl (by decide) ⟨rfl, _, _, rfl, by
        obtain ⟨q1, q2⟩ := PR_good hP hs c_6
        first
          | (rw [b01_t c_11]; refine Or.inl ⟨by simp [stp, q1], ?_, c_6⟩; rw [q2, nI_1]; simp [stp, pN, q1])
          | (rw [b01_f c_11]; refine Or.inr ⟨by simp [stp], ?_⟩; rw [q2]; simp [stp, pN])⟩
  · exact aw_vret dX3_require_9 rfl (by decide) ⟨rfl, a, er, rfl, by obtain ⟨q1, q2⟩ := PR_bad hP hs c_6; rw [stp_bad q1]; exact Or.inr ⟨q1, q2⟩⟩
