/-! the reference: the reading of a text -/
abbrev PSt : Type := Nat × Bool
def pN (p : Nat) (o : Bool) : Nat := if o = true then p + 1 else p
def stp (s : PSt) (c : Bool) : PSt := (pN s.1 (s.2 && c), s.2 && c)
/-- the place, whether all is good so far, and the row that is read -/
def pS (σ : Sg) (s : PSt) (g : Rw) : Sg := sA (sI (sI σ 388 3 (nI s.1)) 388 4 (b01 s.2)) 390 g
theorem pS_good {σ : Sg} {s : PSt} {g : Rw} {o : Bool} : sI (pS σ s g) 388 4 (b01 o) = pS σ (s.1, o) g := by
  refine Prod.ext (funext fun i => funext fun k => ?_) rfl
  by_cases h1 : i = 388 <;> by_cases h2 : i = 390 <;> by_cases h3 : k = 3 <;> by_cases h4 : k = 4 <;> simp_all [sA, sI, pS]
theorem pS_spot {σ : Sg} {s : PSt} {g : Rw} {p : Nat} : sI (pS σ s g) 388 3 (nI p) = pS σ (p, s.2) g := by
  refine Prod.ext (funext fun i => funext fun k => ?_) rfl
  by_cases h1 : i = 388 <;> by_cases h2 : i = 390 <;> by_cases h3 : k = 3 <;> by_cases h4 : k = 4 <;> simp_all [sA, sI, pS]
theorem b01_01 {o : Bool} : b01 o = 0 ∨ b01 o = 1 := by cases o <;> simp [b01]
theorem b01_t {o : Bool} (h : ¬ b01 o = 0) : o = true := by cases o <;> simp_all [b01]
theorem b01_f {o : Bool} (h : b01 o = 0) : o = false := by cases o <;> simp_all [b01]
theorem bt1 {o : Bool} (h : ¬ b01 o = 0) : 1 = b01 o := by rw [b01_t h]; rfl
theorem bf0 {o : Bool} (h : b01 o = 0) : 0 = b01 o := h.symm
theorem nb01 {o : Bool} (h : b01 o = 0) : ¬ o = true := by rw [b01_f h]; decide
theorem bor1 {x y : Bool} (h : ¬ b01 x = 0) : 1 = b01 (x || y) := by rw [b01_t h]; rfl
theorem bor2 {x y : Bool} (h : b01 x = 0) (h2 : ¬ b01 y = 0) : 1 = b01 (x || y) := by rw [b01_f h, b01_t h2]; rfl
theorem bor0 {x y : Bool} (h : b01 x = 0) (h2 : b01 y = 0) : 0 = b01 (x || y) := by rw [b01_f h, b01_f h2]; rfl
theorem b01_D1 {p : Prop} [Decidable p] (h : p) : 1 = b01 (decide p) := by simp [b01, h]
theorem b01_D0 {p : Prop} [Decidable p] (h : ¬ p) : 0 = b01 (decide p) := by simp [b01, h]
theorem pN_add {p : Nat} {o : Bool} : nI p + b01 o = nI (pN p o) := by
  cases o
  · show nI p + 0 = nI p
    exact nI_add p 0
  · show nI p + 1 = nI (p + 1)
    exact nI_1 p
/-- the sign at the place is this one -/
def nx (T : Rw) (n p : Nat) (c : Int32) : Bool := decide (p < n) && decide (T p = c)
def dV (T : Rw) (n p : Nat) : Int32 := if p < n then T p - 48 else -99
def gD (T : Rw) (n p : Nat) (lo hi : Int32) : Bool := decide (0 ≤ dV T n p ∧ dV T n p ≤ 9) && decide (lo ≤ dV T n p ∧ dV T n p ≤ hi)
def dig (T : Rw) (n : Nat) (lo hi : Int32) (s : PSt) : PSt := stp s (gD T n s.1 lo hi)
def digv (T : Rw) (n : Nat) (lo hi : Int32) (s : PSt) : Int32 := if (dig T n lo hi s).2 = true then dV T n s.1 else lo
def lo2 (lo t : Int32) : Int32 := if lo - 10 * t < 0 then 0 else lo - 10 * t
def hi2 (hi t : Int32) : Int32 := if hi - 10 * t ≤ 9 then hi - 10 * t else 9
def two (T : Rw) (n : Nat) (lo hi : Int32) (s : PSt) : PSt := dig T n (lo2 lo (digv T n (lo / 10) (hi / 10) s)) (hi2 hi (digv T n (lo / 10) (hi / 10) s)) (dig T n (lo / 10) (hi / 10) s)
def twov (T : Rw) (n : Nat) (lo hi : Int32) (s : PSt) : Int32 := 10 * digv T n (lo / 10) (hi / 10) s + digv T n (lo2 lo (digv T n (lo / 10) (hi / 10) s)) (hi2 hi (digv T n (lo / 10) (hi / 10) s)) (dig T n (lo / 10) (hi / 10) s)
/-- places go on within the text -/
theorem stp_le {s : PSt} {c : Bool} {n : Nat} (hs : s.1 ≤ n) (h : c = true → s.1 < n) : (stp s c).1 ≤ n := by
  unfold stp pN
  cases c
  · simp; exact hs
  · have := h rfl
    simp
    split <;> omega
theorem gD_lt {T : Rw} {n p : Nat} {lo hi : Int32} (h : gD T n p lo hi = true) : p < n := by
  rcases Nat.lt_or_ge p n with q | q
  · exact q
  · have e : dV T n p = -99 := if_neg (Nat.not_lt.mpr q)
    rw [gD, e, show decide ((0 : Int32) ≤ -99 ∧ (-99 : Int32) ≤ 9) = false from by decide, Bool.false_and] at h
    cases h
theorem nx_lt {T : Rw} {n p : Nat} {c : Int32} (h : nx T n p c = true) : p < n := by
  simp [nx] at h
  exact h.1
theorem dig_le {T : Rw} {n : Nat} {lo hi : Int32} {s : PSt} (hs : s.1 ≤ n) : (dig T n lo hi s).1 ≤ n := stp_le hs gD_lt
theorem two_le {T : Rw} {n : Nat} {lo hi : Int32} {s : PSt} (hs : s.1 ≤ n) : (two T n lo hi s).1 ≤ n := dig_le (dig_le hs)
set_option maxHeartbeats 4000000 in
theorem k_isNext (σ : Sg) (s : PSt) (g : Rw) (n : Nat) (c : Int32) (hM : MS σ) (hn : σ.1 388 2 = nI n) (hn120 : n ≤ 120) (hs : s.1 ≤ n) : Ct yX7_isNext cX7_isNext mX7_isNext 1 0 0 NN false (pS σ s g) [.ref 388, .int c] NN (eI1 (pS σ s g) (b01 (nx (σ.1 389) n s.1 c))) XF := by
  refine ct_of (ls0 := [some (.ref 388), some (.int c)]) 0 (by decide +kernel) rfl rfl (ndR (ndI nd0)) rfl (Nat.le_of_ble_eq_true rfl) (fun K => ?_)
  refine aw_aload0 dX7_isNext_0 ?_
  refine aw_getI dX7_isNext_1 fI_7_114 rfl (by decide) (show _ = nI s.1 from rfl) ?_
  refine aw_aload0 dX7_isNext_4 ?_
  refine aw_getI dX7_isNext_5 fI_7_107 rfl (by decide) hn ?_
  refine aw_ic_ge (tgt := 28) dX7_isNext_8 (by decide) (fun c_8 => ?_) (fun c_8 => ?_)
  · refine aw_iconst (v := 0) dX7_isNext_28 (by decide) ?_
    exact aw_zret dX7_isNext_29 rfl (by decide) (by decide) (eI_to (show b01 _ = 0 from by
      first
        | (rw [nx, decide_eq_false c_21, Bool.and_false]; rfl)
        | (rw [nx, decide_eq_false (Nat.not_lt.mpr ((nI_leI (by omega) (by omega)).mp c_8)), Bool.false_and]; rfl)))
  · have hlt : s.1 < n := by have := mt (nI_leI (by omega) (by omega)).mpr c_8; omega
    refine aw_aload0 dX7_isNext_11 ?_
    refine aw_getR dX7_isNext_12 fR_7_7 rfl (by decide) hM.script ?_
    refine aw_aload0 dX7_isNext_15 ?_
    refine aw_getI dX7_isNext_16 fI_7_114 rfl (by decide) (show _ = nI s.1 from rfl) ?_
    refine aw_iald (j := s.1) dX7_isNext_19 rfl (by decide) rfl (by omega) (show _ = σ.1 389 s.1 from rfl) ?_
    refine aw_iload1 dX7_isNext_20 ?_
    refine aw_ic_ne (tgt := 28) dX7_isNext_21 (by decide) (fun c_21 => ?_) (fun c_21 => ?_)
    · refine aw_iconst (v := 0) dX7_isNext_28 (by decide) ?_
      exact aw_zret dX7_isNext_29 rfl (by decide) (by decide) (eI_to (show b01 _ = 0 from by
        first
          | (rw [nx, decide_eq_false c_21, Bool.and_false]; rfl)
          | (rw [nx, decide_eq_false (Nat.not_lt.mpr ((nI_leI (by omega) (by omega)).mp c_8)), Bool.false_and]; rfl)))
    · refine aw_iconst (v := 1) dX7_isNext_24 (by decide) ?_
      refine aw_goto (tgt := 29) dX7_isNext_25 (by decide) ?_
      exact aw_zret dX7_isNext_29 rfl (by decide) (by decide) (eI_to (show b01 _ = 1 from by rw [nx, decide_eq_true hlt, decide_eq_true c_21]; rfl))
set_option maxHeartbeats 4000000 in
theorem k_accept (σ : Sg) (s : PSt) (g : Rw) (y : Bool) : Ct yX7_accept cX7_accept mX7_accept 1 0 0 NN false (pS σ s g) [.ref 388, .int (b01 y)] NN (eV1 (pS σ (stp s y) g)) XF := by
  refine ct_of (ls0 := [some (.ref 388), some (.int (b01 y))]) 0 (by decide +kernel) rfl rfl (ndR (ndI nd0)) rfl (Nat.le_of_ble_eq_true rfl) (fun K => ?_)
  refine aw_aload0 dX7_accept_0 ?_
  refine AW.tern0 (E := (b01 (s.2 && y))) (pc2 := 17) (fun x_17 hx_17 => ?_) (fun J_17 => ?_)
  · subst hx_17
    refine aw_putZ dX7_accept_17 fP_7_117 rfl (by decide) b01_01 ?_
    refine AW.eqs pS_good ?_
    refine aw_aload0 dX7_accept_20 ?_
    refine aw_dup dX7_accept_21 rfl ?_
    refine aw_getI dX7_accept_22 fI_7_114 rfl (by decide) (show _ = nI s.1 from rfl) ?_
    refine AW.tern0 (E := (b01 (s.2 && y))) (pc2 := 37) (fun x_37 hx_37 => ?_) (fun J_37 => ?_)
    · subst hx_37
      refine aw_iadd dX7_accept_37 ?_
      rw [pN_add]
      refine aw_putI dX7_accept_38 fP_7_114 rfl (by decide) ?_
      refine AW.eqs pS_spot ?_
      exact aw_vret dX7_accept_41 rfl (by decide) eV_of
    · refine aw_aload0 dX7_accept_25 ?_
      refine aw_getI dX7_accept_26 fI_7_117 rfl (by decide) (show _ = b01 (s.2 && y) from rfl) ?_
      refine aw_if_eq (tgt := 36) dX7_accept_29 (by decide) (fun c_29 => ?_) (fun c_29 => ?_)
      · refine aw_iconst (v := 0) dX7_accept_36 (by decide) ?_
        exact J_37 _ (by first | (rw [b01_f c_29]; rfl) | (rw [b01_t c_29]; rfl))
      · refine aw_iconst (v := 1) dX7_accept_32 (by decide) ?_
        refine aw_goto (tgt := 37) dX7_accept_33 (by decide) ?_
        exact J_37 _ (by first | (rw [b01_f c_29]; rfl) | (rw [b01_t c_29]; rfl))
  · refine aw_aload0 dX7_accept_1 ?_
    refine aw_getI dX7_accept_2 fI_7_117 rfl (by decide) (show _ = b01 s.2 from rfl) ?_
    refine aw_if_eq (tgt := 16) dX7_accept_5 (by decide) (fun c_5 => ?_) (fun c_5 => ?_)
    · refine aw_iconst (v := 0) dX7_accept_16 (by decide) ?_
      exact J_17 _ (by first | (rw [b01_f c_5]; rfl) | (rw [b01_f c_9, Bool.and_false]; rfl) | (rw [b01_t c_5, b01_t c_9]; rfl))
    · refine aw_iload1 dX7_accept_8 ?_
      refine aw_if_eq (tgt := 16) dX7_accept_9 (by decide) (fun c_9 => ?_) (fun c_9 => ?_)
      · refine aw_iconst (v := 0) dX7_accept_16 (by decide) ?_
        exact J_17 _ (by first | (rw [b01_f c_5]; rfl) | (rw [b01_f c_9, Bool.and_false]; rfl) | (rw [b01_t c_5, b01_t c_9]; rfl))
      · refine aw_iconst (v := 1) dX7_accept_12 (by decide) ?_
        refine aw_goto (tgt := 17) dX7_accept_13 (by decide) ?_
        exact J_17 _ (by first | (rw [b01_f c_5]; rfl) | (rw [b01_f c_9, Bool.and_false]; rfl) | (rw [b01_t c_5, b01_t c_9]; rfl))
set_option maxHeartbeats 4000000 in
theorem k_digit (σ : Sg) (s : PSt) (g : Rw) (n : Nat) (lo hi : Int32) (hM : MS σ) (hn : σ.1 388 2 = nI n) (hn120 : n ≤ 120) (hs : s.1 ≤ n) : Ct yX7_digit cX7_digit mX7_digit 2 0 0 NN false (pS σ s g) [.ref 388, .int lo, .int hi] NN (rI fun σ2 v => pS σ (dig (σ.1 389) n lo hi s) g = σ2 ∧ digv (σ.1 389) n lo hi s = v) XF := by
  refine ct_of (ls0 := [some (.ref 388), some (.int lo), some (.int hi), none]) 1 (by decide +kernel) rfl rfl (ndR (ndI (ndI nd0))) rfl (Nat.le_of_ble_eq_true rfl) (fun K => ?_)
  refine AW.tern0 (E := (dV (σ.1 389) n s.1)) (pc2 := 28) (fun x_28 hx_28 => ?_) (fun J_28 => ?_)
  · subst hx_28
    refine aw_istore3 dX7_digit_28 (by decide) rfl ?_
    refine aw_aload0 dX7_digit_29 ?_
    refine AW.tern0 (E := (b01 (gD (σ.1 389) n s.1 lo hi))) (pc2 := 59) (fun x_59 hx_59 => ?_) (fun J_59 => ?_)
    · subst hx_59
      refine aw_VV1 (k_accept _ _ _ _) dX7_digit_59 vl_7_123 rfl (by decide) (by decide) (Nat.le_of_ble_eq_true rfl) (fun σ_59 h_59 => ?_)
      obtain rfl := h_59
      refine aw_aload0 dX7_digit_62 ?_
      refine aw_getI dX7_digit_63 fI_7_117 rfl (by decide) (show _ = b01 (dig (σ.1 389) n lo hi s).2 from rfl) ?_
      refine aw_if_eq (tgt := 73) dX7_digit_66 (by decide) (fun c_66 => ?_) (fun c_66 => ?_)
      · refine aw_iload1 dX7_digit_73 ?_
        exact aw_iret dX7_digit_74 rfl (by decide) ⟨_, rfl, rfl, if_neg (by rw [b01_f c_66]; decide)⟩
      · refine aw_iload3 dX7_digit_69 ?_
        refine aw_goto (tgt := 74) dX7_digit_70 (by decide) ?_
        exact aw_iret dX7_digit_74 rfl (by decide) ⟨_, rfl, rfl, if_pos (b01_t c_66)⟩
    · refine aw_iload3 dX7_digit_30 ?_
      refine aw_i2l dX7_digit_31 ?_
      refine aw_lconst (v := 0) dX7_digit_32 (by decide) ?_
      refine aw_ldc2 dX7_digit_33 kl_7_121 ?_
      refine aw_SI3 (k_inC _ _ _ _ 0 9 rfl rfl) dX7_digit_36 sl_7_103 (by decide) (Nat.le_of_ble_eq_true rfl) (fun σ_36 r_36 h_36 => ?_)
      obtain ⟨rfl, h_36⟩ := h_36
      rcases h_36 with ⟨rfl, p_36⟩ | ⟨rfl, p_36⟩
      · refine aw_if_eq (tgt := 58) dX7_digit_39 (by decide) (fun c_39 => absurd c_39 (by decide)) (fun _ => ?_)
        refine aw_iload3 dX7_digit_42 ?_
        refine aw_i2l dX7_digit_43 ?_
        refine aw_iload1 dX7_digit_44 ?_
        refine aw_i2l dX7_digit_45 ?_
        refine aw_iload2 dX7_digit_46 ?_
        refine aw_i2l dX7_digit_47 ?_
        refine aw_SI3 (k_inC _ _ _ _ lo hi rfl rfl) dX7_digit_48 sl_7_103 (by decide) (Nat.le_of_ble_eq_true rfl) (fun σ_48 r_48 h_48 => ?_)
        obtain ⟨rfl, h_48⟩ := h_48
        rcases h_48 with ⟨rfl, p_48⟩ | ⟨rfl, p_48⟩
        · refine aw_if_eq (tgt := 58) dX7_digit_51 (by decide) (fun c_51 => absurd c_51 (by decide)) (fun _ => ?_)
          refine aw_iconst (v := 1) dX7_digit_54 (by decide) ?_
          refine aw_goto (tgt := 59) dX7_digit_55 (by decide) ?_
          exact J_59 _ (by first | (rw [gD, decide_eq_true p_36, decide_eq_true p_48]; rfl) | (rw [gD, decide_eq_false p_36, Bool.false_and]; rfl) | (rw [gD, decide_eq_false p_48, Bool.and_false]; rfl))
        · refine aw_if_eq (tgt := 58) dX7_digit_51 (by decide) (fun _ => ?_) (fun c_51 => absurd c_51 (by decide))
          refine aw_iconst (v := 0) dX7_digit_58 (by decide) ?_
          exact J_59 _ (by first | (rw [gD, decide_eq_true p_36, decide_eq_true p_48]; rfl) | (rw [gD, decide_eq_false p_36, Bool.false_and]; rfl) | (rw [gD, decide_eq_false p_48, Bool.and_false]; rfl))
      · refine aw_if_eq (tgt := 58) dX7_digit_39 (by decide) (fun _ => ?_) (fun c_39 => absurd c_39 (by decide))
        refine aw_iconst (v := 0) dX7_digit_58 (by decide) ?_
        exact J_59 _ (by first | (rw [gD, decide_eq_true p_36, decide_eq_true p_48]; rfl) | (rw [gD, decide_eq_false p_36, Bool.false_and]; rfl) | (rw [gD, decide_eq_false p_48, Bool.and_false]; rfl))
  · refine aw_aload0 dX7_digit_0 ?_
    refine aw_getI dX7_digit_1 fI_7_114 rfl (by decide) (show _ = nI s.1 from rfl) ?_
    refine aw_aload0 dX7_digit_4 ?_
    refine aw_getI dX7_digit_5 fI_7_107 rfl (by decide) hn ?_
    refine aw_ic_ge (tgt := 26) dX7_digit_8 (by decide) (fun c_8 => ?_) (fun c_8 => ?_)
    · refine aw_bipush (v := (-99)) dX7_digit_26 (by decide) ?_
      exact J_28 _ (by first | exact (if_pos hlt).symm | exact (if_neg (Nat.not_lt.mpr ((nI_leI (by omega) (by omega)).mp c_8))).symm)
    · have hlt : s.1 < n := by have := mt (nI_leI (by omega) (by omega)).mpr c_8; omega
      refine aw_aload0 dX7_digit_11 ?_
      refine aw_getR dX7_digit_12 fR_7_7 rfl (by decide) hM.script ?_
      refine aw_aload0 dX7_digit_15 ?_
      refine aw_getI dX7_digit_16 fI_7_114 rfl (by decide) (show _ = nI s.1 from rfl) ?_
      refine aw_iald (j := s.1) dX7_digit_19 rfl (by decide) rfl (by omega) (show _ = σ.1 389 s.1 from rfl) ?_
      refine aw_bipush (v := 48) dX7_digit_20 (by decide) ?_
      refine aw_isub dX7_digit_22 ?_
      refine aw_goto (tgt := 28) dX7_digit_23 (by decide) ?_
      exact J_28 _ (by first | exact (if_pos hlt).symm | exact (if_neg (Nat.not_lt.mpr ((nI_leI (by omega) (by omega)).mp c_8))).symm)
set_option maxHeartbeats 4000000 in
theorem k_two (σ : Sg) (s : PSt) (g : Rw) (n : Nat) (lo hi : Int32) (hM : MS σ) (hn : σ.1 388 2 = nI n) (hn120 : n ≤ 120) (hs : s.1 ≤ n) : Ct yX7_two cX7_two mX7_two 3 0 0 NN false (pS σ s g) [.ref 388, .int lo, .int hi] NN (rI fun σ2 v => pS σ (two (σ.1 389) n lo hi s) g = σ2 ∧ twov (σ.1 389) n lo hi s = v) XF := by
  refine ct_of (ls0 := [some (.ref 388), some (.int lo), some (.int hi), none, none, none]) 3 (by decide +kernel) rfl rfl (ndR (ndI (ndI nd0))) rfl (Nat.le_of_ble_eq_true rfl) (fun K => ?_)
  refine aw_aload0 dX7_two_0 ?_
  refine aw_iload1 dX7_two_1 ?_
  refine aw_bipush (v := 10) dX7_two_2 (by decide) ?_
  refine aw_idiv dX7_two_4 (by decide) ?_
  refine aw_iload2 dX7_two_5 ?_
  refine aw_bipush (v := 10) dX7_two_6 (by decide) ?_
  refine aw_idiv dX7_two_8 (by decide) ?_
  refine aw_VI2 (k_digit _ _ _ _ _ _ hM hn hn120 hs) dX7_two_9 vl_7_127 rfl (by decide) (by decide) (Nat.le_of_ble_eq_true rfl) (fun σ_9 r_9 h_9 => ?_)
  obtain ⟨rfl, rfl⟩ := h_9
  refine aw_istore3 dX7_two_12 (by decide) rfl ?_
  refine aw_iload1 dX7_two_13 ?_
  refine aw_bipush (v := 10) dX7_two_14 (by decide) ?_
  refine aw_iload3 dX7_two_16 ?_
  refine aw_imul dX7_two_17 ?_
  refine aw_isub dX7_two_18 ?_
  refine aw_istore4 dX7_two_19 (by decide) rfl ?_
  refine aw_iload2 dX7_two_21 ?_
  refine aw_bipush (v := 10) dX7_two_22 (by decide) ?_
  refine aw_iload3 dX7_two_24 ?_
  refine aw_imul dX7_two_25 ?_
  refine aw_isub dX7_two_26 ?_
  refine aw_istore5 dX7_two_27 (by decide) rfl ?_
  refine aw_bipush (v := 10) dX7_two_29 (by decide) ?_
  refine aw_iload3 dX7_two_31 ?_
  refine aw_imul dX7_two_32 ?_
  refine aw_aload0 dX7_two_33 ?_
  refine AW.tern0 (E := (lo2 lo (digv (σ.1 389) n (lo / 10) (hi / 10) s))) (pc2 := 45) (fun x_45 hx_45 => ?_) (fun J_45 => ?_)
  · subst hx_45
    refine AW.tern0 (E := (hi2 hi (digv (σ.1 389) n (lo / 10) (hi / 10) s))) (pc2 := 59) (fun x_59 hx_59 => ?_) (fun J_59 => ?_)
    · subst hx_59
      refine aw_VI2 (k_digit _ _ _ _ _ _ hM hn hn120 (dig_le hs)) dX7_two_59 vl_7_127 rfl (by decide) (by decide) (Nat.le_of_ble_eq_true rfl) (fun σ_59 r_59 h_59 => ?_)
      obtain ⟨rfl, rfl⟩ := h_59
      refine aw_iadd dX7_two_62 ?_
      exact aw_iret dX7_two_63 rfl (by decide) ⟨_, rfl, rfl, rfl⟩
    · refine aw_iload5 dX7_two_45 ?_
      refine aw_bipush (v := 9) dX7_two_47 (by decide) ?_
      refine aw_ic_le (tgt := 57) dX7_two_49 (by decide) (fun c_49 => ?_) (fun c_49 => ?_)
      · 
        refine aw_iload5 dX7_two_57 ?_
        exact J_59 _ (by first | exact (if_pos c_49).symm | exact (if_neg c_49).symm)
      · refine aw_bipush (v := 9) dX7_two_52 (by decide) ?_
        refine aw_goto (tgt := 59) dX7_two_54 (by decide) ?_
        exact J_59 _ (by first | exact (if_pos c_49).symm | exact (if_neg c_49).symm)
  · refine aw_iload4 dX7_two_34 ?_
    refine aw_if_ge (tgt := 43) dX7_two_36 (by decide) (fun c_36 => ?_) (fun c_36 => ?_)
    · refine aw_iload4 dX7_two_43 ?_
      exact J_45 _ (by first | exact (if_pos (Int32.not_le.mp c_36)).symm | exact (if_neg (Int32.not_lt.mpr c_36)).symm)
    · refine aw_iconst (v := 0) dX7_two_39 (by decide) ?_
      refine aw_goto (tgt := 45) dX7_two_40 (by decide) ?_
      exact J_45 _ (by first | exact (if_pos (Int32.not_le.mp c_36)).symm | exact (if_neg (Int32.not_lt.mpr c_36)).symm)
theorem stp_ok {s : PSt} {c : Bool} (h : (stp s c).2 = true) : s.2 = true ∧ c = true := by
  simp [stp] at h
  exact h
theorem dig_ok {T : Rw} {n : Nat} {lo hi : Int32} {s : PSt} (h : (dig T n lo hi s).2 = true) : s.2 = true ∧ gD T n s.1 lo hi = true := stp_ok h
theorem two_ok {T : Rw} {n : Nat} {lo hi : Int32} {s : PSt} (h : (two T n lo hi s).2 = true) : (dig T n (lo / 10) (hi / 10) s).2 = true := (dig_ok h).1
/-! a room -/
abbrev rr0 (s : PSt) (nr : Nat) : PSt := stp s (decide (nr < 4))
abbrev rr1 (T : Rw) (n : Nat) (s : PSt) (nr : Nat) : PSt := dig T n 1 9 (rr0 s nr)
abbrev rr2 (T : Rw) (n : Nat) (s : PSt) (nr : Nat) : PSt := dig T n 1 9 (rr1 T n s nr)
abbrev rr3 (T : Rw) (n : Nat) (s : PSt) (nr : Nat) : PSt := dig T n 1 9 (rr2 T n s nr)
abbrev rr4 (T : Rw) (n : Nat) (s : PSt) (nr : Nat) : PSt := two T n 0 30 (rr3 T n s nr)
abbrev rrN (T : Rw) (n : Nat) (s : PSt) (g : Rw) (nr : Nat) : Rw := fAddRoom g nr (digv T n 1 9 (rr0 s nr)) (digv T n 1 9 (rr1 T n s nr)) (digv T n 1 9 (rr2 T n s nr)) (twov T n 0 30 (rr3 T n s nr))
def rrG (T : Rw) (n : Nat) (s : PSt) (g : Rw) (nr : Nat) : Rw := if (rr4 T n s nr).2 = true then rrN T n s g nr else g
theorem rr_nr {T : Rw} {n : Nat} {s : PSt} {nr : Nat} (h : (rr4 T n s nr).2 = true) : nr < 4 := by
  have h1 := (dig_ok (dig_ok (dig_ok (dig_ok (two_ok h)).1).1).1).1
  exact of_decide_eq_true (stp_ok h1).2
/-! outdoors -/
abbrev ro0 (T : Rw) (n : Nat) (s : PSt) : PSt := stp s (nx T n s.1 111)
abbrev roy (T : Rw) (n : Nat) (s : PSt) : Bool := nx T n (ro0 T n s).1 45
abbrev ro1 (T : Rw) (n : Nat) (s : PSt) : PSt := stp (ro0 T n s) (roy T n s || nx T n (ro0 T n s).1 43)
abbrev roh (T : Rw) (n : Nat) (s : PSt) : Int32 := if roy T n s = true then 20 else 25
abbrev ro2 (T : Rw) (n : Nat) (s : PSt) : PSt := two T n (b01 (roy T n s)) (roh T n s) (ro1 T n s)
abbrev rov (T : Rw) (n : Nat) (s : PSt) : Int32 := if roy T n s = true then -twov T n (b01 (roy T n s)) (roh T n s) (ro1 T n s) else twov T n (b01 (roy T n s)) (roh T n s) (ro1 T n s)
def roG (T : Rw) (n : Nat) (s : PSt) (g : Rw) : Rw := if (ro2 T n s).2 = true then upd g 4 (rov T n s) else g
theorem ro1_le {T : Rw} {n : Nat} {s : PSt} (hs : s.1 ≤ n) : (ro1 T n s).1 ≤ n := stp_le (stp_le hs nx_lt) (fun h => by
  rcases Bool.or_eq_true_iff.mp h with q | q
  · exact nx_lt q
  · exact nx_lt q)
theorem nI_nz {n : Nat} (h : ¬ nI n ≤ 0) : 0 < n := by
  rcases Nat.eq_zero_or_pos n with q | q
  · exact absurd (by rw [q]; decide) h
  · exact q
/-! a booking -/
abbrev rbc (nr ng nb : Nat) : Bool := decide (nb < 12) && (decide (0 < nr) && decide (0 < ng))
abbrev rb0 (s : PSt) (nr ng nb : Nat) : PSt := stp s (rbc nr ng nb)
abbrev rb1 (T : Rw) (n : Nat) (s : PSt) (nr ng nb : Nat) : PSt := dig T n 0 (nI nr - 1) (rb0 s nr ng nb)
abbrev rb2 (T : Rw) (n : Nat) (s : PSt) (nr ng nb : Nat) : PSt := dig T n 0 (nI ng - 1) (rb1 T n s nr ng nb)
abbrev rb3 (T : Rw) (n : Nat) (s : PSt) (nr ng nb : Nat) : PSt := dig T n 0 1 (rb2 T n s nr ng nb)
abbrev rb4 (T : Rw) (n : Nat) (s : PSt) (nr ng nb : Nat) : PSt := two T n 0 99 (rb3 T n s nr ng nb)
abbrev rb5 (T : Rw) (n : Nat) (s : PSt) (nr ng nb : Nat) : PSt := two T n 1 12 (rb4 T n s nr ng nb)
abbrev rb6 (T : Rw) (n : Nat) (s : PSt) (nr ng nb : Nat) : PSt := two T n 12 25 (rb5 T n s nr ng nb)
abbrev rbr (T : Rw) (n : Nat) (s : PSt) (nr ng nb : Nat) : Int32 := digv T n 0 (nI nr - 1) (rb0 s nr ng nb)
abbrev rbw (T : Rw) (n : Nat) (s : PSt) (nr ng nb : Nat) : Int32 := digv T n 0 (nI ng - 1) (rb1 T n s nr ng nb)
abbrev rbf (T : Rw) (n : Nat) (s : PSt) (nr ng nb : Nat) : Int32 := 100 * digv T n 0 1 (rb2 T n s nr ng nb) + twov T n 0 99 (rb3 T n s nr ng nb)
abbrev rbh (T : Rw) (n : Nat) (s : PSt) (nr ng nb : Nat) : Int32 := twov T n 1 12 (rb4 T n s nr ng nb)
abbrev rbt (T : Rw) (n : Nat) (s : PSt) (nr ng nb : Nat) : Int32 := twov T n 12 25 (rb5 T n s nr ng nb)
noncomputable def rbq (T : Rw) (n : Nat) (s : PSt) (g : Rw) (nr ng nb : Nat) : Bool := @decide (fFree g (rbr T n s nr ng nb) (rbf T n s nr ng nb) (rbh T n s nr ng nb) nb) (Classical.propDecidable _)
noncomputable def rbS (T : Rw) (n : Nat) (s : PSt) (g : Rw) (nr ng nb : Nat) : PSt := if (rb6 T n s nr ng nb).2 = true then (if rbq T n s g nr ng nb = true then ((rb6 T n s nr ng nb).1, true) else (s.1, false)) else rb6 T n s nr ng nb
noncomputable def rbG (T : Rw) (n : Nat) (s : PSt) (g : Rw) (nr ng nb : Nat) : Rw := if (rb6 T n s nr ng nb).2 = true ∧ rbq T n s g nr ng nb = true then fBookTo g nb (rbr T n s nr ng nb) (rbw T n s nr ng nb) (rbf T n s nr ng nb) (rbh T n s nr ng nb) (rbt T n s nr ng nb) else g
theorem rbc_1 {nr ng nb : Nat} (h1 : nb < 12) (h2 : 0 < nr) (h3 : 0 < ng) : 1 = b01 (rbc nr ng nb) := by simp [rbc, h1, h2, h3, b01]
theorem rbc_0 {nr ng nb : Nat} (h : ¬ (nb < 12 ∧ 0 < nr ∧ 0 < ng)) : 0 = b01 (rbc nr ng nb) := by
  have : rbc nr ng nb = false := by
    rcases Bool.eq_false_or_eq_true (rbc nr ng nb) with q | q
    · exact absurd (by simpa [rbc] using q) h
    · exact q
  rw [this]; rfl
theorem rbq_of {T : Rw} {n : Nat} {s : PSt} {g : Rw} {nr ng nb : Nat} {v : Int32} (h : bz (fFree g (rbr T n s nr ng nb) (rbf T n s nr ng nb) (rbh T n s nr ng nb) nb) v) : b01 (rbq T n s g nr ng nb) = v := by
  rcases h with ⟨rfl, h⟩ | ⟨rfl, h⟩
  · rw [rbq, @decide_eq_true _ (Classical.propDecidable _) h]; rfl
  · rw [rbq, @decide_eq_false _ (Classical.propDecidable _) h]; rfl
theorem rbS_t {T : Rw} {n : Nat} {s : PSt} {g : Rw} {nr ng nb : Nat} (h : (rb6 T n s nr ng nb).2 = true) : rbS T n s g nr ng nb = ((if rbq T n s g nr ng nb = true then (rb6 T n s nr ng nb).1 else s.1), rbq T n s g nr ng nb) := by
  rw [rbS, if_pos h]
  cases rbq T n s g nr ng nb <;> rfl
theorem rbS_f {T : Rw} {n : Nat} {s : PSt} {g : Rw} {nr ng nb : Nat} (h : b01 (rb6 T n s nr ng nb).2 = 0) : rbS T n s g nr ng nb = rb6 T n s nr ng nb := by
  rw [rbS, if_neg (nb01 h)]
theorem rbS_ok {T : Rw} {n : Nat} {s : PSt} {g : Rw} {nr ng nb : Nat} : (rbS T n s g nr ng nb).2 = true ↔ (rb6 T n s nr ng nb).2 = true ∧ rbq T n s g nr ng nb = true := by
  by_cases h : (rb6 T n s nr ng nb).2 = true
  · rw [rbS_t h]
    exact ⟨fun q => ⟨h, q⟩, fun q => q.2⟩
  · rw [rbS, if_neg h]
    exact ⟨fun q => absurd q h, fun q => absurd q.1 h⟩
theorem rb_nb {T : Rw} {n : Nat} {s : PSt} {nr ng nb : Nat} (h : (rb6 T n s nr ng nb).2 = true) : rbc nr ng nb = true := (stp_ok (dig_ok (dig_ok (dig_ok (dig_ok (two_ok (dig_ok (two_ok (dig_ok (two_ok h)).1)).1)).1).1).1).1).2
theorem rb_nb12 {nr ng nb : Nat} (h : rbc nr ng nb = true) : nb < 12 ∧ 0 < nr ∧ 0 < ng := by
  simp [rbc] at h
  exact h
set_option maxHeartbeats 4000000 in
theorem k_readRoom (σ : Sg) (s : PSt) (g : Rw) (n : Nat) (nr : Nat) (hM : MS σ) (hn : σ.1 388 2 = nI n) (hn120 : n ≤ 120) (hs : s.1 < n) (hnr : g 1 = nI nr) (hnr9 : nr < 1000) : Ct yX7_readRoom cX7_readRoom mX7_readRoom 4 0 0 NN false (pS σ s g) [.ref 388] NN (eV1 (pS σ (rr4 (σ.1 389) n s nr) (rrG (σ.1 389) n s g nr))) XF := by
  refine ct_of (ls0 := [some (.ref 388), none, none, none, none]) 4 (by decide +kernel) rfl rfl (ndR nd0) rfl (Nat.le_of_ble_eq_true rfl) (fun K => ?_)
  have hs0 : (rr0 s nr).1 ≤ n := stp_le (Nat.le_of_lt hs) (fun _ => hs)
  refine aw_aload0 dX7_readRoom_0 ?_
  refine AW.tern0 (E := (b01 (decide (nr < 4)))) (pc2 := 16) (fun x_16 hx_16 => ?_) (fun J_16 => ?_)
  · subst hx_16
    refine aw_VV1 (k_accept _ _ _ _) dX7_readRoom_16 vl_7_123 rfl (by decide) (by decide) (Nat.le_of_ble_eq_true rfl) (fun σ_16 h_16 => ?_)
    obtain rfl := h_16
    refine aw_aload0 dX7_readRoom_19 ?_
    refine aw_iconst (v := 1) dX7_readRoom_20 (by decide) ?_
    refine aw_bipush (v := 9) dX7_readRoom_21 (by decide) ?_
    refine aw_VI2 (k_digit _ (rr0 s nr) _ _ _ _ hM hn hn120 hs0) dX7_readRoom_23 vl_7_127 rfl (by decide) (by decide) (Nat.le_of_ble_eq_true rfl) (fun σ_23 r_23 h_23 => ?_)
    obtain ⟨rfl, rfl⟩ := h_23
    refine aw_istore1 dX7_readRoom_26 (by decide) rfl ?_
    refine aw_aload0 dX7_readRoom_27 ?_
    refine aw_iconst (v := 1) dX7_readRoom_28 (by decide) ?_
    refine aw_bipush (v := 9) dX7_readRoom_29 (by decide) ?_
    refine aw_VI2 (k_digit _ (rr1 (σ.1 389) n s nr) _ _ _ _ hM hn hn120 (dig_le hs0)) dX7_readRoom_31 vl_7_127 rfl (by decide) (by decide) (Nat.le_of_ble_eq_true rfl) (fun σ_31 r_31 h_31 => ?_)
    obtain ⟨rfl, rfl⟩ := h_31
    refine aw_istore2 dX7_readRoom_34 (by decide) rfl ?_
    refine aw_aload0 dX7_readRoom_35 ?_
    refine aw_iconst (v := 1) dX7_readRoom_36 (by decide) ?_
    refine aw_bipush (v := 9) dX7_readRoom_37 (by decide) ?_
    refine aw_VI2 (k_digit _ (rr2 (σ.1 389) n s nr) _ _ _ _ hM hn hn120 (dig_le (dig_le hs0))) dX7_readRoom_39 vl_7_127 rfl (by decide) (by decide) (Nat.le_of_ble_eq_true rfl) (fun σ_39 r_39 h_39 => ?_)
    obtain ⟨rfl, rfl⟩ := h_39
    refine aw_istore3 dX7_readRoom_42 (by decide) rfl ?_
    refine aw_aload0 dX7_readRoom_43 ?_
    refine aw_iconst (v := 0) dX7_readRoom_44 (by decide) ?_
    refine aw_bipush (v := 30) dX7_readRoom_45 (by decide) ?_
    refine aw_VI2 (k_two _ (rr3 (σ.1 389) n s nr) _ _ _ _ hM hn hn120 (dig_le (dig_le (dig_le hs0)))) dX7_readRoom_47 vl_7_130 rfl (by decide) (by decide) (Nat.le_of_ble_eq_true rfl) (fun σ_47 r_47 h_47 => ?_)
    obtain ⟨rfl, rfl⟩ := h_47
    refine aw_istore4 dX7_readRoom_50 (by decide) rfl ?_
    refine aw_aload0 dX7_readRoom_52 ?_
    refine aw_getI dX7_readRoom_53 fI_7_117 rfl (by decide) (show _ = b01 (rr4 (σ.1 389) n s nr).2 from rfl) ?_
    refine aw_if_eq (tgt := 71) dX7_readRoom_56 (by decide) (fun c_56 => ?_) (fun c_56 => ?_)
    · exact aw_vret dX7_readRoom_71 rfl (by decide) (eV_to (congrArg (pS σ (rr4 (σ.1 389) n s nr)) (by first | exact if_pos (b01_t c_56) | exact if_neg (nb01 c_56))))
    · refine aw_aload0 dX7_readRoom_59 ?_
      refine aw_getR dX7_readRoom_60 fR_7_13 rfl (by decide) hM.read ?_
      refine aw_iload1 dX7_readRoom_63 ?_
      refine aw_iload2 dX7_readRoom_64 ?_
      refine aw_iload3 dX7_readRoom_65 ?_
      refine aw_iload4 dX7_readRoom_66 ?_
      refine aw_SV5 (k_addRoomTo _ 390 _ nr _ _ _ _ rfl (by decide) hnr (rr_nr (b01_t c_56))) dX7_readRoom_68 sl_7_133 (by decide) (Nat.le_of_ble_eq_true rfl) (fun σ_68 h_68 => ?_)
      obtain rfl := h_68
      exact aw_vret dX7_readRoom_71 rfl (by decide) (eV_to (congrArg (pS σ (rr4 (σ.1 389) n s nr)) (by first | exact if_pos (b01_t c_56) | exact if_neg (nb01 c_56))))
  · refine aw_aload0 dX7_readRoom_1 ?_
    refine aw_getR dX7_readRoom_2 fR_7_13 rfl (by decide) hM.read ?_
    refine aw_iconst (v := 1) dX7_readRoom_5 (by decide) ?_
    refine aw_iald (j := 1) dX7_readRoom_6 rfl (by decide) rfl (by decide) (sA_at.trans hnr) ?_
    refine aw_iconst (v := 4) dX7_readRoom_7 (by decide) ?_
    refine aw_ic_ge (tgt := 15) dX7_readRoom_8 (by decide) (fun c_8 => ?_) (fun c_8 => ?_)
    · refine aw_iconst (v := 0) dX7_readRoom_15 (by decide) ?_
      exact J_16 _ (by first | exact b01_D1 (by have := mt (nI_leI (a := 4) (by omega) (by omega)).mpr c_8; omega) | exact b01_D0 (Nat.not_lt.mpr ((nI_leI (a := 4) (by omega) (by omega)).mp c_8)))
    · refine aw_iconst (v := 1) dX7_readRoom_11 (by decide) ?_
      refine aw_goto (tgt := 16) dX7_readRoom_12 (by decide) ?_
      exact J_16 _ (by first | exact b01_D1 (by have := mt (nI_leI (a := 4) (by omega) (by omega)).mpr c_8; omega) | exact b01_D0 (Nat.not_lt.mpr ((nI_leI (a := 4) (by omega) (by omega)).mp c_8)))
set_option maxHeartbeats 4000000 in
theorem k_readOutside (σ : Sg) (s : PSt) (g : Rw) (n : Nat) (hM : MS σ) (hn : σ.1 388 2 = nI n) (hn120 : n ≤ 120) (hs : s.1 ≤ n) : Ct yX7_readOutside cX7_readOutside mX7_readOutside 4 0 0 NN false (pS σ s g) [.ref 388] NN (eV1 (pS σ (ro2 (σ.1 389) n s) (roG (σ.1 389) n s g))) XF := by
  refine ct_of (ls0 := [some (.ref 388), none, none]) 2 (by decide +kernel) rfl rfl (ndR nd0) rfl (Nat.le_of_ble_eq_true rfl) (fun K => ?_)
  have hs0 : (ro0 (σ.1 389) n s).1 ≤ n := stp_le hs nx_lt
  have hs1 : (ro1 (σ.1 389) n s).1 ≤ n := ro1_le hs
  refine aw_aload0 dX7_readOutside_0 ?_
  refine aw_aload0 dX7_readOutside_1 ?_
  refine aw_bipush (v := 111) dX7_readOutside_2 (by decide) ?_
  refine aw_VI1 (k_isNext _ _ _ _ _ hM hn hn120 hs) dX7_readOutside_4 vl_7_137 rfl (by decide) (by decide) (Nat.le_of_ble_eq_true rfl) (fun σ_4 r_4 h_4 => ?_)
  obtain ⟨rfl, rfl⟩ := h_4
  refine aw_VV1 (k_accept _ _ _ _) dX7_readOutside_7 vl_7_123 rfl (by decide) (by decide) (Nat.le_of_ble_eq_true rfl) (fun σ_7 h_7 => ?_)
  obtain rfl := h_7
  refine aw_aload0 dX7_readOutside_10 ?_
  refine aw_bipush (v := 45) dX7_readOutside_11 (by decide) ?_
  refine aw_VI1 (k_isNext _ (ro0 (σ.1 389) n s) _ _ _ hM hn hn120 hs0) dX7_readOutside_13 vl_7_137 rfl (by decide) (by decide) (Nat.le_of_ble_eq_true rfl) (fun σ_13 r_13 h_13 => ?_)
  obtain ⟨rfl, rfl⟩ := h_13
  refine aw_istore1 dX7_readOutside_16 (by decide) rfl ?_
  refine aw_aload0 dX7_readOutside_17 ?_
  refine AW.tern0 (E := (b01 ((roy (σ.1 389) n s) || nx (σ.1 389) n (ro0 (σ.1 389) n s).1 43))) (pc2 := 36) (fun x_36 hx_36 => ?_) (fun J_36 => ?_)
  · subst hx_36
    refine aw_VV1 (k_accept _ (ro0 (σ.1 389) n s) _ _) dX7_readOutside_36 vl_7_123 rfl (by decide) (by decide) (Nat.le_of_ble_eq_true rfl) (fun σ_36 h_36 => ?_)
    obtain rfl := h_36
    refine aw_aload0 dX7_readOutside_39 ?_
    refine AW.tern0 (E := (b01 (roy (σ.1 389) n s))) (pc2 := 49) (fun x_49 hx_49 => ?_) (fun J_49 => ?_)
    · subst hx_49
      refine AW.tern0 (E := (roh (σ.1 389) n s)) (pc2 := 60) (fun x_60 hx_60 => ?_) (fun J_60 => ?_)
      · subst hx_60
        refine aw_VI2 (k_two _ (ro1 (σ.1 389) n s) _ _ _ _ hM hn hn120 hs1) dX7_readOutside_60 vl_7_130 rfl (by decide) (by decide) (Nat.le_of_ble_eq_true rfl) (fun σ_60 r_60 h_60 => ?_)
        obtain ⟨rfl, rfl⟩ := h_60
        refine aw_istore2 dX7_readOutside_63 (by decide) rfl ?_
        refine aw_aload0 dX7_readOutside_64 ?_
        refine aw_getI dX7_readOutside_65 fI_7_117 rfl (by decide) (show _ = b01 (ro2 (σ.1 389) n s).2 from rfl) ?_
        refine aw_if_eq (tgt := 87) dX7_readOutside_68 (by decide) (fun c_68 => ?_) (fun c_68 => ?_)
        · exact aw_vret dX7_readOutside_87 rfl (by decide) (eV_to (congrArg (pS σ (ro2 (σ.1 389) n s)) (by first | exact if_pos (b01_t c_68) | exact if_neg (nb01 c_68))))
        · refine aw_aload0 dX7_readOutside_71 ?_
          refine aw_getR dX7_readOutside_72 fR_7_13 rfl (by decide) hM.read ?_
          refine aw_iconst (v := 4) dX7_readOutside_75 (by decide) ?_
          refine AW.tern0 (E := (rov (σ.1 389) n s)) (pc2 := 86) (fun x_86 hx_86 => ?_) (fun J_86 => ?_)
          · subst hx_86
            refine aw_iast (j := 4) dX7_readOutside_86 rfl (by decide) rfl (by decide) ?_
            refine AW.eqs sI_sA ?_
            exact aw_vret dX7_readOutside_87 rfl (by decide) (eV_to (congrArg (pS σ (ro2 (σ.1 389) n s)) (by first | exact if_pos (b01_t c_68) | exact if_neg (nb01 c_68))))
          · refine aw_iload1 dX7_readOutside_76 ?_
            refine aw_if_eq (tgt := 85) dX7_readOutside_77 (by decide) (fun c_77 => ?_) (fun c_77 => ?_)
            · refine aw_iload2 dX7_readOutside_85 ?_
              exact J_86 _ (by first | exact (if_pos (b01_t c_77)).symm | exact (if_neg (nb01 c_77)).symm)
            · refine aw_iload2 dX7_readOutside_80 ?_
              refine aw_ineg dX7_readOutside_81 ?_
              refine aw_goto (tgt := 86) dX7_readOutside_82 (by decide) ?_
              exact J_86 _ (by first | exact (if_pos (b01_t c_77)).symm | exact (if_neg (nb01 c_77)).symm)
      · refine aw_iload1 dX7_readOutside_49 ?_
        refine aw_if_eq (tgt := 58) dX7_readOutside_50 (by decide) (fun c_50 => ?_) (fun c_50 => ?_)
        · refine aw_bipush (v := 25) dX7_readOutside_58 (by decide) ?_
          exact J_60 _ (by first | exact (if_pos (b01_t c_50)).symm | exact (if_neg (nb01 c_50)).symm)
        · refine aw_bipush (v := 20) dX7_readOutside_53 (by decide) ?_
          refine aw_goto (tgt := 60) dX7_readOutside_55 (by decide) ?_
          exact J_60 _ (by first | exact (if_pos (b01_t c_50)).symm | exact (if_neg (nb01 c_50)).symm)
    · refine aw_iload1 dX7_readOutside_40 ?_
      refine aw_if_eq (tgt := 48) dX7_readOutside_41 (by decide) (fun c_41 => ?_) (fun c_41 => ?_)
      · refine aw_iconst (v := 0) dX7_readOutside_48 (by decide) ?_
        exact J_49 _ (by first | exact bt1 c_41 | exact bf0 c_41)
      · refine aw_iconst (v := 1) dX7_readOutside_44 (by decide) ?_
        refine aw_goto (tgt := 49) dX7_readOutside_45 (by decide) ?_
        exact J_49 _ (by first | exact bt1 c_41 | exact bf0 c_41)
  · refine aw_iload1 dX7_readOutside_18 ?_
    refine aw_if_ne (tgt := 31) dX7_readOutside_19 (by decide) (fun c_19 => ?_) (fun c_19 => ?_)
    · refine aw_iconst (v := 1) dX7_readOutside_31 (by decide) ?_
      refine aw_goto (tgt := 36) dX7_readOutside_32 (by decide) ?_
      exact J_36 _ (by first | exact bor1 c_19 | exact bor2 c_19 c_28 | exact bor0 c_19 c_28)
    · refine aw_aload0 dX7_readOutside_22 ?_
      refine aw_bipush (v := 43) dX7_readOutside_23 (by decide) ?_
      refine aw_VI1 (k_isNext _ (ro0 (σ.1 389) n s) _ _ _ hM hn hn120 hs0) dX7_readOutside_25 vl_7_137 rfl (by decide) (by decide) (Nat.le_of_ble_eq_true rfl) (fun σ_25 r_25 h_25 => ?_)
      obtain ⟨rfl, rfl⟩ := h_25
      refine aw_if_eq (tgt := 35) dX7_readOutside_28 (by decide) (fun c_28 => ?_) (fun c_28 => ?_)
      · refine aw_iconst (v := 0) dX7_readOutside_35 (by decide) ?_
        exact J_36 _ (by first | exact bor1 c_19 | exact bor2 c_19 c_28 | exact bor0 c_19 c_28)
      · refine aw_iconst (v := 1) dX7_readOutside_31 (by decide) ?_
        refine aw_goto (tgt := 36) dX7_readOutside_32 (by decide) ?_
        exact J_36 _ (by first | exact bor1 c_19 | exact bor2 c_19 c_28 | exact bor0 c_19 c_28)
set_option maxHeartbeats 4000000 in
theorem k_readBooking (σ : Sg) (s : PSt) (g : Rw) (n : Nat) (nr ng nb : Nat) (hM : MS σ) (hn : σ.1 388 2 = nI n) (hn120 : n ≤ 120) (hs : s.1 < n) (hnr : g 1 = nI nr) (hnr9 : nr < 1000) (hng : g 2 = nI ng) (hng9 : ng < 1000) (hnb : g 3 = nI nb) (hnb12 : nb ≤ 12) : Ct yX7_readBooking cX7_readBooking mX7_readBooking 6 0 0 NN false (pS σ s g) [.ref 388] NN (eV1 (pS σ (rbS (σ.1 389) n s g nr ng nb) (rbG (σ.1 389) n s g nr ng nb))) XF := by
  refine ct_of (ls0 := [some (.ref 388), none, none, none, none, none, none, none]) 7 (by decide +kernel) rfl rfl (ndR nd0) rfl (Nat.le_of_ble_eq_true rfl) (fun K => ?_)
  have hs0 : (rb0 s nr ng nb).1 ≤ n := stp_le (Nat.le_of_lt hs) (fun _ => hs)
  have hs3 : (rb3 (σ.1 389) n s nr ng nb).1 ≤ n := dig_le (dig_le (dig_le hs0))
  have hs4 : (rb4 (σ.1 389) n s nr ng nb).1 ≤ n := two_le hs3
  have hs5 : (rb5 (σ.1 389) n s nr ng nb).1 ≤ n := two_le hs4
  refine aw_aload0 dX7_readBooking_0 ?_
  refine aw_getI dX7_readBooking_1 fI_7_114 rfl (by decide) (show _ = nI s.1 from rfl) ?_
  refine aw_istore1 dX7_readBooking_4 (by decide) rfl ?_
  refine aw_aload0 dX7_readBooking_5 ?_
  refine AW.tern0 (E := (b01 (rbc nr ng nb))) (pc2 := 40) (fun x_40 hx_40 => ?_) (fun J_40 => ?_)
  · subst hx_40
    refine aw_VV1 (k_accept _ _ _ _) dX7_readBooking_40 vl_7_123 rfl (by decide) (by decide) (Nat.le_of_ble_eq_true rfl) (fun σ_40 h_40 => ?_)
    obtain rfl := h_40
    refine aw_aload0 dX7_readBooking_43 ?_
    refine aw_iconst (v := 0) dX7_readBooking_44 (by decide) ?_
    refine aw_aload0 dX7_readBooking_45 ?_
    refine aw_getR dX7_readBooking_46 fR_7_13 rfl (by decide) hM.read ?_
    refine aw_iconst (v := 1) dX7_readBooking_49 (by decide) ?_
    refine aw_iald (j := 1) dX7_readBooking_50 rfl (by decide) rfl (by decide) (sA_at.trans hnr) ?_
    refine aw_iconst (v := 1) dX7_readBooking_51 (by decide) ?_
    refine aw_isub dX7_readBooking_52 ?_
    refine aw_VI2 (k_digit _ (rb0 s nr ng nb) _ _ _ _ hM hn hn120 hs0) dX7_readBooking_53 vl_7_127 rfl (by decide) (by decide) (Nat.le_of_ble_eq_true rfl) (fun σ_53 r_53 h_53 => ?_)
    obtain ⟨rfl, rfl⟩ := h_53
    refine aw_istore2 dX7_readBooking_56 (by decide) rfl ?_
    refine aw_aload0 dX7_readBooking_57 ?_
    refine aw_iconst (v := 0) dX7_readBooking_58 (by decide) ?_
    refine aw_aload0 dX7_readBooking_59 ?_
    refine aw_getR dX7_readBooking_60 fR_7_13 rfl (by decide) hM.read ?_
    refine aw_iconst (v := 2) dX7_readBooking_63 (by decide) ?_
    refine aw_iald (j := 2) dX7_readBooking_64 rfl (by decide) rfl (by decide) (sA_at.trans hng) ?_
    refine aw_iconst (v := 1) dX7_readBooking_65 (by decide) ?_
    refine aw_isub dX7_readBooking_66 ?_
    refine aw_VI2 (k_digit _ (rb1 (σ.1 389) n s nr ng nb) _ _ _ _ hM hn hn120 (dig_le hs0)) dX7_readBooking_67 vl_7_127 rfl (by decide) (by decide) (Nat.le_of_ble_eq_true rfl) (fun σ_67 r_67 h_67 => ?_)
    obtain ⟨rfl, rfl⟩ := h_67
    refine aw_istore3 dX7_readBooking_70 (by decide) rfl ?_
    refine aw_aload0 dX7_readBooking_71 ?_
    refine aw_iconst (v := 0) dX7_readBooking_72 (by decide) ?_
    refine aw_iconst (v := 1) dX7_readBooking_73 (by decide) ?_
    refine aw_VI2 (k_digit _ (rb2 (σ.1 389) n s nr ng nb) _ _ _ _ hM hn hn120 (dig_le (dig_le hs0))) dX7_readBooking_74 vl_7_127 rfl (by decide) (by decide) (Nat.le_of_ble_eq_true rfl) (fun σ_74 r_74 h_74 => ?_)
    obtain ⟨rfl, rfl⟩ := h_74
    refine aw_istore4 dX7_readBooking_77 (by decide) rfl ?_
    refine aw_bipush (v := 100) dX7_readBooking_79 (by decide) ?_
    refine aw_iload4 dX7_readBooking_81 ?_
    refine aw_imul dX7_readBooking_83 ?_
    refine aw_aload0 dX7_readBooking_84 ?_
    refine aw_iconst (v := 0) dX7_readBooking_85 (by decide) ?_
    refine aw_bipush (v := 99) dX7_readBooking_86 (by decide) ?_
    refine aw_VI2 (k_two _ (rb3 (σ.1 389) n s nr ng nb) _ _ _ _ hM hn hn120 hs3) dX7_readBooking_88 vl_7_130 rfl (by decide) (by decide) (Nat.le_of_ble_eq_true rfl) (fun σ_88 r_88 h_88 => ?_)
    obtain ⟨rfl, rfl⟩ := h_88
    refine aw_iadd dX7_readBooking_91 ?_
    refine aw_istore5 dX7_readBooking_92 (by decide) rfl ?_
    refine aw_aload0 dX7_readBooking_94 ?_
    refine aw_iconst (v := 1) dX7_readBooking_95 (by decide) ?_
    refine aw_bipush (v := 12) dX7_readBooking_96 (by decide) ?_
    refine aw_VI2 (k_two _ (rb4 (σ.1 389) n s nr ng nb) _ _ _ _ hM hn hn120 hs4) dX7_readBooking_98 vl_7_130 rfl (by decide) (by decide) (Nat.le_of_ble_eq_true rfl) (fun σ_98 r_98 h_98 => ?_)
    obtain ⟨rfl, rfl⟩ := h_98
    refine aw_istore6 dX7_readBooking_101 (by decide) rfl ?_
    refine aw_aload0 dX7_readBooking_103 ?_
    refine aw_bipush (v := 12) dX7_readBooking_104 (by decide) ?_
    refine aw_bipush (v := 25) dX7_readBooking_106 (by decide) ?_
    refine aw_VI2 (k_two _ (rb5 (σ.1 389) n s nr ng nb) _ _ _ _ hM hn hn120 hs5) dX7_readBooking_108 vl_7_130 rfl (by decide) (by decide) (Nat.le_of_ble_eq_true rfl) (fun σ_108 r_108 h_108 => ?_)
    obtain ⟨rfl, rfl⟩ := h_108
    refine aw_istore7 dX7_readBooking_111 (by decide) rfl ?_
    refine aw_aload0 dX7_readBooking_113 ?_
    refine aw_getI dX7_readBooking_114 fI_7_117 rfl (by decide) (show _ = b01 (rb6 (σ.1 389) n s nr ng nb).2 from rfl) ?_
    refine aw_if_eq (tgt := 155) dX7_readBooking_117 (by decide) (fun c_117 => ?_) (fun c_117 => ?_)
    · refine AW.eqs (show _ = pS σ (rbS (σ.1 389) n s g nr ng nb) g from by first | rw [rbS_t hq6] | rw [rbS_f c_117]) ?_
      refine aw_aload0 dX7_readBooking_155 ?_
      refine aw_getI dX7_readBooking_156 fI_7_117 rfl (by decide) (show _ = b01 (rbS (σ.1 389) n s g nr ng nb).2 from rfl) ?_
      refine aw_if_eq (tgt := 177) dX7_readBooking_159 (by decide) (fun c_159 => ?_) (fun c_159 => ?_)
      · exact aw_vret dX7_readBooking_177 rfl (by decide) (eV_to (congrArg (pS σ (rbS (σ.1 389) n s g nr ng nb)) (by first | exact if_pos (rbS_ok.mp (b01_t c_159)) | exact if_neg (fun h => nb01 c_159 (rbS_ok.mpr h)))))
      · obtain ⟨hq12, -, -⟩ := rb_nb12 (rb_nb (rbS_ok.mp (b01_t c_159)).1)
        refine aw_aload0 dX7_readBooking_162 ?_
        refine aw_getR dX7_readBooking_163 fR_7_13 rfl (by decide) hM.read ?_
        refine aw_iload2 dX7_readBooking_166 ?_
        refine aw_iload3 dX7_readBooking_167 ?_
        refine aw_iload5 dX7_readBooking_168 ?_
        refine aw_iload6 dX7_readBooking_170 ?_
        refine aw_iload7 dX7_readBooking_172 ?_
        refine aw_SV6 (k_bookTo _ 390 _ nb _ _ _ _ _ rfl (by decide) hnb hq12) dX7_readBooking_174 sl_7_140 (by decide) (Nat.le_of_ble_eq_true rfl) (fun σ_174 h_174 => ?_)
        obtain rfl := h_174
        exact aw_vret dX7_readBooking_177 rfl (by decide) (eV_to (congrArg (pS σ (rbS (σ.1 389) n s g nr ng nb)) (by first | exact if_pos (rbS_ok.mp (b01_t c_159)) | exact if_neg (fun h => nb01 c_159 (rbS_ok.mpr h)))))
    · have hq6 : (rb6 (σ.1 389) n s nr ng nb).2 = true := b01_t c_117
      refine aw_aload0 dX7_readBooking_120 ?_
      refine aw_aload0 dX7_readBooking_121 ?_
      refine aw_getR dX7_readBooking_122 fR_7_13 rfl (by decide) hM.read ?_
      refine aw_iload2 dX7_readBooking_125 ?_
      refine aw_iload5 dX7_readBooking_126 ?_
      refine aw_iload6 dX7_readBooking_128 ?_
      refine aw_SI4 (k_isFree _ 390 _ _ _ _ _ rfl (by decide) hnb hnb12) dX7_readBooking_130 sl_7_97 (by decide) (Nat.le_of_ble_eq_true rfl) (fun σ_130 r_130 h_130 => ?_)
      obtain ⟨rfl, h_130⟩ := h_130
      have h_130 : b01 (rbq (σ.1 389) n s g nr ng nb) = r_130 := rbq_of h_130
      subst h_130
      refine aw_putZ dX7_readBooking_133 fP_7_117 rfl (by decide) b01_01 ?_
      refine AW.eqs pS_good ?_
      refine aw_aload0 dX7_readBooking_136 ?_
      refine AW.tern0 (E := (nI (if rbq (σ.1 389) n s g nr ng nb = true then (rb6 (σ.1 389) n s nr ng nb).1 else s.1))) (pc2 := 152) (fun x_152 hx_152 => ?_) (fun J_152 => ?_)
      · subst hx_152
        refine aw_putI dX7_readBooking_152 fP_7_114 rfl (by decide) ?_
        refine AW.eqs pS_spot ?_
        refine AW.eqs (show _ = pS σ (rbS (σ.1 389) n s g nr ng nb) g from by first | rw [rbS_t hq6] | rw [rbS_f c_117]) ?_
        refine aw_aload0 dX7_readBooking_155 ?_
        refine aw_getI dX7_readBooking_156 fI_7_117 rfl (by decide) (show _ = b01 (rbS (σ.1 389) n s g nr ng nb).2 from rfl) ?_
        refine aw_if_eq (tgt := 177) dX7_readBooking_159 (by decide) (fun c_159 => ?_) (fun c_159 => ?_)
        · exact aw_vret dX7_readBooking_177 rfl (by decide) (eV_to (congrArg (pS σ (rbS (σ.1 389) n s g nr ng nb)) (by first | exact if_pos (rbS_ok.mp (b01_t c_159)) | exact if_neg (fun h => nb01 c_159 (rbS_ok.mpr h)))))
        · obtain ⟨hq12, -, -⟩ := rb_nb12 (rb_nb (rbS_ok.mp (b01_t c_159)).1)
          refine aw_aload0 dX7_readBooking_162 ?_
          refine aw_getR dX7_readBooking_163 fR_7_13 rfl (by decide) hM.read ?_
          refine aw_iload2 dX7_readBooking_166 ?_
          refine aw_iload3 dX7_readBooking_167 ?_
          refine aw_iload5 dX7_readBooking_168 ?_
          refine aw_iload6 dX7_readBooking_170 ?_
          refine aw_iload7 dX7_readBooking_172 ?_
          refine aw_SV6 (k_bookTo _ 390 _ nb _ _ _ _ _ rfl (by decide) hnb hq12) dX7_readBooking_174 sl_7_140 (by decide) (Nat.le_of_ble_eq_true rfl) (fun σ_174 h_174 => ?_)
          obtain rfl := h_174
          exact aw_vret dX7_readBooking_177 rfl (by decide) (eV_to (congrArg (pS σ (rbS (σ.1 389) n s g nr ng nb)) (by first | exact if_pos (rbS_ok.mp (b01_t c_159)) | exact if_neg (fun h => nb01 c_159 (rbS_ok.mpr h)))))
      · refine aw_aload0 dX7_readBooking_137 ?_
        refine aw_getI dX7_readBooking_138 fI_7_117 rfl (by decide) (show _ = b01 (rbq (σ.1 389) n s g nr ng nb) from rfl) ?_
        refine aw_if_eq (tgt := 151) dX7_readBooking_141 (by decide) (fun c_141 => ?_) (fun c_141 => ?_)
        · refine aw_iload1 dX7_readBooking_151 ?_
          exact J_152 _ (by first | exact congrArg nI (if_pos (b01_t c_141)).symm | exact congrArg nI (if_neg (nb01 c_141)).symm)
        · refine aw_aload0 dX7_readBooking_144 ?_
          refine aw_getI dX7_readBooking_145 fI_7_114 rfl (by decide) (show _ = nI (rb6 (σ.1 389) n s nr ng nb).1 from rfl) ?_
          refine aw_goto (tgt := 152) dX7_readBooking_148 (by decide) ?_
          exact J_152 _ (by first | exact congrArg nI (if_pos (b01_t c_141)).symm | exact congrArg nI (if_neg (nb01 c_141)).symm)
  · refine aw_aload0 dX7_readBooking_6 ?_
    refine aw_getR dX7_readBooking_7 fR_7_13 rfl (by decide) hM.read ?_
    refine aw_iconst (v := 3) dX7_readBooking_10 (by decide) ?_
    refine aw_iald (j := 3) dX7_readBooking_11 rfl (by decide) rfl (by decide) (sA_at.trans hnb) ?_
    refine aw_bipush (v := 12) dX7_readBooking_12 (by decide) ?_
    refine aw_ic_ge (tgt := 39) dX7_readBooking_14 (by decide) (fun c_14 => ?_) (fun c_14 => ?_)
    · refine aw_iconst (v := 0) dX7_readBooking_39 (by decide) ?_
      exact J_40 _ (by first | exact rbc_1 (by have := mt (nI_leI (a := 12) (by omega) (by omega)).mpr c_14; omega) (nI_nz c_23) (nI_nz c_32) | exact rbc_0 (fun h => absurd ((nI_leI (a := 12) (by omega) (by omega)).mp c_14) (by omega)) | exact rbc_0 (fun h => nI_nle h.2.1 (by omega) c_23) | exact rbc_0 (fun h => nI_nle h.2.2 (by omega) c_32))
    · refine aw_aload0 dX7_readBooking_17 ?_
      refine aw_getR dX7_readBooking_18 fR_7_13 rfl (by decide) hM.read ?_
      refine aw_iconst (v := 1) dX7_readBooking_21 (by decide) ?_
      refine aw_iald (j := 1) dX7_readBooking_22 rfl (by decide) rfl (by decide) (sA_at.trans hnr) ?_
      refine aw_if_le (tgt := 39) dX7_readBooking_23 (by decide) (fun c_23 => ?_) (fun c_23 => ?_)
      · refine aw_iconst (v := 0) dX7_readBooking_39 (by decide) ?_
        exact J_40 _ (by first | exact rbc_1 (by have := mt (nI_leI (a := 12) (by omega) (by omega)).mpr c_14; omega) (nI_nz c_23) (nI_nz c_32) | exact rbc_0 (fun h => absurd ((nI_leI (a := 12) (by omega) (by omega)).mp c_14) (by omega)) | exact rbc_0 (fun h => nI_nle h.2.1 (by omega) c_23) | exact rbc_0 (fun h => nI_nle h.2.2 (by omega) c_32))
      · refine aw_aload0 dX7_readBooking_26 ?_
        refine aw_getR dX7_readBooking_27 fR_7_13 rfl (by decide) hM.read ?_
        refine aw_iconst (v := 2) dX7_readBooking_30 (by decide) ?_
        refine aw_iald (j := 2) dX7_readBooking_31 rfl (by decide) rfl (by decide) (sA_at.trans hng) ?_
        refine aw_if_le (tgt := 39) dX7_readBooking_32 (by decide) (fun c_32 => ?_) (fun c_32 => ?_)
        · refine aw_iconst (v := 0) dX7_readBooking_39 (by decide) ?_
          exact J_40 _ (by first | exact rbc_1 (by have := mt (nI_leI (a := 12) (by omega) (by omega)).mpr c_14; omega) (nI_nz c_23) (nI_nz c_32) | exact rbc_0 (fun h => absurd ((nI_leI (a := 12) (by omega) (by omega)).mp c_14) (by omega)) | exact rbc_0 (fun h => nI_nle h.2.1 (by omega) c_23) | exact rbc_0 (fun h => nI_nle h.2.2 (by omega) c_32))
        · refine aw_iconst (v := 1) dX7_readBooking_35 (by decide) ?_
          refine aw_goto (tgt := 40) dX7_readBooking_36 (by decide) ?_
          exact J_40 _ (by first | exact rbc_1 (by have := mt (nI_leI (a := 12) (by omega) (by omega)).mpr c_14; omega) (nI_nz c_23) (nI_nz c_32) | exact rbc_0 (fun h => absurd ((nI_leI (a := 12) (by omega) (by omega)).mp c_14) (by omega)) | exact rbc_0 (fun h => nI_nle h.2.1 (by omega) c_23) | exact rbc_0 (fun h => nI_nle h.2.2 (by omega) c_32))
