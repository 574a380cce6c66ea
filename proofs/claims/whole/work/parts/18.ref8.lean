/-! the reference: a whole script; a simulation; save slots -/
theorem WF.does {e e2 : Rw} {nr ng nb t c nb2 : Nat} (hw : WF e nr ng nb t) (ht : t ≤ 300) (h : fDoes e nr ng nb c = some (e2, nb2)) : nb2 ≤ nb ∧ ∃ t2, t2 ≤ 300 ∧ WF e2 nr ng nb2 t2 := by
  have cIx : ∀ {p : Prop} {x : Option (Rw × Nat)}, cI p x = some (e2, nb2) → p ∧ x = some (e2, nb2) := fun {p} {x} hx => by
    by_cases q : p
    · rw [cI_t q] at hx; exact ⟨q, hx⟩
    · rw [cI_f q] at hx; cases hx
  rw [fDoes] at h
  have hd9 : c / 10000 = 0 ∨ c / 10000 = 1 ∨ c / 10000 = 2 ∨ c / 10000 = 3 ∨ c / 10000 = 4 ∨ c / 10000 = 5 ∨ c / 10000 = 6 ∨ c / 10000 = 7 ∨ c / 10000 = 8 ∨ c / 10000 = 9 ∨ 10 ≤ c / 10000 := by omega
  rcases hd9 with hd | hd | hd | hd | hd | hd | hd | hd | hd | hd | hd
  · rw [hd] at h; cases h
  · rw [hd] at h
    obtain ⟨⟨-, ⟨h1, h2⟩, h3⟩, h4⟩ := cIx h
    cases h4
    refine ⟨Nat.le_refl _, _, ?_, hw.hoursN _⟩
    rw [hw.hr, nI_add] at h3
    have := (nI_leI (b := 240) (by omega) (by omega)).mp h3
    omega
  · rw [hd] at h
    obtain ⟨-, h4⟩ := cIx h
    cases h4
    exact ⟨Nat.le_refl _, t, ht, hw.out _⟩
  · rw [hd] at h
    match hb : fCur e (c / 1000 % 10) nb with
    | none => rw [show fDo e nr ng nb (c / 1000 % 10) (c / 100 % 10) (c % 100) (c / 100 % 100) (c % 1000) (c % 10000) 3 = fDo3 e nr nb (c / 1000 % 10) (c / 100 % 10) (c % 100) from rfl, fDo3_n hb] at h; cases h
    | some b =>
      rw [show fDo e nr ng nb (c / 1000 % 10) (c / 100 % 10) (c % 100) (c / 100 % 100) (c % 1000) (c % 10000) 3 = fDo3 e nr nb (c / 1000 % 10) (c / 100 % 10) (c % 100) from rfl, fDo3_s hb] at h
      obtain ⟨⟨-, h2, -⟩, h4⟩ := cIx h
      cases h4
      exact ⟨Nat.le_refl _, t, ht, hw.marks _ (by
        rcases (show c / 100 % 10 = 0 ∨ c / 100 % 10 = 1 by omega) with q | q
        · exact Or.inl (by rw [q]; rfl)
        · exact Or.inr (by rw [q]; rfl))⟩
  · rw [hd] at h
    obtain ⟨⟨h1, -⟩, h4⟩ := cIx h
    cases h4
    have := hw.ng6
    exact ⟨Nat.le_refl _, t, ht, hw.owe (by omega) _⟩
  · rw [hd] at h
    obtain ⟨⟨h1, -⟩, h4⟩ := cIx h
    cases h4
    exact ⟨by omega, t, ht, hw.drop h1⟩
  · rw [hd] at h
    obtain ⟨-, h4⟩ := cIx h
    cases h4
    exact ⟨Nat.le_refl _, t, ht, hw⟩
  · rw [hd] at h
    obtain ⟨-, h4⟩ := cIx h
    cases h4
    exact ⟨Nat.le_refl _, t, ht, hw⟩
  · rw [hd] at h
    obtain ⟨-, h4⟩ := cIx h
    cases h4
    exact ⟨Nat.le_refl _, t, ht, hw⟩
  · rw [hd] at h
    obtain ⟨-, h4⟩ := cIx h
    cases h4
    exact ⟨Nat.le_refl _, t, ht, hw⟩
  · obtain ⟨x, hx⟩ : ∃ x, c / 10000 = x + 10 := ⟨c / 10000 - 10, by omega⟩
    rw [hx] at h
    cases h
theorem tenL_N : ∀ j, j ≤ 18 → tenL j = lN (10 ^ j)
  | 0, _ => by decide
  | j + 1, h => by
    rw [tenL, tenL_N j (by omega)]
    have e : lN (10 ^ j) * lN 10 = lN (10 ^ j * 10) := (Int64.ofNat_mul _ _).symm
    rw [show (10 : Int64) = lN 10 from rfl, e, Nat.pow_succ]
theorem ten_lt {j : Nat} (h : j ≤ 18) : 10 ^ j < 2 ^ 63 := Nat.lt_of_le_of_lt (Nat.pow_le_pow_right (by decide) h) (by decide)
theorem l2i_N {c : Nat} (h : c < 2 ^ 31) : (lN c).toInt32 = nI c := by
  rw [← nI_l h]
  simp
/-- a script's commands from the m-th last one on: which one fails -/
noncomputable def fRun (nr ng k S : Nat) : Nat → Rw → Nat → Int32
  | 0, _, _ => -99
  | m + 1, e, nb => match fDoes e nr ng nb (S / 10 ^ (5 * m) % 100000) with
    | none => nI (k - (m + 1))
    | some (e2, nb2) => fRun nr ng k S m e2 nb2
theorem fRun_n {nr ng k S m nb : Nat} {e : Rw} (h : fDoes e nr ng nb (S / 10 ^ (5 * m) % 100000) = none) : fRun nr ng k S (m + 1) e nb = nI (k - (m + 1)) := by rw [fRun, h]
theorem fRun_s {nr ng k S m nb nb2 : Nat} {e e2 : Rw} (h : fDoes e nr ng nb (S / 10 ^ (5 * m) % 100000) = some (e2, nb2)) : fRun nr ng k S (m + 1) e nb = fRun nr ng k S m e2 nb2 := by rw [fRun, h]
def scrA (n : Int32) (s : Int64) : Prop := ∃ k, 1 ≤ k ∧ k ≤ 3 ∧ n = nI k ∧ 0 ≤ s ∧ s ≤ tenL (5 * k) - 1
abbrev lC (s : Int64) : Nat := s.toInt.toNat
theorem lC_of {s : Int64} (h : 0 ≤ s) : s = lN (lC s) ∧ lC s < 2 ^ 63 := by
  obtain ⟨k, hk, rfl⟩ := pk_lOf (x := s) (Int64.not_lt.mpr h)
  have e : lC (lN k) = k := by rw [lC, pk_lT hk]; rfl
  rw [e]
  exact ⟨rfl, hk⟩
set_option maxHeartbeats 4000000 in
theorem k_runL (σ : Sg) (nr ng k S : Nat) (V r4 : Int32) (hM : MS σ) (hk1 : 1 ≤ k) (hk3 : k ≤ 3) (hS : S < 2 ^ 63) (K : KT) (Q : State → Prop)
    (kk : ∀ X x5, AW K RX7 cX7_runScript mX7_runScript 10 0 0 Q NN none (sA σ 392 X) 0 0 104 [some (.ref 388), some (.int (nI k)), some (.long (lN S)), none, some (.int r4), x5] [.int V]) 
    (kr : ∀ X x5, AW K RX7 cX7_runScript mX7_runScript 10 0 0 Q NN none (sA σ 392 X) 0 0 95 [some (.ref 388), some (.int (nI k)), some (.long (lN S)), none, some (.int r4), x5] [.int V]) :
    ∀ (f i : Nat) (e : Rw) (nb t : Nat) (hw : WF e nr ng nb t) (ht : t ≤ 300) (h1 : i ≤ k) (h5 : fRun nr ng k S (k - i) e nb = V) (h2 : k - i < f), AW K RX7 cX7_runScript mX7_runScript 10 0 0 Q NN none (sA σ 392 e) 0 0 62 [some (.ref 388), some (.int (nI k)), some (.long (lN S)), none, some (.int r4), some (.int (nI i))] [] := by
  intro f
  induction f with
  | zero => intro i e nb t hw ht h1 h5 h2; exact absurd h2 (Nat.not_lt_zero _)
  | succ f ih =>
    intro i e nb t hw ht h1 h5 h2
    refine aw_iload5 dX7_runScript_62 ?_
    refine aw_iload1 dX7_runScript_64 ?_
    refine aw_ic_ge (tgt := 102) dX7_runScript_65 (by decide) (fun c_65 => ?_) (fun c_65 => ?_)
    · have hbb : i = k := by
        have := (nI_leI (by omega) (by omega)).mp c_65
        omega
      subst hbb
      rw [show i - i = 0 by omega] at h5
      refine aw_bipush (v := (-99)) dX7_runScript_102 (by decide) ?_
      subst h5
      exact kk _ _
    · have hlt : i < k := by
        rcases Nat.lt_or_ge i k with q | q
        · exact q
        · exact absurd (nI_le q (by omega)) c_65
      have hne : ¬ tenL (5 * (k - 1 - i)) = 0 := by
        rw [tenL_N _ (by omega)]
        intro h
        have h9 := (pk_lEQ (b := 0) (ten_lt (by omega)) (by decide)).mp h
        exact absurd h9 (Nat.ne_of_gt (Nat.pow_pos (by decide)))
      refine aw_aload0 dX7_runScript_68 ?_
      refine aw_lload2 dX7_runScript_69 ?_
      refine aw_iconst (v := 5) dX7_runScript_70 (by decide) ?_
      refine aw_iload1 dX7_runScript_71 ?_
      refine aw_iconst (v := 1) dX7_runScript_72 (by decide) ?_
      refine aw_isub dX7_runScript_73 ?_
      refine aw_iload5 dX7_runScript_74 ?_
      refine aw_isub dX7_runScript_76 ?_
      refine aw_imul dX7_runScript_77 ?_
      rw [show (5 : Int32) * (nI k - 1 - nI i) = nI (5 * (k - 1 - i)) from by
        have e1 : nI k - 1 = nI (k - 1) := by
          have := nI_pred (k - 1)
          rwa [show k - 1 + 1 = k by omega] at this
        rw [e1, pk_sub (by omega)]
        exact pk_mul 5 _]
      refine aw_SL1 (k_tenTo _ (5 * (k - 1 - i)) (by omega)) dX7_runScript_78 sl_7_209 (by decide) (Nat.le_of_ble_eq_true rfl) (fun σ_78 r_78 h_78 => ?_)
      obtain ⟨rfl, rfl⟩ := h_78
      refine aw_ldiv dX7_runScript_81 (by first | exact hne | decide) ?_
      rw [show lN S / tenL (5 * (k - 1 - i)) = lN (S / 10 ^ (5 * (k - 1 - i))) from by rw [tenL_N _ (by omega)]; exact pk_lDiv hS (Nat.pow_pos (by decide)) (ten_lt (by omega))]
      refine aw_ldc2 dX7_runScript_82 kl_7_213 ?_
      refine aw_lrem dX7_runScript_85 (by first | exact hne | decide) ?_
      have hS2 : S / 10 ^ (5 * (k - 1 - i)) < 2 ^ 63 := Nat.lt_of_le_of_lt (Nat.div_le_self _ _) hS
      rw [show lN (S / 10 ^ (5 * (k - 1 - i))) - lN (S / 10 ^ (5 * (k - 1 - i))) / 100000 * 100000 = lN (S / 10 ^ (5 * (k - 1 - i)) % 100000) from pk_lRem (b := 100000) hS2 (by decide) (by decide)]
      refine aw_l2i dX7_runScript_86 ?_
      rw [l2i_N (by omega)]
      refine aw_VI1 (k_does _ e nr ng nb t (S / 10 ^ (5 * (k - 1 - i)) % 100000) hM hw (by omega)) dX7_runScript_87 vl_7_215 rfl (by decide) (by decide) (Nat.le_of_ble_eq_true rfl) (fun σ_87 r_87 h_87 => ?_)
      rcases h_87 with ⟨rfl, e2, nb2, hd, rfl⟩ | ⟨rfl, hd, rfl⟩
      · rw [show k - i = k - 1 - i + 1 by omega, fRun_s hd] at h5
        obtain ⟨hn2, t2, ht2, hw2⟩ := hw.does ht hd
        rw [show k - 1 - i = k - i - 1 by omega] at h5
        refine aw_if_ne (tgt := 96) dX7_runScript_90 (by decide) (fun _ => ?_) (fun c_90 => absurd c_90 (by decide))
        refine aw_iinc5 (w := nI (i + 1)) dX7_runScript_96 (nI_1 i) (by decide) rfl ?_
        refine aw_goto (tgt := 62) dX7_runScript_99 (by decide) ?_
        exact ih (i + 1) e2 nb2 t2 hw2 ht2 (by omega) (by rw [show k - (i + 1) = k - i - 1 by omega]; exact h5) (by omega)
      · rw [show k - i = k - 1 - i + 1 by omega, fRun_n hd, show k - (k - 1 - i + 1) = i by omega] at h5
        subst h5
        refine aw_if_ne (tgt := 96) dX7_runScript_90 (by decide) (fun c_90 => absurd c_90 (by decide)) (fun _ => ?_)
        refine aw_iload5 dX7_runScript_93 ?_
        exact kr _ _
set_option maxHeartbeats 4000000 in
theorem k_runScript (σ : Sg) (g : Rw) (nr ng nb t : Nat) (n : Int32) (s : Int64) (hM : MS σ) (hw : WF g nr ng nb t) (ht : t ≤ 300) : Ct yX7_runScript cX7_runScript mX7_runScript 10 0 0 NN false (sA σ 391 g) [.ref 388, .int n, .long s] NN (eX σ g (cd1 (scrA n s)) (fRun nr ng (cN n) (lC s) (cN n) g nb)) XF := by
  refine ct_of (ls0 := [some (.ref 388), some (.int n), some (.long s), none, none, none]) 2 (by decide +kernel) rfl rfl (ndR (ndI (ndL nd0))) rfl (Nat.le_of_ble_eq_true rfl) (fun K => ?_)
  refine aw_iload1 dX7_runScript_0 ?_
  refine aw_i2l dX7_runScript_1 ?_
  refine aw_lconst (v := 1) dX7_runScript_2 (by decide) ?_
  refine aw_ldc2 dX7_runScript_3 kl_7_207 ?_
  refine aw_SI3 (k_inC _ _ _ _ 1 3 rfl rfl) dX7_runScript_6 sl_7_103 (by decide) (Nat.le_of_ble_eq_true rfl) (fun σ_6 r_6 h_6 => ?_)
  obtain ⟨rfl, h_6⟩ := h_6
  have h_6 : (r_6 = 1 ∧ (1 ≤ n ∧ n ≤ 3)) ∨ (r_6 = 0 ∧ ¬ (1 ≤ n ∧ n ≤ 3)) := h_6
  refine aw_istore4 dX7_runScript_9 (by decide) rfl ?_
  refine aw_aload0 dX7_runScript_11 ?_
  refine AW.tern0 (E := (cd1 (scrA n s))) (pc2 := 47) (fun x_47 hx_47 => ?_) (fun J_47 => ?_)
  · subst hx_47
    refine aw_VI1 (k_refusedN _ _ _) dX7_runScript_47 vl_7_110 rfl (by decide) (by decide) (Nat.le_of_ble_eq_true rfl) (fun σ_47 r_47 h_47 => ?_)
    obtain ⟨rfl, h_47⟩ := h_47
    rcases h_47 with ⟨rfl, p_47⟩ | ⟨rfl, p_47⟩
    · refine aw_if_eq (tgt := 55) dX7_runScript_50 (by decide) (fun c_50 => absurd c_50 (by decide)) (fun _ => ?_)
      refine aw_iconst (v := 0) dX7_runScript_53 (by decide) ?_
      exact aw_iret dX7_runScript_54 rfl (by decide) (eX_r p_47)
    · refine aw_if_eq (tgt := 55) dX7_runScript_50 (by decide) (fun _ => ?_) (fun c_50 => absurd c_50 (by decide))
      obtain ⟨k, hk1, hk3, rfl, hs0, hs1⟩ := cd1_z p_47
      obtain ⟨hsN, hsB⟩ := lC_of hs0
      refine aw_aload0 dX7_runScript_55 ?_
      refine aw_VV0 (k_begin _ _ hM) dX7_runScript_56 vl_7_201 rfl (by decide) (by decide) (Nat.le_of_ble_eq_true rfl) (fun σ_56 h_56 => ?_)
      obtain rfl := h_56
      refine aw_iconst (v := 0) dX7_runScript_59 (by decide) ?_
      refine aw_istore5 dX7_runScript_60 (by decide) rfl ?_
      rw [show cN (nI k) = k from nI_clamp (by omega)]
      have hgo := k_runL (sA (sI σ 388 0 (cd1 (scrA (nI k) s))) 391 g) nr ng k (lC s) (fRun nr ng k (lC s) k g nb) r_6 hM hk1 hk3 hsB K (Qm K NN (eX σ g (cd1 (scrA (nI k) s)) (fRun nr ng k (lC s) k g nb)) XF 0 0) (fun X x5 => aw_iret dX7_runScript_104 rfl (by decide) (eX_o (cd1_0 ⟨k, hk1, hk3, rfl, hs0, hs1⟩) rfl)) (fun X x5 => aw_iret dX7_runScript_95 rfl (by decide) (eX_o (cd1_0 ⟨k, hk1, hk3, rfl, hs0, hs1⟩) rfl)) (k + 1) 0 g nb t hw ht (Nat.zero_le _) rfl (by omega)
      rw [← hsN] at hgo
      exact hgo
  · refine aw_iload4 dX7_runScript_12 ?_
    refine aw_if_eq (tgt := 46) dX7_runScript_14 (by decide) (fun c_14 => ?_) (fun c_14 => ?_)
    · try (have hn : ¬ scrA n s := fun h => by
            obtain ⟨k1, h4, h5, rfl, h7⟩ := h
            exact h_6.elim (fun q => absurd (c_14.symm.trans q.1) (by decide)) (fun q => q.2 ⟨nI_le (a := 1) h4 (by omega), nI_le (b := 3) h5 (by omega)⟩))
      refine aw_iconst (v := 1) dX7_runScript_46 (by decide) ?_
      exact J_47 _ (by first | exact cd1_1 (fun h => hn h) | exact cd1_0 ⟨k0, h1, h3, rfl, p_36⟩ | exact cd1_1 (fun h => by
              obtain ⟨k1, h4, h5, h6, h7⟩ := h
              rw [(nI_eq (by omega) (by omega)).mp h6] at p_36
              exact p_36 h7))
    · have hr : 1 ≤ n ∧ n ≤ 3 := h_6.elim (fun h => h.2) (fun h => absurd h.1 c_14)
      obtain ⟨k0, h3, rfl⟩ := Int32.rng (n := 3) (by omega) (Int32.le_trans (by decide) hr.1) hr.2
      have h1 : 1 ≤ k0 := (nI_leI (a := 1) (by omega) (by omega)).mp hr.1
      refine aw_lload2 dX7_runScript_17 ?_
      refine aw_lconst (v := 0) dX7_runScript_18 (by decide) ?_
      refine aw_iload4 dX7_runScript_19 ?_
      refine aw_if_eq (tgt := 30) dX7_runScript_21 (by decide) (fun c_21 => absurd c_21 c_14) (fun c_21 => ?_)
      refine aw_iconst (v := 5) dX7_runScript_24 (by decide) ?_
      refine aw_iload1 dX7_runScript_25 ?_
      refine aw_imul dX7_runScript_26 ?_
      refine aw_goto (tgt := 31) dX7_runScript_27 (by decide) ?_
      rw [show (5 : Int32) * nI k0 = nI (5 * k0) from pk_mul 5 k0]
      refine aw_SL1 (k_tenTo _ (5 * k0) (by omega)) dX7_runScript_31 sl_7_209 (by decide) (Nat.le_of_ble_eq_true rfl) (fun σ_31 r_31 h_31 => ?_)
      obtain ⟨rfl, rfl⟩ := h_31
      refine aw_lconst (v := 1) dX7_runScript_34 (by decide) ?_
      refine aw_lsub dX7_runScript_35 ?_
      refine aw_SI3 (k_in _ _ _ _) dX7_runScript_36 sl_7_103 (by decide) (Nat.le_of_ble_eq_true rfl) (fun σ_36 r_36 h_36 => ?_)
      obtain ⟨rfl, h_36⟩ := h_36
      rcases h_36 with ⟨rfl, p_36⟩ | ⟨rfl, p_36⟩
      · refine aw_if_eq (tgt := 46) dX7_runScript_39 (by decide) (fun c_39 => absurd c_39 (by decide)) (fun _ => ?_)
        refine aw_iconst (v := 0) dX7_runScript_42 (by decide) ?_
        refine aw_goto (tgt := 47) dX7_runScript_43 (by decide) ?_
        exact J_47 _ (by first | exact cd1_1 (fun h => hn h) | exact cd1_0 ⟨k0, h1, h3, rfl, p_36⟩ | exact cd1_1 (fun h => by
                obtain ⟨k1, h4, h5, h6, h7⟩ := h
                rw [(nI_eq (by omega) (by omega)).mp h6] at p_36
                exact p_36 h7))
      · refine aw_if_eq (tgt := 46) dX7_runScript_39 (by decide) (fun _ => ?_) (fun c_39 => absurd c_39 (by decide))
        try (have hn : ¬ scrA n s := fun h => by
              obtain ⟨k1, h4, h5, rfl, h7⟩ := h
              exact h_6.elim (fun q => absurd (c_14.symm.trans q.1) (by decide)) (fun q => q.2 ⟨nI_le (a := 1) h4 (by omega), nI_le (b := 3) h5 (by omega)⟩))
        refine aw_iconst (v := 1) dX7_runScript_46 (by decide) ?_
        exact J_47 _ (by first | exact cd1_1 (fun h => hn h) | exact cd1_0 ⟨k0, h1, h3, rfl, p_36⟩ | exact cd1_1 (fun h => by
                obtain ⟨k1, h4, h5, h6, h7⟩ := h
                rw [(nI_eq (by omega) (by omega)).mp h6] at p_36
                exact p_36 h7))
def fMk (e : Rw) (nb : Nat) : Nat → Rw
  | 0 => e
  | k + 1 => match fCur (fMk e nb k) k nb with
    | none => fMk e nb k
    | some b => upd (fMk e nb k) (31 + 10 * b + 7) 1
theorem fMk_n {e : Rw} {nb k : Nat} (h : fCur (fMk e nb k) k nb = none) : fMk e nb (k + 1) = fMk e nb k := by rw [fMk, h]
theorem fMk_s {e : Rw} {nb k b : Nat} (h : fCur (fMk e nb k) k nb = some b) : fMk e nb (k + 1) = upd (fMk e nb k) (31 + 10 * b + 7) 1 := by rw [fMk, h]
theorem WF.mks {e : Rw} {nr ng nb t : Nat} (hw : WF e nr ng nb t) : ∀ k, WF (fMk e nb k) nr ng nb t
  | 0 => hw
  | k + 1 => by
    have ih := WF.mks hw k
    match h : fCur (fMk e nb k) k nb with
    | none => rw [fMk_n h]; exact ih
    | some b => rw [fMk_s h]; exact ih.marks 1 (Or.inr rfl)
set_option maxHeartbeats 4000000 in
theorem k_markAll (σ : Sg) (e : Rw) (nr ng nb t : Nat) (hM : MS σ) (hw : WF e nr ng nb t) : Ct yX7_markAll cX7_markAll mX7_markAll 6 0 0 NN false (sA σ 392 e) [.ref 388] NN (eV1 (sA σ 392 (fMk e nb nr))) XF := by
  refine ct_of (ls0 := [some (.ref 388), none, none]) 2 (by decide +kernel) rfl rfl (ndR nd0) rfl (Nat.le_of_ble_eq_true rfl) (fun K => ?_)
  have hnr4 := hw.nr4
  have hnb12 := hw.nb12
  have L2 : ∀ (k : Nat) (i : Nat) (h1 : i ≤ nr) (h2 : nr - i < k) (x2 : Option Value), AW K RX7 cX7_markAll mX7_markAll 6 0 0 (Qm K NN (eV1 (sA σ 392 (fMk e nb nr))) XF 0 0) NN none (sA σ 392 (fMk e nb i)) 0 0 2 [some (.ref 388), some (.int (nI i)), x2] [] := by
    intro k
    induction k with
    | zero => intro i h1 h2 x2; exact absurd h2 (Nat.not_lt_zero _)
    | succ k ih =>
      intro i h1 h2 x2
      refine aw_iload1 dX7_markAll_2 ?_
      refine aw_aload0 dX7_markAll_3 ?_
      refine aw_getR dX7_markAll_4 fR_7_19 rfl (by decide) hM.trial ?_
      refine aw_iconst (v := 1) dX7_markAll_7 (by decide) ?_
      refine aw_iald (j := 1) dX7_markAll_8 rfl (by decide) rfl (by decide) (sA_at.trans (hw.mks i).nr) ?_
      refine aw_ic_ge (tgt := 45) dX7_markAll_9 (by decide) (fun c_9 => ?_) (fun c_9 => ?_)
      · have hbb : i = nr := by
          have := (nI_leI (by omega) (by omega)).mp c_9
          omega
        subst hbb
        exact aw_vret dX7_markAll_45 rfl (by decide) eV_of
      · have hlt : i < nr := by
          rcases Nat.lt_or_ge i nr with q | q
          · exact q
          · exact absurd (nI_le q (by omega)) c_9
        refine aw_aload0 dX7_markAll_12 ?_
        refine aw_getR dX7_markAll_13 fR_7_19 rfl (by decide) hM.trial ?_
        refine aw_iload1 dX7_markAll_16 ?_
        refine aw_SI2 (k_currentOf _ 392 _ i _ rfl (by decide) (hw.mks i).nb hw.nb12) dX7_markAll_17 sl_7_67 (by decide) (Nat.le_of_ble_eq_true rfl) (fun σ_17 r_17 h_17 => ?_)
        obtain ⟨rfl, rfl⟩ := h_17
        refine aw_istore2 dX7_markAll_20 (by decide) rfl ?_
        refine aw_iload2 dX7_markAll_21 ?_
        refine aw_bipush (v := (-99)) dX7_markAll_22 (by decide) ?_
        refine aw_ic_eq (tgt := 39) dX7_markAll_24 (by decide) (fun c_24 => ?_) (fun c_24 => ?_)
        · try (have hb := oI_n (fun f hf => by have := fCur_lt hf; omega) c_24)
          refine aw_iinc1 (w := nI (i + 1)) dX7_markAll_39 (nI_1 i) (by decide) rfl ?_
          refine aw_goto (tgt := 2) dX7_markAll_42 (by decide) ?_
          have k9 := ih (i + 1) (by omega) (by omega)
          first
            | (rw [fMk_s hb] at k9; exact k9 _)
            | (rw [fMk_n hb] at k9; exact k9 _)
        · obtain ⟨b, hb⟩ := oI_s c_24
          have hb12 := fCur_lt hb
          refine aw_aload0 dX7_markAll_27 ?_
          refine aw_getR dX7_markAll_28 fR_7_19 rfl (by decide) hM.trial ?_
          refine aw_iload2 dX7_markAll_31 ?_
          refine aw_bipush (v := 7) dX7_markAll_32 (by decide) ?_
          rw [hb]
          rw [show oI (some b) = nI b from rfl]
          refine aw_SI2 (k_bookAt _ _ 7) dX7_markAll_34 sl_7_49 (by decide) (Nat.le_of_ble_eq_true rfl) (fun σ_34 r_34 h_34 => ?_)
          obtain ⟨rfl, rfl⟩ := h_34
          refine aw_iconst (v := 1) dX7_markAll_37 (by decide) ?_
          refine aw_iast dX7_markAll_38 rfl (by decide) rfl (by omega) ?_
          refine AW.eqs sI_sA ?_
          try (have hb := oI_n (fun f hf => by have := fCur_lt hf; omega) c_24)
          refine aw_iinc1 (w := nI (i + 1)) dX7_markAll_39 (nI_1 i) (by decide) rfl ?_
          refine aw_goto (tgt := 2) dX7_markAll_42 (by decide) ?_
          have k9 := ih (i + 1) (by omega) (by omega)
          first
            | (rw [fMk_s hb] at k9; exact k9 _)
            | (rw [fMk_n hb] at k9; exact k9 _)
  refine aw_iconst (v := 0) dX7_markAll_0 (by decide) ?_
  refine aw_istore1 dX7_markAll_1 (by decide) rfl ?_
  exact L2 (nr + 1) 0 (Nat.zero_le _) (by omega) none
abbrev lcg (x : Int64) : Int64 := x * 6364136223846793005 + 1442695040888963407
abbrev lcr (x : Int64) : Int32 := (x.toUInt64 >>> ((33 : Int32).toInt64.toUInt64 &&& Int64.toUInt64 63)).toInt64.toInt32
def simOut (e : Rw) (r : Int32) : Rw := upd e 4 (r - r / 30 * 30 - 10)
def simMark (e : Rw) (nr nb : Nat) (r : Int32) : Rw := if r / 64 - r / 64 / 8 * 8 = 0 then fMk (simOut e r) nb nr else simOut e r
/-- so many hours of a simulation -/
def fSim (nr nb : Nat) : Nat → Rw → Int64 → Rw
  | 0, e, _ => e
  | k + 1, e, x => if e 0 < 240 then fSim nr nb k (fHour (simMark e nr nb (lcr (lcg x))) nr nb) (lcg x) else e
theorem fSim_s {nr nb k : Nat} {e : Rw} {x : Int64} (h : e 0 < 240) : fSim nr nb (k + 1) e x = fSim nr nb k (fHour (simMark e nr nb (lcr (lcg x))) nr nb) (lcg x) := by rw [fSim, if_pos h]
theorem fSim_e {nr nb k : Nat} {e : Rw} {x : Int64} (h : ¬ e 0 < 240) : fSim nr nb k e x = e := by
  cases k with
  | zero => rfl
  | succ k => rw [fSim, if_neg h]
theorem WF.sim {e : Rw} {nr ng nb t : Nat} (hw : WF e nr ng nb t) (r : Int32) : WF (simMark e nr nb r) nr ng nb t := by
  unfold simMark
  split
  · exact (hw.out _).mks nr
  · exact hw.out _
def mn9 (x : Int32) : Int32 := if x ≤ 9999 then x else 9999
def simV (g e : Rw) : Int32 := 1000 * mn9 (e 7 - g 7) + e 8 - g 8
set_option maxHeartbeats 4000000 in
theorem k_simL (σ : Sg) (g : Rw) (nr ng nb k : Nat) (seed : Int64) (V : Rw) (hM : MS σ) (hk : k ≤ 99) (K : KT) (Q : State → Prop)
    (kk : ∀ x3 x4 x5, AW K RX7 cX7_simulate mX7_simulate 10 0 0 Q NN none (sA σ 392 V) 0 0 116 [some (.ref 388), some (.long seed), none, some (.int (nI k)), some (.long x3), none, some (.int x4), x5] []) :
    ∀ (f i : Nat) (e : Rw) (x : Int64) (x7 : Option Value) (t : Nat) (hw : WF e nr ng nb t) (h1 : i ≤ k) (h5 : fSim nr nb (k - i) e x = V) (h2 : k - i < f), AW K RX7 cX7_simulate mX7_simulate 10 0 0 Q NN none (sA σ 392 e) 0 0 36 [some (.ref 388), some (.long seed), none, some (.int (nI k)), some (.long x), none, some (.int (nI i)), x7] [] := by
  intro f
  induction f with
  | zero => intro i e x x7 t hw h1 h5 h2; exact absurd h2 (Nat.not_lt_zero _)
  | succ f ih =>
    intro i e x x7 t hw h1 h5 h2
    have hnr4 := hw.nr4
    have hnb12 := hw.nb12
    refine aw_iload6 dX7_simulate_36 ?_
    refine aw_iload3 dX7_simulate_38 ?_
    refine aw_ic_ge (tgt := 116) dX7_simulate_39 (by decide) (fun c_39 => ?_) (fun c_39 => ?_)
    · first
        | (have hbb : i = k := by
             have := (nI_leI (by omega) (by omega)).mp c_39
             omega
           subst hbb
           rw [show i - i = 0 by omega] at h5
           rw [show fSim nr nb 0 e x = e from rfl] at h5
           subst h5
           exact kk _ _ _)
        | (rw [fSim_e (fun h => Int32.not_lt.mpr c_51 h)] at h5
           subst h5
           exact kk _ _ _)
    · have hlt : i < k := by
        rcases Nat.lt_or_ge i k with q | q
        · exact q
        · exact absurd (nI_le q (by omega)) c_39
      refine aw_aload0 dX7_simulate_42 ?_
      refine aw_getR dX7_simulate_43 fR_7_19 rfl (by decide) hM.trial ?_
      refine aw_iconst (v := 0) dX7_simulate_46 (by decide) ?_
      refine aw_iald (j := 0) dX7_simulate_47 rfl (by decide) rfl (by decide) sA_at ?_
      refine aw_sipush (v := 240) dX7_simulate_48 (by decide) ?_
      refine aw_ic_ge (tgt := 116) dX7_simulate_51 (by decide) (fun c_51 => ?_) (fun c_51 => ?_)
      · first
          | (have hbb : i = k := by
               have := (nI_leI (by omega) (by omega)).mp c_39
               omega
             subst hbb
             rw [show i - i = 0 by omega] at h5
             rw [show fSim nr nb 0 e x = e from rfl] at h5
             subst h5
             exact kk _ _ _)
          | (rw [fSim_e (fun h => Int32.not_lt.mpr c_51 h)] at h5
             subst h5
             exact kk _ _ _)
      · rw [show k - i = k - i - 1 + 1 by omega, fSim_s (Int32.not_le.mp c_51)] at h5
        refine aw_lload4 dX7_simulate_54 ?_
        refine aw_ldc2 dX7_simulate_56 kl_7_220 ?_
        refine aw_lmul dX7_simulate_59 ?_
        refine aw_ldc2 dX7_simulate_60 kl_7_222 ?_
        refine aw_ladd dX7_simulate_63 ?_
        refine aw_lstore4 dX7_simulate_64 (by decide) rfl ?_
        refine aw_lload4 dX7_simulate_66 ?_
        refine aw_bipush (v := 33) dX7_simulate_68 (by decide) ?_
        refine aw_lushr dX7_simulate_70 ?_
        refine aw_l2i dX7_simulate_71 ?_
        refine aw_istore7 dX7_simulate_72 (by decide) rfl ?_
        refine aw_aload0 dX7_simulate_74 ?_
        refine aw_getR dX7_simulate_75 fR_7_19 rfl (by decide) hM.trial ?_
        refine aw_iconst (v := 4) dX7_simulate_78 (by decide) ?_
        refine aw_iload7 dX7_simulate_79 ?_
        refine aw_bipush (v := 30) dX7_simulate_81 (by decide) ?_
        refine aw_irem dX7_simulate_83 (by decide) ?_
        refine aw_bipush (v := 10) dX7_simulate_84 (by decide) ?_
        refine aw_isub dX7_simulate_86 ?_
        refine aw_iast (j := 4) dX7_simulate_87 rfl (by decide) rfl (by decide) ?_
        refine AW.eqs sI_sA ?_
        refine aw_iload7 dX7_simulate_88 ?_
        refine aw_bipush (v := 64) dX7_simulate_90 (by decide) ?_
        refine aw_idiv dX7_simulate_92 (by decide) ?_
        refine aw_bipush (v := 8) dX7_simulate_93 (by decide) ?_
        refine aw_irem dX7_simulate_95 (by decide) ?_
        refine aw_if_ne (tgt := 103) dX7_simulate_96 (by decide) (fun c_96 => ?_) (fun c_96 => ?_)
        · refine AW.eqs (show _ = sA σ 392 (simMark e nr nb (lcr (lcg x))) from congrArg (sA σ 392) (by first | exact (if_pos c_96).symm | exact (if_neg c_96).symm)) ?_
          refine aw_aload0 dX7_simulate_103 ?_
          refine aw_getR dX7_simulate_104 fR_7_19 rfl (by decide) hM.trial ?_
          refine aw_SV1 (k_goHour _ 392 _ _ _ rfl (by decide) (hw.sim _).nb hw.nb12 (hw.sim _).nr hw.nr4 (hw.sim _).who) dX7_simulate_107 sl_7_91 (by decide) (Nat.le_of_ble_eq_true rfl) (fun σ_107 h_107 => ?_)
          obtain rfl := h_107
          refine aw_iinc6 (w := nI (i + 1)) dX7_simulate_110 (nI_1 i) (by decide) rfl ?_
          refine aw_goto (tgt := 36) dX7_simulate_113 (by decide) ?_
          exact ih (i + 1) _ (lcg x) _ (t + 1) (hw.sim _).hour (by omega) (by rw [show k - (i + 1) = k - i - 1 by omega]; exact h5) (by omega)
        · refine aw_aload0 dX7_simulate_99 ?_
          refine aw_VV0 (k_markAll _ _ nr ng nb t hM (hw.out _)) dX7_simulate_100 vl_7_224 rfl (by decide) (by decide) (Nat.le_of_ble_eq_true rfl) (fun σ_100 h_100 => ?_)
          obtain rfl := h_100
          refine AW.eqs (show _ = sA σ 392 (simMark e nr nb (lcr (lcg x))) from congrArg (sA σ 392) (by first | exact (if_pos c_96).symm | exact (if_neg c_96).symm)) ?_
          refine aw_aload0 dX7_simulate_103 ?_
          refine aw_getR dX7_simulate_104 fR_7_19 rfl (by decide) hM.trial ?_
          refine aw_SV1 (k_goHour _ 392 _ _ _ rfl (by decide) (hw.sim _).nb hw.nb12 (hw.sim _).nr hw.nr4 (hw.sim _).who) dX7_simulate_107 sl_7_91 (by decide) (Nat.le_of_ble_eq_true rfl) (fun σ_107 h_107 => ?_)
          obtain rfl := h_107
          refine aw_iinc6 (w := nI (i + 1)) dX7_simulate_110 (nI_1 i) (by decide) rfl ?_
          refine aw_goto (tgt := 36) dX7_simulate_113 (by decide) ?_
          exact ih (i + 1) _ (lcg x) _ (t + 1) (hw.sim _).hour (by omega) (by rw [show k - (i + 1) = k - i - 1 by omega]; exact h5) (by omega)
set_option maxHeartbeats 4000000 in
theorem k_simulate (σ : Sg) (g : Rw) (nr ng nb t : Nat) (seed : Int64) (n : Int32) (hM : MS σ) (hw : WF g nr ng nb t) : Ct yX7_simulate cX7_simulate mX7_simulate 10 0 0 NN false (sA σ 391 g) [.ref 388, .long seed, .int n] NN (eX σ g (cd1 (1 ≤ n ∧ n ≤ 99)) (simV g (fSim nr nb (cN n) g seed))) XF := by
  refine ct_of (ls0 := [some (.ref 388), some (.long seed), none, some (.int n), none, none, none, none]) 4 (by decide +kernel) rfl rfl (ndR (ndL (ndI nd0))) rfl (Nat.le_of_ble_eq_true rfl) (fun K => ?_)
  refine aw_aload0 dX7_simulate_0 ?_
  refine AW.tern0 (E := (cd1 (1 ≤ n ∧ n ≤ 99))) (pc2 := 18) (fun x_18 hx_18 => ?_) (fun J_18 => ?_)
  · subst hx_18
    refine aw_VI1 (k_refusedN _ _ _) dX7_simulate_18 vl_7_110 rfl (by decide) (by decide) (Nat.le_of_ble_eq_true rfl) (fun σ_18 r_18 h_18 => ?_)
    obtain ⟨rfl, h_18⟩ := h_18
    rcases h_18 with ⟨rfl, p_18⟩ | ⟨rfl, p_18⟩
    · refine aw_if_eq (tgt := 26) dX7_simulate_21 (by decide) (fun c_21 => absurd c_21 (by decide)) (fun _ => ?_)
      refine aw_iconst (v := 0) dX7_simulate_24 (by decide) ?_
      exact aw_iret dX7_simulate_25 rfl (by decide) (eX_r p_18)
    · refine aw_if_eq (tgt := 26) dX7_simulate_21 (by decide) (fun _ => ?_) (fun c_21 => absurd c_21 (by decide))
      have hab := cd1_z p_18
      obtain ⟨k, hk, rfl⟩ := Int32.rng (n := 99) (by omega) (Int32.le_trans (by decide) hab.1) hab.2
      rw [show cN (nI k) = k from nI_clamp (by omega)]
      refine aw_aload0 dX7_simulate_26 ?_
      refine aw_VV0 (k_begin _ _ hM) dX7_simulate_27 vl_7_201 rfl (by decide) (by decide) (Nat.le_of_ble_eq_true rfl) (fun σ_27 h_27 => ?_)
      obtain rfl := h_27
      refine aw_lload1 dX7_simulate_30 ?_
      refine aw_lstore4 dX7_simulate_31 (by decide) rfl ?_
      refine aw_iconst (v := 0) dX7_simulate_33 (by decide) ?_
      refine aw_istore6 dX7_simulate_34 (by decide) rfl ?_
      refine k_simL (sA (sI σ 388 0 (cd1 (1 ≤ nI k ∧ nI k ≤ 99))) 391 g) g nr ng nb k seed (fSim nr nb k g seed) hM hk K _ (fun x3 x4 x5 => ?_) (k + 1) 0 g seed none t hw (Nat.zero_le _) rfl (by omega)
      refine aw_aload0 dX7_simulate_116 ?_
      refine aw_getR dX7_simulate_117 fR_7_19 rfl (by decide) hM.trial ?_
      refine aw_bipush (v := 7) dX7_simulate_120 (by decide) ?_
      refine aw_iald (j := 7) dX7_simulate_122 rfl (by decide) rfl (by decide) sA_at ?_
      refine aw_aload0 dX7_simulate_123 ?_
      refine aw_getR dX7_simulate_124 fR_7_16 rfl (by decide) hM.now ?_
      refine aw_bipush (v := 7) dX7_simulate_127 (by decide) ?_
      refine aw_iald (j := 7) dX7_simulate_129 rfl (by decide) rfl (by decide) (show _ = g 7 from rfl) ?_
      refine aw_isub dX7_simulate_130 ?_
      refine aw_istore6 dX7_simulate_131 (by decide) rfl ?_
      refine aw_sipush (v := 1000) dX7_simulate_133 (by decide) ?_
      refine AW.tern0 (E := (mn9 (fSim nr nb k g seed 7 - g 7))) (pc2 := 152) (fun x_152 hx_152 => ?_) (fun J_152 => ?_)
      · subst hx_152
        refine aw_imul dX7_simulate_152 ?_
        refine aw_aload0 dX7_simulate_153 ?_
        refine aw_getR dX7_simulate_154 fR_7_19 rfl (by decide) hM.trial ?_
        refine aw_bipush (v := 8) dX7_simulate_157 (by decide) ?_
        refine aw_iald (j := 8) dX7_simulate_159 rfl (by decide) rfl (by decide) sA_at ?_
        refine aw_iadd dX7_simulate_160 ?_
        refine aw_aload0 dX7_simulate_161 ?_
        refine aw_getR dX7_simulate_162 fR_7_16 rfl (by decide) hM.now ?_
        refine aw_bipush (v := 8) dX7_simulate_165 (by decide) ?_
        refine aw_iald (j := 8) dX7_simulate_167 rfl (by decide) rfl (by decide) (show _ = g 8 from rfl) ?_
        refine aw_isub dX7_simulate_168 ?_
        exact aw_iret dX7_simulate_169 rfl (by decide) (eX_o (cd1_0 hab) rfl)
      · refine aw_iload6 dX7_simulate_136 ?_
        refine aw_sipush (v := 9999) dX7_simulate_138 (by decide) ?_
        refine aw_ic_le (tgt := 150) dX7_simulate_141 (by decide) (fun c_141 => ?_) (fun c_141 => ?_)
        · refine aw_iload6 dX7_simulate_150 ?_
          exact J_152 _ (by first | exact (if_pos c_141).symm | exact (if_neg c_141).symm)
        · refine aw_sipush (v := 9999) dX7_simulate_144 (by decide) ?_
          refine aw_goto (tgt := 152) dX7_simulate_147 (by decide) ?_
          exact J_152 _ (by first | exact (if_pos c_141).symm | exact (if_neg c_141).symm)
  · refine aw_iload3 dX7_simulate_1 ?_
    refine aw_i2l dX7_simulate_2 ?_
    refine aw_lconst (v := 1) dX7_simulate_3 (by decide) ?_
    refine aw_ldc2 dX7_simulate_4 kl_7_218 ?_
    refine aw_SI3 (k_inC _ _ _ _ 1 99 rfl rfl) dX7_simulate_7 sl_7_103 (by decide) (Nat.le_of_ble_eq_true rfl) (fun σ_7 r_7 h_7 => ?_)
    obtain ⟨rfl, h_7⟩ := h_7
    rcases h_7 with ⟨rfl, p_7⟩ | ⟨rfl, p_7⟩
    · refine aw_if_eq (tgt := 17) dX7_simulate_10 (by decide) (fun c_10 => absurd c_10 (by decide)) (fun _ => ?_)
      refine aw_iconst (v := 0) dX7_simulate_13 (by decide) ?_
      refine aw_goto (tgt := 18) dX7_simulate_14 (by decide) ?_
      exact J_18 _ (by first | exact cd1_0 p_7 | exact cd1_1 p_7)
    · refine aw_if_eq (tgt := 17) dX7_simulate_10 (by decide) (fun _ => ?_) (fun c_10 => absurd c_10 (by decide))
      refine aw_iconst (v := 1) dX7_simulate_17 (by decide) ?_
      exact J_18 _ (by first | exact cd1_0 p_7 | exact cd1_1 p_7)
set_option maxHeartbeats 4000000 in
theorem k_save (σ : Sg) (g : Rw) (nr ng nb t : Nat) (s : Int32) (hM : MS σ) (hw : WF g nr ng nb t) : Ct yX7_save cX7_save mX7_save 3 0 0 NN false (sA σ 391 g) [.ref 388, .int s] NN (eM σ g (cd1 (0 ≤ s ∧ s ≤ 1)) (sI (sA (sA (sI σ 388 0 (cd1 (0 ≤ s ∧ s ≤ 1))) 391 g) 394 (cp (σ.1 394) g (151 * cN s) 0 151)) 395 (cN s) 1) (g 0)) XF := by
  refine ct_of (ls0 := [some (.ref 388), some (.int s)]) 0 (by decide +kernel) rfl rfl (ndR (ndI nd0)) rfl (Nat.le_of_ble_eq_true rfl) (fun K => ?_)
  refine aw_aload0 dX7_save_0 ?_
  refine AW.tern0 (E := (cd1 (0 ≤ s ∧ s ≤ 1))) (pc2 := 16) (fun x_16 hx_16 => ?_) (fun J_16 => ?_)
  · subst hx_16
    refine aw_VI1 (k_refusedN _ _ _) dX7_save_16 vl_7_110 rfl (by decide) (by decide) (Nat.le_of_ble_eq_true rfl) (fun σ_16 r_16 h_16 => ?_)
    obtain ⟨rfl, h_16⟩ := h_16
    rcases h_16 with ⟨rfl, p_16⟩ | ⟨rfl, p_16⟩
    · refine aw_if_eq (tgt := 24) dX7_save_19 (by decide) (fun c_19 => absurd c_19 (by decide)) (fun _ => ?_)
      refine aw_iconst (v := 0) dX7_save_22 (by decide) ?_
      exact aw_iret dX7_save_23 rfl (by decide) (eM_r p_16)
    · refine aw_if_eq (tgt := 24) dX7_save_19 (by decide) (fun _ => ?_) (fun c_19 => absurd c_19 (by decide))
      have hab := cd1_z p_16
      obtain ⟨k, hk, rfl⟩ := Int32.rng (n := 1) (by omega) hab.1 hab.2
      rw [show cN (nI k) = k from nI_clamp (by omega)]
      refine aw_aload0 dX7_save_24 ?_
      refine aw_getR dX7_save_25 fR_7_16 rfl (by decide) hM.now ?_
      refine aw_iconst (v := 0) dX7_save_28 (by decide) ?_
      refine aw_aload0 dX7_save_29 ?_
      refine aw_getR dX7_save_30 fR_7_25 rfl (by decide) hM.kept ?_
      refine aw_sipush (v := 151) dX7_save_33 (by decide) ?_
      refine aw_iload1 dX7_save_36 ?_
      refine aw_imul dX7_save_37 ?_
      rw [show (151 : Int32) * nI k = nI (151 * k) from pk_mul 151 k]
      refine aw_sipush (v := 151) dX7_save_38 (by decide) ?_
      refine aw_SV5 (k_copy _ 391 394 0 (151 * k) 151 151 302 (cp (σ.1 394) g (151 * k) 0 151) rfl rfl (by decide) (by decide) (by decide) (by omega) (Or.inl (by decide)) (by decide) (fun _ _ => rfl)) dX7_save_41 sl_7_45 (by decide) (Nat.le_of_ble_eq_true rfl) (fun σ_41 h_41 => ?_)
      obtain rfl := h_41
      refine aw_aload0 dX7_save_44 ?_
      refine aw_getR dX7_save_45 fR_7_28 rfl (by decide) hM.isKept ?_
      refine aw_iload1 dX7_save_48 ?_
      refine aw_iconst (v := 1) dX7_save_49 (by decide) ?_
      refine aw_zast (j := k) dX7_save_50 rfl (by decide) rfl (by omega) (by decide) ?_
      refine aw_aload0 dX7_save_51 ?_
      refine aw_getR dX7_save_52 fR_7_16 rfl (by decide) hM.now ?_
      refine aw_iconst (v := 0) dX7_save_55 (by decide) ?_
      refine aw_iald (j := 0) dX7_save_56 rfl (by decide) rfl (by decide) (show _ = g 0 from rfl) ?_
      exact aw_iret dX7_save_57 rfl (by decide) (eM_o (cd1_0 hab) rfl)
  · refine aw_iload1 dX7_save_1 ?_
    refine aw_i2l dX7_save_2 ?_
    refine aw_lconst (v := 0) dX7_save_3 (by decide) ?_
    refine aw_lconst (v := 1) dX7_save_4 (by decide) ?_
    refine aw_SI3 (k_inC _ _ _ _ 0 1 rfl rfl) dX7_save_5 sl_7_103 (by decide) (Nat.le_of_ble_eq_true rfl) (fun σ_5 r_5 h_5 => ?_)
    obtain ⟨rfl, h_5⟩ := h_5
    rcases h_5 with ⟨rfl, p_5⟩ | ⟨rfl, p_5⟩
    · refine aw_if_eq (tgt := 15) dX7_save_8 (by decide) (fun c_8 => absurd c_8 (by decide)) (fun _ => ?_)
      refine aw_iconst (v := 0) dX7_save_11 (by decide) ?_
      refine aw_goto (tgt := 16) dX7_save_12 (by decide) ?_
      exact J_16 _ (by first | exact cd1_0 p_5 | exact cd1_1 p_5)
    · refine aw_if_eq (tgt := 15) dX7_save_8 (by decide) (fun _ => ?_) (fun c_8 => absurd c_8 (by decide))
      refine aw_iconst (v := 1) dX7_save_15 (by decide) ?_
      exact J_16 _ (by first | exact cd1_0 p_5 | exact cd1_1 p_5)
set_option maxHeartbeats 4000000 in
theorem k_restore (σ : Sg) (g : Rw) (s : Int32) (F : Rw) (hM : MS σ) (hF : ∀ j, j < 151 → σ.1 394 (151 * cN s + j) = F j) : Ct yX7_restore cX7_restore mX7_restore 3 0 0 NN false (sA σ 391 g) [.ref 388, .int s] NN (eM σ g (cd2 (0 ≤ s ∧ s ≤ 1) (¬ σ.1 395 (cN s) = 0)) (sI (sA (sA (sI σ 388 0 (cd2 (0 ≤ s ∧ s ≤ 1) (¬ σ.1 395 (cN s) = 0))) 391 g) 391 F) 388 9 0) (F 0)) XF := by
  refine ct_of (ls0 := [some (.ref 388), some (.int s)]) 0 (by decide +kernel) rfl rfl (ndR (ndI nd0)) rfl (Nat.le_of_ble_eq_true rfl) (fun K => ?_)
  refine aw_aload0 dX7_restore_0 ?_
  refine AW.tern0 (E := (cd2 (0 ≤ s ∧ s ≤ 1) (¬ σ.1 395 (cN s) = 0))) (pc2 := 29) (fun x_29 hx_29 => ?_) (fun J_29 => ?_)
  · subst hx_29
    refine aw_VI1 (k_refusedN _ _ _) dX7_restore_29 vl_7_110 rfl (by decide) (by decide) (Nat.le_of_ble_eq_true rfl) (fun σ_29 r_29 h_29 => ?_)
    obtain ⟨rfl, h_29⟩ := h_29
    rcases h_29 with ⟨rfl, p_29⟩ | ⟨rfl, p_29⟩
    · refine aw_if_eq (tgt := 37) dX7_restore_32 (by decide) (fun c_32 => absurd c_32 (by decide)) (fun _ => ?_)
      refine aw_iconst (v := 0) dX7_restore_35 (by decide) ?_
      exact aw_iret dX7_restore_36 rfl (by decide) (eM_r p_29)
    · refine aw_if_eq (tgt := 37) dX7_restore_32 (by decide) (fun _ => ?_) (fun c_32 => absurd c_32 (by decide))
      have hab := cd2_z p_29
      obtain ⟨k, hk, rfl⟩ := Int32.rng (n := 1) (by omega) hab.1.1 hab.1.2
      have hcn : cN (nI k) = k := nI_clamp (by omega)
      rw [hcn] at hF
      refine aw_aload0 dX7_restore_37 ?_
      refine aw_getR dX7_restore_38 fR_7_25 rfl (by decide) hM.kept ?_
      refine aw_sipush (v := 151) dX7_restore_41 (by decide) ?_
      refine aw_iload1 dX7_restore_44 ?_
      refine aw_imul dX7_restore_45 ?_
      rw [show (151 : Int32) * nI k = nI (151 * k) from pk_mul 151 k]
      refine aw_aload0 dX7_restore_46 ?_
      refine aw_getR dX7_restore_47 fR_7_16 rfl (by decide) hM.now ?_
      refine aw_iconst (v := 0) dX7_restore_50 (by decide) ?_
      refine aw_sipush (v := 151) dX7_restore_51 (by decide) ?_
      refine aw_SV5 (k_copy _ 394 391 (151 * k) 0 151 302 151 F rfl rfl (by decide) (by decide) (by omega) (by decide) (Or.inl (by decide)) (by decide) (fun j hj => (if_pos ⟨Nat.zero_le _, by omega⟩).trans (by rw [show j - 0 = j by omega]; exact hF j hj))) dX7_restore_54 sl_7_45 (by decide) (Nat.le_of_ble_eq_true rfl) (fun σ_54 h_54 => ?_)
      obtain rfl := h_54
      refine aw_aload0 dX7_restore_57 ?_
      refine aw_iconst (v := 0) dX7_restore_58 (by decide) ?_
      refine aw_putI dX7_restore_59 fP_7_42 rfl (by decide) ?_
      refine aw_aload0 dX7_restore_62 ?_
      refine aw_getR dX7_restore_63 fR_7_16 rfl (by decide) hM.now ?_
      refine aw_iconst (v := 0) dX7_restore_66 (by decide) ?_
      refine aw_iald (j := 0) dX7_restore_67 rfl (by decide) rfl (by decide) (show _ = F 0 from rfl) ?_
      exact aw_iret dX7_restore_68 rfl (by decide) (eM_o (cd2_0 hab.1 hab.2) rfl)
  · refine aw_iload1 dX7_restore_1 ?_
    refine aw_i2l dX7_restore_2 ?_
    refine aw_lconst (v := 0) dX7_restore_3 (by decide) ?_
    refine aw_lconst (v := 1) dX7_restore_4 (by decide) ?_
    refine aw_SI3 (k_inC _ _ _ _ 0 1 rfl rfl) dX7_restore_5 sl_7_103 (by decide) (Nat.le_of_ble_eq_true rfl) (fun σ_5 r_5 h_5 => ?_)
    obtain ⟨rfl, h_5⟩ := h_5
    rcases h_5 with ⟨rfl, p_5⟩ | ⟨rfl, p_5⟩
    · refine aw_if_ne (tgt := 15) dX7_restore_8 (by decide) (fun _ => ?_) (fun c_8 => absurd c_8 (by decide))
      obtain ⟨k, hk, rfl⟩ := Int32.rng (n := 1) (by omega) p_5.1 p_5.2
      have hcn : cN (nI k) = k := nI_clamp (by omega)
      refine aw_aload0 dX7_restore_15 ?_
      refine aw_getR dX7_restore_16 fR_7_28 rfl (by decide) hM.isKept ?_
      refine aw_iload1 dX7_restore_19 ?_
      refine aw_zald (j := k) dX7_restore_20 rfl (by decide) rfl (by omega) (show _ = σ.1 395 k from rfl) ?_
      refine aw_if_eq (tgt := 28) dX7_restore_21 (by decide) (fun c_21 => ?_) (fun c_21 => ?_)
      · refine aw_iconst (v := 2) dX7_restore_28 (by decide) ?_
        exact J_29 _ (by first | exact cd2_1 p_5 | exact cd2_2 p_5 (fun h => h (by rw [hcn]; exact c_21)) | exact cd2_0 p_5 (by rw [hcn]; exact c_21))
      · refine aw_iconst (v := 0) dX7_restore_24 (by decide) ?_
        refine aw_goto (tgt := 29) dX7_restore_25 (by decide) ?_
        exact J_29 _ (by first | exact cd2_1 p_5 | exact cd2_2 p_5 (fun h => h (by rw [hcn]; exact c_21)) | exact cd2_0 p_5 (by rw [hcn]; exact c_21))
    · refine aw_if_ne (tgt := 15) dX7_restore_8 (by decide) (fun c_8 => absurd c_8 (by decide)) (fun _ => ?_)
      refine aw_iconst (v := 1) dX7_restore_11 (by decide) ?_
      refine aw_goto (tgt := 29) dX7_restore_12 (by decide) ?_
      exact J_29 _ (by first | exact cd2_1 p_5 | exact cd2_2 p_5 (fun h => h (by rw [hcn]; exact c_21)) | exact cd2_0 p_5 (by rw [hcn]; exact c_21))
