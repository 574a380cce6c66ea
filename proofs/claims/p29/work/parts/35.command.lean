/-! the class: a command of a script -/
def KD (σ : Sg) (c : Nat) : Prop := σ.1 307 0 = nI (c / 10000) ∧ σ.1 307 1 = nI (c / 1000 % 10) ∧ σ.1 307 2 = nI (c / 100 % 10) ∧ σ.1 307 3 = nI (c / 10 % 10) ∧ σ.1 307 4 = nI (c % 10)
def kS (σ : Sg) (c : Nat) : Sg := sI (sI (sI (sI (sI σ 307 0 (nI (c / 10000))) 307 1 (nI (c / 1000 % 10))) 307 2 (nI (c / 100 % 10))) 307 3 (nI (c / 10 % 10))) 307 4 (nI (c % 10))
theorem kS_KD {σ : Sg} {c : Nat} : KD (kS σ c) c := ⟨rfl, rfl, rfl, rfl, rfl⟩
theorem kS_ne {σ : Sg} {c i j : Nat} (hi : i ≠ 307) : (kS σ c).1 i j = σ.1 i j := by
  have : ∀ k, ¬ (i = 307 ∧ j = k) := fun k h => hi h.1
  show (if _ then _ else if _ then _ else if _ then _ else if _ then _ else if _ then _ else _) = _
  rw [if_neg (this 4), if_neg (this 3), if_neg (this 2), if_neg (this 1), if_neg (this 0)]
theorem kS_H {σ : Sg} {h nr ng nb c : Nat} {π : Nat → Nat} {g : Rw} (hh : 307 < h) : kS (sH σ h π nr ng nb g) c = sH (kS σ c) h π nr ng nb g := by
  unfold kS
  rw [sI_sH_out (by omega), sI_sH_out (by omega), sI_sH_out (by omega), sI_sH_out (by omega), sI_sH_out (by omega)]
/-- outside the hall's ints and its bookings' row nothing changed -/
def OE (h : Nat) (σ σ' : Sg) : Prop := (∀ i j, i < h ∨ h + 20 ≤ i → σ'.1 i j = σ.1 i j) ∧ (∀ i j, i ≠ h + 3 → σ'.2.1 i j = σ.2.1 i j) ∧ σ'.2.2 = σ.2.2
theorem OE.refl {h : Nat} {σ : Sg} : OE h σ σ := ⟨fun _ _ _ => rfl, fun _ _ _ => rfl, rfl⟩
theorem OE.trans {h : Nat} {a b c : Sg} (x : OE h a b) (y : OE h b c) : OE h a c := ⟨fun i j hi => (y.1 i j hi).trans (x.1 i j hi), fun i j hi => (y.2.1 i j hi).trans (x.2.1 i j hi), y.2.2.trans x.2.2⟩
theorem OE.HC {h : Nat} {a b : Sg} {π π2 : Nat → Nat} (x : OE h a b) (hc : HC a h π) (hp : PM π2) : HC b h π2 :=
  ⟨hc.1, ⟨(x.2.1 _ _ (by omega)).trans hc.2.1.1, (x.2.1 _ _ (by omega)).trans hc.2.1.2.1, (x.2.1 _ _ (by omega)).trans hc.2.1.2.2.1, fun r hr => (x.2.1 _ _ (by omega)).trans (hc.2.1.2.2.2 r hr)⟩, hp⟩
theorem OE.kS {h c : Nat} {a b : Sg} (hh : 307 < h) (x : OE h a b) : (∀ i j, i ≠ 307 → i < h ∨ h + 20 ≤ i → (kS b c).1 i j = a.1 i j) := fun i j h1 h2 => (kS_ne h1).trans (x.1 i j h2)
def eC (σ : Sg) (h : Nat) (π : Nat → Nat) (nr ng nb : Nat) (g : Rw) (o : Option (Rw × Nat)) : PT := rI fun σ2 v => (v = 1 ∧ ∃ e2 nb2 π2 σ', o = some (e2, nb2) ∧ sH σ' h π2 nr ng nb2 e2 = σ2 ∧ PM π2 ∧ OE h σ σ') ∨ (v = 0 ∧ o = none ∧ sH σ h π nr ng nb g = σ2)
theorem eC_1 {σ : Sg} {h nr ng nb nb2 : Nat} {π : Nat → Nat} {g e2 : Rw} {o : Option (Rw × Nat)} (hp : PM π) (ho : o = some (e2, nb2)) : eC σ h π nr ng nb g o (sH σ h π nr ng nb2 e2) (some (.int 1)) := ⟨_, rfl, Or.inl ⟨rfl, _, _, _, _, ho, rfl, hp, OE.refl⟩⟩
theorem eC_0 {σ : Sg} {h nr ng nb : Nat} {π : Nat → Nat} {g : Rw} {o : Option (Rw × Nat)} (ho : o = none) : eC σ h π nr ng nb g o (sH σ h π nr ng nb g) (some (.int 0)) := ⟨_, rfl, Or.inr ⟨rfl, ho, rfl⟩⟩
theorem eC_r {σ : Sg} {h nr ng nb t b : Nat} {π : Nat → Nat} {g : Rw} {o : Option (Rw × Nat)} (hc : HC σ h π) (hw : WF g nr ng nb t) (hb : b < nb) (ho : o = some (fDrop g b, nb - 1)) : eC σ h π nr ng nb g o (rGo (sH σ h π nr ng nb g) h b nb π (g 3 - 1)) (some (.int 1)) :=
  ⟨_, rfl, Or.inl ⟨rfl, _, _, rmP π b nb, _, ho, (rGo_RH hc hw hb).eq, rmP_PM hc.2.2 hb hw.nb12, rGo_out.1, rGo_out.2, rfl⟩⟩
theorem isNn {a n : Nat} (ha : a < 2 ^ 31) (hn : n < 2 ^ 31) : isN (nI a) n ↔ a < n :=
  ⟨fun ⟨k, hk, e⟩ => by rw [(nI_eq ha (by omega)).mp e]; exact hk, fun h => ⟨a, h, rfl⟩⟩
theorem tn2 {a b : Nat} : (10 : Int32) * nI a + nI b = nI (10 * a + b) := by rw [show (10 : Int32) * nI a = nI (10 * a) from pk_mul 10 a, nI_add]
theorem tn3 {a b c : Nat} : (100 : Int32) * nI a + 10 * nI b + nI c = nI (100 * a + 10 * b + c) := by rw [show (10 : Int32) * nI b = nI (10 * b) from pk_mul 10 b, show (100 : Int32) * nI a = nI (100 * a) from pk_mul 100 a, nI_add, nI_add]
theorem tn4 {a b c d : Nat} : (1000 : Int32) * nI a + 100 * nI b + 10 * nI c + nI d = nI (1000 * a + 100 * b + 10 * c + d) := by rw [show (10 : Int32) * nI c = nI (10 * c) from pk_mul 10 c, show (100 : Int32) * nI b = nI (100 * b) from pk_mul 100 b, show (1000 : Int32) * nI a = nI (1000 * a) from pk_mul 1000 a, nI_add, nI_add, nI_add]
theorem div5 {S i : Nat} : S / 10 ^ (5 * i) / 100000 = S / 10 ^ (5 * (i + 1)) := by
  rw [Nat.div_div_eq_div_mul, show (100000 : Nat) = 10 ^ 5 from rfl, ← Nat.pow_add, show 5 * i + 5 = 5 * (i + 1) by omega]
set_option maxHeartbeats 4000000 in
theorem k1_withoutLast (σ : Sg) (S k : Nat) (hS : S < 2 ^ 63) (hk : k < 1000) : Ct yX1_withoutLast cX1_withoutLast mX1_withoutLast 1 0 0 NN false σ [.long (lN S), .int (nI k)] NN (rL fun σ2 v => σ = σ2 ∧ lN (S / 10 ^ (5 * k)) = v) XF := by
  refine ct_of (ls0 := [some (.long (lN S)), none, some (.int (nI k)), none, none, none]) 3 (by decide +kernel) rfl rfl (ndL (ndI nd0)) rfl (Nat.le_of_ble_eq_true rfl) (fun K => ?_)
  have L5 : ∀ (f : Nat) (i : Nat) (h1 : i ≤ k) (h2 : k - i < f), AW K RX1 cX1_withoutLast mX1_withoutLast 1 0 0 (Qm K NN (rL fun σ2 v => σ = σ2 ∧ lN (S / 10 ^ (5 * k)) = v) XF 0 0) NN none σ 0 0 5 [some (.long (lN S)), none, some (.int (nI k)), some (.long (lN (S / 10 ^ (5 * i)))), none, some (.int (nI i))] [] := by
    intro f
    induction f with
    | zero => intro i h1 h2; exact absurd h2 (Nat.not_lt_zero _)
    | succ f ih =>
      intro i h1 h2
      refine aw_iload5 dX1_withoutLast_5 ?_
      refine aw_iload2 dX1_withoutLast_7 ?_
      refine aw_ic_ge (tgt := 23) dX1_withoutLast_8 (by decide) (fun c_8 => ?_) (fun c_8 => ?_)
      · have hbb : i = k := by
          have := (nI_leI (by omega) (by omega)).mp c_8
          omega
        subst hbb
        refine aw_lload3 dX1_withoutLast_23 ?_
        exact aw_lret dX1_withoutLast_24 rfl (by decide) ⟨_, rfl, rfl, rfl⟩
      · have hlt : i < k := by
          rcases Nat.lt_or_ge i k with q | q
          · exact q
          · exact absurd (nI_le q (by omega)) c_8
        refine aw_lload3 dX1_withoutLast_11 ?_
        refine aw_ldc2 dX1_withoutLast_12 kl_1_9 ?_
        refine aw_ldiv dX1_withoutLast_15 (by decide) ?_
        rw [show lN (S / 10 ^ (5 * i)) / 100000 = lN (S / 10 ^ (5 * (i + 1))) from (pk_lDiv (b := 100000) (Nat.lt_of_le_of_lt (Nat.div_le_self _ _) hS) (by decide) (by decide)).trans (congrArg lN div5)]
        refine aw_lstore3 dX1_withoutLast_16 (by decide) rfl ?_
        refine aw_iinc5 (w := nI (i + 1)) dX1_withoutLast_17 (nI_1 i) (by decide) rfl ?_
        refine aw_goto (tgt := 5) dX1_withoutLast_20 (by decide) ?_
        exact ih (i + 1) (by omega) (by omega)
  refine aw_lload0 dX1_withoutLast_0 ?_
  refine aw_lstore3 dX1_withoutLast_1 (by decide) rfl ?_
  refine aw_iconst (v := 0) dX1_withoutLast_2 (by decide) ?_
  refine aw_istore5 dX1_withoutLast_3 (by decide) rfl ?_
  have L9 := L5 (k + 1) 0 (Nat.zero_le _) (by omega)
  rw [show S / 10 ^ (5 * 0) = S from Nat.div_one S] at L9
  exact L9
set_option maxHeartbeats 4000000 in
theorem k1_become (σ : Sg) (C : Nat) (hC : C < 2 ^ 63) : Ct yX1_become cX1_become mX1_become 1 0 0 NN false σ [.ref 307, .long (lN C)] NN (eV1 (kS σ (C % 100000))) XF := by
  refine ct_of (ls0 := [some (.ref 307), some (.long (lN C)), none, none]) 1 (by decide +kernel) rfl rfl (ndR (ndL nd0)) rfl (Nat.le_of_ble_eq_true rfl) (fun K => ?_)
  refine aw_lload1 dX1_become_0 ?_
  refine aw_ldc2 dX1_become_1 kl_1_9 ?_
  refine aw_lrem dX1_become_4 (by decide) ?_
  rw [show lN C - lN C / 100000 * 100000 = lN (C % 100000) from pk_lRem (b := 100000) hC (by decide) (by decide)]
  refine aw_l2i dX1_become_5 ?_
  rw [l2i_N (by omega)]
  refine aw_istore3 dX1_become_6 (by decide) rfl ?_
  refine aw_aload0 dX1_become_7 ?_
  refine aw_iload3 dX1_become_8 ?_
  refine aw_sipush (v := 10000) dX1_become_9 (by decide) ?_
  refine aw_idiv dX1_become_12 (by decide) ?_
  rw [show nI (C % 100000) / 10000 = nI ((C % 100000) / 10000) from pk_div (d := 10000) (by omega) (by decide) (by decide)]
  refine aw_putI dX1_become_13 fP_1_11 rfl (by decide) ?_
  refine aw_aload0 dX1_become_16 ?_
  refine aw_iload3 dX1_become_17 ?_
  refine aw_sipush (v := 1000) dX1_become_18 (by decide) ?_
  refine aw_idiv dX1_become_21 (by decide) ?_
  rw [show nI (C % 100000) / 1000 = nI ((C % 100000) / 1000) from pk_div (d := 1000) (by omega) (by decide) (by decide)]
  refine aw_bipush (v := 10) dX1_become_22 (by decide) ?_
  refine aw_irem dX1_become_24 (by decide) ?_
  rw [show nI ((C % 100000) / 1000) - nI ((C % 100000) / 1000) / 10 * 10 = nI (((C % 100000) / 1000) % 10) from pk_rem (d := 10) (by omega) (by decide) (by decide)]
  refine aw_putI dX1_become_25 fP_1_17 rfl (by decide) ?_
  refine aw_aload0 dX1_become_28 ?_
  refine aw_iload3 dX1_become_29 ?_
  refine aw_bipush (v := 100) dX1_become_30 (by decide) ?_
  refine aw_idiv dX1_become_32 (by decide) ?_
  rw [show nI (C % 100000) / 100 = nI ((C % 100000) / 100) from pk_div (d := 100) (by omega) (by decide) (by decide)]
  refine aw_bipush (v := 10) dX1_become_33 (by decide) ?_
  refine aw_irem dX1_become_35 (by decide) ?_
  rw [show nI ((C % 100000) / 100) - nI ((C % 100000) / 100) / 10 * 10 = nI (((C % 100000) / 100) % 10) from pk_rem (d := 10) (by omega) (by decide) (by decide)]
  refine aw_putI dX1_become_36 fP_1_20 rfl (by decide) ?_
  refine aw_aload0 dX1_become_39 ?_
  refine aw_iload3 dX1_become_40 ?_
  refine aw_bipush (v := 10) dX1_become_41 (by decide) ?_
  refine aw_idiv dX1_become_43 (by decide) ?_
  rw [show nI (C % 100000) / 10 = nI ((C % 100000) / 10) from pk_div (d := 10) (by omega) (by decide) (by decide)]
  refine aw_bipush (v := 10) dX1_become_44 (by decide) ?_
  refine aw_irem dX1_become_46 (by decide) ?_
  rw [show nI ((C % 100000) / 10) - nI ((C % 100000) / 10) / 10 * 10 = nI (((C % 100000) / 10) % 10) from pk_rem (d := 10) (by omega) (by decide) (by decide)]
  refine aw_putI dX1_become_47 fP_1_23 rfl (by decide) ?_
  refine aw_aload0 dX1_become_50 ?_
  refine aw_iload3 dX1_become_51 ?_
  refine aw_bipush (v := 10) dX1_become_52 (by decide) ?_
  refine aw_irem dX1_become_54 (by decide) ?_
  rw [show nI (C % 100000) - nI (C % 100000) / 10 * 10 = nI ((C % 100000) % 10) from pk_rem (d := 10) (by omega) (by decide) (by decide)]
  refine aw_putI dX1_become_55 fP_1_26 rfl (by decide) ?_
  exact aw_vret dX1_become_58 rfl (by decide) eV_of
set_option maxHeartbeats 4000000 in
theorem k1_letsPass (σ : Sg) (h : Nat) (π : Nat → Nat) (nr ng nb t : Nat) (g : Rw) (m : Nat) (hc : HC σ h π) (hw : WF g nr ng nb t) (hm : m < 1000) : Ct yX1_letsPass cX1_letsPass mX1_letsPass 5 0 0 NN false (sH σ h π nr ng nb g) [.ref 307, .ref h, .int (nI m)] NN (rI fun σ2 v => (v = 1 ∧ ((1 ≤ nI m ∧ nI m ≤ 48) ∧ g 0 + nI m ≤ 240) ∧ sH σ h π nr ng nb (fHours g nr nb m) = σ2) ∨ (v = 0 ∧ ¬ ((1 ≤ nI m ∧ nI m ≤ 48) ∧ g 0 + nI m ≤ 240) ∧ (sH σ h π nr ng nb g) = σ2)) XF := by
  refine ct_of (ls0 := [some (.ref 307), some (.ref h), some (.int (nI m)), none]) 1 (by decide +kernel) rfl rfl (ndR (ndR (ndI nd0))) rfl (Nat.le_of_ble_eq_true rfl) (fun K => ?_)
  have hnr4 := hw.nr4
  have hng6 := hw.ng6
  have hnb12 := hw.nb12
  have L27 : ∀ (k : Nat) (i : Nat) (hcnd : ((1 ≤ nI m ∧ nI m ≤ 48) ∧ g 0 + nI m ≤ 240)) (h1 : i ≤ m) (h2 : m - i < k), AW K RX1 cX1_letsPass mX1_letsPass 5 0 0 (Qm K NN (rI fun σ2 v => (v = 1 ∧ ((1 ≤ nI m ∧ nI m ≤ 48) ∧ g 0 + nI m ≤ 240) ∧ sH σ h π nr ng nb (fHours g nr nb m) = σ2) ∨ (v = 0 ∧ ¬ ((1 ≤ nI m ∧ nI m ≤ 48) ∧ g 0 + nI m ≤ 240) ∧ (sH σ h π nr ng nb g) = σ2)) XF 0 0) NN none (sH σ h π nr ng nb (fHours g nr nb i)) 0 0 27 [some (.ref 307), some (.ref h), some (.int (nI m)), some (.int (nI i))] [] := by
    intro k
    induction k with
    | zero => intro i hcnd h1 h2; exact absurd h2 (Nat.not_lt_zero _)
    | succ k ih =>
      intro i hcnd h1 h2
      refine aw_iload3 dX1_letsPass_27 ?_
      refine aw_iload2 dX1_letsPass_28 ?_
      refine aw_ic_ge (tgt := 42) dX1_letsPass_29 (by decide) (fun c_29 => ?_) (fun c_29 => ?_)
      · have hbb : i = m := by
          have := (nI_leI (by omega) (by omega)).mp c_29
          omega
        subst hbb
        refine aw_iconst (v := 1) dX1_letsPass_42 (by decide) ?_
        exact aw_zret dX1_letsPass_43 rfl (by decide) (by decide) ⟨_, rfl, Or.inl ⟨rfl, hcnd, rfl⟩⟩
      · have hlt : i < m := by
          rcases Nat.lt_or_ge i m with q | q
          · exact q
          · exact absurd (nI_le q (by omega)) c_29
        have hwi := hw.hoursN i
        refine aw_aload1 dX1_letsPass_32 ?_
        refine aw_VV0 (k2_letHourPass _ _ _ _ _ _ _ _ hc hwi) dX1_letsPass_33 vl_1_73 hc.t hc.l (by decide) (Nat.le_of_ble_eq_true rfl) (fun σ_33 h_33 => ?_)
        obtain rfl := h_33
        refine aw_iinc3 (w := nI (i + 1)) dX1_letsPass_36 (nI_1 i) (by decide) rfl ?_
        refine aw_goto (tgt := 27) dX1_letsPass_39 (by decide) ?_
        exact ih (i + 1) hcnd (by omega) (by omega)
  refine aw_iload2 dX1_letsPass_0 ?_
  refine aw_iconst (v := 1) dX1_letsPass_1 (by decide) ?_
  refine aw_ic_lt (tgt := 23) dX1_letsPass_2 (by decide) (fun c_2 => ?_) (fun c_2 => ?_)
  · refine aw_iconst (v := 0) dX1_letsPass_23 (by decide) ?_
    exact aw_zret dX1_letsPass_24 rfl (by decide) (by decide) ⟨_, rfl, Or.inr ⟨rfl, by first | exact fun q => Int32.not_lt.mpr q.1.1 c_2 | exact fun q => Int32.not_lt.mpr q.1.2 c_8 | exact fun q => c_20 q.2, rfl⟩⟩
  · refine aw_iload2 dX1_letsPass_5 ?_
    refine aw_bipush (v := 48) dX1_letsPass_6 (by decide) ?_
    refine aw_ic_gt (tgt := 23) dX1_letsPass_8 (by decide) (fun c_8 => ?_) (fun c_8 => ?_)
    · refine aw_iconst (v := 0) dX1_letsPass_23 (by decide) ?_
      exact aw_zret dX1_letsPass_24 rfl (by decide) (by decide) ⟨_, rfl, Or.inr ⟨rfl, by first | exact fun q => Int32.not_lt.mpr q.1.1 c_2 | exact fun q => Int32.not_lt.mpr q.1.2 c_8 | exact fun q => c_20 q.2, rfl⟩⟩
    · refine aw_aload1 dX1_letsPass_11 ?_
      refine aw_getI dX1_letsPass_12 fI_1_70 hc.t hc.l sH_hour ?_
      refine aw_iload2 dX1_letsPass_15 ?_
      refine aw_iadd dX1_letsPass_16 ?_
      refine aw_sipush (v := 240) dX1_letsPass_17 (by decide) ?_
      refine aw_ic_le (tgt := 25) dX1_letsPass_20 (by decide) (fun c_20 => ?_) (fun c_20 => ?_)
      · refine aw_iconst (v := 0) dX1_letsPass_25 (by decide) ?_
        refine aw_istore3 dX1_letsPass_26 (by decide) rfl ?_
        have hcnd : ((1 ≤ nI m ∧ nI m ≤ 48) ∧ g 0 + nI m ≤ 240) := ⟨⟨Int32.not_lt.mp c_2, Int32.not_lt.mp c_8⟩, c_20⟩
        exact L27 (m + 1) 0 hcnd (Nat.zero_le _) (by omega)
      · refine aw_iconst (v := 0) dX1_letsPass_23 (by decide) ?_
        exact aw_zret dX1_letsPass_24 rfl (by decide) (by decide) ⟨_, rfl, Or.inr ⟨rfl, by first | exact fun q => Int32.not_lt.mpr q.1.1 c_2 | exact fun q => Int32.not_lt.mpr q.1.2 c_8 | exact fun q => c_20 q.2, rfl⟩⟩
set_option maxHeartbeats 4000000 in
theorem k1_changesOutdoors (σ : Sg) (h : Nat) (π : Nat → Nat) (nr ng nb t : Nat) (g : Rw) (c : Nat) (m : Nat) (hc : HC σ h π) (hw : WF g nr ng nb t) (hh : 307 < h) (hK : KD σ c) (hc5 : c < 100000) : Ct yX1_changesOutdoors cX1_changesOutdoors mX1_changesOutdoors 5 0 0 NN false (sH σ h π nr ng nb g) [.ref 307, .ref h, .int (nI m)] NN (rI fun σ2 v => (v = 1 ∧ (-20 ≤ (tV (c / 100 % 10) m) ∧ (tV (c / 100 % 10) m) ≤ 25) ∧ sH σ h π nr ng nb (upd g 4 (tV (c / 100 % 10) m)) = σ2) ∨ (v = 0 ∧ ¬ (-20 ≤ (tV (c / 100 % 10) m) ∧ (tV (c / 100 % 10) m) ≤ 25) ∧ (sH σ h π nr ng nb g) = σ2)) XF := by
  refine ct_of (ls0 := [some (.ref 307), some (.ref h), some (.int (nI m)), none]) 1 (by decide +kernel) rfl rfl (ndR (ndR (ndI nd0))) rfl (Nat.le_of_ble_eq_true rfl) (fun K => ?_)
  have hnr4 := hw.nr4
  have hng6 := hw.ng6
  have hnb12 := hw.nb12
  refine AW.tern0 (E := (tV (c / 100 % 10) m)) (pc2 := 14) (fun x_14 hx_14 => ?_) (fun J_14 => ?_)
  · subst hx_14
    refine aw_istore3 dX1_changesOutdoors_14 (by decide) rfl ?_
    refine aw_iload3 dX1_changesOutdoors_15 ?_
    refine aw_bipush (v := (-20)) dX1_changesOutdoors_16 (by decide) ?_
    refine aw_ic_lt (tgt := 27) dX1_changesOutdoors_18 (by decide) (fun c_18 => ?_) (fun c_18 => ?_)
    · refine aw_iconst (v := 0) dX1_changesOutdoors_27 (by decide) ?_
      exact aw_zret dX1_changesOutdoors_28 rfl (by decide) (by decide) ⟨_, rfl, Or.inr ⟨rfl, by first | exact fun q => Int32.not_lt.mpr q.1 c_18 | exact fun q => c_24 q.2, rfl⟩⟩
    · refine aw_iload3 dX1_changesOutdoors_21 ?_
      refine aw_bipush (v := 25) dX1_changesOutdoors_22 (by decide) ?_
      refine aw_ic_le (tgt := 29) dX1_changesOutdoors_24 (by decide) (fun c_24 => ?_) (fun c_24 => ?_)
      · refine aw_aload1 dX1_changesOutdoors_29 ?_
        refine aw_iload3 dX1_changesOutdoors_30 ?_
        refine aw_putI dX1_changesOutdoors_31 fP_1_76 hc.t hc.l ?_
        refine AW.eqs (sW_i (j := 1) (by unfold isI; omega)) ?_
        refine aw_iconst (v := 1) dX1_changesOutdoors_34 (by decide) ?_
        exact aw_zret dX1_changesOutdoors_35 rfl (by decide) (by decide) ⟨_, rfl, Or.inl ⟨rfl, ⟨Int32.not_lt.mp c_18, c_24⟩, rfl⟩⟩
      · refine aw_iconst (v := 0) dX1_changesOutdoors_27 (by decide) ?_
        exact aw_zret dX1_changesOutdoors_28 rfl (by decide) (by decide) ⟨_, rfl, Or.inr ⟨rfl, by first | exact fun q => Int32.not_lt.mpr q.1 c_18 | exact fun q => c_24 q.2, rfl⟩⟩
  · refine aw_aload0 dX1_changesOutdoors_0 ?_
    refine aw_getI dX1_changesOutdoors_1 fI_1_20 rfl (by decide) ((sH_out (by omega)).trans hK.2.2.1) ?_
    refine aw_iconst (v := 1) dX1_changesOutdoors_4 (by decide) ?_
    refine aw_ic_ne (tgt := 13) dX1_changesOutdoors_5 (by decide) (fun c_5 => ?_) (fun c_5 => ?_)
    · refine aw_iload2 dX1_changesOutdoors_13 ?_
      exact J_14 _ (by first | exact (if_pos ((nI_eq (b := 1) (by omega) (by omega)).mp (Classical.not_not.mp c_5))).symm | exact (if_pos ((nI_eq (b := 1) (by omega) (by omega)).mp c_5)).symm | exact (if_neg (fun h => c_5 (by rw [h]; rfl))).symm)
    · refine aw_iload2 dX1_changesOutdoors_8 ?_
      refine aw_ineg dX1_changesOutdoors_9 ?_
      refine aw_goto (tgt := 14) dX1_changesOutdoors_10 (by decide) ?_
      exact J_14 _ (by first | exact (if_pos ((nI_eq (b := 1) (by omega) (by omega)).mp (Classical.not_not.mp c_5))).symm | exact (if_pos ((nI_eq (b := 1) (by omega) (by omega)).mp c_5)).symm | exact (if_neg (fun h => c_5 (by rw [h]; rfl))).symm)
set_option maxHeartbeats 4000000 in
theorem k1_proves (σ : Sg) (h : Nat) (π : Nat → Nat) (nr ng nb t : Nat) (g : Rw) (c : Nat) (hc : HC σ h π) (hw : WF g nr ng nb t) (hh : 307 < h) (hK : KD σ c) (hc5 : c < 100000) (hd3 : c / 100 % 10 ≤ 1) : Ct yX1_proves cX1_proves mX1_proves 5 0 0 NN false (sH σ h π nr ng nb g) [.ref 307, .ref h] NN (rI fun σ2 v => (v = 1 ∧ ∃ b, fCur g (c / 1000 % 10) nb = some b ∧ (c / 1000 % 10) < nr ∧ sH σ h π nr ng nb (upd g (31 + 10 * b + 7) (nI (c / 100 % 10))) = σ2) ∨ (v = 0 ∧ (fCur g (c / 1000 % 10) nb = none ∨ ¬ (c / 1000 % 10) < nr) ∧ (sH σ h π nr ng nb g) = σ2)) XF := by
  refine ct_of (ls0 := [some (.ref 307), some (.ref h)]) 0 (by decide +kernel) rfl rfl (ndR (ndR nd0)) rfl (Nat.le_of_ble_eq_true rfl) (fun K => ?_)
  have hnr4 := hw.nr4
  have hng6 := hw.ng6
  have hnb12 := hw.nb12
  have hm01 : nI (c / 100 % 10) = 0 ∨ nI (c / 100 % 10) = 1 := by
    rcases (show (c / 100 % 10) = 0 ∨ (c / 100 % 10) = 1 by omega) with q | q
    · exact Or.inl (by rw [q]; rfl)
    · exact Or.inr (by rw [q]; rfl)
  refine aw_aload1 dX1_proves_0 ?_
  refine aw_aload0 dX1_proves_1 ?_
  refine aw_getI dX1_proves_2 fI_1_17 rfl (by decide) ((sH_out (by omega)).trans hK.2.1) ?_
  refine aw_VA1 (k2_findRoom _ _ _ _ _ _ _ _ _ hc hw) dX1_proves_5 vl_1_46 hc.t hc.l (by decide) (Nat.le_of_ble_eq_true rfl) (fun σ_5 r_5 h_5 => ?_)
  obtain ⟨rfl, h_5⟩ := h_5
  rcases h_5 with ⟨k_5, hk_5, e_5, rfl⟩ | ⟨hn_5, rfl⟩
  · have e_5 := (nI_eq (by omega) (by omega)).mp e_5
    subst e_5
    refine aw_ifnull dX1_proves_8 ?_
    refine aw_aload1 dX1_proves_11 ?_
    refine aw_aload0 dX1_proves_12 ?_
    refine aw_getI dX1_proves_13 fI_1_17 rfl (by decide) ((sH_out (by omega)).trans hK.2.1) ?_
    refine aw_VI1 (k2_bookingOfNow _ _ _ _ _ _ _ _ _ hc hw (by omega)) dX1_proves_16 vl_1_79 hc.t hc.l (by decide) (Nat.le_of_ble_eq_true rfl) (fun σ_16 r_16 h_16 => ?_)
    obtain ⟨rfl, h_16⟩ := h_16
    rcases hN : fCur g (c / 1000 % 10) nb with _ | f
    · rw [hN] at h_16
      have h_16 : (-99 : Int32) = r_16 := h_16
      subst h_16
      refine aw_bipush (v := (-99)) dX1_proves_19 (by decide) ?_
      refine aw_ic_ne (tgt := 26) dX1_proves_21 (by decide) (fun c_21 => absurd c_21 (by decide)) (fun _ => ?_)
      refine aw_iconst (v := 0) dX1_proves_24 (by decide) ?_
      exact aw_zret dX1_proves_25 rfl (by decide) (by decide) ⟨_, rfl, Or.inr ⟨rfl, by first | exact Or.inl hN | exact Or.inl rfl | exact absurd c_21.symm (oI_ne (by omega)) | exact Or.inr (fun q => hn_5 ⟨_, q, rfl⟩), rfl⟩⟩
    · rw [hN] at h_16
      have h_16 : nI f = r_16 := h_16
      subst h_16
      have hf12 := fCur_lt hN
      refine aw_bipush (v := (-99)) dX1_proves_19 (by decide) ?_
      refine aw_ic_ne (tgt := 26) dX1_proves_21 (by decide) (fun c_21 => ?_) (fun c_21 => ?_)
      · refine aw_aload1 dX1_proves_26 ?_
        refine aw_aload0 dX1_proves_27 ?_
        refine aw_getI dX1_proves_28 fI_1_17 rfl (by decide) ((sH_out (by omega)).trans hK.2.1) ?_
        refine AW.tern0 (E := (nI (c / 100 % 10))) (pc2 := 44) (fun x_44 hx_44 => ?_) (fun J_44 => ?_)
        · subst hx_44
          refine aw_VV2 (k2_mark _ _ _ _ _ _ _ g (c / 1000 % 10) (nI (c / 100 % 10)) hc hw (by omega) hm01) dX1_proves_44 vl_1_82 hc.t hc.l (by decide) (Nat.le_of_ble_eq_true rfl) (fun σ_44 h_44 => ?_)
          obtain rfl := h_44
          rw [hN]
          refine aw_iconst (v := 1) dX1_proves_47 (by decide) ?_
          exact aw_zret dX1_proves_48 rfl (by decide) (by decide) ⟨_, rfl, Or.inl ⟨rfl, f, by first | exact hN | exact rfl, hk_5, rfl⟩⟩
        · refine aw_aload0 dX1_proves_31 ?_
          refine aw_getI dX1_proves_32 fI_1_20 rfl (by decide) ((sH_out (by omega)).trans hK.2.2.1) ?_
          refine aw_iconst (v := 1) dX1_proves_35 (by decide) ?_
          refine aw_ic_ne (tgt := 43) dX1_proves_36 (by decide) (fun c_36 => ?_) (fun c_36 => ?_)
          · refine aw_iconst (v := 0) dX1_proves_43 (by decide) ?_
            exact J_44 _ (by first | exact c_36.symm | exact (Classical.not_not.mp c_36).symm | exact hm01.elim (fun q => q.symm) (fun q => absurd q c_36))
          · refine aw_iconst (v := 1) dX1_proves_39 (by decide) ?_
            refine aw_goto (tgt := 44) dX1_proves_40 (by decide) ?_
            exact J_44 _ (by first | exact c_36.symm | exact (Classical.not_not.mp c_36).symm | exact hm01.elim (fun q => q.symm) (fun q => absurd q c_36))
      · refine aw_iconst (v := 0) dX1_proves_24 (by decide) ?_
        exact aw_zret dX1_proves_25 rfl (by decide) (by decide) ⟨_, rfl, Or.inr ⟨rfl, by first | exact Or.inl hN | exact Or.inl rfl | exact absurd c_21.symm (oI_ne (by omega)) | exact Or.inr (fun q => hn_5 ⟨_, q, rfl⟩), rfl⟩⟩
  · refine aw_ifnullN (tgt := 24) dX1_proves_8 (by decide) ?_
    refine aw_iconst (v := 0) dX1_proves_24 (by decide) ?_
    exact aw_zret dX1_proves_25 rfl (by decide) (by decide) ⟨_, rfl, Or.inr ⟨rfl, by first | exact Or.inl hN | exact Or.inl rfl | exact absurd c_21.symm (oI_ne (by omega)) | exact Or.inr (fun q => hn_5 ⟨_, q, rfl⟩), rfl⟩⟩
set_option maxHeartbeats 4000000 in
theorem k1_pays (σ : Sg) (h : Nat) (π : Nat → Nat) (nr ng nb t : Nat) (g : Rw) (c : Nat) (hc : HC σ h π) (hw : WF g nr ng nb t) (hh : 307 < h) (hK : KD σ c) (hc5 : c < 100000) : Ct yX1_pays cX1_pays mX1_pays 5 0 0 NN false (sH σ h π nr ng nb g) [.ref 307, .ref h] NN (rI fun σ2 v => (v = 1 ∧ (c / 1000 % 10) < ng ∧ sH σ h π nr ng nb (upd g (25 + (c / 1000 % 10)) 0) = σ2) ∨ (v = 0 ∧ ¬ (c / 1000 % 10) < ng ∧ (sH σ h π nr ng nb g) = σ2)) XF := by
  refine ct_of (ls0 := [some (.ref 307), some (.ref h)]) 0 (by decide +kernel) rfl rfl (ndR (ndR nd0)) rfl (Nat.le_of_ble_eq_true rfl) (fun K => ?_)
  have hnr4 := hw.nr4
  have hng6 := hw.ng6
  have hnb12 := hw.nb12
  refine aw_aload1 dX1_pays_0 ?_
  refine aw_aload0 dX1_pays_1 ?_
  refine aw_getI dX1_pays_2 fI_1_17 rfl (by decide) ((sH_out (by omega)).trans hK.2.1) ?_
  refine aw_VI1 (k2_hasGroup _ _ _ _ _ _ _ _ _ hc hw) dX1_pays_5 vl_1_56 hc.t hc.l (by decide) (Nat.le_of_ble_eq_true rfl) (fun σ_5 r_5 h_5 => ?_)
  obtain ⟨rfl, h_5⟩ := h_5
  rcases h_5 with ⟨rfl, p_5⟩ | ⟨rfl, p_5⟩
  · refine aw_if_ne (tgt := 13) dX1_pays_8 (by decide) (fun _ => ?_) (fun c_8 => absurd c_8 (by decide))
    have hlt : (c / 1000 % 10) < ng := (isNn (by omega) (by omega)).mp p_5
    refine aw_aload1 dX1_pays_13 ?_
    refine aw_aload0 dX1_pays_14 ?_
    refine aw_getI dX1_pays_15 fI_1_17 rfl (by decide) ((sH_out (by omega)).trans hK.2.1) ?_
    refine aw_VI1 (k2_settle _ _ _ _ _ _ _ g _ hc hw hlt) dX1_pays_18 vl_1_86 hc.t hc.l (by decide) (Nat.le_of_ble_eq_true rfl) (fun σ_18 r_18 h_18 => ?_)
    obtain ⟨rfl, rfl⟩ := h_18
    refine aw_pop dX1_pays_21 rfl ?_
    refine aw_iconst (v := 1) dX1_pays_22 (by decide) ?_
    exact aw_zret dX1_pays_23 rfl (by decide) (by decide) ⟨_, rfl, Or.inl ⟨rfl, hlt, rfl⟩⟩
  · refine aw_if_ne (tgt := 13) dX1_pays_8 (by decide) (fun c_8 => absurd c_8 (by decide)) (fun _ => ?_)
    refine aw_iconst (v := 0) dX1_pays_11 (by decide) ?_
    exact aw_zret dX1_pays_12 rfl (by decide) (by decide) ⟨_, rfl, Or.inr ⟨rfl, fun q => p_5 ⟨_, q, rfl⟩, rfl⟩⟩
set_option maxHeartbeats 4000000 in
theorem k1_cancels (σ : Sg) (h : Nat) (π : Nat → Nat) (nr ng nb t : Nat) (g : Rw) (c : Nat) (hc : HC σ h π) (hw : WF g nr ng nb t) (hh : 307 < h) (hK : KD σ c) (hc5 : c < 100000) : Ct yX1_cancels cX1_cancels mX1_cancels 5 0 0 NN false (sH σ h π nr ng nb g) [.ref 307, .ref h] NN (rI fun σ2 v => (v = 1 ∧ ((c / 100 % 100) < nb ∧ goesP g (c / 100 % 100)) ∧ rGo (sH σ h π nr ng nb g) h (c / 100 % 100) nb π (g 3 - 1) = σ2) ∨ (v = 0 ∧ ¬ ((c / 100 % 100) < nb ∧ goesP g (c / 100 % 100)) ∧ (sH σ h π nr ng nb g) = σ2)) XF := by
  refine ct_of (ls0 := [some (.ref 307), some (.ref h), none, none]) 2 (by decide +kernel) rfl rfl (ndR (ndR nd0)) rfl (Nat.le_of_ble_eq_true rfl) (fun K => ?_)
  have hnr4 := hw.nr4
  have hng6 := hw.ng6
  have hnb12 := hw.nb12
  refine aw_bipush (v := 10) dX1_cancels_0 (by decide) ?_
  refine aw_aload0 dX1_cancels_2 ?_
  refine aw_getI dX1_cancels_3 fI_1_17 rfl (by decide) ((sH_out (by omega)).trans hK.2.1) ?_
  refine aw_imul dX1_cancels_6 ?_
  refine aw_aload0 dX1_cancels_7 ?_
  refine aw_getI dX1_cancels_8 fI_1_20 rfl (by decide) ((sH_out (by omega)).trans hK.2.2.1) ?_
  refine aw_iadd dX1_cancels_11 ?_
  rw [show (10 : Int32) * nI (c / 1000 % 10) + nI (c / 100 % 10) = nI (c / 100 % 100) from by rw [tn2, show 10 * (c / 1000 % 10) + (c / 100 % 10) = (c / 100 % 100) by omega]]
  refine aw_istore2 dX1_cancels_12 (by decide) rfl ?_
  refine aw_aload1 dX1_cancels_13 ?_
  refine aw_iload2 dX1_cancels_14 ?_
  refine aw_VA1 (k2_findBooking _ _ _ _ _ _ _ _ _ hc hw) dX1_cancels_15 vl_1_89 hc.t hc.l (by decide) (Nat.le_of_ble_eq_true rfl) (fun σ_15 r_15 h_15 => ?_)
  obtain ⟨rfl, h_15⟩ := h_15
  rcases h_15 with ⟨k_15, hk_15, e_15, rfl⟩ | ⟨hn_15, rfl⟩
  · have e_15 := (nI_eq (by omega) (by omega)).mp e_15
    subst e_15
    refine aw_astore3 dX1_cancels_18 (by decide) rfl ?_
    refine aw_aload3 dX1_cancels_19 ?_
    refine aw_ifnull dX1_cancels_20 ?_
    refine aw_aload3 dX1_cancels_23 ?_
    refine aw_aload1 dX1_cancels_24 ?_
    refine aw_getI dX1_cancels_25 fI_1_70 hc.t hc.l sH_hour ?_
    refine aw_VI1 (k0_mayGo _ _ _ (fun k => g (31 + 10 * (c / 100 % 100) + k)) (fun j hj => sH_b hc (by omega) hw.nb12 hj) (hc.tb (by omega)) (hc.lb (by omega))) dX1_cancels_28 vl_1_93 (hc.tb (by omega)) (hc.lb (by omega)) (by decide) (Nat.le_of_ble_eq_true rfl) (fun σ_28 r_28 h_28 => ?_)
    obtain ⟨rfl, h_28⟩ := h_28
    rcases h_28 with ⟨rfl, p_28⟩ | ⟨rfl, p_28⟩
    · refine aw_if_ne (tgt := 36) dX1_cancels_31 (by decide) (fun _ => ?_) (fun c_31 => absurd c_31 (by decide))
      refine aw_aload1 dX1_cancels_36 ?_
      refine aw_iload2 dX1_cancels_37 ?_
      refine aw_VV1 (k2_removeBooking _ _ _ _ _ _ _ g (c / 100 % 100) hc hw hk_15) dX1_cancels_38 vl_1_98 hc.t hc.l (by decide) (Nat.le_of_ble_eq_true rfl) (fun σ_38 h_38 => ?_)
      obtain rfl := h_38
      refine aw_iconst (v := 1) dX1_cancels_41 (by decide) ?_
      exact aw_zret dX1_cancels_42 rfl (by decide) (by decide) ⟨_, rfl, Or.inl ⟨rfl, ⟨hk_15, p_28⟩, rfl⟩⟩
    · refine aw_if_ne (tgt := 36) dX1_cancels_31 (by decide) (fun c_31 => absurd c_31 (by decide)) (fun _ => ?_)
      refine aw_iconst (v := 0) dX1_cancels_34 (by decide) ?_
      exact aw_zret dX1_cancels_35 rfl (by decide) (by decide) ⟨_, rfl, Or.inr ⟨rfl, by first | exact fun q => hn_15 ⟨_, q.1, rfl⟩ | exact fun q => p_28 q.2, rfl⟩⟩
  · refine aw_astore3N dX1_cancels_18 (by decide) rfl ?_
    refine aw_aload3N dX1_cancels_19 ?_
    refine aw_ifnullN (tgt := 34) dX1_cancels_20 (by decide) ?_
    refine aw_iconst (v := 0) dX1_cancels_34 (by decide) ?_
    exact aw_zret dX1_cancels_35 rfl (by decide) (by decide) ⟨_, rfl, Or.inr ⟨rfl, by first | exact fun q => hn_15 ⟨_, q.1, rfl⟩ | exact fun q => p_28 q.2, rfl⟩⟩
set_option maxHeartbeats 4000000 in
theorem k1_warmN (σ : Sg) (u : Int32) : Ct yX1_isAsWarm cX1_isAsWarm mX1_isAsWarm 1 0 0 NN false σ [.ref 307, .null, .int u] NN (eZ1 σ False) XF := by
  refine ct_of (ls0 := [some (.ref 307), some (.null), some (.int u)]) 0 (by decide +kernel) rfl rfl (ndR (ndN (ndI nd0))) rfl (Nat.le_of_ble_eq_true rfl) (fun K => ?_)
  refine aw_aload1N dX1_isAsWarm_0 ?_
  refine aw_ifnullN (tgt := 16) dX1_isAsWarm_1 (by decide) ?_
  refine aw_iconst (v := 0) dX1_isAsWarm_16 (by decide) ?_
  exact aw_zret dX1_isAsWarm_17 rfl (by decide) (by decide) (eZ_0 (fun h => h))
set_option maxHeartbeats 4000000 in
theorem k1_warm (σ : Sg) (x : Nat) (u v : Int32) (hT : cT x = .inl 5) (hx : x < NN) (hv : σ.1 x 3 = v) : Ct yX1_isAsWarm cX1_isAsWarm mX1_isAsWarm 1 0 0 NN false σ [.ref 307, .ref x, .int u] NN (eZ1 σ (u ≤ v)) XF := by
  refine ct_of (ls0 := [some (.ref 307), some (.ref x), some (.int u)]) 0 (by decide +kernel) rfl rfl (ndR (ndR (ndI nd0))) rfl (Nat.le_of_ble_eq_true rfl) (fun K => ?_)
  refine aw_aload1 dX1_isAsWarm_0 ?_
  refine aw_ifnull dX1_isAsWarm_1 ?_
  refine aw_aload1 dX1_isAsWarm_4 ?_
  refine aw_getI dX1_isAsWarm_5 fI_1_102 hT hx hv ?_
  refine aw_iload2 dX1_isAsWarm_8 ?_
  refine aw_ic_lt (tgt := 16) dX1_isAsWarm_9 (by decide) (fun c_9 => ?_) (fun c_9 => ?_)
  · refine aw_iconst (v := 0) dX1_isAsWarm_16 (by decide) ?_
    exact aw_zret dX1_isAsWarm_17 rfl (by decide) (by decide) (eZ_0 (Int32.not_le.mpr c_9))
  · refine aw_iconst (v := 1) dX1_isAsWarm_12 (by decide) ?_
    refine aw_goto (tgt := 17) dX1_isAsWarm_13 (by decide) ?_
    exact aw_zret dX1_isAsWarm_17 rfl (by decide) (by decide) (eZ_1 (Int32.not_lt.mp c_9))
set_option maxHeartbeats 4000000 in
theorem k1_isOverOrNot (σ : Sg) (h : Nat) (π : Nat → Nat) (nr ng nb t : Nat) (g : Rw) (c : Nat) (hc : HC σ h π) (hw : WF g nr ng nb t) (hh : 307 < h) (hK : KD σ c) (hc5 : c < 100000) : Ct yX1_isOverOrNot cX1_isOverOrNot mX1_isOverOrNot 4 0 0 NN false (sH σ h π nr ng nb g) [.ref 307, .ref h] NN (eZ1 (sH σ h π nr ng nb g) ((c / 100 % 100) < nb ∧ (fEnd g (c / 100 % 100) ≤ g 0 ↔ (c % 10) = 1))) XF := by
  refine ct_of (ls0 := [some (.ref 307), some (.ref h), none]) 1 (by decide +kernel) rfl rfl (ndR (ndR nd0)) rfl (Nat.le_of_ble_eq_true rfl) (fun K => ?_)
  have hnr4 := hw.nr4
  have hng6 := hw.ng6
  have hnb12 := hw.nb12
  refine aw_aload1 dX1_isOverOrNot_0 ?_
  refine aw_bipush (v := 10) dX1_isOverOrNot_1 (by decide) ?_
  refine aw_aload0 dX1_isOverOrNot_3 ?_
  refine aw_getI dX1_isOverOrNot_4 fI_1_17 rfl (by decide) ((sH_out (by omega)).trans hK.2.1) ?_
  refine aw_imul dX1_isOverOrNot_7 ?_
  refine aw_aload0 dX1_isOverOrNot_8 ?_
  refine aw_getI dX1_isOverOrNot_9 fI_1_20 rfl (by decide) ((sH_out (by omega)).trans hK.2.2.1) ?_
  refine aw_iadd dX1_isOverOrNot_12 ?_
  rw [show (10 : Int32) * nI (c / 1000 % 10) + nI (c / 100 % 10) = nI (c / 100 % 100) from by rw [tn2, show 10 * (c / 1000 % 10) + (c / 100 % 10) = (c / 100 % 100) by omega]]
  refine aw_VA1 (k2_findBooking _ _ _ _ _ _ _ _ _ hc hw) dX1_isOverOrNot_13 vl_1_89 hc.t hc.l (by decide) (Nat.le_of_ble_eq_true rfl) (fun σ_13 r_13 h_13 => ?_)
  obtain ⟨rfl, h_13⟩ := h_13
  rcases h_13 with ⟨k_13, hk_13, e_13, rfl⟩ | ⟨hn_13, rfl⟩
  · have e_13 := (nI_eq (by omega) (by omega)).mp e_13
    subst e_13
    refine aw_astore2 dX1_isOverOrNot_16 (by decide) rfl ?_
    refine aw_aload2 dX1_isOverOrNot_17 ?_
    refine aw_ifnull dX1_isOverOrNot_18 ?_
    refine aw_aload2 dX1_isOverOrNot_21 ?_
    refine aw_aload1 dX1_isOverOrNot_22 ?_
    refine aw_getI dX1_isOverOrNot_23 fI_1_70 hc.t hc.l sH_hour ?_
    refine aw_VI1 (k0_isOver _ _ _ (fun k => g (31 + 10 * (c / 100 % 100) + k)) (fun j hj => sH_b hc (by omega) hw.nb12 hj) (hc.tb (by omega)) (hc.lb (by omega))) dX1_isOverOrNot_26 vl_1_107 (hc.tb (by omega)) (hc.lb (by omega)) (by decide) (Nat.le_of_ble_eq_true rfl) (fun σ_26 r_26 h_26 => ?_)
    obtain ⟨rfl, h_26⟩ := h_26
    rcases h_26 with ⟨rfl, p_26⟩ | ⟨rfl, p_26⟩
    · refine aw_aload0 dX1_isOverOrNot_29 ?_
      refine aw_getI dX1_isOverOrNot_30 fI_1_26 rfl (by decide) ((sH_out (by omega)).trans hK.2.2.2.2) ?_
      refine aw_iconst (v := 1) dX1_isOverOrNot_33 (by decide) ?_
      refine aw_ic_ne (tgt := 41) dX1_isOverOrNot_34 (by decide) (fun c_34 => ?_) (fun c_34 => ?_)
      · refine aw_iconst (v := 0) dX1_isOverOrNot_41 (by decide) ?_
        refine aw_ic_ne (tgt := 49) dX1_isOverOrNot_42 (by decide) (fun _ => ?_) (fun c_42 => absurd c_42 (by decide))
        refine aw_iconst (v := 0) dX1_isOverOrNot_49 (by decide) ?_
        exact aw_zret dX1_isOverOrNot_50 rfl (by decide) (by decide) (eZ_0 (fun h => by
          first
            | exact hn_13 ⟨_, h.1, rfl⟩
            | exact c_34 (by rw [h.2.mp p_26]; rfl)
            | exact p_26 (h.2.mpr ((nI_eq (b := 1) (by omega) (by omega)).mp (by first | exact c_34 | exact Classical.not_not.mp c_34)))))
      · refine aw_iconst (v := 1) dX1_isOverOrNot_37 (by decide) ?_
        refine aw_goto (tgt := 42) dX1_isOverOrNot_38 (by decide) ?_
        refine aw_ic_ne (tgt := 49) dX1_isOverOrNot_42 (by decide) (fun c_42 => absurd c_42 (by decide)) (fun _ => ?_)
        refine aw_iconst (v := 1) dX1_isOverOrNot_45 (by decide) ?_
        refine aw_goto (tgt := 50) dX1_isOverOrNot_46 (by decide) ?_
        exact aw_zret dX1_isOverOrNot_50 rfl (by decide) (by decide) (eZ_1 ⟨hk_13, by first | exact ⟨fun _ => (nI_eq (b := 1) (by omega) (by omega)).mp (by first | exact c_34 | exact Classical.not_not.mp c_34), fun _ => p_26⟩ | exact ⟨fun q => absurd q p_26, fun q => absurd (show nI (c % 10) = 1 from by rw [q]; rfl) c_34⟩⟩)
    · refine aw_aload0 dX1_isOverOrNot_29 ?_
      refine aw_getI dX1_isOverOrNot_30 fI_1_26 rfl (by decide) ((sH_out (by omega)).trans hK.2.2.2.2) ?_
      refine aw_iconst (v := 1) dX1_isOverOrNot_33 (by decide) ?_
      refine aw_ic_ne (tgt := 41) dX1_isOverOrNot_34 (by decide) (fun c_34 => ?_) (fun c_34 => ?_)
      · refine aw_iconst (v := 0) dX1_isOverOrNot_41 (by decide) ?_
        refine aw_ic_ne (tgt := 49) dX1_isOverOrNot_42 (by decide) (fun c_42 => absurd c_42 (by decide)) (fun _ => ?_)
        refine aw_iconst (v := 1) dX1_isOverOrNot_45 (by decide) ?_
        refine aw_goto (tgt := 50) dX1_isOverOrNot_46 (by decide) ?_
        exact aw_zret dX1_isOverOrNot_50 rfl (by decide) (by decide) (eZ_1 ⟨hk_13, by first | exact ⟨fun _ => (nI_eq (b := 1) (by omega) (by omega)).mp (by first | exact c_34 | exact Classical.not_not.mp c_34), fun _ => p_26⟩ | exact ⟨fun q => absurd q p_26, fun q => absurd (show nI (c % 10) = 1 from by rw [q]; rfl) c_34⟩⟩)
      · refine aw_iconst (v := 1) dX1_isOverOrNot_37 (by decide) ?_
        refine aw_goto (tgt := 42) dX1_isOverOrNot_38 (by decide) ?_
        refine aw_ic_ne (tgt := 49) dX1_isOverOrNot_42 (by decide) (fun _ => ?_) (fun c_42 => absurd c_42 (by decide))
        refine aw_iconst (v := 0) dX1_isOverOrNot_49 (by decide) ?_
        exact aw_zret dX1_isOverOrNot_50 rfl (by decide) (by decide) (eZ_0 (fun h => by
          first
            | exact hn_13 ⟨_, h.1, rfl⟩
            | exact c_34 (by rw [h.2.mp p_26]; rfl)
            | exact p_26 (h.2.mpr ((nI_eq (b := 1) (by omega) (by omega)).mp (by first | exact c_34 | exact Classical.not_not.mp c_34)))))
  · refine aw_astore2N dX1_isOverOrNot_16 (by decide) rfl ?_
    refine aw_aload2N dX1_isOverOrNot_17 ?_
    refine aw_ifnullN (tgt := 49) dX1_isOverOrNot_18 (by decide) ?_
    refine aw_iconst (v := 0) dX1_isOverOrNot_49 (by decide) ?_
    exact aw_zret dX1_isOverOrNot_50 rfl (by decide) (by decide) (eZ_0 (fun h => by
      first
        | exact hn_13 ⟨_, h.1, rfl⟩
        | exact c_34 (by rw [h.2.mp p_26]; rfl)
        | exact p_26 (h.2.mpr ((nI_eq (b := 1) (by omega) (by omega)).mp (by first | exact c_34 | exact Classical.not_not.mp c_34)))))
set_option maxHeartbeats 4000000 in
theorem k1_succeedsOn (σ : Sg) (h : Nat) (π : Nat → Nat) (nr ng nb t : Nat) (g : Rw) (c : Nat) (hc : HC σ h π) (hw : WF g nr ng nb t) (hh : 307 < h) (hK : KD σ c) (hc5 : c < 100000) : Ct yX1_succeedsOn cX1_succeedsOn mX1_succeedsOn 6 0 0 NN false (sH σ h π nr ng nb g) [.ref 307, .ref h] NN (eC σ h π nr ng nb g (fDoes g nr ng nb c)) XF := by
  refine ct_of (ls0 := [some (.ref 307), some (.ref h)]) 0 (by decide +kernel) rfl rfl (ndR (ndR nd0)) rfl (Nat.le_of_ble_eq_true rfl) (fun K => ?_)
  have hnr4 := hw.nr4
  have hng6 := hw.ng6
  have hnb12 := hw.nb12
  refine aw_aload0 dX1_succeedsOn_0 ?_
  refine aw_getI dX1_succeedsOn_1 fI_1_11 rfl (by decide) ((sH_out (by omega)).trans hK.1) ?_
  have hd9 : c / 10000 = 0 ∨ c / 10000 = 1 ∨ c / 10000 = 2 ∨ c / 10000 = 3 ∨ c / 10000 = 4 ∨ c / 10000 = 5 ∨ c / 10000 = 6 ∨ c / 10000 = 7 ∨ c / 10000 = 8 ∨ c / 10000 = 9 := by omega
  rcases hd9 with hd | hd | hd | hd | hd | hd | hd | hd | hd | hd
  · have hf : fDoes g nr ng nb c = fDo g nr ng nb (c / 1000 % 10) (c / 100 % 10) (c % 100) (c / 100 % 100) (c % 1000) (c % 10000) 0 := by rw [fDoes, hd]
    refine aw_tableO (tgt := 395) dX1_succeedsOn_4 (Or.inl (by rw [hd]; decide)) (by decide) ?_
    refine aw_iconst (v := 0) dX1_succeedsOn_395 (by decide) ?_
    exact aw_zret dX1_succeedsOn_396 rfl (by decide) (by decide) (eC_0 hf)
  · have hf : fDoes g nr ng nb c = fDo g nr ng nb (c / 1000 % 10) (c / 100 % 10) (c % 100) (c / 100 % 100) (c % 1000) (c % 10000) 1 := by rw [fDoes, hd]
    refine aw_table (off := 52) (tgt := 56) dX1_succeedsOn_4 (by rw [hd]; decide) (by rw [hd]; decide) (by rw [hd]; rfl) (by decide) ?_
    refine aw_aload0 dX1_succeedsOn_56 ?_
    refine aw_getI dX1_succeedsOn_57 fI_1_17 rfl (by decide) ((sH_out (by omega)).trans hK.2.1) ?_
    refine aw_if_ne (tgt := 94) dX1_succeedsOn_60 (by decide) (fun c_60 => ?_) (fun c_60 => ?_)
    · refine aw_iconst (v := 0) dX1_succeedsOn_94 (by decide) ?_
      exact aw_zret dX1_succeedsOn_95 rfl (by decide) (by decide) (eC_0 (hf.trans (cI_f (fun h => by
        first
          | exact c_60 (by rw [show (c / 1000 % 10) = 0 by have := h.1; omega]; rfl)
          | exact c_67 (by rw [show (c / 100 % 10) = 0 by have := h.1; omega]; rfl)
          | exact q_84 h.2))))
    · refine aw_aload0 dX1_succeedsOn_63 ?_
      refine aw_getI dX1_succeedsOn_64 fI_1_20 rfl (by decide) ((sH_out (by omega)).trans hK.2.2.1) ?_
      refine aw_if_ne (tgt := 94) dX1_succeedsOn_67 (by decide) (fun c_67 => ?_) (fun c_67 => ?_)
      · refine aw_iconst (v := 0) dX1_succeedsOn_94 (by decide) ?_
        exact aw_zret dX1_succeedsOn_95 rfl (by decide) (by decide) (eC_0 (hf.trans (cI_f (fun h => by
          first
            | exact c_60 (by rw [show (c / 1000 % 10) = 0 by have := h.1; omega]; rfl)
            | exact c_67 (by rw [show (c / 100 % 10) = 0 by have := h.1; omega]; rfl)
            | exact q_84 h.2))))
      · refine aw_aload0 dX1_succeedsOn_70 ?_
        refine aw_aload1 dX1_succeedsOn_71 ?_
        refine aw_bipush (v := 10) dX1_succeedsOn_72 (by decide) ?_
        refine aw_aload0 dX1_succeedsOn_74 ?_
        refine aw_getI dX1_succeedsOn_75 fI_1_23 rfl (by decide) ((sH_out (by omega)).trans hK.2.2.2.1) ?_
        refine aw_imul dX1_succeedsOn_78 ?_
        refine aw_aload0 dX1_succeedsOn_79 ?_
        refine aw_getI dX1_succeedsOn_80 fI_1_26 rfl (by decide) ((sH_out (by omega)).trans hK.2.2.2.2) ?_
        refine aw_iadd dX1_succeedsOn_83 ?_
        rw [show (10 : Int32) * nI (c / 10 % 10) + nI (c % 10) = nI (c % 100) from by rw [tn2, show 10 * (c / 10 % 10) + (c % 10) = (c % 100) by omega]]
        refine aw_VI2 (k1_letsPass _ _ _ _ _ _ _ _ _ hc hw (by omega)) dX1_succeedsOn_84 vl_1_29 rfl (by decide) (by decide) (Nat.le_of_ble_eq_true rfl) (fun σ_84 r_84 h_84 => ?_)
        rcases h_84 with ⟨rfl, q_84, rfl⟩ | ⟨rfl, q_84, rfl⟩
        · refine aw_if_eq (tgt := 94) dX1_succeedsOn_87 (by decide) (fun c_87 => absurd c_87 (by decide)) (fun _ => ?_)
          refine aw_iconst (v := 1) dX1_succeedsOn_90 (by decide) ?_
          refine aw_goto (tgt := 95) dX1_succeedsOn_91 (by decide) ?_
          exact aw_zret dX1_succeedsOn_95 rfl (by decide) (by decide) (eC_1 hc.2.2 (hf.trans (cI_t ⟨by have := (nI_eq (b := 0) (by omega) (by omega)).mp c_60; have := (nI_eq (b := 0) (by omega) (by omega)).mp c_67; omega, q_84⟩)))
        · refine aw_if_eq (tgt := 94) dX1_succeedsOn_87 (by decide) (fun _ => ?_) (fun c_87 => absurd c_87 (by decide))
          refine aw_iconst (v := 0) dX1_succeedsOn_94 (by decide) ?_
          exact aw_zret dX1_succeedsOn_95 rfl (by decide) (by decide) (eC_0 (hf.trans (cI_f (fun h => by
            first
              | exact c_60 (by rw [show (c / 1000 % 10) = 0 by have := h.1; omega]; rfl)
              | exact c_67 (by rw [show (c / 100 % 10) = 0 by have := h.1; omega]; rfl)
              | exact q_84 h.2))))
  · have hf : fDoes g nr ng nb c = fDo g nr ng nb (c / 1000 % 10) (c / 100 % 10) (c % 100) (c / 100 % 100) (c % 1000) (c % 10000) 2 := by rw [fDoes, hd]
    refine aw_table (off := 92) (tgt := 96) dX1_succeedsOn_4 (by rw [hd]; decide) (by rw [hd]; decide) (by rw [hd]; rfl) (by decide) ?_
    refine aw_aload0 dX1_succeedsOn_96 ?_
    refine aw_getI dX1_succeedsOn_97 fI_1_17 rfl (by decide) ((sH_out (by omega)).trans hK.2.1) ?_
    refine aw_if_ne (tgt := 135) dX1_succeedsOn_100 (by decide) (fun c_100 => ?_) (fun c_100 => ?_)
    · refine aw_iconst (v := 0) dX1_succeedsOn_135 (by decide) ?_
      exact aw_zret dX1_succeedsOn_136 rfl (by decide) (by decide) (eC_0 (hf.trans (cI_f (fun h => by
        first
          | exact c_100 (by rw [show (c / 1000 % 10) = 0 by have := h.1; omega]; rfl)
          | exact absurd ((nI_ltI (a := 1) (by omega) (by omega)).mp c_108) (by have := h.2.1; omega)
          | exact q_125 h.2.2))))
    · refine aw_aload0 dX1_succeedsOn_103 ?_
      refine aw_getI dX1_succeedsOn_104 fI_1_20 rfl (by decide) ((sH_out (by omega)).trans hK.2.2.1) ?_
      refine aw_iconst (v := 1) dX1_succeedsOn_107 (by decide) ?_
      refine aw_ic_gt (tgt := 135) dX1_succeedsOn_108 (by decide) (fun c_108 => ?_) (fun c_108 => ?_)
      · refine aw_iconst (v := 0) dX1_succeedsOn_135 (by decide) ?_
        exact aw_zret dX1_succeedsOn_136 rfl (by decide) (by decide) (eC_0 (hf.trans (cI_f (fun h => by
          first
            | exact c_100 (by rw [show (c / 1000 % 10) = 0 by have := h.1; omega]; rfl)
            | exact absurd ((nI_ltI (a := 1) (by omega) (by omega)).mp c_108) (by have := h.2.1; omega)
            | exact q_125 h.2.2))))
      · refine aw_aload0 dX1_succeedsOn_111 ?_
        refine aw_aload1 dX1_succeedsOn_112 ?_
        refine aw_bipush (v := 10) dX1_succeedsOn_113 (by decide) ?_
        refine aw_aload0 dX1_succeedsOn_115 ?_
        refine aw_getI dX1_succeedsOn_116 fI_1_23 rfl (by decide) ((sH_out (by omega)).trans hK.2.2.2.1) ?_
        refine aw_imul dX1_succeedsOn_119 ?_
        refine aw_aload0 dX1_succeedsOn_120 ?_
        refine aw_getI dX1_succeedsOn_121 fI_1_26 rfl (by decide) ((sH_out (by omega)).trans hK.2.2.2.2) ?_
        refine aw_iadd dX1_succeedsOn_124 ?_
        rw [show (10 : Int32) * nI (c / 10 % 10) + nI (c % 10) = nI (c % 100) from by rw [tn2, show 10 * (c / 10 % 10) + (c % 10) = (c % 100) by omega]]
        refine aw_VI2 (k1_changesOutdoors _ _ _ _ _ _ _ _ c _ hc hw hh hK hc5) dX1_succeedsOn_125 vl_1_33 rfl (by decide) (by decide) (Nat.le_of_ble_eq_true rfl) (fun σ_125 r_125 h_125 => ?_)
        rcases h_125 with ⟨rfl, q_125, rfl⟩ | ⟨rfl, q_125, rfl⟩
        · refine aw_if_eq (tgt := 135) dX1_succeedsOn_128 (by decide) (fun c_128 => absurd c_128 (by decide)) (fun _ => ?_)
          refine aw_iconst (v := 1) dX1_succeedsOn_131 (by decide) ?_
          refine aw_goto (tgt := 136) dX1_succeedsOn_132 (by decide) ?_
          exact aw_zret dX1_succeedsOn_136 rfl (by decide) (by decide) (eC_1 hc.2.2 (hf.trans (cI_t ⟨(nI_eq (b := 0) (by omega) (by omega)).mp c_100, by have := mt (nI_ltI (a := 1) (by omega) (by omega)).mpr c_108; omega, q_125⟩)))
        · refine aw_if_eq (tgt := 135) dX1_succeedsOn_128 (by decide) (fun _ => ?_) (fun c_128 => absurd c_128 (by decide))
          refine aw_iconst (v := 0) dX1_succeedsOn_135 (by decide) ?_
          exact aw_zret dX1_succeedsOn_136 rfl (by decide) (by decide) (eC_0 (hf.trans (cI_f (fun h => by
            first
              | exact c_100 (by rw [show (c / 1000 % 10) = 0 by have := h.1; omega]; rfl)
              | exact absurd ((nI_ltI (a := 1) (by omega) (by omega)).mp c_108) (by have := h.2.1; omega)
              | exact q_125 h.2.2))))
  · have hf : fDoes g nr ng nb c = fDo g nr ng nb (c / 1000 % 10) (c / 100 % 10) (c % 100) (c / 100 % 100) (c % 1000) (c % 10000) 3 := by rw [fDoes, hd]
    refine aw_table (off := 133) (tgt := 137) dX1_succeedsOn_4 (by rw [hd]; decide) (by rw [hd]; decide) (by rw [hd]; rfl) (by decide) ?_
    refine aw_aload0 dX1_succeedsOn_137 ?_
    refine aw_getI dX1_succeedsOn_138 fI_1_20 rfl (by decide) ((sH_out (by omega)).trans hK.2.2.1) ?_
    refine aw_iconst (v := 1) dX1_succeedsOn_141 (by decide) ?_
    refine aw_ic_gt (tgt := 171) dX1_succeedsOn_142 (by decide) (fun c_142 => ?_) (fun c_142 => ?_)
    · refine aw_iconst (v := 0) dX1_succeedsOn_171 (by decide) ?_
      exact aw_zret dX1_succeedsOn_172 rfl (by decide) (by decide) (eC_0 (hf.trans (by
        first
          | exact q_161.elim fDo3_n (fun q => fDo3_f (fun h => q h.1))
          | exact fDo3_f (fun h => by
              first
                | exact absurd ((nI_ltI (a := 1) (by omega) (by omega)).mp c_142) (by have := h.2.1; omega)
                | exact c_149 (by rw [show (c / 10 % 10) = 0 by have := h.2.2; omega]; rfl)
                | exact c_156 (by rw [show (c % 10) = 0 by have := h.2.2; omega]; rfl)))))
    · refine aw_aload0 dX1_succeedsOn_145 ?_
      refine aw_getI dX1_succeedsOn_146 fI_1_23 rfl (by decide) ((sH_out (by omega)).trans hK.2.2.2.1) ?_
      refine aw_if_ne (tgt := 171) dX1_succeedsOn_149 (by decide) (fun c_149 => ?_) (fun c_149 => ?_)
      · refine aw_iconst (v := 0) dX1_succeedsOn_171 (by decide) ?_
        exact aw_zret dX1_succeedsOn_172 rfl (by decide) (by decide) (eC_0 (hf.trans (by
          first
            | exact q_161.elim fDo3_n (fun q => fDo3_f (fun h => q h.1))
            | exact fDo3_f (fun h => by
                first
                  | exact absurd ((nI_ltI (a := 1) (by omega) (by omega)).mp c_142) (by have := h.2.1; omega)
                  | exact c_149 (by rw [show (c / 10 % 10) = 0 by have := h.2.2; omega]; rfl)
                  | exact c_156 (by rw [show (c % 10) = 0 by have := h.2.2; omega]; rfl)))))
      · refine aw_aload0 dX1_succeedsOn_152 ?_
        refine aw_getI dX1_succeedsOn_153 fI_1_26 rfl (by decide) ((sH_out (by omega)).trans hK.2.2.2.2) ?_
        refine aw_if_ne (tgt := 171) dX1_succeedsOn_156 (by decide) (fun c_156 => ?_) (fun c_156 => ?_)
        · refine aw_iconst (v := 0) dX1_succeedsOn_171 (by decide) ?_
          exact aw_zret dX1_succeedsOn_172 rfl (by decide) (by decide) (eC_0 (hf.trans (by
            first
              | exact q_161.elim fDo3_n (fun q => fDo3_f (fun h => q h.1))
              | exact fDo3_f (fun h => by
                  first
                    | exact absurd ((nI_ltI (a := 1) (by omega) (by omega)).mp c_142) (by have := h.2.1; omega)
                    | exact c_149 (by rw [show (c / 10 % 10) = 0 by have := h.2.2; omega]; rfl)
                    | exact c_156 (by rw [show (c % 10) = 0 by have := h.2.2; omega]; rfl)))))
        · have hd3 : (c / 100 % 10) ≤ 1 := by have := mt (nI_ltI (a := 1) (by omega) (by omega)).mpr c_142; omega
          refine aw_aload0 dX1_succeedsOn_159 ?_
          refine aw_aload1 dX1_succeedsOn_160 ?_
          refine aw_VI1 (k1_proves _ _ _ _ _ _ _ _ c hc hw hh hK hc5 hd3) dX1_succeedsOn_161 vl_1_36 rfl (by decide) (by decide) (Nat.le_of_ble_eq_true rfl) (fun σ_161 r_161 h_161 => ?_)
          rcases h_161 with ⟨rfl, b, hb, hlt, rfl⟩ | ⟨rfl, q_161, rfl⟩
          · refine aw_if_eq (tgt := 171) dX1_succeedsOn_164 (by decide) (fun c_164 => absurd c_164 (by decide)) (fun _ => ?_)
            refine aw_iconst (v := 1) dX1_succeedsOn_167 (by decide) ?_
            refine aw_goto (tgt := 172) dX1_succeedsOn_168 (by decide) ?_
            exact aw_zret dX1_succeedsOn_172 rfl (by decide) (by decide) (eC_1 hc.2.2 (hf.trans ((fDo3_s hb).trans (cI_t ⟨hlt, by have := mt (nI_ltI (a := 1) (by omega) (by omega)).mpr c_142; omega, by have := (nI_eq (b := 0) (by omega) (by omega)).mp c_149; have := (nI_eq (b := 0) (by omega) (by omega)).mp c_156; omega⟩))))
          · refine aw_if_eq (tgt := 171) dX1_succeedsOn_164 (by decide) (fun _ => ?_) (fun c_164 => absurd c_164 (by decide))
            refine aw_iconst (v := 0) dX1_succeedsOn_171 (by decide) ?_
            exact aw_zret dX1_succeedsOn_172 rfl (by decide) (by decide) (eC_0 (hf.trans (by
              first
                | exact q_161.elim fDo3_n (fun q => fDo3_f (fun h => q h.1))
                | exact fDo3_f (fun h => by
                    first
                      | exact absurd ((nI_ltI (a := 1) (by omega) (by omega)).mp c_142) (by have := h.2.1; omega)
                      | exact c_149 (by rw [show (c / 10 % 10) = 0 by have := h.2.2; omega]; rfl)
                      | exact c_156 (by rw [show (c % 10) = 0 by have := h.2.2; omega]; rfl)))))
  · have hf : fDoes g nr ng nb c = fDo g nr ng nb (c / 1000 % 10) (c / 100 % 10) (c % 100) (c / 100 % 100) (c % 1000) (c % 10000) 4 := by rw [fDoes, hd]
    refine aw_table (off := 169) (tgt := 173) dX1_succeedsOn_4 (by rw [hd]; decide) (by rw [hd]; decide) (by rw [hd]; rfl) (by decide) ?_
    refine aw_aload0 dX1_succeedsOn_173 ?_
    refine aw_getI dX1_succeedsOn_174 fI_1_20 rfl (by decide) ((sH_out (by omega)).trans hK.2.2.1) ?_
    refine aw_if_ne (tgt := 206) dX1_succeedsOn_177 (by decide) (fun c_177 => ?_) (fun c_177 => ?_)
    · refine aw_iconst (v := 0) dX1_succeedsOn_206 (by decide) ?_
      exact aw_zret dX1_succeedsOn_207 rfl (by decide) (by decide) (eC_0 (hf.trans (cI_f (fun h => by
        first
          | exact c_177 (by rw [show (c / 100 % 10) = 0 by have := h.2; omega]; rfl)
          | exact c_184 (by rw [show (c / 10 % 10) = 0 by have := h.2; omega]; rfl)
          | exact c_191 (by rw [show (c % 10) = 0 by have := h.2; omega]; rfl)
          | exact q_196 h.1))))
    · refine aw_aload0 dX1_succeedsOn_180 ?_
      refine aw_getI dX1_succeedsOn_181 fI_1_23 rfl (by decide) ((sH_out (by omega)).trans hK.2.2.2.1) ?_
      refine aw_if_ne (tgt := 206) dX1_succeedsOn_184 (by decide) (fun c_184 => ?_) (fun c_184 => ?_)
      · refine aw_iconst (v := 0) dX1_succeedsOn_206 (by decide) ?_
        exact aw_zret dX1_succeedsOn_207 rfl (by decide) (by decide) (eC_0 (hf.trans (cI_f (fun h => by
          first
            | exact c_177 (by rw [show (c / 100 % 10) = 0 by have := h.2; omega]; rfl)
            | exact c_184 (by rw [show (c / 10 % 10) = 0 by have := h.2; omega]; rfl)
            | exact c_191 (by rw [show (c % 10) = 0 by have := h.2; omega]; rfl)
            | exact q_196 h.1))))
      · refine aw_aload0 dX1_succeedsOn_187 ?_
        refine aw_getI dX1_succeedsOn_188 fI_1_26 rfl (by decide) ((sH_out (by omega)).trans hK.2.2.2.2) ?_
        refine aw_if_ne (tgt := 206) dX1_succeedsOn_191 (by decide) (fun c_191 => ?_) (fun c_191 => ?_)
        · refine aw_iconst (v := 0) dX1_succeedsOn_206 (by decide) ?_
          exact aw_zret dX1_succeedsOn_207 rfl (by decide) (by decide) (eC_0 (hf.trans (cI_f (fun h => by
            first
              | exact c_177 (by rw [show (c / 100 % 10) = 0 by have := h.2; omega]; rfl)
              | exact c_184 (by rw [show (c / 10 % 10) = 0 by have := h.2; omega]; rfl)
              | exact c_191 (by rw [show (c % 10) = 0 by have := h.2; omega]; rfl)
              | exact q_196 h.1))))
        · refine aw_aload0 dX1_succeedsOn_194 ?_
          refine aw_aload1 dX1_succeedsOn_195 ?_
          refine aw_VI1 (k1_pays _ _ _ _ _ _ _ _ c hc hw hh hK hc5) dX1_succeedsOn_196 vl_1_40 rfl (by decide) (by decide) (Nat.le_of_ble_eq_true rfl) (fun σ_196 r_196 h_196 => ?_)
          rcases h_196 with ⟨rfl, q_196, rfl⟩ | ⟨rfl, q_196, rfl⟩
          · refine aw_if_eq (tgt := 206) dX1_succeedsOn_199 (by decide) (fun c_199 => absurd c_199 (by decide)) (fun _ => ?_)
            refine aw_iconst (v := 1) dX1_succeedsOn_202 (by decide) ?_
            refine aw_goto (tgt := 207) dX1_succeedsOn_203 (by decide) ?_
            exact aw_zret dX1_succeedsOn_207 rfl (by decide) (by decide) (eC_1 hc.2.2 (hf.trans (cI_t ⟨q_196, by have := (nI_eq (b := 0) (by omega) (by omega)).mp c_177; have := (nI_eq (b := 0) (by omega) (by omega)).mp c_184; have := (nI_eq (b := 0) (by omega) (by omega)).mp c_191; omega⟩)))
          · refine aw_if_eq (tgt := 206) dX1_succeedsOn_199 (by decide) (fun _ => ?_) (fun c_199 => absurd c_199 (by decide))
            refine aw_iconst (v := 0) dX1_succeedsOn_206 (by decide) ?_
            exact aw_zret dX1_succeedsOn_207 rfl (by decide) (by decide) (eC_0 (hf.trans (cI_f (fun h => by
              first
                | exact c_177 (by rw [show (c / 100 % 10) = 0 by have := h.2; omega]; rfl)
                | exact c_184 (by rw [show (c / 10 % 10) = 0 by have := h.2; omega]; rfl)
                | exact c_191 (by rw [show (c % 10) = 0 by have := h.2; omega]; rfl)
                | exact q_196 h.1))))
  · have hf : fDoes g nr ng nb c = fDo g nr ng nb (c / 1000 % 10) (c / 100 % 10) (c % 100) (c / 100 % 100) (c % 1000) (c % 10000) 5 := by rw [fDoes, hd]
    refine aw_table (off := 204) (tgt := 208) dX1_succeedsOn_4 (by rw [hd]; decide) (by rw [hd]; decide) (by rw [hd]; rfl) (by decide) ?_
    refine aw_aload0 dX1_succeedsOn_208 ?_
    refine aw_getI dX1_succeedsOn_209 fI_1_23 rfl (by decide) ((sH_out (by omega)).trans hK.2.2.2.1) ?_
    refine aw_if_ne (tgt := 234) dX1_succeedsOn_212 (by decide) (fun c_212 => ?_) (fun c_212 => ?_)
    · refine aw_iconst (v := 0) dX1_succeedsOn_234 (by decide) ?_
      exact aw_zret dX1_succeedsOn_235 rfl (by decide) (by decide) (eC_0 (hf.trans (cI_f (fun h => by
        first
          | exact c_212 (by rw [show (c / 10 % 10) = 0 by have := h.2.1; omega]; rfl)
          | exact c_219 (by rw [show (c % 10) = 0 by have := h.2.1; omega]; rfl)
          | exact q_224 ⟨h.1, h.2.2⟩))))
    · refine aw_aload0 dX1_succeedsOn_215 ?_
      refine aw_getI dX1_succeedsOn_216 fI_1_26 rfl (by decide) ((sH_out (by omega)).trans hK.2.2.2.2) ?_
      refine aw_if_ne (tgt := 234) dX1_succeedsOn_219 (by decide) (fun c_219 => ?_) (fun c_219 => ?_)
      · refine aw_iconst (v := 0) dX1_succeedsOn_234 (by decide) ?_
        exact aw_zret dX1_succeedsOn_235 rfl (by decide) (by decide) (eC_0 (hf.trans (cI_f (fun h => by
          first
            | exact c_212 (by rw [show (c / 10 % 10) = 0 by have := h.2.1; omega]; rfl)
            | exact c_219 (by rw [show (c % 10) = 0 by have := h.2.1; omega]; rfl)
            | exact q_224 ⟨h.1, h.2.2⟩))))
      · refine aw_aload0 dX1_succeedsOn_222 ?_
        refine aw_aload1 dX1_succeedsOn_223 ?_
        refine aw_VI1 (k1_cancels _ _ _ _ _ _ _ _ c hc hw hh hK hc5) dX1_succeedsOn_224 vl_1_43 rfl (by decide) (by decide) (Nat.le_of_ble_eq_true rfl) (fun σ_224 r_224 h_224 => ?_)
        rcases h_224 with ⟨rfl, q_224, rfl⟩ | ⟨rfl, q_224, rfl⟩
        · refine aw_if_eq (tgt := 234) dX1_succeedsOn_227 (by decide) (fun c_227 => absurd c_227 (by decide)) (fun _ => ?_)
          refine aw_iconst (v := 1) dX1_succeedsOn_230 (by decide) ?_
          refine aw_goto (tgt := 235) dX1_succeedsOn_231 (by decide) ?_
          exact aw_zret dX1_succeedsOn_235 rfl (by decide) (by decide) (eC_r hc hw q_224.1 (hf.trans (cI_t ⟨q_224.1, by have := (nI_eq (b := 0) (by omega) (by omega)).mp c_212; have := (nI_eq (b := 0) (by omega) (by omega)).mp c_219; omega, q_224.2⟩)))
        · refine aw_if_eq (tgt := 234) dX1_succeedsOn_227 (by decide) (fun _ => ?_) (fun c_227 => absurd c_227 (by decide))
          refine aw_iconst (v := 0) dX1_succeedsOn_234 (by decide) ?_
          exact aw_zret dX1_succeedsOn_235 rfl (by decide) (by decide) (eC_0 (hf.trans (cI_f (fun h => by
            first
              | exact c_212 (by rw [show (c / 10 % 10) = 0 by have := h.2.1; omega]; rfl)
              | exact c_219 (by rw [show (c % 10) = 0 by have := h.2.1; omega]; rfl)
              | exact q_224 ⟨h.1, h.2.2⟩))))
  · have hf : fDoes g nr ng nb c = fDo g nr ng nb (c / 1000 % 10) (c / 100 % 10) (c % 100) (c / 100 % 100) (c % 1000) (c % 10000) 6 := by rw [fDoes, hd]
    refine aw_table (off := 232) (tgt := 236) dX1_succeedsOn_4 (by rw [hd]; decide) (by rw [hd]; decide) (by rw [hd]; rfl) (by decide) ?_
    refine aw_aload0 dX1_succeedsOn_236 ?_
    refine aw_getI dX1_succeedsOn_237 fI_1_20 rfl (by decide) ((sH_out (by omega)).trans hK.2.2.1) ?_
    refine aw_if_ne (tgt := 274) dX1_succeedsOn_240 (by decide) (fun c_240 => ?_) (fun c_240 => ?_)
    · refine aw_iconst (v := 0) dX1_succeedsOn_274 (by decide) ?_
      exact aw_zret dX1_succeedsOn_275 rfl (by decide) (by decide) (eC_0 (hf.trans (cI_f (fun h => by
        first
          | exact c_240 (by rw [show (c / 100 % 10) = 0 by have := h.2.1; omega]; rfl)
          | exact hn_249 ⟨_, h.1, rfl⟩
          | exact p_264 h.2.2))))
    · refine aw_aload0 dX1_succeedsOn_243 ?_
      refine aw_aload1 dX1_succeedsOn_244 ?_
      refine aw_aload0 dX1_succeedsOn_245 ?_
      refine aw_getI dX1_succeedsOn_246 fI_1_17 rfl (by decide) ((sH_out (by omega)).trans hK.2.1) ?_
      refine aw_VA1 (k2_findRoom _ _ _ _ _ _ _ _ _ hc hw) dX1_succeedsOn_249 vl_1_46 hc.t hc.l (by decide) (Nat.le_of_ble_eq_true rfl) (fun σ_249 r_249 h_249 => ?_)
      obtain ⟨rfl, h_249⟩ := h_249
      rcases h_249 with ⟨k_249, hk_249, e_249, rfl⟩ | ⟨hn_249, rfl⟩
      · have e_249 := (nI_eq (by omega) (by omega)).mp e_249
        subst e_249
        refine aw_bipush (v := 10) dX1_succeedsOn_252 (by decide) ?_
        refine aw_aload0 dX1_succeedsOn_254 ?_
        refine aw_getI dX1_succeedsOn_255 fI_1_23 rfl (by decide) ((sH_out (by omega)).trans hK.2.2.2.1) ?_
        refine aw_imul dX1_succeedsOn_258 ?_
        refine aw_aload0 dX1_succeedsOn_259 ?_
        refine aw_getI dX1_succeedsOn_260 fI_1_26 rfl (by decide) ((sH_out (by omega)).trans hK.2.2.2.2) ?_
        refine aw_iadd dX1_succeedsOn_263 ?_
        rw [show (10 : Int32) * nI (c / 10 % 10) + nI (c % 10) = nI (c % 100) from by rw [tn2, show 10 * (c / 10 % 10) + (c % 10) = (c % 100) by omega]]
        refine aw_VI2 (k1_warm _ _ _ _ (hc.tr (by omega)) (hc.lr (by omega)) (show _ = g (9 + 4 * (c / 1000 % 10) + 3) from sH_r hk_249 hw.nr4 (by decide))) dX1_succeedsOn_264 vl_1_52 rfl (by decide) (by decide) (Nat.le_of_ble_eq_true rfl) (fun σ_264 r_264 h_264 => ?_)
        obtain ⟨rfl, h_264⟩ := h_264
        rcases h_264 with ⟨rfl, p_264⟩ | ⟨rfl, p_264⟩
        · refine aw_if_eq (tgt := 274) dX1_succeedsOn_267 (by decide) (fun c_267 => absurd c_267 (by decide)) (fun _ => ?_)
          refine aw_iconst (v := 1) dX1_succeedsOn_270 (by decide) ?_
          refine aw_goto (tgt := 275) dX1_succeedsOn_271 (by decide) ?_
          exact aw_zret dX1_succeedsOn_275 rfl (by decide) (by decide) (by first | exact (eC_1 hc.2.2 (hf.trans (cI_t ⟨hk_249, (nI_eq (b := 0) (by omega) (by omega)).mp c_240, p_264⟩))) | exact absurd p_264 (fun h => h))
        · refine aw_if_eq (tgt := 274) dX1_succeedsOn_267 (by decide) (fun _ => ?_) (fun c_267 => absurd c_267 (by decide))
          refine aw_iconst (v := 0) dX1_succeedsOn_274 (by decide) ?_
          exact aw_zret dX1_succeedsOn_275 rfl (by decide) (by decide) (eC_0 (hf.trans (cI_f (fun h => by
            first
              | exact c_240 (by rw [show (c / 100 % 10) = 0 by have := h.2.1; omega]; rfl)
              | exact hn_249 ⟨_, h.1, rfl⟩
              | exact p_264 h.2.2))))
      · refine aw_bipush (v := 10) dX1_succeedsOn_252 (by decide) ?_
        refine aw_aload0 dX1_succeedsOn_254 ?_
        refine aw_getI dX1_succeedsOn_255 fI_1_23 rfl (by decide) ((sH_out (by omega)).trans hK.2.2.2.1) ?_
        refine aw_imul dX1_succeedsOn_258 ?_
        refine aw_aload0 dX1_succeedsOn_259 ?_
        refine aw_getI dX1_succeedsOn_260 fI_1_26 rfl (by decide) ((sH_out (by omega)).trans hK.2.2.2.2) ?_
        refine aw_iadd dX1_succeedsOn_263 ?_
        rw [show (10 : Int32) * nI (c / 10 % 10) + nI (c % 10) = nI (c % 100) from by rw [tn2, show 10 * (c / 10 % 10) + (c % 10) = (c % 100) by omega]]
        refine aw_VI2 (k1_warmN _ _) dX1_succeedsOn_264 vl_1_52 rfl (by decide) (by decide) (Nat.le_of_ble_eq_true rfl) (fun σ_264 r_264 h_264 => ?_)
        obtain ⟨rfl, h_264⟩ := h_264
        rcases h_264 with ⟨rfl, p_264⟩ | ⟨rfl, p_264⟩
        · refine aw_if_eq (tgt := 274) dX1_succeedsOn_267 (by decide) (fun c_267 => absurd c_267 (by decide)) (fun _ => ?_)
          refine aw_iconst (v := 1) dX1_succeedsOn_270 (by decide) ?_
          refine aw_goto (tgt := 275) dX1_succeedsOn_271 (by decide) ?_
          exact aw_zret dX1_succeedsOn_275 rfl (by decide) (by decide) (by first | exact (eC_1 hc.2.2 (hf.trans (cI_t ⟨hk_249, (nI_eq (b := 0) (by omega) (by omega)).mp c_240, p_264⟩))) | exact absurd p_264 (fun h => h))
        · refine aw_if_eq (tgt := 274) dX1_succeedsOn_267 (by decide) (fun _ => ?_) (fun c_267 => absurd c_267 (by decide))
          refine aw_iconst (v := 0) dX1_succeedsOn_274 (by decide) ?_
          exact aw_zret dX1_succeedsOn_275 rfl (by decide) (by decide) (eC_0 (hf.trans (cI_f (fun h => by
            first
              | exact c_240 (by rw [show (c / 100 % 10) = 0 by have := h.2.1; omega]; rfl)
              | exact hn_249 ⟨_, h.1, rfl⟩
              | exact p_264 h.2.2))))
  · have hf : fDoes g nr ng nb c = fDo g nr ng nb (c / 1000 % 10) (c / 100 % 10) (c % 100) (c / 100 % 100) (c % 1000) (c % 10000) 7 := by rw [fDoes, hd]
    refine aw_table (off := 272) (tgt := 276) dX1_succeedsOn_4 (by rw [hd]; decide) (by rw [hd]; decide) (by rw [hd]; rfl) (by decide) ?_
    refine aw_aload1 dX1_succeedsOn_276 ?_
    refine aw_aload0 dX1_succeedsOn_277 ?_
    refine aw_getI dX1_succeedsOn_278 fI_1_17 rfl (by decide) ((sH_out (by omega)).trans hK.2.1) ?_
    refine aw_VI1 (k2_hasGroup _ _ _ _ _ _ _ _ _ hc hw) dX1_succeedsOn_281 vl_1_56 hc.t hc.l (by decide) (Nat.le_of_ble_eq_true rfl) (fun σ_281 r_281 h_281 => ?_)
    obtain ⟨rfl, h_281⟩ := h_281
    rcases h_281 with ⟨rfl, p_281⟩ | ⟨rfl, p_281⟩
    · refine aw_if_eq (tgt := 322) dX1_succeedsOn_284 (by decide) (fun c_284 => absurd c_284 (by decide)) (fun _ => ?_)
      have hlt : (c / 1000 % 10) < ng := (isNn (by omega) (by omega)).mp p_281
      refine aw_aload1 dX1_succeedsOn_287 ?_
      refine aw_aload0 dX1_succeedsOn_288 ?_
      refine aw_getI dX1_succeedsOn_289 fI_1_17 rfl (by decide) ((sH_out (by omega)).trans hK.2.1) ?_
      refine aw_VI1 (k2_owedBy _ _ _ _ _ _ _ g _ hc hw hlt) dX1_succeedsOn_292 vl_1_60 hc.t hc.l (by decide) (Nat.le_of_ble_eq_true rfl) (fun σ_292 r_292 h_292 => ?_)
      obtain ⟨rfl, rfl⟩ := h_292
      refine aw_bipush (v := 100) dX1_succeedsOn_295 (by decide) ?_
      refine aw_aload0 dX1_succeedsOn_297 ?_
      refine aw_getI dX1_succeedsOn_298 fI_1_20 rfl (by decide) ((sH_out (by omega)).trans hK.2.2.1) ?_
      refine aw_imul dX1_succeedsOn_301 ?_
      refine aw_bipush (v := 10) dX1_succeedsOn_302 (by decide) ?_
      refine aw_aload0 dX1_succeedsOn_304 ?_
      refine aw_getI dX1_succeedsOn_305 fI_1_23 rfl (by decide) ((sH_out (by omega)).trans hK.2.2.2.1) ?_
      refine aw_imul dX1_succeedsOn_308 ?_
      refine aw_iadd dX1_succeedsOn_309 ?_
      refine aw_aload0 dX1_succeedsOn_310 ?_
      refine aw_getI dX1_succeedsOn_311 fI_1_26 rfl (by decide) ((sH_out (by omega)).trans hK.2.2.2.2) ?_
      refine aw_iadd dX1_succeedsOn_314 ?_
      rw [show (100 : Int32) * nI (c / 100 % 10) + 10 * nI (c / 10 % 10) + nI (c % 10) = nI (c % 1000) from by rw [tn3, show 100 * (c / 100 % 10) + 10 * (c / 10 % 10) + (c % 10) = (c % 1000) by omega]]
      refine aw_ic_gt (tgt := 322) dX1_succeedsOn_315 (by decide) (fun c_315 => ?_) (fun c_315 => ?_)
      · refine aw_iconst (v := 0) dX1_succeedsOn_322 (by decide) ?_
        exact aw_zret dX1_succeedsOn_323 rfl (by decide) (by decide) (eC_0 (hf.trans (cI_f (fun h => by
          first
            | exact p_281 ⟨_, h.1, rfl⟩
            | exact Int32.not_lt.mpr h.2 c_315))))
      · refine aw_iconst (v := 1) dX1_succeedsOn_318 (by decide) ?_
        refine aw_goto (tgt := 323) dX1_succeedsOn_319 (by decide) ?_
        exact aw_zret dX1_succeedsOn_323 rfl (by decide) (by decide) (eC_1 hc.2.2 (hf.trans (cI_t ⟨hlt, Int32.not_lt.mp c_315⟩)))
    · refine aw_if_eq (tgt := 322) dX1_succeedsOn_284 (by decide) (fun _ => ?_) (fun c_284 => absurd c_284 (by decide))
      refine aw_iconst (v := 0) dX1_succeedsOn_322 (by decide) ?_
      exact aw_zret dX1_succeedsOn_323 rfl (by decide) (by decide) (eC_0 (hf.trans (cI_f (fun h => by
        first
          | exact p_281 ⟨_, h.1, rfl⟩
          | exact Int32.not_lt.mpr h.2 c_315))))
  · have hf : fDoes g nr ng nb c = fDo g nr ng nb (c / 1000 % 10) (c / 100 % 10) (c % 100) (c / 100 % 100) (c % 1000) (c % 10000) 8 := by rw [fDoes, hd]
    refine aw_table (off := 320) (tgt := 324) dX1_succeedsOn_4 (by rw [hd]; decide) (by rw [hd]; decide) (by rw [hd]; rfl) (by decide) ?_
    refine aw_aload0 dX1_succeedsOn_324 ?_
    refine aw_getI dX1_succeedsOn_325 fI_1_23 rfl (by decide) ((sH_out (by omega)).trans hK.2.2.2.1) ?_
    refine aw_if_ne (tgt := 351) dX1_succeedsOn_328 (by decide) (fun c_328 => ?_) (fun c_328 => ?_)
    · refine aw_iconst (v := 0) dX1_succeedsOn_351 (by decide) ?_
      exact aw_zret dX1_succeedsOn_352 rfl (by decide) (by decide) (eC_0 (hf.trans (cI_f (fun h => by
        first
          | exact c_328 (by rw [show (c / 10 % 10) = 0 by have := h.2.1; omega]; rfl)
          | exact absurd ((nI_ltI (a := 1) (by omega) (by omega)).mp c_336) (by have := h.2.1; omega)
          | exact p_341 ⟨h.1, by rw [show (c % 10) = (c % 100) by have := h.2.1; have := (nI_eq (b := 0) (by omega) (by omega)).mp c_328; omega]; exact h.2.2⟩))))
    · refine aw_aload0 dX1_succeedsOn_331 ?_
      refine aw_getI dX1_succeedsOn_332 fI_1_26 rfl (by decide) ((sH_out (by omega)).trans hK.2.2.2.2) ?_
      refine aw_iconst (v := 1) dX1_succeedsOn_335 (by decide) ?_
      refine aw_ic_gt (tgt := 351) dX1_succeedsOn_336 (by decide) (fun c_336 => ?_) (fun c_336 => ?_)
      · refine aw_iconst (v := 0) dX1_succeedsOn_351 (by decide) ?_
        exact aw_zret dX1_succeedsOn_352 rfl (by decide) (by decide) (eC_0 (hf.trans (cI_f (fun h => by
          first
            | exact c_328 (by rw [show (c / 10 % 10) = 0 by have := h.2.1; omega]; rfl)
            | exact absurd ((nI_ltI (a := 1) (by omega) (by omega)).mp c_336) (by have := h.2.1; omega)
            | exact p_341 ⟨h.1, by rw [show (c % 10) = (c % 100) by have := h.2.1; have := (nI_eq (b := 0) (by omega) (by omega)).mp c_328; omega]; exact h.2.2⟩))))
      · refine aw_aload0 dX1_succeedsOn_339 ?_
        refine aw_aload1 dX1_succeedsOn_340 ?_
        refine aw_VI1 (k1_isOverOrNot _ _ _ _ _ _ _ _ c hc hw hh hK hc5) dX1_succeedsOn_341 vl_1_64 rfl (by decide) (by decide) (Nat.le_of_ble_eq_true rfl) (fun σ_341 r_341 h_341 => ?_)
        obtain ⟨rfl, h_341⟩ := h_341
        rcases h_341 with ⟨rfl, p_341⟩ | ⟨rfl, p_341⟩
        · refine aw_if_eq (tgt := 351) dX1_succeedsOn_344 (by decide) (fun c_344 => absurd c_344 (by decide)) (fun _ => ?_)
          refine aw_iconst (v := 1) dX1_succeedsOn_347 (by decide) ?_
          refine aw_goto (tgt := 352) dX1_succeedsOn_348 (by decide) ?_
          exact aw_zret dX1_succeedsOn_352 rfl (by decide) (by decide) (eC_1 hc.2.2 (hf.trans (cI_t ⟨p_341.1, by have := (nI_eq (b := 0) (by omega) (by omega)).mp c_328; have := mt (nI_ltI (a := 1) (by omega) (by omega)).mpr c_336; omega, by rw [show (c % 100) = (c % 10) by have := (nI_eq (b := 0) (by omega) (by omega)).mp c_328; omega]; exact p_341.2⟩)))
        · refine aw_if_eq (tgt := 351) dX1_succeedsOn_344 (by decide) (fun _ => ?_) (fun c_344 => absurd c_344 (by decide))
          refine aw_iconst (v := 0) dX1_succeedsOn_351 (by decide) ?_
          exact aw_zret dX1_succeedsOn_352 rfl (by decide) (by decide) (eC_0 (hf.trans (cI_f (fun h => by
            first
              | exact c_328 (by rw [show (c / 10 % 10) = 0 by have := h.2.1; omega]; rfl)
              | exact absurd ((nI_ltI (a := 1) (by omega) (by omega)).mp c_336) (by have := h.2.1; omega)
              | exact p_341 ⟨h.1, by rw [show (c % 10) = (c % 100) by have := h.2.1; have := (nI_eq (b := 0) (by omega) (by omega)).mp c_328; omega]; exact h.2.2⟩))))
  · have hf : fDoes g nr ng nb c = fDo g nr ng nb (c / 1000 % 10) (c / 100 % 10) (c % 100) (c / 100 % 100) (c % 1000) (c % 10000) 9 := by rw [fDoes, hd]
    refine aw_table (off := 349) (tgt := 353) dX1_succeedsOn_4 (by rw [hd]; decide) (by rw [hd]; decide) (by rw [hd]; rfl) (by decide) ?_
    refine aw_aload1 dX1_succeedsOn_353 ?_
    refine aw_getI dX1_succeedsOn_354 fI_1_67 hc.t hc.l sH_met ?_
    refine aw_sipush (v := 1000) dX1_succeedsOn_357 (by decide) ?_
    refine aw_aload0 dX1_succeedsOn_360 ?_
    refine aw_getI dX1_succeedsOn_361 fI_1_17 rfl (by decide) ((sH_out (by omega)).trans hK.2.1) ?_
    refine aw_imul dX1_succeedsOn_364 ?_
    refine aw_bipush (v := 100) dX1_succeedsOn_365 (by decide) ?_
    refine aw_aload0 dX1_succeedsOn_367 ?_
    refine aw_getI dX1_succeedsOn_368 fI_1_20 rfl (by decide) ((sH_out (by omega)).trans hK.2.2.1) ?_
    refine aw_imul dX1_succeedsOn_371 ?_
    refine aw_iadd dX1_succeedsOn_372 ?_
    refine aw_bipush (v := 10) dX1_succeedsOn_373 (by decide) ?_
    refine aw_aload0 dX1_succeedsOn_375 ?_
    refine aw_getI dX1_succeedsOn_376 fI_1_23 rfl (by decide) ((sH_out (by omega)).trans hK.2.2.2.1) ?_
    refine aw_imul dX1_succeedsOn_379 ?_
    refine aw_iadd dX1_succeedsOn_380 ?_
    refine aw_aload0 dX1_succeedsOn_381 ?_
    refine aw_getI dX1_succeedsOn_382 fI_1_26 rfl (by decide) ((sH_out (by omega)).trans hK.2.2.2.2) ?_
    refine aw_iadd dX1_succeedsOn_385 ?_
    rw [show (1000 : Int32) * nI (c / 1000 % 10) + 100 * nI (c / 100 % 10) + 10 * nI (c / 10 % 10) + nI (c % 10) = nI (c % 10000) from by rw [tn4, show 1000 * (c / 1000 % 10) + 100 * (c / 100 % 10) + 10 * (c / 10 % 10) + (c % 10) = (c % 10000) by omega]]
    refine aw_ic_lt (tgt := 393) dX1_succeedsOn_386 (by decide) (fun c_386 => ?_) (fun c_386 => ?_)
    · refine aw_iconst (v := 0) dX1_succeedsOn_393 (by decide) ?_
      exact aw_zret dX1_succeedsOn_394 rfl (by decide) (by decide) (eC_0 (hf.trans (cI_f (fun h => by
        first
          | exact Int32.not_lt.mpr h c_386))))
    · refine aw_iconst (v := 1) dX1_succeedsOn_389 (by decide) ?_
      refine aw_goto (tgt := 394) dX1_succeedsOn_390 (by decide) ?_
      exact aw_zret dX1_succeedsOn_394 rfl (by decide) (by decide) (eC_1 hc.2.2 (hf.trans (cI_t (Int32.not_lt.mp c_386))))
