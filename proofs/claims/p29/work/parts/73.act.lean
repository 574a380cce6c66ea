/-! the law: one of the random calls -/
theorem AW.topI {K : KT} {own : String} {cc : ByteArray} {M : MT} {d mc ms : Nat} {Q : State → Prop} {n : Nat} {z : Option Nat} {σ : Sg} {cells slots pc : Nat} {ls : List (Option Value)} {st : List Value} {a b : Int} (h : a = b) (k : AW K own cc M d mc ms Q n z σ cells slots pc ls (.int (iI b) :: st)) : AW K own cc M d mc ms Q n z σ cells slots pc ls (.int (iI a) :: st) := h ▸ k
def IS (s : AS) : Prop := GW (stG s) ∧ (∀ i, i < stC s → GW (stM s i)) ∧ (∀ k, k < 2 → stB s k = true → GW (stS s k)) ∧ stC s ≤ 14
theorem GW.of {g : Rw} {nr ng nb t : Nat} (H : WK g nr ng nb t) (ht : t ≤ 240) : GW g := by
  obtain ⟨e1, e2, e3, e4⟩ := H.1.nums (by omega)
  unfold GW
  rw [e1, e2, e3, e4]
  exact ⟨H, ht⟩
theorem c1z {a : Prop} (h : cd1 a = 0) : a := cd1_z (by rw [h]; decide)
theorem c2z {a b : Prop} (h : cd2 a b = 0) : a ∧ b := cd2_z (by rw [h]; decide)
theorem c3z {a b c : Prop} (h : cd3 a b c = 0) : a ∧ b ∧ c := cd3_z (by rw [h]; decide)
theorem rngN {v l h : Int32} {lo hi : Nat} (hl : l = nI lo) (hh : h = nI hi) (h9 : hi < 1000) (hlo : lo ≤ hi) (hv : l ≤ v ∧ v ≤ h) : ∃ k, lo ≤ k ∧ k ≤ hi ∧ v = nI k := by
  subst hl
  subst hh
  obtain ⟨k, hk, rfl⟩ := Int32.rng h9 (Int32.le_trans (nI_pos' (by omega)) hv.1) hv.2
  exact ⟨k, (nI_leI (by omega) (by omega)).mp hv.1, hk, rfl⟩
section ISS
variable {s : AS}
theorem IS.act (h : IS s) {g' : Rw} (hg : GW g') : IS (g', stN s, stT s, remA (stC s), remM (stM s) (stC s) (stG s), stB s, stS s) := by
  obtain ⟨h1, h2, h3, h4⟩ := h
  refine ⟨hg, fun i hi => ?_, h3, (remA_Z h4).2.1⟩
  have hi' : i < remA (stC s) := hi
  show GW (remM (stM s) (stC s) (stG s) i)
  unfold remA at hi'
  unfold remM
  by_cases q : stC s = 14
  · rw [if_pos q] at hi' ⊢
    by_cases p : i < 13
    · rw [if_pos p]; exact h2 _ (by omega)
    · rw [if_neg p]; exact h1
  · rw [if_neg q] at hi' ⊢
    by_cases p : i < stC s
    · rw [if_pos p]; exact h2 _ p
    · rw [if_neg p]; exact h1
theorem IS.addRoom (h : IS s) (a l p t0 : Int32) : IS (aAddRoom s a l p t0) := by
  unfold aAddRoom
  by_cases hc : cAddRoom s a l p t0 = 0
  · rw [if_pos hc]
    obtain ⟨⟨ha, hl, hp, ht1, ht2⟩, hr⟩ := c2z hc
    obtain ⟨a', a1, a9, rfl⟩ := rngN (lo := 1) (hi := 9) rfl rfl (by omega) (by omega) ha
    obtain ⟨l', l1, l9, rfl⟩ := rngN (lo := 1) (hi := 9) rfl rfl (by omega) (by omega) hl
    obtain ⟨p', p1, p9, rfl⟩ := rngN (lo := 1) (hi := 9) rfl rfl (by omega) (by omega) hp
    have t1 := Int32.le_iff_toInt_le.mp ht1
    have t2 := Int32.le_iff_toInt_le.mp ht2
    rw [show (-10 : Int32).toInt = -10 by decide] at t1
    rw [show (30 : Int32).toInt = 30 by decide] at t2
    exact h.act (GW.of (h.1.1.addRoom hr ⟨a1, a9⟩ ⟨l1, l9⟩ ⟨p1, p9⟩ (by omega)) h.1.2)
  · rw [if_neg hc]; exact h
theorem IS.addGroup (h : IS s) : IS (aAddGroup s) := by
  unfold aAddGroup
  by_cases hc : cAddGroup s = 0
  · rw [if_pos hc]
    exact h.act (GW.of (h.1.1.addGroup (c1z hc)) h.1.2)
  · rw [if_neg hc]; exact h
theorem IS.book (h : IS s) (r w f k u : Int32) : IS (aBook s r w f k u) := by
  unfold aBook
  by_cases hc : cBook s r w f k u = 0
  · rw [if_pos hc]
    obtain ⟨⟨⟨r', hr, rfl⟩, w', hw, rfl⟩, ⟨⟨hf1, hf2⟩, hk, hu⟩, hb, hfree⟩ := c3z hc
    have h0 : (0 : Int32) ≤ stG s 0 := by rw [h.1.1.1.hr]; exact nI_pos' (by have := h.1.2; omega)
    obtain ⟨f', -, f9, rfl⟩ := rngN (lo := 0) (hi := 199) rfl rfl (by omega) (by omega) ⟨Int32.le_trans h0 hf1, hf2⟩
    obtain ⟨k', k1, k9, rfl⟩ := rngN (lo := 1) (hi := 12) rfl rfl (by omega) (by omega) hk
    obtain ⟨u', u1, u9, rfl⟩ := rngN (lo := 12) (hi := 25) rfl rfl (by omega) (by omega) hu
    exact h.act (GW.of (h.1.1.book hb hr hw (by omega) k1 k9 ⟨u1, u9⟩ hfree) h.1.2)
  · rw [if_neg hc]; exact h
theorem IS.cancel (h : IS s) (b : Int32) : IS (aCancel s b) := by
  unfold aCancel
  by_cases hc : cCancel s b = 0
  · rw [if_pos hc]
    obtain ⟨⟨b', hb, rfl⟩, hg⟩ := c2z hc
    have h12 := h.1.1.1.nb12
    have e : cN (nI b') = b' := nI_clamp (by omega)
    rw [e] at hg ⊢
    have ht := h.1.2
    exact h.act (GW.of (h.1.1.drop (by omega) hb hg) h.1.2)
  · rw [if_neg hc]; exact h
theorem IS.prove (h : IS s) (r v : Int32) (hv : v = 0 ∨ v = 1) : IS (aProve s r v) := by
  unfold aProve
  by_cases hc : cProve s r v = 0
  · rw [if_pos hc]
    have ht := h.1.2
    exact h.act (GW.of (h.1.1.pr (by omega) hv) h.1.2)
  · rw [if_neg hc]; exact h
theorem IS.outside (h : IS s) (t0 : Int32) : IS (aOutside s t0) := by
  unfold aOutside
  by_cases hc : cOutside s t0 = 0
  · rw [if_pos hc]; exact h.act (GW.of (h.1.1.out (c1z hc)) h.1.2)
  · rw [if_neg hc]; exact h
theorem IS.pay (h : IS s) (w : Int32) : IS (aPay s w) := by
  unfold aPay
  by_cases hc : cPay s w = 0
  · rw [if_pos hc]
    obtain ⟨w', hw, rfl⟩ := c1z hc
    have h6 := h.1.1.1.ng6
    have e : cN (nI w') = w' := nI_clamp (by omega)
    rw [e]
    exact h.act (GW.of (h.1.1.pay hw) h.1.2)
  · rw [if_neg hc]; exact h
theorem IS.pass (h : IS s) (k : Int32) : IS (aPass s k) := by
  unfold aPass
  by_cases hc : cPass s k = 0
  · rw [if_pos hc]
    obtain ⟨hk, ht⟩ := c2z hc
    obtain ⟨k', k1, k9, rfl⟩ := rngN (lo := 1) (hi := 48) rfl rfl (by omega) (by omega) hk
    have h2 := h.1.2
    rw [h.1.1.1.hr, nI_add] at ht
    have ht := (nI_leI (b := 240) (by omega) (by omega)).mp ht
    have e : cN (nI k') = k' := nI_clamp (by omega)
    rw [e]
    exact h.act (GW.of (h.1.1.hours k' (by omega)) (by omega))
  · rw [if_neg hc]; exact h
theorem IS.undo (h : IS s) : IS (aUndo s) := by
  unfold aUndo
  by_cases hc : cUndo s = 0
  · rw [if_pos hc]
    have hn : stC s ≠ 0 := c1z hc
    have h14 := h.2.2.2
    exact ⟨h.2.1 _ (by omega), fun i hi => h.2.1 i (by have h9 : i < stC s - 1 := hi; omega), h.2.2.1, by show stC s - 1 ≤ 14; omega⟩
  · rw [if_neg hc]; exact h
theorem IS.save (h : IS s) (k : Int32) : IS (aSave s k) := by
  unfold aSave
  by_cases hc : cSave s k = 0
  · rw [if_pos hc]
    refine ⟨h.1, h.2.1, fun i hi hb => ?_, h.2.2.2⟩
    show GW (savS (stS s) (cN k) (stG s) i)
    have hb' : savB (stB s) (cN k) i = true := hb
    unfold savB at hb'
    unfold savS
    by_cases q : i = cN k
    · rw [if_pos q]; exact h.1
    · rw [if_neg q] at hb' ⊢; exact h.2.2.1 i hi hb'
  · rw [if_neg hc]; exact h
theorem IS.restore (h : IS s) (k : Int32) : IS (aRestore s k) := by
  unfold aRestore
  by_cases hc : cRestore s k = 0
  · rw [if_pos hc]
    obtain ⟨hk, hb⟩ := c2z hc
    obtain ⟨k', -, k9, rfl⟩ := rngN (lo := 0) (hi := 1) rfl rfl (by omega) (by omega) hk
    have e : cN (nI k') = k' := nI_clamp (by omega)
    rw [e] at hb ⊢
    exact ⟨h.2.2.1 k' (by omega) hb, fun i hi => absurd hi (Nat.not_lt_zero _), h.2.2.1, by show 0 ≤ 14; omega⟩
  · rw [if_neg hc]; exact h
end ISS
set_option maxHeartbeats 16000000 in
theorem act_ex {s : AS} (hS : IS s) {x y : Int} (hx : 0 ≤ x) (hx2 : x < 2147483648) (hy : 0 ≤ y) (hy2 : y < 2147483648) : ∃ (s' : AS) (V : Int64), IS s' ∧ ∀ {σ : Sg}, CI σ s → Ct yL_act cL_act mL_act 10 24 144 NN false σ [.ref 0, .int (iI x), .int (iI y)] NN (rL fun τ y0 => CI τ s' ∧ V = y0) XF := by
  have hw := hS.1.1.1
  have ht := hS.1.2
  have hr4 := hw.nr4
  obtain ⟨ab0, ab1, ab2, ab3⟩ := aboutV_n hw (by omega)
  obtain ⟨rr, hrr⟩ : ∃ rr : Int, (rn (stG s) = 0 → rr = 0) ∧ (¬ rn (stG s) = 0 → rr = y % (rn (stG s) : Int)) := by
    by_cases q : rn (stG s) = 0
    · exact ⟨0, fun _ => rfl, fun z => absurd q z⟩
    · exact ⟨_, fun z => absurd z q, fun _ => rfl⟩
  rcases (show ((x % 24 = 0)) ∨ ((x % 24 = 1)) ∨ ((x % 24 = 2 ∨ x % 24 = 3 ∨ x % 24 = 4 ∨ x % 24 = 5 ∨ x % 24 = 6)) ∨ ((x % 24 = 7)) ∨ ((x % 24 = 8 ∨ x % 24 = 9 ∨ x % 24 = 10) ∧ 0 < (y / 4) % 3) ∨ ((x % 24 = 8 ∨ x % 24 = 9 ∨ x % 24 = 10) ∧ (y / 4) % 3 ≤ 0) ∨ ((x % 24 = 11 ∨ x % 24 = 12)) ∨ ((x % 24 = 13)) ∨ ((x % 24 = 14)) ∨ ((x % 24 = 15) ∧ (y / 4) % 2 = 0) ∨ ((x % 24 = 15) ∧ ¬ (y / 4) % 2 = 0) ∨ ((x % 24 = 16 ∨ x % 24 = 17 ∨ x % 24 = 18 ∨ x % 24 = 19 ∨ x % 24 = 20 ∨ x % 24 = 21 ∨ x % 24 = 22 ∨ x % 24 = 23)) by omega) with hv | hv | hv | hv | ⟨hv, hz⟩ | ⟨hv, hz⟩ | hv | hv | hv | ⟨hv, hz⟩ | ⟨hv, hz⟩ | hv
  · refine ⟨(aAddRoom s (iI ((1 + ((y / 4) % 9)))) (iI ((1 + (((y / 4) / 9) % 9)))) (iI ((1 + (((y / 4) / 81) % 9)))) (iI (((((y / 4) / 729) % 30) - 5)))), (vAddRoom s (iI ((1 + ((y / 4) % 9)))) (iI ((1 + (((y / 4) / 9) % 9)))) (iI ((1 + (((y / 4) / 81) % 9)))) (iI (((((y / 4) / 729) % 30) - 5)))), (hS.addRoom (iI ((1 + ((y / 4) % 9)))) (iI ((1 + (((y / 4) / 9) % 9)))) (iI ((1 + (((y / 4) / 81) % 9)))) (iI (((((y / 4) / 729) % 30) - 5)))), fun {σ} hI => ?_⟩
    refine ct_of (ls0 := [some (.ref 0), some (.int (iI x)), some (.int (iI y)), none, none, none, none]) 4 (by decide +kernel) rfl rfl (ndR (ndI (ndI nd0))) rfl (Nat.le_of_ble_eq_true rfl) (fun K => ?_)
    have J28 : ∀ (τ : Sg) (h : CI τ s) (cells slots : Nat) (hb : cells + 8 ≤ 24) (hs : slots + 48 ≤ 144), AW K yL_act.cls cL_act mL_act 10 24 144 (Qm K NN (rL fun τ y0 => CI τ (aAddRoom s (iI ((1 + ((y / 4) % 9)))) (iI ((1 + (((y / 4) / 9) % 9)))) (iI ((1 + (((y / 4) / 81) % 9)))) (iI (((((y / 4) / 729) % 30) - 5)))) ∧ (vAddRoom s (iI ((1 + ((y / 4) % 9)))) (iI ((1 + (((y / 4) / 9) % 9)))) (iI ((1 + (((y / 4) / 81) % 9)))) (iI (((((y / 4) / 729) % 30) - 5)))) = y0) XF 24 144) NN none τ cells slots 28 [some (.ref 0), some (.int (iI (x))), some (.int (iI (y))), some (.int (iI ((tn (stG s) : Int)))), some (.int (iI ((rn (stG s) : Int)))), none, none] [.int (iI rr)] := by
      intro τ h cells slots hb hs
      refine aw_istore5 dL_act_28 (Nat.le_of_ble_eq_true rfl) rfl ?_
      refine aw_iload2 dL_act_30 ?_
      refine aw_iconst (v := iI (4)) dL_act_31 rfl ?_
      refine ai_idiv dL_act_32 (by omega) (by omega) (by omega) (by omega) ?_
      refine aw_istore6 dL_act_33 (Nat.le_of_ble_eq_true rfl) rfl ?_
      refine aw_iload1 dL_act_35 ?_
      refine aw_bipush (v := iI (24)) dL_act_36 (by decide) ?_
      refine ai_irem dL_act_38 (by omega) (by omega) (by omega) (by omega) ?_
      rw [hv]
      refine aw_table (tgt := 116) (off := 77) dL_act_39 (by decide) (by decide) (by decide) (by decide) ?_
      refine aw_aload0 dL_act_116 ?_
      refine aw_iconst (v := iI (1)) dL_act_117 rfl ?_
      refine aw_iload6 dL_act_118 ?_
      refine aw_bipush (v := iI (9)) dL_act_120 (by decide) ?_
      refine ai_irem dL_act_122 (by omega) (by omega) (by omega) (by omega) ?_
      refine ai_iadd dL_act_123 ?_
      refine aw_iconst (v := iI (1)) dL_act_124 rfl ?_
      refine aw_iload6 dL_act_125 ?_
      refine aw_bipush (v := iI (9)) dL_act_127 (by decide) ?_
      refine ai_idiv dL_act_129 (by omega) (by omega) (by omega) (by omega) ?_
      refine aw_bipush (v := iI (9)) dL_act_130 (by decide) ?_
      refine ai_irem dL_act_132 (by omega) (by omega) (by omega) (by omega) ?_
      refine ai_iadd dL_act_133 ?_
      refine aw_iconst (v := iI (1)) dL_act_134 rfl ?_
      refine aw_iload6 dL_act_135 ?_
      refine aw_bipush (v := iI (81)) dL_act_137 (by decide) ?_
      refine ai_idiv dL_act_139 (by omega) (by omega) (by omega) (by omega) ?_
      refine aw_bipush (v := iI (9)) dL_act_140 (by decide) ?_
      refine ai_irem dL_act_142 (by omega) (by omega) (by omega) (by omega) ?_
      refine ai_iadd dL_act_143 ?_
      refine aw_iload6 dL_act_144 ?_
      refine aw_sipush (v := iI (729)) dL_act_146 (by decide) ?_
      refine ai_idiv dL_act_149 (by omega) (by omega) (by omega) (by omega) ?_
      refine aw_bipush (v := iI (30)) dL_act_150 (by decide) ?_
      refine ai_irem dL_act_152 (by omega) (by omega) (by omega) (by omega) ?_
      refine aw_iconst (v := iI (5)) dL_act_153 rfl ?_
      refine ai_isub dL_act_154 ?_
      refine ac_SH (As := [.ref 0, .int (iI ((1 + ((y / 4) % 9)))), .int (iI ((1 + (((y / 4) / 9) % 9)))), .int (iI ((1 + (((y / 4) / 81) % 9)))), .int (iI (((((y / 4) / 729) % 30) - 5)))]) (qL_addRoom h (iI ((1 + ((y / 4) % 9)))) (iI ((1 + (((y / 4) / 9) % 9)))) (iI ((1 + (((y / 4) / 81) % 9)))) (iI (((((y / 4) / 729) % 30) - 5)))) dL_act_155 sl_L_126 (by decide) (Nat.le_of_ble_eq_true rfl) hb hs (B2 := 32) (B2' := 192) rfl rfl (by omega) (by omega) (fun τ_155 r_155 c_ s_ h_155 hb_ hs_ => ?_)
      replace hb := hb_
      replace hs := hs_
      clear hb_ hs_
      obtain ⟨v_155, rfl, i_155, e_155⟩ := h_155
      obtain rfl : (vAddRoom s (iI ((1 + ((y / 4) % 9)))) (iI ((1 + (((y / 4) / 9) % 9)))) (iI ((1 + (((y / 4) / 81) % 9)))) (iI (((((y / 4) / 729) % 30) - 5)))) = v_155 := e_155
      exact aw_lret dL_act_158 rfl ⟨by omega, by omega⟩ ⟨_, rfl, i_155, rfl⟩
    have hb : 0 + 24 ≤ 24 := by omega
    have hs : 0 + 144 ≤ 144 := by omega
    refine aw_aload0 dL_act_0 ?_
    refine aw_iconst (v := iI (0)) dL_act_1 rfl ?_
    refine ac_SH (As := [.ref 0, .int (iI (0))]) (qL_about hI _) dL_act_2 sl_L_104 (by decide) (Nat.le_of_ble_eq_true rfl) hb hs (B2 := 32) (B2' := 192) rfl rfl (by omega) (by omega) (fun τ_2 r_2 c_ s_ h_2 hb_ hs_ => ?_)
    replace hb := hb_
    replace hs := hs_
    clear hb_ hs_
    obtain ⟨v_2, rfl, i_2, e_2⟩ := h_2
    obtain rfl : (lI ((tn (stG s) : Int))) = v_2 := (((about_v (i := 0) (by omega) rfl).trans ab0).symm.trans e_2)
    refine ai_l2i dL_act_5 ?_
    refine aw_istore3 dL_act_6 (Nat.le_of_ble_eq_true rfl) rfl ?_
    refine aw_aload0 dL_act_7 ?_
    refine aw_iconst (v := iI (1)) dL_act_8 rfl ?_
    refine ac_SH (As := [.ref 0, .int (iI (1))]) (qL_about i_2 _) dL_act_9 sl_L_104 (by decide) (Nat.le_of_ble_eq_true rfl) hb hs (B2 := 40) (B2' := 240) rfl rfl (by omega) (by omega) (fun τ_9 r_9 c_ s_ h_9 hb_ hs_ => ?_)
    replace hb := hb_
    replace hs := hs_
    clear hb_ hs_
    obtain ⟨v_9, rfl, i_9, e_9⟩ := h_9
    obtain rfl : (lI ((rn (stG s) : Int))) = v_9 := (((about_v (i := 1) (by omega) rfl).trans ab1).symm.trans e_9)
    refine ai_l2i dL_act_12 ?_
    refine aw_istore4 dL_act_13 (Nat.le_of_ble_eq_true rfl) rfl ?_
    refine aw_iload4 dL_act_15 ?_
    refine ai_if_ne (tgt := 24) dL_act_17 (by decide) (by omega) (by omega) (fun c_17 => ?_) (fun c_17 => ?_)
    · refine aw_iload2 dL_act_24 ?_
      refine aw_iload4 dL_act_25 ?_
      refine ai_irem dL_act_27 (by omega) (by omega) (by omega) (by omega) ?_
      exact AW.topI (hrr.2 (by omega)).symm (J28 _ i_9 _ _ (by omega) (by omega))
    · refine aw_iconst (v := iI (0)) dL_act_20 rfl ?_
      refine aw_goto (tgt := 28) dL_act_21 (by decide) ?_
      exact AW.topI (hrr.1 (by omega)).symm (J28 _ i_9 _ _ (by omega) (by omega))
  · refine ⟨(aAddGroup s), (vAddGroup s), hS.addGroup, fun {σ} hI => ?_⟩
    refine ct_of (ls0 := [some (.ref 0), some (.int (iI x)), some (.int (iI y)), none, none, none, none]) 4 (by decide +kernel) rfl rfl (ndR (ndI (ndI nd0))) rfl (Nat.le_of_ble_eq_true rfl) (fun K => ?_)
    have J28 : ∀ (τ : Sg) (h : CI τ s) (cells slots : Nat) (hb : cells + 8 ≤ 24) (hs : slots + 48 ≤ 144), AW K yL_act.cls cL_act mL_act 10 24 144 (Qm K NN (rL fun τ y0 => CI τ (aAddGroup s) ∧ (vAddGroup s) = y0) XF 24 144) NN none τ cells slots 28 [some (.ref 0), some (.int (iI (x))), some (.int (iI (y))), some (.int (iI ((tn (stG s) : Int)))), some (.int (iI ((rn (stG s) : Int)))), none, none] [.int (iI rr)] := by
      intro τ h cells slots hb hs
      refine aw_istore5 dL_act_28 (Nat.le_of_ble_eq_true rfl) rfl ?_
      refine aw_iload2 dL_act_30 ?_
      refine aw_iconst (v := iI (4)) dL_act_31 rfl ?_
      refine ai_idiv dL_act_32 (by omega) (by omega) (by omega) (by omega) ?_
      refine aw_istore6 dL_act_33 (Nat.le_of_ble_eq_true rfl) rfl ?_
      refine aw_iload1 dL_act_35 ?_
      refine aw_bipush (v := iI (24)) dL_act_36 (by decide) ?_
      refine ai_irem dL_act_38 (by omega) (by omega) (by omega) (by omega) ?_
      rw [hv]
      refine aw_table (tgt := 159) (off := 120) dL_act_39 (by decide) (by decide) (by decide) (by decide) ?_
      refine aw_aload0 dL_act_159 ?_
      refine ac_SH (As := [.ref 0]) (qL_addGroup h ) dL_act_160 sl_L_129 (by decide) (Nat.le_of_ble_eq_true rfl) hb hs (B2 := 32) (B2' := 192) rfl rfl (by omega) (by omega) (fun τ_160 r_160 c_ s_ h_160 hb_ hs_ => ?_)
      replace hb := hb_
      replace hs := hs_
      clear hb_ hs_
      obtain ⟨v_160, rfl, i_160, e_160⟩ := h_160
      obtain rfl : (vAddGroup s) = v_160 := e_160
      exact aw_lret dL_act_163 rfl ⟨by omega, by omega⟩ ⟨_, rfl, i_160, rfl⟩
    have hb : 0 + 24 ≤ 24 := by omega
    have hs : 0 + 144 ≤ 144 := by omega
    refine aw_aload0 dL_act_0 ?_
    refine aw_iconst (v := iI (0)) dL_act_1 rfl ?_
    refine ac_SH (As := [.ref 0, .int (iI (0))]) (qL_about hI _) dL_act_2 sl_L_104 (by decide) (Nat.le_of_ble_eq_true rfl) hb hs (B2 := 32) (B2' := 192) rfl rfl (by omega) (by omega) (fun τ_2 r_2 c_ s_ h_2 hb_ hs_ => ?_)
    replace hb := hb_
    replace hs := hs_
    clear hb_ hs_
    obtain ⟨v_2, rfl, i_2, e_2⟩ := h_2
    obtain rfl : (lI ((tn (stG s) : Int))) = v_2 := (((about_v (i := 0) (by omega) rfl).trans ab0).symm.trans e_2)
    refine ai_l2i dL_act_5 ?_
    refine aw_istore3 dL_act_6 (Nat.le_of_ble_eq_true rfl) rfl ?_
    refine aw_aload0 dL_act_7 ?_
    refine aw_iconst (v := iI (1)) dL_act_8 rfl ?_
    refine ac_SH (As := [.ref 0, .int (iI (1))]) (qL_about i_2 _) dL_act_9 sl_L_104 (by decide) (Nat.le_of_ble_eq_true rfl) hb hs (B2 := 40) (B2' := 240) rfl rfl (by omega) (by omega) (fun τ_9 r_9 c_ s_ h_9 hb_ hs_ => ?_)
    replace hb := hb_
    replace hs := hs_
    clear hb_ hs_
    obtain ⟨v_9, rfl, i_9, e_9⟩ := h_9
    obtain rfl : (lI ((rn (stG s) : Int))) = v_9 := (((about_v (i := 1) (by omega) rfl).trans ab1).symm.trans e_9)
    refine ai_l2i dL_act_12 ?_
    refine aw_istore4 dL_act_13 (Nat.le_of_ble_eq_true rfl) rfl ?_
    refine aw_iload4 dL_act_15 ?_
    refine ai_if_ne (tgt := 24) dL_act_17 (by decide) (by omega) (by omega) (fun c_17 => ?_) (fun c_17 => ?_)
    · refine aw_iload2 dL_act_24 ?_
      refine aw_iload4 dL_act_25 ?_
      refine ai_irem dL_act_27 (by omega) (by omega) (by omega) (by omega) ?_
      exact AW.topI (hrr.2 (by omega)).symm (J28 _ i_9 _ _ (by omega) (by omega))
    · refine aw_iconst (v := iI (0)) dL_act_20 rfl ?_
      refine aw_goto (tgt := 28) dL_act_21 (by decide) ?_
      exact AW.topI (hrr.1 (by omega)).symm (J28 _ i_9 _ _ (by omega) (by omega))
  · refine ⟨(aBook s (iI (rr)) (iI (((y / 4) % 6))) (iI (((tn (stG s) : Int) + (((y / 4) / 6) % 12)))) (iI ((1 + (((y / 4) / 72) % 6)))) (iI ((12 + (((y / 4) / 432) % 14))))), (vBook s (iI (rr)) (iI (((y / 4) % 6))) (iI (((tn (stG s) : Int) + (((y / 4) / 6) % 12)))) (iI ((1 + (((y / 4) / 72) % 6)))) (iI ((12 + (((y / 4) / 432) % 14))))), (hS.book (iI (rr)) (iI (((y / 4) % 6))) (iI (((tn (stG s) : Int) + (((y / 4) / 6) % 12)))) (iI ((1 + (((y / 4) / 72) % 6)))) (iI ((12 + (((y / 4) / 432) % 14))))), fun {σ} hI => ?_⟩
    refine ct_of (ls0 := [some (.ref 0), some (.int (iI x)), some (.int (iI y)), none, none, none, none]) 4 (by decide +kernel) rfl rfl (ndR (ndI (ndI nd0))) rfl (Nat.le_of_ble_eq_true rfl) (fun K => ?_)
    have J28 : ∀ (τ : Sg) (h : CI τ s) (cells slots : Nat) (hb : cells + 8 ≤ 24) (hs : slots + 48 ≤ 144), AW K yL_act.cls cL_act mL_act 10 24 144 (Qm K NN (rL fun τ y0 => CI τ (aBook s (iI (rr)) (iI (((y / 4) % 6))) (iI (((tn (stG s) : Int) + (((y / 4) / 6) % 12)))) (iI ((1 + (((y / 4) / 72) % 6)))) (iI ((12 + (((y / 4) / 432) % 14))))) ∧ (vBook s (iI (rr)) (iI (((y / 4) % 6))) (iI (((tn (stG s) : Int) + (((y / 4) / 6) % 12)))) (iI ((1 + (((y / 4) / 72) % 6)))) (iI ((12 + (((y / 4) / 432) % 14))))) = y0) XF 24 144) NN none τ cells slots 28 [some (.ref 0), some (.int (iI (x))), some (.int (iI (y))), some (.int (iI ((tn (stG s) : Int)))), some (.int (iI ((rn (stG s) : Int)))), none, none] [.int (iI rr)] := by
      intro τ h cells slots hb hs
      refine aw_istore5 dL_act_28 (Nat.le_of_ble_eq_true rfl) rfl ?_
      refine aw_iload2 dL_act_30 ?_
      refine aw_iconst (v := iI (4)) dL_act_31 rfl ?_
      refine ai_idiv dL_act_32 (by omega) (by omega) (by omega) (by omega) ?_
      refine aw_istore6 dL_act_33 (Nat.le_of_ble_eq_true rfl) rfl ?_
      refine aw_iload1 dL_act_35 ?_
      refine aw_bipush (v := iI (24)) dL_act_36 (by decide) ?_
      refine ai_irem dL_act_38 (by omega) (by omega) (by omega) (by omega) ?_
      rcases hv with hv | hv | hv | hv | hv
      · rw [hv]
        refine aw_table (tgt := 164) (off := 125) dL_act_39 (by decide) (by decide) (by decide) (by decide) ?_
        refine aw_aload0 dL_act_164 ?_
        refine aw_iload5 dL_act_165 ?_
        refine aw_iload6 dL_act_167 ?_
        refine aw_bipush (v := iI (6)) dL_act_169 (by decide) ?_
        refine ai_irem dL_act_171 (by omega) (by omega) (by omega) (by omega) ?_
        refine aw_iload3 dL_act_172 ?_
        refine aw_iload6 dL_act_173 ?_
        refine aw_bipush (v := iI (6)) dL_act_175 (by decide) ?_
        refine ai_idiv dL_act_177 (by omega) (by omega) (by omega) (by omega) ?_
        refine aw_bipush (v := iI (12)) dL_act_178 (by decide) ?_
        refine ai_irem dL_act_180 (by omega) (by omega) (by omega) (by omega) ?_
        refine ai_iadd dL_act_181 ?_
        refine aw_iconst (v := iI (1)) dL_act_182 rfl ?_
        refine aw_iload6 dL_act_183 ?_
        refine aw_bipush (v := iI (72)) dL_act_185 (by decide) ?_
        refine ai_idiv dL_act_187 (by omega) (by omega) (by omega) (by omega) ?_
        refine aw_bipush (v := iI (6)) dL_act_188 (by decide) ?_
        refine ai_irem dL_act_190 (by omega) (by omega) (by omega) (by omega) ?_
        refine ai_iadd dL_act_191 ?_
        refine aw_bipush (v := iI (12)) dL_act_192 (by decide) ?_
        refine aw_iload6 dL_act_194 ?_
        refine aw_sipush (v := iI (432)) dL_act_196 (by decide) ?_
        refine ai_idiv dL_act_199 (by omega) (by omega) (by omega) (by omega) ?_
        refine aw_bipush (v := iI (14)) dL_act_200 (by decide) ?_
        refine ai_irem dL_act_202 (by omega) (by omega) (by omega) (by omega) ?_
        refine ai_iadd dL_act_203 ?_
        refine ac_SH (As := [.ref 0, .int (iI (rr)), .int (iI (((y / 4) % 6))), .int (iI (((tn (stG s) : Int) + (((y / 4) / 6) % 12)))), .int (iI ((1 + (((y / 4) / 72) % 6)))), .int (iI ((12 + (((y / 4) / 432) % 14))))]) (qL_book h (iI (rr)) (iI (((y / 4) % 6))) (iI (((tn (stG s) : Int) + (((y / 4) / 6) % 12)))) (iI ((1 + (((y / 4) / 72) % 6)))) (iI ((12 + (((y / 4) / 432) % 14))))) dL_act_204 sl_L_131 (by decide) (Nat.le_of_ble_eq_true rfl) hb hs (B2 := 32) (B2' := 192) rfl rfl (by omega) (by omega) (fun τ_204 r_204 c_ s_ h_204 hb_ hs_ => ?_)
        replace hb := hb_
        replace hs := hs_
        clear hb_ hs_
        obtain ⟨v_204, rfl, i_204, e_204⟩ := h_204
        obtain rfl : (vBook s (iI (rr)) (iI (((y / 4) % 6))) (iI (((tn (stG s) : Int) + (((y / 4) / 6) % 12)))) (iI ((1 + (((y / 4) / 72) % 6)))) (iI ((12 + (((y / 4) / 432) % 14))))) = v_204 := e_204
        exact aw_lret dL_act_207 rfl ⟨by omega, by omega⟩ ⟨_, rfl, i_204, rfl⟩
      · rw [hv]
        refine aw_table (tgt := 164) (off := 125) dL_act_39 (by decide) (by decide) (by decide) (by decide) ?_
        refine aw_aload0 dL_act_164 ?_
        refine aw_iload5 dL_act_165 ?_
        refine aw_iload6 dL_act_167 ?_
        refine aw_bipush (v := iI (6)) dL_act_169 (by decide) ?_
        refine ai_irem dL_act_171 (by omega) (by omega) (by omega) (by omega) ?_
        refine aw_iload3 dL_act_172 ?_
        refine aw_iload6 dL_act_173 ?_
        refine aw_bipush (v := iI (6)) dL_act_175 (by decide) ?_
        refine ai_idiv dL_act_177 (by omega) (by omega) (by omega) (by omega) ?_
        refine aw_bipush (v := iI (12)) dL_act_178 (by decide) ?_
        refine ai_irem dL_act_180 (by omega) (by omega) (by omega) (by omega) ?_
        refine ai_iadd dL_act_181 ?_
        refine aw_iconst (v := iI (1)) dL_act_182 rfl ?_
        refine aw_iload6 dL_act_183 ?_
        refine aw_bipush (v := iI (72)) dL_act_185 (by decide) ?_
        refine ai_idiv dL_act_187 (by omega) (by omega) (by omega) (by omega) ?_
        refine aw_bipush (v := iI (6)) dL_act_188 (by decide) ?_
        refine ai_irem dL_act_190 (by omega) (by omega) (by omega) (by omega) ?_
        refine ai_iadd dL_act_191 ?_
        refine aw_bipush (v := iI (12)) dL_act_192 (by decide) ?_
        refine aw_iload6 dL_act_194 ?_
        refine aw_sipush (v := iI (432)) dL_act_196 (by decide) ?_
        refine ai_idiv dL_act_199 (by omega) (by omega) (by omega) (by omega) ?_
        refine aw_bipush (v := iI (14)) dL_act_200 (by decide) ?_
        refine ai_irem dL_act_202 (by omega) (by omega) (by omega) (by omega) ?_
        refine ai_iadd dL_act_203 ?_
        refine ac_SH (As := [.ref 0, .int (iI (rr)), .int (iI (((y / 4) % 6))), .int (iI (((tn (stG s) : Int) + (((y / 4) / 6) % 12)))), .int (iI ((1 + (((y / 4) / 72) % 6)))), .int (iI ((12 + (((y / 4) / 432) % 14))))]) (qL_book h (iI (rr)) (iI (((y / 4) % 6))) (iI (((tn (stG s) : Int) + (((y / 4) / 6) % 12)))) (iI ((1 + (((y / 4) / 72) % 6)))) (iI ((12 + (((y / 4) / 432) % 14))))) dL_act_204 sl_L_131 (by decide) (Nat.le_of_ble_eq_true rfl) hb hs (B2 := 32) (B2' := 192) rfl rfl (by omega) (by omega) (fun τ_204 r_204 c_ s_ h_204 hb_ hs_ => ?_)
        replace hb := hb_
        replace hs := hs_
        clear hb_ hs_
        obtain ⟨v_204, rfl, i_204, e_204⟩ := h_204
        obtain rfl : (vBook s (iI (rr)) (iI (((y / 4) % 6))) (iI (((tn (stG s) : Int) + (((y / 4) / 6) % 12)))) (iI ((1 + (((y / 4) / 72) % 6)))) (iI ((12 + (((y / 4) / 432) % 14))))) = v_204 := e_204
        exact aw_lret dL_act_207 rfl ⟨by omega, by omega⟩ ⟨_, rfl, i_204, rfl⟩
      · rw [hv]
        refine aw_table (tgt := 164) (off := 125) dL_act_39 (by decide) (by decide) (by decide) (by decide) ?_
        refine aw_aload0 dL_act_164 ?_
        refine aw_iload5 dL_act_165 ?_
        refine aw_iload6 dL_act_167 ?_
        refine aw_bipush (v := iI (6)) dL_act_169 (by decide) ?_
        refine ai_irem dL_act_171 (by omega) (by omega) (by omega) (by omega) ?_
        refine aw_iload3 dL_act_172 ?_
        refine aw_iload6 dL_act_173 ?_
        refine aw_bipush (v := iI (6)) dL_act_175 (by decide) ?_
        refine ai_idiv dL_act_177 (by omega) (by omega) (by omega) (by omega) ?_
        refine aw_bipush (v := iI (12)) dL_act_178 (by decide) ?_
        refine ai_irem dL_act_180 (by omega) (by omega) (by omega) (by omega) ?_
        refine ai_iadd dL_act_181 ?_
        refine aw_iconst (v := iI (1)) dL_act_182 rfl ?_
        refine aw_iload6 dL_act_183 ?_
        refine aw_bipush (v := iI (72)) dL_act_185 (by decide) ?_
        refine ai_idiv dL_act_187 (by omega) (by omega) (by omega) (by omega) ?_
        refine aw_bipush (v := iI (6)) dL_act_188 (by decide) ?_
        refine ai_irem dL_act_190 (by omega) (by omega) (by omega) (by omega) ?_
        refine ai_iadd dL_act_191 ?_
        refine aw_bipush (v := iI (12)) dL_act_192 (by decide) ?_
        refine aw_iload6 dL_act_194 ?_
        refine aw_sipush (v := iI (432)) dL_act_196 (by decide) ?_
        refine ai_idiv dL_act_199 (by omega) (by omega) (by omega) (by omega) ?_
        refine aw_bipush (v := iI (14)) dL_act_200 (by decide) ?_
        refine ai_irem dL_act_202 (by omega) (by omega) (by omega) (by omega) ?_
        refine ai_iadd dL_act_203 ?_
        refine ac_SH (As := [.ref 0, .int (iI (rr)), .int (iI (((y / 4) % 6))), .int (iI (((tn (stG s) : Int) + (((y / 4) / 6) % 12)))), .int (iI ((1 + (((y / 4) / 72) % 6)))), .int (iI ((12 + (((y / 4) / 432) % 14))))]) (qL_book h (iI (rr)) (iI (((y / 4) % 6))) (iI (((tn (stG s) : Int) + (((y / 4) / 6) % 12)))) (iI ((1 + (((y / 4) / 72) % 6)))) (iI ((12 + (((y / 4) / 432) % 14))))) dL_act_204 sl_L_131 (by decide) (Nat.le_of_ble_eq_true rfl) hb hs (B2 := 32) (B2' := 192) rfl rfl (by omega) (by omega) (fun τ_204 r_204 c_ s_ h_204 hb_ hs_ => ?_)
        replace hb := hb_
        replace hs := hs_
        clear hb_ hs_
        obtain ⟨v_204, rfl, i_204, e_204⟩ := h_204
        obtain rfl : (vBook s (iI (rr)) (iI (((y / 4) % 6))) (iI (((tn (stG s) : Int) + (((y / 4) / 6) % 12)))) (iI ((1 + (((y / 4) / 72) % 6)))) (iI ((12 + (((y / 4) / 432) % 14))))) = v_204 := e_204
        exact aw_lret dL_act_207 rfl ⟨by omega, by omega⟩ ⟨_, rfl, i_204, rfl⟩
      · rw [hv]
        refine aw_table (tgt := 164) (off := 125) dL_act_39 (by decide) (by decide) (by decide) (by decide) ?_
        refine aw_aload0 dL_act_164 ?_
        refine aw_iload5 dL_act_165 ?_
        refine aw_iload6 dL_act_167 ?_
        refine aw_bipush (v := iI (6)) dL_act_169 (by decide) ?_
        refine ai_irem dL_act_171 (by omega) (by omega) (by omega) (by omega) ?_
        refine aw_iload3 dL_act_172 ?_
        refine aw_iload6 dL_act_173 ?_
        refine aw_bipush (v := iI (6)) dL_act_175 (by decide) ?_
        refine ai_idiv dL_act_177 (by omega) (by omega) (by omega) (by omega) ?_
        refine aw_bipush (v := iI (12)) dL_act_178 (by decide) ?_
        refine ai_irem dL_act_180 (by omega) (by omega) (by omega) (by omega) ?_
        refine ai_iadd dL_act_181 ?_
        refine aw_iconst (v := iI (1)) dL_act_182 rfl ?_
        refine aw_iload6 dL_act_183 ?_
        refine aw_bipush (v := iI (72)) dL_act_185 (by decide) ?_
        refine ai_idiv dL_act_187 (by omega) (by omega) (by omega) (by omega) ?_
        refine aw_bipush (v := iI (6)) dL_act_188 (by decide) ?_
        refine ai_irem dL_act_190 (by omega) (by omega) (by omega) (by omega) ?_
        refine ai_iadd dL_act_191 ?_
        refine aw_bipush (v := iI (12)) dL_act_192 (by decide) ?_
        refine aw_iload6 dL_act_194 ?_
        refine aw_sipush (v := iI (432)) dL_act_196 (by decide) ?_
        refine ai_idiv dL_act_199 (by omega) (by omega) (by omega) (by omega) ?_
        refine aw_bipush (v := iI (14)) dL_act_200 (by decide) ?_
        refine ai_irem dL_act_202 (by omega) (by omega) (by omega) (by omega) ?_
        refine ai_iadd dL_act_203 ?_
        refine ac_SH (As := [.ref 0, .int (iI (rr)), .int (iI (((y / 4) % 6))), .int (iI (((tn (stG s) : Int) + (((y / 4) / 6) % 12)))), .int (iI ((1 + (((y / 4) / 72) % 6)))), .int (iI ((12 + (((y / 4) / 432) % 14))))]) (qL_book h (iI (rr)) (iI (((y / 4) % 6))) (iI (((tn (stG s) : Int) + (((y / 4) / 6) % 12)))) (iI ((1 + (((y / 4) / 72) % 6)))) (iI ((12 + (((y / 4) / 432) % 14))))) dL_act_204 sl_L_131 (by decide) (Nat.le_of_ble_eq_true rfl) hb hs (B2 := 32) (B2' := 192) rfl rfl (by omega) (by omega) (fun τ_204 r_204 c_ s_ h_204 hb_ hs_ => ?_)
        replace hb := hb_
        replace hs := hs_
        clear hb_ hs_
        obtain ⟨v_204, rfl, i_204, e_204⟩ := h_204
        obtain rfl : (vBook s (iI (rr)) (iI (((y / 4) % 6))) (iI (((tn (stG s) : Int) + (((y / 4) / 6) % 12)))) (iI ((1 + (((y / 4) / 72) % 6)))) (iI ((12 + (((y / 4) / 432) % 14))))) = v_204 := e_204
        exact aw_lret dL_act_207 rfl ⟨by omega, by omega⟩ ⟨_, rfl, i_204, rfl⟩
      · rw [hv]
        refine aw_table (tgt := 164) (off := 125) dL_act_39 (by decide) (by decide) (by decide) (by decide) ?_
        refine aw_aload0 dL_act_164 ?_
        refine aw_iload5 dL_act_165 ?_
        refine aw_iload6 dL_act_167 ?_
        refine aw_bipush (v := iI (6)) dL_act_169 (by decide) ?_
        refine ai_irem dL_act_171 (by omega) (by omega) (by omega) (by omega) ?_
        refine aw_iload3 dL_act_172 ?_
        refine aw_iload6 dL_act_173 ?_
        refine aw_bipush (v := iI (6)) dL_act_175 (by decide) ?_
        refine ai_idiv dL_act_177 (by omega) (by omega) (by omega) (by omega) ?_
        refine aw_bipush (v := iI (12)) dL_act_178 (by decide) ?_
        refine ai_irem dL_act_180 (by omega) (by omega) (by omega) (by omega) ?_
        refine ai_iadd dL_act_181 ?_
        refine aw_iconst (v := iI (1)) dL_act_182 rfl ?_
        refine aw_iload6 dL_act_183 ?_
        refine aw_bipush (v := iI (72)) dL_act_185 (by decide) ?_
        refine ai_idiv dL_act_187 (by omega) (by omega) (by omega) (by omega) ?_
        refine aw_bipush (v := iI (6)) dL_act_188 (by decide) ?_
        refine ai_irem dL_act_190 (by omega) (by omega) (by omega) (by omega) ?_
        refine ai_iadd dL_act_191 ?_
        refine aw_bipush (v := iI (12)) dL_act_192 (by decide) ?_
        refine aw_iload6 dL_act_194 ?_
        refine aw_sipush (v := iI (432)) dL_act_196 (by decide) ?_
        refine ai_idiv dL_act_199 (by omega) (by omega) (by omega) (by omega) ?_
        refine aw_bipush (v := iI (14)) dL_act_200 (by decide) ?_
        refine ai_irem dL_act_202 (by omega) (by omega) (by omega) (by omega) ?_
        refine ai_iadd dL_act_203 ?_
        refine ac_SH (As := [.ref 0, .int (iI (rr)), .int (iI (((y / 4) % 6))), .int (iI (((tn (stG s) : Int) + (((y / 4) / 6) % 12)))), .int (iI ((1 + (((y / 4) / 72) % 6)))), .int (iI ((12 + (((y / 4) / 432) % 14))))]) (qL_book h (iI (rr)) (iI (((y / 4) % 6))) (iI (((tn (stG s) : Int) + (((y / 4) / 6) % 12)))) (iI ((1 + (((y / 4) / 72) % 6)))) (iI ((12 + (((y / 4) / 432) % 14))))) dL_act_204 sl_L_131 (by decide) (Nat.le_of_ble_eq_true rfl) hb hs (B2 := 32) (B2' := 192) rfl rfl (by omega) (by omega) (fun τ_204 r_204 c_ s_ h_204 hb_ hs_ => ?_)
        replace hb := hb_
        replace hs := hs_
        clear hb_ hs_
        obtain ⟨v_204, rfl, i_204, e_204⟩ := h_204
        obtain rfl : (vBook s (iI (rr)) (iI (((y / 4) % 6))) (iI (((tn (stG s) : Int) + (((y / 4) / 6) % 12)))) (iI ((1 + (((y / 4) / 72) % 6)))) (iI ((12 + (((y / 4) / 432) % 14))))) = v_204 := e_204
        exact aw_lret dL_act_207 rfl ⟨by omega, by omega⟩ ⟨_, rfl, i_204, rfl⟩
    have hb : 0 + 24 ≤ 24 := by omega
    have hs : 0 + 144 ≤ 144 := by omega
    refine aw_aload0 dL_act_0 ?_
    refine aw_iconst (v := iI (0)) dL_act_1 rfl ?_
    refine ac_SH (As := [.ref 0, .int (iI (0))]) (qL_about hI _) dL_act_2 sl_L_104 (by decide) (Nat.le_of_ble_eq_true rfl) hb hs (B2 := 32) (B2' := 192) rfl rfl (by omega) (by omega) (fun τ_2 r_2 c_ s_ h_2 hb_ hs_ => ?_)
    replace hb := hb_
    replace hs := hs_
    clear hb_ hs_
    obtain ⟨v_2, rfl, i_2, e_2⟩ := h_2
    obtain rfl : (lI ((tn (stG s) : Int))) = v_2 := (((about_v (i := 0) (by omega) rfl).trans ab0).symm.trans e_2)
    refine ai_l2i dL_act_5 ?_
    refine aw_istore3 dL_act_6 (Nat.le_of_ble_eq_true rfl) rfl ?_
    refine aw_aload0 dL_act_7 ?_
    refine aw_iconst (v := iI (1)) dL_act_8 rfl ?_
    refine ac_SH (As := [.ref 0, .int (iI (1))]) (qL_about i_2 _) dL_act_9 sl_L_104 (by decide) (Nat.le_of_ble_eq_true rfl) hb hs (B2 := 40) (B2' := 240) rfl rfl (by omega) (by omega) (fun τ_9 r_9 c_ s_ h_9 hb_ hs_ => ?_)
    replace hb := hb_
    replace hs := hs_
    clear hb_ hs_
    obtain ⟨v_9, rfl, i_9, e_9⟩ := h_9
    obtain rfl : (lI ((rn (stG s) : Int))) = v_9 := (((about_v (i := 1) (by omega) rfl).trans ab1).symm.trans e_9)
    refine ai_l2i dL_act_12 ?_
    refine aw_istore4 dL_act_13 (Nat.le_of_ble_eq_true rfl) rfl ?_
    refine aw_iload4 dL_act_15 ?_
    refine ai_if_ne (tgt := 24) dL_act_17 (by decide) (by omega) (by omega) (fun c_17 => ?_) (fun c_17 => ?_)
    · refine aw_iload2 dL_act_24 ?_
      refine aw_iload4 dL_act_25 ?_
      refine ai_irem dL_act_27 (by omega) (by omega) (by omega) (by omega) ?_
      exact AW.topI (hrr.2 (by omega)).symm (J28 _ i_9 _ _ (by omega) (by omega))
    · refine aw_iconst (v := iI (0)) dL_act_20 rfl ?_
      refine aw_goto (tgt := 28) dL_act_21 (by decide) ?_
      exact AW.topI (hrr.1 (by omega)).symm (J28 _ i_9 _ _ (by omega) (by omega))
  · refine ⟨(aCancel s (iI (((y / 4) % 8)))), (vCancel s (iI (((y / 4) % 8)))), (hS.cancel (iI (((y / 4) % 8)))), fun {σ} hI => ?_⟩
    refine ct_of (ls0 := [some (.ref 0), some (.int (iI x)), some (.int (iI y)), none, none, none, none]) 4 (by decide +kernel) rfl rfl (ndR (ndI (ndI nd0))) rfl (Nat.le_of_ble_eq_true rfl) (fun K => ?_)
    have J28 : ∀ (τ : Sg) (h : CI τ s) (cells slots : Nat) (hb : cells + 8 ≤ 24) (hs : slots + 48 ≤ 144), AW K yL_act.cls cL_act mL_act 10 24 144 (Qm K NN (rL fun τ y0 => CI τ (aCancel s (iI (((y / 4) % 8)))) ∧ (vCancel s (iI (((y / 4) % 8)))) = y0) XF 24 144) NN none τ cells slots 28 [some (.ref 0), some (.int (iI (x))), some (.int (iI (y))), some (.int (iI ((tn (stG s) : Int)))), some (.int (iI ((rn (stG s) : Int)))), none, none] [.int (iI rr)] := by
      intro τ h cells slots hb hs
      refine aw_istore5 dL_act_28 (Nat.le_of_ble_eq_true rfl) rfl ?_
      refine aw_iload2 dL_act_30 ?_
      refine aw_iconst (v := iI (4)) dL_act_31 rfl ?_
      refine ai_idiv dL_act_32 (by omega) (by omega) (by omega) (by omega) ?_
      refine aw_istore6 dL_act_33 (Nat.le_of_ble_eq_true rfl) rfl ?_
      refine aw_iload1 dL_act_35 ?_
      refine aw_bipush (v := iI (24)) dL_act_36 (by decide) ?_
      refine ai_irem dL_act_38 (by omega) (by omega) (by omega) (by omega) ?_
      rw [hv]
      refine aw_table (tgt := 208) (off := 169) dL_act_39 (by decide) (by decide) (by decide) (by decide) ?_
      refine aw_aload0 dL_act_208 ?_
      refine aw_iload6 dL_act_209 ?_
      refine aw_bipush (v := iI (8)) dL_act_211 (by decide) ?_
      refine ai_irem dL_act_213 (by omega) (by omega) (by omega) (by omega) ?_
      refine ac_SH (As := [.ref 0, .int (iI (((y / 4) % 8)))]) (qL_cancel h (iI (((y / 4) % 8)))) dL_act_214 sl_L_136 (by decide) (Nat.le_of_ble_eq_true rfl) hb hs (B2 := 32) (B2' := 192) rfl rfl (by omega) (by omega) (fun τ_214 r_214 c_ s_ h_214 hb_ hs_ => ?_)
      replace hb := hb_
      replace hs := hs_
      clear hb_ hs_
      obtain ⟨v_214, rfl, i_214, e_214⟩ := h_214
      obtain rfl : (vCancel s (iI (((y / 4) % 8)))) = v_214 := e_214
      exact aw_lret dL_act_217 rfl ⟨by omega, by omega⟩ ⟨_, rfl, i_214, rfl⟩
    have hb : 0 + 24 ≤ 24 := by omega
    have hs : 0 + 144 ≤ 144 := by omega
    refine aw_aload0 dL_act_0 ?_
    refine aw_iconst (v := iI (0)) dL_act_1 rfl ?_
    refine ac_SH (As := [.ref 0, .int (iI (0))]) (qL_about hI _) dL_act_2 sl_L_104 (by decide) (Nat.le_of_ble_eq_true rfl) hb hs (B2 := 32) (B2' := 192) rfl rfl (by omega) (by omega) (fun τ_2 r_2 c_ s_ h_2 hb_ hs_ => ?_)
    replace hb := hb_
    replace hs := hs_
    clear hb_ hs_
    obtain ⟨v_2, rfl, i_2, e_2⟩ := h_2
    obtain rfl : (lI ((tn (stG s) : Int))) = v_2 := (((about_v (i := 0) (by omega) rfl).trans ab0).symm.trans e_2)
    refine ai_l2i dL_act_5 ?_
    refine aw_istore3 dL_act_6 (Nat.le_of_ble_eq_true rfl) rfl ?_
    refine aw_aload0 dL_act_7 ?_
    refine aw_iconst (v := iI (1)) dL_act_8 rfl ?_
    refine ac_SH (As := [.ref 0, .int (iI (1))]) (qL_about i_2 _) dL_act_9 sl_L_104 (by decide) (Nat.le_of_ble_eq_true rfl) hb hs (B2 := 40) (B2' := 240) rfl rfl (by omega) (by omega) (fun τ_9 r_9 c_ s_ h_9 hb_ hs_ => ?_)
    replace hb := hb_
    replace hs := hs_
    clear hb_ hs_
    obtain ⟨v_9, rfl, i_9, e_9⟩ := h_9
    obtain rfl : (lI ((rn (stG s) : Int))) = v_9 := (((about_v (i := 1) (by omega) rfl).trans ab1).symm.trans e_9)
    refine ai_l2i dL_act_12 ?_
    refine aw_istore4 dL_act_13 (Nat.le_of_ble_eq_true rfl) rfl ?_
    refine aw_iload4 dL_act_15 ?_
    refine ai_if_ne (tgt := 24) dL_act_17 (by decide) (by omega) (by omega) (fun c_17 => ?_) (fun c_17 => ?_)
    · refine aw_iload2 dL_act_24 ?_
      refine aw_iload4 dL_act_25 ?_
      refine ai_irem dL_act_27 (by omega) (by omega) (by omega) (by omega) ?_
      exact AW.topI (hrr.2 (by omega)).symm (J28 _ i_9 _ _ (by omega) (by omega))
    · refine aw_iconst (v := iI (0)) dL_act_20 rfl ?_
      refine aw_goto (tgt := 28) dL_act_21 (by decide) ?_
      exact AW.topI (hrr.1 (by omega)).symm (J28 _ i_9 _ _ (by omega) (by omega))
  · refine ⟨(aProve s (iI (rr)) (iI (1))), (vProve s (iI (rr)) (iI (1))), (hS.prove (iI (rr)) (iI (1)) (Or.inr (by decide))), fun {σ} hI => ?_⟩
    refine ct_of (ls0 := [some (.ref 0), some (.int (iI x)), some (.int (iI y)), none, none, none, none]) 4 (by decide +kernel) rfl rfl (ndR (ndI (ndI nd0))) rfl (Nat.le_of_ble_eq_true rfl) (fun K => ?_)
    have J28 : ∀ (τ : Sg) (h : CI τ s) (cells slots : Nat) (hb : cells + 8 ≤ 24) (hs : slots + 48 ≤ 144), AW K yL_act.cls cL_act mL_act 10 24 144 (Qm K NN (rL fun τ y0 => CI τ (aProve s (iI (rr)) (iI (1))) ∧ (vProve s (iI (rr)) (iI (1))) = y0) XF 24 144) NN none τ cells slots 28 [some (.ref 0), some (.int (iI (x))), some (.int (iI (y))), some (.int (iI ((tn (stG s) : Int)))), some (.int (iI ((rn (stG s) : Int)))), none, none] [.int (iI rr)] := by
      intro τ h cells slots hb hs
      refine aw_istore5 dL_act_28 (Nat.le_of_ble_eq_true rfl) rfl ?_
      refine aw_iload2 dL_act_30 ?_
      refine aw_iconst (v := iI (4)) dL_act_31 rfl ?_
      refine ai_idiv dL_act_32 (by omega) (by omega) (by omega) (by omega) ?_
      refine aw_istore6 dL_act_33 (Nat.le_of_ble_eq_true rfl) rfl ?_
      refine aw_iload1 dL_act_35 ?_
      refine aw_bipush (v := iI (24)) dL_act_36 (by decide) ?_
      refine ai_irem dL_act_38 (by omega) (by omega) (by omega) (by omega) ?_
      rcases hv with hv | hv | hv
      · rw [hv]
        refine aw_table (tgt := 218) (off := 179) dL_act_39 (by decide) (by decide) (by decide) (by decide) ?_
        refine aw_aload0 dL_act_218 ?_
        refine aw_iload5 dL_act_219 ?_
        refine aw_iload6 dL_act_221 ?_
        refine aw_iconst (v := iI (3)) dL_act_223 rfl ?_
        refine ai_irem dL_act_224 (by omega) (by omega) (by omega) (by omega) ?_
        refine ai_if_le (tgt := 232) dL_act_225 (by decide) (by omega) (by omega) (fun c_225 => absurd c_225 (by omega)) (fun c_225 => ?_)
        refine aw_iconst (v := iI (1)) dL_act_228 rfl ?_
        refine aw_goto (tgt := 233) dL_act_229 (by decide) ?_
        refine ac_SH (As := [.ref 0, .int (iI (rr)), .int (iI (1))]) (qL_prove h (iI (rr)) (iI (1)) (Or.inr (by decide))) dL_act_233 sl_L_138 (by decide) (Nat.le_of_ble_eq_true rfl) hb hs (B2 := 32) (B2' := 192) rfl rfl (by omega) (by omega) (fun τ_233 r_233 c_ s_ h_233 hb_ hs_ => ?_)
        replace hb := hb_
        replace hs := hs_
        clear hb_ hs_
        obtain ⟨v_233, rfl, i_233, e_233⟩ := h_233
        obtain rfl : (vProve s (iI (rr)) (iI (1))) = v_233 := e_233
        exact aw_lret dL_act_236 rfl ⟨by omega, by omega⟩ ⟨_, rfl, i_233, rfl⟩
      · rw [hv]
        refine aw_table (tgt := 218) (off := 179) dL_act_39 (by decide) (by decide) (by decide) (by decide) ?_
        refine aw_aload0 dL_act_218 ?_
        refine aw_iload5 dL_act_219 ?_
        refine aw_iload6 dL_act_221 ?_
        refine aw_iconst (v := iI (3)) dL_act_223 rfl ?_
        refine ai_irem dL_act_224 (by omega) (by omega) (by omega) (by omega) ?_
        refine ai_if_le (tgt := 232) dL_act_225 (by decide) (by omega) (by omega) (fun c_225 => absurd c_225 (by omega)) (fun c_225 => ?_)
        refine aw_iconst (v := iI (1)) dL_act_228 rfl ?_
        refine aw_goto (tgt := 233) dL_act_229 (by decide) ?_
        refine ac_SH (As := [.ref 0, .int (iI (rr)), .int (iI (1))]) (qL_prove h (iI (rr)) (iI (1)) (Or.inr (by decide))) dL_act_233 sl_L_138 (by decide) (Nat.le_of_ble_eq_true rfl) hb hs (B2 := 32) (B2' := 192) rfl rfl (by omega) (by omega) (fun τ_233 r_233 c_ s_ h_233 hb_ hs_ => ?_)
        replace hb := hb_
        replace hs := hs_
        clear hb_ hs_
        obtain ⟨v_233, rfl, i_233, e_233⟩ := h_233
        obtain rfl : (vProve s (iI (rr)) (iI (1))) = v_233 := e_233
        exact aw_lret dL_act_236 rfl ⟨by omega, by omega⟩ ⟨_, rfl, i_233, rfl⟩
      · rw [hv]
        refine aw_table (tgt := 218) (off := 179) dL_act_39 (by decide) (by decide) (by decide) (by decide) ?_
        refine aw_aload0 dL_act_218 ?_
        refine aw_iload5 dL_act_219 ?_
        refine aw_iload6 dL_act_221 ?_
        refine aw_iconst (v := iI (3)) dL_act_223 rfl ?_
        refine ai_irem dL_act_224 (by omega) (by omega) (by omega) (by omega) ?_
        refine ai_if_le (tgt := 232) dL_act_225 (by decide) (by omega) (by omega) (fun c_225 => absurd c_225 (by omega)) (fun c_225 => ?_)
        refine aw_iconst (v := iI (1)) dL_act_228 rfl ?_
        refine aw_goto (tgt := 233) dL_act_229 (by decide) ?_
        refine ac_SH (As := [.ref 0, .int (iI (rr)), .int (iI (1))]) (qL_prove h (iI (rr)) (iI (1)) (Or.inr (by decide))) dL_act_233 sl_L_138 (by decide) (Nat.le_of_ble_eq_true rfl) hb hs (B2 := 32) (B2' := 192) rfl rfl (by omega) (by omega) (fun τ_233 r_233 c_ s_ h_233 hb_ hs_ => ?_)
        replace hb := hb_
        replace hs := hs_
        clear hb_ hs_
        obtain ⟨v_233, rfl, i_233, e_233⟩ := h_233
        obtain rfl : (vProve s (iI (rr)) (iI (1))) = v_233 := e_233
        exact aw_lret dL_act_236 rfl ⟨by omega, by omega⟩ ⟨_, rfl, i_233, rfl⟩
    have hb : 0 + 24 ≤ 24 := by omega
    have hs : 0 + 144 ≤ 144 := by omega
    refine aw_aload0 dL_act_0 ?_
    refine aw_iconst (v := iI (0)) dL_act_1 rfl ?_
    refine ac_SH (As := [.ref 0, .int (iI (0))]) (qL_about hI _) dL_act_2 sl_L_104 (by decide) (Nat.le_of_ble_eq_true rfl) hb hs (B2 := 32) (B2' := 192) rfl rfl (by omega) (by omega) (fun τ_2 r_2 c_ s_ h_2 hb_ hs_ => ?_)
    replace hb := hb_
    replace hs := hs_
    clear hb_ hs_
    obtain ⟨v_2, rfl, i_2, e_2⟩ := h_2
    obtain rfl : (lI ((tn (stG s) : Int))) = v_2 := (((about_v (i := 0) (by omega) rfl).trans ab0).symm.trans e_2)
    refine ai_l2i dL_act_5 ?_
    refine aw_istore3 dL_act_6 (Nat.le_of_ble_eq_true rfl) rfl ?_
    refine aw_aload0 dL_act_7 ?_
    refine aw_iconst (v := iI (1)) dL_act_8 rfl ?_
    refine ac_SH (As := [.ref 0, .int (iI (1))]) (qL_about i_2 _) dL_act_9 sl_L_104 (by decide) (Nat.le_of_ble_eq_true rfl) hb hs (B2 := 40) (B2' := 240) rfl rfl (by omega) (by omega) (fun τ_9 r_9 c_ s_ h_9 hb_ hs_ => ?_)
    replace hb := hb_
    replace hs := hs_
    clear hb_ hs_
    obtain ⟨v_9, rfl, i_9, e_9⟩ := h_9
    obtain rfl : (lI ((rn (stG s) : Int))) = v_9 := (((about_v (i := 1) (by omega) rfl).trans ab1).symm.trans e_9)
    refine ai_l2i dL_act_12 ?_
    refine aw_istore4 dL_act_13 (Nat.le_of_ble_eq_true rfl) rfl ?_
    refine aw_iload4 dL_act_15 ?_
    refine ai_if_ne (tgt := 24) dL_act_17 (by decide) (by omega) (by omega) (fun c_17 => ?_) (fun c_17 => ?_)
    · refine aw_iload2 dL_act_24 ?_
      refine aw_iload4 dL_act_25 ?_
      refine ai_irem dL_act_27 (by omega) (by omega) (by omega) (by omega) ?_
      exact AW.topI (hrr.2 (by omega)).symm (J28 _ i_9 _ _ (by omega) (by omega))
    · refine aw_iconst (v := iI (0)) dL_act_20 rfl ?_
      refine aw_goto (tgt := 28) dL_act_21 (by decide) ?_
      exact AW.topI (hrr.1 (by omega)).symm (J28 _ i_9 _ _ (by omega) (by omega))
  · refine ⟨(aProve s (iI (rr)) (iI (0))), (vProve s (iI (rr)) (iI (0))), (hS.prove (iI (rr)) (iI (0)) (Or.inl (by decide))), fun {σ} hI => ?_⟩
    refine ct_of (ls0 := [some (.ref 0), some (.int (iI x)), some (.int (iI y)), none, none, none, none]) 4 (by decide +kernel) rfl rfl (ndR (ndI (ndI nd0))) rfl (Nat.le_of_ble_eq_true rfl) (fun K => ?_)
    have J28 : ∀ (τ : Sg) (h : CI τ s) (cells slots : Nat) (hb : cells + 8 ≤ 24) (hs : slots + 48 ≤ 144), AW K yL_act.cls cL_act mL_act 10 24 144 (Qm K NN (rL fun τ y0 => CI τ (aProve s (iI (rr)) (iI (0))) ∧ (vProve s (iI (rr)) (iI (0))) = y0) XF 24 144) NN none τ cells slots 28 [some (.ref 0), some (.int (iI (x))), some (.int (iI (y))), some (.int (iI ((tn (stG s) : Int)))), some (.int (iI ((rn (stG s) : Int)))), none, none] [.int (iI rr)] := by
      intro τ h cells slots hb hs
      refine aw_istore5 dL_act_28 (Nat.le_of_ble_eq_true rfl) rfl ?_
      refine aw_iload2 dL_act_30 ?_
      refine aw_iconst (v := iI (4)) dL_act_31 rfl ?_
      refine ai_idiv dL_act_32 (by omega) (by omega) (by omega) (by omega) ?_
      refine aw_istore6 dL_act_33 (Nat.le_of_ble_eq_true rfl) rfl ?_
      refine aw_iload1 dL_act_35 ?_
      refine aw_bipush (v := iI (24)) dL_act_36 (by decide) ?_
      refine ai_irem dL_act_38 (by omega) (by omega) (by omega) (by omega) ?_
      rcases hv with hv | hv | hv
      · rw [hv]
        refine aw_table (tgt := 218) (off := 179) dL_act_39 (by decide) (by decide) (by decide) (by decide) ?_
        refine aw_aload0 dL_act_218 ?_
        refine aw_iload5 dL_act_219 ?_
        refine aw_iload6 dL_act_221 ?_
        refine aw_iconst (v := iI (3)) dL_act_223 rfl ?_
        refine ai_irem dL_act_224 (by omega) (by omega) (by omega) (by omega) ?_
        refine ai_if_le (tgt := 232) dL_act_225 (by decide) (by omega) (by omega) (fun c_225 => ?_) (fun c_225 => absurd c_225 (by omega))
        refine aw_iconst (v := iI (0)) dL_act_232 rfl ?_
        refine ac_SH (As := [.ref 0, .int (iI (rr)), .int (iI (0))]) (qL_prove h (iI (rr)) (iI (0)) (Or.inl (by decide))) dL_act_233 sl_L_138 (by decide) (Nat.le_of_ble_eq_true rfl) hb hs (B2 := 32) (B2' := 192) rfl rfl (by omega) (by omega) (fun τ_233 r_233 c_ s_ h_233 hb_ hs_ => ?_)
        replace hb := hb_
        replace hs := hs_
        clear hb_ hs_
        obtain ⟨v_233, rfl, i_233, e_233⟩ := h_233
        obtain rfl : (vProve s (iI (rr)) (iI (0))) = v_233 := e_233
        exact aw_lret dL_act_236 rfl ⟨by omega, by omega⟩ ⟨_, rfl, i_233, rfl⟩
      · rw [hv]
        refine aw_table (tgt := 218) (off := 179) dL_act_39 (by decide) (by decide) (by decide) (by decide) ?_
        refine aw_aload0 dL_act_218 ?_
        refine aw_iload5 dL_act_219 ?_
        refine aw_iload6 dL_act_221 ?_
        refine aw_iconst (v := iI (3)) dL_act_223 rfl ?_
        refine ai_irem dL_act_224 (by omega) (by omega) (by omega) (by omega) ?_
        refine ai_if_le (tgt := 232) dL_act_225 (by decide) (by omega) (by omega) (fun c_225 => ?_) (fun c_225 => absurd c_225 (by omega))
        refine aw_iconst (v := iI (0)) dL_act_232 rfl ?_
        refine ac_SH (As := [.ref 0, .int (iI (rr)), .int (iI (0))]) (qL_prove h (iI (rr)) (iI (0)) (Or.inl (by decide))) dL_act_233 sl_L_138 (by decide) (Nat.le_of_ble_eq_true rfl) hb hs (B2 := 32) (B2' := 192) rfl rfl (by omega) (by omega) (fun τ_233 r_233 c_ s_ h_233 hb_ hs_ => ?_)
        replace hb := hb_
        replace hs := hs_
        clear hb_ hs_
        obtain ⟨v_233, rfl, i_233, e_233⟩ := h_233
        obtain rfl : (vProve s (iI (rr)) (iI (0))) = v_233 := e_233
        exact aw_lret dL_act_236 rfl ⟨by omega, by omega⟩ ⟨_, rfl, i_233, rfl⟩
      · rw [hv]
        refine aw_table (tgt := 218) (off := 179) dL_act_39 (by decide) (by decide) (by decide) (by decide) ?_
        refine aw_aload0 dL_act_218 ?_
        refine aw_iload5 dL_act_219 ?_
        refine aw_iload6 dL_act_221 ?_
        refine aw_iconst (v := iI (3)) dL_act_223 rfl ?_
        refine ai_irem dL_act_224 (by omega) (by omega) (by omega) (by omega) ?_
        refine ai_if_le (tgt := 232) dL_act_225 (by decide) (by omega) (by omega) (fun c_225 => ?_) (fun c_225 => absurd c_225 (by omega))
        refine aw_iconst (v := iI (0)) dL_act_232 rfl ?_
        refine ac_SH (As := [.ref 0, .int (iI (rr)), .int (iI (0))]) (qL_prove h (iI (rr)) (iI (0)) (Or.inl (by decide))) dL_act_233 sl_L_138 (by decide) (Nat.le_of_ble_eq_true rfl) hb hs (B2 := 32) (B2' := 192) rfl rfl (by omega) (by omega) (fun τ_233 r_233 c_ s_ h_233 hb_ hs_ => ?_)
        replace hb := hb_
        replace hs := hs_
        clear hb_ hs_
        obtain ⟨v_233, rfl, i_233, e_233⟩ := h_233
        obtain rfl : (vProve s (iI (rr)) (iI (0))) = v_233 := e_233
        exact aw_lret dL_act_236 rfl ⟨by omega, by omega⟩ ⟨_, rfl, i_233, rfl⟩
    have hb : 0 + 24 ≤ 24 := by omega
    have hs : 0 + 144 ≤ 144 := by omega
    refine aw_aload0 dL_act_0 ?_
    refine aw_iconst (v := iI (0)) dL_act_1 rfl ?_
    refine ac_SH (As := [.ref 0, .int (iI (0))]) (qL_about hI _) dL_act_2 sl_L_104 (by decide) (Nat.le_of_ble_eq_true rfl) hb hs (B2 := 32) (B2' := 192) rfl rfl (by omega) (by omega) (fun τ_2 r_2 c_ s_ h_2 hb_ hs_ => ?_)
    replace hb := hb_
    replace hs := hs_
    clear hb_ hs_
    obtain ⟨v_2, rfl, i_2, e_2⟩ := h_2
    obtain rfl : (lI ((tn (stG s) : Int))) = v_2 := (((about_v (i := 0) (by omega) rfl).trans ab0).symm.trans e_2)
    refine ai_l2i dL_act_5 ?_
    refine aw_istore3 dL_act_6 (Nat.le_of_ble_eq_true rfl) rfl ?_
    refine aw_aload0 dL_act_7 ?_
    refine aw_iconst (v := iI (1)) dL_act_8 rfl ?_
    refine ac_SH (As := [.ref 0, .int (iI (1))]) (qL_about i_2 _) dL_act_9 sl_L_104 (by decide) (Nat.le_of_ble_eq_true rfl) hb hs (B2 := 40) (B2' := 240) rfl rfl (by omega) (by omega) (fun τ_9 r_9 c_ s_ h_9 hb_ hs_ => ?_)
    replace hb := hb_
    replace hs := hs_
    clear hb_ hs_
    obtain ⟨v_9, rfl, i_9, e_9⟩ := h_9
    obtain rfl : (lI ((rn (stG s) : Int))) = v_9 := (((about_v (i := 1) (by omega) rfl).trans ab1).symm.trans e_9)
    refine ai_l2i dL_act_12 ?_
    refine aw_istore4 dL_act_13 (Nat.le_of_ble_eq_true rfl) rfl ?_
    refine aw_iload4 dL_act_15 ?_
    refine ai_if_ne (tgt := 24) dL_act_17 (by decide) (by omega) (by omega) (fun c_17 => ?_) (fun c_17 => ?_)
    · refine aw_iload2 dL_act_24 ?_
      refine aw_iload4 dL_act_25 ?_
      refine ai_irem dL_act_27 (by omega) (by omega) (by omega) (by omega) ?_
      exact AW.topI (hrr.2 (by omega)).symm (J28 _ i_9 _ _ (by omega) (by omega))
    · refine aw_iconst (v := iI (0)) dL_act_20 rfl ?_
      refine aw_goto (tgt := 28) dL_act_21 (by decide) ?_
      exact AW.topI (hrr.1 (by omega)).symm (J28 _ i_9 _ _ (by omega) (by omega))
  · refine ⟨(aOutside s (iI ((((y / 4) % 46) - 20)))), (vOutside s (iI ((((y / 4) % 46) - 20)))), (hS.outside (iI ((((y / 4) % 46) - 20)))), fun {σ} hI => ?_⟩
    refine ct_of (ls0 := [some (.ref 0), some (.int (iI x)), some (.int (iI y)), none, none, none, none]) 4 (by decide +kernel) rfl rfl (ndR (ndI (ndI nd0))) rfl (Nat.le_of_ble_eq_true rfl) (fun K => ?_)
    have J28 : ∀ (τ : Sg) (h : CI τ s) (cells slots : Nat) (hb : cells + 8 ≤ 24) (hs : slots + 48 ≤ 144), AW K yL_act.cls cL_act mL_act 10 24 144 (Qm K NN (rL fun τ y0 => CI τ (aOutside s (iI ((((y / 4) % 46) - 20)))) ∧ (vOutside s (iI ((((y / 4) % 46) - 20)))) = y0) XF 24 144) NN none τ cells slots 28 [some (.ref 0), some (.int (iI (x))), some (.int (iI (y))), some (.int (iI ((tn (stG s) : Int)))), some (.int (iI ((rn (stG s) : Int)))), none, none] [.int (iI rr)] := by
      intro τ h cells slots hb hs
      refine aw_istore5 dL_act_28 (Nat.le_of_ble_eq_true rfl) rfl ?_
      refine aw_iload2 dL_act_30 ?_
      refine aw_iconst (v := iI (4)) dL_act_31 rfl ?_
      refine ai_idiv dL_act_32 (by omega) (by omega) (by omega) (by omega) ?_
      refine aw_istore6 dL_act_33 (Nat.le_of_ble_eq_true rfl) rfl ?_
      refine aw_iload1 dL_act_35 ?_
      refine aw_bipush (v := iI (24)) dL_act_36 (by decide) ?_
      refine ai_irem dL_act_38 (by omega) (by omega) (by omega) (by omega) ?_
      rcases hv with hv | hv
      · rw [hv]
        refine aw_table (tgt := 237) (off := 198) dL_act_39 (by decide) (by decide) (by decide) (by decide) ?_
        refine aw_aload0 dL_act_237 ?_
        refine aw_iload6 dL_act_238 ?_
        refine aw_bipush (v := iI (46)) dL_act_240 (by decide) ?_
        refine ai_irem dL_act_242 (by omega) (by omega) (by omega) (by omega) ?_
        refine aw_bipush (v := iI (20)) dL_act_243 (by decide) ?_
        refine ai_isub dL_act_245 ?_
        refine ac_SH (As := [.ref 0, .int (iI ((((y / 4) % 46) - 20)))]) (qL_outside h (iI ((((y / 4) % 46) - 20)))) dL_act_246 sl_L_141 (by decide) (Nat.le_of_ble_eq_true rfl) hb hs (B2 := 32) (B2' := 192) rfl rfl (by omega) (by omega) (fun τ_246 r_246 c_ s_ h_246 hb_ hs_ => ?_)
        replace hb := hb_
        replace hs := hs_
        clear hb_ hs_
        obtain ⟨v_246, rfl, i_246, e_246⟩ := h_246
        obtain rfl : (vOutside s (iI ((((y / 4) % 46) - 20)))) = v_246 := e_246
        exact aw_lret dL_act_249 rfl ⟨by omega, by omega⟩ ⟨_, rfl, i_246, rfl⟩
      · rw [hv]
        refine aw_table (tgt := 237) (off := 198) dL_act_39 (by decide) (by decide) (by decide) (by decide) ?_
        refine aw_aload0 dL_act_237 ?_
        refine aw_iload6 dL_act_238 ?_
        refine aw_bipush (v := iI (46)) dL_act_240 (by decide) ?_
        refine ai_irem dL_act_242 (by omega) (by omega) (by omega) (by omega) ?_
        refine aw_bipush (v := iI (20)) dL_act_243 (by decide) ?_
        refine ai_isub dL_act_245 ?_
        refine ac_SH (As := [.ref 0, .int (iI ((((y / 4) % 46) - 20)))]) (qL_outside h (iI ((((y / 4) % 46) - 20)))) dL_act_246 sl_L_141 (by decide) (Nat.le_of_ble_eq_true rfl) hb hs (B2 := 32) (B2' := 192) rfl rfl (by omega) (by omega) (fun τ_246 r_246 c_ s_ h_246 hb_ hs_ => ?_)
        replace hb := hb_
        replace hs := hs_
        clear hb_ hs_
        obtain ⟨v_246, rfl, i_246, e_246⟩ := h_246
        obtain rfl : (vOutside s (iI ((((y / 4) % 46) - 20)))) = v_246 := e_246
        exact aw_lret dL_act_249 rfl ⟨by omega, by omega⟩ ⟨_, rfl, i_246, rfl⟩
    have hb : 0 + 24 ≤ 24 := by omega
    have hs : 0 + 144 ≤ 144 := by omega
    refine aw_aload0 dL_act_0 ?_
    refine aw_iconst (v := iI (0)) dL_act_1 rfl ?_
    refine ac_SH (As := [.ref 0, .int (iI (0))]) (qL_about hI _) dL_act_2 sl_L_104 (by decide) (Nat.le_of_ble_eq_true rfl) hb hs (B2 := 32) (B2' := 192) rfl rfl (by omega) (by omega) (fun τ_2 r_2 c_ s_ h_2 hb_ hs_ => ?_)
    replace hb := hb_
    replace hs := hs_
    clear hb_ hs_
    obtain ⟨v_2, rfl, i_2, e_2⟩ := h_2
    obtain rfl : (lI ((tn (stG s) : Int))) = v_2 := (((about_v (i := 0) (by omega) rfl).trans ab0).symm.trans e_2)
    refine ai_l2i dL_act_5 ?_
    refine aw_istore3 dL_act_6 (Nat.le_of_ble_eq_true rfl) rfl ?_
    refine aw_aload0 dL_act_7 ?_
    refine aw_iconst (v := iI (1)) dL_act_8 rfl ?_
    refine ac_SH (As := [.ref 0, .int (iI (1))]) (qL_about i_2 _) dL_act_9 sl_L_104 (by decide) (Nat.le_of_ble_eq_true rfl) hb hs (B2 := 40) (B2' := 240) rfl rfl (by omega) (by omega) (fun τ_9 r_9 c_ s_ h_9 hb_ hs_ => ?_)
    replace hb := hb_
    replace hs := hs_
    clear hb_ hs_
    obtain ⟨v_9, rfl, i_9, e_9⟩ := h_9
    obtain rfl : (lI ((rn (stG s) : Int))) = v_9 := (((about_v (i := 1) (by omega) rfl).trans ab1).symm.trans e_9)
    refine ai_l2i dL_act_12 ?_
    refine aw_istore4 dL_act_13 (Nat.le_of_ble_eq_true rfl) rfl ?_
    refine aw_iload4 dL_act_15 ?_
    refine ai_if_ne (tgt := 24) dL_act_17 (by decide) (by omega) (by omega) (fun c_17 => ?_) (fun c_17 => ?_)
    · refine aw_iload2 dL_act_24 ?_
      refine aw_iload4 dL_act_25 ?_
      refine ai_irem dL_act_27 (by omega) (by omega) (by omega) (by omega) ?_
      exact AW.topI (hrr.2 (by omega)).symm (J28 _ i_9 _ _ (by omega) (by omega))
    · refine aw_iconst (v := iI (0)) dL_act_20 rfl ?_
      refine aw_goto (tgt := 28) dL_act_21 (by decide) ?_
      exact AW.topI (hrr.1 (by omega)).symm (J28 _ i_9 _ _ (by omega) (by omega))
  · refine ⟨(aPay s (iI (((y / 4) % 6)))), (vPay s (iI (((y / 4) % 6)))), (hS.pay (iI (((y / 4) % 6)))), fun {σ} hI => ?_⟩
    refine ct_of (ls0 := [some (.ref 0), some (.int (iI x)), some (.int (iI y)), none, none, none, none]) 4 (by decide +kernel) rfl rfl (ndR (ndI (ndI nd0))) rfl (Nat.le_of_ble_eq_true rfl) (fun K => ?_)
    have J28 : ∀ (τ : Sg) (h : CI τ s) (cells slots : Nat) (hb : cells + 8 ≤ 24) (hs : slots + 48 ≤ 144), AW K yL_act.cls cL_act mL_act 10 24 144 (Qm K NN (rL fun τ y0 => CI τ (aPay s (iI (((y / 4) % 6)))) ∧ (vPay s (iI (((y / 4) % 6)))) = y0) XF 24 144) NN none τ cells slots 28 [some (.ref 0), some (.int (iI (x))), some (.int (iI (y))), some (.int (iI ((tn (stG s) : Int)))), some (.int (iI ((rn (stG s) : Int)))), none, none] [.int (iI rr)] := by
      intro τ h cells slots hb hs
      refine aw_istore5 dL_act_28 (Nat.le_of_ble_eq_true rfl) rfl ?_
      refine aw_iload2 dL_act_30 ?_
      refine aw_iconst (v := iI (4)) dL_act_31 rfl ?_
      refine ai_idiv dL_act_32 (by omega) (by omega) (by omega) (by omega) ?_
      refine aw_istore6 dL_act_33 (Nat.le_of_ble_eq_true rfl) rfl ?_
      refine aw_iload1 dL_act_35 ?_
      refine aw_bipush (v := iI (24)) dL_act_36 (by decide) ?_
      refine ai_irem dL_act_38 (by omega) (by omega) (by omega) (by omega) ?_
      rw [hv]
      refine aw_table (tgt := 250) (off := 211) dL_act_39 (by decide) (by decide) (by decide) (by decide) ?_
      refine aw_aload0 dL_act_250 ?_
      refine aw_iload6 dL_act_251 ?_
      refine aw_bipush (v := iI (6)) dL_act_253 (by decide) ?_
      refine ai_irem dL_act_255 (by omega) (by omega) (by omega) (by omega) ?_
      refine ac_SH (As := [.ref 0, .int (iI (((y / 4) % 6)))]) (qL_pay h (iI (((y / 4) % 6)))) dL_act_256 sl_L_143 (by decide) (Nat.le_of_ble_eq_true rfl) hb hs (B2 := 32) (B2' := 192) rfl rfl (by omega) (by omega) (fun τ_256 r_256 c_ s_ h_256 hb_ hs_ => ?_)
      replace hb := hb_
      replace hs := hs_
      clear hb_ hs_
      obtain ⟨v_256, rfl, i_256, e_256⟩ := h_256
      obtain rfl : (vPay s (iI (((y / 4) % 6)))) = v_256 := e_256
      exact aw_lret dL_act_259 rfl ⟨by omega, by omega⟩ ⟨_, rfl, i_256, rfl⟩
    have hb : 0 + 24 ≤ 24 := by omega
    have hs : 0 + 144 ≤ 144 := by omega
    refine aw_aload0 dL_act_0 ?_
    refine aw_iconst (v := iI (0)) dL_act_1 rfl ?_
    refine ac_SH (As := [.ref 0, .int (iI (0))]) (qL_about hI _) dL_act_2 sl_L_104 (by decide) (Nat.le_of_ble_eq_true rfl) hb hs (B2 := 32) (B2' := 192) rfl rfl (by omega) (by omega) (fun τ_2 r_2 c_ s_ h_2 hb_ hs_ => ?_)
    replace hb := hb_
    replace hs := hs_
    clear hb_ hs_
    obtain ⟨v_2, rfl, i_2, e_2⟩ := h_2
    obtain rfl : (lI ((tn (stG s) : Int))) = v_2 := (((about_v (i := 0) (by omega) rfl).trans ab0).symm.trans e_2)
    refine ai_l2i dL_act_5 ?_
    refine aw_istore3 dL_act_6 (Nat.le_of_ble_eq_true rfl) rfl ?_
    refine aw_aload0 dL_act_7 ?_
    refine aw_iconst (v := iI (1)) dL_act_8 rfl ?_
    refine ac_SH (As := [.ref 0, .int (iI (1))]) (qL_about i_2 _) dL_act_9 sl_L_104 (by decide) (Nat.le_of_ble_eq_true rfl) hb hs (B2 := 40) (B2' := 240) rfl rfl (by omega) (by omega) (fun τ_9 r_9 c_ s_ h_9 hb_ hs_ => ?_)
    replace hb := hb_
    replace hs := hs_
    clear hb_ hs_
    obtain ⟨v_9, rfl, i_9, e_9⟩ := h_9
    obtain rfl : (lI ((rn (stG s) : Int))) = v_9 := (((about_v (i := 1) (by omega) rfl).trans ab1).symm.trans e_9)
    refine ai_l2i dL_act_12 ?_
    refine aw_istore4 dL_act_13 (Nat.le_of_ble_eq_true rfl) rfl ?_
    refine aw_iload4 dL_act_15 ?_
    refine ai_if_ne (tgt := 24) dL_act_17 (by decide) (by omega) (by omega) (fun c_17 => ?_) (fun c_17 => ?_)
    · refine aw_iload2 dL_act_24 ?_
      refine aw_iload4 dL_act_25 ?_
      refine ai_irem dL_act_27 (by omega) (by omega) (by omega) (by omega) ?_
      exact AW.topI (hrr.2 (by omega)).symm (J28 _ i_9 _ _ (by omega) (by omega))
    · refine aw_iconst (v := iI (0)) dL_act_20 rfl ?_
      refine aw_goto (tgt := 28) dL_act_21 (by decide) ?_
      exact AW.topI (hrr.1 (by omega)).symm (J28 _ i_9 _ _ (by omega) (by omega))
  · refine ⟨(aUndo s), (vUndo s), hS.undo, fun {σ} hI => ?_⟩
    refine ct_of (ls0 := [some (.ref 0), some (.int (iI x)), some (.int (iI y)), none, none, none, none]) 4 (by decide +kernel) rfl rfl (ndR (ndI (ndI nd0))) rfl (Nat.le_of_ble_eq_true rfl) (fun K => ?_)
    have J28 : ∀ (τ : Sg) (h : CI τ s) (cells slots : Nat) (hb : cells + 8 ≤ 24) (hs : slots + 48 ≤ 144), AW K yL_act.cls cL_act mL_act 10 24 144 (Qm K NN (rL fun τ y0 => CI τ (aUndo s) ∧ (vUndo s) = y0) XF 24 144) NN none τ cells slots 28 [some (.ref 0), some (.int (iI (x))), some (.int (iI (y))), some (.int (iI ((tn (stG s) : Int)))), some (.int (iI ((rn (stG s) : Int)))), none, none] [.int (iI rr)] := by
      intro τ h cells slots hb hs
      refine aw_istore5 dL_act_28 (Nat.le_of_ble_eq_true rfl) rfl ?_
      refine aw_iload2 dL_act_30 ?_
      refine aw_iconst (v := iI (4)) dL_act_31 rfl ?_
      refine ai_idiv dL_act_32 (by omega) (by omega) (by omega) (by omega) ?_
      refine aw_istore6 dL_act_33 (Nat.le_of_ble_eq_true rfl) rfl ?_
      refine aw_iload1 dL_act_35 ?_
      refine aw_bipush (v := iI (24)) dL_act_36 (by decide) ?_
      refine ai_irem dL_act_38 (by omega) (by omega) (by omega) (by omega) ?_
      rw [hv]
      refine aw_table (tgt := 260) (off := 221) dL_act_39 (by decide) (by decide) (by decide) (by decide) ?_
      refine aw_aload0 dL_act_260 ?_
      refine ac_SH (As := [.ref 0]) (qL_undo h ) dL_act_261 sl_L_184 (by decide) (Nat.le_of_ble_eq_true rfl) hb hs (B2 := 32) (B2' := 192) rfl rfl (by omega) (by omega) (fun τ_261 r_261 c_ s_ h_261 hb_ hs_ => ?_)
      replace hb := hb_
      replace hs := hs_
      clear hb_ hs_
      obtain ⟨v_261, rfl, i_261, e_261⟩ := h_261
      obtain rfl : (vUndo s) = v_261 := e_261
      exact aw_lret dL_act_264 rfl ⟨by omega, by omega⟩ ⟨_, rfl, i_261, rfl⟩
    have hb : 0 + 24 ≤ 24 := by omega
    have hs : 0 + 144 ≤ 144 := by omega
    refine aw_aload0 dL_act_0 ?_
    refine aw_iconst (v := iI (0)) dL_act_1 rfl ?_
    refine ac_SH (As := [.ref 0, .int (iI (0))]) (qL_about hI _) dL_act_2 sl_L_104 (by decide) (Nat.le_of_ble_eq_true rfl) hb hs (B2 := 32) (B2' := 192) rfl rfl (by omega) (by omega) (fun τ_2 r_2 c_ s_ h_2 hb_ hs_ => ?_)
    replace hb := hb_
    replace hs := hs_
    clear hb_ hs_
    obtain ⟨v_2, rfl, i_2, e_2⟩ := h_2
    obtain rfl : (lI ((tn (stG s) : Int))) = v_2 := (((about_v (i := 0) (by omega) rfl).trans ab0).symm.trans e_2)
    refine ai_l2i dL_act_5 ?_
    refine aw_istore3 dL_act_6 (Nat.le_of_ble_eq_true rfl) rfl ?_
    refine aw_aload0 dL_act_7 ?_
    refine aw_iconst (v := iI (1)) dL_act_8 rfl ?_
    refine ac_SH (As := [.ref 0, .int (iI (1))]) (qL_about i_2 _) dL_act_9 sl_L_104 (by decide) (Nat.le_of_ble_eq_true rfl) hb hs (B2 := 40) (B2' := 240) rfl rfl (by omega) (by omega) (fun τ_9 r_9 c_ s_ h_9 hb_ hs_ => ?_)
    replace hb := hb_
    replace hs := hs_
    clear hb_ hs_
    obtain ⟨v_9, rfl, i_9, e_9⟩ := h_9
    obtain rfl : (lI ((rn (stG s) : Int))) = v_9 := (((about_v (i := 1) (by omega) rfl).trans ab1).symm.trans e_9)
    refine ai_l2i dL_act_12 ?_
    refine aw_istore4 dL_act_13 (Nat.le_of_ble_eq_true rfl) rfl ?_
    refine aw_iload4 dL_act_15 ?_
    refine ai_if_ne (tgt := 24) dL_act_17 (by decide) (by omega) (by omega) (fun c_17 => ?_) (fun c_17 => ?_)
    · refine aw_iload2 dL_act_24 ?_
      refine aw_iload4 dL_act_25 ?_
      refine ai_irem dL_act_27 (by omega) (by omega) (by omega) (by omega) ?_
      exact AW.topI (hrr.2 (by omega)).symm (J28 _ i_9 _ _ (by omega) (by omega))
    · refine aw_iconst (v := iI (0)) dL_act_20 rfl ?_
      refine aw_goto (tgt := 28) dL_act_21 (by decide) ?_
      exact AW.topI (hrr.1 (by omega)).symm (J28 _ i_9 _ _ (by omega) (by omega))
  · refine ⟨(aSave s (iI ((((y / 4) / 2) % 2)))), (vSave s (iI ((((y / 4) / 2) % 2)))), (hS.save (iI ((((y / 4) / 2) % 2)))), fun {σ} hI => ?_⟩
    refine ct_of (ls0 := [some (.ref 0), some (.int (iI x)), some (.int (iI y)), none, none, none, none]) 4 (by decide +kernel) rfl rfl (ndR (ndI (ndI nd0))) rfl (Nat.le_of_ble_eq_true rfl) (fun K => ?_)
    have J28 : ∀ (τ : Sg) (h : CI τ s) (cells slots : Nat) (hb : cells + 8 ≤ 24) (hs : slots + 48 ≤ 144), AW K yL_act.cls cL_act mL_act 10 24 144 (Qm K NN (rL fun τ y0 => CI τ (aSave s (iI ((((y / 4) / 2) % 2)))) ∧ (vSave s (iI ((((y / 4) / 2) % 2)))) = y0) XF 24 144) NN none τ cells slots 28 [some (.ref 0), some (.int (iI (x))), some (.int (iI (y))), some (.int (iI ((tn (stG s) : Int)))), some (.int (iI ((rn (stG s) : Int)))), none, none] [.int (iI rr)] := by
      intro τ h cells slots hb hs
      refine aw_istore5 dL_act_28 (Nat.le_of_ble_eq_true rfl) rfl ?_
      refine aw_iload2 dL_act_30 ?_
      refine aw_iconst (v := iI (4)) dL_act_31 rfl ?_
      refine ai_idiv dL_act_32 (by omega) (by omega) (by omega) (by omega) ?_
      refine aw_istore6 dL_act_33 (Nat.le_of_ble_eq_true rfl) rfl ?_
      refine aw_iload1 dL_act_35 ?_
      refine aw_bipush (v := iI (24)) dL_act_36 (by decide) ?_
      refine ai_irem dL_act_38 (by omega) (by omega) (by omega) (by omega) ?_
      rw [hv]
      refine aw_table (tgt := 265) (off := 226) dL_act_39 (by decide) (by decide) (by decide) (by decide) ?_
      refine aw_iload6 dL_act_265 ?_
      refine aw_iconst (v := iI (2)) dL_act_267 rfl ?_
      refine ai_irem dL_act_268 (by omega) (by omega) (by omega) (by omega) ?_
      refine ai_if_ne (tgt := 285) dL_act_269 (by decide) (by omega) (by omega) (fun c_269 => absurd c_269 (by omega)) (fun c_269 => ?_)
      refine aw_aload0 dL_act_272 ?_
      refine aw_iload6 dL_act_273 ?_
      refine aw_iconst (v := iI (2)) dL_act_275 rfl ?_
      refine ai_idiv dL_act_276 (by omega) (by omega) (by omega) (by omega) ?_
      refine aw_iconst (v := iI (1)) dL_act_277 rfl ?_
      refine aw_iand7 (v := iI (((y / 4) / 2) % 2)) dL_act_278 (iand_1 (by omega) (by omega)) ?_
      refine ac_SH (As := [.ref 0, .int (iI ((((y / 4) / 2) % 2)))]) (qL_save h (iI ((((y / 4) / 2) % 2)))) dL_act_279 sl_L_162 (by decide) (Nat.le_of_ble_eq_true rfl) hb hs (B2 := 32) (B2' := 192) rfl rfl (by omega) (by omega) (fun τ_279 r_279 c_ s_ h_279 hb_ hs_ => ?_)
      replace hb := hb_
      replace hs := hs_
      clear hb_ hs_
      obtain ⟨v_279, rfl, i_279, e_279⟩ := h_279
      obtain rfl : (vSave s (iI ((((y / 4) / 2) % 2)))) = v_279 := e_279
      refine aw_goto (tgt := 295) dL_act_282 (by decide) ?_
      exact aw_lret dL_act_295 rfl ⟨by omega, by omega⟩ ⟨_, rfl, i_279, rfl⟩
    have hb : 0 + 24 ≤ 24 := by omega
    have hs : 0 + 144 ≤ 144 := by omega
    refine aw_aload0 dL_act_0 ?_
    refine aw_iconst (v := iI (0)) dL_act_1 rfl ?_
    refine ac_SH (As := [.ref 0, .int (iI (0))]) (qL_about hI _) dL_act_2 sl_L_104 (by decide) (Nat.le_of_ble_eq_true rfl) hb hs (B2 := 32) (B2' := 192) rfl rfl (by omega) (by omega) (fun τ_2 r_2 c_ s_ h_2 hb_ hs_ => ?_)
    replace hb := hb_
    replace hs := hs_
    clear hb_ hs_
    obtain ⟨v_2, rfl, i_2, e_2⟩ := h_2
    obtain rfl : (lI ((tn (stG s) : Int))) = v_2 := (((about_v (i := 0) (by omega) rfl).trans ab0).symm.trans e_2)
    refine ai_l2i dL_act_5 ?_
    refine aw_istore3 dL_act_6 (Nat.le_of_ble_eq_true rfl) rfl ?_
    refine aw_aload0 dL_act_7 ?_
    refine aw_iconst (v := iI (1)) dL_act_8 rfl ?_
    refine ac_SH (As := [.ref 0, .int (iI (1))]) (qL_about i_2 _) dL_act_9 sl_L_104 (by decide) (Nat.le_of_ble_eq_true rfl) hb hs (B2 := 40) (B2' := 240) rfl rfl (by omega) (by omega) (fun τ_9 r_9 c_ s_ h_9 hb_ hs_ => ?_)
    replace hb := hb_
    replace hs := hs_
    clear hb_ hs_
    obtain ⟨v_9, rfl, i_9, e_9⟩ := h_9
    obtain rfl : (lI ((rn (stG s) : Int))) = v_9 := (((about_v (i := 1) (by omega) rfl).trans ab1).symm.trans e_9)
    refine ai_l2i dL_act_12 ?_
    refine aw_istore4 dL_act_13 (Nat.le_of_ble_eq_true rfl) rfl ?_
    refine aw_iload4 dL_act_15 ?_
    refine ai_if_ne (tgt := 24) dL_act_17 (by decide) (by omega) (by omega) (fun c_17 => ?_) (fun c_17 => ?_)
    · refine aw_iload2 dL_act_24 ?_
      refine aw_iload4 dL_act_25 ?_
      refine ai_irem dL_act_27 (by omega) (by omega) (by omega) (by omega) ?_
      exact AW.topI (hrr.2 (by omega)).symm (J28 _ i_9 _ _ (by omega) (by omega))
    · refine aw_iconst (v := iI (0)) dL_act_20 rfl ?_
      refine aw_goto (tgt := 28) dL_act_21 (by decide) ?_
      exact AW.topI (hrr.1 (by omega)).symm (J28 _ i_9 _ _ (by omega) (by omega))
  · refine ⟨(aRestore s (iI ((((y / 4) / 2) % 2)))), (vRestore s (iI ((((y / 4) / 2) % 2)))), (hS.restore (iI ((((y / 4) / 2) % 2)))), fun {σ} hI => ?_⟩
    refine ct_of (ls0 := [some (.ref 0), some (.int (iI x)), some (.int (iI y)), none, none, none, none]) 4 (by decide +kernel) rfl rfl (ndR (ndI (ndI nd0))) rfl (Nat.le_of_ble_eq_true rfl) (fun K => ?_)
    have J28 : ∀ (τ : Sg) (h : CI τ s) (cells slots : Nat) (hb : cells + 8 ≤ 24) (hs : slots + 48 ≤ 144), AW K yL_act.cls cL_act mL_act 10 24 144 (Qm K NN (rL fun τ y0 => CI τ (aRestore s (iI ((((y / 4) / 2) % 2)))) ∧ (vRestore s (iI ((((y / 4) / 2) % 2)))) = y0) XF 24 144) NN none τ cells slots 28 [some (.ref 0), some (.int (iI (x))), some (.int (iI (y))), some (.int (iI ((tn (stG s) : Int)))), some (.int (iI ((rn (stG s) : Int)))), none, none] [.int (iI rr)] := by
      intro τ h cells slots hb hs
      refine aw_istore5 dL_act_28 (Nat.le_of_ble_eq_true rfl) rfl ?_
      refine aw_iload2 dL_act_30 ?_
      refine aw_iconst (v := iI (4)) dL_act_31 rfl ?_
      refine ai_idiv dL_act_32 (by omega) (by omega) (by omega) (by omega) ?_
      refine aw_istore6 dL_act_33 (Nat.le_of_ble_eq_true rfl) rfl ?_
      refine aw_iload1 dL_act_35 ?_
      refine aw_bipush (v := iI (24)) dL_act_36 (by decide) ?_
      refine ai_irem dL_act_38 (by omega) (by omega) (by omega) (by omega) ?_
      rw [hv]
      refine aw_table (tgt := 265) (off := 226) dL_act_39 (by decide) (by decide) (by decide) (by decide) ?_
      refine aw_iload6 dL_act_265 ?_
      refine aw_iconst (v := iI (2)) dL_act_267 rfl ?_
      refine ai_irem dL_act_268 (by omega) (by omega) (by omega) (by omega) ?_
      refine ai_if_ne (tgt := 285) dL_act_269 (by decide) (by omega) (by omega) (fun c_269 => ?_) (fun c_269 => absurd c_269 (by omega))
      refine aw_aload0 dL_act_285 ?_
      refine aw_iload6 dL_act_286 ?_
      refine aw_iconst (v := iI (2)) dL_act_288 rfl ?_
      refine ai_idiv dL_act_289 (by omega) (by omega) (by omega) (by omega) ?_
      refine aw_iconst (v := iI (1)) dL_act_290 rfl ?_
      refine aw_iand7 (v := iI (((y / 4) / 2) % 2)) dL_act_291 (iand_1 (by omega) (by omega)) ?_
      refine ac_SH (As := [.ref 0, .int (iI ((((y / 4) / 2) % 2)))]) (qL_restore h (iI ((((y / 4) / 2) % 2)))) dL_act_292 sl_L_164 (by decide) (Nat.le_of_ble_eq_true rfl) hb hs (B2 := 32) (B2' := 192) rfl rfl (by omega) (by omega) (fun τ_292 r_292 c_ s_ h_292 hb_ hs_ => ?_)
      replace hb := hb_
      replace hs := hs_
      clear hb_ hs_
      obtain ⟨v_292, rfl, i_292, e_292⟩ := h_292
      obtain rfl : (vRestore s (iI ((((y / 4) / 2) % 2)))) = v_292 := e_292
      exact aw_lret dL_act_295 rfl ⟨by omega, by omega⟩ ⟨_, rfl, i_292, rfl⟩
    have hb : 0 + 24 ≤ 24 := by omega
    have hs : 0 + 144 ≤ 144 := by omega
    refine aw_aload0 dL_act_0 ?_
    refine aw_iconst (v := iI (0)) dL_act_1 rfl ?_
    refine ac_SH (As := [.ref 0, .int (iI (0))]) (qL_about hI _) dL_act_2 sl_L_104 (by decide) (Nat.le_of_ble_eq_true rfl) hb hs (B2 := 32) (B2' := 192) rfl rfl (by omega) (by omega) (fun τ_2 r_2 c_ s_ h_2 hb_ hs_ => ?_)
    replace hb := hb_
    replace hs := hs_
    clear hb_ hs_
    obtain ⟨v_2, rfl, i_2, e_2⟩ := h_2
    obtain rfl : (lI ((tn (stG s) : Int))) = v_2 := (((about_v (i := 0) (by omega) rfl).trans ab0).symm.trans e_2)
    refine ai_l2i dL_act_5 ?_
    refine aw_istore3 dL_act_6 (Nat.le_of_ble_eq_true rfl) rfl ?_
    refine aw_aload0 dL_act_7 ?_
    refine aw_iconst (v := iI (1)) dL_act_8 rfl ?_
    refine ac_SH (As := [.ref 0, .int (iI (1))]) (qL_about i_2 _) dL_act_9 sl_L_104 (by decide) (Nat.le_of_ble_eq_true rfl) hb hs (B2 := 40) (B2' := 240) rfl rfl (by omega) (by omega) (fun τ_9 r_9 c_ s_ h_9 hb_ hs_ => ?_)
    replace hb := hb_
    replace hs := hs_
    clear hb_ hs_
    obtain ⟨v_9, rfl, i_9, e_9⟩ := h_9
    obtain rfl : (lI ((rn (stG s) : Int))) = v_9 := (((about_v (i := 1) (by omega) rfl).trans ab1).symm.trans e_9)
    refine ai_l2i dL_act_12 ?_
    refine aw_istore4 dL_act_13 (Nat.le_of_ble_eq_true rfl) rfl ?_
    refine aw_iload4 dL_act_15 ?_
    refine ai_if_ne (tgt := 24) dL_act_17 (by decide) (by omega) (by omega) (fun c_17 => ?_) (fun c_17 => ?_)
    · refine aw_iload2 dL_act_24 ?_
      refine aw_iload4 dL_act_25 ?_
      refine ai_irem dL_act_27 (by omega) (by omega) (by omega) (by omega) ?_
      exact AW.topI (hrr.2 (by omega)).symm (J28 _ i_9 _ _ (by omega) (by omega))
    · refine aw_iconst (v := iI (0)) dL_act_20 rfl ?_
      refine aw_goto (tgt := 28) dL_act_21 (by decide) ?_
      exact AW.topI (hrr.1 (by omega)).symm (J28 _ i_9 _ _ (by omega) (by omega))
  · refine ⟨(aPass s (iI ((1 + ((y / 4) % 5))))), (vPass s (iI ((1 + ((y / 4) % 5))))), (hS.pass (iI ((1 + ((y / 4) % 5))))), fun {σ} hI => ?_⟩
    refine ct_of (ls0 := [some (.ref 0), some (.int (iI x)), some (.int (iI y)), none, none, none, none]) 4 (by decide +kernel) rfl rfl (ndR (ndI (ndI nd0))) rfl (Nat.le_of_ble_eq_true rfl) (fun K => ?_)
    have J28 : ∀ (τ : Sg) (h : CI τ s) (cells slots : Nat) (hb : cells + 8 ≤ 24) (hs : slots + 48 ≤ 144), AW K yL_act.cls cL_act mL_act 10 24 144 (Qm K NN (rL fun τ y0 => CI τ (aPass s (iI ((1 + ((y / 4) % 5))))) ∧ (vPass s (iI ((1 + ((y / 4) % 5))))) = y0) XF 24 144) NN none τ cells slots 28 [some (.ref 0), some (.int (iI (x))), some (.int (iI (y))), some (.int (iI ((tn (stG s) : Int)))), some (.int (iI ((rn (stG s) : Int)))), none, none] [.int (iI rr)] := by
      intro τ h cells slots hb hs
      refine aw_istore5 dL_act_28 (Nat.le_of_ble_eq_true rfl) rfl ?_
      refine aw_iload2 dL_act_30 ?_
      refine aw_iconst (v := iI (4)) dL_act_31 rfl ?_
      refine ai_idiv dL_act_32 (by omega) (by omega) (by omega) (by omega) ?_
      refine aw_istore6 dL_act_33 (Nat.le_of_ble_eq_true rfl) rfl ?_
      refine aw_iload1 dL_act_35 ?_
      refine aw_bipush (v := iI (24)) dL_act_36 (by decide) ?_
      refine ai_irem dL_act_38 (by omega) (by omega) (by omega) (by omega) ?_
      rcases hv with hv | hv | hv | hv | hv | hv | hv | hv
      · rw [hv]
        refine aw_tableO (tgt := 296) dL_act_39 (by decide) (by decide) ?_
        refine aw_aload0 dL_act_296 ?_
        refine aw_iconst (v := iI (1)) dL_act_297 rfl ?_
        refine aw_iload6 dL_act_298 ?_
        refine aw_iconst (v := iI (5)) dL_act_300 rfl ?_
        refine ai_irem dL_act_301 (by omega) (by omega) (by omega) (by omega) ?_
        refine ai_iadd dL_act_302 ?_
        refine ac_SH (As := [.ref 0, .int (iI ((1 + ((y / 4) % 5))))]) (qL_pass h (iI ((1 + ((y / 4) % 5))))) dL_act_303 sl_L_145 (by decide) (Nat.le_of_ble_eq_true rfl) hb hs (B2 := 32) (B2' := 192) rfl rfl (by omega) (by omega) (fun τ_303 r_303 c_ s_ h_303 hb_ hs_ => ?_)
        replace hb := hb_
        replace hs := hs_
        clear hb_ hs_
        obtain ⟨v_303, rfl, i_303, e_303⟩ := h_303
        obtain rfl : (vPass s (iI ((1 + ((y / 4) % 5))))) = v_303 := e_303
        exact aw_lret dL_act_306 rfl ⟨by omega, by omega⟩ ⟨_, rfl, i_303, rfl⟩
      · rw [hv]
        refine aw_tableO (tgt := 296) dL_act_39 (by decide) (by decide) ?_
        refine aw_aload0 dL_act_296 ?_
        refine aw_iconst (v := iI (1)) dL_act_297 rfl ?_
        refine aw_iload6 dL_act_298 ?_
        refine aw_iconst (v := iI (5)) dL_act_300 rfl ?_
        refine ai_irem dL_act_301 (by omega) (by omega) (by omega) (by omega) ?_
        refine ai_iadd dL_act_302 ?_
        refine ac_SH (As := [.ref 0, .int (iI ((1 + ((y / 4) % 5))))]) (qL_pass h (iI ((1 + ((y / 4) % 5))))) dL_act_303 sl_L_145 (by decide) (Nat.le_of_ble_eq_true rfl) hb hs (B2 := 32) (B2' := 192) rfl rfl (by omega) (by omega) (fun τ_303 r_303 c_ s_ h_303 hb_ hs_ => ?_)
        replace hb := hb_
        replace hs := hs_
        clear hb_ hs_
        obtain ⟨v_303, rfl, i_303, e_303⟩ := h_303
        obtain rfl : (vPass s (iI ((1 + ((y / 4) % 5))))) = v_303 := e_303
        exact aw_lret dL_act_306 rfl ⟨by omega, by omega⟩ ⟨_, rfl, i_303, rfl⟩
      · rw [hv]
        refine aw_tableO (tgt := 296) dL_act_39 (by decide) (by decide) ?_
        refine aw_aload0 dL_act_296 ?_
        refine aw_iconst (v := iI (1)) dL_act_297 rfl ?_
        refine aw_iload6 dL_act_298 ?_
        refine aw_iconst (v := iI (5)) dL_act_300 rfl ?_
        refine ai_irem dL_act_301 (by omega) (by omega) (by omega) (by omega) ?_
        refine ai_iadd dL_act_302 ?_
        refine ac_SH (As := [.ref 0, .int (iI ((1 + ((y / 4) % 5))))]) (qL_pass h (iI ((1 + ((y / 4) % 5))))) dL_act_303 sl_L_145 (by decide) (Nat.le_of_ble_eq_true rfl) hb hs (B2 := 32) (B2' := 192) rfl rfl (by omega) (by omega) (fun τ_303 r_303 c_ s_ h_303 hb_ hs_ => ?_)
        replace hb := hb_
        replace hs := hs_
        clear hb_ hs_
        obtain ⟨v_303, rfl, i_303, e_303⟩ := h_303
        obtain rfl : (vPass s (iI ((1 + ((y / 4) % 5))))) = v_303 := e_303
        exact aw_lret dL_act_306 rfl ⟨by omega, by omega⟩ ⟨_, rfl, i_303, rfl⟩
      · rw [hv]
        refine aw_tableO (tgt := 296) dL_act_39 (by decide) (by decide) ?_
        refine aw_aload0 dL_act_296 ?_
        refine aw_iconst (v := iI (1)) dL_act_297 rfl ?_
        refine aw_iload6 dL_act_298 ?_
        refine aw_iconst (v := iI (5)) dL_act_300 rfl ?_
        refine ai_irem dL_act_301 (by omega) (by omega) (by omega) (by omega) ?_
        refine ai_iadd dL_act_302 ?_
        refine ac_SH (As := [.ref 0, .int (iI ((1 + ((y / 4) % 5))))]) (qL_pass h (iI ((1 + ((y / 4) % 5))))) dL_act_303 sl_L_145 (by decide) (Nat.le_of_ble_eq_true rfl) hb hs (B2 := 32) (B2' := 192) rfl rfl (by omega) (by omega) (fun τ_303 r_303 c_ s_ h_303 hb_ hs_ => ?_)
        replace hb := hb_
        replace hs := hs_
        clear hb_ hs_
        obtain ⟨v_303, rfl, i_303, e_303⟩ := h_303
        obtain rfl : (vPass s (iI ((1 + ((y / 4) % 5))))) = v_303 := e_303
        exact aw_lret dL_act_306 rfl ⟨by omega, by omega⟩ ⟨_, rfl, i_303, rfl⟩
      · rw [hv]
        refine aw_tableO (tgt := 296) dL_act_39 (by decide) (by decide) ?_
        refine aw_aload0 dL_act_296 ?_
        refine aw_iconst (v := iI (1)) dL_act_297 rfl ?_
        refine aw_iload6 dL_act_298 ?_
        refine aw_iconst (v := iI (5)) dL_act_300 rfl ?_
        refine ai_irem dL_act_301 (by omega) (by omega) (by omega) (by omega) ?_
        refine ai_iadd dL_act_302 ?_
        refine ac_SH (As := [.ref 0, .int (iI ((1 + ((y / 4) % 5))))]) (qL_pass h (iI ((1 + ((y / 4) % 5))))) dL_act_303 sl_L_145 (by decide) (Nat.le_of_ble_eq_true rfl) hb hs (B2 := 32) (B2' := 192) rfl rfl (by omega) (by omega) (fun τ_303 r_303 c_ s_ h_303 hb_ hs_ => ?_)
        replace hb := hb_
        replace hs := hs_
        clear hb_ hs_
        obtain ⟨v_303, rfl, i_303, e_303⟩ := h_303
        obtain rfl : (vPass s (iI ((1 + ((y / 4) % 5))))) = v_303 := e_303
        exact aw_lret dL_act_306 rfl ⟨by omega, by omega⟩ ⟨_, rfl, i_303, rfl⟩
      · rw [hv]
        refine aw_tableO (tgt := 296) dL_act_39 (by decide) (by decide) ?_
        refine aw_aload0 dL_act_296 ?_
        refine aw_iconst (v := iI (1)) dL_act_297 rfl ?_
        refine aw_iload6 dL_act_298 ?_
        refine aw_iconst (v := iI (5)) dL_act_300 rfl ?_
        refine ai_irem dL_act_301 (by omega) (by omega) (by omega) (by omega) ?_
        refine ai_iadd dL_act_302 ?_
        refine ac_SH (As := [.ref 0, .int (iI ((1 + ((y / 4) % 5))))]) (qL_pass h (iI ((1 + ((y / 4) % 5))))) dL_act_303 sl_L_145 (by decide) (Nat.le_of_ble_eq_true rfl) hb hs (B2 := 32) (B2' := 192) rfl rfl (by omega) (by omega) (fun τ_303 r_303 c_ s_ h_303 hb_ hs_ => ?_)
        replace hb := hb_
        replace hs := hs_
        clear hb_ hs_
        obtain ⟨v_303, rfl, i_303, e_303⟩ := h_303
        obtain rfl : (vPass s (iI ((1 + ((y / 4) % 5))))) = v_303 := e_303
        exact aw_lret dL_act_306 rfl ⟨by omega, by omega⟩ ⟨_, rfl, i_303, rfl⟩
      · rw [hv]
        refine aw_tableO (tgt := 296) dL_act_39 (by decide) (by decide) ?_
        refine aw_aload0 dL_act_296 ?_
        refine aw_iconst (v := iI (1)) dL_act_297 rfl ?_
        refine aw_iload6 dL_act_298 ?_
        refine aw_iconst (v := iI (5)) dL_act_300 rfl ?_
        refine ai_irem dL_act_301 (by omega) (by omega) (by omega) (by omega) ?_
        refine ai_iadd dL_act_302 ?_
        refine ac_SH (As := [.ref 0, .int (iI ((1 + ((y / 4) % 5))))]) (qL_pass h (iI ((1 + ((y / 4) % 5))))) dL_act_303 sl_L_145 (by decide) (Nat.le_of_ble_eq_true rfl) hb hs (B2 := 32) (B2' := 192) rfl rfl (by omega) (by omega) (fun τ_303 r_303 c_ s_ h_303 hb_ hs_ => ?_)
        replace hb := hb_
        replace hs := hs_
        clear hb_ hs_
        obtain ⟨v_303, rfl, i_303, e_303⟩ := h_303
        obtain rfl : (vPass s (iI ((1 + ((y / 4) % 5))))) = v_303 := e_303
        exact aw_lret dL_act_306 rfl ⟨by omega, by omega⟩ ⟨_, rfl, i_303, rfl⟩
      · rw [hv]
        refine aw_tableO (tgt := 296) dL_act_39 (by decide) (by decide) ?_
        refine aw_aload0 dL_act_296 ?_
        refine aw_iconst (v := iI (1)) dL_act_297 rfl ?_
        refine aw_iload6 dL_act_298 ?_
        refine aw_iconst (v := iI (5)) dL_act_300 rfl ?_
        refine ai_irem dL_act_301 (by omega) (by omega) (by omega) (by omega) ?_
        refine ai_iadd dL_act_302 ?_
        refine ac_SH (As := [.ref 0, .int (iI ((1 + ((y / 4) % 5))))]) (qL_pass h (iI ((1 + ((y / 4) % 5))))) dL_act_303 sl_L_145 (by decide) (Nat.le_of_ble_eq_true rfl) hb hs (B2 := 32) (B2' := 192) rfl rfl (by omega) (by omega) (fun τ_303 r_303 c_ s_ h_303 hb_ hs_ => ?_)
        replace hb := hb_
        replace hs := hs_
        clear hb_ hs_
        obtain ⟨v_303, rfl, i_303, e_303⟩ := h_303
        obtain rfl : (vPass s (iI ((1 + ((y / 4) % 5))))) = v_303 := e_303
        exact aw_lret dL_act_306 rfl ⟨by omega, by omega⟩ ⟨_, rfl, i_303, rfl⟩
    have hb : 0 + 24 ≤ 24 := by omega
    have hs : 0 + 144 ≤ 144 := by omega
    refine aw_aload0 dL_act_0 ?_
    refine aw_iconst (v := iI (0)) dL_act_1 rfl ?_
    refine ac_SH (As := [.ref 0, .int (iI (0))]) (qL_about hI _) dL_act_2 sl_L_104 (by decide) (Nat.le_of_ble_eq_true rfl) hb hs (B2 := 32) (B2' := 192) rfl rfl (by omega) (by omega) (fun τ_2 r_2 c_ s_ h_2 hb_ hs_ => ?_)
    replace hb := hb_
    replace hs := hs_
    clear hb_ hs_
    obtain ⟨v_2, rfl, i_2, e_2⟩ := h_2
    obtain rfl : (lI ((tn (stG s) : Int))) = v_2 := (((about_v (i := 0) (by omega) rfl).trans ab0).symm.trans e_2)
    refine ai_l2i dL_act_5 ?_
    refine aw_istore3 dL_act_6 (Nat.le_of_ble_eq_true rfl) rfl ?_
    refine aw_aload0 dL_act_7 ?_
    refine aw_iconst (v := iI (1)) dL_act_8 rfl ?_
    refine ac_SH (As := [.ref 0, .int (iI (1))]) (qL_about i_2 _) dL_act_9 sl_L_104 (by decide) (Nat.le_of_ble_eq_true rfl) hb hs (B2 := 40) (B2' := 240) rfl rfl (by omega) (by omega) (fun τ_9 r_9 c_ s_ h_9 hb_ hs_ => ?_)
    replace hb := hb_
    replace hs := hs_
    clear hb_ hs_
    obtain ⟨v_9, rfl, i_9, e_9⟩ := h_9
    obtain rfl : (lI ((rn (stG s) : Int))) = v_9 := (((about_v (i := 1) (by omega) rfl).trans ab1).symm.trans e_9)
    refine ai_l2i dL_act_12 ?_
    refine aw_istore4 dL_act_13 (Nat.le_of_ble_eq_true rfl) rfl ?_
    refine aw_iload4 dL_act_15 ?_
    refine ai_if_ne (tgt := 24) dL_act_17 (by decide) (by omega) (by omega) (fun c_17 => ?_) (fun c_17 => ?_)
    · refine aw_iload2 dL_act_24 ?_
      refine aw_iload4 dL_act_25 ?_
      refine ai_irem dL_act_27 (by omega) (by omega) (by omega) (by omega) ?_
      exact AW.topI (hrr.2 (by omega)).symm (J28 _ i_9 _ _ (by omega) (by omega))
    · refine aw_iconst (v := iI (0)) dL_act_20 rfl ?_
      refine aw_goto (tgt := 28) dL_act_21 (by decide) ?_
      exact AW.topI (hrr.1 (by omega)).symm (J28 _ i_9 _ _ (by omega) (by omega))

