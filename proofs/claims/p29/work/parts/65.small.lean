/-! what is refused, told by whole numbers; small methods of the law -/
/-- of the locals, less is known -/
theorem loc_r {r : List (Option Value)} : ∀ (i : Nat) (v : Value), r[i]? = some (some v) → r[i]? = some (some v) := fun _ _ h => h
theorem loc_c {x : Option Value} {r r' : List (Option Value)} (h : ∀ (i : Nat) (v : Value), r'[i]? = some (some v) → r[i]? = some (some v)) : ∀ (i : Nat) (v : Value), (x :: r')[i]? = some (some v) → (x :: r)[i]? = some (some v)
  | 0, _, q => q
  | i + 1, v, q => h i v q
theorem loc_n {x : Option Value} {r r' : List (Option Value)} (h : ∀ (i : Nat) (v : Value), r'[i]? = some (some v) → r[i]? = some (some v)) : ∀ (i : Nat) (v : Value), (none :: r')[i]? = some (some v) → (x :: r)[i]? = some (some v)
  | 0, _, q => by cases q
  | i + 1, v, q => h i v q
section ACC
variable {K : KT} {own : String} {cc cc' : ByteArray} {M M' : MT} {d mc ms d' mc' ms' : Nat} {Q : State → Prop} {n ix : Nat} {z : Option Nat} {σ : Sg} {cells slots pc : Nat} {ls : List (Option Value)} {st : List Value} {P' : PT} {y : MethodName}
theorem ac_S {As : List Value} {A B B2 A' B' B2' : Nat} (hC : Ct y cc' M' d' mc' ms' n false σ As n P' XF) (hd : decode cc pc = .ok (.invokestatic ix, 3)) (hL : SL own ix y cc' M' As.length) (hd1 : d' + 1 ≤ d ∧ 8 + (M'.1 + 11) + 39 * d' ≤ 39 * d) (hst : (st.map fun v => v.category).sum ≤ 8) (hc : cells + A ≤ B) (hs : slots + A' ≤ B') (hB : B + mc' = B2) (hB' : B' + ms' = B2') (hcc : mc' + cells ≤ mc) (hss : ms' + slots ≤ ms)
    (k : ∀ σ' r c1 s1, P' σ' r → c1 + A ≤ B2 → s1 + A' ≤ B2' → AW K own cc M d mc ms Q n z σ' c1 s1 (pc + 3) ls (r.toList ++ st)) : AW K own cc M d mc ms Q n z σ cells slots pc ls (As.reverse ++ st) :=
  aw_callS hC hd hL (Rm1 ⟨hd1.1, hd1.2, by omega, by omega⟩) hst (fun σ' r h => k σ' r _ _ h (by omega) (by omega)) (fun _ _ h => h.elim)
theorem ac_SH {As : List Value} {A B B2 A' B' B2' : Nat} (hC : CtH y cc' M' d' mc' ms' n false σ As n P' XF) (hd : decode cc pc = .ok (.invokestatic ix, 3)) (hL : SLH own ix y cc' M' As.length) (hd1 : d' + 1 ≤ d ∧ 8 + (M'.1 + 11) + 39 * d' ≤ 39 * d) (hst : (st.map fun v => v.category).sum ≤ 8) (hc : cells + A ≤ B) (hs : slots + A' ≤ B') (hB : B + mc' = B2) (hB' : B' + ms' = B2') (hcc : mc' + cells ≤ mc) (hss : ms' + slots ≤ ms)
    (k : ∀ σ' r c1 s1, P' σ' r → c1 + A ≤ B2 → s1 + A' ≤ B2' → AW K own cc M d mc ms Q n z σ' c1 s1 (pc + 3) ls (r.toList ++ st)) : AW K own cc M d mc ms Q n z σ cells slots pc ls (As.reverse ++ st) :=
  aw_callSH hC hd hL (Rm1 ⟨hd1.1, hd1.2, by omega, by omega⟩) hst (fun σ' r h => k σ' r _ _ h (by omega) (by omega)) (fun _ _ h => h.elim)
theorem ac_V {As : List Value} {b ci : Nat} {A B B2 A' B' B2' : Nat} (hC : Ct y cc' M' d' mc' ms' n false σ (.ref b :: As) n P' XF) (hd : decode cc pc = .ok (.invokevirtual ix, 3)) (hL : VL own ix y cc' M' As.length ci) (hT : cT b = .inl ci) (hbn : b < n) (hd1 : d' + 1 ≤ d ∧ 8 + (M'.1 + 11) + 39 * d' ≤ 39 * d) (hst : (st.map fun v => v.category).sum ≤ 8) (hc : cells + A ≤ B) (hs : slots + A' ≤ B') (hB : B + mc' = B2) (hB' : B' + ms' = B2') (hcc : mc' + cells ≤ mc) (hss : ms' + slots ≤ ms)
    (k : ∀ σ' r c1 s1, P' σ' r → c1 + A ≤ B2 → s1 + A' ≤ B2' → AW K own cc M d mc ms Q n z σ' c1 s1 (pc + 3) ls (r.toList ++ st)) : AW K own cc M d mc ms Q n z σ cells slots pc ls (As.reverse ++ .ref b :: st) :=
  aw_callV hC hd hL hT hbn (Rm1 ⟨hd1.1, hd1.2, by omega, by omega⟩) hst (fun σ' r h => k σ' r _ _ h (by omega) (by omega)) (fun _ _ h => h.elim)
end ACC
section REF
variable {s : AS}
theorem about_x {x : Int} (h : x < 0 ∨ 9 < x) (h1 : -2147483648 ≤ x) (h2 : x < 2147483648) : vAbout s (iI x) = kA := by
  rw [vAbout, ref1 (by rw [about_c h1 h2, if_neg (by omega)])]
theorem room_x {x y : Int32} (h : ¬ isN x (rn (stG s))) : vRoom s x y = kI := ref21 (cd2_1 h).symm
theorem room_y {x y : Int32} (h : isN x (rn (stG s))) (h2 : ¬ (0 ≤ y ∧ y ≤ 6)) : vRoom s x y = kA := ref22 (cd2_2 h h2).symm
theorem later_x {x y : Int32} (h : ¬ isN x (rn (stG s))) : vLater s x y = kI := ref21 (cd2_1 h).symm
theorem later_y {x y : Int32} (h : isN x (rn (stG s))) (h2 : ¬ (0 ≤ y ∧ y ≤ 48)) : vLater s x y = kA := ref22 (cd2_2 h h2).symm
theorem owes_x {x : Int32} (h : ¬ isN x (gn (stG s))) : vOwes s x = kI := ref1 (cd1_1 h).symm
theorem booking_x {x y : Int32} (h : ¬ isN x (bn (stG s))) : vBooking s x y = kI := ref21 (cd2_1 h).symm
theorem booking_y {x y : Int32} (h : isN x (bn (stG s))) (h2 : ¬ (0 ≤ y ∧ y ≤ 9)) : vBooking s x y = kA := ref22 (cd2_2 h h2).symm
theorem cost_x {r w f h t0 : Int32} (q : ¬ (isN r (rn (stG s)) ∧ isN w (gn (stG s)))) : vCost s r w f h t0 = kI := ref21 (cd2_1 q).symm
theorem cost_y {r w f h t0 : Int32} (q : isN r (rn (stG s)) ∧ isN w (gn (stG s))) (q2 : ¬ sound (stG s) f h t0) : vCost s r w f h t0 = kA := ref22 (cd2_2 q q2).symm
theorem cost_n {r w f h t0 : Int32} (q : isN r (rn (stG s)) ∧ isN w (gn (stG s))) (q2 : sound (stG s) f h t0) (q3 : ¬ (bn (stG s) < 12 ∧ fFree (stG s) r f h (bn (stG s)))) : vCost s r w f h t0 = lI (-99) := by
  have c : cCost s r w f h t0 = 0 := (cd2_0 q q2).symm
  rw [vCost, ans2 c, wCost]
  rw [@if_neg _ (Classical.propDecidable _) q3]
  decide
theorem begins_x {x : Int32} (h : ¬ isN x (bn (stG s))) : vBegins s x = kI := ref1 (cd1_1 h).symm
theorem willOwe_x {x : Int32} (h : ¬ isN x (gn (stG s))) : vWillOwe s x = kI := ref1 (cd1_1 h).symm
theorem script_0 {x : Int64} : vScript s (iI 0) x = kA := by
  refine ref1 (cd1_1 fun ⟨k, h1, h3, hn, _⟩ => ?_).symm
  rw [nI_iI] at hn
  have := (iI_inj (by omega) (by omega) (by omega) (by omega)).mp hn
  omega
theorem script_3 : vScript s (iI 3) (lI 1000000000000000) = kA := by
  refine ref1 (cd1_1 fun ⟨k, h1, h3, hn, _, hx⟩ => ?_).symm
  rw [nI_iI] at hn
  have := (iI_inj (by omega) (by omega) (by omega) (by omega)).mp hn
  have hk : k = 3 := by omega
  subst hk
  revert hx
  decide +kernel
theorem simulate_x {x : Int64} : vSimulate s x (iI 0) = kA := ref1 (cd1_1 (by decide)).symm
end REF
theorem hour_N {g : Rw} {nr ng nb t : Nat} (hw : WF g nr ng nb t) (x : Int) (ht : t ≤ 1000) (h1 : -2147483648 ≤ x) (h2 : x < 2147483648) : (g 0 ≤ iI x ↔ (t : Int) ≤ x) ∧ (0 ≤ t + x → t + x < 2147483648 → (g 0 + iI x ≤ 240 ↔ t + x ≤ 240)) := by
  rw [hw.hr, nI_iI]
  refine ⟨iI_le (by omega) (by omega) h1 h2, fun h3 h4 => ?_⟩
  rw [iI_add, show (240 : Int32) = iI 240 by decide, iI_le (by omega) h4 (by decide) (by decide)]
theorem sound_N {g : Rw} {nr ng nb t : Nat} (hw : WF g nr ng nb t) (ht : t ≤ 1000) {f h u : Int} (f1 : -2147483648 ≤ f) (f2 : f < 2147483648) (h1 : -2147483648 ≤ h) (h2 : h < 2147483648) (u1 : -2147483648 ≤ u) (u2 : u < 2147483648) : sound g (iI f) (iI h) (iI u) ↔ (t ≤ f ∧ f ≤ 199) ∧ (1 ≤ h ∧ h ≤ 12) ∧ 12 ≤ u ∧ u ≤ 25 := by
  unfold sound
  rw [(hour_N hw f ht f1 f2).1, show (199 : Int32) = iI 199 by decide, iI_le f1 f2 (by decide) (by decide), rngI (l := 1) (h := 12) (lo := 1) (hi := 12) rfl (by decide) h1 h2 (by decide) (by decide) (by decide) (by decide), rngI (l := 12) (h := 25) (lo := 12) (hi := 25) (by decide) (by decide) u1 u2 (by decide) (by decide) (by decide) (by decide)]
/-- of a booking, in whole numbers -/
theorem bk_Z {g : Rw} {nr ng nb t b : Nat} (H : WK g nr ng nb t) (ht : t ≤ 300) (hb : b < nb) : (0 ≤ zz g (31 + 10 * b + 0) ∧ zz g (31 + 10 * b + 0) < nr) ∧ (0 ≤ zz g (31 + 10 * b + 1) ∧ zz g (31 + 10 * b + 1) < ng) ∧ (0 ≤ zz g (31 + 10 * b + 2) ∧ zz g (31 + 10 * b + 2) ≤ 199) ∧ (1 ≤ zz g (31 + 10 * b + 3) ∧ zz g (31 + 10 * b + 3) ≤ 12) ∧ (12 ≤ zz g (31 + 10 * b + 4) ∧ zz g (31 + 10 * b + 4) ≤ 25) ∧ (0 ≤ zz g (31 + 10 * b + 5) ∧ zz g (31 + 10 * b + 5) ≤ 81 * t) ∧ (0 ≤ zz g (31 + 10 * b + 6) ∧ zz g (31 + 10 * b + 6) ≤ 81 * t) ∧ (zz g (31 + 10 * b + 7) = 0 ∨ zz g (31 + 10 * b + 7) = 1 ∧ zz g (31 + 10 * b + 2) ≤ t ∧ (t : Int) < zz g (31 + 10 * b + 2) + zz g (31 + 10 * b + 3)) ∧ (0 ≤ zz g (31 + 10 * b + 8) ∧ zz g (31 + 10 * b + 8) ≤ zz g (31 + 10 * b + 3)) ∧ (t ≤ zz g (31 + 10 * b + 2) → zz g (31 + 10 * b + 8) = 0 ∧ zz g (31 + 10 * b + 6) = 0) ∧ (zz g (31 + 10 * b + 2) < t → zz g (31 + 10 * b + 8) ≤ t - zz g (31 + 10 * b + 2)) ∧ (zz g (31 + 10 * b + 9) = 0 → zz g (31 + 10 * b + 5) = 0) := by
  obtain ⟨hw, hR, hB, hM, hT, hO⟩ := H
  have h4 := hw.nr4
  have h6 := hw.ng6
  obtain ⟨r, hr, hr2⟩ := hw.room hb
  obtain ⟨w, hw1, hw2⟩ := hw.grp hb
  obtain ⟨f, hf, hf2⟩ := hw.first hb
  obtain ⟨h, hh1, hh12, hh2⟩ := hw.hours hb
  have e0 := zz_nI hr2 (by omega)
  have e1 := zz_nI hw2 (by omega)
  have e2 := zz_nI hf2 (by omega)
  have e3 := zz_nI hh2 (by omega)
  have hd : dn g b 0 = 0 := by rw [dn, e0, if_neg (by omega)]
  obtain ⟨b1, b2, b3, b5, b6, b7, b9⟩ := hB b hb
  rw [hd] at b2 b3 b6 b7
  have hm : zz g (31 + 10 * b + 7) = 0 ∨ zz g (31 + 10 * b + 7) = 1 := by
    rcases hw.mark hb with q | q
    · exact Or.inl (by rw [zz, q]; decide)
    · exact Or.inr (by rw [zz, q]; decide)
  have hm2 := hM b hb
  refine ⟨by omega, by omega, by omega, by omega, b1, by omega, by omega, ?_, b5, fun q => b6 (by omega), fun q => by have := b7 (by omega); omega, b9⟩
  rcases hm with q | q
  · exact Or.inl q
  · exact Or.inr ⟨q, hm2 q⟩
theorem bookV_Z {g : Rw} {b k : Nat} (hk : k ≤ 8) : (bookV g b k).toInt64 = lI (zz g (31 + 10 * b + k)) := by rw [bookV, if_pos (by omega), i2l_I]; rfl
def oZ (x : Option Nat) : Int := match x with
  | none => -99
  | some b => b
theorem oZ_rng {x : Option Nat} {n : Nat} (h : ∀ b, x = some b → b < n) : x = none ∧ oZ x = -99 ∨ ∃ b, x = some b ∧ b < n ∧ oZ x = b := by
  cases x with
  | none => exact Or.inl ⟨rfl, rfl⟩
  | some b => exact Or.inr ⟨b, rfl, h b rfl, rfl⟩
theorem oZ_b {x : Option Nat} {n : Nat} (h : ∀ b, x = some b → b < n) : -99 ≤ oZ x ∧ oZ x < (n : Int) := by
  rcases oZ_rng h with ⟨-, e⟩ | ⟨b, -, hb, e⟩ <;> omega
theorem oI_Z {x : Option Nat} (h : ∀ b, x = some b → b < 1000) : (oI x).toInt64 = lI (oZ x) := by
  cases x with
  | none => show (-99 : Int32).toInt64 = lI (-99); decide
  | some b =>
    have := h b rfl
    show (nI b).toInt64 = lI b
    rw [nI_l (by omega), lN_lI]
/-- the state as it is, but in the hall of now -/
theorem notfree {g : Rw} {nr ng nb t b : Nat} (H : WF g nr ng nb t) (hb : b < nb) : ¬ fFree g (iI (zz g (31 + 10 * b + 0))) (iI (zz g (31 + 10 * b + 2))) (iI 1) nb := fun h => by
  have h3 := h b hb
  obtain ⟨f, hf, hf2⟩ := H.first hb
  obtain ⟨q, hq1, hq12, hq2⟩ := H.hours hb
  have e2 := zz_nI hf2 (by omega)
  unfold freeP at h3
  rcases h3 with h3 | h3 | h3
  · exact h3 (zz_iI _ _)
  · rw [fEnd, hf2, hq2, nI_add, e2, nI_iI, iI_le (by omega) (by omega) (by omega) (by omega)] at h3
    omega
  · rw [hf2, e2, iI_add, nI_iI, iI_le (by omega) (by omega) (by omega) (by omega)] at h3
    omega
def apS (s : AS) (c : Int) : AS := (stG s, stN s + 1, upd (stT s) (stN s) (iI c), stC s, stM s, stB s, stS s)
set_option maxHeartbeats 4000000 in
theorem k_in {σ : Sg} {s : AS} (hI : CI σ s) {v a b : Int} (h : a ≤ v ∧ v ≤ b) (ha : -1000000000000 ≤ a) (hb : b ≤ 1000000000000) : Ct yL_in cL_in mL_in 1 0 0 NN false σ [.long (lI v), .long (lI a), .long (lI b)] NN (rI fun τ y0 => CI τ s ∧ iI 1 = y0) XF := by
  refine ct_of (ls0 := [some (.long (lI v)), none, some (.long (lI a)), none, some (.long (lI b)), none]) 0 (by decide +kernel) rfl rfl (ndL (ndL (ndL nd0))) rfl (Nat.le_of_ble_eq_true rfl) (fun K => ?_)
  refine aw_lload0 dL_in_0 ?_
  refine aw_lload2 dL_in_1 ?_
  refine ai_lif_lt (tgt := 17) dL_in_2 dL_in_3 (by decide) (by omega) (by omega) (by omega) (by omega) (fun c_2 => absurd c_2 (by omega)) (fun c_2 => ?_)
  refine aw_lload0 dL_in_6 ?_
  refine aw_lload4 dL_in_7 ?_
  refine ai_lif_gt (tgt := 17) dL_in_9 dL_in_10 (by decide) (by omega) (by omega) (by omega) (by omega) (fun c_9 => absurd c_9 (by omega)) (fun c_9 => ?_)
  refine aw_iconst (v := iI (1)) dL_in_13 rfl ?_
  refine aw_goto (tgt := 18) dL_in_14 (by decide) ?_
  exact aw_zret dL_in_18 rfl (by decide) ⟨by omega, by omega⟩ ⟨_, rfl, hI, rfl⟩
set_option maxHeartbeats 4000000 in
theorem k_says {σ : Sg} {s : AS} (hI : CI σ s) {c : Int} (hc : 0 ≤ c ∧ c ≤ 255) (hn : stN s < 120) : Ct yL_says cL_says mL_says 10 8 48 NN false σ [.ref 0, .int (iI c)] NN (rI fun τ y0 => CI τ (apS s c) ∧ iI 1 = y0) XF := by
  refine ct_of (ls0 := [some (.ref 0), some (.int (iI c))]) 0 (by decide +kernel) rfl rfl (ndR (ndI nd0)) rfl (Nat.le_of_ble_eq_true rfl) (fun K => ?_)
  have hb : 0 + 8 ≤ 8 := by omega
  have hs : 0 + 48 ≤ 48 := by omega
  refine aw_aload0 dL_says_0 ?_
  refine aw_iload1 dL_says_1 ?_
  refine ac_SH (As := [.ref 0, .int (iI (c))]) (dL_append_ hI (iI c) (cd2_0 ((rngI (lo := 0) (hi := 255) rfl (by decide) (by omega) (by omega) (by decide) (by decide) (by decide) (by decide)).mpr hc) hn).symm) dL_says_2 sl_L_166 (by decide) (Nat.le_of_ble_eq_true rfl) hb hs (B2 := 16) (B2' := 96) rfl rfl (by omega) (by omega) (fun τ_2 r_2 c_ s_ h_2 hb_ hs_ => ?_)
  replace hb := hb_
  replace hs := hs_
  clear hb_ hs_
  obtain ⟨v_2, rfl, i_2, e_2⟩ := h_2
  obtain rfl : (lI ((stN s + 1 : Int))) = v_2 := (by rw [← e_2, wAppend, nI_1, nI_l (by omega), lN_lI]; rfl)
  refine aw_lconst (v := lI (0)) dL_says_5 (by decide) ?_
  refine ai_lif_le (tgt := 14) dL_says_6 dL_says_7 (by decide) (by omega) (by omega) (by omega) (by omega) (fun c_6 => absurd c_6 (by omega)) (fun c_6 => ?_)
  refine aw_iconst (v := iI (1)) dL_says_10 rfl ?_
  refine aw_goto (tgt := 15) dL_says_11 (by decide) ?_
  exact aw_zret dL_says_15 rfl (by decide) ⟨by omega, by omega⟩ ⟨_, rfl, i_2, rfl⟩
set_option maxHeartbeats 4000000 in
theorem k_two {σ : Sg} {s : AS} (hI : CI σ s) {v : Int} (hv : 0 ≤ v ∧ v ≤ 99) (hn : stN s + 1 < 120) : Ct yL_two cL_two mL_two 11 16 96 NN false σ [.ref 0, .int (iI v)] NN (rI fun τ y0 => CI τ (apS (apS s (48 + v / 10)) (48 + v % 10)) ∧ iI 1 = y0) XF := by
  refine ct_of (ls0 := [some (.ref 0), some (.int (iI v))]) 0 (by decide +kernel) rfl rfl (ndR (ndI nd0)) rfl (Nat.le_of_ble_eq_true rfl) (fun K => ?_)
  have hb : 0 + 16 ≤ 16 := by omega
  have hs : 0 + 96 ≤ 96 := by omega
  refine aw_aload0 dL_two_0 ?_
  refine aw_bipush (v := iI (48)) dL_two_1 (by decide) ?_
  refine aw_iload1 dL_two_3 ?_
  refine aw_bipush (v := iI (10)) dL_two_4 (by decide) ?_
  refine ai_idiv dL_two_6 (by omega) (by omega) (by omega) (by omega) ?_
  refine ai_iadd dL_two_7 ?_
  refine ac_S (As := [.ref 0, .int (iI ((48 + (v / 10))))]) (k_says hI (c := (48 + (v / 10))) (by omega) (by omega)) dL_two_8 sl_L_194 (by decide) (Nat.le_of_ble_eq_true rfl) hb hs (B2 := 24) (B2' := 144) rfl rfl (by omega) (by omega) (fun τ_8 r_8 c_ s_ h_8 hb_ hs_ => ?_)
  replace hb := hb_
  replace hs := hs_
  clear hb_ hs_
  obtain ⟨v_8, rfl, i_8, e_8⟩ := h_8
  obtain rfl : (iI (1)) = v_8 := e_8
  refine ai_if_eq (tgt := 32) dL_two_11 (by decide) (by omega) (by omega) (fun c_11 => absurd c_11 (by decide)) (fun _ => ?_)
  refine aw_aload0 dL_two_14 ?_
  refine aw_bipush (v := iI (48)) dL_two_15 (by decide) ?_
  refine aw_iload1 dL_two_17 ?_
  refine aw_bipush (v := iI (10)) dL_two_18 (by decide) ?_
  refine ai_irem dL_two_20 (by omega) (by omega) (by omega) (by omega) ?_
  refine ai_iadd dL_two_21 ?_
  refine ac_S (As := [.ref 0, .int (iI ((48 + (v % 10))))]) (k_says i_8 (c := (48 + (v % 10))) (by omega) (by show stN s + 1 < 120; omega)) dL_two_22 sl_L_194 (by decide) (Nat.le_of_ble_eq_true rfl) hb hs (B2 := 32) (B2' := 192) rfl rfl (by omega) (by omega) (fun τ_22 r_22 c_ s_ h_22 hb_ hs_ => ?_)
  replace hb := hb_
  replace hs := hs_
  clear hb_ hs_
  obtain ⟨v_22, rfl, i_22, e_22⟩ := h_22
  obtain rfl : (iI (1)) = v_22 := e_22
  refine ai_if_eq (tgt := 32) dL_two_25 (by decide) (by omega) (by omega) (fun c_25 => absurd c_25 (by decide)) (fun _ => ?_)
  refine aw_iconst (v := iI (1)) dL_two_28 rfl ?_
  refine aw_goto (tgt := 33) dL_two_29 (by decide) ?_
  exact aw_zret dL_two_33 rfl (by decide) ⟨by omega, by omega⟩ ⟨_, rfl, i_22, rfl⟩
