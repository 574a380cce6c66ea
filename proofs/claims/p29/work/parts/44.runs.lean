/-! the class: all bookings over; a script; a simulation -/
theorem scr_rng {v : Int32} {s : Int64} (h : scrA v s) : 1 ≤ v ∧ v ≤ 3 := by
  obtain ⟨k, h1, h2, rfl, -⟩ := h
  exact ⟨(nI_leI (a := 1) (by omega) (by omega)).mpr h1, (nI_leI (b := 3) (by omega) (by omega)).mpr h2⟩
theorem scr_iff {k S : Nat} (h1 : 1 ≤ k) (h3 : k ≤ 3) (hS : S < 2 ^ 63) : scrA (nI k) (lN S) ↔ S / 10 ^ (5 * k) = 0 := by
  have h0 : (0 : Int64) ≤ lN S := (pk_lLE (a := 0) (by decide) hS).mpr (Nat.zero_le _)
  have key : lN S ≤ tenL (5 * k) - 1 ↔ S / 10 ^ (5 * k) = 0 := by
    rcases (show k = 1 ∨ k = 2 ∨ k = 3 by omega) with rfl | rfl | rfl
    · rw [show tenL (5 * 1) - 1 = lN 99999 from by decide, pk_lLE hS (by decide), show 10 ^ (5 * 1) = 100000 from rfl]
      omega
    · rw [show tenL (5 * 2) - 1 = lN 9999999999 from by decide, pk_lLE hS (by decide), show 10 ^ (5 * 2) = 10000000000 from rfl]
      omega
    · rw [show tenL (5 * 3) - 1 = lN 999999999999999 from by decide, pk_lLE hS (by decide), show 10 ^ (5 * 3) = 1000000000000000 from rfl]
      omega
  constructor
  · intro h
    obtain ⟨k2, a1, a2, a3, a4, a5⟩ := h
    have e := (nI_eq (by omega) (by omega)).mp a3
    subst e
    exact key.mp a5
  · intro h
    exact ⟨k, h1, h3, rfl, h0, key.mpr h⟩
theorem lC_N {S : Nat} (h : S < 2 ^ 63) : lC (lN S) = S := by rw [lC, pk_lT h]; rfl
def DQ (σ τ : Sg) : Prop := (∀ i j, i < 307 ∨ 348 ≤ i → ¬ (i = 1 ∧ 2 ≤ j) → τ.1 i j = σ.1 i j) ∧ (∀ i j, i ≠ 311 → i ≠ 331 → τ.2.1 i j = σ.2.1 i j) ∧ (BB σ 328 → BB τ 328)
theorem DG.dq {σ τ : Sg} (d : DG σ τ) : DQ σ τ := ⟨d.1, d.2.1, d.2.2.2⟩
theorem DQ.k {σ τ : Sg} {c : Nat} (d : DQ σ τ) : DQ σ (kS τ c) := ⟨fun i j h1 h2 => (kS_ne (by omega)).trans (d.1 i j h1 h2), d.2.1, d.2.2⟩
theorem DQ.oe {σ τ ρ : Sg} (d : DQ σ τ) (o : OE 308 τ ρ) : DQ σ ρ := ⟨fun i j h1 h2 => (o.1 i j (by omega)).trans (d.1 i j h1 h2), fun i j h1 h2 => (o.2.1 i j h1).trans (d.2.1 i j h1 h2), fun h => (d.2.2 h).frame (fun j => o.2.1 _ _ (by decide))⟩
theorem DQ.t8 {σ τ : Sg} {π : Nat → Nat} {nr ng nb : Nat} {g : Rw} (d : DQ σ τ) (hp : PM π) : DG σ (sH τ 308 π nr ng nb g) :=
  ⟨fun i j h1 h2 => (sH_out (by omega)).trans (d.1 i j h1 h2), fun i j h1 h2 => (sH_R (by omega)).trans (d.2.1 i j h1 h2), fun _ => sH_BB hp, fun h => (d.2.2 h).frame (fun j => sH_R (by omega))⟩
theorem i32_as {a b c : Int32} : a + b - c = a + (b - c) := by rw [Int32.sub_eq_add_neg, Int32.sub_eq_add_neg, Int32.add_assoc]
set_option maxHeartbeats 4000000 in
theorem k6_willOwe (σ : Sg) (π : Nat → Nat) (nr ng nb t : Nat) (g : Rw) (n c : Nat) (T : Rw) (M S : Nat → Rw) (B : Nat → Bool) (w : Int32) (hJ : KJ σ n T c M B S) (hc : HC σ 3 π) (hw : WF g nr ng nb t) (ht : t ≤ 240) (hcb : CB g nb (4 * t)) : Ct yX6_willOwe cX6_willOwe mX6_willOwe 7 8 48 NN false (sH σ 3 π nr ng nb g) [.ref 0, .int w] NN (oX (cd1 (isN w ng)) (DG (sH σ 3 π nr ng nb g)) ((fHours g nr nb (fH g nb)) (25 + cN w))) (x1 (sH σ 3 π nr ng nb g) (cd1 (isN w ng)) eI) := by
  refine ct_of (ls0 := [some (.ref 0), some (.int w)]) 0 (by decide +kernel) rfl rfl (ndR (ndI nd0)) rfl (Nat.le_of_ble_eq_true rfl) (fun K => ?_)
  have hnr4 := hw.nr4
  have hng6 := hw.ng6
  have hnb12 := hw.nb12
  obtain ⟨hF, hBB, ⟨hT1, hT2, hT3⟩, hMe, hSv⟩ := id hJ
  have hS3 : SA (sH σ 3 π nr ng nb g) 3 g := SA.mk hc hw ht hcb
  have hJ3 := hJ.h3 (nr := nr) (ng := ng) (nb := nb) (g := g) hc.2.2
  refine aw_aload0 dX6_willOwe_0 ?_
  refine aw_iload1 dX6_willOwe_1 ?_
  refine aw_VXV1 (k6_requireGroup σ π nr ng nb t g w hF hc hw) dX6_willOwe_2 vl_6_106 rfl (by decide) (by decide) (Nat.le_of_ble_eq_true rfl) rfl (fun σ2 E h => gx1 h id) (fun σ_2 h_2 => ?_)
  obtain ⟨rfl, q_2⟩ := h_2
  obtain ⟨k, hk, rfl⟩ := q_2
  have hck : cN (nI k) = k := nI_clamp (by omega)
  refine aw_aload0 dX6_willOwe_5 ?_
  refine aw_VV0 (k6_passAll σ π nr ng nb t g n c T M S B hJ hc hw ht hcb) dX6_willOwe_6 vl_6_212 rfl (by decide) (by decide) (Nat.le_of_ble_eq_true rfl) (fun σ_6 h_6 => ?_)
  obtain ⟨τ, πt, hct, hD, rfl⟩ := h_6
  have hFt : RF τ := (hJ3.dg hD).1
  refine aw_aload0 dX6_willOwe_9 ?_
  refine aw_getR dX6_willOwe_10 fR_6_45 rfl (by decide) ((sH_R (σ := τ) (by omega)).trans hFt.1.2.2.2.2.2.2.1) ?_
  refine aw_iload1 dX6_willOwe_13 ?_
  refine aw_VI1 (k2_owedBy τ 308 πt nr ng nb _ (fHours g nr nb (fH g nb)) k hct (hw.hoursN _) hk) dX6_willOwe_14 vl_6_109 HT_308.1 (by decide) (by decide) (Nat.le_of_ble_eq_true rfl) (fun σ_14 r_14 h_14 => ?_)
  obtain ⟨rfl, rfl⟩ := h_14
  exact aw_iret dX6_willOwe_17 rfl (by decide) (oX_i (cd1_0 ⟨k, hk, rfl⟩) (hD.t8 hct.2.2) (by rw [hck]))
set_option maxHeartbeats 4000000 in
theorem k6_coldest (σ : Sg) (π : Nat → Nat) (nr ng nb t : Nat) (g : Rw) (n c : Nat) (T : Rw) (M S : Nat → Rw) (B : Nat → Bool) (hJ : KJ σ n T c M B S) (hc : HC σ 3 π) (hw : WF g nr ng nb t) (ht : t ≤ 240) (hcb : CB g nb (4 * t)) : Ct yX6_coldest cX6_coldest mX6_coldest 7 0 0 NN false (sH σ 3 π nr ng nb g) [.ref 0] NN (oX 0 (DG (sH σ 3 π nr ng nb g)) (oI (fCold (fHours g nr nb (fH g nb)) nb))) XF := by
  refine ct_of (ls0 := [some (.ref 0)]) 0 (by decide +kernel) rfl rfl (ndR nd0) rfl (Nat.le_of_ble_eq_true rfl) (fun K => ?_)
  have hnr4 := hw.nr4
  have hng6 := hw.ng6
  have hnb12 := hw.nb12
  obtain ⟨hF, hBB, ⟨hT1, hT2, hT3⟩, hMe, hSv⟩ := id hJ
  have hS3 : SA (sH σ 3 π nr ng nb g) 3 g := SA.mk hc hw ht hcb
  have hJ3 := hJ.h3 (nr := nr) (ng := ng) (nb := nb) (g := g) hc.2.2
  refine aw_aload0 dX6_coldest_0 ?_
  refine aw_VV0 (k6_passAll σ π nr ng nb t g n c T M S B hJ hc hw ht hcb) dX6_coldest_1 vl_6_212 rfl (by decide) (by decide) (Nat.le_of_ble_eq_true rfl) (fun σ_1 h_1 => ?_)
  obtain ⟨τ, πt, hct, hD, rfl⟩ := h_1
  have hFt : RF τ := (hJ3.dg hD).1
  refine aw_aload0 dX6_coldest_4 ?_
  refine aw_getR dX6_coldest_5 fR_6_45 rfl (by decide) ((sH_R (σ := τ) (by omega)).trans hFt.1.2.2.2.2.2.2.1) ?_
  refine aw_VI0 (k2_coldestBooking τ 308 πt nr ng nb _ (fHours g nr nb (fH g nb)) _ hct (hw.hoursN _) (hcb.hoursN hw _) (by have := hw.fH3 (by omega); omega)) dX6_coldest_8 vl_6_215 HT_308.1 (by decide) (by decide) (Nat.le_of_ble_eq_true rfl) (fun σ_8 r_8 h_8 => ?_)
  obtain ⟨rfl, rfl⟩ := h_8
  exact aw_iret dX6_coldest_11 rfl (by decide) (oX_i rfl (hD.t8 hct.2.2) rfl)
set_option maxHeartbeats 4000000 in
theorem k6_runScript (σ : Sg) (π : Nat → Nat) (nr ng nb t : Nat) (g : Rw) (n c : Nat) (T : Rw) (M S : Nat → Rw) (B : Nat → Bool) (v : Int32) (s : Int64) (hJ : KJ σ n T c M B S) (hc : HC σ 3 π) (hw : WF g nr ng nb t) (ht : t ≤ 240) (hcb : CB g nb (4 * t)) : Ct yX6_runScript cX6_runScript mX6_runScript 7 8 48 NN false (sH σ 3 π nr ng nb g) [.ref 0, .int v, .long s] NN (oX (cd1 (scrA v s)) (DG (sH σ 3 π nr ng nb g)) (fRun nr ng (cN v) (lC s) (cN v) g nb)) (x1 (sH σ 3 π nr ng nb g) (cd1 (scrA v s)) eA) := by
  refine ct_of (ls0 := [some (.ref 0), some (.int v), some (.long s), none, none]) 1 (by decide +kernel) rfl rfl (ndR (ndI (ndL nd0))) rfl (Nat.le_of_ble_eq_true rfl) (fun K => ?_)
  have hnr4 := hw.nr4
  have hng6 := hw.ng6
  have hnb12 := hw.nb12
  obtain ⟨hF, hBB, ⟨hT1, hT2, hT3⟩, hMe, hSv⟩ := id hJ
  have hS3 : SA (sH σ 3 π nr ng nb g) 3 g := SA.mk hc hw ht hcb
  have hJ3 := hJ.h3 (nr := nr) (ng := ng) (nb := nb) (g := g) hc.2.2
  obtain ⟨τ, πt, hct, hD, kC⟩ := k6_trial hJ hc hw
  have hJt := hJ3.dg hD
  have hFt := hJt.1
  have L46 : ∀ (f : Nat) (i k S2 nb2 t2 : Nat) (τ2 : Sg) (π2 : Nat → Nat) (e : Rw) (V : Int32) (hv : v = nI k) (hs : s = lN S2) (hk3 : k ≤ 3) (hS : S2 < 2 ^ 63) (hA : scrA v s) (hq : DQ (sH σ 3 π nr ng nb g) τ2) (hc2 : HC τ2 308 π2) (hw2 : WF e nr ng nb2 t2) (ht2 : t2 ≤ 300) (hVal : (fRun nr ng (cN v) (lC s) (cN v) g nb) = V) (hV : fRun nr ng k S2 (k - i) e nb2 = V) (h1 : i ≤ k) (h2 : k - i < f), AW K RX6 cX6_runScript mX6_runScript 7 8 48 (Qm K NN (oX (cd1 (scrA v s)) (DG (sH σ 3 π nr ng nb g)) (fRun nr ng (cN v) (lC s) (cN v) g nb)) (x1 (sH σ 3 π nr ng nb g) (cd1 (scrA v s)) eA) 8 48) NN none (sH τ2 308 π2 nr ng nb2 e) 1 6 46 [some (.ref 0), some (.int v), some (.long s), none, some (.int (nI i))] [] := by
    intro f
    induction f with
    | zero => intro i k S2 nb2 t2 τ2 π2 e V hv hs hk3 hS hA hq hc2 hw2 ht2 hVal hV h1 h2; exact absurd h2 (Nat.not_lt_zero _)
    | succ f ih =>
      intro i k S2 nb2 t2 τ2 π2 e V hv hs hk3 hS hA hq hc2 hw2 ht2 hVal hV h1 h2
      subst hv
      subst hs
      have hFq : RF τ2 := hJ3.1.frame (fun x y _ z1 z2 => hq.2.1 x y z1 z2) (fun _ _ _ _ _ => trivial)
      refine aw_iload4 dX6_runScript_46 ?_
      refine aw_iload1 dX6_runScript_48 ?_
      refine aw_ic_ge (tgt := 92) dX6_runScript_49 (by decide) (fun c_49 => ?_) (fun c_49 => ?_)
      · have hbb : i = k := by
          have := (nI_leI (by omega) (by omega)).mp c_49
          omega
        refine aw_bipush (v := (-99)) dX6_runScript_92 (by decide) ?_
        exact aw_iret dX6_runScript_94 rfl (by decide) (oX_i (cd1_0 hA) (hq.t8 hc2.2.2) (hVal.trans (hV.symm.trans (by rw [show k - i = 0 by omega]; rfl))))
      · have hlt : i < k := by
          rcases Nat.lt_or_ge i k with q | q
          · exact q
          · exact absurd (nI_le q (by omega)) c_49
        refine aw_aload0 dX6_runScript_52 ?_
        refine aw_getR dX6_runScript_53 fR_6_41 rfl (by decide) ((sH_R (σ := τ2) (by omega)).trans hFq.1.2.2.2.2.2.1) ?_
        refine aw_lload2 dX6_runScript_56 ?_
        refine aw_iload1 dX6_runScript_57 ?_
        refine aw_iconst (v := 1) dX6_runScript_58 (by decide) ?_
        refine aw_isub dX6_runScript_59 ?_
        refine aw_iload4 dX6_runScript_60 ?_
        refine aw_isub dX6_runScript_62 ?_
        rw [show nI k - 1 - nI i = nI (k - 1 - i) from by
          have e1 : nI k - 1 = nI (k - 1) := by
            have := nI_pred (k - 1)
            rwa [show k - 1 + 1 = k by omega] at this
          rw [e1, pk_sub (by omega)]]
        refine aw_SL2 (k1_withoutLast _ S2 (k - 1 - i) hS (by omega)) dX6_runScript_63 sl_6_221 (by decide) (Nat.le_of_ble_eq_true rfl) (fun σ_63 r_63 h_63 => ?_)
        obtain ⟨rfl, rfl⟩ := h_63
        refine aw_VV1 (k1_become _ (S2 / 10 ^ (5 * (k - 1 - i))) (Nat.lt_of_le_of_lt (Nat.div_le_self _ _) hS)) dX6_runScript_66 vl_6_230 rfl (by decide) (by decide) (Nat.le_of_ble_eq_true rfl) (fun σ_66 h_66 => ?_)
        obtain rfl := h_66
        refine AW.eqs (kS_H (by decide)) ?_
        refine aw_aload0 dX6_runScript_69 ?_
        refine aw_getR dX6_runScript_70 fR_6_41 rfl (by decide) ((sH_R (σ := kS τ2 (S2 / 10 ^ (5 * (k - 1 - i)) % 100000)) (by omega)).trans hFq.1.2.2.2.2.2.1) ?_
        refine aw_aload0 dX6_runScript_73 ?_
        refine aw_getR dX6_runScript_74 fR_6_45 rfl (by decide) ((sH_R (σ := kS τ2 (S2 / 10 ^ (5 * (k - 1 - i)) % 100000)) (by omega)).trans hFq.1.2.2.2.2.2.2.1) ?_
        refine aw_VI1 (k1_succeedsOn (kS τ2 (S2 / 10 ^ (5 * (k - 1 - i)) % 100000)) 308 π2 nr ng nb2 t2 e (S2 / 10 ^ (5 * (k - 1 - i)) % 100000) hc2 hw2 (by decide) kS_KD (Nat.mod_lt _ (by decide))) dX6_runScript_77 vl_6_234 rfl (by decide) (by decide) (Nat.le_of_ble_eq_true rfl) (fun σ_77 r_77 h_77 => ?_)
        rcases h_77 with ⟨rfl, e3, nb3, π3, σ3, ho, rfl, hp3, hoe⟩ | ⟨rfl, ho, rfl⟩
        · rw [show k - i = k - 1 - i + 1 by omega, fRun_s ho] at hV
          refine aw_if_ne (tgt := 86) dX6_runScript_80 (by decide) (fun _ => ?_) (fun c_80 => absurd c_80 (by decide))
          refine aw_iinc4 (w := nI (i + 1)) dX6_runScript_86 (nI_1 i) (by decide) rfl ?_
          refine aw_goto (tgt := 46) dX6_runScript_89 (by decide) ?_
          obtain ⟨-, t3, ht3, hw3⟩ := hw2.does ht2 ho
          exact ih (i + 1) k S2 nb3 t3 σ3 π3 e3 V rfl rfl hk3 hS hA (hq.k.oe hoe) (hoe.HC (show HC (kS τ2 _) 308 π2 from hc2) hp3) hw3 ht3 hVal (by rw [show k - (i + 1) = k - 1 - i by omega]; exact hV) (by omega) (by omega)
        · refine aw_if_ne (tgt := 86) dX6_runScript_80 (by decide) (fun c_80 => absurd c_80 (by decide)) (fun _ => ?_)
          rw [show k - i = k - 1 - i + 1 by omega, fRun_n ho, show k - (k - 1 - i + 1) = i by omega] at hV
          refine aw_iload4 dX6_runScript_83 ?_
          exact aw_iret dX6_runScript_85 rfl (by decide) (oX_i (cd1_0 hA) (hq.k.t8 hc2.2.2) (hVal.trans hV.symm))
  refine aw_iload1 dX6_runScript_0 ?_
  refine aw_iconst (v := 1) dX6_runScript_1 (by decide) ?_
  refine aw_iconst (v := 3) dX6_runScript_2 (by decide) ?_
  refine aw_SXV3 (k6_requireRange _ _ _ _) dX6_runScript_3 sl_6_51 (by decide) (Nat.le_of_ble_eq_true rfl) rfl (fun σ2 E h => gx1 h scr_rng) (fun σ_3 h_3 => ?_)
  obtain ⟨rfl, q_3⟩ := h_3
  obtain ⟨k, hk, rfl⟩ := Int32.rng (n := 3) (by omega) (Int32.le_trans (by decide) q_3.1) q_3.2
  have hk1 : 1 ≤ k := (nI_leI (a := 1) (by omega) (by omega)).mp q_3.1
  refine aw_lload2 dX6_runScript_6 ?_
  refine aw_lconst (v := 0) dX6_runScript_7 (by decide) ?_
  refine aw_lcmp dX6_runScript_8 ?_
  refine aw_if_lt (tgt := 22) dX6_runScript_9 (by decide) (fun c_9 => ?_) (fun c_9 => ?_)
  · exact aw_throw (E := eA) (text := "a script has 0 to 5 * n digits") dX6_runScript_22 dX6_runScript_25 dX6_runScript_26 dX6_runScript_28 dX6_runScript_31 rfl cl_6_225 ei_eA (List.mem_of_getElem? (i := 13) rfl) ex_eA at_eA go_eA_225 rfl (by decide) (by decide) (by decide) (hx1 (fun z => by
          first
            | (obtain ⟨k2, -, -, -, z0, -⟩ := z; exact Int64.not_lt.mpr z0 ((lg_cmp_lt _ _).mp c_9))
            | exact c_19 ((lg_cmp_eq _ _).mpr (by rw [(scr_iff hk1 hk hS).mp z]; rfl))))
  · obtain ⟨S2, hS, rfl⟩ := pk_lOf (x := s) (fun z => c_9 ((lg_cmp_lt _ _).mpr z))
    refine aw_lload2 dX6_runScript_12 ?_
    refine aw_iload1 dX6_runScript_13 ?_
    refine aw_SL2 (k1_withoutLast _ S2 k hS (by omega)) dX6_runScript_14 sl_6_221 (by decide) (Nat.le_of_ble_eq_true rfl) (fun σ_14 r_14 h_14 => ?_)
    obtain ⟨rfl, rfl⟩ := h_14
    refine aw_lconst (v := 0) dX6_runScript_17 (by decide) ?_
    refine aw_lcmp dX6_runScript_18 ?_
    refine aw_if_eq (tgt := 32) dX6_runScript_19 (by decide) (fun c_19 => ?_) (fun c_19 => ?_)
    · have hA : scrA (nI k) (lN S2) := (scr_iff hk1 hk hS).mpr ((pk_lEQ (b := 0) (Nat.lt_of_le_of_lt (Nat.div_le_self _ _) hS) (by decide)).mp ((lg_cmp_eq _ _).mp (by first | exact c_19 | exact Classical.not_not.mp c_19)))
      refine aw_aload0 dX6_runScript_32 ?_
      refine aw_getR dX6_runScript_33 fR_6_45 rfl (by decide) ((sH_R (σ := σ) (h := 3) (nr := nr) (ng := ng) (nb := nb) (g := g) (π := π) (by omega)).trans hF.1.2.2.2.2.2.2.1) ?_
      refine aw_aload0 dX6_runScript_36 ?_
      refine aw_getR dX6_runScript_37 fR_6_19 rfl (by decide) ((sH_R (σ := σ) (h := 3) (nr := nr) (ng := ng) (nb := nb) (g := g) (π := π) (by omega)).trans hF.1.2.1) ?_
      refine aw_VV1 kC dX6_runScript_40 vl_6_76 HT_308.1 (by decide) (by decide) (Nat.le_of_ble_eq_true rfl) (fun σ_40 h_40 => ?_)
      obtain rfl := h_40
      refine aw_iconst (v := 0) dX6_runScript_43 (by decide) ?_
      refine aw_istore4 dX6_runScript_44 (by decide) rfl ?_
      exact L46 (k + 1) 0 k S2 nb t τ πt g _ rfl rfl hk hS hA hD.dq hct hw (by omega) rfl (by rw [show cN (nI k) = k from nI_clamp (by omega), lC_N hS]; rfl) (Nat.zero_le _) (by omega)
    · exact aw_throw (E := eA) (text := "a script has 0 to 5 * n digits") dX6_runScript_22 dX6_runScript_25 dX6_runScript_26 dX6_runScript_28 dX6_runScript_31 rfl cl_6_225 ei_eA (List.mem_of_getElem? (i := 13) rfl) ex_eA at_eA go_eA_225 rfl (by decide) (by decide) (by decide) (hx1 (fun z => by
            first
              | (obtain ⟨k2, -, -, -, z0, -⟩ := z; exact Int64.not_lt.mpr z0 ((lg_cmp_lt _ _).mp c_9))
              | exact c_19 ((lg_cmp_eq _ _).mpr (by rw [(scr_iff hk1 hk hS).mp z]; rfl))))
theorem mn9_eq {x : Int32} : (if 9999 < x then 9999 else x) = mn9 x := by
  unfold mn9
  by_cases h : x ≤ 9999
  · rw [if_pos h, if_neg (Int32.not_lt.mpr h)]
  · rw [if_neg h, if_pos (Int32.not_le.mp h)]
set_option maxHeartbeats 4000000 in
theorem k6_simulate (σ : Sg) (π : Nat → Nat) (nr ng nb t : Nat) (g : Rw) (n c : Nat) (T : Rw) (M S : Nat → Rw) (B : Nat → Bool) (seed : Int64) (v : Int32) (hJ : KJ σ n T c M B S) (hc : HC σ 3 π) (hw : WF g nr ng nb t) (ht : t ≤ 240) (hcb : CB g nb (4 * t)) : Ct yX6_simulate cX6_simulate mX6_simulate 7 8 48 NN false (sH σ 3 π nr ng nb g) [.ref 0, .long seed, .int v] NN (oX (cd1 (1 ≤ v ∧ v ≤ 99)) (DG (sH σ 3 π nr ng nb g)) (simV g (fSim nr nb (cN v) g seed))) (x1 (sH σ 3 π nr ng nb g) (cd1 (1 ≤ v ∧ v ≤ 99)) eA) := by
  refine ct_of (ls0 := [some (.ref 0), some (.long seed), none, some (.int v), none, none, none, none]) 4 (by decide +kernel) rfl rfl (ndR (ndL (ndI nd0))) rfl (Nat.le_of_ble_eq_true rfl) (fun K => ?_)
  have hnr4 := hw.nr4
  have hng6 := hw.ng6
  have hnb12 := hw.nb12
  obtain ⟨hF, hBB, ⟨hT1, hT2, hT3⟩, hMe, hSv⟩ := id hJ
  have hS3 : SA (sH σ 3 π nr ng nb g) 3 g := SA.mk hc hw ht hcb
  have hJ3 := hJ.h3 (nr := nr) (ng := ng) (nb := nb) (g := g) hc.2.2
  obtain ⟨τ, πt, hct, hD, kC⟩ := k6_trial hJ hc hw
  have hJt := hJ3.dg hD
  have hFt := hJt.1
  have L24 : ∀ (f : Nat) (i k t2 : Nat) (e V : Rw) (y : Int64) (x7 : Option Value) (hv : v = nI k) (hk : k ≤ 99) (hA : 1 ≤ v ∧ v ≤ 99) (hwe : WF e nr ng nb t2) (hVal : (simV g (fSim nr nb (cN v) g seed)) = simV g V) (hV : fSim nr nb (k - i) e y = V) (h1 : i ≤ k) (h2 : k - i < f), AW K RX6 cX6_simulate mX6_simulate 7 8 48 (Qm K NN (oX (cd1 (1 ≤ v ∧ v ≤ 99)) (DG (sH σ 3 π nr ng nb g)) (simV g (fSim nr nb (cN v) g seed))) (x1 (sH σ 3 π nr ng nb g) (cd1 (1 ≤ v ∧ v ≤ 99)) eA) 8 48) NN none (sH τ 308 πt nr ng nb e) 1 6 24 [some (.ref 0), some (.long seed), none, some (.int v), some (.long y), none, some (.int (nI i)), x7] [] := by
    intro f
    induction f with
    | zero => intro i k t2 e V y x7 hv hk hA hwe hVal hV h1 h2; exact absurd h2 (Nat.not_lt_zero _)
    | succ f ih =>
      intro i k t2 e V y x7 hv hk hA hwe hVal hV h1 h2
      subst hv
      refine aw_iload6 dX6_simulate_24 ?_
      refine aw_iload3 dX6_simulate_26 ?_
      refine aw_ic_ge (tgt := 109) dX6_simulate_27 (by decide) (fun c_27 => ?_) (fun c_27 => ?_)
      · have hVe : e = V := by
          first
            | (have hbb : i = k := by
                 have := (nI_leI (by omega) (by omega)).mp c_27
                 omega
               rw [← hV, hbb, show k - k = 0 by omega]
               rfl)
            | (rw [fSim_e (fun h => Int32.not_lt.mpr c_40 h)] at hV
               exact hV)
        subst hVe
        refine aw_aload0 dX6_simulate_109 ?_
        refine aw_getR dX6_simulate_110 fR_6_45 rfl (by decide) ((sH_R (σ := τ) (by omega)).trans hFt.1.2.2.2.2.2.2.1) ?_
        refine aw_getI dX6_simulate_113 fI_6_245 HT_308.1 (by decide) sH_par ?_
        refine aw_aload0 dX6_simulate_116 ?_
        refine aw_getR dX6_simulate_117 fR_6_19 rfl (by decide) ((sH_R (σ := τ) (by omega)).trans hFt.1.2.1) ?_
        refine aw_getI dX6_simulate_120 fI_6_245 hc.t hc.l ((sH_out (σ := τ) (by omega)).trans ((hD.1 _ _ (by omega) (by omega)).trans sH_par)) ?_
        refine aw_isub dX6_simulate_123 ?_
        refine aw_sipush (v := 9999) dX6_simulate_124 (by decide) ?_
        refine aw_mmin dX6_simulate_127 jl_6_248 mm_smin mm_i mm_cmin (by decide) (Nat.le_of_ble_eq_true rfl) ?_
        rw [show (if 9999 < e 7 - g 7 then 9999 else e 7 - g 7) = mn9 (e 7 - g 7) from mn9_eq]
        refine aw_istore6 dX6_simulate_130 (by decide) rfl ?_
        refine aw_sipush (v := 1000) dX6_simulate_132 (by decide) ?_
        refine aw_iload6 dX6_simulate_135 ?_
        refine aw_imul dX6_simulate_137 ?_
        refine aw_aload0 dX6_simulate_138 ?_
        refine aw_getR dX6_simulate_139 fR_6_45 rfl (by decide) ((sH_R (σ := τ) (by omega)).trans hFt.1.2.2.2.2.2.2.1) ?_
        refine aw_getI dX6_simulate_142 fI_6_254 HT_308.1 (by decide) sH_hea ?_
        refine aw_aload0 dX6_simulate_145 ?_
        refine aw_getR dX6_simulate_146 fR_6_19 rfl (by decide) ((sH_R (σ := τ) (by omega)).trans hFt.1.2.1) ?_
        refine aw_getI dX6_simulate_149 fI_6_254 hc.t hc.l ((sH_out (σ := τ) (by omega)).trans ((hD.1 _ _ (by omega) (by omega)).trans sH_hea)) ?_
        refine aw_isub dX6_simulate_152 ?_
        refine aw_iadd dX6_simulate_153 ?_
        exact aw_iret dX6_simulate_154 rfl (by decide) (oX_i (cd1_0 hA) (hD.t8 hct.2.2) (hVal.trans i32_as))
      · have hlt : i < k := by
          rcases Nat.lt_or_ge i k with q | q
          · exact q
          · exact absurd (nI_le q (by omega)) c_27
        refine aw_aload0 dX6_simulate_30 ?_
        refine aw_getR dX6_simulate_31 fR_6_45 rfl (by decide) ((sH_R (σ := τ) (by omega)).trans hFt.1.2.2.2.2.2.2.1) ?_
        refine aw_getI dX6_simulate_34 fI_6_116 HT_308.1 (by decide) sH_hour ?_
        refine aw_sipush (v := 240) dX6_simulate_37 (by decide) ?_
        refine aw_ic_ge (tgt := 109) dX6_simulate_40 (by decide) (fun c_40 => ?_) (fun c_40 => ?_)
        · have hVe : e = V := by
            first
              | (have hbb : i = k := by
                   have := (nI_leI (by omega) (by omega)).mp c_27
                   omega
                 rw [← hV, hbb, show k - k = 0 by omega]
                 rfl)
              | (rw [fSim_e (fun h => Int32.not_lt.mpr c_40 h)] at hV
                 exact hV)
          subst hVe
          refine aw_aload0 dX6_simulate_109 ?_
          refine aw_getR dX6_simulate_110 fR_6_45 rfl (by decide) ((sH_R (σ := τ) (by omega)).trans hFt.1.2.2.2.2.2.2.1) ?_
          refine aw_getI dX6_simulate_113 fI_6_245 HT_308.1 (by decide) sH_par ?_
          refine aw_aload0 dX6_simulate_116 ?_
          refine aw_getR dX6_simulate_117 fR_6_19 rfl (by decide) ((sH_R (σ := τ) (by omega)).trans hFt.1.2.1) ?_
          refine aw_getI dX6_simulate_120 fI_6_245 hc.t hc.l ((sH_out (σ := τ) (by omega)).trans ((hD.1 _ _ (by omega) (by omega)).trans sH_par)) ?_
          refine aw_isub dX6_simulate_123 ?_
          refine aw_sipush (v := 9999) dX6_simulate_124 (by decide) ?_
          refine aw_mmin dX6_simulate_127 jl_6_248 mm_smin mm_i mm_cmin (by decide) (Nat.le_of_ble_eq_true rfl) ?_
          rw [show (if 9999 < e 7 - g 7 then 9999 else e 7 - g 7) = mn9 (e 7 - g 7) from mn9_eq]
          refine aw_istore6 dX6_simulate_130 (by decide) rfl ?_
          refine aw_sipush (v := 1000) dX6_simulate_132 (by decide) ?_
          refine aw_iload6 dX6_simulate_135 ?_
          refine aw_imul dX6_simulate_137 ?_
          refine aw_aload0 dX6_simulate_138 ?_
          refine aw_getR dX6_simulate_139 fR_6_45 rfl (by decide) ((sH_R (σ := τ) (by omega)).trans hFt.1.2.2.2.2.2.2.1) ?_
          refine aw_getI dX6_simulate_142 fI_6_254 HT_308.1 (by decide) sH_hea ?_
          refine aw_aload0 dX6_simulate_145 ?_
          refine aw_getR dX6_simulate_146 fR_6_19 rfl (by decide) ((sH_R (σ := τ) (by omega)).trans hFt.1.2.1) ?_
          refine aw_getI dX6_simulate_149 fI_6_254 hc.t hc.l ((sH_out (σ := τ) (by omega)).trans ((hD.1 _ _ (by omega) (by omega)).trans sH_hea)) ?_
          refine aw_isub dX6_simulate_152 ?_
          refine aw_iadd dX6_simulate_153 ?_
          exact aw_iret dX6_simulate_154 rfl (by decide) (oX_i (cd1_0 hA) (hD.t8 hct.2.2) (hVal.trans i32_as))
        · rw [show k - i = k - i - 1 + 1 by omega, fSim_s (Int32.not_le.mp c_40)] at hV
          refine aw_lload4 dX6_simulate_43 ?_
          refine aw_ldc2 dX6_simulate_45 kl_6_238 ?_
          refine aw_lmul dX6_simulate_48 ?_
          refine aw_ldc2 dX6_simulate_49 kl_6_240 ?_
          refine aw_ladd dX6_simulate_52 ?_
          refine aw_lstore4 dX6_simulate_53 (by decide) rfl ?_
          refine aw_lload4 dX6_simulate_55 ?_
          refine aw_bipush (v := 33) dX6_simulate_57 (by decide) ?_
          refine aw_lushr dX6_simulate_59 ?_
          refine aw_l2i dX6_simulate_60 ?_
          refine aw_istore7 dX6_simulate_61 (by decide) rfl ?_
          refine aw_aload0 dX6_simulate_63 ?_
          refine aw_getR dX6_simulate_64 fR_6_45 rfl (by decide) ((sH_R (σ := τ) (by omega)).trans hFt.1.2.2.2.2.2.2.1) ?_
          refine aw_iload7 dX6_simulate_67 ?_
          refine aw_bipush (v := 30) dX6_simulate_69 (by decide) ?_
          refine aw_irem dX6_simulate_71 (by decide) ?_
          refine aw_bipush (v := 10) dX6_simulate_72 (by decide) ?_
          refine aw_isub dX6_simulate_74 ?_
          refine aw_putI dX6_simulate_75 fP_6_175 HT_308.1 (by decide) ?_
          refine AW.eqs (sW_i (j := 1) (by unfold isI; omega)) ?_
          refine aw_iload7 dX6_simulate_78 ?_
          refine aw_bipush (v := 64) dX6_simulate_80 (by decide) ?_
          refine aw_idiv dX6_simulate_82 (by decide) ?_
          refine aw_bipush (v := 8) dX6_simulate_83 (by decide) ?_
          refine aw_irem dX6_simulate_85 (by decide) ?_
          refine aw_if_ne (tgt := 96) dX6_simulate_86 (by decide) (fun c_86 => ?_) (fun c_86 => ?_)
          · refine AW.eqs (show _ = sH τ 308 πt nr ng nb (simMark e nr nb (lcr (lcg y))) from congrArg (sH τ 308 πt nr ng nb) (by first | exact (if_pos c_86).symm | exact (if_neg c_86).symm)) ?_
            refine aw_aload0 dX6_simulate_96 ?_
            refine aw_getR dX6_simulate_97 fR_6_45 rfl (by decide) ((sH_R (σ := τ) (by omega)).trans hFt.1.2.2.2.2.2.2.1) ?_
            refine aw_VV0 (k2_letHourPass _ 308 πt nr ng nb t2 _ hct (hwe.sim _)) dX6_simulate_100 vl_6_209 HT_308.1 (by decide) (by decide) (Nat.le_of_ble_eq_true rfl) (fun σ_100 h_100 => ?_)
            obtain rfl := h_100
            refine aw_iinc6 (w := nI (i + 1)) dX6_simulate_103 (nI_1 i) (by decide) rfl ?_
            refine aw_goto (tgt := 24) dX6_simulate_106 (by decide) ?_
            exact ih (i + 1) k (t2 + 1) _ V (lcg y) _ rfl hk hA (hwe.sim _).hour hVal (by rw [show k - (i + 1) = k - i - 1 by omega]; exact hV) (by omega) (by omega)
          · refine aw_aload0 dX6_simulate_89 ?_
            refine aw_getR dX6_simulate_90 fR_6_45 rfl (by decide) ((sH_R (σ := τ) (by omega)).trans hFt.1.2.2.2.2.2.2.1) ?_
            refine aw_VV0 (k2_markAll _ 308 πt nr ng nb t2 (simOut e (lcr (lcg y))) hct (hwe.out _)) dX6_simulate_93 vl_6_242 HT_308.1 (by decide) (by decide) (Nat.le_of_ble_eq_true rfl) (fun σ_93 h_93 => ?_)
            obtain rfl := h_93
            refine AW.eqs (show _ = sH τ 308 πt nr ng nb (simMark e nr nb (lcr (lcg y))) from congrArg (sH τ 308 πt nr ng nb) (by first | exact (if_pos c_86).symm | exact (if_neg c_86).symm)) ?_
            refine aw_aload0 dX6_simulate_96 ?_
            refine aw_getR dX6_simulate_97 fR_6_45 rfl (by decide) ((sH_R (σ := τ) (by omega)).trans hFt.1.2.2.2.2.2.2.1) ?_
            refine aw_VV0 (k2_letHourPass _ 308 πt nr ng nb t2 _ hct (hwe.sim _)) dX6_simulate_100 vl_6_209 HT_308.1 (by decide) (by decide) (Nat.le_of_ble_eq_true rfl) (fun σ_100 h_100 => ?_)
            obtain rfl := h_100
            refine aw_iinc6 (w := nI (i + 1)) dX6_simulate_103 (nI_1 i) (by decide) rfl ?_
            refine aw_goto (tgt := 24) dX6_simulate_106 (by decide) ?_
            exact ih (i + 1) k (t2 + 1) _ V (lcg y) _ rfl hk hA (hwe.sim _).hour hVal (by rw [show k - (i + 1) = k - i - 1 by omega]; exact hV) (by omega) (by omega)
  refine aw_iload3 dX6_simulate_0 ?_
  refine aw_iconst (v := 1) dX6_simulate_1 (by decide) ?_
  refine aw_bipush (v := 99) dX6_simulate_2 (by decide) ?_
  refine aw_SXV3 (k6_requireRange _ _ _ _) dX6_simulate_4 sl_6_51 (by decide) (Nat.le_of_ble_eq_true rfl) rfl (fun σ2 E h => gx1 h id) (fun σ_4 h_4 => ?_)
  obtain ⟨rfl, q_4⟩ := h_4
  obtain ⟨k, hk, rfl⟩ := Int32.rng (n := 99) (by omega) (Int32.le_trans (by decide) q_4.1) q_4.2
  refine aw_aload0 dX6_simulate_7 ?_
  refine aw_getR dX6_simulate_8 fR_6_45 rfl (by decide) ((sH_R (σ := σ) (h := 3) (nr := nr) (ng := ng) (nb := nb) (g := g) (π := π) (by omega)).trans hF.1.2.2.2.2.2.2.1) ?_
  refine aw_aload0 dX6_simulate_11 ?_
  refine aw_getR dX6_simulate_12 fR_6_19 rfl (by decide) ((sH_R (σ := σ) (h := 3) (nr := nr) (ng := ng) (nb := nb) (g := g) (π := π) (by omega)).trans hF.1.2.1) ?_
  refine aw_VV1 kC dX6_simulate_15 vl_6_76 HT_308.1 (by decide) (by decide) (Nat.le_of_ble_eq_true rfl) (fun σ_15 h_15 => ?_)
  obtain rfl := h_15
  refine aw_lload1 dX6_simulate_18 ?_
  refine aw_lstore4 dX6_simulate_19 (by decide) rfl ?_
  refine aw_iconst (v := 0) dX6_simulate_21 (by decide) ?_
  refine aw_istore6 dX6_simulate_22 (by decide) rfl ?_
  exact L24 (k + 1) 0 k t g (fSim nr nb k g seed) seed none rfl hk q_4 hw (by rw [show cN (nI k) = k from nI_clamp (by omega)]) rfl (Nat.zero_le _) (by omega)
