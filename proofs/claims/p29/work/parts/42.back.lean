/-! the class: back to what was -/
theorem und_PA {σ : Sg} {n d p : Nat} {T : Rw} {M S : Nat → Rw} {B : Nat → Bool} {π : Nat → Nat} {nr ng nb t y : Nat} (hF : RF σ) (hBB : ∀ h, HL h → BB σ h) (hT : σ.1 1 1 = nI n ∧ n ≤ 120 ∧ σ.1 2 = T) (hp : p < 14) (hd : d < 14) (e3 : ∀ i, i < d + 1 → SA σ (25 + 20 * ((p + 14 - (d + 1) + i) % 14)) (M i)) (hSv : ∀ s, s < 2 → σ.1 306 s = b01 (B s) ∧ (B s = true → SA σ (348 + 20 * s) (S s))) (hc : HC σ 3 π) (hw : WF (M d) nr ng nb t) (ht : t ≤ 240) (hcb : CB (M d) nb (4 * t)) : PA σ n T d M B S (M d) (sH (oC (sI (sI σ 23 1 (nI ((p + 13) % 14))) 23 2 (nI d)) y 3) 3 π nr ng nb (M d)) := by
  have f : ∀ i j, i ≠ 23 → i ≠ 5 → (oC (sI (sI σ 23 1 (nI ((p + 13) % 14))) 23 2 (nI d)) y 3).1 i j = σ.1 i j := fun i j h1 h2 => (oC_ne (by omega)).trans ((sI_un (by omega)).trans (sI_un (by omega)))
  have g1 : (oC (sI (sI σ 23 1 (nI ((p + 13) % 14))) 23 2 (nI d)) y 3).1 23 1 = nI ((p + 13) % 14) := rfl
  have g2 : (oC (sI (sI σ 23 1 (nI ((p + 13) % 14))) 23 2 (nI d)) y 3).1 23 2 = nI d := rfl
  have r : (oC (sI (sI σ 23 1 (nI ((p + 13) % 14))) 23 2 (nI d)) y 3).2.1 = σ.2.1 := rfl
  generalize oC (sI (sI σ 23 1 (nI ((p + 13) % 14))) 23 2 (nI d)) y 3 = τ at f g1 g2 r ⊢
  have rr : ∀ i j, τ.2.1 i j = σ.2.1 i j := fun i j => by rw [r]
  have hcτ : HC τ 3 π := hc.frame (fun i j _ _ => rr i j)
  refine act_PA (nr := nr) (ng := ng) (nb := nb) ⟨hF.frame (fun i j _ _ _ => rr i j) (fun _ _ _ _ _ => trivial), fun h hh => (hBB h hh).frame (fun j => rr _ _), ⟨(f _ _ (by omega) (by omega)).trans hT.1, hT.2.1, (funext fun j => f _ _ (by omega) (by omega)).trans hT.2.2⟩, ⟨(p + 13) % 14, by omega, by omega, g1, g2, fun i hi => ?_⟩, fun s hs => ⟨(f _ _ (by omega) (by omega)).trans (hSv s hs).1, fun q => ((hSv s hs).2 q).frame (fun x j h1 h2 => f _ _ (by omega) (by omega)) (fun x j _ _ => rr x j)⟩⟩ hcτ ⟨fun i j h => f _ _ (by omega) (by omega), fun i j h => rr i j⟩ hw ht hcb
  have x := e3 i (by omega)
  rw [show (p + 14 - (d + 1) + i) % 14 = ((p + 13) % 14 + 14 - d + i) % 14 by omega] at x
  exact x.frame (fun x j h1 h2 => f _ _ (by omega) (by omega)) (fun x j _ _ => rr x j)
def savB (B : Nat → Bool) (k : Nat) : Nat → Bool := fun s => if s = k then true else B s
def savS (S : Nat → Rw) (k : Nat) (g : Rw) : Nat → Rw := fun s => if s = k then g else S s
theorem sav_PA {σ : Sg} {n c k : Nat} {T : Rw} {M S : Nat → Rw} {B : Nat → Bool} {πt : Nat → Nat} {nr ng nb t : Nat} {g : Rw} (hJ : KJ σ n T c M B S) (hS : SA σ 3 g) (hk : k < 2) (hct : HC (oC σ 3 (348 + 20 * k)) (348 + 20 * k) πt) (hw : WF g nr ng nb t) (ht : t ≤ 240) (hcb : CB g nb (4 * t)) : PA σ n T c M (savB B k) (savS S k g) g (sI (sH (oC σ 3 (348 + 20 * k)) (348 + 20 * k) πt nr ng nb g) 306 k 1) := by
  have hsl : SA (sI (sH (oC σ 3 (348 + 20 * k)) (348 + 20 * k) πt nr ng nb g) 306 k 1) (348 + 20 * k) g := (SA.mk hct hw ht hcb).frame (fun i j h1 h2 => sI_un (by omega)) (fun _ _ _ _ => rfl)
  have f : ∀ i j, (i < 348 + 20 * k ∨ 368 + 20 * k ≤ i) → ¬ (i = 306 ∧ j = k) → (sI (sH (oC σ 3 (348 + 20 * k)) (348 + 20 * k) πt nr ng nb g) 306 k 1).1 i j = σ.1 i j := fun i j h1 h2 => (sI_un h2).trans ((sH_out (by omega)).trans (oC_ne (by omega)))
  have f6 : (sI (sH (oC σ 3 (348 + 20 * k)) (348 + 20 * k) πt nr ng nb g) 306 k 1).1 306 k = 1 := if_pos ⟨rfl, rfl⟩
  have r : ∀ i j, i ≠ 348 + 20 * k + 3 → (sI (sH (oC σ 3 (348 + 20 * k)) (348 + 20 * k) πt nr ng nb g) 306 k 1).2.1 i j = σ.2.1 i j := fun i j h => sH_R (σ := oC σ 3 (348 + 20 * k)) (nr := nr) (ng := ng) (nb := nb) (g := g) h
  have rb : ∀ j, j < 12 → (sI (sH (oC σ 3 (348 + 20 * k)) (348 + 20 * k) πt nr ng nb g) 306 k 1).2.1 (348 + 20 * k + 3) j = some (348 + 20 * k + 8 + πt j) := fun j hj => sH_book (σ := oC σ 3 (348 + 20 * k)) (nr := nr) (ng := ng) (nb := nb) (g := g) hj
  have hpt := hct.2.2
  generalize sI (sH (oC σ 3 (348 + 20 * k)) (348 + 20 * k) πt nr ng nb g) 306 k 1 = τ at hsl f f6 r rb ⊢
  obtain ⟨⟨⟨a0, a1, a2, a3, a4, a5, a6, a7⟩, b, cc, d, e⟩, hBB, hT, ⟨p, hp, hc14, e1, e2, e3⟩, hSv⟩ := hJ
  have fr : ∀ i j, i ≠ 348 + 20 * k + 3 → ∀ {v}, σ.2.1 i j = v → τ.2.1 i j = v := fun i j h v q => (r i j h).trans q
  refine ⟨⟨⟨⟨fr _ _ (by omega) a0, fr _ _ (by omega) a1, fr _ _ (by omega) a2, fr _ _ (by omega) a3, fr _ _ (by omega) a4, fr _ _ (by omega) a5, fr _ _ (by omega) a6, fr _ _ (by omega) a7⟩, fr _ _ (by omega) b, ⟨fr _ _ (by omega) cc.1, fun k hk => fr _ _ (by omega) (cc.2 k hk)⟩, fun s hs => fr _ _ (by omega) (d s hs), fun h hh => ?_⟩, fun h hh => ?_, ⟨(f _ _ (by omega) (by omega)).trans hT.1, hT.2.1, (funext fun j => f _ _ (by omega) (by omega)).trans hT.2.2⟩, ⟨p, hp, hc14, (f _ _ (by omega) (by omega)).trans e1, (f _ _ (by omega) (by omega)).trans e2, fun i hi => (e3 i hi).frame (fun x j h1 h2 => f _ _ (by omega) (by omega)) (fun x j h1 h2 => r _ _ (by omega))⟩, fun s hs => ?_⟩, hS.frame (fun x j h1 h2 => f _ _ (by omega) (by omega)) (fun x j h1 h2 => r _ _ (by omega)), ⟨fun i j h => f _ _ (by omega) (by omega), fun i j h => r _ _ (by omega)⟩⟩
  · have hl : h ≠ 348 + 20 * k + 3 ∧ h + 1 ≠ 348 + 20 * k + 3 := by
      rcases hh with rfl | rfl | rfl | rfl | rfl | ⟨q, hq, rfl⟩ <;> omega
    obtain ⟨e1, e2, e3, e4⟩ := e h hh
    exact ⟨fr _ _ (by omega) e1, fr _ _ (by omega) e2, fr _ _ (by omega) e3, fun r hr => fr _ _ (by omega) (e4 r hr)⟩
  · by_cases q : h = 348 + 20 * k
    · subst q
      exact ⟨πt, hpt, rb⟩
    · exact (hBB h hh).frame (fun j => r _ _ (by omega))
  · by_cases q : s = k
    · subst q
      refine ⟨?_, fun _ => ?_⟩
      · rw [f6, savB, if_pos rfl]
        rfl
      · rw [savS, if_pos rfl]
        exact hsl
    · refine ⟨?_, fun z => ?_⟩
      · rw [f _ _ (by omega) (by omega), savB, if_neg q]
        exact (hSv s hs).1
      · rw [savB, if_neg q] at z
        rw [savS, if_neg q]
        exact ((hSv s hs).2 z).frame (fun x j h1 h2 => f _ _ (by omega) (by omega)) (fun x j h1 h2 => r _ _ (by omega))
theorem slotHL {k : Nat} (hk : k < 2) : HL (348 + 20 * k) := by
  rcases (show k = 0 ∨ k = 1 by omega) with rfl | rfl
  · exact Or.inr (Or.inr (Or.inr (Or.inl rfl)))
  · exact Or.inr (Or.inr (Or.inr (Or.inr (Or.inl rfl))))
theorem res_PA {σ : Sg} {n c y : Nat} {T : Rw} {M S : Nat → Rw} {B : Nat → Bool} {π : Nat → Nat} {nr ng nb t : Nat} {g : Rw} (hJ : KJ σ n T c M B S) (hc : HC σ 3 π) (hw : WF g nr ng nb t) (ht : t ≤ 240) (hcb : CB g nb (4 * t)) : PA σ n T 0 M B S g (sI (sH (oC σ y 3) 3 π nr ng nb g) 23 2 0) := by
  have j2 : KJ (oC σ y 3) n T c M B S := hJ.frame (fun i j h => oC_ne (by omega)) (fun _ _ _ _ _ => rfl) ((hJ.bb (Or.inl rfl)).frame (fun _ => rfl)) ((hJ.bb (Or.inr (Or.inl rfl))).frame (fun _ => rfl)) ((hJ.bb (Or.inr (Or.inr (Or.inl rfl)))).frame (fun _ => rfl))
  exact for_PA (j2.h3 hc.2.2) (SA.mk (σ := oC σ y 3) hc hw ht hcb) (FMo.h (FMo.a FMo.refl (by decide)) (by decide))
set_option maxHeartbeats 4000000 in
theorem k6_undo (σ : Sg) (π : Nat → Nat) (nr ng nb t : Nat) (g : Rw) (n c : Nat) (T : Rw) (M S : Nat → Rw) (B : Nat → Bool) (hJ : KJ σ n T c M B S) (hc : HC σ 3 π) (hw : WF g nr ng nb t) (ht : t ≤ 240) (hcb : CB g nb (4 * t)) : Ct yX6_undo cX6_undo mX6_undo 7 8 48 NN false (sH σ 3 π nr ng nb g) [.ref 0] NN (oX (cd1 (c ≠ 0)) (PA (sH σ 3 π nr ng nb g) n T (c - 1) M B S (M (c - 1))) (nI (c - 1))) (x1 (sH σ 3 π nr ng nb g) (cd1 (c ≠ 0)) eS) := by
  refine ct_of (ls0 := [some (.ref 0)]) 0 (by decide +kernel) rfl rfl (ndR nd0) rfl (Nat.le_of_ble_eq_true rfl) (fun K => ?_)
  have hnr4 := hw.nr4
  have hng6 := hw.ng6
  have hnb12 := hw.nb12
  obtain ⟨hF, hBB, ⟨hT1, hT2, hT3⟩, hMe, hSv⟩ := id hJ
  have hS3 : SA (sH σ 3 π nr ng nb g) 3 g := SA.mk hc hw ht hcb
  have hJ3 := hJ.h3 (nr := nr) (ng := ng) (nb := nb) (g := g) hc.2.2
  obtain ⟨p, hp, hc14, e1, e2, e3⟩ := hMe
  refine aw_aload0 dX6_undo_0 ?_
  refine aw_getR dX6_undo_1 fR_6_26 rfl (by decide) ((sH_R (σ := σ) (h := 3) (nr := nr) (ng := ng) (nb := nb) (g := g) (π := π) (by omega)).trans hF.1.2.2.1) ?_
  refine aw_getI dX6_undo_4 fI_6_189 rfl (by decide) ((sH_out (by omega)).trans e2) ?_
  refine aw_if_ne (tgt := 20) dX6_undo_7 (by decide) (fun c_7 => ?_) (fun c_7 => ?_)
  · obtain ⟨d, rfl⟩ : ∃ d, c = d + 1 := ⟨c - 1, by have : c ≠ 0 := fun z => c_7 (by rw [z]; rfl); omega⟩
    obtain ⟨πs, nr2, ng2, nb2, t2, ht2, hcs, hRs, hws, hbs⟩ := e3 d (by omega)
    rw [show (p + 14 - (d + 1) + d) % 14 = (p + 13) % 14 by omega] at hcs hRs
    have hsl : HL (25 + 20 * ((p + 13) % 14)) := Or.inr (Or.inr (Or.inr (Or.inr (Or.inr ⟨_, by omega, rfl⟩))))
    have kU := k4_takeBack (sH σ 3 π nr ng nb g) p d πs π nr2 ng2 nb2 t2 (M d) hJ3.1.2.2.1 hp ((sH_out (by omega)).trans e1) (by omega) ((sH_out (by omega)).trans e2) (sHc hc) (fun j hj => sH_book hj) hws (hJ3.hs hsl) hcs.2.2 (hRs.frame hcs.2.2 hws (fun i j h1 h2 => sH_out (by omega)) (fun i j h1 h2 => sH_R (by omega)))
    have hPA : PA (sH σ 3 π nr ng nb g) n T d M B S (M d) _ := und_PA (σ := (sH σ 3 π nr ng nb g)) (n := n) (d := d) (p := p) (y := 25 + 20 * ((p + 13) % 14)) (π := π) hJ3.1 hJ3.2.1 hJ3.2.2.1 hp (by omega) (fun i hi => (e3 i hi).frame (fun x j h1 h2 => sH_out (by omega)) (fun x j h1 h2 => sH_R (by omega))) hJ3.2.2.2.2 (sHc hc) hws ht2 hbs
    refine aw_aload0 dX6_undo_20 ?_
    refine aw_getR dX6_undo_21 fR_6_26 rfl (by decide) ((sH_R (σ := σ) (h := 3) (nr := nr) (ng := ng) (nb := nb) (g := g) (π := π) (by omega)).trans hF.1.2.2.1) ?_
    refine aw_aload0 dX6_undo_24 ?_
    refine aw_getR dX6_undo_25 fR_6_19 rfl (by decide) ((sH_R (σ := σ) (h := 3) (nr := nr) (ng := ng) (nb := nb) (g := g) (π := π) (by omega)).trans hF.1.2.1) ?_
    refine aw_VV1 kU dX6_undo_28 vl_6_194 rfl (by decide) (by decide) (Nat.le_of_ble_eq_true rfl) (fun σ_28 h_28 => ?_)
    obtain rfl := h_28
    refine aw_aload0 dX6_undo_31 ?_
    refine aw_getR dX6_undo_32 fR_6_26 rfl (by decide) hPA.1.1.1.2.2.1 ?_
    refine aw_getI dX6_undo_35 fI_6_189 rfl (by decide) (show _ = nI d from (sH_out (by omega)).trans ((oC_ne (by omega)).trans rfl)) ?_
    exact aw_iret dX6_undo_38 rfl (by decide) (oX_i (cd1_0 (Nat.succ_ne_zero d)) hPA rfl)
  · exact aw_throw (E := eS) (text := "no state is remembered") dX6_undo_10 dX6_undo_13 dX6_undo_14 dX6_undo_16 dX6_undo_19 rfl cl_6_59 ei_eS (List.mem_of_getElem? (i := 12) rfl) ex_eS at_eS go_eS_59 rfl (by decide) (by decide) (by decide) (hx1 (fun z => z ((nI_eq (b := 0) (by omega) (by omega)).mp (by first | exact c_7 | exact Classical.not_not.mp c_7))))
set_option maxHeartbeats 4000000 in
theorem k6_save (σ : Sg) (π : Nat → Nat) (nr ng nb t : Nat) (g : Rw) (n c : Nat) (T : Rw) (M S : Nat → Rw) (B : Nat → Bool) (v : Int32) (hJ : KJ σ n T c M B S) (hc : HC σ 3 π) (hw : WF g nr ng nb t) (ht : t ≤ 240) (hcb : CB g nb (4 * t)) : Ct yX6_save cX6_save mX6_save 7 8 48 NN false (sH σ 3 π nr ng nb g) [.ref 0, .int v] NN (oX (cd1 (0 ≤ v ∧ v ≤ 1)) (PA (sH σ 3 π nr ng nb g) n T c M (savB B (cN v)) (savS S (cN v) g) g) (g 0)) (x1 (sH σ 3 π nr ng nb g) (cd1 (0 ≤ v ∧ v ≤ 1)) eI) := by
  refine ct_of (ls0 := [some (.ref 0), some (.int v)]) 0 (by decide +kernel) rfl rfl (ndR (ndI nd0)) rfl (Nat.le_of_ble_eq_true rfl) (fun K => ?_)
  have hnr4 := hw.nr4
  have hng6 := hw.ng6
  have hnb12 := hw.nb12
  obtain ⟨hF, hBB, ⟨hT1, hT2, hT3⟩, hMe, hSv⟩ := id hJ
  have hS3 : SA (sH σ 3 π nr ng nb g) 3 g := SA.mk hc hw ht hcb
  have hJ3 := hJ.h3 (nr := nr) (ng := ng) (nb := nb) (g := g) hc.2.2
  refine aw_iload1 dX6_save_0 ?_
  refine aw_SXV1 (k6_requireSlot _ _) dX6_save_1 sl_6_257 (by decide) (Nat.le_of_ble_eq_true rfl) rfl (fun σ2 E h => gx1 h id) (fun σ_1 h_1 => ?_)
  obtain ⟨rfl, q_1⟩ := h_1
  obtain ⟨k, hk, rfl⟩ := Int32.rng (n := 1) (by omega) q_1.1 q_1.2
  have hck : cN (nI k) = k := nI_clamp (by omega)
  have hsl : HL (348 + 20 * k) := slotHL (by omega)
  obtain ⟨πt, hct, kC⟩ := k6_copy hJ3 (sHc hc) hw (sH_RH hc hnr4 hnb12) hsl (by omega)
  have hPA := sav_PA hJ3 hS3 (show k < 2 by omega) hct hw ht hcb
  have hFW : RF (sH (oC (sH σ 3 π nr ng nb g) 3 (348 + 20 * k)) (348 + 20 * k) πt nr ng nb g) := hPA.1.1
  refine aw_aload0 dX6_save_4 ?_
  refine aw_getR dX6_save_5 fR_6_30 rfl (by decide) ((sH_R (σ := σ) (h := 3) (nr := nr) (ng := ng) (nb := nb) (g := g) (π := π) (by omega)).trans hF.1.2.2.2.1) ?_
  refine aw_iload1 dX6_save_8 ?_
  refine aw_aald (j := k) dX6_save_9 rfl (by decide) (by decide) rfl (by omega) (hJ3.1.2.2.2.1 k (by omega)) ?_
  refine aw_aload0 dX6_save_10 ?_
  refine aw_getR dX6_save_11 fR_6_19 rfl (by decide) ((sH_R (σ := σ) (h := 3) (nr := nr) (ng := ng) (nb := nb) (g := g) (π := π) (by omega)).trans hF.1.2.1) ?_
  refine aw_VV1 kC dX6_save_14 vl_6_76 hsl.t.1 (by have := hsl.t.2.2.2.2.2.2; omega) (by decide) (Nat.le_of_ble_eq_true rfl) (fun σ_14 h_14 => ?_)
  obtain rfl := h_14
  refine aw_aload0 dX6_save_17 ?_
  refine aw_getR dX6_save_18 fR_6_34 rfl (by decide) hFW.1.2.2.2.2.1 ?_
  refine aw_iload1 dX6_save_21 ?_
  refine aw_iconst (v := 1) dX6_save_22 (by decide) ?_
  refine aw_zast (j := k) dX6_save_23 rfl (by decide) rfl (by omega) (by decide) ?_
  refine aw_aload0 dX6_save_24 ?_
  refine aw_getR dX6_save_25 fR_6_19 rfl (by decide) hFW.1.2.1 ?_
  refine aw_getI dX6_save_28 fI_6_116 hc.t hc.l (show _ = g 0 from (sI_un (by omega)).trans ((sH_out (by omega)).trans ((oC_ne (by omega)).trans sH_hour))) ?_
  exact aw_iret dX6_save_31 rfl (by decide) (oX_i (cd1_0 q_1) (by rw [hck]; exact hPA) rfl)
set_option maxHeartbeats 4000000 in
theorem k6_restore (σ : Sg) (π : Nat → Nat) (nr ng nb t : Nat) (g : Rw) (n c : Nat) (T : Rw) (M S : Nat → Rw) (B : Nat → Bool) (v : Int32) (hJ : KJ σ n T c M B S) (hc : HC σ 3 π) (hw : WF g nr ng nb t) (ht : t ≤ 240) (hcb : CB g nb (4 * t)) : Ct yX6_restore cX6_restore mX6_restore 7 8 48 NN false (sH σ 3 π nr ng nb g) [.ref 0, .int v] NN (oX (cd2 (0 ≤ v ∧ v ≤ 1) (B (cN v) = true)) (PA (sH σ 3 π nr ng nb g) n T 0 M B S (S (cN v))) (S (cN v) 0)) (x2 (sH σ 3 π nr ng nb g) (cd2 (0 ≤ v ∧ v ≤ 1) (B (cN v) = true)) eI eS) := by
  refine ct_of (ls0 := [some (.ref 0), some (.int v)]) 0 (by decide +kernel) rfl rfl (ndR (ndI nd0)) rfl (Nat.le_of_ble_eq_true rfl) (fun K => ?_)
  have hnr4 := hw.nr4
  have hng6 := hw.ng6
  have hnb12 := hw.nb12
  obtain ⟨hF, hBB, ⟨hT1, hT2, hT3⟩, hMe, hSv⟩ := id hJ
  have hS3 : SA (sH σ 3 π nr ng nb g) 3 g := SA.mk hc hw ht hcb
  have hJ3 := hJ.h3 (nr := nr) (ng := ng) (nb := nb) (g := g) hc.2.2
  refine aw_iload1 dX6_restore_0 ?_
  refine aw_SXV1 (k6_requireSlot _ _) dX6_restore_1 sl_6_257 (by decide) (Nat.le_of_ble_eq_true rfl) rfl (fun σ2 E h => gx2 h id) (fun σ_1 h_1 => ?_)
  obtain ⟨rfl, q_1⟩ := h_1
  obtain ⟨k, hk, rfl⟩ := Int32.rng (n := 1) (by omega) q_1.1 q_1.2
  have hck : cN (nI k) = k := nI_clamp (by omega)
  have hsl : HL (348 + 20 * k) := slotHL (by omega)
  refine aw_aload0 dX6_restore_4 ?_
  refine aw_getR dX6_restore_5 fR_6_34 rfl (by decide) ((sH_R (σ := σ) (h := 3) (nr := nr) (ng := ng) (nb := nb) (g := g) (π := π) (by omega)).trans hF.1.2.2.2.2.1) ?_
  refine aw_iload1 dX6_restore_8 ?_
  refine aw_zald (j := k) dX6_restore_9 rfl (by decide) rfl (by omega) ((sH_out (by omega)).trans (hSv k (by omega)).1) ?_
  refine aw_if_ne (tgt := 24) dX6_restore_10 (by decide) (fun c_10 => ?_) (fun c_10 => ?_)
  · have hB1 : B k = true := by
      cases hb : B k
      · rw [hb] at c_10
        exact absurd rfl c_10
      · rfl
    obtain ⟨πs, nr2, ng2, nb2, t2, ht2, hcs, hRs, hws, hbs⟩ := (hSv k (by omega)).2 hB1
    have kC := k2_copyR (sH σ 3 π nr ng nb g) 3 (348 + 20 * k) π πs nr2 ng2 nb2 t2 (S k) (sHc hc) (fun j hj => sH_book hj) hws hsl.t (hJ3.hs hsl) hcs.2.2 (hRs.frame hcs.2.2 hws (fun i j h1 h2 => sH_out (by omega)) (fun i j h1 h2 => sH_R (by omega))) (by omega)
    have hPA := res_PA (y := 348 + 20 * k) hJ3 (sHc hc) hws ht2 hbs
    have hFW : RF (sH (oC (sH σ 3 π nr ng nb g) (348 + 20 * k) 3) 3 π nr2 ng2 nb2 (S k)) := hPA.1.1
    refine aw_aload0 dX6_restore_24 ?_
    refine aw_getR dX6_restore_25 fR_6_19 rfl (by decide) ((sH_R (σ := σ) (h := 3) (nr := nr) (ng := ng) (nb := nb) (g := g) (π := π) (by omega)).trans hF.1.2.1) ?_
    refine aw_aload0 dX6_restore_28 ?_
    refine aw_getR dX6_restore_29 fR_6_30 rfl (by decide) ((sH_R (σ := σ) (h := 3) (nr := nr) (ng := ng) (nb := nb) (g := g) (π := π) (by omega)).trans hF.1.2.2.2.1) ?_
    refine aw_iload1 dX6_restore_32 ?_
    refine aw_aald (j := k) dX6_restore_33 rfl (by decide) (by decide) rfl (by omega) (hJ3.1.2.2.2.1 k (by omega)) ?_
    refine aw_VV1 kC dX6_restore_34 vl_6_76 hc.t hc.l (by decide) (Nat.le_of_ble_eq_true rfl) (fun σ_34 h_34 => ?_)
    obtain rfl := h_34
    refine aw_aload0 dX6_restore_37 ?_
    refine aw_getR dX6_restore_38 fR_6_26 rfl (by decide) hFW.1.2.2.1 ?_
    refine aw_VV0 (k4_forgetAll _) dX6_restore_41 vl_6_80 rfl (by decide) (by decide) (Nat.le_of_ble_eq_true rfl) (fun σ_41 h_41 => ?_)
    obtain rfl := h_41
    refine aw_aload0 dX6_restore_44 ?_
    refine aw_getR dX6_restore_45 fR_6_19 rfl (by decide) hFW.1.2.1 ?_
    refine aw_getI dX6_restore_48 fI_6_116 hc.t hc.l (show _ = S k 0 from (sI_un (by omega)).trans sH_hour) ?_
    exact aw_iret dX6_restore_51 rfl (by decide) (oX_i (cd2_0 q_1 (by rw [hck]; exact hB1)) (by rw [hck]; exact hPA) (by rw [hck]))
  · exact aw_throwW (E := eS) (text := "nothing has been saved in this slot since the last load") dX6_restore_13 dX6_restore_16 dX6_restore_17 dX6_restore_20 dX6_restore_23 rfl cl_6_59 ei_eS (List.mem_of_getElem? (i := 15) rfl) ex_eS at_eS go_eS_59 rfl (by decide) (by decide) (by decide) (hx2 q_1 (by rw [hck]; exact fun z => by rw [z] at c_10; exact absurd c_10 (by decide)))
