/-! the class: text and questions -/
theorem sI_un {σ : Sg} {i j x y : Nat} {v : Int32} (h : ¬ (x = i ∧ y = j)) : (sI σ i j v).1 x y = σ.1 x y := if_neg h
def oX (cd : Int32) (po : Sg → Prop) (val : Int32) : PT := rI fun σ' v => cd = 0 ∧ po σ' ∧ val = v
theorem oX_i {cd val v : Int32} {po : Sg → Prop} {τ : Sg} (h : 0 = cd) (hp : po τ) (hv : val = v) : oX cd po val τ (some (.int v)) := ⟨_, rfl, h.symm, hp, hv⟩
theorem app_PA {σ : Sg} {n c : Nat} {T : Rw} {M S : Nat → Rw} {B : Nat → Bool} {g : Rw} {v : Int32} (hJ : KJ σ n T c M B S) (hn : n < 120) (hS : SA σ 3 g) : PA σ (n + 1) (upd T n v) c M B S g (sI (sI σ 2 n v) 1 1 (nI n + 1)) := by
  obtain ⟨hF, hBB, ⟨ht1, ht2, ht3⟩, ⟨p, hp, hc14, e1, e2, e3⟩, hSv⟩ := hJ
  have f : ∀ i j, i ≠ 1 → i ≠ 2 → (sI (sI σ 2 n v) 1 1 (nI n + 1)).1 i j = σ.1 i j := fun i j h1 h2 => (if_neg (fun z => h1 z.1)).trans (if_neg (fun z => h2 z.1))
  refine ⟨⟨hF, hBB, ⟨nI_1 n, by omega, funext fun j => ?_⟩, ⟨p, hp, hc14, (f _ _ (by omega) (by omega)).trans e1, (f _ _ (by omega) (by omega)).trans e2, fun i hi => (e3 i hi).frame (fun x j h1 h2 => f _ _ (by omega) (by omega)) (fun _ _ _ _ => rfl)⟩, fun s hs => ⟨(f _ _ (by omega) (by omega)).trans (hSv s hs).1, fun q => ((hSv s hs).2 q).frame (fun x j h1 h2 => f _ _ (by omega) (by omega)) (fun _ _ _ _ => rfl)⟩⟩, hS.frame (fun x j h1 h2 => f _ _ (by omega) (by omega)) (fun _ _ _ _ => rfl), ⟨fun i j h => f _ _ (by omega) (by omega), fun _ _ _ => rfl⟩⟩
  show (if (2 : Nat) = 1 ∧ j = 1 then nI n + 1 else if (2 : Nat) = 2 ∧ j = n then v else σ.1 2 j) = if j = n then v else T j
  rw [if_neg (by omega), ← ht3]
  by_cases q : j = n
  · rw [if_pos q, if_pos ⟨rfl, q⟩]
  · rw [if_neg q, if_neg (fun z => q z.2)]
theorem clr_PA {σ : Sg} {n c : Nat} {T : Rw} {M S : Nat → Rw} {B : Nat → Bool} {g : Rw} (hJ : KJ σ n T c M B S) (hS : SA σ 3 g) : PA σ 0 T c M B S g (sI σ 1 1 0) := by
  obtain ⟨hF, hBB, ⟨ht1, ht2, ht3⟩, ⟨p, hp, hc14, e1, e2, e3⟩, hSv⟩ := hJ
  have f : ∀ i j, i ≠ 1 → (sI σ 1 1 0).1 i j = σ.1 i j := fun i j h1 => if_neg (fun z => h1 z.1)
  exact ⟨⟨hF, hBB, ⟨rfl, by omega, (funext fun j => f _ _ (by omega)).trans ht3⟩, ⟨p, hp, hc14, (f _ _ (by omega)).trans e1, (f _ _ (by omega)).trans e2, fun i hi => (e3 i hi).frame (fun x j h1 h2 => f _ _ (by omega)) (fun _ _ _ _ => rfl)⟩, fun s hs => ⟨(f _ _ (by omega)).trans (hSv s hs).1, fun q => ((hSv s hs).2 q).frame (fun x j h1 h2 => f _ _ (by omega)) (fun _ _ _ _ => rfl)⟩⟩, hS.frame (fun x j h1 h2 => f _ _ (by omega)) (fun _ _ _ _ => rfl), ⟨fun i j h => f _ _ (by omega), fun _ _ _ => rfl⟩⟩
/-- nothing is remembered, nothing is saved -/
theorem for_PA {σ τ : Sg} {n c : Nat} {T : Rw} {M S : Nat → Rw} {B : Nat → Bool} {g : Rw} (hJ : KJ τ n T c M B S) (hS : SA τ 3 g) (hf : FMo σ τ) : PA σ n T 0 M B S g (sI τ 23 2 0) := by
  obtain ⟨hF, hBB, hT, ⟨p, hp, hc14, e1, e2, e3⟩, hSv⟩ := hJ
  have f : ∀ i j, i ≠ 23 → (sI τ 23 2 0).1 i j = τ.1 i j := fun i j h1 => if_neg (fun z => h1 z.1)
  exact ⟨⟨hF, hBB, ⟨(f _ _ (by omega)).trans hT.1, hT.2.1, (funext fun j => f _ _ (by omega)).trans hT.2.2⟩, ⟨p, hp, Nat.zero_le _, (sI_un (by omega)).trans e1, rfl, fun i hi => absurd hi (Nat.not_lt_zero _)⟩, fun s hs => ⟨(f _ _ (by omega)).trans (hSv s hs).1, fun q => ((hSv s hs).2 q).frame (fun x j h1 h2 => f _ _ (by omega)) (fun _ _ _ _ => rfl)⟩⟩, hS.frame (fun x j h1 h2 => f _ _ (by omega)) (fun _ _ _ _ => rfl), hf.i (by decide)⟩
theorem uns_PA {σ τ : Sg} {n c : Nat} {T : Rw} {M S : Nat → Rw} {B : Nat → Bool} {g : Rw} (hP : PA σ n T c M B S g τ) : PA σ n T c M (fun _ => false) S g (sI (sI τ 306 0 0) 306 1 0) := by
  obtain ⟨⟨hF, hBB, hT, ⟨p, hp, hc14, e1, e2, e3⟩, hSv⟩, hS, hf⟩ := hP
  have f : ∀ i j, i ≠ 306 → (sI (sI τ 306 0 0) 306 1 0).1 i j = τ.1 i j := fun i j h1 => (if_neg (fun z => h1 z.1)).trans (if_neg (fun z => h1 z.1))
  refine ⟨⟨hF, hBB, ⟨(f _ _ (by omega)).trans hT.1, hT.2.1, (funext fun j => f _ _ (by omega)).trans hT.2.2⟩, ⟨p, hp, hc14, (f _ _ (by omega)).trans e1, (f _ _ (by omega)).trans e2, fun i hi => (e3 i hi).frame (fun x j h1 h2 => f _ _ (by omega)) (fun _ _ _ _ => rfl)⟩, fun s hs => ⟨?_, fun q => absurd q Bool.false_ne_true⟩⟩, hS.frame (fun x j h1 h2 => f _ _ (by omega)) (fun _ _ _ _ => rfl), (hf.i (by decide)).i (by decide)⟩
  rcases (show s = 0 ∨ s = 1 by omega) with rfl | rfl <;> rfl
set_option maxHeartbeats 4000000 in
theorem k6_append (σ : Sg) (π : Nat → Nat) (nr ng nb t : Nat) (g : Rw) (n c : Nat) (T : Rw) (M S : Nat → Rw) (B : Nat → Bool) (v : Int32) (hJ : KJ σ n T c M B S) (hc : HC σ 3 π) (hw : WF g nr ng nb t) (ht : t ≤ 240) (hcb : CB g nb (4 * t)) : Ct yX6_append cX6_append mX6_append 7 8 48 NN false (sH σ 3 π nr ng nb g) [.ref 0, .int v] NN (oX (cd2 (0 ≤ v ∧ v ≤ 255) (n < 120)) (PA (sH σ 3 π nr ng nb g) (n + 1) (upd T n v) c M B S g) (nI n + 1)) (x2 (sH σ 3 π nr ng nb g) (cd2 (0 ≤ v ∧ v ≤ 255) (n < 120)) eA eS) := by
  refine ct_of (ls0 := [some (.ref 0), some (.int v)]) 0 (by decide +kernel) rfl rfl (ndR (ndI nd0)) rfl (Nat.le_of_ble_eq_true rfl) (fun K => ?_)
  have hnr4 := hw.nr4
  have hng6 := hw.ng6
  have hnb12 := hw.nb12
  obtain ⟨hF, hBB, ⟨hT1, hT2, hT3⟩, hMe, hSv⟩ := id hJ
  have hS3 : SA (sH σ 3 π nr ng nb g) 3 g := SA.mk hc hw ht hcb
  have hJ3 := hJ.h3 (nr := nr) (ng := ng) (nb := nb) (g := g) hc.2.2
  refine aw_iload1 dX6_append_0 ?_
  refine aw_iconst (v := 0) dX6_append_1 (by decide) ?_
  refine aw_sipush (v := 255) dX6_append_2 (by decide) ?_
  refine aw_SXV3 (k6_requireRange _ _ _ _) dX6_append_5 sl_6_51 (by decide) (Nat.le_of_ble_eq_true rfl) rfl (fun σ2 E h => gx2 h id) (fun σ_5 h_5 => ?_)
  obtain ⟨rfl, q_5⟩ := h_5
  refine aw_aload0 dX6_append_8 ?_
  refine aw_getR dX6_append_9 fR_6_10 rfl (by decide) ((sH_R (σ := σ) (h := 3) (nr := nr) (ng := ng) (nb := nb) (g := g) (π := π) (by omega)).trans hF.1.1) ?_
  refine aw_getI dX6_append_12 fI_6_55 rfl (by decide) ((sH_out (by omega)).trans hT1) ?_
  refine aw_bipush (v := 120) dX6_append_15 (by decide) ?_
  refine aw_ic_lt (tgt := 30) dX6_append_17 (by decide) (fun c_17 => ?_) (fun c_17 => ?_)
  · have hlt : n < 120 := by
      rcases Nat.lt_or_ge n 120 with q | q
      · exact q
      · exact absurd c_17 (nI_nlt (b := 120) q (by omega))
    refine aw_aload0 dX6_append_30 ?_
    refine aw_getR dX6_append_31 fR_6_10 rfl (by decide) ((sH_R (σ := σ) (h := 3) (nr := nr) (ng := ng) (nb := nb) (g := g) (π := π) (by omega)).trans hF.1.1) ?_
    refine aw_iload1 dX6_append_34 ?_
    refine aw_VV1 (k3_add (sH σ 3 π nr ng nb g) n v ((sH_R (by omega)).trans hF.2.1) ((sH_out (by omega)).trans hT1) hlt) dX6_append_35 vl_6_66 rfl (by decide) (by decide) (Nat.le_of_ble_eq_true rfl) (fun σ_35 h_35 => ?_)
    obtain rfl := h_35
    refine aw_aload0 dX6_append_38 ?_
    refine aw_getR dX6_append_39 fR_6_10 rfl (by decide) ((sH_R (σ := σ) (h := 3) (nr := nr) (ng := ng) (nb := nb) (g := g) (π := π) (by omega)).trans hF.1.1) ?_
    refine aw_getI dX6_append_42 fI_6_55 rfl (by decide) (show _ = nI n + 1 from rfl) ?_
    exact aw_iret dX6_append_45 rfl (by decide) (oX_i (cd2_0 q_5 hlt) (app_PA hJ3 hlt hS3) rfl)
  · exact aw_throw (E := eS) (text := "the text is full") dX6_append_20 dX6_append_23 dX6_append_24 dX6_append_26 dX6_append_29 rfl cl_6_59 ei_eS (List.mem_of_getElem? (i := 1) rfl) ex_eS at_eS go_eS_59 rfl (by decide) (by decide) (by decide) (hx2 q_5 (fun z => c_17 (nI_lt (b := 120) z (by decide))))
set_option maxHeartbeats 4000000 in
theorem k6_clearText (σ : Sg) (π : Nat → Nat) (nr ng nb t : Nat) (g : Rw) (n c : Nat) (T : Rw) (M S : Nat → Rw) (B : Nat → Bool) (hJ : KJ σ n T c M B S) (hc : HC σ 3 π) (hw : WF g nr ng nb t) (ht : t ≤ 240) (hcb : CB g nb (4 * t)) : Ct yX6_clearText cX6_clearText mX6_clearText 1 0 0 NN false (sH σ 3 π nr ng nb g) [.ref 0] NN (oX 0 (PA (sH σ 3 π nr ng nb g) 0 T c M B S g) (nI n)) XF := by
  refine ct_of (ls0 := [some (.ref 0), none]) 1 (by decide +kernel) rfl rfl (ndR nd0) rfl (Nat.le_of_ble_eq_true rfl) (fun K => ?_)
  have hnr4 := hw.nr4
  have hng6 := hw.ng6
  have hnb12 := hw.nb12
  obtain ⟨hF, hBB, ⟨hT1, hT2, hT3⟩, hMe, hSv⟩ := id hJ
  have hS3 : SA (sH σ 3 π nr ng nb g) 3 g := SA.mk hc hw ht hcb
  have hJ3 := hJ.h3 (nr := nr) (ng := ng) (nb := nb) (g := g) hc.2.2
  refine aw_aload0 dX6_clearText_0 ?_
  refine aw_getR dX6_clearText_1 fR_6_10 rfl (by decide) ((sH_R (σ := σ) (h := 3) (nr := nr) (ng := ng) (nb := nb) (g := g) (π := π) (by omega)).trans hF.1.1) ?_
  refine aw_getI dX6_clearText_4 fI_6_55 rfl (by decide) ((sH_out (by omega)).trans hT1) ?_
  refine aw_istore1 dX6_clearText_7 (by decide) rfl ?_
  refine aw_aload0 dX6_clearText_8 ?_
  refine aw_getR dX6_clearText_9 fR_6_10 rfl (by decide) ((sH_R (σ := σ) (h := 3) (nr := nr) (ng := ng) (nb := nb) (g := g) (π := π) (by omega)).trans hF.1.1) ?_
  refine aw_iconst (v := 0) dX6_clearText_12 (by decide) ?_
  refine aw_putI dX6_clearText_13 fP_6_55 rfl (by decide) ?_
  refine aw_iload1 dX6_clearText_16 ?_
  exact aw_iret dX6_clearText_17 rfl (by decide) (oX_i rfl (clr_PA hJ3 hS3) rfl)
set_option maxHeartbeats 4000000 in
theorem k6_errorPosition (σ : Sg) (π : Nat → Nat) (nr ng nb t : Nat) (g : Rw) (n c : Nat) (T : Rw) (M S : Nat → Rw) (B : Nat → Bool) (g0 : Rw) (hJ : KJ σ n T c M B S) (hc : HC σ 3 π) (hw : WF g nr ng nb t) (ht : t ≤ 240) (hcb : CB g nb (4 * t)) : Ct yX6_errorPosition cX6_errorPosition mX6_errorPosition 7 0 0 NN false (sH σ 3 π nr ng nb g) [.ref 0] NN (oX 0 (DG (sH σ 3 π nr ng nb g)) (pErr (pText T n (fClean g0)).1)) XF := by
  refine ct_of (ls0 := [some (.ref 0)]) 0 (by decide +kernel) rfl rfl (ndR nd0) rfl (Nat.le_of_ble_eq_true rfl) (fun K => ?_)
  have hnr4 := hw.nr4
  have hng6 := hw.ng6
  have hnb12 := hw.nb12
  obtain ⟨hF, hBB, ⟨hT1, hT2, hT3⟩, hMe, hSv⟩ := id hJ
  have hS3 : SA (sH σ 3 π nr ng nb g) 3 g := SA.mk hc hw ht hcb
  have hJ3 := hJ.h3 (nr := nr) (ng := ng) (nb := nb) (g := g) hc.2.2
  obtain ⟨πt, hpt, hbt⟩ := hJ3.bb (h := 308) (Or.inr (Or.inl rfl))
  have hct : HC (sH σ 3 π nr ng nb g) 308 πt := ⟨HT_308, hJ3.hs (Or.inr (Or.inl rfl)), hpt⟩
  have kT := k3_readInto (sH σ 3 π nr ng nb g) 308 πt n g0 (by decide) ((sH_R (by omega)).trans hF.2.1) ((sH_out (by omega)).trans hT1) hT2 hct hbt
  rw [show (sH σ 3 π nr ng nb g).1 2 = T from (funext fun j => sH_out (by omega)).trans hT3] at kT
  refine aw_aload0 dX6_errorPosition_0 ?_
  refine aw_getR dX6_errorPosition_1 fR_6_10 rfl (by decide) ((sH_R (σ := σ) (h := 3) (nr := nr) (ng := ng) (nb := nb) (g := g) (π := π) (by omega)).trans hF.1.1) ?_
  refine aw_aload0 dX6_errorPosition_4 ?_
  refine aw_getR dX6_errorPosition_5 fR_6_45 rfl (by decide) ((sH_R (σ := σ) (h := 3) (nr := nr) (ng := ng) (nb := nb) (g := g) (π := π) (by omega)).trans hF.1.2.2.2.2.2.2.1) ?_
  refine aw_VI1 kT dX6_errorPosition_8 vl_6_70 rfl (by decide) (by decide) (Nat.le_of_ble_eq_true rfl) (fun σ_8 r_8 h_8 => ?_)
  obtain ⟨a2, er2, rfl, rfl⟩ := h_8
  exact aw_iret dX6_errorPosition_11 rfl (by decide) (oX_i rfl (((DG.refl.i (Or.inr ⟨rfl, by decide⟩)).i (Or.inr ⟨rfl, by decide⟩)).t8 hpt) rfl)
theorem load_PA {σ : Sg} {n c : Nat} {T : Rw} {M S : Nat → Rw} {B : Nat → Bool} {π πt : Nat → Nat} {nr ng nb : Nat} {g : Rw} {a er : Int32} (hJ : KJ σ n T c M B S) (hct : HC σ 308 πt) (hc : HC σ 3 π) (hw : WF g nr ng nb 0) (hcb : CB g nb 0) : PA σ n T 0 M (fun _ => false) S g (sI (sI (sI (sH (oC (sH (cS σ a er) 308 πt nr ng nb g) 308 3) 3 π nr ng nb g) 23 2 0) 306 0 0) 306 1 0) := by
  have d : DG σ (sH (cS σ a er) 308 πt nr ng nb g) := ((DG.refl.i (Or.inr ⟨rfl, by decide⟩)).i (Or.inr ⟨rfl, by decide⟩)).t8 hct.2.2
  have j1 := hJ.dg d
  have j2 : KJ (oC (sH (cS σ a er) 308 πt nr ng nb g) 308 3) n T c M B S := j1.frame (fun i j h => oC_ne (by omega)) (fun _ _ _ _ _ => rfl) ((j1.bb (Or.inl rfl)).frame (fun _ => rfl)) ((j1.bb (Or.inr (Or.inl rfl))).frame (fun _ => rfl)) ((j1.bb (Or.inr (Or.inr (Or.inl rfl)))).frame (fun _ => rfl))
  refine uns_PA (for_PA (j2.h3 hc.2.2) (SA.mk (d.hc hc) hw (by decide) hcb) ?_)
  exact FMo.h (FMo.a d.fr (by decide)) (by decide)
set_option maxHeartbeats 4000000 in
theorem k6_load (σ : Sg) (π : Nat → Nat) (nr ng nb t : Nat) (g : Rw) (n c : Nat) (T : Rw) (M S : Nat → Rw) (B : Nat → Bool) (g0 : Rw) (hJ : KJ σ n T c M B S) (hc : HC σ 3 π) (hw : WF g nr ng nb t) (ht : t ≤ 240) (hcb : CB g nb (4 * t)) : Ct yX6_load cX6_load mX6_load 7 8 48 NN false (sH σ 3 π nr ng nb g) [.ref 0] NN (oX (cd1 ((pText T n (fClean g0)).1.2 = true)) (PA (sH σ 3 π nr ng nb g) n T 0 M (fun _ => false) S (pText T n (fClean g0)).2.1) ((pText T n (fClean g0)).2.1 1)) (x1 (sH σ 3 π nr ng nb g) (cd1 ((pText T n (fClean g0)).1.2 = true)) eS) := by
  refine ct_of (ls0 := [some (.ref 0), none]) 1 (by decide +kernel) rfl rfl (ndR nd0) rfl (Nat.le_of_ble_eq_true rfl) (fun K => ?_)
  have hnr4 := hw.nr4
  have hng6 := hw.ng6
  have hnb12 := hw.nb12
  obtain ⟨hF, hBB, ⟨hT1, hT2, hT3⟩, hMe, hSv⟩ := id hJ
  have hS3 : SA (sH σ 3 π nr ng nb g) 3 g := SA.mk hc hw ht hcb
  have hJ3 := hJ.h3 (nr := nr) (ng := ng) (nb := nb) (g := g) hc.2.2
  obtain ⟨πt, hpt, hbt⟩ := hJ3.bb (h := 308) (Or.inr (Or.inl rfl))
  have hct : HC (sH σ 3 π nr ng nb g) 308 πt := ⟨HT_308, hJ3.hs (Or.inr (Or.inl rfl)), hpt⟩
  have kT := k3_readInto (sH σ 3 π nr ng nb g) 308 πt n g0 (by decide) ((sH_R (by omega)).trans hF.2.1) ((sH_out (by omega)).trans hT1) hT2 hct hbt
  rw [show (sH σ 3 π nr ng nb g).1 2 = T from (funext fun j => sH_out (by omega)).trans hT3] at kT
  have hPI : PI n (pText T n (fClean g0)).1 _ _ _ _ := pText_PI
  have hwR := hPI.2.1
  have hP3 := hPI.1
  refine aw_aload0 dX6_load_0 ?_
  refine aw_getR dX6_load_1 fR_6_10 rfl (by decide) ((sH_R (σ := σ) (h := 3) (nr := nr) (ng := ng) (nb := nb) (g := g) (π := π) (by omega)).trans hF.1.1) ?_
  refine aw_aload0 dX6_load_4 ?_
  refine aw_getR dX6_load_5 fR_6_45 rfl (by decide) ((sH_R (σ := σ) (h := 3) (nr := nr) (ng := ng) (nb := nb) (g := g) (π := π) (by omega)).trans hF.1.2.2.2.2.2.2.1) ?_
  refine aw_VI1 kT dX6_load_8 vl_6_70 rfl (by decide) (by decide) (Nat.le_of_ble_eq_true rfl) (fun σ_8 r_8 h_8 => ?_)
  obtain ⟨a2, er2, rfl, rfl⟩ := h_8
  refine aw_bipush (v := (-99)) dX6_load_11 (by decide) ?_
  refine aw_ic_eq (tgt := 26) dX6_load_13 (by decide) (fun c_13 => ?_) (fun c_13 => ?_)
  · have hok : (pText T n (fClean g0)).1.2 = true := (pErr_ok (by omega)).mp c_13
    have dT : DG (sH σ 3 π nr ng nb g) (sH (cS (sH σ 3 π nr ng nb g) a2 er2) 308 πt (pText T n (fClean g0)).2.2.1 (pText T n (fClean g0)).2.2.2.1 (pText T n (fClean g0)).2.2.2.2 (pText T n (fClean g0)).2.1) := ((DG.refl.i (Or.inr ⟨rfl, by decide⟩)).i (Or.inr ⟨rfl, by decide⟩)).t8 hpt
    have hcL : HC (sH (cS (sH σ 3 π nr ng nb g) a2 er2) 308 πt (pText T n (fClean g0)).2.2.1 (pText T n (fClean g0)).2.2.2.1 (pText T n (fClean g0)).2.2.2.2 (pText T n (fClean g0)).2.1) 3 π := dT.hc (sHc hc)
    have hctL : HC (cS (sH σ 3 π nr ng nb g) a2 er2) 308 πt := hct
    have kC := k2_copyR (sH (cS (sH σ 3 π nr ng nb g) a2 er2) 308 πt (pText T n (fClean g0)).2.2.1 (pText T n (fClean g0)).2.2.2.1 (pText T n (fClean g0)).2.2.2.2 (pText T n (fClean g0)).2.1) 3 308 π πt _ _ _ 0 (pText T n (fClean g0)).2.1 hcL (fun j hj => (dT.2.1 _ _ (by omega) (by omega)).trans (sH_book hj)) hwR HT_308 (sHc hctL).2.1 hpt (sH_RH hctL hwR.nr4 hwR.nb12) (by omega)
    have hFA : RF (sH (cS (sH σ 3 π nr ng nb g) a2 er2) 308 πt (pText T n (fClean g0)).2.2.1 (pText T n (fClean g0)).2.2.2.1 (pText T n (fClean g0)).2.2.2.2 (pText T n (fClean g0)).2.1) := (hJ3.dg dT).1
    have hPA := load_PA (a := a2) (er := er2) hJ3 hct (sHc hc) hwR (pText_CB (T := T) (n := n) (g := g0))
    have hFC : RF (sH (oC (sH (cS (sH σ 3 π nr ng nb g) a2 er2) 308 πt (pText T n (fClean g0)).2.2.1 (pText T n (fClean g0)).2.2.2.1 (pText T n (fClean g0)).2.2.2.2 (pText T n (fClean g0)).2.1) 308 3) 3 π (pText T n (fClean g0)).2.2.1 (pText T n (fClean g0)).2.2.2.1 (pText T n (fClean g0)).2.2.2.2 (pText T n (fClean g0)).2.1) := hPA.1.1
    refine aw_aload0 dX6_load_26 ?_
    refine aw_getR dX6_load_27 fR_6_19 rfl (by decide) hFA.1.2.1 ?_
    refine aw_aload0 dX6_load_30 ?_
    refine aw_getR dX6_load_31 fR_6_45 rfl (by decide) hFA.1.2.2.2.2.2.2.1 ?_
    refine aw_VV1 kC dX6_load_34 vl_6_76 hc.t hc.l (by decide) (Nat.le_of_ble_eq_true rfl) (fun σ_34 h_34 => ?_)
    obtain rfl := h_34
    refine aw_aload0 dX6_load_37 ?_
    refine aw_getR dX6_load_38 fR_6_26 rfl (by decide) hFC.1.2.2.1 ?_
    refine aw_VV0 (k4_forgetAll _) dX6_load_41 vl_6_80 rfl (by decide) (by decide) (Nat.le_of_ble_eq_true rfl) (fun σ_41 h_41 => ?_)
    obtain rfl := h_41
    refine aw_iconst (v := 0) dX6_load_44 (by decide) ?_
    refine aw_istore1 dX6_load_45 (by decide) rfl ?_
    refine aw_iload1 dX6_load_46 ?_
    refine aw_aload0 dX6_load_47 ?_
    refine aw_getR dX6_load_48 fR_6_34 rfl (by decide) hFC.1.2.2.2.2.1 ?_
    refine aw_alen dX6_load_51 rfl (by decide) ?_
    refine aw_ic_ge (tgt := 68) dX6_load_52 (by decide) (fun c_52 => absurd c_52 (by decide)) (fun _ => ?_)
    refine aw_aload0 dX6_load_55 ?_
    refine aw_getR dX6_load_56 fR_6_34 rfl (by decide) hFC.1.2.2.2.2.1 ?_
    refine aw_iload1 dX6_load_59 ?_
    refine aw_iconst (v := 0) dX6_load_60 (by decide) ?_
    refine aw_zast (j := 0) dX6_load_61 rfl (by decide) rfl (by decide) (by decide) ?_
    refine aw_iinc1 (w := 1) dX6_load_62 (by decide) (by decide) rfl ?_
    refine aw_goto (tgt := 46) dX6_load_65 (by decide) ?_
    refine aw_iload1 dX6_load_46 ?_
    refine aw_aload0 dX6_load_47 ?_
    refine aw_getR dX6_load_48 fR_6_34 rfl (by decide) hFC.1.2.2.2.2.1 ?_
    refine aw_alen dX6_load_51 rfl (by decide) ?_
    refine aw_ic_ge (tgt := 68) dX6_load_52 (by decide) (fun c_52 => absurd c_52 (by decide)) (fun _ => ?_)
    refine aw_aload0 dX6_load_55 ?_
    refine aw_getR dX6_load_56 fR_6_34 rfl (by decide) hFC.1.2.2.2.2.1 ?_
    refine aw_iload1 dX6_load_59 ?_
    refine aw_iconst (v := 0) dX6_load_60 (by decide) ?_
    refine aw_zast (j := 1) dX6_load_61 rfl (by decide) rfl (by decide) (by decide) ?_
    refine aw_iinc1 (w := 2) dX6_load_62 (by decide) (by decide) rfl ?_
    refine aw_goto (tgt := 46) dX6_load_65 (by decide) ?_
    refine aw_iload1 dX6_load_46 ?_
    refine aw_aload0 dX6_load_47 ?_
    refine aw_getR dX6_load_48 fR_6_34 rfl (by decide) hFC.1.2.2.2.2.1 ?_
    refine aw_alen dX6_load_51 rfl (by decide) ?_
    refine aw_ic_ge (tgt := 68) dX6_load_52 (by decide) (fun _ => ?_) (fun c_52 => absurd c_52 (by decide))
    refine aw_aload0 dX6_load_68 ?_
    refine aw_getR dX6_load_69 fR_6_19 rfl (by decide) hFC.1.2.1 ?_
    refine aw_getI dX6_load_72 fI_6_83 hc.t hc.l (show _ = (pText T n (fClean g0)).2.1 1 from (sI_un (by decide)).trans ((sI_un (by decide)).trans ((sI_un (by decide)).trans sH_nr))) ?_
    exact aw_iret dX6_load_75 rfl (by decide) (oX_i (cd1_0 hok) hPA rfl)
  · exact aw_throw (E := eS) (text := "the text is not a hall") dX6_load_16 dX6_load_19 dX6_load_20 dX6_load_22 dX6_load_25 rfl cl_6_59 ei_eS (List.mem_of_getElem? (i := 2) rfl) ex_eS at_eS go_eS_59 rfl (by decide) (by decide) (by decide) ⟨((DG.refl.i (Or.inr ⟨rfl, by decide⟩)).i (Or.inr ⟨rfl, by decide⟩)).t8 hpt, (cd1_1 (fun z => c_13 ((pErr_ok (by omega)).mpr z))).symm, rfl⟩
