/-! the reference: a text is loaded; a new model -/
theorem PI.loop {T : Rw} {n : Nat} : ∀ (k : Nat) {s : PSt} {g : Rw} {nr ng nb : Nat}, PI n s g nr ng nb → PI n (pLoop T n k (s, g, nr, ng, nb)).1 (pLoop T n k (s, g, nr, ng, nb)).2.1 (pLoop T n k (s, g, nr, ng, nb)).2.2.1 (pLoop T n k (s, g, nr, ng, nb)).2.2.2.1 (pLoop T n k (s, g, nr, ng, nb)).2.2.2.2
  | 0, s, g, nr, ng, nb, h => h
  | k + 1, s, g, nr, ng, nb, h => by
    by_cases hc : s.2 = true ∧ s.1 < n
    · rw [pLoop_s hc.1 hc.2]
      exact PI.loop k (h.part hc.1 hc.2).1
    · rw [pLoop_e hc]
      exact h
theorem pText_PI {T : Rw} {n : Nat} {g : Rw} : PI n (pText T n (fClean g)).1 (pText T n (fClean g)).2.1 (pText T n (fClean g)).2.2.1 (pText T n (fClean g)).2.2.2.1 (pText T n (fClean g)).2.2.2.2 :=
  PI.loop 120 ⟨stp_le (Nat.zero_le _) nx_lt, WF.clean, fun i hi => by rw [fClean, if_neg (by omega), if_pos (by omega)]⟩
theorem pErr_ok {s : PSt} (hs : s.1 < 1000) : pErr s = -99 ↔ s.2 = true := by
  unfold pErr
  split
  · rename_i h; exact ⟨fun _ => h, fun _ => rfl⟩
  · rename_i h; exact ⟨fun e => absurd e.symm (oI_ne hs), fun e => absurd e h⟩
theorem pS_n {σ : Sg} {s : PSt} {g e : Rw} : pS (sA σ 391 g) s e = sA (pS σ s e) 391 g := by
  refine Prod.ext (funext fun i => funext fun k => ?_) rfl
  by_cases h1 : i = 388 <;> by_cases h2 : i = 390 <;> by_cases h3 : i = 391 <;> by_cases h4 : k = 3 <;> by_cases h5 : k = 4 <;> simp_all [sA, sI, pS]
set_option maxHeartbeats 4000000 in
theorem k_load (σ : Sg) (g : Rw) (n : Nat) (hM : MS σ) (hn : σ.1 388 2 = nI n) (hn120 : n ≤ 120) : Ct yX7_load cX7_load mX7_load 8 0 0 NN false (sA σ 391 g) [.ref 388] NN (eM (pS σ (pText (σ.1 389) n (fClean (σ.1 390))).1 (pText (σ.1 389) n (fClean (σ.1 390))).2.1) g (cd1 ((pText (σ.1 389) n (fClean (σ.1 390))).1.2 = true)) (sI (sI (sI (sA (sA (sI (pS σ (pText (σ.1 389) n (fClean (σ.1 390))).1 (pText (σ.1 389) n (fClean (σ.1 390))).2.1) 388 0 (cd1 ((pText (σ.1 389) n (fClean (σ.1 390))).1.2 = true))) 391 g) 391 (pText (σ.1 389) n (fClean (σ.1 390))).2.1) 388 9 0) 395 0 0) 395 1 0) ((pText (σ.1 389) n (fClean (σ.1 390))).2.1 1)) XF := by
  refine ct_of (ls0 := [some (.ref 388)]) 0 (by decide +kernel) rfl rfl (ndR nd0) rfl (Nat.le_of_ble_eq_true rfl) (fun K => ?_)
  refine aw_aload0 dX7_load_0 ?_
  refine aw_aload0 dX7_load_1 ?_
  refine aw_VI0 (k_readText _ n hM hn hn120) dX7_load_2 vl_7_153 rfl (by decide) (by decide) (Nat.le_of_ble_eq_true rfl) (fun σ_2 r_2 h_2 => ?_)
  obtain ⟨rfl, h_2⟩ := h_2
  have h_2 : pErr (pText (σ.1 389) n (fClean (σ.1 390))).1 = r_2 := h_2
  subst h_2
  have hok := pErr_ok (s := (pText (σ.1 389) n (fClean (σ.1 390))).1) (Nat.lt_of_le_of_lt (pText_PI (T := σ.1 389) (g := σ.1 390)).1 (by omega))
  refine AW.eqs pS_n ?_
  refine AW.eqs (show _ = sA (pS σ (pText (σ.1 389) n (fClean (σ.1 390))).1 (pText (σ.1 389) n (fClean (σ.1 390))).2.1) 391 g from rfl) ?_
  refine AW.tern1 (E := (cd1 ((pText (σ.1 389) n (fClean (σ.1 390))).1.2 = true))) (pc2 := 15) (fun x_15 hx_15 => ?_) (fun J_15 => ?_)
  · subst hx_15
    refine aw_VI1 (k_refusedN _ _ _) dX7_load_15 vl_7_110 rfl (by decide) (by decide) (Nat.le_of_ble_eq_true rfl) (fun σ_15 r_15 h_15 => ?_)
    obtain ⟨rfl, h_15⟩ := h_15
    rcases h_15 with ⟨rfl, p_15⟩ | ⟨rfl, p_15⟩
    · refine aw_if_eq (tgt := 23) dX7_load_18 (by decide) (fun c_18 => absurd c_18 (by decide)) (fun _ => ?_)
      refine aw_iconst (v := 0) dX7_load_21 (by decide) ?_
      exact aw_iret dX7_load_22 rfl (by decide) (eM_r p_15)
    · refine aw_if_eq (tgt := 23) dX7_load_18 (by decide) (fun _ => ?_) (fun c_18 => absurd c_18 (by decide))
      have hab := cd1_z p_15
      refine aw_aload0 dX7_load_23 ?_
      refine aw_getR dX7_load_24 fR_7_13 rfl (by decide) hM.read ?_
      refine aw_iconst (v := 0) dX7_load_27 (by decide) ?_
      refine aw_aload0 dX7_load_28 ?_
      refine aw_getR dX7_load_29 fR_7_16 rfl (by decide) hM.now ?_
      refine aw_iconst (v := 0) dX7_load_32 (by decide) ?_
      refine aw_sipush (v := 151) dX7_load_33 (by decide) ?_
      refine aw_SV5 (k_copy _ 390 391 0 0 151 151 151 (pText (σ.1 389) n (fClean (σ.1 390))).2.1 rfl rfl (by decide) (by decide) (by decide) (by decide) (Or.inl (by decide)) (by decide) (fun j hj => (if_pos ⟨Nat.zero_le _, by omega⟩).trans (show (sA (sI (pS σ (pText (σ.1 389) n (fClean (σ.1 390))).1 (pText (σ.1 389) n (fClean (σ.1 390))).2.1) 388 0 (cd1 ((pText (σ.1 389) n (fClean (σ.1 390))).1.2 = true))) 391 g).1 390 (0 + (j - 0)) = (pText (σ.1 389) n (fClean (σ.1 390))).2.1 j from congrArg (pText (σ.1 389) n (fClean (σ.1 390))).2.1 (by omega)))) dX7_load_36 sl_7_45 (by decide) (Nat.le_of_ble_eq_true rfl) (fun σ_36 h_36 => ?_)
      obtain rfl := h_36
      refine aw_aload0 dX7_load_39 ?_
      refine aw_iconst (v := 0) dX7_load_40 (by decide) ?_
      refine aw_putI dX7_load_41 fP_7_42 rfl (by decide) ?_
      refine aw_aload0 dX7_load_44 ?_
      refine aw_getR dX7_load_45 fR_7_28 rfl (by decide) hM.isKept ?_
      refine aw_iconst (v := 0) dX7_load_48 (by decide) ?_
      refine aw_iconst (v := 0) dX7_load_49 (by decide) ?_
      refine aw_zast (j := 0) dX7_load_50 rfl (by decide) rfl (by decide) (by decide) ?_
      refine aw_aload0 dX7_load_51 ?_
      refine aw_getR dX7_load_52 fR_7_28 rfl (by decide) hM.isKept ?_
      refine aw_iconst (v := 1) dX7_load_55 (by decide) ?_
      refine aw_iconst (v := 0) dX7_load_56 (by decide) ?_
      refine aw_zast (j := 1) dX7_load_57 rfl (by decide) rfl (by decide) (by decide) ?_
      refine aw_aload0 dX7_load_58 ?_
      refine aw_getR dX7_load_59 fR_7_16 rfl (by decide) hM.now ?_
      refine aw_iconst (v := 1) dX7_load_62 (by decide) ?_
      refine aw_iald (j := 1) dX7_load_63 rfl (by decide) rfl (by decide) (show _ = (pText (σ.1 389) n (fClean (σ.1 390))).2.1 1 from rfl) ?_
      exact aw_iret dX7_load_64 rfl (by decide) (eM_o (cd1_0 hab) rfl)
  · refine aw_bipush (v := (-99)) dX7_load_5 (by decide) ?_
    refine aw_ic_ne (tgt := 14) dX7_load_7 (by decide) (fun c_7 => ?_) (fun c_7 => ?_)
    · refine aw_iconst (v := 1) dX7_load_14 (by decide) ?_
      exact J_15 _ (by first | exact cd1_1 (fun h => c_7 (hok.mpr h)) | exact cd1_0 (hok.mp c_7))
    · refine aw_iconst (v := 0) dX7_load_10 (by decide) ?_
      refine aw_goto (tgt := 15) dX7_load_11 (by decide) ?_
      exact J_15 _ (by first | exact cd1_1 (fun h => c_7 (hok.mpr h)) | exact cd1_0 (hok.mp c_7))
