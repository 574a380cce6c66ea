/-! the reference is made -/
set_option maxHeartbeats 4000000 in
theorem k_cleanN (σ : Sg) (row n : Nat) (g : Rw) (hT : cT row = .inr (0, 151)) (hn : row < n) : Ct yX7_clean cX7_clean mX7_clean 1 0 0 n false (sA σ row g) [.ref row] n (eV1 (sA σ row (fClean g))) XF := by
  refine ct_of (ls0 := [some (.ref row), none]) 1 (by decide +kernel) rfl rfl (ndR nd0) rfl (Nat.le_of_ble_eq_true rfl) (fun K => ?_)
  have L2 : ∀ (k : Nat) (i : Nat) (h1 : i ≤ 151) (h2 : 151 - i < k), AW K RX7 cX7_clean mX7_clean 1 0 0 (Qm K n (eV1 (sA σ row (fClean g))) XF 0 0) n none (sA σ row (fCl g i)) 0 0 2 [some (.ref row), some (.int (nI i))] [] := by
    intro k
    induction k with
    | zero => intro i h1 h2; exact absurd h2 (Nat.not_lt_zero _)
    | succ k ih =>
      intro i h1 h2
      refine aw_iload1 dX7_clean_2 ?_
      refine aw_sipush (v := 151) dX7_clean_3 (by decide) ?_
      refine aw_ic_ge (tgt := 19) dX7_clean_6 (by decide) (fun c_6 => ?_) (fun c_6 => ?_)
      · have hbb : i = 151 := by
          have := (nI_leI (a := 151) (by omega) (by omega)).mp c_6
          omega
        subst hbb
        refine aw_aload0 dX7_clean_19 ?_
        refine aw_iconst (v := 4) dX7_clean_20 (by decide) ?_
        refine aw_iconst (v := 5) dX7_clean_21 (by decide) ?_
        refine aw_iast (j := 4) dX7_clean_22 hT hn rfl (by decide) ?_
        refine AW.eqs sI_sA ?_
        exact aw_vret dX7_clean_23 rfl (by decide) (eV_to (congrArg (sA σ row) (funext fun j => by
          unfold fClean upd fCl
          by_cases h : j = 4
          · rw [if_pos h]
          · rw [if_neg h])))
      · have hlt : i < 151 := by
          rcases Nat.lt_or_ge i 151 with q | q
          · exact q
          · exact absurd (nI_le q (by omega)) c_6
        refine aw_aload0 dX7_clean_9 ?_
        refine aw_iload1 dX7_clean_10 ?_
        refine aw_iconst (v := 0) dX7_clean_11 (by decide) ?_
        refine aw_iast dX7_clean_12 hT hn rfl (by omega) ?_
        refine AW.eqs sI_sA ?_
        refine aw_iinc1 (w := nI (i + 1)) dX7_clean_13 (nI_1 i) (by decide) rfl ?_
        refine aw_goto (tgt := 2) dX7_clean_16 (by decide) ?_
        refine AW.eqs (congrArg (sA σ row) fCl_s) ?_
        exact ih (i + 1) (by omega) (by omega)
  refine aw_iconst (v := 0) dX7_clean_0 (by decide) ?_
  refine aw_istore1 dX7_clean_1 (by decide) rfl ?_
  refine AW.eqs (σ' := sA σ row (fCl g 0)) (congrArg (sA σ row) (funext fun j => (if_neg (Nat.not_lt_zero j)).symm)) ?_
  exact L2 152 0 (Nat.zero_le _) (by omega)
/-- the reference as it is made -/
def M0 (σ : Sg) : Sg := sA (sR (sZ (sR (sZ (sR (sZ (sR (sZ (sR (sZ (sR (sZ (sR (sZ σ 389) 388 1 (some 389)) 390) 388 5 (some 390)) 391) 388 6 (some 391)) 392) 388 7 (some 392)) 393) 388 8 (some 393)) 394) 388 10 (some 394)) 395) 388 11 (some 395)) 391 (fClean (fun _ => 0))
theorem M0_sp {σ : Sg} (hz : ∀ j, σ.1 388 j = 0) : MS (M0 σ) ∧ (∀ j, (M0 σ).1 388 j = 0) ∧ (∀ j, (M0 σ).1 389 j = 0) ∧ (M0 σ).1 391 = fClean (fun _ => 0) ∧ (∀ j, (M0 σ).1 395 j = 0) ∧ BL σ (M0 σ) 388 := by
  refine ⟨⟨rfl, rfl, rfl, rfl, rfl, rfl, rfl⟩, fun j => ?_, fun j => ?_, rfl, fun j => ?_, fun x j hx => ⟨?_, ?_⟩⟩
  · exact (show _ = σ.1 388 j from rfl).trans (hz j)
  · rfl
  · rfl
  · have q : ∀ a, 388 < a → x ≠ a := fun a ha => by omega
    show (if x = 391 then _ else if x = 395 then _ else if x = 394 then _ else if x = 393 then _ else if x = 392 then _ else if x = 391 then _ else if x = 390 then _ else if x = 389 then _ else σ.1 x j) = σ.1 x j
    rw [if_neg (q 391 (by decide)), if_neg (q 395 (by decide)), if_neg (q 394 (by decide)), if_neg (q 393 (by decide)), if_neg (q 392 (by decide)), if_neg (q 391 (by decide)), if_neg (q 390 (by decide)), if_neg (q 389 (by decide))]
  · have n : ∀ k, ¬ (x = 388 ∧ j = k) := fun k h => by omega
    exact (sR_n (n 11)).trans ((sZ_r (by omega)).trans ((sR_n (n 10)).trans ((sZ_r (by omega)).trans ((sR_n (n 8)).trans ((sZ_r (by omega)).trans ((sR_n (n 7)).trans ((sZ_r (by omega)).trans ((sR_n (n 6)).trans ((sZ_r (by omega)).trans ((sR_n (n 5)).trans ((sZ_r (by omega)).trans ((sR_n (n 1)).trans (sZ_r (by omega))))))))))))))
set_option maxHeartbeats 4000000 in
theorem k7_init (σ : Sg) : Ct yX7_init cX7_init mX7_init 2 7 2991 389 true σ [.ref 388] 396 (eV1 (M0 σ)) XF := by
  refine ct_of (ls0 := [some (.ref 388)]) 0 (by decide +kernel) rfl rfl (ndR nd0) rfl (Nat.le_of_ble_eq_true rfl) (fun K => ?_)
  rw [if_pos rfl]
  refine aw_aload0 dX7_init_0 ?_
  refine aw_objInit dX7_init_1 jl_7_1 oi_im oi_co (by decide) (Nat.le_of_ble_eq_true rfl) ?_
  refine aw_aload0 dX7_init_4 ?_
  refine aw_bipush (v := 120) dX7_init_5 (by decide) ?_
  refine aw_newarr (kd := 0) (len := 120) dX7_init_7 rfl ar_int (Or.inl ⟨rfl, rfl⟩) rfl (by decide) (by decide) (by decide) ?_
  refine aw_putF dX7_init_9 fF_7_7 rfl (by decide) rfl ?_
  refine aw_aload0 dX7_init_12 ?_
  refine aw_sipush (v := 151) dX7_init_13 (by decide) ?_
  refine aw_newarr (kd := 0) (len := 151) dX7_init_16 rfl ar_int (Or.inl ⟨rfl, rfl⟩) rfl (by decide) (by decide) (by decide) ?_
  refine aw_putF dX7_init_18 fF_7_13 rfl (by decide) rfl ?_
  refine aw_aload0 dX7_init_21 ?_
  refine aw_sipush (v := 151) dX7_init_22 (by decide) ?_
  refine aw_newarr (kd := 0) (len := 151) dX7_init_25 rfl ar_int (Or.inl ⟨rfl, rfl⟩) rfl (by decide) (by decide) (by decide) ?_
  refine aw_putF dX7_init_27 fF_7_16 rfl (by decide) rfl ?_
  refine aw_aload0 dX7_init_30 ?_
  refine aw_sipush (v := 151) dX7_init_31 (by decide) ?_
  refine aw_newarr (kd := 0) (len := 151) dX7_init_34 rfl ar_int (Or.inl ⟨rfl, rfl⟩) rfl (by decide) (by decide) (by decide) ?_
  refine aw_putF dX7_init_36 fF_7_19 rfl (by decide) rfl ?_
  refine aw_aload0 dX7_init_39 ?_
  refine aw_sipush (v := 2114) dX7_init_40 (by decide) ?_
  refine aw_newarr (kd := 0) (len := 2114) dX7_init_43 rfl ar_int (Or.inl ⟨rfl, rfl⟩) rfl (by decide) (by decide) (by decide) ?_
  refine aw_putF dX7_init_45 fF_7_22 rfl (by decide) rfl ?_
  refine aw_aload0 dX7_init_48 ?_
  refine aw_sipush (v := 302) dX7_init_49 (by decide) ?_
  refine aw_newarr (kd := 0) (len := 302) dX7_init_52 rfl ar_int (Or.inl ⟨rfl, rfl⟩) rfl (by decide) (by decide) (by decide) ?_
  refine aw_putF dX7_init_54 fF_7_25 rfl (by decide) rfl ?_
  refine aw_aload0 dX7_init_57 ?_
  refine aw_iconst (v := 2) dX7_init_58 (by decide) ?_
  refine aw_newarr (kd := 1) (len := 2) dX7_init_59 rfl ar_boolean (Or.inr (Or.inl ⟨rfl, rfl⟩)) rfl (by decide) (by decide) (by decide) ?_
  refine aw_putF dX7_init_61 fF_7_28 rfl (by decide) rfl ?_
  refine aw_aload0 dX7_init_64 ?_
  refine aw_getR dX7_init_65 fR_7_16 rfl (by decide) rfl ?_
  refine AW.eqs (sA_self (sR (sZ (sR (sZ (sR (sZ (sR (sZ (sR (sZ (sR (sZ (sR (sZ σ 389) 388 1 (some 389)) 390) 388 5 (some 390)) 391) 388 6 (some 391)) 392) 388 7 (some 392)) 393) 388 8 (some 393)) 394) 388 10 (some 394)) 395) 388 11 (some 395)) 391).symm ?_
  refine AW.eqs (show _ = sA (sR (sZ (sR (sZ (sR (sZ (sR (sZ (sR (sZ (sR (sZ (sR (sZ σ 389) 388 1 (some 389)) 390) 388 5 (some 390)) 391) 388 6 (some 391)) 392) 388 7 (some 392)) 393) 388 8 (some 393)) 394) 388 10 (some 394)) 395) 388 11 (some 395)) 391 (fun _ => 0) from rfl) ?_
  refine aw_SV1 (k_cleanN (sR (sZ (sR (sZ (sR (sZ (sR (sZ (sR (sZ (sR (sZ (sR (sZ σ 389) 388 1 (some 389)) 390) 388 5 (some 390)) 391) 388 6 (some 391)) 392) 388 7 (some 392)) 393) 388 8 (some 393)) 394) 388 10 (some 394)) 395) 388 11 (some 395)) 391 396 (fun _ => 0) rfl (by decide)) dX7_init_68 sl_7_32 (by decide) (Nat.le_of_ble_eq_true rfl) (fun σ_68 h_68 => ?_)
  obtain rfl := h_68
  exact aw_vret dX7_init_71 rfl (by decide) eV_of
