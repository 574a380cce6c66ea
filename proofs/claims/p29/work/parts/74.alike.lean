/-! the law: two objects answer alike -/
section TWO
variable {y : MethodName} {cc : ByteArray} {M : MT} {d mc ms : Nat} {av av2 : List Value} {P : PT}
theorem Ct.lo1 {σ : Sg} (h : Ct y cc M d mc ms 388 false σ av 388 P XF) (τ : Sg) : Ct y cc M d mc ms 776 false (cmb σ τ) av 776 (fun ρ r => ∃ σ', cmb σ' τ = ρ ∧ P σ' r) XF := (h.lo τ).mono (fun _ _ q => q) (fun _ _ q => q.elim fun _ z => z.2)
theorem CtH.lo1 {σ : Sg} (h : CtH y cc M d mc ms 388 false σ av 388 P XF) (τ : Sg) : CtH y cc M d mc ms 776 false (cmb σ τ) av 776 (fun ρ r => ∃ σ', cmb σ' τ = ρ ∧ P σ' r) XF := (h.lo τ).mono (fun _ _ q => q) (fun _ _ q => q.elim fun _ z => z.2)
theorem Ct.hi1 {τ : Sg} (h : Ct y cc M d mc ms 388 false τ av 388 P XF) (hav : ∀ a0, av2.map (cv a0) = av.map (cv (a0 + 388))) (hr : ∀ ρ r, P ρ r → ∀ a0, r.map (cv (a0 + 388)) = r.map (cv a0)) (σ : Sg) : Ct y cc M d mc ms 776 false (cmb σ τ) av2 776 (fun ρ r => ∃ τ', cmb σ τ' = ρ ∧ P τ' r) XF := (Ct.hi (m := 388) (m' := 388) (Nat.le_refl _) ⟨Nat.le_refl _, Nat.le_refl _⟩ h hav hr σ).mono (fun _ _ q => q) (fun _ _ q => q.elim fun _ z => z.2)
theorem CtH.hi1 {τ : Sg} (h : CtH y cc M d mc ms 388 false τ av 388 P XF) (hav : ∀ a0, av2.map (cv a0) = av.map (cv (a0 + 388))) (hr : ∀ ρ r, P ρ r → ∀ a0, r.map (cv (a0 + 388)) = r.map (cv a0)) (σ : Sg) : CtH y cc M d mc ms 776 false (cmb σ τ) av2 776 (fun ρ r => ∃ τ', cmb σ τ' = ρ ∧ P τ' r) XF := (CtH.hi (m := 388) (m' := 388) (Nat.le_refl _) ⟨Nat.le_refl _, Nat.le_refl _⟩ h hav hr σ).mono (fun _ _ q => q) (fun _ _ q => q.elim fun _ z => z.2)
theorem hrL {Q : Sg → Int64 → Prop} : ∀ ρ r, (rL Q) ρ r → ∀ a0, r.map (cv (a0 + 388)) = r.map (cv a0) := fun _ _ h _ => by obtain ⟨_, rfl, _⟩ := h; rfl
theorem hrI {Q : Sg → Int32 → Prop} : ∀ ρ r, (rI Q) ρ r → ∀ a0, r.map (cv (a0 + 388)) = r.map (cv a0) := fun _ _ h _ => by obtain ⟨_, rfl, _⟩ := h; rfl
end TWO
set_option maxHeartbeats 16000000 in
theorem k_alike {σ τ : Sg} {s : AS} (hp : CI σ s) (hq : CI τ s) (hG : GW (stG s)) {x : Int} (hx : 0 ≤ x) (hx2 : x < 2147483648) : Ct yL_alike cL_alike mL_alike 11 5600 33600 776 false (cmb σ τ) [.ref 0, .ref 388, .int (iI x)] 776 (rI fun ρ y0 => (∃ σ1 τ1, cmb σ1 τ1 = ρ ∧ CI σ1 s ∧ CI τ1 s) ∧ iI 1 = y0) XF := by
  refine ct_of (ls0 := [some (.ref 0), some (.ref 388), some (.int (iI x))]) 0 (by decide +kernel) rfl rfl (ndR (ndR (ndI nd0))) rfl (Nat.le_of_ble_eq_true rfl) (fun K => ?_)
  have hw := hG.1.1
  have ht := hG.2
  obtain ⟨ab0, ab1, ab2, ab3⟩ := aboutV_n hw (by omega)
  have hb : 0 + 5600 ≤ 5600 := by omega
  have hs : 0 + 33600 ≤ 33600 := by omega
  refine aw_aload0 dL_alike_0 ?_
  refine ac_S (As := [.ref 0]) ((k_now hp).lo1 τ) dL_alike_1 sl_L_120 (by decide) (Nat.le_of_ble_eq_true rfl) hb hs (B2 := 8168) (B2' := 49008) rfl rfl (by omega) (by omega) (fun τ_1 r_1 c_ s_ h_1 hb_ hs_ => ?_)
  replace hb := hb_
  replace hs := hs_
  clear hb_ hs_
  obtain ⟨σ_1, rfl, v_1, rfl, i_1, e_1⟩ := h_1
  obtain rfl : (nowV (stG s)) = v_1 := e_1
  refine aw_aload1 dL_alike_4 ?_
  refine ac_S (As := [.ref 388]) ((k_now hq).hi1 (fun a0 => rfl) hrL σ_1) dL_alike_5 sl_L_120 (by decide) (Nat.le_of_ble_eq_true rfl) hb hs (B2 := 10736) (B2' := 64416) rfl rfl (by omega) (by omega) (fun τ_5 r_5 c_ s_ h_5 hb_ hs_ => ?_)
  replace hb := hb_
  replace hs := hs_
  clear hb_ hs_
  obtain ⟨σ_5, rfl, v_5, rfl, i_5, e_5⟩ := h_5
  obtain rfl : (nowV (stG s)) = v_5 := e_5
  refine al_if_ne (tgt := 242) dL_alike_8 dL_alike_9 (by decide) (fun c_8 => absurd rfl c_8) (fun _ => ?_)
  refine aw_aload0 dL_alike_12 ?_
  refine ac_V (As := []) ((q6_errorPosition i_1).lo1 σ_5) dL_alike_13 vl_L_186 rfl (by decide) (by decide) (Nat.le_of_ble_eq_true rfl) hb hs (B2 := 10736) (B2' := 64416) rfl rfl (by omega) (by omega) (fun τ_13 r_13 c_ s_ h_13 hb_ hs_ => ?_)
  replace hb := hb_
  replace hs := hs_
  clear hb_ hs_
  obtain ⟨σ_13, rfl, v_13, rfl, i_13, e_13⟩ := h_13
  obtain rfl : (pErr (pText (stT s) (stN s) (fClean g00)).1) = v_13 := e_13
  refine aw_aload1 dL_alike_16 ?_
  refine ac_V (As := []) ((q6_errorPosition i_5).hi1 (fun a0 => rfl) hrI σ_13) dL_alike_17 vl_L_186 rfl (by decide) (by decide) (Nat.le_of_ble_eq_true rfl) hb hs (B2 := 10736) (B2' := 64416) rfl rfl (by omega) (by omega) (fun τ_17 r_17 c_ s_ h_17 hb_ hs_ => ?_)
  replace hb := hb_
  replace hs := hs_
  clear hb_ hs_
  obtain ⟨σ_17, rfl, v_17, rfl, i_17, e_17⟩ := h_17
  obtain rfl : (pErr (pText (stT s) (stN s) (fClean g00)).1) = v_17 := e_17
  refine aw_ic_ne (tgt := 242) dL_alike_20 (by decide) (fun c_20 => absurd rfl c_20) (fun _ => ?_)
  refine aw_aload0 dL_alike_23 ?_
  refine ac_V (As := []) ((q6_coldest i_13).lo1 σ_17) dL_alike_24 vl_L_189 rfl (by decide) (by decide) (Nat.le_of_ble_eq_true rfl) hb hs (B2 := 10736) (B2' := 64416) rfl rfl (by omega) (by omega) (fun τ_24 r_24 c_ s_ h_24 hb_ hs_ => ?_)
  replace hb := hb_
  replace hs := hs_
  clear hb_ hs_
  obtain ⟨σ_24, rfl, v_24, rfl, i_24, e_24⟩ := h_24
  obtain rfl : (oI (fCold (fHours (stG s) (rn (stG s)) (bn (stG s)) (fH (stG s) (bn (stG s)))) (bn (stG s)))) = v_24 := e_24
  refine aw_aload1 dL_alike_27 ?_
  refine ac_V (As := []) ((q6_coldest i_17).hi1 (fun a0 => rfl) hrI σ_24) dL_alike_28 vl_L_189 rfl (by decide) (by decide) (Nat.le_of_ble_eq_true rfl) hb hs (B2 := 10736) (B2' := 64416) rfl rfl (by omega) (by omega) (fun τ_28 r_28 c_ s_ h_28 hb_ hs_ => ?_)
  replace hb := hb_
  replace hs := hs_
  clear hb_ hs_
  obtain ⟨σ_28, rfl, v_28, rfl, i_28, e_28⟩ := h_28
  obtain rfl : (oI (fCold (fHours (stG s) (rn (stG s)) (bn (stG s)) (fH (stG s) (bn (stG s)))) (bn (stG s)))) = v_28 := e_28
  refine aw_ic_ne (tgt := 242) dL_alike_31 (by decide) (fun c_31 => absurd rfl c_31) (fun _ => ?_)
  refine aw_aload0 dL_alike_34 ?_
  refine aw_iload2 dL_alike_35 ?_
  refine aw_iconst (v := iI (4)) dL_alike_36 rfl ?_
  refine ai_irem dL_alike_37 (by omega) (by omega) (by omega) (by omega) ?_
  refine aw_iload2 dL_alike_38 ?_
  refine aw_iconst (v := iI (4)) dL_alike_39 rfl ?_
  refine ai_idiv dL_alike_40 (by omega) (by omega) (by omega) (by omega) ?_
  refine aw_bipush (v := iI (49)) dL_alike_41 (by decide) ?_
  refine ai_irem dL_alike_43 (by omega) (by omega) (by omega) (by omega) ?_
  refine ac_SH (As := [.ref 0, .int (iI ((x % 4))), .int (iI (((x / 4) % 49)))]) ((qL_later i_24 (iI ((x % 4))) (iI (((x / 4) % 49)))).lo1 σ_28) dL_alike_44 sl_L_124 (by decide) (Nat.le_of_ble_eq_true rfl) hb hs (B2 := 10744) (B2' := 64464) rfl rfl (by omega) (by omega) (fun τ_44 r_44 c_ s_ h_44 hb_ hs_ => ?_)
  replace hb := hb_
  replace hs := hs_
  clear hb_ hs_
  obtain ⟨σ_44, rfl, v_44, rfl, i_44, e_44⟩ := h_44
  obtain rfl : (vLater s (iI ((x % 4))) (iI (((x / 4) % 49)))) = v_44 := e_44
  refine aw_aload1 dL_alike_47 ?_
  refine aw_iload2 dL_alike_48 ?_
  refine aw_iconst (v := iI (4)) dL_alike_49 rfl ?_
  refine ai_irem dL_alike_50 (by omega) (by omega) (by omega) (by omega) ?_
  refine aw_iload2 dL_alike_51 ?_
  refine aw_iconst (v := iI (4)) dL_alike_52 rfl ?_
  refine ai_idiv dL_alike_53 (by omega) (by omega) (by omega) (by omega) ?_
  refine aw_bipush (v := iI (49)) dL_alike_54 (by decide) ?_
  refine ai_irem dL_alike_56 (by omega) (by omega) (by omega) (by omega) ?_
  refine ac_SH (As := [.ref 388, .int (iI ((x % 4))), .int (iI (((x / 4) % 49)))]) ((qL_later i_28 (iI ((x % 4))) (iI (((x / 4) % 49)))).hi1 (fun a0 => rfl) hrL σ_44) dL_alike_57 sl_L_124 (by decide) (Nat.le_of_ble_eq_true rfl) hb hs (B2 := 10752) (B2' := 64512) rfl rfl (by omega) (by omega) (fun τ_57 r_57 c_ s_ h_57 hb_ hs_ => ?_)
  replace hb := hb_
  replace hs := hs_
  clear hb_ hs_
  obtain ⟨σ_57, rfl, v_57, rfl, i_57, e_57⟩ := h_57
  obtain rfl : (vLater s (iI ((x % 4))) (iI (((x / 4) % 49)))) = v_57 := e_57
  refine al_if_ne (tgt := 242) dL_alike_60 dL_alike_61 (by decide) (fun c_60 => absurd rfl c_60) (fun _ => ?_)
  refine aw_aload0 dL_alike_64 ?_
  refine aw_iload2 dL_alike_65 ?_
  refine aw_bipush (v := iI (12)) dL_alike_66 (by decide) ?_
  refine ai_irem dL_alike_68 (by omega) (by omega) (by omega) (by omega) ?_
  refine ac_SH (As := [.ref 0, .int (iI ((x % 12)))]) ((qL_begins i_44 (iI ((x % 12)))).lo1 σ_57) dL_alike_69 sl_L_147 (by decide) (Nat.le_of_ble_eq_true rfl) hb hs (B2 := 10760) (B2' := 64560) rfl rfl (by omega) (by omega) (fun τ_69 r_69 c_ s_ h_69 hb_ hs_ => ?_)
  replace hb := hb_
  replace hs := hs_
  clear hb_ hs_
  obtain ⟨σ_69, rfl, v_69, rfl, i_69, e_69⟩ := h_69
  obtain rfl : (vBegins s (iI ((x % 12)))) = v_69 := e_69
  refine aw_aload1 dL_alike_72 ?_
  refine aw_iload2 dL_alike_73 ?_
  refine aw_bipush (v := iI (12)) dL_alike_74 (by decide) ?_
  refine ai_irem dL_alike_76 (by omega) (by omega) (by omega) (by omega) ?_
  refine ac_SH (As := [.ref 388, .int (iI ((x % 12)))]) ((qL_begins i_57 (iI ((x % 12)))).hi1 (fun a0 => rfl) hrL σ_69) dL_alike_77 sl_L_147 (by decide) (Nat.le_of_ble_eq_true rfl) hb hs (B2 := 10768) (B2' := 64608) rfl rfl (by omega) (by omega) (fun τ_77 r_77 c_ s_ h_77 hb_ hs_ => ?_)
  replace hb := hb_
  replace hs := hs_
  clear hb_ hs_
  obtain ⟨σ_77, rfl, v_77, rfl, i_77, e_77⟩ := h_77
  obtain rfl : (vBegins s (iI ((x % 12)))) = v_77 := e_77
  refine al_if_ne (tgt := 242) dL_alike_80 dL_alike_81 (by decide) (fun c_80 => absurd rfl c_80) (fun _ => ?_)
  refine aw_aload0 dL_alike_84 ?_
  refine aw_iload2 dL_alike_85 ?_
  refine aw_bipush (v := iI (6)) dL_alike_86 (by decide) ?_
  refine ai_irem dL_alike_88 (by omega) (by omega) (by omega) (by omega) ?_
  refine ac_SH (As := [.ref 0, .int (iI ((x % 6)))]) ((qL_willOwe i_69 (iI ((x % 6)))).lo1 σ_77) dL_alike_89 sl_L_149 (by decide) (Nat.le_of_ble_eq_true rfl) hb hs (B2 := 10776) (B2' := 64656) rfl rfl (by omega) (by omega) (fun τ_89 r_89 c_ s_ h_89 hb_ hs_ => ?_)
  replace hb := hb_
  replace hs := hs_
  clear hb_ hs_
  obtain ⟨σ_89, rfl, v_89, rfl, i_89, e_89⟩ := h_89
  obtain rfl : (vWillOwe s (iI ((x % 6)))) = v_89 := e_89
  refine aw_aload1 dL_alike_92 ?_
  refine aw_iload2 dL_alike_93 ?_
  refine aw_bipush (v := iI (6)) dL_alike_94 (by decide) ?_
  refine ai_irem dL_alike_96 (by omega) (by omega) (by omega) (by omega) ?_
  refine ac_SH (As := [.ref 388, .int (iI ((x % 6)))]) ((qL_willOwe i_77 (iI ((x % 6)))).hi1 (fun a0 => rfl) hrL σ_89) dL_alike_97 sl_L_149 (by decide) (Nat.le_of_ble_eq_true rfl) hb hs (B2 := 10784) (B2' := 64704) rfl rfl (by omega) (by omega) (fun τ_97 r_97 c_ s_ h_97 hb_ hs_ => ?_)
  replace hb := hb_
  replace hs := hs_
  clear hb_ hs_
  obtain ⟨σ_97, rfl, v_97, rfl, i_97, e_97⟩ := h_97
  obtain rfl : (vWillOwe s (iI ((x % 6)))) = v_97 := e_97
  refine al_if_ne (tgt := 242) dL_alike_100 dL_alike_101 (by decide) (fun c_100 => absurd rfl c_100) (fun _ => ?_)
  refine aw_aload0 dL_alike_104 ?_
  refine aw_iload2 dL_alike_105 ?_
  refine aw_iconst (v := iI (4)) dL_alike_106 rfl ?_
  refine ai_irem dL_alike_107 (by omega) (by omega) (by omega) (by omega) ?_
  refine aw_iload2 dL_alike_108 ?_
  refine aw_iconst (v := iI (4)) dL_alike_109 rfl ?_
  refine ai_idiv dL_alike_110 (by omega) (by omega) (by omega) (by omega) ?_
  refine aw_bipush (v := iI (6)) dL_alike_111 (by decide) ?_
  refine ai_irem dL_alike_113 (by omega) (by omega) (by omega) (by omega) ?_
  refine aw_aload0 dL_alike_114 ?_
  refine aw_iconst (v := iI (0)) dL_alike_115 rfl ?_
  refine ac_SH (As := [.ref 0, .int (iI (0))]) ((qL_about i_89 (iI (0))).lo1 σ_97) dL_alike_116 sl_L_104 (by decide) (Nat.le_of_ble_eq_true rfl) hb hs (B2 := 10792) (B2' := 64752) rfl rfl (by omega) (by omega) (fun τ_116 r_116 c_ s_ h_116 hb_ hs_ => ?_)
  replace hb := hb_
  replace hs := hs_
  clear hb_ hs_
  obtain ⟨σ_116, rfl, v_116, rfl, i_116, e_116⟩ := h_116
  obtain rfl : (lI ((tn (stG s) : Int))) = v_116 := (((about_v (i := 0) (by omega) rfl).trans ab0).symm.trans e_116)
  refine ai_l2i dL_alike_119 ?_
  refine aw_iload2 dL_alike_120 ?_
  refine aw_bipush (v := iI (24)) dL_alike_121 (by decide) ?_
  refine ai_idiv dL_alike_123 (by omega) (by omega) (by omega) (by omega) ?_
  refine aw_bipush (v := iI (9)) dL_alike_124 (by decide) ?_
  refine ai_irem dL_alike_126 (by omega) (by omega) (by omega) (by omega) ?_
  refine ai_iadd dL_alike_127 ?_
  refine aw_iconst (v := iI (1)) dL_alike_128 rfl ?_
  refine aw_iload2 dL_alike_129 ?_
  refine aw_iconst (v := iI (5)) dL_alike_130 rfl ?_
  refine ai_irem dL_alike_131 (by omega) (by omega) (by omega) (by omega) ?_
  refine ai_iadd dL_alike_132 ?_
  refine aw_bipush (v := iI (12)) dL_alike_133 (by decide) ?_
  refine aw_iload2 dL_alike_135 ?_
  refine aw_bipush (v := iI (14)) dL_alike_136 (by decide) ?_
  refine ai_irem dL_alike_138 (by omega) (by omega) (by omega) (by omega) ?_
  refine ai_iadd dL_alike_139 ?_
  refine ac_SH (As := [.ref 0, .int (iI ((x % 4))), .int (iI (((x / 4) % 6))), .int (iI (((tn (stG s) : Int) + ((x / 24) % 9)))), .int (iI ((1 + (x % 5)))), .int (iI ((12 + (x % 14))))]) ((qL_cost i_116 (iI ((x % 4))) (iI (((x / 4) % 6))) (iI (((tn (stG s) : Int) + ((x / 24) % 9)))) (iI ((1 + (x % 5)))) (iI ((12 + (x % 14))))).lo1 σ_97) dL_alike_140 sl_L_134 (by decide) (Nat.le_of_ble_eq_true rfl) hb hs (B2 := 10800) (B2' := 64800) rfl rfl (by omega) (by omega) (fun τ_140 r_140 c_ s_ h_140 hb_ hs_ => ?_)
  replace hb := hb_
  replace hs := hs_
  clear hb_ hs_
  obtain ⟨σ_140, rfl, v_140, rfl, i_140, e_140⟩ := h_140
  obtain rfl : (vCost s (iI ((x % 4))) (iI (((x / 4) % 6))) (iI (((tn (stG s) : Int) + ((x / 24) % 9)))) (iI ((1 + (x % 5)))) (iI ((12 + (x % 14))))) = v_140 := e_140
  refine aw_aload1 dL_alike_143 ?_
  refine aw_iload2 dL_alike_144 ?_
  refine aw_iconst (v := iI (4)) dL_alike_145 rfl ?_
  refine ai_irem dL_alike_146 (by omega) (by omega) (by omega) (by omega) ?_
  refine aw_iload2 dL_alike_147 ?_
  refine aw_iconst (v := iI (4)) dL_alike_148 rfl ?_
  refine ai_idiv dL_alike_149 (by omega) (by omega) (by omega) (by omega) ?_
  refine aw_bipush (v := iI (6)) dL_alike_150 (by decide) ?_
  refine ai_irem dL_alike_152 (by omega) (by omega) (by omega) (by omega) ?_
  refine aw_aload1 dL_alike_153 ?_
  refine aw_iconst (v := iI (0)) dL_alike_154 rfl ?_
  refine ac_SH (As := [.ref 388, .int (iI (0))]) ((qL_about i_97 (iI (0))).hi1 (fun a0 => rfl) hrL σ_140) dL_alike_155 sl_L_104 (by decide) (Nat.le_of_ble_eq_true rfl) hb hs (B2 := 10808) (B2' := 64848) rfl rfl (by omega) (by omega) (fun τ_155 r_155 c_ s_ h_155 hb_ hs_ => ?_)
  replace hb := hb_
  replace hs := hs_
  clear hb_ hs_
  obtain ⟨σ_155, rfl, v_155, rfl, i_155, e_155⟩ := h_155
  obtain rfl : (lI ((tn (stG s) : Int))) = v_155 := (((about_v (i := 0) (by omega) rfl).trans ab0).symm.trans e_155)
  refine ai_l2i dL_alike_158 ?_
  refine aw_iload2 dL_alike_159 ?_
  refine aw_bipush (v := iI (24)) dL_alike_160 (by decide) ?_
  refine ai_idiv dL_alike_162 (by omega) (by omega) (by omega) (by omega) ?_
  refine aw_bipush (v := iI (9)) dL_alike_163 (by decide) ?_
  refine ai_irem dL_alike_165 (by omega) (by omega) (by omega) (by omega) ?_
  refine ai_iadd dL_alike_166 ?_
  refine aw_iconst (v := iI (1)) dL_alike_167 rfl ?_
  refine aw_iload2 dL_alike_168 ?_
  refine aw_iconst (v := iI (5)) dL_alike_169 rfl ?_
  refine ai_irem dL_alike_170 (by omega) (by omega) (by omega) (by omega) ?_
  refine ai_iadd dL_alike_171 ?_
  refine aw_bipush (v := iI (12)) dL_alike_172 (by decide) ?_
  refine aw_iload2 dL_alike_174 ?_
  refine aw_bipush (v := iI (14)) dL_alike_175 (by decide) ?_
  refine ai_irem dL_alike_177 (by omega) (by omega) (by omega) (by omega) ?_
  refine ai_iadd dL_alike_178 ?_
  refine ac_SH (As := [.ref 388, .int (iI ((x % 4))), .int (iI (((x / 4) % 6))), .int (iI (((tn (stG s) : Int) + ((x / 24) % 9)))), .int (iI ((1 + (x % 5)))), .int (iI ((12 + (x % 14))))]) ((qL_cost i_155 (iI ((x % 4))) (iI (((x / 4) % 6))) (iI (((tn (stG s) : Int) + ((x / 24) % 9)))) (iI ((1 + (x % 5)))) (iI ((12 + (x % 14))))).hi1 (fun a0 => rfl) hrL σ_140) dL_alike_179 sl_L_134 (by decide) (Nat.le_of_ble_eq_true rfl) hb hs (B2 := 10816) (B2' := 64896) rfl rfl (by omega) (by omega) (fun τ_179 r_179 c_ s_ h_179 hb_ hs_ => ?_)
  replace hb := hb_
  replace hs := hs_
  clear hb_ hs_
  obtain ⟨σ_179, rfl, v_179, rfl, i_179, e_179⟩ := h_179
  obtain rfl : (vCost s (iI ((x % 4))) (iI (((x / 4) % 6))) (iI (((tn (stG s) : Int) + ((x / 24) % 9)))) (iI ((1 + (x % 5)))) (iI ((12 + (x % 14))))) = v_179 := e_179
  refine al_if_ne (tgt := 242) dL_alike_182 dL_alike_183 (by decide) (fun c_182 => absurd rfl c_182) (fun _ => ?_)
  refine aw_aload0 dL_alike_186 ?_
  refine aw_iload2 dL_alike_187 ?_
  refine ai_i2l dL_alike_188 (by omega) (by omega) ?_
  refine aw_bipush (v := iI (20)) dL_alike_189 (by decide) ?_
  refine ac_SH (As := [.ref 0, .long (lI (x)), .int (iI (20))]) ((qL_simulate i_140 (lI (x)) (iI (20))).lo1 σ_179) dL_alike_191 sl_L_159 (by decide) (Nat.le_of_ble_eq_true rfl) hb hs (B2 := 10824) (B2' := 64944) rfl rfl (by omega) (by omega) (fun τ_191 r_191 c_ s_ h_191 hb_ hs_ => ?_)
  replace hb := hb_
  replace hs := hs_
  clear hb_ hs_
  obtain ⟨σ_191, rfl, v_191, rfl, i_191, e_191⟩ := h_191
  obtain rfl : (vSimulate s (lI (x)) (iI (20))) = v_191 := e_191
  refine aw_aload1 dL_alike_194 ?_
  refine aw_iload2 dL_alike_195 ?_
  refine ai_i2l dL_alike_196 (by omega) (by omega) ?_
  refine aw_bipush (v := iI (20)) dL_alike_197 (by decide) ?_
  refine ac_SH (As := [.ref 388, .long (lI (x)), .int (iI (20))]) ((qL_simulate i_179 (lI (x)) (iI (20))).hi1 (fun a0 => rfl) hrL σ_191) dL_alike_199 sl_L_159 (by decide) (Nat.le_of_ble_eq_true rfl) hb hs (B2 := 10832) (B2' := 64992) rfl rfl (by omega) (by omega) (fun τ_199 r_199 c_ s_ h_199 hb_ hs_ => ?_)
  replace hb := hb_
  replace hs := hs_
  clear hb_ hs_
  obtain ⟨σ_199, rfl, v_199, rfl, i_199, e_199⟩ := h_199
  obtain rfl : (vSimulate s (lI (x)) (iI (20))) = v_199 := e_199
  refine al_if_ne (tgt := 242) dL_alike_202 dL_alike_203 (by decide) (fun c_202 => absurd rfl c_202) (fun _ => ?_)
  refine aw_aload0 dL_alike_206 ?_
  refine aw_iconst (v := iI (3)) dL_alike_207 rfl ?_
  refine aw_ldc2 (v := lI (200030001060010)) dL_alike_208 kx_L_192 ?_
  refine aw_iload2 dL_alike_211 ?_
  refine aw_bipush (v := iI (12)) dL_alike_212 (by decide) ?_
  refine ai_irem dL_alike_214 (by omega) (by omega) (by omega) (by omega) ?_
  refine ai_i2l dL_alike_215 (by omega) (by omega) ?_
  refine ai_ladd dL_alike_216 ?_
  refine ac_SH (As := [.ref 0, .int (iI (3)), .long (lI ((200030001060010 + (x % 12))))]) ((qL_script i_191 (iI (3)) (lI ((200030001060010 + (x % 12))))).lo1 σ_199) dL_alike_217 sl_L_153 (by decide) (Nat.le_of_ble_eq_true rfl) hb hs (B2 := 10840) (B2' := 65040) rfl rfl (by omega) (by omega) (fun τ_217 r_217 c_ s_ h_217 hb_ hs_ => ?_)
  replace hb := hb_
  replace hs := hs_
  clear hb_ hs_
  obtain ⟨σ_217, rfl, v_217, rfl, i_217, e_217⟩ := h_217
  obtain rfl : (vScript s (iI (3)) (lI ((200030001060010 + (x % 12))))) = v_217 := e_217
  refine aw_aload1 dL_alike_220 ?_
  refine aw_iconst (v := iI (3)) dL_alike_221 rfl ?_
  refine aw_ldc2 (v := lI (200030001060010)) dL_alike_222 kx_L_192 ?_
  refine aw_iload2 dL_alike_225 ?_
  refine aw_bipush (v := iI (12)) dL_alike_226 (by decide) ?_
  refine ai_irem dL_alike_228 (by omega) (by omega) (by omega) (by omega) ?_
  refine ai_i2l dL_alike_229 (by omega) (by omega) ?_
  refine ai_ladd dL_alike_230 ?_
  refine ac_SH (As := [.ref 388, .int (iI (3)), .long (lI ((200030001060010 + (x % 12))))]) ((qL_script i_199 (iI (3)) (lI ((200030001060010 + (x % 12))))).hi1 (fun a0 => rfl) hrL σ_217) dL_alike_231 sl_L_153 (by decide) (Nat.le_of_ble_eq_true rfl) hb hs (B2 := 10848) (B2' := 65088) rfl rfl (by omega) (by omega) (fun τ_231 r_231 c_ s_ h_231 hb_ hs_ => ?_)
  replace hb := hb_
  replace hs := hs_
  clear hb_ hs_
  obtain ⟨σ_231, rfl, v_231, rfl, i_231, e_231⟩ := h_231
  obtain rfl : (vScript s (iI (3)) (lI ((200030001060010 + (x % 12))))) = v_231 := e_231
  refine al_if_ne (tgt := 242) dL_alike_234 dL_alike_235 (by decide) (fun c_234 => absurd rfl c_234) (fun _ => ?_)
  refine aw_iconst (v := iI (1)) dL_alike_238 rfl ?_
  refine aw_goto (tgt := 243) dL_alike_239 (by decide) ?_
  exact aw_zret dL_alike_243 rfl (by decide) ⟨by omega, by omega⟩ ⟨_, rfl, ⟨_, _, rfl, i_217, i_231⟩, rfl⟩
