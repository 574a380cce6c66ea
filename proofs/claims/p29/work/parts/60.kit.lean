theorem iI_n0 {b : Int} (h3 : 0 < b) (h4 : b < 2147483648) : ¬ iI b = 0 := fun h => by
  have := (iI_inj (by omega) h4 (b := 0) (by decide) (by decide)).mp h
  omega
theorem iI_div {a b : Int} (h1 : 0 ≤ a) (h2 : a < 2147483648) (h3 : 0 < b) (h4 : b < 2147483648) : iI a / iI b = iI (a / b) := by
  apply Int32.toInt_inj.mp
  have hb : iI b ≠ -1 := fun h => by
    have := (iI_inj (by omega) h4 (b := -1) (by decide) (by decide)).mp (h.trans (show (-1 : Int32) = iI (-1) by decide))
    omega
  have h5 : 0 ≤ a / b := Int.ediv_nonneg h1 (by omega)
  have h6 : a / b ≤ a := Int.ediv_le_self _ h1
  rw [Int32.toInt_div_of_ne_right _ _ hb, iI_toInt (by omega) h2, iI_toInt (by omega) h4, iI_toInt (by omega) (by omega), Int.tdiv_eq_ediv_of_nonneg h1]
/-! more places of a method's locals; numbers by their whole numbers -/
section AWR2
variable {K : KT} {own : String} {cc : ByteArray} {M : MT} {d mc ms : Nat} {Q : State → Prop} {n : Nat} {z : Option Nat} {σ : Sg} {cells slots pc : Nat} {ls : List (Option Value)} {st : List Value}
theorem aw_iload12 {x0 x1 x2 x3 x4 x5 x6 x7 x8 x9 x10 x11 : Option Value} {v : Int32} {r : List (Option Value)} (hd : decode cc pc = .ok (.iload 12, 2)) (k : AW K own cc M d mc ms Q n z σ cells slots (pc + 2) (x0 :: x1 :: x2 :: x3 :: x4 :: x5 :: x6 :: x7 :: x8 :: x9 :: x10 :: x11 :: some (.int v) :: r) (.int v :: st)) : AW K own cc M d mc ms Q n z σ cells slots pc (x0 :: x1 :: x2 :: x3 :: x4 :: x5 :: x6 :: x7 :: x8 :: x9 :: x10 :: x11 :: some (.int v) :: r) st := by
  obtain ⟨p, l, e, s, m, args, below, meth, c, D, cs, a0, A0⟩ := K
  intro C H locs la hP hA hS hl
  exact lv_iload C.1 C.2.1 hd (hl.at (i := 12) (v := .int v) rfl) (k C H locs la hP hA hS hl)
theorem aw_lload12 {x0 x1 x2 x3 x4 x5 x6 x7 x8 x9 x10 x11 : Option Value} {v : Int64} {r : List (Option Value)} (hd : decode cc pc = .ok (.lload 12, 2)) (k : AW K own cc M d mc ms Q n z σ cells slots (pc + 2) (x0 :: x1 :: x2 :: x3 :: x4 :: x5 :: x6 :: x7 :: x8 :: x9 :: x10 :: x11 :: some (.long v) :: r) (.long v :: st)) : AW K own cc M d mc ms Q n z σ cells slots pc (x0 :: x1 :: x2 :: x3 :: x4 :: x5 :: x6 :: x7 :: x8 :: x9 :: x10 :: x11 :: some (.long v) :: r) st := by
  obtain ⟨p, l, e, s, m, args, below, meth, c, D, cs, a0, A0⟩ := K
  intro C H locs la hP hA hS hl
  exact lv_lload C.1 C.2.1 hd (hl.at (i := 12) (v := .long v) rfl) (k C H locs la hP hA hS hl)
theorem aw_aload12 {x0 x1 x2 x3 x4 x5 x6 x7 x8 x9 x10 x11 : Option Value} {v : Nat} {r : List (Option Value)} (hd : decode cc pc = .ok (.aload 12, 2)) (k : AW K own cc M d mc ms Q n z σ cells slots (pc + 2) (x0 :: x1 :: x2 :: x3 :: x4 :: x5 :: x6 :: x7 :: x8 :: x9 :: x10 :: x11 :: some (.ref v) :: r) (.ref v :: st)) : AW K own cc M d mc ms Q n z σ cells slots pc (x0 :: x1 :: x2 :: x3 :: x4 :: x5 :: x6 :: x7 :: x8 :: x9 :: x10 :: x11 :: some (.ref v) :: r) st := by
  obtain ⟨p, l, e, s, m, args, below, meth, c, D, cs, a0, A0⟩ := K
  intro C H locs la hP hA hS hl
  exact lv_aload C.1 C.2.1 hd (hl.at (i := 12) (v := .ref v) rfl) (k C H locs la hP hA hS hl)
theorem aw_aload12N {x0 x1 x2 x3 x4 x5 x6 x7 x8 x9 x10 x11 : Option Value} {r : List (Option Value)} (hd : decode cc pc = .ok (.aload 12, 2)) (k : AW K own cc M d mc ms Q n z σ cells slots (pc + 2) (x0 :: x1 :: x2 :: x3 :: x4 :: x5 :: x6 :: x7 :: x8 :: x9 :: x10 :: x11 :: some .null :: r) (.null :: st)) : AW K own cc M d mc ms Q n z σ cells slots pc (x0 :: x1 :: x2 :: x3 :: x4 :: x5 :: x6 :: x7 :: x8 :: x9 :: x10 :: x11 :: some .null :: r) st := by
  obtain ⟨p, l, e, s, m, args, below, meth, c, D, cs, a0, A0⟩ := K
  intro C H locs la hP hA hS hl
  exact lv_aloadN C.1 C.2.1 hd (hl.at (i := 12) (v := .null) rfl) (k C H locs la hP hA hS hl)
theorem aw_istore12 {x0 x1 x2 x3 x4 x5 x6 x7 x8 x9 x10 x11 : Option Value} {y0 : Option Value} {v : Int32} {r : List (Option Value)} (hd : decode cc pc = .ok (.istore 12, 2)) (hL : 12 < M.1) (hn : c1b x11 = true) (k : AW K own cc M d mc ms Q n z σ cells slots (pc + 2) (x0 :: x1 :: x2 :: x3 :: x4 :: x5 :: x6 :: x7 :: x8 :: x9 :: x10 :: x11 :: some (.int v) :: r) st) : AW K own cc M d mc ms Q n z σ cells slots pc (x0 :: x1 :: x2 :: x3 :: x4 :: x5 :: x6 :: x7 :: x8 :: x9 :: x10 :: x11 :: y0 :: r) (.int v :: st) := by
  obtain ⟨p, l, e, s, m, args, below, meth, c, D, cs, a0, A0⟩ := K
  intro C H locs la hP hA hS hl
  exact lv_istore C.1 C.2.1 hd hl.has hL rfl (fun la2 hl2 => k C H locs la2 hP hA hS (lok.set1 (v := .int v) (lnc_s hn) hl2))
theorem aw_astore12 {x0 x1 x2 x3 x4 x5 x6 x7 x8 x9 x10 x11 : Option Value} {y0 : Option Value} {v : Nat} {r : List (Option Value)} (hd : decode cc pc = .ok (.astore 12, 2)) (hL : 12 < M.1) (hn : c1b x11 = true) (k : AW K own cc M d mc ms Q n z σ cells slots (pc + 2) (x0 :: x1 :: x2 :: x3 :: x4 :: x5 :: x6 :: x7 :: x8 :: x9 :: x10 :: x11 :: some (.ref v) :: r) st) : AW K own cc M d mc ms Q n z σ cells slots pc (x0 :: x1 :: x2 :: x3 :: x4 :: x5 :: x6 :: x7 :: x8 :: x9 :: x10 :: x11 :: y0 :: r) (.ref v :: st) := by
  obtain ⟨p, l, e, s, m, args, below, meth, c, D, cs, a0, A0⟩ := K
  intro C H locs la hP hA hS hl
  exact lv_astore C.1 C.2.1 hd hl.has hL rfl (fun la2 hl2 => k C H locs la2 hP hA hS (lok.set1 (v := .ref v) (lnc_s hn) hl2))
theorem aw_astore12N {x0 x1 x2 x3 x4 x5 x6 x7 x8 x9 x10 x11 : Option Value} {y0 : Option Value} {r : List (Option Value)} (hd : decode cc pc = .ok (.astore 12, 2)) (hL : 12 < M.1) (hn : c1b x11 = true) (k : AW K own cc M d mc ms Q n z σ cells slots (pc + 2) (x0 :: x1 :: x2 :: x3 :: x4 :: x5 :: x6 :: x7 :: x8 :: x9 :: x10 :: x11 :: some (.null) :: r) st) : AW K own cc M d mc ms Q n z σ cells slots pc (x0 :: x1 :: x2 :: x3 :: x4 :: x5 :: x6 :: x7 :: x8 :: x9 :: x10 :: x11 :: y0 :: r) (.null :: st) := by
  obtain ⟨p, l, e, s, m, args, below, meth, c, D, cs, a0, A0⟩ := K
  intro C H locs la hP hA hS hl
  exact lv_astoreN C.1 C.2.1 hd hl.has hL rfl (fun la2 hl2 => k C H locs la2 hP hA hS (lok.set1 (v := .null) (lnc_s hn) hl2))
theorem aw_astore12E {x0 x1 x2 x3 x4 x5 x6 x7 x8 x9 x10 x11 : Option Value} {y0 : Option Value} {v : Nat} {r : List (Option Value)} (hd : decode cc pc = .ok (.astore 12, 2)) (hL : 12 < M.1) (hn : c1b x11 = true) (k : AW K own cc M d mc ms Q n z σ cells slots (pc + 2) (x0 :: x1 :: x2 :: x3 :: x4 :: x5 :: x6 :: x7 :: x8 :: x9 :: x10 :: x11 :: some (.retAddr v) :: r) st) : AW K own cc M d mc ms Q n z σ cells slots pc (x0 :: x1 :: x2 :: x3 :: x4 :: x5 :: x6 :: x7 :: x8 :: x9 :: x10 :: x11 :: y0 :: r) (.retAddr v :: st) := by
  obtain ⟨p, l, e, s, m, args, below, meth, c, D, cs, a0, A0⟩ := K
  intro C H locs la hP hA hS hl
  exact lv_astore C.1 C.2.1 hd hl.has hL rfl (fun la2 hl2 => k C H locs la2 hP hA hS (lok.set1 (v := .retAddr v) (lnc_s hn) hl2))
theorem aw_lstore12 {x0 x1 x2 x3 x4 x5 x6 x7 x8 x9 x10 x11 : Option Value} {y0 y1 : Option Value} {v : Int64} {r : List (Option Value)} (hd : decode cc pc = .ok (.lstore 12, 2)) (hL : 12 + 1 < M.1) (hn : c1b x11 = true) (k : AW K own cc M d mc ms Q n z σ cells slots (pc + 2) (x0 :: x1 :: x2 :: x3 :: x4 :: x5 :: x6 :: x7 :: x8 :: x9 :: x10 :: x11 :: some (.long v) :: none :: r) st) : AW K own cc M d mc ms Q n z σ cells slots pc (x0 :: x1 :: x2 :: x3 :: x4 :: x5 :: x6 :: x7 :: x8 :: x9 :: x10 :: x11 :: y0 :: y1 :: r) (.long v :: st) := by
  obtain ⟨p, l, e, s, m, args, below, meth, c, D, cs, a0, A0⟩ := K
  intro C H locs la hP hA hS hl
  exact lv_lstore C.1 C.2.1 hd hl.has hL rfl (fun la2 hl2 => k C H locs la2 hP hA hS (lok.set2 (v := .long v) (lnc_s hn) hl2))
theorem aw_iinc12 {x0 x1 x2 x3 x4 x5 x6 x7 x8 x9 x10 x11 : Option Value} {v w : Int32} {c0 : Int} {r : List (Option Value)} (hd : decode cc pc = .ok (.iinc 12 c0, 3)) (hw : v + Int32.ofInt c0 = w) (hL : 12 < M.1) (hn : c1b x11 = true) (k : AW K own cc M d mc ms Q n z σ cells slots (pc + 3) (x0 :: x1 :: x2 :: x3 :: x4 :: x5 :: x6 :: x7 :: x8 :: x9 :: x10 :: x11 :: some (.int w) :: r) st) : AW K own cc M d mc ms Q n z σ cells slots pc (x0 :: x1 :: x2 :: x3 :: x4 :: x5 :: x6 :: x7 :: x8 :: x9 :: x10 :: x11 :: some (.int v) :: r) st := by
  obtain ⟨p, l, e, s, m, args, below, meth, c, D, cs, a0, A0⟩ := K
  intro C H locs la hP hA hS hl
  obtain ⟨q, hq⟩ := List.getElem?_of_mem (lpr_mem (a0 := a0) (ls := (x0 :: x1 :: x2 :: x3 :: x4 :: x5 :: x6 :: x7 :: x8 :: x9 :: x10 :: x11 :: some (.int v) :: r)) (i := 12) (v := .int v) rfl)
  exact lv_iinc C.1 C.2.1 hd hl.has hq hw hL rfl (fun la2 hl2 => k C H locs la2 hP hA hS (lok.set1 (v := .int w) (lnc_s hn) hl2))
theorem aw_iload13 {x0 x1 x2 x3 x4 x5 x6 x7 x8 x9 x10 x11 x12 : Option Value} {v : Int32} {r : List (Option Value)} (hd : decode cc pc = .ok (.iload 13, 2)) (k : AW K own cc M d mc ms Q n z σ cells slots (pc + 2) (x0 :: x1 :: x2 :: x3 :: x4 :: x5 :: x6 :: x7 :: x8 :: x9 :: x10 :: x11 :: x12 :: some (.int v) :: r) (.int v :: st)) : AW K own cc M d mc ms Q n z σ cells slots pc (x0 :: x1 :: x2 :: x3 :: x4 :: x5 :: x6 :: x7 :: x8 :: x9 :: x10 :: x11 :: x12 :: some (.int v) :: r) st := by
  obtain ⟨p, l, e, s, m, args, below, meth, c, D, cs, a0, A0⟩ := K
  intro C H locs la hP hA hS hl
  exact lv_iload C.1 C.2.1 hd (hl.at (i := 13) (v := .int v) rfl) (k C H locs la hP hA hS hl)
theorem aw_lload13 {x0 x1 x2 x3 x4 x5 x6 x7 x8 x9 x10 x11 x12 : Option Value} {v : Int64} {r : List (Option Value)} (hd : decode cc pc = .ok (.lload 13, 2)) (k : AW K own cc M d mc ms Q n z σ cells slots (pc + 2) (x0 :: x1 :: x2 :: x3 :: x4 :: x5 :: x6 :: x7 :: x8 :: x9 :: x10 :: x11 :: x12 :: some (.long v) :: r) (.long v :: st)) : AW K own cc M d mc ms Q n z σ cells slots pc (x0 :: x1 :: x2 :: x3 :: x4 :: x5 :: x6 :: x7 :: x8 :: x9 :: x10 :: x11 :: x12 :: some (.long v) :: r) st := by
  obtain ⟨p, l, e, s, m, args, below, meth, c, D, cs, a0, A0⟩ := K
  intro C H locs la hP hA hS hl
  exact lv_lload C.1 C.2.1 hd (hl.at (i := 13) (v := .long v) rfl) (k C H locs la hP hA hS hl)
theorem aw_aload13 {x0 x1 x2 x3 x4 x5 x6 x7 x8 x9 x10 x11 x12 : Option Value} {v : Nat} {r : List (Option Value)} (hd : decode cc pc = .ok (.aload 13, 2)) (k : AW K own cc M d mc ms Q n z σ cells slots (pc + 2) (x0 :: x1 :: x2 :: x3 :: x4 :: x5 :: x6 :: x7 :: x8 :: x9 :: x10 :: x11 :: x12 :: some (.ref v) :: r) (.ref v :: st)) : AW K own cc M d mc ms Q n z σ cells slots pc (x0 :: x1 :: x2 :: x3 :: x4 :: x5 :: x6 :: x7 :: x8 :: x9 :: x10 :: x11 :: x12 :: some (.ref v) :: r) st := by
  obtain ⟨p, l, e, s, m, args, below, meth, c, D, cs, a0, A0⟩ := K
  intro C H locs la hP hA hS hl
  exact lv_aload C.1 C.2.1 hd (hl.at (i := 13) (v := .ref v) rfl) (k C H locs la hP hA hS hl)
theorem aw_aload13N {x0 x1 x2 x3 x4 x5 x6 x7 x8 x9 x10 x11 x12 : Option Value} {r : List (Option Value)} (hd : decode cc pc = .ok (.aload 13, 2)) (k : AW K own cc M d mc ms Q n z σ cells slots (pc + 2) (x0 :: x1 :: x2 :: x3 :: x4 :: x5 :: x6 :: x7 :: x8 :: x9 :: x10 :: x11 :: x12 :: some .null :: r) (.null :: st)) : AW K own cc M d mc ms Q n z σ cells slots pc (x0 :: x1 :: x2 :: x3 :: x4 :: x5 :: x6 :: x7 :: x8 :: x9 :: x10 :: x11 :: x12 :: some .null :: r) st := by
  obtain ⟨p, l, e, s, m, args, below, meth, c, D, cs, a0, A0⟩ := K
  intro C H locs la hP hA hS hl
  exact lv_aloadN C.1 C.2.1 hd (hl.at (i := 13) (v := .null) rfl) (k C H locs la hP hA hS hl)
theorem aw_istore13 {x0 x1 x2 x3 x4 x5 x6 x7 x8 x9 x10 x11 x12 : Option Value} {y0 : Option Value} {v : Int32} {r : List (Option Value)} (hd : decode cc pc = .ok (.istore 13, 2)) (hL : 13 < M.1) (hn : c1b x12 = true) (k : AW K own cc M d mc ms Q n z σ cells slots (pc + 2) (x0 :: x1 :: x2 :: x3 :: x4 :: x5 :: x6 :: x7 :: x8 :: x9 :: x10 :: x11 :: x12 :: some (.int v) :: r) st) : AW K own cc M d mc ms Q n z σ cells slots pc (x0 :: x1 :: x2 :: x3 :: x4 :: x5 :: x6 :: x7 :: x8 :: x9 :: x10 :: x11 :: x12 :: y0 :: r) (.int v :: st) := by
  obtain ⟨p, l, e, s, m, args, below, meth, c, D, cs, a0, A0⟩ := K
  intro C H locs la hP hA hS hl
  exact lv_istore C.1 C.2.1 hd hl.has hL rfl (fun la2 hl2 => k C H locs la2 hP hA hS (lok.set1 (v := .int v) (lnc_s hn) hl2))
theorem aw_astore13 {x0 x1 x2 x3 x4 x5 x6 x7 x8 x9 x10 x11 x12 : Option Value} {y0 : Option Value} {v : Nat} {r : List (Option Value)} (hd : decode cc pc = .ok (.astore 13, 2)) (hL : 13 < M.1) (hn : c1b x12 = true) (k : AW K own cc M d mc ms Q n z σ cells slots (pc + 2) (x0 :: x1 :: x2 :: x3 :: x4 :: x5 :: x6 :: x7 :: x8 :: x9 :: x10 :: x11 :: x12 :: some (.ref v) :: r) st) : AW K own cc M d mc ms Q n z σ cells slots pc (x0 :: x1 :: x2 :: x3 :: x4 :: x5 :: x6 :: x7 :: x8 :: x9 :: x10 :: x11 :: x12 :: y0 :: r) (.ref v :: st) := by
  obtain ⟨p, l, e, s, m, args, below, meth, c, D, cs, a0, A0⟩ := K
  intro C H locs la hP hA hS hl
  exact lv_astore C.1 C.2.1 hd hl.has hL rfl (fun la2 hl2 => k C H locs la2 hP hA hS (lok.set1 (v := .ref v) (lnc_s hn) hl2))
theorem aw_astore13N {x0 x1 x2 x3 x4 x5 x6 x7 x8 x9 x10 x11 x12 : Option Value} {y0 : Option Value} {r : List (Option Value)} (hd : decode cc pc = .ok (.astore 13, 2)) (hL : 13 < M.1) (hn : c1b x12 = true) (k : AW K own cc M d mc ms Q n z σ cells slots (pc + 2) (x0 :: x1 :: x2 :: x3 :: x4 :: x5 :: x6 :: x7 :: x8 :: x9 :: x10 :: x11 :: x12 :: some (.null) :: r) st) : AW K own cc M d mc ms Q n z σ cells slots pc (x0 :: x1 :: x2 :: x3 :: x4 :: x5 :: x6 :: x7 :: x8 :: x9 :: x10 :: x11 :: x12 :: y0 :: r) (.null :: st) := by
  obtain ⟨p, l, e, s, m, args, below, meth, c, D, cs, a0, A0⟩ := K
  intro C H locs la hP hA hS hl
  exact lv_astoreN C.1 C.2.1 hd hl.has hL rfl (fun la2 hl2 => k C H locs la2 hP hA hS (lok.set1 (v := .null) (lnc_s hn) hl2))
theorem aw_astore13E {x0 x1 x2 x3 x4 x5 x6 x7 x8 x9 x10 x11 x12 : Option Value} {y0 : Option Value} {v : Nat} {r : List (Option Value)} (hd : decode cc pc = .ok (.astore 13, 2)) (hL : 13 < M.1) (hn : c1b x12 = true) (k : AW K own cc M d mc ms Q n z σ cells slots (pc + 2) (x0 :: x1 :: x2 :: x3 :: x4 :: x5 :: x6 :: x7 :: x8 :: x9 :: x10 :: x11 :: x12 :: some (.retAddr v) :: r) st) : AW K own cc M d mc ms Q n z σ cells slots pc (x0 :: x1 :: x2 :: x3 :: x4 :: x5 :: x6 :: x7 :: x8 :: x9 :: x10 :: x11 :: x12 :: y0 :: r) (.retAddr v :: st) := by
  obtain ⟨p, l, e, s, m, args, below, meth, c, D, cs, a0, A0⟩ := K
  intro C H locs la hP hA hS hl
  exact lv_astore C.1 C.2.1 hd hl.has hL rfl (fun la2 hl2 => k C H locs la2 hP hA hS (lok.set1 (v := .retAddr v) (lnc_s hn) hl2))
theorem aw_lstore13 {x0 x1 x2 x3 x4 x5 x6 x7 x8 x9 x10 x11 x12 : Option Value} {y0 y1 : Option Value} {v : Int64} {r : List (Option Value)} (hd : decode cc pc = .ok (.lstore 13, 2)) (hL : 13 + 1 < M.1) (hn : c1b x12 = true) (k : AW K own cc M d mc ms Q n z σ cells slots (pc + 2) (x0 :: x1 :: x2 :: x3 :: x4 :: x5 :: x6 :: x7 :: x8 :: x9 :: x10 :: x11 :: x12 :: some (.long v) :: none :: r) st) : AW K own cc M d mc ms Q n z σ cells slots pc (x0 :: x1 :: x2 :: x3 :: x4 :: x5 :: x6 :: x7 :: x8 :: x9 :: x10 :: x11 :: x12 :: y0 :: y1 :: r) (.long v :: st) := by
  obtain ⟨p, l, e, s, m, args, below, meth, c, D, cs, a0, A0⟩ := K
  intro C H locs la hP hA hS hl
  exact lv_lstore C.1 C.2.1 hd hl.has hL rfl (fun la2 hl2 => k C H locs la2 hP hA hS (lok.set2 (v := .long v) (lnc_s hn) hl2))
theorem aw_iinc13 {x0 x1 x2 x3 x4 x5 x6 x7 x8 x9 x10 x11 x12 : Option Value} {v w : Int32} {c0 : Int} {r : List (Option Value)} (hd : decode cc pc = .ok (.iinc 13 c0, 3)) (hw : v + Int32.ofInt c0 = w) (hL : 13 < M.1) (hn : c1b x12 = true) (k : AW K own cc M d mc ms Q n z σ cells slots (pc + 3) (x0 :: x1 :: x2 :: x3 :: x4 :: x5 :: x6 :: x7 :: x8 :: x9 :: x10 :: x11 :: x12 :: some (.int w) :: r) st) : AW K own cc M d mc ms Q n z σ cells slots pc (x0 :: x1 :: x2 :: x3 :: x4 :: x5 :: x6 :: x7 :: x8 :: x9 :: x10 :: x11 :: x12 :: some (.int v) :: r) st := by
  obtain ⟨p, l, e, s, m, args, below, meth, c, D, cs, a0, A0⟩ := K
  intro C H locs la hP hA hS hl
  obtain ⟨q, hq⟩ := List.getElem?_of_mem (lpr_mem (a0 := a0) (ls := (x0 :: x1 :: x2 :: x3 :: x4 :: x5 :: x6 :: x7 :: x8 :: x9 :: x10 :: x11 :: x12 :: some (.int v) :: r)) (i := 13) (v := .int v) rfl)
  exact lv_iinc C.1 C.2.1 hd hl.has hq hw hL rfl (fun la2 hl2 => k C H locs la2 hP hA hS (lok.set1 (v := .int w) (lnc_s hn) hl2))
theorem aw_iload14 {x0 x1 x2 x3 x4 x5 x6 x7 x8 x9 x10 x11 x12 x13 : Option Value} {v : Int32} {r : List (Option Value)} (hd : decode cc pc = .ok (.iload 14, 2)) (k : AW K own cc M d mc ms Q n z σ cells slots (pc + 2) (x0 :: x1 :: x2 :: x3 :: x4 :: x5 :: x6 :: x7 :: x8 :: x9 :: x10 :: x11 :: x12 :: x13 :: some (.int v) :: r) (.int v :: st)) : AW K own cc M d mc ms Q n z σ cells slots pc (x0 :: x1 :: x2 :: x3 :: x4 :: x5 :: x6 :: x7 :: x8 :: x9 :: x10 :: x11 :: x12 :: x13 :: some (.int v) :: r) st := by
  obtain ⟨p, l, e, s, m, args, below, meth, c, D, cs, a0, A0⟩ := K
  intro C H locs la hP hA hS hl
  exact lv_iload C.1 C.2.1 hd (hl.at (i := 14) (v := .int v) rfl) (k C H locs la hP hA hS hl)
theorem aw_lload14 {x0 x1 x2 x3 x4 x5 x6 x7 x8 x9 x10 x11 x12 x13 : Option Value} {v : Int64} {r : List (Option Value)} (hd : decode cc pc = .ok (.lload 14, 2)) (k : AW K own cc M d mc ms Q n z σ cells slots (pc + 2) (x0 :: x1 :: x2 :: x3 :: x4 :: x5 :: x6 :: x7 :: x8 :: x9 :: x10 :: x11 :: x12 :: x13 :: some (.long v) :: r) (.long v :: st)) : AW K own cc M d mc ms Q n z σ cells slots pc (x0 :: x1 :: x2 :: x3 :: x4 :: x5 :: x6 :: x7 :: x8 :: x9 :: x10 :: x11 :: x12 :: x13 :: some (.long v) :: r) st := by
  obtain ⟨p, l, e, s, m, args, below, meth, c, D, cs, a0, A0⟩ := K
  intro C H locs la hP hA hS hl
  exact lv_lload C.1 C.2.1 hd (hl.at (i := 14) (v := .long v) rfl) (k C H locs la hP hA hS hl)
theorem aw_aload14 {x0 x1 x2 x3 x4 x5 x6 x7 x8 x9 x10 x11 x12 x13 : Option Value} {v : Nat} {r : List (Option Value)} (hd : decode cc pc = .ok (.aload 14, 2)) (k : AW K own cc M d mc ms Q n z σ cells slots (pc + 2) (x0 :: x1 :: x2 :: x3 :: x4 :: x5 :: x6 :: x7 :: x8 :: x9 :: x10 :: x11 :: x12 :: x13 :: some (.ref v) :: r) (.ref v :: st)) : AW K own cc M d mc ms Q n z σ cells slots pc (x0 :: x1 :: x2 :: x3 :: x4 :: x5 :: x6 :: x7 :: x8 :: x9 :: x10 :: x11 :: x12 :: x13 :: some (.ref v) :: r) st := by
  obtain ⟨p, l, e, s, m, args, below, meth, c, D, cs, a0, A0⟩ := K
  intro C H locs la hP hA hS hl
  exact lv_aload C.1 C.2.1 hd (hl.at (i := 14) (v := .ref v) rfl) (k C H locs la hP hA hS hl)
theorem aw_aload14N {x0 x1 x2 x3 x4 x5 x6 x7 x8 x9 x10 x11 x12 x13 : Option Value} {r : List (Option Value)} (hd : decode cc pc = .ok (.aload 14, 2)) (k : AW K own cc M d mc ms Q n z σ cells slots (pc + 2) (x0 :: x1 :: x2 :: x3 :: x4 :: x5 :: x6 :: x7 :: x8 :: x9 :: x10 :: x11 :: x12 :: x13 :: some .null :: r) (.null :: st)) : AW K own cc M d mc ms Q n z σ cells slots pc (x0 :: x1 :: x2 :: x3 :: x4 :: x5 :: x6 :: x7 :: x8 :: x9 :: x10 :: x11 :: x12 :: x13 :: some .null :: r) st := by
  obtain ⟨p, l, e, s, m, args, below, meth, c, D, cs, a0, A0⟩ := K
  intro C H locs la hP hA hS hl
  exact lv_aloadN C.1 C.2.1 hd (hl.at (i := 14) (v := .null) rfl) (k C H locs la hP hA hS hl)
theorem aw_istore14 {x0 x1 x2 x3 x4 x5 x6 x7 x8 x9 x10 x11 x12 x13 : Option Value} {y0 : Option Value} {v : Int32} {r : List (Option Value)} (hd : decode cc pc = .ok (.istore 14, 2)) (hL : 14 < M.1) (hn : c1b x13 = true) (k : AW K own cc M d mc ms Q n z σ cells slots (pc + 2) (x0 :: x1 :: x2 :: x3 :: x4 :: x5 :: x6 :: x7 :: x8 :: x9 :: x10 :: x11 :: x12 :: x13 :: some (.int v) :: r) st) : AW K own cc M d mc ms Q n z σ cells slots pc (x0 :: x1 :: x2 :: x3 :: x4 :: x5 :: x6 :: x7 :: x8 :: x9 :: x10 :: x11 :: x12 :: x13 :: y0 :: r) (.int v :: st) := by
  obtain ⟨p, l, e, s, m, args, below, meth, c, D, cs, a0, A0⟩ := K
  intro C H locs la hP hA hS hl
  exact lv_istore C.1 C.2.1 hd hl.has hL rfl (fun la2 hl2 => k C H locs la2 hP hA hS (lok.set1 (v := .int v) (lnc_s hn) hl2))
theorem aw_astore14 {x0 x1 x2 x3 x4 x5 x6 x7 x8 x9 x10 x11 x12 x13 : Option Value} {y0 : Option Value} {v : Nat} {r : List (Option Value)} (hd : decode cc pc = .ok (.astore 14, 2)) (hL : 14 < M.1) (hn : c1b x13 = true) (k : AW K own cc M d mc ms Q n z σ cells slots (pc + 2) (x0 :: x1 :: x2 :: x3 :: x4 :: x5 :: x6 :: x7 :: x8 :: x9 :: x10 :: x11 :: x12 :: x13 :: some (.ref v) :: r) st) : AW K own cc M d mc ms Q n z σ cells slots pc (x0 :: x1 :: x2 :: x3 :: x4 :: x5 :: x6 :: x7 :: x8 :: x9 :: x10 :: x11 :: x12 :: x13 :: y0 :: r) (.ref v :: st) := by
  obtain ⟨p, l, e, s, m, args, below, meth, c, D, cs, a0, A0⟩ := K
  intro C H locs la hP hA hS hl
  exact lv_astore C.1 C.2.1 hd hl.has hL rfl (fun la2 hl2 => k C H locs la2 hP hA hS (lok.set1 (v := .ref v) (lnc_s hn) hl2))
theorem aw_astore14N {x0 x1 x2 x3 x4 x5 x6 x7 x8 x9 x10 x11 x12 x13 : Option Value} {y0 : Option Value} {r : List (Option Value)} (hd : decode cc pc = .ok (.astore 14, 2)) (hL : 14 < M.1) (hn : c1b x13 = true) (k : AW K own cc M d mc ms Q n z σ cells slots (pc + 2) (x0 :: x1 :: x2 :: x3 :: x4 :: x5 :: x6 :: x7 :: x8 :: x9 :: x10 :: x11 :: x12 :: x13 :: some (.null) :: r) st) : AW K own cc M d mc ms Q n z σ cells slots pc (x0 :: x1 :: x2 :: x3 :: x4 :: x5 :: x6 :: x7 :: x8 :: x9 :: x10 :: x11 :: x12 :: x13 :: y0 :: r) (.null :: st) := by
  obtain ⟨p, l, e, s, m, args, below, meth, c, D, cs, a0, A0⟩ := K
  intro C H locs la hP hA hS hl
  exact lv_astoreN C.1 C.2.1 hd hl.has hL rfl (fun la2 hl2 => k C H locs la2 hP hA hS (lok.set1 (v := .null) (lnc_s hn) hl2))
theorem aw_astore14E {x0 x1 x2 x3 x4 x5 x6 x7 x8 x9 x10 x11 x12 x13 : Option Value} {y0 : Option Value} {v : Nat} {r : List (Option Value)} (hd : decode cc pc = .ok (.astore 14, 2)) (hL : 14 < M.1) (hn : c1b x13 = true) (k : AW K own cc M d mc ms Q n z σ cells slots (pc + 2) (x0 :: x1 :: x2 :: x3 :: x4 :: x5 :: x6 :: x7 :: x8 :: x9 :: x10 :: x11 :: x12 :: x13 :: some (.retAddr v) :: r) st) : AW K own cc M d mc ms Q n z σ cells slots pc (x0 :: x1 :: x2 :: x3 :: x4 :: x5 :: x6 :: x7 :: x8 :: x9 :: x10 :: x11 :: x12 :: x13 :: y0 :: r) (.retAddr v :: st) := by
  obtain ⟨p, l, e, s, m, args, below, meth, c, D, cs, a0, A0⟩ := K
  intro C H locs la hP hA hS hl
  exact lv_astore C.1 C.2.1 hd hl.has hL rfl (fun la2 hl2 => k C H locs la2 hP hA hS (lok.set1 (v := .retAddr v) (lnc_s hn) hl2))
theorem aw_lstore14 {x0 x1 x2 x3 x4 x5 x6 x7 x8 x9 x10 x11 x12 x13 : Option Value} {y0 y1 : Option Value} {v : Int64} {r : List (Option Value)} (hd : decode cc pc = .ok (.lstore 14, 2)) (hL : 14 + 1 < M.1) (hn : c1b x13 = true) (k : AW K own cc M d mc ms Q n z σ cells slots (pc + 2) (x0 :: x1 :: x2 :: x3 :: x4 :: x5 :: x6 :: x7 :: x8 :: x9 :: x10 :: x11 :: x12 :: x13 :: some (.long v) :: none :: r) st) : AW K own cc M d mc ms Q n z σ cells slots pc (x0 :: x1 :: x2 :: x3 :: x4 :: x5 :: x6 :: x7 :: x8 :: x9 :: x10 :: x11 :: x12 :: x13 :: y0 :: y1 :: r) (.long v :: st) := by
  obtain ⟨p, l, e, s, m, args, below, meth, c, D, cs, a0, A0⟩ := K
  intro C H locs la hP hA hS hl
  exact lv_lstore C.1 C.2.1 hd hl.has hL rfl (fun la2 hl2 => k C H locs la2 hP hA hS (lok.set2 (v := .long v) (lnc_s hn) hl2))
theorem aw_iinc14 {x0 x1 x2 x3 x4 x5 x6 x7 x8 x9 x10 x11 x12 x13 : Option Value} {v w : Int32} {c0 : Int} {r : List (Option Value)} (hd : decode cc pc = .ok (.iinc 14 c0, 3)) (hw : v + Int32.ofInt c0 = w) (hL : 14 < M.1) (hn : c1b x13 = true) (k : AW K own cc M d mc ms Q n z σ cells slots (pc + 3) (x0 :: x1 :: x2 :: x3 :: x4 :: x5 :: x6 :: x7 :: x8 :: x9 :: x10 :: x11 :: x12 :: x13 :: some (.int w) :: r) st) : AW K own cc M d mc ms Q n z σ cells slots pc (x0 :: x1 :: x2 :: x3 :: x4 :: x5 :: x6 :: x7 :: x8 :: x9 :: x10 :: x11 :: x12 :: x13 :: some (.int v) :: r) st := by
  obtain ⟨p, l, e, s, m, args, below, meth, c, D, cs, a0, A0⟩ := K
  intro C H locs la hP hA hS hl
  obtain ⟨q, hq⟩ := List.getElem?_of_mem (lpr_mem (a0 := a0) (ls := (x0 :: x1 :: x2 :: x3 :: x4 :: x5 :: x6 :: x7 :: x8 :: x9 :: x10 :: x11 :: x12 :: x13 :: some (.int v) :: r)) (i := 14) (v := .int v) rfl)
  exact lv_iinc C.1 C.2.1 hd hl.has hq hw hL rfl (fun la2 hl2 => k C H locs la2 hP hA hS (lok.set1 (v := .int w) (lnc_s hn) hl2))
theorem aw_iload15 {x0 x1 x2 x3 x4 x5 x6 x7 x8 x9 x10 x11 x12 x13 x14 : Option Value} {v : Int32} {r : List (Option Value)} (hd : decode cc pc = .ok (.iload 15, 2)) (k : AW K own cc M d mc ms Q n z σ cells slots (pc + 2) (x0 :: x1 :: x2 :: x3 :: x4 :: x5 :: x6 :: x7 :: x8 :: x9 :: x10 :: x11 :: x12 :: x13 :: x14 :: some (.int v) :: r) (.int v :: st)) : AW K own cc M d mc ms Q n z σ cells slots pc (x0 :: x1 :: x2 :: x3 :: x4 :: x5 :: x6 :: x7 :: x8 :: x9 :: x10 :: x11 :: x12 :: x13 :: x14 :: some (.int v) :: r) st := by
  obtain ⟨p, l, e, s, m, args, below, meth, c, D, cs, a0, A0⟩ := K
  intro C H locs la hP hA hS hl
  exact lv_iload C.1 C.2.1 hd (hl.at (i := 15) (v := .int v) rfl) (k C H locs la hP hA hS hl)
theorem aw_lload15 {x0 x1 x2 x3 x4 x5 x6 x7 x8 x9 x10 x11 x12 x13 x14 : Option Value} {v : Int64} {r : List (Option Value)} (hd : decode cc pc = .ok (.lload 15, 2)) (k : AW K own cc M d mc ms Q n z σ cells slots (pc + 2) (x0 :: x1 :: x2 :: x3 :: x4 :: x5 :: x6 :: x7 :: x8 :: x9 :: x10 :: x11 :: x12 :: x13 :: x14 :: some (.long v) :: r) (.long v :: st)) : AW K own cc M d mc ms Q n z σ cells slots pc (x0 :: x1 :: x2 :: x3 :: x4 :: x5 :: x6 :: x7 :: x8 :: x9 :: x10 :: x11 :: x12 :: x13 :: x14 :: some (.long v) :: r) st := by
  obtain ⟨p, l, e, s, m, args, below, meth, c, D, cs, a0, A0⟩ := K
  intro C H locs la hP hA hS hl
  exact lv_lload C.1 C.2.1 hd (hl.at (i := 15) (v := .long v) rfl) (k C H locs la hP hA hS hl)
theorem aw_aload15 {x0 x1 x2 x3 x4 x5 x6 x7 x8 x9 x10 x11 x12 x13 x14 : Option Value} {v : Nat} {r : List (Option Value)} (hd : decode cc pc = .ok (.aload 15, 2)) (k : AW K own cc M d mc ms Q n z σ cells slots (pc + 2) (x0 :: x1 :: x2 :: x3 :: x4 :: x5 :: x6 :: x7 :: x8 :: x9 :: x10 :: x11 :: x12 :: x13 :: x14 :: some (.ref v) :: r) (.ref v :: st)) : AW K own cc M d mc ms Q n z σ cells slots pc (x0 :: x1 :: x2 :: x3 :: x4 :: x5 :: x6 :: x7 :: x8 :: x9 :: x10 :: x11 :: x12 :: x13 :: x14 :: some (.ref v) :: r) st := by
  obtain ⟨p, l, e, s, m, args, below, meth, c, D, cs, a0, A0⟩ := K
  intro C H locs la hP hA hS hl
  exact lv_aload C.1 C.2.1 hd (hl.at (i := 15) (v := .ref v) rfl) (k C H locs la hP hA hS hl)
theorem aw_aload15N {x0 x1 x2 x3 x4 x5 x6 x7 x8 x9 x10 x11 x12 x13 x14 : Option Value} {r : List (Option Value)} (hd : decode cc pc = .ok (.aload 15, 2)) (k : AW K own cc M d mc ms Q n z σ cells slots (pc + 2) (x0 :: x1 :: x2 :: x3 :: x4 :: x5 :: x6 :: x7 :: x8 :: x9 :: x10 :: x11 :: x12 :: x13 :: x14 :: some .null :: r) (.null :: st)) : AW K own cc M d mc ms Q n z σ cells slots pc (x0 :: x1 :: x2 :: x3 :: x4 :: x5 :: x6 :: x7 :: x8 :: x9 :: x10 :: x11 :: x12 :: x13 :: x14 :: some .null :: r) st := by
  obtain ⟨p, l, e, s, m, args, below, meth, c, D, cs, a0, A0⟩ := K
  intro C H locs la hP hA hS hl
  exact lv_aloadN C.1 C.2.1 hd (hl.at (i := 15) (v := .null) rfl) (k C H locs la hP hA hS hl)
theorem aw_istore15 {x0 x1 x2 x3 x4 x5 x6 x7 x8 x9 x10 x11 x12 x13 x14 : Option Value} {y0 : Option Value} {v : Int32} {r : List (Option Value)} (hd : decode cc pc = .ok (.istore 15, 2)) (hL : 15 < M.1) (hn : c1b x14 = true) (k : AW K own cc M d mc ms Q n z σ cells slots (pc + 2) (x0 :: x1 :: x2 :: x3 :: x4 :: x5 :: x6 :: x7 :: x8 :: x9 :: x10 :: x11 :: x12 :: x13 :: x14 :: some (.int v) :: r) st) : AW K own cc M d mc ms Q n z σ cells slots pc (x0 :: x1 :: x2 :: x3 :: x4 :: x5 :: x6 :: x7 :: x8 :: x9 :: x10 :: x11 :: x12 :: x13 :: x14 :: y0 :: r) (.int v :: st) := by
  obtain ⟨p, l, e, s, m, args, below, meth, c, D, cs, a0, A0⟩ := K
  intro C H locs la hP hA hS hl
  exact lv_istore C.1 C.2.1 hd hl.has hL rfl (fun la2 hl2 => k C H locs la2 hP hA hS (lok.set1 (v := .int v) (lnc_s hn) hl2))
theorem aw_astore15 {x0 x1 x2 x3 x4 x5 x6 x7 x8 x9 x10 x11 x12 x13 x14 : Option Value} {y0 : Option Value} {v : Nat} {r : List (Option Value)} (hd : decode cc pc = .ok (.astore 15, 2)) (hL : 15 < M.1) (hn : c1b x14 = true) (k : AW K own cc M d mc ms Q n z σ cells slots (pc + 2) (x0 :: x1 :: x2 :: x3 :: x4 :: x5 :: x6 :: x7 :: x8 :: x9 :: x10 :: x11 :: x12 :: x13 :: x14 :: some (.ref v) :: r) st) : AW K own cc M d mc ms Q n z σ cells slots pc (x0 :: x1 :: x2 :: x3 :: x4 :: x5 :: x6 :: x7 :: x8 :: x9 :: x10 :: x11 :: x12 :: x13 :: x14 :: y0 :: r) (.ref v :: st) := by
  obtain ⟨p, l, e, s, m, args, below, meth, c, D, cs, a0, A0⟩ := K
  intro C H locs la hP hA hS hl
  exact lv_astore C.1 C.2.1 hd hl.has hL rfl (fun la2 hl2 => k C H locs la2 hP hA hS (lok.set1 (v := .ref v) (lnc_s hn) hl2))
theorem aw_astore15N {x0 x1 x2 x3 x4 x5 x6 x7 x8 x9 x10 x11 x12 x13 x14 : Option Value} {y0 : Option Value} {r : List (Option Value)} (hd : decode cc pc = .ok (.astore 15, 2)) (hL : 15 < M.1) (hn : c1b x14 = true) (k : AW K own cc M d mc ms Q n z σ cells slots (pc + 2) (x0 :: x1 :: x2 :: x3 :: x4 :: x5 :: x6 :: x7 :: x8 :: x9 :: x10 :: x11 :: x12 :: x13 :: x14 :: some (.null) :: r) st) : AW K own cc M d mc ms Q n z σ cells slots pc (x0 :: x1 :: x2 :: x3 :: x4 :: x5 :: x6 :: x7 :: x8 :: x9 :: x10 :: x11 :: x12 :: x13 :: x14 :: y0 :: r) (.null :: st) := by
  obtain ⟨p, l, e, s, m, args, below, meth, c, D, cs, a0, A0⟩ := K
  intro C H locs la hP hA hS hl
  exact lv_astoreN C.1 C.2.1 hd hl.has hL rfl (fun la2 hl2 => k C H locs la2 hP hA hS (lok.set1 (v := .null) (lnc_s hn) hl2))
theorem aw_astore15E {x0 x1 x2 x3 x4 x5 x6 x7 x8 x9 x10 x11 x12 x13 x14 : Option Value} {y0 : Option Value} {v : Nat} {r : List (Option Value)} (hd : decode cc pc = .ok (.astore 15, 2)) (hL : 15 < M.1) (hn : c1b x14 = true) (k : AW K own cc M d mc ms Q n z σ cells slots (pc + 2) (x0 :: x1 :: x2 :: x3 :: x4 :: x5 :: x6 :: x7 :: x8 :: x9 :: x10 :: x11 :: x12 :: x13 :: x14 :: some (.retAddr v) :: r) st) : AW K own cc M d mc ms Q n z σ cells slots pc (x0 :: x1 :: x2 :: x3 :: x4 :: x5 :: x6 :: x7 :: x8 :: x9 :: x10 :: x11 :: x12 :: x13 :: x14 :: y0 :: r) (.retAddr v :: st) := by
  obtain ⟨p, l, e, s, m, args, below, meth, c, D, cs, a0, A0⟩ := K
  intro C H locs la hP hA hS hl
  exact lv_astore C.1 C.2.1 hd hl.has hL rfl (fun la2 hl2 => k C H locs la2 hP hA hS (lok.set1 (v := .retAddr v) (lnc_s hn) hl2))
theorem aw_lstore15 {x0 x1 x2 x3 x4 x5 x6 x7 x8 x9 x10 x11 x12 x13 x14 : Option Value} {y0 y1 : Option Value} {v : Int64} {r : List (Option Value)} (hd : decode cc pc = .ok (.lstore 15, 2)) (hL : 15 + 1 < M.1) (hn : c1b x14 = true) (k : AW K own cc M d mc ms Q n z σ cells slots (pc + 2) (x0 :: x1 :: x2 :: x3 :: x4 :: x5 :: x6 :: x7 :: x8 :: x9 :: x10 :: x11 :: x12 :: x13 :: x14 :: some (.long v) :: none :: r) st) : AW K own cc M d mc ms Q n z σ cells slots pc (x0 :: x1 :: x2 :: x3 :: x4 :: x5 :: x6 :: x7 :: x8 :: x9 :: x10 :: x11 :: x12 :: x13 :: x14 :: y0 :: y1 :: r) (.long v :: st) := by
  obtain ⟨p, l, e, s, m, args, below, meth, c, D, cs, a0, A0⟩ := K
  intro C H locs la hP hA hS hl
  exact lv_lstore C.1 C.2.1 hd hl.has hL rfl (fun la2 hl2 => k C H locs la2 hP hA hS (lok.set2 (v := .long v) (lnc_s hn) hl2))
theorem aw_iinc15 {x0 x1 x2 x3 x4 x5 x6 x7 x8 x9 x10 x11 x12 x13 x14 : Option Value} {v w : Int32} {c0 : Int} {r : List (Option Value)} (hd : decode cc pc = .ok (.iinc 15 c0, 3)) (hw : v + Int32.ofInt c0 = w) (hL : 15 < M.1) (hn : c1b x14 = true) (k : AW K own cc M d mc ms Q n z σ cells slots (pc + 3) (x0 :: x1 :: x2 :: x3 :: x4 :: x5 :: x6 :: x7 :: x8 :: x9 :: x10 :: x11 :: x12 :: x13 :: x14 :: some (.int w) :: r) st) : AW K own cc M d mc ms Q n z σ cells slots pc (x0 :: x1 :: x2 :: x3 :: x4 :: x5 :: x6 :: x7 :: x8 :: x9 :: x10 :: x11 :: x12 :: x13 :: x14 :: some (.int v) :: r) st := by
  obtain ⟨p, l, e, s, m, args, below, meth, c, D, cs, a0, A0⟩ := K
  intro C H locs la hP hA hS hl
  obtain ⟨q, hq⟩ := List.getElem?_of_mem (lpr_mem (a0 := a0) (ls := (x0 :: x1 :: x2 :: x3 :: x4 :: x5 :: x6 :: x7 :: x8 :: x9 :: x10 :: x11 :: x12 :: x13 :: x14 :: some (.int v) :: r)) (i := 15) (v := .int v) rfl)
  exact lv_iinc C.1 C.2.1 hd hl.has hq hw hL rfl (fun la2 hl2 => k C H locs la2 hP hA hS (lok.set1 (v := .int w) (lnc_s hn) hl2))
theorem aw_iload16 {x0 x1 x2 x3 x4 x5 x6 x7 x8 x9 x10 x11 x12 x13 x14 x15 : Option Value} {v : Int32} {r : List (Option Value)} (hd : decode cc pc = .ok (.iload 16, 2)) (k : AW K own cc M d mc ms Q n z σ cells slots (pc + 2) (x0 :: x1 :: x2 :: x3 :: x4 :: x5 :: x6 :: x7 :: x8 :: x9 :: x10 :: x11 :: x12 :: x13 :: x14 :: x15 :: some (.int v) :: r) (.int v :: st)) : AW K own cc M d mc ms Q n z σ cells slots pc (x0 :: x1 :: x2 :: x3 :: x4 :: x5 :: x6 :: x7 :: x8 :: x9 :: x10 :: x11 :: x12 :: x13 :: x14 :: x15 :: some (.int v) :: r) st := by
  obtain ⟨p, l, e, s, m, args, below, meth, c, D, cs, a0, A0⟩ := K
  intro C H locs la hP hA hS hl
  exact lv_iload C.1 C.2.1 hd (hl.at (i := 16) (v := .int v) rfl) (k C H locs la hP hA hS hl)
theorem aw_lload16 {x0 x1 x2 x3 x4 x5 x6 x7 x8 x9 x10 x11 x12 x13 x14 x15 : Option Value} {v : Int64} {r : List (Option Value)} (hd : decode cc pc = .ok (.lload 16, 2)) (k : AW K own cc M d mc ms Q n z σ cells slots (pc + 2) (x0 :: x1 :: x2 :: x3 :: x4 :: x5 :: x6 :: x7 :: x8 :: x9 :: x10 :: x11 :: x12 :: x13 :: x14 :: x15 :: some (.long v) :: r) (.long v :: st)) : AW K own cc M d mc ms Q n z σ cells slots pc (x0 :: x1 :: x2 :: x3 :: x4 :: x5 :: x6 :: x7 :: x8 :: x9 :: x10 :: x11 :: x12 :: x13 :: x14 :: x15 :: some (.long v) :: r) st := by
  obtain ⟨p, l, e, s, m, args, below, meth, c, D, cs, a0, A0⟩ := K
  intro C H locs la hP hA hS hl
  exact lv_lload C.1 C.2.1 hd (hl.at (i := 16) (v := .long v) rfl) (k C H locs la hP hA hS hl)
theorem aw_aload16 {x0 x1 x2 x3 x4 x5 x6 x7 x8 x9 x10 x11 x12 x13 x14 x15 : Option Value} {v : Nat} {r : List (Option Value)} (hd : decode cc pc = .ok (.aload 16, 2)) (k : AW K own cc M d mc ms Q n z σ cells slots (pc + 2) (x0 :: x1 :: x2 :: x3 :: x4 :: x5 :: x6 :: x7 :: x8 :: x9 :: x10 :: x11 :: x12 :: x13 :: x14 :: x15 :: some (.ref v) :: r) (.ref v :: st)) : AW K own cc M d mc ms Q n z σ cells slots pc (x0 :: x1 :: x2 :: x3 :: x4 :: x5 :: x6 :: x7 :: x8 :: x9 :: x10 :: x11 :: x12 :: x13 :: x14 :: x15 :: some (.ref v) :: r) st := by
  obtain ⟨p, l, e, s, m, args, below, meth, c, D, cs, a0, A0⟩ := K
  intro C H locs la hP hA hS hl
  exact lv_aload C.1 C.2.1 hd (hl.at (i := 16) (v := .ref v) rfl) (k C H locs la hP hA hS hl)
theorem aw_aload16N {x0 x1 x2 x3 x4 x5 x6 x7 x8 x9 x10 x11 x12 x13 x14 x15 : Option Value} {r : List (Option Value)} (hd : decode cc pc = .ok (.aload 16, 2)) (k : AW K own cc M d mc ms Q n z σ cells slots (pc + 2) (x0 :: x1 :: x2 :: x3 :: x4 :: x5 :: x6 :: x7 :: x8 :: x9 :: x10 :: x11 :: x12 :: x13 :: x14 :: x15 :: some .null :: r) (.null :: st)) : AW K own cc M d mc ms Q n z σ cells slots pc (x0 :: x1 :: x2 :: x3 :: x4 :: x5 :: x6 :: x7 :: x8 :: x9 :: x10 :: x11 :: x12 :: x13 :: x14 :: x15 :: some .null :: r) st := by
  obtain ⟨p, l, e, s, m, args, below, meth, c, D, cs, a0, A0⟩ := K
  intro C H locs la hP hA hS hl
  exact lv_aloadN C.1 C.2.1 hd (hl.at (i := 16) (v := .null) rfl) (k C H locs la hP hA hS hl)
theorem aw_istore16 {x0 x1 x2 x3 x4 x5 x6 x7 x8 x9 x10 x11 x12 x13 x14 x15 : Option Value} {y0 : Option Value} {v : Int32} {r : List (Option Value)} (hd : decode cc pc = .ok (.istore 16, 2)) (hL : 16 < M.1) (hn : c1b x15 = true) (k : AW K own cc M d mc ms Q n z σ cells slots (pc + 2) (x0 :: x1 :: x2 :: x3 :: x4 :: x5 :: x6 :: x7 :: x8 :: x9 :: x10 :: x11 :: x12 :: x13 :: x14 :: x15 :: some (.int v) :: r) st) : AW K own cc M d mc ms Q n z σ cells slots pc (x0 :: x1 :: x2 :: x3 :: x4 :: x5 :: x6 :: x7 :: x8 :: x9 :: x10 :: x11 :: x12 :: x13 :: x14 :: x15 :: y0 :: r) (.int v :: st) := by
  obtain ⟨p, l, e, s, m, args, below, meth, c, D, cs, a0, A0⟩ := K
  intro C H locs la hP hA hS hl
  exact lv_istore C.1 C.2.1 hd hl.has hL rfl (fun la2 hl2 => k C H locs la2 hP hA hS (lok.set1 (v := .int v) (lnc_s hn) hl2))
theorem aw_astore16 {x0 x1 x2 x3 x4 x5 x6 x7 x8 x9 x10 x11 x12 x13 x14 x15 : Option Value} {y0 : Option Value} {v : Nat} {r : List (Option Value)} (hd : decode cc pc = .ok (.astore 16, 2)) (hL : 16 < M.1) (hn : c1b x15 = true) (k : AW K own cc M d mc ms Q n z σ cells slots (pc + 2) (x0 :: x1 :: x2 :: x3 :: x4 :: x5 :: x6 :: x7 :: x8 :: x9 :: x10 :: x11 :: x12 :: x13 :: x14 :: x15 :: some (.ref v) :: r) st) : AW K own cc M d mc ms Q n z σ cells slots pc (x0 :: x1 :: x2 :: x3 :: x4 :: x5 :: x6 :: x7 :: x8 :: x9 :: x10 :: x11 :: x12 :: x13 :: x14 :: x15 :: y0 :: r) (.ref v :: st) := by
  obtain ⟨p, l, e, s, m, args, below, meth, c, D, cs, a0, A0⟩ := K
  intro C H locs la hP hA hS hl
  exact lv_astore C.1 C.2.1 hd hl.has hL rfl (fun la2 hl2 => k C H locs la2 hP hA hS (lok.set1 (v := .ref v) (lnc_s hn) hl2))
theorem aw_astore16N {x0 x1 x2 x3 x4 x5 x6 x7 x8 x9 x10 x11 x12 x13 x14 x15 : Option Value} {y0 : Option Value} {r : List (Option Value)} (hd : decode cc pc = .ok (.astore 16, 2)) (hL : 16 < M.1) (hn : c1b x15 = true) (k : AW K own cc M d mc ms Q n z σ cells slots (pc + 2) (x0 :: x1 :: x2 :: x3 :: x4 :: x5 :: x6 :: x7 :: x8 :: x9 :: x10 :: x11 :: x12 :: x13 :: x14 :: x15 :: some (.null) :: r) st) : AW K own cc M d mc ms Q n z σ cells slots pc (x0 :: x1 :: x2 :: x3 :: x4 :: x5 :: x6 :: x7 :: x8 :: x9 :: x10 :: x11 :: x12 :: x13 :: x14 :: x15 :: y0 :: r) (.null :: st) := by
  obtain ⟨p, l, e, s, m, args, below, meth, c, D, cs, a0, A0⟩ := K
  intro C H locs la hP hA hS hl
  exact lv_astoreN C.1 C.2.1 hd hl.has hL rfl (fun la2 hl2 => k C H locs la2 hP hA hS (lok.set1 (v := .null) (lnc_s hn) hl2))
theorem aw_astore16E {x0 x1 x2 x3 x4 x5 x6 x7 x8 x9 x10 x11 x12 x13 x14 x15 : Option Value} {y0 : Option Value} {v : Nat} {r : List (Option Value)} (hd : decode cc pc = .ok (.astore 16, 2)) (hL : 16 < M.1) (hn : c1b x15 = true) (k : AW K own cc M d mc ms Q n z σ cells slots (pc + 2) (x0 :: x1 :: x2 :: x3 :: x4 :: x5 :: x6 :: x7 :: x8 :: x9 :: x10 :: x11 :: x12 :: x13 :: x14 :: x15 :: some (.retAddr v) :: r) st) : AW K own cc M d mc ms Q n z σ cells slots pc (x0 :: x1 :: x2 :: x3 :: x4 :: x5 :: x6 :: x7 :: x8 :: x9 :: x10 :: x11 :: x12 :: x13 :: x14 :: x15 :: y0 :: r) (.retAddr v :: st) := by
  obtain ⟨p, l, e, s, m, args, below, meth, c, D, cs, a0, A0⟩ := K
  intro C H locs la hP hA hS hl
  exact lv_astore C.1 C.2.1 hd hl.has hL rfl (fun la2 hl2 => k C H locs la2 hP hA hS (lok.set1 (v := .retAddr v) (lnc_s hn) hl2))
theorem aw_lstore16 {x0 x1 x2 x3 x4 x5 x6 x7 x8 x9 x10 x11 x12 x13 x14 x15 : Option Value} {y0 y1 : Option Value} {v : Int64} {r : List (Option Value)} (hd : decode cc pc = .ok (.lstore 16, 2)) (hL : 16 + 1 < M.1) (hn : c1b x15 = true) (k : AW K own cc M d mc ms Q n z σ cells slots (pc + 2) (x0 :: x1 :: x2 :: x3 :: x4 :: x5 :: x6 :: x7 :: x8 :: x9 :: x10 :: x11 :: x12 :: x13 :: x14 :: x15 :: some (.long v) :: none :: r) st) : AW K own cc M d mc ms Q n z σ cells slots pc (x0 :: x1 :: x2 :: x3 :: x4 :: x5 :: x6 :: x7 :: x8 :: x9 :: x10 :: x11 :: x12 :: x13 :: x14 :: x15 :: y0 :: y1 :: r) (.long v :: st) := by
  obtain ⟨p, l, e, s, m, args, below, meth, c, D, cs, a0, A0⟩ := K
  intro C H locs la hP hA hS hl
  exact lv_lstore C.1 C.2.1 hd hl.has hL rfl (fun la2 hl2 => k C H locs la2 hP hA hS (lok.set2 (v := .long v) (lnc_s hn) hl2))
theorem aw_iinc16 {x0 x1 x2 x3 x4 x5 x6 x7 x8 x9 x10 x11 x12 x13 x14 x15 : Option Value} {v w : Int32} {c0 : Int} {r : List (Option Value)} (hd : decode cc pc = .ok (.iinc 16 c0, 3)) (hw : v + Int32.ofInt c0 = w) (hL : 16 < M.1) (hn : c1b x15 = true) (k : AW K own cc M d mc ms Q n z σ cells slots (pc + 3) (x0 :: x1 :: x2 :: x3 :: x4 :: x5 :: x6 :: x7 :: x8 :: x9 :: x10 :: x11 :: x12 :: x13 :: x14 :: x15 :: some (.int w) :: r) st) : AW K own cc M d mc ms Q n z σ cells slots pc (x0 :: x1 :: x2 :: x3 :: x4 :: x5 :: x6 :: x7 :: x8 :: x9 :: x10 :: x11 :: x12 :: x13 :: x14 :: x15 :: some (.int v) :: r) st := by
  obtain ⟨p, l, e, s, m, args, below, meth, c, D, cs, a0, A0⟩ := K
  intro C H locs la hP hA hS hl
  obtain ⟨q, hq⟩ := List.getElem?_of_mem (lpr_mem (a0 := a0) (ls := (x0 :: x1 :: x2 :: x3 :: x4 :: x5 :: x6 :: x7 :: x8 :: x9 :: x10 :: x11 :: x12 :: x13 :: x14 :: x15 :: some (.int v) :: r)) (i := 16) (v := .int v) rfl)
  exact lv_iinc C.1 C.2.1 hd hl.has hq hw hL rfl (fun la2 hl2 => k C H locs la2 hP hA hS (lok.set1 (v := .int w) (lnc_s hn) hl2))
theorem aw_iload17 {x0 x1 x2 x3 x4 x5 x6 x7 x8 x9 x10 x11 x12 x13 x14 x15 x16 : Option Value} {v : Int32} {r : List (Option Value)} (hd : decode cc pc = .ok (.iload 17, 2)) (k : AW K own cc M d mc ms Q n z σ cells slots (pc + 2) (x0 :: x1 :: x2 :: x3 :: x4 :: x5 :: x6 :: x7 :: x8 :: x9 :: x10 :: x11 :: x12 :: x13 :: x14 :: x15 :: x16 :: some (.int v) :: r) (.int v :: st)) : AW K own cc M d mc ms Q n z σ cells slots pc (x0 :: x1 :: x2 :: x3 :: x4 :: x5 :: x6 :: x7 :: x8 :: x9 :: x10 :: x11 :: x12 :: x13 :: x14 :: x15 :: x16 :: some (.int v) :: r) st := by
  obtain ⟨p, l, e, s, m, args, below, meth, c, D, cs, a0, A0⟩ := K
  intro C H locs la hP hA hS hl
  exact lv_iload C.1 C.2.1 hd (hl.at (i := 17) (v := .int v) rfl) (k C H locs la hP hA hS hl)
theorem aw_lload17 {x0 x1 x2 x3 x4 x5 x6 x7 x8 x9 x10 x11 x12 x13 x14 x15 x16 : Option Value} {v : Int64} {r : List (Option Value)} (hd : decode cc pc = .ok (.lload 17, 2)) (k : AW K own cc M d mc ms Q n z σ cells slots (pc + 2) (x0 :: x1 :: x2 :: x3 :: x4 :: x5 :: x6 :: x7 :: x8 :: x9 :: x10 :: x11 :: x12 :: x13 :: x14 :: x15 :: x16 :: some (.long v) :: r) (.long v :: st)) : AW K own cc M d mc ms Q n z σ cells slots pc (x0 :: x1 :: x2 :: x3 :: x4 :: x5 :: x6 :: x7 :: x8 :: x9 :: x10 :: x11 :: x12 :: x13 :: x14 :: x15 :: x16 :: some (.long v) :: r) st := by
  obtain ⟨p, l, e, s, m, args, below, meth, c, D, cs, a0, A0⟩ := K
  intro C H locs la hP hA hS hl
  exact lv_lload C.1 C.2.1 hd (hl.at (i := 17) (v := .long v) rfl) (k C H locs la hP hA hS hl)
theorem aw_aload17 {x0 x1 x2 x3 x4 x5 x6 x7 x8 x9 x10 x11 x12 x13 x14 x15 x16 : Option Value} {v : Nat} {r : List (Option Value)} (hd : decode cc pc = .ok (.aload 17, 2)) (k : AW K own cc M d mc ms Q n z σ cells slots (pc + 2) (x0 :: x1 :: x2 :: x3 :: x4 :: x5 :: x6 :: x7 :: x8 :: x9 :: x10 :: x11 :: x12 :: x13 :: x14 :: x15 :: x16 :: some (.ref v) :: r) (.ref v :: st)) : AW K own cc M d mc ms Q n z σ cells slots pc (x0 :: x1 :: x2 :: x3 :: x4 :: x5 :: x6 :: x7 :: x8 :: x9 :: x10 :: x11 :: x12 :: x13 :: x14 :: x15 :: x16 :: some (.ref v) :: r) st := by
  obtain ⟨p, l, e, s, m, args, below, meth, c, D, cs, a0, A0⟩ := K
  intro C H locs la hP hA hS hl
  exact lv_aload C.1 C.2.1 hd (hl.at (i := 17) (v := .ref v) rfl) (k C H locs la hP hA hS hl)
theorem aw_aload17N {x0 x1 x2 x3 x4 x5 x6 x7 x8 x9 x10 x11 x12 x13 x14 x15 x16 : Option Value} {r : List (Option Value)} (hd : decode cc pc = .ok (.aload 17, 2)) (k : AW K own cc M d mc ms Q n z σ cells slots (pc + 2) (x0 :: x1 :: x2 :: x3 :: x4 :: x5 :: x6 :: x7 :: x8 :: x9 :: x10 :: x11 :: x12 :: x13 :: x14 :: x15 :: x16 :: some .null :: r) (.null :: st)) : AW K own cc M d mc ms Q n z σ cells slots pc (x0 :: x1 :: x2 :: x3 :: x4 :: x5 :: x6 :: x7 :: x8 :: x9 :: x10 :: x11 :: x12 :: x13 :: x14 :: x15 :: x16 :: some .null :: r) st := by
  obtain ⟨p, l, e, s, m, args, below, meth, c, D, cs, a0, A0⟩ := K
  intro C H locs la hP hA hS hl
  exact lv_aloadN C.1 C.2.1 hd (hl.at (i := 17) (v := .null) rfl) (k C H locs la hP hA hS hl)
theorem aw_istore17 {x0 x1 x2 x3 x4 x5 x6 x7 x8 x9 x10 x11 x12 x13 x14 x15 x16 : Option Value} {y0 : Option Value} {v : Int32} {r : List (Option Value)} (hd : decode cc pc = .ok (.istore 17, 2)) (hL : 17 < M.1) (hn : c1b x16 = true) (k : AW K own cc M d mc ms Q n z σ cells slots (pc + 2) (x0 :: x1 :: x2 :: x3 :: x4 :: x5 :: x6 :: x7 :: x8 :: x9 :: x10 :: x11 :: x12 :: x13 :: x14 :: x15 :: x16 :: some (.int v) :: r) st) : AW K own cc M d mc ms Q n z σ cells slots pc (x0 :: x1 :: x2 :: x3 :: x4 :: x5 :: x6 :: x7 :: x8 :: x9 :: x10 :: x11 :: x12 :: x13 :: x14 :: x15 :: x16 :: y0 :: r) (.int v :: st) := by
  obtain ⟨p, l, e, s, m, args, below, meth, c, D, cs, a0, A0⟩ := K
  intro C H locs la hP hA hS hl
  exact lv_istore C.1 C.2.1 hd hl.has hL rfl (fun la2 hl2 => k C H locs la2 hP hA hS (lok.set1 (v := .int v) (lnc_s hn) hl2))
theorem aw_astore17 {x0 x1 x2 x3 x4 x5 x6 x7 x8 x9 x10 x11 x12 x13 x14 x15 x16 : Option Value} {y0 : Option Value} {v : Nat} {r : List (Option Value)} (hd : decode cc pc = .ok (.astore 17, 2)) (hL : 17 < M.1) (hn : c1b x16 = true) (k : AW K own cc M d mc ms Q n z σ cells slots (pc + 2) (x0 :: x1 :: x2 :: x3 :: x4 :: x5 :: x6 :: x7 :: x8 :: x9 :: x10 :: x11 :: x12 :: x13 :: x14 :: x15 :: x16 :: some (.ref v) :: r) st) : AW K own cc M d mc ms Q n z σ cells slots pc (x0 :: x1 :: x2 :: x3 :: x4 :: x5 :: x6 :: x7 :: x8 :: x9 :: x10 :: x11 :: x12 :: x13 :: x14 :: x15 :: x16 :: y0 :: r) (.ref v :: st) := by
  obtain ⟨p, l, e, s, m, args, below, meth, c, D, cs, a0, A0⟩ := K
  intro C H locs la hP hA hS hl
  exact lv_astore C.1 C.2.1 hd hl.has hL rfl (fun la2 hl2 => k C H locs la2 hP hA hS (lok.set1 (v := .ref v) (lnc_s hn) hl2))
theorem aw_astore17N {x0 x1 x2 x3 x4 x5 x6 x7 x8 x9 x10 x11 x12 x13 x14 x15 x16 : Option Value} {y0 : Option Value} {r : List (Option Value)} (hd : decode cc pc = .ok (.astore 17, 2)) (hL : 17 < M.1) (hn : c1b x16 = true) (k : AW K own cc M d mc ms Q n z σ cells slots (pc + 2) (x0 :: x1 :: x2 :: x3 :: x4 :: x5 :: x6 :: x7 :: x8 :: x9 :: x10 :: x11 :: x12 :: x13 :: x14 :: x15 :: x16 :: some (.null) :: r) st) : AW K own cc M d mc ms Q n z σ cells slots pc (x0 :: x1 :: x2 :: x3 :: x4 :: x5 :: x6 :: x7 :: x8 :: x9 :: x10 :: x11 :: x12 :: x13 :: x14 :: x15 :: x16 :: y0 :: r) (.null :: st) := by
  obtain ⟨p, l, e, s, m, args, below, meth, c, D, cs, a0, A0⟩ := K
  intro C H locs la hP hA hS hl
  exact lv_astoreN C.1 C.2.1 hd hl.has hL rfl (fun la2 hl2 => k C H locs la2 hP hA hS (lok.set1 (v := .null) (lnc_s hn) hl2))
theorem aw_astore17E {x0 x1 x2 x3 x4 x5 x6 x7 x8 x9 x10 x11 x12 x13 x14 x15 x16 : Option Value} {y0 : Option Value} {v : Nat} {r : List (Option Value)} (hd : decode cc pc = .ok (.astore 17, 2)) (hL : 17 < M.1) (hn : c1b x16 = true) (k : AW K own cc M d mc ms Q n z σ cells slots (pc + 2) (x0 :: x1 :: x2 :: x3 :: x4 :: x5 :: x6 :: x7 :: x8 :: x9 :: x10 :: x11 :: x12 :: x13 :: x14 :: x15 :: x16 :: some (.retAddr v) :: r) st) : AW K own cc M d mc ms Q n z σ cells slots pc (x0 :: x1 :: x2 :: x3 :: x4 :: x5 :: x6 :: x7 :: x8 :: x9 :: x10 :: x11 :: x12 :: x13 :: x14 :: x15 :: x16 :: y0 :: r) (.retAddr v :: st) := by
  obtain ⟨p, l, e, s, m, args, below, meth, c, D, cs, a0, A0⟩ := K
  intro C H locs la hP hA hS hl
  exact lv_astore C.1 C.2.1 hd hl.has hL rfl (fun la2 hl2 => k C H locs la2 hP hA hS (lok.set1 (v := .retAddr v) (lnc_s hn) hl2))
theorem aw_lstore17 {x0 x1 x2 x3 x4 x5 x6 x7 x8 x9 x10 x11 x12 x13 x14 x15 x16 : Option Value} {y0 y1 : Option Value} {v : Int64} {r : List (Option Value)} (hd : decode cc pc = .ok (.lstore 17, 2)) (hL : 17 + 1 < M.1) (hn : c1b x16 = true) (k : AW K own cc M d mc ms Q n z σ cells slots (pc + 2) (x0 :: x1 :: x2 :: x3 :: x4 :: x5 :: x6 :: x7 :: x8 :: x9 :: x10 :: x11 :: x12 :: x13 :: x14 :: x15 :: x16 :: some (.long v) :: none :: r) st) : AW K own cc M d mc ms Q n z σ cells slots pc (x0 :: x1 :: x2 :: x3 :: x4 :: x5 :: x6 :: x7 :: x8 :: x9 :: x10 :: x11 :: x12 :: x13 :: x14 :: x15 :: x16 :: y0 :: y1 :: r) (.long v :: st) := by
  obtain ⟨p, l, e, s, m, args, below, meth, c, D, cs, a0, A0⟩ := K
  intro C H locs la hP hA hS hl
  exact lv_lstore C.1 C.2.1 hd hl.has hL rfl (fun la2 hl2 => k C H locs la2 hP hA hS (lok.set2 (v := .long v) (lnc_s hn) hl2))
theorem aw_iinc17 {x0 x1 x2 x3 x4 x5 x6 x7 x8 x9 x10 x11 x12 x13 x14 x15 x16 : Option Value} {v w : Int32} {c0 : Int} {r : List (Option Value)} (hd : decode cc pc = .ok (.iinc 17 c0, 3)) (hw : v + Int32.ofInt c0 = w) (hL : 17 < M.1) (hn : c1b x16 = true) (k : AW K own cc M d mc ms Q n z σ cells slots (pc + 3) (x0 :: x1 :: x2 :: x3 :: x4 :: x5 :: x6 :: x7 :: x8 :: x9 :: x10 :: x11 :: x12 :: x13 :: x14 :: x15 :: x16 :: some (.int w) :: r) st) : AW K own cc M d mc ms Q n z σ cells slots pc (x0 :: x1 :: x2 :: x3 :: x4 :: x5 :: x6 :: x7 :: x8 :: x9 :: x10 :: x11 :: x12 :: x13 :: x14 :: x15 :: x16 :: some (.int v) :: r) st := by
  obtain ⟨p, l, e, s, m, args, below, meth, c, D, cs, a0, A0⟩ := K
  intro C H locs la hP hA hS hl
  obtain ⟨q, hq⟩ := List.getElem?_of_mem (lpr_mem (a0 := a0) (ls := (x0 :: x1 :: x2 :: x3 :: x4 :: x5 :: x6 :: x7 :: x8 :: x9 :: x10 :: x11 :: x12 :: x13 :: x14 :: x15 :: x16 :: some (.int v) :: r)) (i := 17) (v := .int v) rfl)
  exact lv_iinc C.1 C.2.1 hd hl.has hq hw hL rfl (fun la2 hl2 => k C H locs la2 hP hA hS (lok.set1 (v := .int w) (lnc_s hn) hl2))
theorem aw_iload18 {x0 x1 x2 x3 x4 x5 x6 x7 x8 x9 x10 x11 x12 x13 x14 x15 x16 x17 : Option Value} {v : Int32} {r : List (Option Value)} (hd : decode cc pc = .ok (.iload 18, 2)) (k : AW K own cc M d mc ms Q n z σ cells slots (pc + 2) (x0 :: x1 :: x2 :: x3 :: x4 :: x5 :: x6 :: x7 :: x8 :: x9 :: x10 :: x11 :: x12 :: x13 :: x14 :: x15 :: x16 :: x17 :: some (.int v) :: r) (.int v :: st)) : AW K own cc M d mc ms Q n z σ cells slots pc (x0 :: x1 :: x2 :: x3 :: x4 :: x5 :: x6 :: x7 :: x8 :: x9 :: x10 :: x11 :: x12 :: x13 :: x14 :: x15 :: x16 :: x17 :: some (.int v) :: r) st := by
  obtain ⟨p, l, e, s, m, args, below, meth, c, D, cs, a0, A0⟩ := K
  intro C H locs la hP hA hS hl
  exact lv_iload C.1 C.2.1 hd (hl.at (i := 18) (v := .int v) rfl) (k C H locs la hP hA hS hl)
theorem aw_lload18 {x0 x1 x2 x3 x4 x5 x6 x7 x8 x9 x10 x11 x12 x13 x14 x15 x16 x17 : Option Value} {v : Int64} {r : List (Option Value)} (hd : decode cc pc = .ok (.lload 18, 2)) (k : AW K own cc M d mc ms Q n z σ cells slots (pc + 2) (x0 :: x1 :: x2 :: x3 :: x4 :: x5 :: x6 :: x7 :: x8 :: x9 :: x10 :: x11 :: x12 :: x13 :: x14 :: x15 :: x16 :: x17 :: some (.long v) :: r) (.long v :: st)) : AW K own cc M d mc ms Q n z σ cells slots pc (x0 :: x1 :: x2 :: x3 :: x4 :: x5 :: x6 :: x7 :: x8 :: x9 :: x10 :: x11 :: x12 :: x13 :: x14 :: x15 :: x16 :: x17 :: some (.long v) :: r) st := by
  obtain ⟨p, l, e, s, m, args, below, meth, c, D, cs, a0, A0⟩ := K
  intro C H locs la hP hA hS hl
  exact lv_lload C.1 C.2.1 hd (hl.at (i := 18) (v := .long v) rfl) (k C H locs la hP hA hS hl)
theorem aw_aload18 {x0 x1 x2 x3 x4 x5 x6 x7 x8 x9 x10 x11 x12 x13 x14 x15 x16 x17 : Option Value} {v : Nat} {r : List (Option Value)} (hd : decode cc pc = .ok (.aload 18, 2)) (k : AW K own cc M d mc ms Q n z σ cells slots (pc + 2) (x0 :: x1 :: x2 :: x3 :: x4 :: x5 :: x6 :: x7 :: x8 :: x9 :: x10 :: x11 :: x12 :: x13 :: x14 :: x15 :: x16 :: x17 :: some (.ref v) :: r) (.ref v :: st)) : AW K own cc M d mc ms Q n z σ cells slots pc (x0 :: x1 :: x2 :: x3 :: x4 :: x5 :: x6 :: x7 :: x8 :: x9 :: x10 :: x11 :: x12 :: x13 :: x14 :: x15 :: x16 :: x17 :: some (.ref v) :: r) st := by
  obtain ⟨p, l, e, s, m, args, below, meth, c, D, cs, a0, A0⟩ := K
  intro C H locs la hP hA hS hl
  exact lv_aload C.1 C.2.1 hd (hl.at (i := 18) (v := .ref v) rfl) (k C H locs la hP hA hS hl)
theorem aw_aload18N {x0 x1 x2 x3 x4 x5 x6 x7 x8 x9 x10 x11 x12 x13 x14 x15 x16 x17 : Option Value} {r : List (Option Value)} (hd : decode cc pc = .ok (.aload 18, 2)) (k : AW K own cc M d mc ms Q n z σ cells slots (pc + 2) (x0 :: x1 :: x2 :: x3 :: x4 :: x5 :: x6 :: x7 :: x8 :: x9 :: x10 :: x11 :: x12 :: x13 :: x14 :: x15 :: x16 :: x17 :: some .null :: r) (.null :: st)) : AW K own cc M d mc ms Q n z σ cells slots pc (x0 :: x1 :: x2 :: x3 :: x4 :: x5 :: x6 :: x7 :: x8 :: x9 :: x10 :: x11 :: x12 :: x13 :: x14 :: x15 :: x16 :: x17 :: some .null :: r) st := by
  obtain ⟨p, l, e, s, m, args, below, meth, c, D, cs, a0, A0⟩ := K
  intro C H locs la hP hA hS hl
  exact lv_aloadN C.1 C.2.1 hd (hl.at (i := 18) (v := .null) rfl) (k C H locs la hP hA hS hl)
theorem aw_istore18 {x0 x1 x2 x3 x4 x5 x6 x7 x8 x9 x10 x11 x12 x13 x14 x15 x16 x17 : Option Value} {y0 : Option Value} {v : Int32} {r : List (Option Value)} (hd : decode cc pc = .ok (.istore 18, 2)) (hL : 18 < M.1) (hn : c1b x17 = true) (k : AW K own cc M d mc ms Q n z σ cells slots (pc + 2) (x0 :: x1 :: x2 :: x3 :: x4 :: x5 :: x6 :: x7 :: x8 :: x9 :: x10 :: x11 :: x12 :: x13 :: x14 :: x15 :: x16 :: x17 :: some (.int v) :: r) st) : AW K own cc M d mc ms Q n z σ cells slots pc (x0 :: x1 :: x2 :: x3 :: x4 :: x5 :: x6 :: x7 :: x8 :: x9 :: x10 :: x11 :: x12 :: x13 :: x14 :: x15 :: x16 :: x17 :: y0 :: r) (.int v :: st) := by
  obtain ⟨p, l, e, s, m, args, below, meth, c, D, cs, a0, A0⟩ := K
  intro C H locs la hP hA hS hl
  exact lv_istore C.1 C.2.1 hd hl.has hL rfl (fun la2 hl2 => k C H locs la2 hP hA hS (lok.set1 (v := .int v) (lnc_s hn) hl2))
theorem aw_astore18 {x0 x1 x2 x3 x4 x5 x6 x7 x8 x9 x10 x11 x12 x13 x14 x15 x16 x17 : Option Value} {y0 : Option Value} {v : Nat} {r : List (Option Value)} (hd : decode cc pc = .ok (.astore 18, 2)) (hL : 18 < M.1) (hn : c1b x17 = true) (k : AW K own cc M d mc ms Q n z σ cells slots (pc + 2) (x0 :: x1 :: x2 :: x3 :: x4 :: x5 :: x6 :: x7 :: x8 :: x9 :: x10 :: x11 :: x12 :: x13 :: x14 :: x15 :: x16 :: x17 :: some (.ref v) :: r) st) : AW K own cc M d mc ms Q n z σ cells slots pc (x0 :: x1 :: x2 :: x3 :: x4 :: x5 :: x6 :: x7 :: x8 :: x9 :: x10 :: x11 :: x12 :: x13 :: x14 :: x15 :: x16 :: x17 :: y0 :: r) (.ref v :: st) := by
  obtain ⟨p, l, e, s, m, args, below, meth, c, D, cs, a0, A0⟩ := K
  intro C H locs la hP hA hS hl
  exact lv_astore C.1 C.2.1 hd hl.has hL rfl (fun la2 hl2 => k C H locs la2 hP hA hS (lok.set1 (v := .ref v) (lnc_s hn) hl2))
theorem aw_astore18N {x0 x1 x2 x3 x4 x5 x6 x7 x8 x9 x10 x11 x12 x13 x14 x15 x16 x17 : Option Value} {y0 : Option Value} {r : List (Option Value)} (hd : decode cc pc = .ok (.astore 18, 2)) (hL : 18 < M.1) (hn : c1b x17 = true) (k : AW K own cc M d mc ms Q n z σ cells slots (pc + 2) (x0 :: x1 :: x2 :: x3 :: x4 :: x5 :: x6 :: x7 :: x8 :: x9 :: x10 :: x11 :: x12 :: x13 :: x14 :: x15 :: x16 :: x17 :: some (.null) :: r) st) : AW K own cc M d mc ms Q n z σ cells slots pc (x0 :: x1 :: x2 :: x3 :: x4 :: x5 :: x6 :: x7 :: x8 :: x9 :: x10 :: x11 :: x12 :: x13 :: x14 :: x15 :: x16 :: x17 :: y0 :: r) (.null :: st) := by
  obtain ⟨p, l, e, s, m, args, below, meth, c, D, cs, a0, A0⟩ := K
  intro C H locs la hP hA hS hl
  exact lv_astoreN C.1 C.2.1 hd hl.has hL rfl (fun la2 hl2 => k C H locs la2 hP hA hS (lok.set1 (v := .null) (lnc_s hn) hl2))
theorem aw_astore18E {x0 x1 x2 x3 x4 x5 x6 x7 x8 x9 x10 x11 x12 x13 x14 x15 x16 x17 : Option Value} {y0 : Option Value} {v : Nat} {r : List (Option Value)} (hd : decode cc pc = .ok (.astore 18, 2)) (hL : 18 < M.1) (hn : c1b x17 = true) (k : AW K own cc M d mc ms Q n z σ cells slots (pc + 2) (x0 :: x1 :: x2 :: x3 :: x4 :: x5 :: x6 :: x7 :: x8 :: x9 :: x10 :: x11 :: x12 :: x13 :: x14 :: x15 :: x16 :: x17 :: some (.retAddr v) :: r) st) : AW K own cc M d mc ms Q n z σ cells slots pc (x0 :: x1 :: x2 :: x3 :: x4 :: x5 :: x6 :: x7 :: x8 :: x9 :: x10 :: x11 :: x12 :: x13 :: x14 :: x15 :: x16 :: x17 :: y0 :: r) (.retAddr v :: st) := by
  obtain ⟨p, l, e, s, m, args, below, meth, c, D, cs, a0, A0⟩ := K
  intro C H locs la hP hA hS hl
  exact lv_astore C.1 C.2.1 hd hl.has hL rfl (fun la2 hl2 => k C H locs la2 hP hA hS (lok.set1 (v := .retAddr v) (lnc_s hn) hl2))
theorem aw_lstore18 {x0 x1 x2 x3 x4 x5 x6 x7 x8 x9 x10 x11 x12 x13 x14 x15 x16 x17 : Option Value} {y0 y1 : Option Value} {v : Int64} {r : List (Option Value)} (hd : decode cc pc = .ok (.lstore 18, 2)) (hL : 18 + 1 < M.1) (hn : c1b x17 = true) (k : AW K own cc M d mc ms Q n z σ cells slots (pc + 2) (x0 :: x1 :: x2 :: x3 :: x4 :: x5 :: x6 :: x7 :: x8 :: x9 :: x10 :: x11 :: x12 :: x13 :: x14 :: x15 :: x16 :: x17 :: some (.long v) :: none :: r) st) : AW K own cc M d mc ms Q n z σ cells slots pc (x0 :: x1 :: x2 :: x3 :: x4 :: x5 :: x6 :: x7 :: x8 :: x9 :: x10 :: x11 :: x12 :: x13 :: x14 :: x15 :: x16 :: x17 :: y0 :: y1 :: r) (.long v :: st) := by
  obtain ⟨p, l, e, s, m, args, below, meth, c, D, cs, a0, A0⟩ := K
  intro C H locs la hP hA hS hl
  exact lv_lstore C.1 C.2.1 hd hl.has hL rfl (fun la2 hl2 => k C H locs la2 hP hA hS (lok.set2 (v := .long v) (lnc_s hn) hl2))
theorem aw_iinc18 {x0 x1 x2 x3 x4 x5 x6 x7 x8 x9 x10 x11 x12 x13 x14 x15 x16 x17 : Option Value} {v w : Int32} {c0 : Int} {r : List (Option Value)} (hd : decode cc pc = .ok (.iinc 18 c0, 3)) (hw : v + Int32.ofInt c0 = w) (hL : 18 < M.1) (hn : c1b x17 = true) (k : AW K own cc M d mc ms Q n z σ cells slots (pc + 3) (x0 :: x1 :: x2 :: x3 :: x4 :: x5 :: x6 :: x7 :: x8 :: x9 :: x10 :: x11 :: x12 :: x13 :: x14 :: x15 :: x16 :: x17 :: some (.int w) :: r) st) : AW K own cc M d mc ms Q n z σ cells slots pc (x0 :: x1 :: x2 :: x3 :: x4 :: x5 :: x6 :: x7 :: x8 :: x9 :: x10 :: x11 :: x12 :: x13 :: x14 :: x15 :: x16 :: x17 :: some (.int v) :: r) st := by
  obtain ⟨p, l, e, s, m, args, below, meth, c, D, cs, a0, A0⟩ := K
  intro C H locs la hP hA hS hl
  obtain ⟨q, hq⟩ := List.getElem?_of_mem (lpr_mem (a0 := a0) (ls := (x0 :: x1 :: x2 :: x3 :: x4 :: x5 :: x6 :: x7 :: x8 :: x9 :: x10 :: x11 :: x12 :: x13 :: x14 :: x15 :: x16 :: x17 :: some (.int v) :: r)) (i := 18) (v := .int v) rfl)
  exact lv_iinc C.1 C.2.1 hd hl.has hq hw hL rfl (fun la2 hl2 => k C H locs la2 hP hA hS (lok.set1 (v := .int w) (lnc_s hn) hl2))
theorem aw_iload19 {x0 x1 x2 x3 x4 x5 x6 x7 x8 x9 x10 x11 x12 x13 x14 x15 x16 x17 x18 : Option Value} {v : Int32} {r : List (Option Value)} (hd : decode cc pc = .ok (.iload 19, 2)) (k : AW K own cc M d mc ms Q n z σ cells slots (pc + 2) (x0 :: x1 :: x2 :: x3 :: x4 :: x5 :: x6 :: x7 :: x8 :: x9 :: x10 :: x11 :: x12 :: x13 :: x14 :: x15 :: x16 :: x17 :: x18 :: some (.int v) :: r) (.int v :: st)) : AW K own cc M d mc ms Q n z σ cells slots pc (x0 :: x1 :: x2 :: x3 :: x4 :: x5 :: x6 :: x7 :: x8 :: x9 :: x10 :: x11 :: x12 :: x13 :: x14 :: x15 :: x16 :: x17 :: x18 :: some (.int v) :: r) st := by
  obtain ⟨p, l, e, s, m, args, below, meth, c, D, cs, a0, A0⟩ := K
  intro C H locs la hP hA hS hl
  exact lv_iload C.1 C.2.1 hd (hl.at (i := 19) (v := .int v) rfl) (k C H locs la hP hA hS hl)
theorem aw_lload19 {x0 x1 x2 x3 x4 x5 x6 x7 x8 x9 x10 x11 x12 x13 x14 x15 x16 x17 x18 : Option Value} {v : Int64} {r : List (Option Value)} (hd : decode cc pc = .ok (.lload 19, 2)) (k : AW K own cc M d mc ms Q n z σ cells slots (pc + 2) (x0 :: x1 :: x2 :: x3 :: x4 :: x5 :: x6 :: x7 :: x8 :: x9 :: x10 :: x11 :: x12 :: x13 :: x14 :: x15 :: x16 :: x17 :: x18 :: some (.long v) :: r) (.long v :: st)) : AW K own cc M d mc ms Q n z σ cells slots pc (x0 :: x1 :: x2 :: x3 :: x4 :: x5 :: x6 :: x7 :: x8 :: x9 :: x10 :: x11 :: x12 :: x13 :: x14 :: x15 :: x16 :: x17 :: x18 :: some (.long v) :: r) st := by
  obtain ⟨p, l, e, s, m, args, below, meth, c, D, cs, a0, A0⟩ := K
  intro C H locs la hP hA hS hl
  exact lv_lload C.1 C.2.1 hd (hl.at (i := 19) (v := .long v) rfl) (k C H locs la hP hA hS hl)
theorem aw_aload19 {x0 x1 x2 x3 x4 x5 x6 x7 x8 x9 x10 x11 x12 x13 x14 x15 x16 x17 x18 : Option Value} {v : Nat} {r : List (Option Value)} (hd : decode cc pc = .ok (.aload 19, 2)) (k : AW K own cc M d mc ms Q n z σ cells slots (pc + 2) (x0 :: x1 :: x2 :: x3 :: x4 :: x5 :: x6 :: x7 :: x8 :: x9 :: x10 :: x11 :: x12 :: x13 :: x14 :: x15 :: x16 :: x17 :: x18 :: some (.ref v) :: r) (.ref v :: st)) : AW K own cc M d mc ms Q n z σ cells slots pc (x0 :: x1 :: x2 :: x3 :: x4 :: x5 :: x6 :: x7 :: x8 :: x9 :: x10 :: x11 :: x12 :: x13 :: x14 :: x15 :: x16 :: x17 :: x18 :: some (.ref v) :: r) st := by
  obtain ⟨p, l, e, s, m, args, below, meth, c, D, cs, a0, A0⟩ := K
  intro C H locs la hP hA hS hl
  exact lv_aload C.1 C.2.1 hd (hl.at (i := 19) (v := .ref v) rfl) (k C H locs la hP hA hS hl)
theorem aw_aload19N {x0 x1 x2 x3 x4 x5 x6 x7 x8 x9 x10 x11 x12 x13 x14 x15 x16 x17 x18 : Option Value} {r : List (Option Value)} (hd : decode cc pc = .ok (.aload 19, 2)) (k : AW K own cc M d mc ms Q n z σ cells slots (pc + 2) (x0 :: x1 :: x2 :: x3 :: x4 :: x5 :: x6 :: x7 :: x8 :: x9 :: x10 :: x11 :: x12 :: x13 :: x14 :: x15 :: x16 :: x17 :: x18 :: some .null :: r) (.null :: st)) : AW K own cc M d mc ms Q n z σ cells slots pc (x0 :: x1 :: x2 :: x3 :: x4 :: x5 :: x6 :: x7 :: x8 :: x9 :: x10 :: x11 :: x12 :: x13 :: x14 :: x15 :: x16 :: x17 :: x18 :: some .null :: r) st := by
  obtain ⟨p, l, e, s, m, args, below, meth, c, D, cs, a0, A0⟩ := K
  intro C H locs la hP hA hS hl
  exact lv_aloadN C.1 C.2.1 hd (hl.at (i := 19) (v := .null) rfl) (k C H locs la hP hA hS hl)
theorem aw_istore19 {x0 x1 x2 x3 x4 x5 x6 x7 x8 x9 x10 x11 x12 x13 x14 x15 x16 x17 x18 : Option Value} {y0 : Option Value} {v : Int32} {r : List (Option Value)} (hd : decode cc pc = .ok (.istore 19, 2)) (hL : 19 < M.1) (hn : c1b x18 = true) (k : AW K own cc M d mc ms Q n z σ cells slots (pc + 2) (x0 :: x1 :: x2 :: x3 :: x4 :: x5 :: x6 :: x7 :: x8 :: x9 :: x10 :: x11 :: x12 :: x13 :: x14 :: x15 :: x16 :: x17 :: x18 :: some (.int v) :: r) st) : AW K own cc M d mc ms Q n z σ cells slots pc (x0 :: x1 :: x2 :: x3 :: x4 :: x5 :: x6 :: x7 :: x8 :: x9 :: x10 :: x11 :: x12 :: x13 :: x14 :: x15 :: x16 :: x17 :: x18 :: y0 :: r) (.int v :: st) := by
  obtain ⟨p, l, e, s, m, args, below, meth, c, D, cs, a0, A0⟩ := K
  intro C H locs la hP hA hS hl
  exact lv_istore C.1 C.2.1 hd hl.has hL rfl (fun la2 hl2 => k C H locs la2 hP hA hS (lok.set1 (v := .int v) (lnc_s hn) hl2))
theorem aw_astore19 {x0 x1 x2 x3 x4 x5 x6 x7 x8 x9 x10 x11 x12 x13 x14 x15 x16 x17 x18 : Option Value} {y0 : Option Value} {v : Nat} {r : List (Option Value)} (hd : decode cc pc = .ok (.astore 19, 2)) (hL : 19 < M.1) (hn : c1b x18 = true) (k : AW K own cc M d mc ms Q n z σ cells slots (pc + 2) (x0 :: x1 :: x2 :: x3 :: x4 :: x5 :: x6 :: x7 :: x8 :: x9 :: x10 :: x11 :: x12 :: x13 :: x14 :: x15 :: x16 :: x17 :: x18 :: some (.ref v) :: r) st) : AW K own cc M d mc ms Q n z σ cells slots pc (x0 :: x1 :: x2 :: x3 :: x4 :: x5 :: x6 :: x7 :: x8 :: x9 :: x10 :: x11 :: x12 :: x13 :: x14 :: x15 :: x16 :: x17 :: x18 :: y0 :: r) (.ref v :: st) := by
  obtain ⟨p, l, e, s, m, args, below, meth, c, D, cs, a0, A0⟩ := K
  intro C H locs la hP hA hS hl
  exact lv_astore C.1 C.2.1 hd hl.has hL rfl (fun la2 hl2 => k C H locs la2 hP hA hS (lok.set1 (v := .ref v) (lnc_s hn) hl2))
theorem aw_astore19N {x0 x1 x2 x3 x4 x5 x6 x7 x8 x9 x10 x11 x12 x13 x14 x15 x16 x17 x18 : Option Value} {y0 : Option Value} {r : List (Option Value)} (hd : decode cc pc = .ok (.astore 19, 2)) (hL : 19 < M.1) (hn : c1b x18 = true) (k : AW K own cc M d mc ms Q n z σ cells slots (pc + 2) (x0 :: x1 :: x2 :: x3 :: x4 :: x5 :: x6 :: x7 :: x8 :: x9 :: x10 :: x11 :: x12 :: x13 :: x14 :: x15 :: x16 :: x17 :: x18 :: some (.null) :: r) st) : AW K own cc M d mc ms Q n z σ cells slots pc (x0 :: x1 :: x2 :: x3 :: x4 :: x5 :: x6 :: x7 :: x8 :: x9 :: x10 :: x11 :: x12 :: x13 :: x14 :: x15 :: x16 :: x17 :: x18 :: y0 :: r) (.null :: st) := by
  obtain ⟨p, l, e, s, m, args, below, meth, c, D, cs, a0, A0⟩ := K
  intro C H locs la hP hA hS hl
  exact lv_astoreN C.1 C.2.1 hd hl.has hL rfl (fun la2 hl2 => k C H locs la2 hP hA hS (lok.set1 (v := .null) (lnc_s hn) hl2))
theorem aw_astore19E {x0 x1 x2 x3 x4 x5 x6 x7 x8 x9 x10 x11 x12 x13 x14 x15 x16 x17 x18 : Option Value} {y0 : Option Value} {v : Nat} {r : List (Option Value)} (hd : decode cc pc = .ok (.astore 19, 2)) (hL : 19 < M.1) (hn : c1b x18 = true) (k : AW K own cc M d mc ms Q n z σ cells slots (pc + 2) (x0 :: x1 :: x2 :: x3 :: x4 :: x5 :: x6 :: x7 :: x8 :: x9 :: x10 :: x11 :: x12 :: x13 :: x14 :: x15 :: x16 :: x17 :: x18 :: some (.retAddr v) :: r) st) : AW K own cc M d mc ms Q n z σ cells slots pc (x0 :: x1 :: x2 :: x3 :: x4 :: x5 :: x6 :: x7 :: x8 :: x9 :: x10 :: x11 :: x12 :: x13 :: x14 :: x15 :: x16 :: x17 :: x18 :: y0 :: r) (.retAddr v :: st) := by
  obtain ⟨p, l, e, s, m, args, below, meth, c, D, cs, a0, A0⟩ := K
  intro C H locs la hP hA hS hl
  exact lv_astore C.1 C.2.1 hd hl.has hL rfl (fun la2 hl2 => k C H locs la2 hP hA hS (lok.set1 (v := .retAddr v) (lnc_s hn) hl2))
theorem aw_lstore19 {x0 x1 x2 x3 x4 x5 x6 x7 x8 x9 x10 x11 x12 x13 x14 x15 x16 x17 x18 : Option Value} {y0 y1 : Option Value} {v : Int64} {r : List (Option Value)} (hd : decode cc pc = .ok (.lstore 19, 2)) (hL : 19 + 1 < M.1) (hn : c1b x18 = true) (k : AW K own cc M d mc ms Q n z σ cells slots (pc + 2) (x0 :: x1 :: x2 :: x3 :: x4 :: x5 :: x6 :: x7 :: x8 :: x9 :: x10 :: x11 :: x12 :: x13 :: x14 :: x15 :: x16 :: x17 :: x18 :: some (.long v) :: none :: r) st) : AW K own cc M d mc ms Q n z σ cells slots pc (x0 :: x1 :: x2 :: x3 :: x4 :: x5 :: x6 :: x7 :: x8 :: x9 :: x10 :: x11 :: x12 :: x13 :: x14 :: x15 :: x16 :: x17 :: x18 :: y0 :: y1 :: r) (.long v :: st) := by
  obtain ⟨p, l, e, s, m, args, below, meth, c, D, cs, a0, A0⟩ := K
  intro C H locs la hP hA hS hl
  exact lv_lstore C.1 C.2.1 hd hl.has hL rfl (fun la2 hl2 => k C H locs la2 hP hA hS (lok.set2 (v := .long v) (lnc_s hn) hl2))
theorem aw_iinc19 {x0 x1 x2 x3 x4 x5 x6 x7 x8 x9 x10 x11 x12 x13 x14 x15 x16 x17 x18 : Option Value} {v w : Int32} {c0 : Int} {r : List (Option Value)} (hd : decode cc pc = .ok (.iinc 19 c0, 3)) (hw : v + Int32.ofInt c0 = w) (hL : 19 < M.1) (hn : c1b x18 = true) (k : AW K own cc M d mc ms Q n z σ cells slots (pc + 3) (x0 :: x1 :: x2 :: x3 :: x4 :: x5 :: x6 :: x7 :: x8 :: x9 :: x10 :: x11 :: x12 :: x13 :: x14 :: x15 :: x16 :: x17 :: x18 :: some (.int w) :: r) st) : AW K own cc M d mc ms Q n z σ cells slots pc (x0 :: x1 :: x2 :: x3 :: x4 :: x5 :: x6 :: x7 :: x8 :: x9 :: x10 :: x11 :: x12 :: x13 :: x14 :: x15 :: x16 :: x17 :: x18 :: some (.int v) :: r) st := by
  obtain ⟨p, l, e, s, m, args, below, meth, c, D, cs, a0, A0⟩ := K
  intro C H locs la hP hA hS hl
  obtain ⟨q, hq⟩ := List.getElem?_of_mem (lpr_mem (a0 := a0) (ls := (x0 :: x1 :: x2 :: x3 :: x4 :: x5 :: x6 :: x7 :: x8 :: x9 :: x10 :: x11 :: x12 :: x13 :: x14 :: x15 :: x16 :: x17 :: x18 :: some (.int v) :: r)) (i := 19) (v := .int v) rfl)
  exact lv_iinc C.1 C.2.1 hd hl.has hq hw hL rfl (fun la2 hl2 => k C H locs la2 hP hA hS (lok.set1 (v := .int w) (lnc_s hn) hl2))
theorem aw_iload20 {x0 x1 x2 x3 x4 x5 x6 x7 x8 x9 x10 x11 x12 x13 x14 x15 x16 x17 x18 x19 : Option Value} {v : Int32} {r : List (Option Value)} (hd : decode cc pc = .ok (.iload 20, 2)) (k : AW K own cc M d mc ms Q n z σ cells slots (pc + 2) (x0 :: x1 :: x2 :: x3 :: x4 :: x5 :: x6 :: x7 :: x8 :: x9 :: x10 :: x11 :: x12 :: x13 :: x14 :: x15 :: x16 :: x17 :: x18 :: x19 :: some (.int v) :: r) (.int v :: st)) : AW K own cc M d mc ms Q n z σ cells slots pc (x0 :: x1 :: x2 :: x3 :: x4 :: x5 :: x6 :: x7 :: x8 :: x9 :: x10 :: x11 :: x12 :: x13 :: x14 :: x15 :: x16 :: x17 :: x18 :: x19 :: some (.int v) :: r) st := by
  obtain ⟨p, l, e, s, m, args, below, meth, c, D, cs, a0, A0⟩ := K
  intro C H locs la hP hA hS hl
  exact lv_iload C.1 C.2.1 hd (hl.at (i := 20) (v := .int v) rfl) (k C H locs la hP hA hS hl)
theorem aw_lload20 {x0 x1 x2 x3 x4 x5 x6 x7 x8 x9 x10 x11 x12 x13 x14 x15 x16 x17 x18 x19 : Option Value} {v : Int64} {r : List (Option Value)} (hd : decode cc pc = .ok (.lload 20, 2)) (k : AW K own cc M d mc ms Q n z σ cells slots (pc + 2) (x0 :: x1 :: x2 :: x3 :: x4 :: x5 :: x6 :: x7 :: x8 :: x9 :: x10 :: x11 :: x12 :: x13 :: x14 :: x15 :: x16 :: x17 :: x18 :: x19 :: some (.long v) :: r) (.long v :: st)) : AW K own cc M d mc ms Q n z σ cells slots pc (x0 :: x1 :: x2 :: x3 :: x4 :: x5 :: x6 :: x7 :: x8 :: x9 :: x10 :: x11 :: x12 :: x13 :: x14 :: x15 :: x16 :: x17 :: x18 :: x19 :: some (.long v) :: r) st := by
  obtain ⟨p, l, e, s, m, args, below, meth, c, D, cs, a0, A0⟩ := K
  intro C H locs la hP hA hS hl
  exact lv_lload C.1 C.2.1 hd (hl.at (i := 20) (v := .long v) rfl) (k C H locs la hP hA hS hl)
theorem aw_aload20 {x0 x1 x2 x3 x4 x5 x6 x7 x8 x9 x10 x11 x12 x13 x14 x15 x16 x17 x18 x19 : Option Value} {v : Nat} {r : List (Option Value)} (hd : decode cc pc = .ok (.aload 20, 2)) (k : AW K own cc M d mc ms Q n z σ cells slots (pc + 2) (x0 :: x1 :: x2 :: x3 :: x4 :: x5 :: x6 :: x7 :: x8 :: x9 :: x10 :: x11 :: x12 :: x13 :: x14 :: x15 :: x16 :: x17 :: x18 :: x19 :: some (.ref v) :: r) (.ref v :: st)) : AW K own cc M d mc ms Q n z σ cells slots pc (x0 :: x1 :: x2 :: x3 :: x4 :: x5 :: x6 :: x7 :: x8 :: x9 :: x10 :: x11 :: x12 :: x13 :: x14 :: x15 :: x16 :: x17 :: x18 :: x19 :: some (.ref v) :: r) st := by
  obtain ⟨p, l, e, s, m, args, below, meth, c, D, cs, a0, A0⟩ := K
  intro C H locs la hP hA hS hl
  exact lv_aload C.1 C.2.1 hd (hl.at (i := 20) (v := .ref v) rfl) (k C H locs la hP hA hS hl)
theorem aw_aload20N {x0 x1 x2 x3 x4 x5 x6 x7 x8 x9 x10 x11 x12 x13 x14 x15 x16 x17 x18 x19 : Option Value} {r : List (Option Value)} (hd : decode cc pc = .ok (.aload 20, 2)) (k : AW K own cc M d mc ms Q n z σ cells slots (pc + 2) (x0 :: x1 :: x2 :: x3 :: x4 :: x5 :: x6 :: x7 :: x8 :: x9 :: x10 :: x11 :: x12 :: x13 :: x14 :: x15 :: x16 :: x17 :: x18 :: x19 :: some .null :: r) (.null :: st)) : AW K own cc M d mc ms Q n z σ cells slots pc (x0 :: x1 :: x2 :: x3 :: x4 :: x5 :: x6 :: x7 :: x8 :: x9 :: x10 :: x11 :: x12 :: x13 :: x14 :: x15 :: x16 :: x17 :: x18 :: x19 :: some .null :: r) st := by
  obtain ⟨p, l, e, s, m, args, below, meth, c, D, cs, a0, A0⟩ := K
  intro C H locs la hP hA hS hl
  exact lv_aloadN C.1 C.2.1 hd (hl.at (i := 20) (v := .null) rfl) (k C H locs la hP hA hS hl)
theorem aw_istore20 {x0 x1 x2 x3 x4 x5 x6 x7 x8 x9 x10 x11 x12 x13 x14 x15 x16 x17 x18 x19 : Option Value} {y0 : Option Value} {v : Int32} {r : List (Option Value)} (hd : decode cc pc = .ok (.istore 20, 2)) (hL : 20 < M.1) (hn : c1b x19 = true) (k : AW K own cc M d mc ms Q n z σ cells slots (pc + 2) (x0 :: x1 :: x2 :: x3 :: x4 :: x5 :: x6 :: x7 :: x8 :: x9 :: x10 :: x11 :: x12 :: x13 :: x14 :: x15 :: x16 :: x17 :: x18 :: x19 :: some (.int v) :: r) st) : AW K own cc M d mc ms Q n z σ cells slots pc (x0 :: x1 :: x2 :: x3 :: x4 :: x5 :: x6 :: x7 :: x8 :: x9 :: x10 :: x11 :: x12 :: x13 :: x14 :: x15 :: x16 :: x17 :: x18 :: x19 :: y0 :: r) (.int v :: st) := by
  obtain ⟨p, l, e, s, m, args, below, meth, c, D, cs, a0, A0⟩ := K
  intro C H locs la hP hA hS hl
  exact lv_istore C.1 C.2.1 hd hl.has hL rfl (fun la2 hl2 => k C H locs la2 hP hA hS (lok.set1 (v := .int v) (lnc_s hn) hl2))
theorem aw_astore20 {x0 x1 x2 x3 x4 x5 x6 x7 x8 x9 x10 x11 x12 x13 x14 x15 x16 x17 x18 x19 : Option Value} {y0 : Option Value} {v : Nat} {r : List (Option Value)} (hd : decode cc pc = .ok (.astore 20, 2)) (hL : 20 < M.1) (hn : c1b x19 = true) (k : AW K own cc M d mc ms Q n z σ cells slots (pc + 2) (x0 :: x1 :: x2 :: x3 :: x4 :: x5 :: x6 :: x7 :: x8 :: x9 :: x10 :: x11 :: x12 :: x13 :: x14 :: x15 :: x16 :: x17 :: x18 :: x19 :: some (.ref v) :: r) st) : AW K own cc M d mc ms Q n z σ cells slots pc (x0 :: x1 :: x2 :: x3 :: x4 :: x5 :: x6 :: x7 :: x8 :: x9 :: x10 :: x11 :: x12 :: x13 :: x14 :: x15 :: x16 :: x17 :: x18 :: x19 :: y0 :: r) (.ref v :: st) := by
  obtain ⟨p, l, e, s, m, args, below, meth, c, D, cs, a0, A0⟩ := K
  intro C H locs la hP hA hS hl
  exact lv_astore C.1 C.2.1 hd hl.has hL rfl (fun la2 hl2 => k C H locs la2 hP hA hS (lok.set1 (v := .ref v) (lnc_s hn) hl2))
theorem aw_astore20N {x0 x1 x2 x3 x4 x5 x6 x7 x8 x9 x10 x11 x12 x13 x14 x15 x16 x17 x18 x19 : Option Value} {y0 : Option Value} {r : List (Option Value)} (hd : decode cc pc = .ok (.astore 20, 2)) (hL : 20 < M.1) (hn : c1b x19 = true) (k : AW K own cc M d mc ms Q n z σ cells slots (pc + 2) (x0 :: x1 :: x2 :: x3 :: x4 :: x5 :: x6 :: x7 :: x8 :: x9 :: x10 :: x11 :: x12 :: x13 :: x14 :: x15 :: x16 :: x17 :: x18 :: x19 :: some (.null) :: r) st) : AW K own cc M d mc ms Q n z σ cells slots pc (x0 :: x1 :: x2 :: x3 :: x4 :: x5 :: x6 :: x7 :: x8 :: x9 :: x10 :: x11 :: x12 :: x13 :: x14 :: x15 :: x16 :: x17 :: x18 :: x19 :: y0 :: r) (.null :: st) := by
  obtain ⟨p, l, e, s, m, args, below, meth, c, D, cs, a0, A0⟩ := K
  intro C H locs la hP hA hS hl
  exact lv_astoreN C.1 C.2.1 hd hl.has hL rfl (fun la2 hl2 => k C H locs la2 hP hA hS (lok.set1 (v := .null) (lnc_s hn) hl2))
theorem aw_astore20E {x0 x1 x2 x3 x4 x5 x6 x7 x8 x9 x10 x11 x12 x13 x14 x15 x16 x17 x18 x19 : Option Value} {y0 : Option Value} {v : Nat} {r : List (Option Value)} (hd : decode cc pc = .ok (.astore 20, 2)) (hL : 20 < M.1) (hn : c1b x19 = true) (k : AW K own cc M d mc ms Q n z σ cells slots (pc + 2) (x0 :: x1 :: x2 :: x3 :: x4 :: x5 :: x6 :: x7 :: x8 :: x9 :: x10 :: x11 :: x12 :: x13 :: x14 :: x15 :: x16 :: x17 :: x18 :: x19 :: some (.retAddr v) :: r) st) : AW K own cc M d mc ms Q n z σ cells slots pc (x0 :: x1 :: x2 :: x3 :: x4 :: x5 :: x6 :: x7 :: x8 :: x9 :: x10 :: x11 :: x12 :: x13 :: x14 :: x15 :: x16 :: x17 :: x18 :: x19 :: y0 :: r) (.retAddr v :: st) := by
  obtain ⟨p, l, e, s, m, args, below, meth, c, D, cs, a0, A0⟩ := K
  intro C H locs la hP hA hS hl
  exact lv_astore C.1 C.2.1 hd hl.has hL rfl (fun la2 hl2 => k C H locs la2 hP hA hS (lok.set1 (v := .retAddr v) (lnc_s hn) hl2))
theorem aw_lstore20 {x0 x1 x2 x3 x4 x5 x6 x7 x8 x9 x10 x11 x12 x13 x14 x15 x16 x17 x18 x19 : Option Value} {y0 y1 : Option Value} {v : Int64} {r : List (Option Value)} (hd : decode cc pc = .ok (.lstore 20, 2)) (hL : 20 + 1 < M.1) (hn : c1b x19 = true) (k : AW K own cc M d mc ms Q n z σ cells slots (pc + 2) (x0 :: x1 :: x2 :: x3 :: x4 :: x5 :: x6 :: x7 :: x8 :: x9 :: x10 :: x11 :: x12 :: x13 :: x14 :: x15 :: x16 :: x17 :: x18 :: x19 :: some (.long v) :: none :: r) st) : AW K own cc M d mc ms Q n z σ cells slots pc (x0 :: x1 :: x2 :: x3 :: x4 :: x5 :: x6 :: x7 :: x8 :: x9 :: x10 :: x11 :: x12 :: x13 :: x14 :: x15 :: x16 :: x17 :: x18 :: x19 :: y0 :: y1 :: r) (.long v :: st) := by
  obtain ⟨p, l, e, s, m, args, below, meth, c, D, cs, a0, A0⟩ := K
  intro C H locs la hP hA hS hl
  exact lv_lstore C.1 C.2.1 hd hl.has hL rfl (fun la2 hl2 => k C H locs la2 hP hA hS (lok.set2 (v := .long v) (lnc_s hn) hl2))
theorem aw_iinc20 {x0 x1 x2 x3 x4 x5 x6 x7 x8 x9 x10 x11 x12 x13 x14 x15 x16 x17 x18 x19 : Option Value} {v w : Int32} {c0 : Int} {r : List (Option Value)} (hd : decode cc pc = .ok (.iinc 20 c0, 3)) (hw : v + Int32.ofInt c0 = w) (hL : 20 < M.1) (hn : c1b x19 = true) (k : AW K own cc M d mc ms Q n z σ cells slots (pc + 3) (x0 :: x1 :: x2 :: x3 :: x4 :: x5 :: x6 :: x7 :: x8 :: x9 :: x10 :: x11 :: x12 :: x13 :: x14 :: x15 :: x16 :: x17 :: x18 :: x19 :: some (.int w) :: r) st) : AW K own cc M d mc ms Q n z σ cells slots pc (x0 :: x1 :: x2 :: x3 :: x4 :: x5 :: x6 :: x7 :: x8 :: x9 :: x10 :: x11 :: x12 :: x13 :: x14 :: x15 :: x16 :: x17 :: x18 :: x19 :: some (.int v) :: r) st := by
  obtain ⟨p, l, e, s, m, args, below, meth, c, D, cs, a0, A0⟩ := K
  intro C H locs la hP hA hS hl
  obtain ⟨q, hq⟩ := List.getElem?_of_mem (lpr_mem (a0 := a0) (ls := (x0 :: x1 :: x2 :: x3 :: x4 :: x5 :: x6 :: x7 :: x8 :: x9 :: x10 :: x11 :: x12 :: x13 :: x14 :: x15 :: x16 :: x17 :: x18 :: x19 :: some (.int v) :: r)) (i := 20) (v := .int v) rfl)
  exact lv_iinc C.1 C.2.1 hd hl.has hq hw hL rfl (fun la2 hl2 => k C H locs la2 hP hA hS (lok.set1 (v := .int w) (lnc_s hn) hl2))
theorem aw_iload21 {x0 x1 x2 x3 x4 x5 x6 x7 x8 x9 x10 x11 x12 x13 x14 x15 x16 x17 x18 x19 x20 : Option Value} {v : Int32} {r : List (Option Value)} (hd : decode cc pc = .ok (.iload 21, 2)) (k : AW K own cc M d mc ms Q n z σ cells slots (pc + 2) (x0 :: x1 :: x2 :: x3 :: x4 :: x5 :: x6 :: x7 :: x8 :: x9 :: x10 :: x11 :: x12 :: x13 :: x14 :: x15 :: x16 :: x17 :: x18 :: x19 :: x20 :: some (.int v) :: r) (.int v :: st)) : AW K own cc M d mc ms Q n z σ cells slots pc (x0 :: x1 :: x2 :: x3 :: x4 :: x5 :: x6 :: x7 :: x8 :: x9 :: x10 :: x11 :: x12 :: x13 :: x14 :: x15 :: x16 :: x17 :: x18 :: x19 :: x20 :: some (.int v) :: r) st := by
  obtain ⟨p, l, e, s, m, args, below, meth, c, D, cs, a0, A0⟩ := K
  intro C H locs la hP hA hS hl
  exact lv_iload C.1 C.2.1 hd (hl.at (i := 21) (v := .int v) rfl) (k C H locs la hP hA hS hl)
theorem aw_lload21 {x0 x1 x2 x3 x4 x5 x6 x7 x8 x9 x10 x11 x12 x13 x14 x15 x16 x17 x18 x19 x20 : Option Value} {v : Int64} {r : List (Option Value)} (hd : decode cc pc = .ok (.lload 21, 2)) (k : AW K own cc M d mc ms Q n z σ cells slots (pc + 2) (x0 :: x1 :: x2 :: x3 :: x4 :: x5 :: x6 :: x7 :: x8 :: x9 :: x10 :: x11 :: x12 :: x13 :: x14 :: x15 :: x16 :: x17 :: x18 :: x19 :: x20 :: some (.long v) :: r) (.long v :: st)) : AW K own cc M d mc ms Q n z σ cells slots pc (x0 :: x1 :: x2 :: x3 :: x4 :: x5 :: x6 :: x7 :: x8 :: x9 :: x10 :: x11 :: x12 :: x13 :: x14 :: x15 :: x16 :: x17 :: x18 :: x19 :: x20 :: some (.long v) :: r) st := by
  obtain ⟨p, l, e, s, m, args, below, meth, c, D, cs, a0, A0⟩ := K
  intro C H locs la hP hA hS hl
  exact lv_lload C.1 C.2.1 hd (hl.at (i := 21) (v := .long v) rfl) (k C H locs la hP hA hS hl)
theorem aw_aload21 {x0 x1 x2 x3 x4 x5 x6 x7 x8 x9 x10 x11 x12 x13 x14 x15 x16 x17 x18 x19 x20 : Option Value} {v : Nat} {r : List (Option Value)} (hd : decode cc pc = .ok (.aload 21, 2)) (k : AW K own cc M d mc ms Q n z σ cells slots (pc + 2) (x0 :: x1 :: x2 :: x3 :: x4 :: x5 :: x6 :: x7 :: x8 :: x9 :: x10 :: x11 :: x12 :: x13 :: x14 :: x15 :: x16 :: x17 :: x18 :: x19 :: x20 :: some (.ref v) :: r) (.ref v :: st)) : AW K own cc M d mc ms Q n z σ cells slots pc (x0 :: x1 :: x2 :: x3 :: x4 :: x5 :: x6 :: x7 :: x8 :: x9 :: x10 :: x11 :: x12 :: x13 :: x14 :: x15 :: x16 :: x17 :: x18 :: x19 :: x20 :: some (.ref v) :: r) st := by
  obtain ⟨p, l, e, s, m, args, below, meth, c, D, cs, a0, A0⟩ := K
  intro C H locs la hP hA hS hl
  exact lv_aload C.1 C.2.1 hd (hl.at (i := 21) (v := .ref v) rfl) (k C H locs la hP hA hS hl)
theorem aw_aload21N {x0 x1 x2 x3 x4 x5 x6 x7 x8 x9 x10 x11 x12 x13 x14 x15 x16 x17 x18 x19 x20 : Option Value} {r : List (Option Value)} (hd : decode cc pc = .ok (.aload 21, 2)) (k : AW K own cc M d mc ms Q n z σ cells slots (pc + 2) (x0 :: x1 :: x2 :: x3 :: x4 :: x5 :: x6 :: x7 :: x8 :: x9 :: x10 :: x11 :: x12 :: x13 :: x14 :: x15 :: x16 :: x17 :: x18 :: x19 :: x20 :: some .null :: r) (.null :: st)) : AW K own cc M d mc ms Q n z σ cells slots pc (x0 :: x1 :: x2 :: x3 :: x4 :: x5 :: x6 :: x7 :: x8 :: x9 :: x10 :: x11 :: x12 :: x13 :: x14 :: x15 :: x16 :: x17 :: x18 :: x19 :: x20 :: some .null :: r) st := by
  obtain ⟨p, l, e, s, m, args, below, meth, c, D, cs, a0, A0⟩ := K
  intro C H locs la hP hA hS hl
  exact lv_aloadN C.1 C.2.1 hd (hl.at (i := 21) (v := .null) rfl) (k C H locs la hP hA hS hl)
theorem aw_istore21 {x0 x1 x2 x3 x4 x5 x6 x7 x8 x9 x10 x11 x12 x13 x14 x15 x16 x17 x18 x19 x20 : Option Value} {y0 : Option Value} {v : Int32} {r : List (Option Value)} (hd : decode cc pc = .ok (.istore 21, 2)) (hL : 21 < M.1) (hn : c1b x20 = true) (k : AW K own cc M d mc ms Q n z σ cells slots (pc + 2) (x0 :: x1 :: x2 :: x3 :: x4 :: x5 :: x6 :: x7 :: x8 :: x9 :: x10 :: x11 :: x12 :: x13 :: x14 :: x15 :: x16 :: x17 :: x18 :: x19 :: x20 :: some (.int v) :: r) st) : AW K own cc M d mc ms Q n z σ cells slots pc (x0 :: x1 :: x2 :: x3 :: x4 :: x5 :: x6 :: x7 :: x8 :: x9 :: x10 :: x11 :: x12 :: x13 :: x14 :: x15 :: x16 :: x17 :: x18 :: x19 :: x20 :: y0 :: r) (.int v :: st) := by
  obtain ⟨p, l, e, s, m, args, below, meth, c, D, cs, a0, A0⟩ := K
  intro C H locs la hP hA hS hl
  exact lv_istore C.1 C.2.1 hd hl.has hL rfl (fun la2 hl2 => k C H locs la2 hP hA hS (lok.set1 (v := .int v) (lnc_s hn) hl2))
theorem aw_astore21 {x0 x1 x2 x3 x4 x5 x6 x7 x8 x9 x10 x11 x12 x13 x14 x15 x16 x17 x18 x19 x20 : Option Value} {y0 : Option Value} {v : Nat} {r : List (Option Value)} (hd : decode cc pc = .ok (.astore 21, 2)) (hL : 21 < M.1) (hn : c1b x20 = true) (k : AW K own cc M d mc ms Q n z σ cells slots (pc + 2) (x0 :: x1 :: x2 :: x3 :: x4 :: x5 :: x6 :: x7 :: x8 :: x9 :: x10 :: x11 :: x12 :: x13 :: x14 :: x15 :: x16 :: x17 :: x18 :: x19 :: x20 :: some (.ref v) :: r) st) : AW K own cc M d mc ms Q n z σ cells slots pc (x0 :: x1 :: x2 :: x3 :: x4 :: x5 :: x6 :: x7 :: x8 :: x9 :: x10 :: x11 :: x12 :: x13 :: x14 :: x15 :: x16 :: x17 :: x18 :: x19 :: x20 :: y0 :: r) (.ref v :: st) := by
  obtain ⟨p, l, e, s, m, args, below, meth, c, D, cs, a0, A0⟩ := K
  intro C H locs la hP hA hS hl
  exact lv_astore C.1 C.2.1 hd hl.has hL rfl (fun la2 hl2 => k C H locs la2 hP hA hS (lok.set1 (v := .ref v) (lnc_s hn) hl2))
theorem aw_astore21N {x0 x1 x2 x3 x4 x5 x6 x7 x8 x9 x10 x11 x12 x13 x14 x15 x16 x17 x18 x19 x20 : Option Value} {y0 : Option Value} {r : List (Option Value)} (hd : decode cc pc = .ok (.astore 21, 2)) (hL : 21 < M.1) (hn : c1b x20 = true) (k : AW K own cc M d mc ms Q n z σ cells slots (pc + 2) (x0 :: x1 :: x2 :: x3 :: x4 :: x5 :: x6 :: x7 :: x8 :: x9 :: x10 :: x11 :: x12 :: x13 :: x14 :: x15 :: x16 :: x17 :: x18 :: x19 :: x20 :: some (.null) :: r) st) : AW K own cc M d mc ms Q n z σ cells slots pc (x0 :: x1 :: x2 :: x3 :: x4 :: x5 :: x6 :: x7 :: x8 :: x9 :: x10 :: x11 :: x12 :: x13 :: x14 :: x15 :: x16 :: x17 :: x18 :: x19 :: x20 :: y0 :: r) (.null :: st) := by
  obtain ⟨p, l, e, s, m, args, below, meth, c, D, cs, a0, A0⟩ := K
  intro C H locs la hP hA hS hl
  exact lv_astoreN C.1 C.2.1 hd hl.has hL rfl (fun la2 hl2 => k C H locs la2 hP hA hS (lok.set1 (v := .null) (lnc_s hn) hl2))
theorem aw_astore21E {x0 x1 x2 x3 x4 x5 x6 x7 x8 x9 x10 x11 x12 x13 x14 x15 x16 x17 x18 x19 x20 : Option Value} {y0 : Option Value} {v : Nat} {r : List (Option Value)} (hd : decode cc pc = .ok (.astore 21, 2)) (hL : 21 < M.1) (hn : c1b x20 = true) (k : AW K own cc M d mc ms Q n z σ cells slots (pc + 2) (x0 :: x1 :: x2 :: x3 :: x4 :: x5 :: x6 :: x7 :: x8 :: x9 :: x10 :: x11 :: x12 :: x13 :: x14 :: x15 :: x16 :: x17 :: x18 :: x19 :: x20 :: some (.retAddr v) :: r) st) : AW K own cc M d mc ms Q n z σ cells slots pc (x0 :: x1 :: x2 :: x3 :: x4 :: x5 :: x6 :: x7 :: x8 :: x9 :: x10 :: x11 :: x12 :: x13 :: x14 :: x15 :: x16 :: x17 :: x18 :: x19 :: x20 :: y0 :: r) (.retAddr v :: st) := by
  obtain ⟨p, l, e, s, m, args, below, meth, c, D, cs, a0, A0⟩ := K
  intro C H locs la hP hA hS hl
  exact lv_astore C.1 C.2.1 hd hl.has hL rfl (fun la2 hl2 => k C H locs la2 hP hA hS (lok.set1 (v := .retAddr v) (lnc_s hn) hl2))
theorem aw_lstore21 {x0 x1 x2 x3 x4 x5 x6 x7 x8 x9 x10 x11 x12 x13 x14 x15 x16 x17 x18 x19 x20 : Option Value} {y0 y1 : Option Value} {v : Int64} {r : List (Option Value)} (hd : decode cc pc = .ok (.lstore 21, 2)) (hL : 21 + 1 < M.1) (hn : c1b x20 = true) (k : AW K own cc M d mc ms Q n z σ cells slots (pc + 2) (x0 :: x1 :: x2 :: x3 :: x4 :: x5 :: x6 :: x7 :: x8 :: x9 :: x10 :: x11 :: x12 :: x13 :: x14 :: x15 :: x16 :: x17 :: x18 :: x19 :: x20 :: some (.long v) :: none :: r) st) : AW K own cc M d mc ms Q n z σ cells slots pc (x0 :: x1 :: x2 :: x3 :: x4 :: x5 :: x6 :: x7 :: x8 :: x9 :: x10 :: x11 :: x12 :: x13 :: x14 :: x15 :: x16 :: x17 :: x18 :: x19 :: x20 :: y0 :: y1 :: r) (.long v :: st) := by
  obtain ⟨p, l, e, s, m, args, below, meth, c, D, cs, a0, A0⟩ := K
  intro C H locs la hP hA hS hl
  exact lv_lstore C.1 C.2.1 hd hl.has hL rfl (fun la2 hl2 => k C H locs la2 hP hA hS (lok.set2 (v := .long v) (lnc_s hn) hl2))
theorem aw_iinc21 {x0 x1 x2 x3 x4 x5 x6 x7 x8 x9 x10 x11 x12 x13 x14 x15 x16 x17 x18 x19 x20 : Option Value} {v w : Int32} {c0 : Int} {r : List (Option Value)} (hd : decode cc pc = .ok (.iinc 21 c0, 3)) (hw : v + Int32.ofInt c0 = w) (hL : 21 < M.1) (hn : c1b x20 = true) (k : AW K own cc M d mc ms Q n z σ cells slots (pc + 3) (x0 :: x1 :: x2 :: x3 :: x4 :: x5 :: x6 :: x7 :: x8 :: x9 :: x10 :: x11 :: x12 :: x13 :: x14 :: x15 :: x16 :: x17 :: x18 :: x19 :: x20 :: some (.int w) :: r) st) : AW K own cc M d mc ms Q n z σ cells slots pc (x0 :: x1 :: x2 :: x3 :: x4 :: x5 :: x6 :: x7 :: x8 :: x9 :: x10 :: x11 :: x12 :: x13 :: x14 :: x15 :: x16 :: x17 :: x18 :: x19 :: x20 :: some (.int v) :: r) st := by
  obtain ⟨p, l, e, s, m, args, below, meth, c, D, cs, a0, A0⟩ := K
  intro C H locs la hP hA hS hl
  obtain ⟨q, hq⟩ := List.getElem?_of_mem (lpr_mem (a0 := a0) (ls := (x0 :: x1 :: x2 :: x3 :: x4 :: x5 :: x6 :: x7 :: x8 :: x9 :: x10 :: x11 :: x12 :: x13 :: x14 :: x15 :: x16 :: x17 :: x18 :: x19 :: x20 :: some (.int v) :: r)) (i := 21) (v := .int v) rfl)
  exact lv_iinc C.1 C.2.1 hd hl.has hq hw hL rfl (fun la2 hl2 => k C H locs la2 hP hA hS (lok.set1 (v := .int w) (lnc_s hn) hl2))
theorem ai_iadd {a b : Int} (hd : decode cc pc = .ok (.iadd, 1)) (k : AW K own cc M d mc ms Q n z σ cells slots (pc + 1) ls (.int (iI (a + b)) :: st)) : AW K own cc M d mc ms Q n z σ cells slots pc ls (.int (iI b) :: .int (iI a) :: st) := by
  refine aw_iadd hd ?_
  rw [iI_add]
  exact k
theorem ai_isub {a b : Int} (hd : decode cc pc = .ok (.isub, 1)) (k : AW K own cc M d mc ms Q n z σ cells slots (pc + 1) ls (.int (iI (a - b)) :: st)) : AW K own cc M d mc ms Q n z σ cells slots pc ls (.int (iI b) :: .int (iI a) :: st) := by
  refine aw_isub hd ?_
  rw [iI_sub]
  exact k
theorem ai_imul {a b : Int} (hd : decode cc pc = .ok (.imul, 1)) (k : AW K own cc M d mc ms Q n z σ cells slots (pc + 1) ls (.int (iI (a * b)) :: st)) : AW K own cc M d mc ms Q n z σ cells slots pc ls (.int (iI b) :: .int (iI a) :: st) := by
  refine aw_imul hd ?_
  rw [iI_mul]
  exact k
theorem ai_ladd {a b : Int} (hd : decode cc pc = .ok (.ladd, 1)) (k : AW K own cc M d mc ms Q n z σ cells slots (pc + 1) ls (.long (lI (a + b)) :: st)) : AW K own cc M d mc ms Q n z σ cells slots pc ls (.long (lI b) :: .long (lI a) :: st) := by
  refine aw_ladd hd ?_
  rw [lI_add]
  exact k
theorem ai_lsub {a b : Int} (hd : decode cc pc = .ok (.lsub, 1)) (k : AW K own cc M d mc ms Q n z σ cells slots (pc + 1) ls (.long (lI (a - b)) :: st)) : AW K own cc M d mc ms Q n z σ cells slots pc ls (.long (lI b) :: .long (lI a) :: st) := by
  refine aw_lsub hd ?_
  rw [lI_sub]
  exact k
theorem ai_lmul {a b : Int} (hd : decode cc pc = .ok (.lmul, 1)) (k : AW K own cc M d mc ms Q n z σ cells slots (pc + 1) ls (.long (lI (a * b)) :: st)) : AW K own cc M d mc ms Q n z σ cells slots pc ls (.long (lI b) :: .long (lI a) :: st) := by
  refine aw_lmul hd ?_
  rw [lI_mul]
  exact k
theorem ai_i2l {a : Int} (hd : decode cc pc = .ok (.i2l, 1)) (h1 : -2147483648 ≤ a) (h2 : a < 2147483648) (k : AW K own cc M d mc ms Q n z σ cells slots (pc + 1) ls (.long (lI a) :: st)) : AW K own cc M d mc ms Q n z σ cells slots pc ls (.int (iI a) :: st) := by
  refine aw_i2l hd ?_
  rw [i2l_iI h1 h2]
  exact k
theorem ai_l2i {a : Int} (hd : decode cc pc = .ok (.l2i, 1)) (k : AW K own cc M d mc ms Q n z σ cells slots (pc + 1) ls (.int (iI a) :: st)) : AW K own cc M d mc ms Q n z σ cells slots pc ls (.long (lI a) :: st) := by
  refine aw_l2i hd ?_
  rw [l2i_I]
  exact k
theorem ai_idiv {a b : Int} (hd : decode cc pc = .ok (.idiv, 1)) (h1 : 0 ≤ a) (h2 : a < 2147483648) (h3 : 0 < b) (h4 : b < 2147483648) (k : AW K own cc M d mc ms Q n z σ cells slots (pc + 1) ls (.int (iI (a / b)) :: st)) : AW K own cc M d mc ms Q n z σ cells slots pc ls (.int (iI b) :: .int (iI a) :: st) := by
  refine aw_idiv hd (iI_n0 h3 h4) ?_
  rw [iI_div h1 h2 h3 h4]
  exact k
theorem ai_irem {a b : Int} (hd : decode cc pc = .ok (.irem, 1)) (h1 : 0 ≤ a) (h2 : a < 2147483648) (h3 : 0 < b) (h4 : b < 2147483648) (k : AW K own cc M d mc ms Q n z σ cells slots (pc + 1) ls (.int (iI (a % b)) :: st)) : AW K own cc M d mc ms Q n z σ cells slots pc ls (.int (iI b) :: .int (iI a) :: st) := by
  refine aw_irem hd (iI_n0 h3 h4) ?_
  rw [iI_div h1 h2 h3 h4, iI_mul, iI_sub, show a - a / b * b = a % b by rw [Int.mul_comm]; exact (Int.emod_def a b).symm]
  exact k
theorem ai_lif_eq {a b : Int} {off : Int} {tgt : Nat} (hd0 : decode cc pc = .ok (.lcmp, 1)) (hd : decode cc (pc + 1) = .ok (.ifCond .eq off, 3)) (ht : ((pc + 1 : Nat) : Int) + off = (tgt : Int)) (h1 : -9223372036854775808 ≤ a) (h2 : a < 9223372036854775808) (h3 : -9223372036854775808 ≤ b) (h4 : b < 9223372036854775808) (kt : a = b → AW K own cc M d mc ms Q n z σ cells slots tgt ls st) (kf : ¬ (a = b) → AW K own cc M d mc ms Q n z σ cells slots (pc + 1 + 3) ls st) : AW K own cc M d mc ms Q n z σ cells slots pc ls (.long (lI b) :: .long (lI a) :: st) := by
  refine aw_lcmp hd0 ?_
  exact aw_if_eq hd ht (fun h => kt (((lg_cmp_eq _ _).trans (lI_inj h1 h2 h3 h4)).mp h)) (fun h => kf (fun q => h (((lg_cmp_eq _ _).trans (lI_inj h1 h2 h3 h4)).mpr q)))
theorem ai_ic_eq {a b : Int} {off : Int} {tgt : Nat} (hd : decode cc pc = .ok (.if_icmp .eq off, 3)) (ht : (pc : Int) + off = (tgt : Int)) (h1 : -2147483648 ≤ a) (h2 : a < 2147483648) (h3 : -2147483648 ≤ b) (h4 : b < 2147483648) (kt : a = b → AW K own cc M d mc ms Q n z σ cells slots tgt ls st) (kf : ¬ (a = b) → AW K own cc M d mc ms Q n z σ cells slots (pc + 3) ls st) : AW K own cc M d mc ms Q n z σ cells slots pc ls (.int (iI b) :: .int (iI a) :: st) := by
  exact aw_ic_eq hd ht (fun h => kt ((iI_inj h1 h2 h3 h4).mp h)) (fun h => kf (fun q => h ((iI_inj h1 h2 h3 h4).mpr q)))
theorem ai_if_eq {a : Int} {off : Int} {tgt : Nat} (hd : decode cc pc = .ok (.ifCond .eq off, 3)) (ht : (pc : Int) + off = (tgt : Int)) (h1 : -2147483648 ≤ a) (h2 : a < 2147483648) (kt : a = 0 → AW K own cc M d mc ms Q n z σ cells slots tgt ls st) (kf : ¬ (a = 0) → AW K own cc M d mc ms Q n z σ cells slots (pc + 3) ls st) : AW K own cc M d mc ms Q n z σ cells slots pc ls (.int (iI a) :: st) := by
  exact aw_if_eq hd ht (fun h => kt ((iI_inj h1 h2 (by decide : (-2147483648 : Int) ≤ 0) (by decide : (0 : Int) < 2147483648)).mp h)) (fun h => kf (fun q => h ((iI_inj h1 h2 (by decide : (-2147483648 : Int) ≤ 0) (by decide : (0 : Int) < 2147483648)).mpr q)))
theorem al_if_eq {x y : Int64} {off : Int} {tgt : Nat} (hd0 : decode cc pc = .ok (.lcmp, 1)) (hd : decode cc (pc + 1) = .ok (.ifCond .eq off, 3)) (ht : ((pc + 1 : Nat) : Int) + off = (tgt : Int)) (kt : x = y → AW K own cc M d mc ms Q n z σ cells slots tgt ls st) (kf : ¬ (x = y) → AW K own cc M d mc ms Q n z σ cells slots (pc + 1 + 3) ls st) : AW K own cc M d mc ms Q n z σ cells slots pc ls (.long y :: .long x :: st) := by
  refine aw_lcmp hd0 ?_
  exact aw_if_eq hd ht (fun h => kt ((lg_cmp_eq _ _).mp h)) (fun h => kf (fun q => h ((lg_cmp_eq _ _).mpr q)))
theorem ai_lif_ne {a b : Int} {off : Int} {tgt : Nat} (hd0 : decode cc pc = .ok (.lcmp, 1)) (hd : decode cc (pc + 1) = .ok (.ifCond .ne off, 3)) (ht : ((pc + 1 : Nat) : Int) + off = (tgt : Int)) (h1 : -9223372036854775808 ≤ a) (h2 : a < 9223372036854775808) (h3 : -9223372036854775808 ≤ b) (h4 : b < 9223372036854775808) (kt : ¬ a = b → AW K own cc M d mc ms Q n z σ cells slots tgt ls st) (kf : ¬ (¬ a = b) → AW K own cc M d mc ms Q n z σ cells slots (pc + 1 + 3) ls st) : AW K own cc M d mc ms Q n z σ cells slots pc ls (.long (lI b) :: .long (lI a) :: st) := by
  refine aw_lcmp hd0 ?_
  exact aw_if_ne hd ht (fun h => kt (fun q => h (((lg_cmp_eq _ _).trans (lI_inj h1 h2 h3 h4)).mpr q))) (fun h => kf (fun q => q (((lg_cmp_eq _ _).trans (lI_inj h1 h2 h3 h4)).mp h)))
theorem ai_ic_ne {a b : Int} {off : Int} {tgt : Nat} (hd : decode cc pc = .ok (.if_icmp .ne off, 3)) (ht : (pc : Int) + off = (tgt : Int)) (h1 : -2147483648 ≤ a) (h2 : a < 2147483648) (h3 : -2147483648 ≤ b) (h4 : b < 2147483648) (kt : ¬ a = b → AW K own cc M d mc ms Q n z σ cells slots tgt ls st) (kf : ¬ (¬ a = b) → AW K own cc M d mc ms Q n z σ cells slots (pc + 3) ls st) : AW K own cc M d mc ms Q n z σ cells slots pc ls (.int (iI b) :: .int (iI a) :: st) := by
  exact aw_ic_ne hd ht (fun h => kt (fun q => h ((iI_inj h1 h2 h3 h4).mpr q))) (fun h => kf (fun q => q ((iI_inj h1 h2 h3 h4).mp h)))
theorem ai_if_ne {a : Int} {off : Int} {tgt : Nat} (hd : decode cc pc = .ok (.ifCond .ne off, 3)) (ht : (pc : Int) + off = (tgt : Int)) (h1 : -2147483648 ≤ a) (h2 : a < 2147483648) (kt : ¬ a = 0 → AW K own cc M d mc ms Q n z σ cells slots tgt ls st) (kf : ¬ (¬ a = 0) → AW K own cc M d mc ms Q n z σ cells slots (pc + 3) ls st) : AW K own cc M d mc ms Q n z σ cells slots pc ls (.int (iI a) :: st) := by
  exact aw_if_ne hd ht (fun h => kt (fun q => h ((iI_inj h1 h2 (by decide : (-2147483648 : Int) ≤ 0) (by decide : (0 : Int) < 2147483648)).mpr q))) (fun h => kf (fun q => q ((iI_inj h1 h2 (by decide : (-2147483648 : Int) ≤ 0) (by decide : (0 : Int) < 2147483648)).mp h)))
theorem al_if_ne {x y : Int64} {off : Int} {tgt : Nat} (hd0 : decode cc pc = .ok (.lcmp, 1)) (hd : decode cc (pc + 1) = .ok (.ifCond .ne off, 3)) (ht : ((pc + 1 : Nat) : Int) + off = (tgt : Int)) (kt : ¬ x = y → AW K own cc M d mc ms Q n z σ cells slots tgt ls st) (kf : ¬ (¬ x = y) → AW K own cc M d mc ms Q n z σ cells slots (pc + 1 + 3) ls st) : AW K own cc M d mc ms Q n z σ cells slots pc ls (.long y :: .long x :: st) := by
  refine aw_lcmp hd0 ?_
  exact aw_if_ne hd ht (fun h => kt (fun q => h ((lg_cmp_eq _ _).mpr q))) (fun h => kf (fun q => q ((lg_cmp_eq _ _).mp h)))
theorem ai_lif_lt {a b : Int} {off : Int} {tgt : Nat} (hd0 : decode cc pc = .ok (.lcmp, 1)) (hd : decode cc (pc + 1) = .ok (.ifCond .lt off, 3)) (ht : ((pc + 1 : Nat) : Int) + off = (tgt : Int)) (h1 : -9223372036854775808 ≤ a) (h2 : a < 9223372036854775808) (h3 : -9223372036854775808 ≤ b) (h4 : b < 9223372036854775808) (kt : a < b → AW K own cc M d mc ms Q n z σ cells slots tgt ls st) (kf : ¬ (a < b) → AW K own cc M d mc ms Q n z σ cells slots (pc + 1 + 3) ls st) : AW K own cc M d mc ms Q n z σ cells slots pc ls (.long (lI b) :: .long (lI a) :: st) := by
  refine aw_lcmp hd0 ?_
  exact aw_if_lt hd ht (fun h => kt (((lg_cmp_lt _ _).trans (lI_lt h1 h2 h3 h4)).mp h)) (fun h => kf (fun q => h (((lg_cmp_lt _ _).trans (lI_lt h1 h2 h3 h4)).mpr q)))
theorem ai_ic_lt {a b : Int} {off : Int} {tgt : Nat} (hd : decode cc pc = .ok (.if_icmp .lt off, 3)) (ht : (pc : Int) + off = (tgt : Int)) (h1 : -2147483648 ≤ a) (h2 : a < 2147483648) (h3 : -2147483648 ≤ b) (h4 : b < 2147483648) (kt : a < b → AW K own cc M d mc ms Q n z σ cells slots tgt ls st) (kf : ¬ (a < b) → AW K own cc M d mc ms Q n z σ cells slots (pc + 3) ls st) : AW K own cc M d mc ms Q n z σ cells slots pc ls (.int (iI b) :: .int (iI a) :: st) := by
  exact aw_ic_lt hd ht (fun h => kt ((iI_lt h1 h2 h3 h4).mp h)) (fun h => kf (fun q => h ((iI_lt h1 h2 h3 h4).mpr q)))
theorem ai_if_lt {a : Int} {off : Int} {tgt : Nat} (hd : decode cc pc = .ok (.ifCond .lt off, 3)) (ht : (pc : Int) + off = (tgt : Int)) (h1 : -2147483648 ≤ a) (h2 : a < 2147483648) (kt : a < 0 → AW K own cc M d mc ms Q n z σ cells slots tgt ls st) (kf : ¬ (a < 0) → AW K own cc M d mc ms Q n z σ cells slots (pc + 3) ls st) : AW K own cc M d mc ms Q n z σ cells slots pc ls (.int (iI a) :: st) := by
  exact aw_if_lt hd ht (fun h => kt ((iI_lt h1 h2 (by decide : (-2147483648 : Int) ≤ 0) (by decide : (0 : Int) < 2147483648)).mp h)) (fun h => kf (fun q => h ((iI_lt h1 h2 (by decide : (-2147483648 : Int) ≤ 0) (by decide : (0 : Int) < 2147483648)).mpr q)))
theorem ai_lif_ge {a b : Int} {off : Int} {tgt : Nat} (hd0 : decode cc pc = .ok (.lcmp, 1)) (hd : decode cc (pc + 1) = .ok (.ifCond .ge off, 3)) (ht : ((pc + 1 : Nat) : Int) + off = (tgt : Int)) (h1 : -9223372036854775808 ≤ a) (h2 : a < 9223372036854775808) (h3 : -9223372036854775808 ≤ b) (h4 : b < 9223372036854775808) (kt : b ≤ a → AW K own cc M d mc ms Q n z σ cells slots tgt ls st) (kf : ¬ (b ≤ a) → AW K own cc M d mc ms Q n z σ cells slots (pc + 1 + 3) ls st) : AW K own cc M d mc ms Q n z σ cells slots pc ls (.long (lI b) :: .long (lI a) :: st) := by
  refine aw_lcmp hd0 ?_
  exact aw_if_ge hd ht (fun h => kt (((lg_cmp_ge _ _).trans (lI_le h3 h4 h1 h2)).mp h)) (fun h => kf (fun q => h (((lg_cmp_ge _ _).trans (lI_le h3 h4 h1 h2)).mpr q)))
theorem ai_ic_ge {a b : Int} {off : Int} {tgt : Nat} (hd : decode cc pc = .ok (.if_icmp .ge off, 3)) (ht : (pc : Int) + off = (tgt : Int)) (h1 : -2147483648 ≤ a) (h2 : a < 2147483648) (h3 : -2147483648 ≤ b) (h4 : b < 2147483648) (kt : b ≤ a → AW K own cc M d mc ms Q n z σ cells slots tgt ls st) (kf : ¬ (b ≤ a) → AW K own cc M d mc ms Q n z σ cells slots (pc + 3) ls st) : AW K own cc M d mc ms Q n z σ cells slots pc ls (.int (iI b) :: .int (iI a) :: st) := by
  exact aw_ic_ge hd ht (fun h => kt ((iI_le h3 h4 h1 h2).mp h)) (fun h => kf (fun q => h ((iI_le h3 h4 h1 h2).mpr q)))
theorem ai_if_ge {a : Int} {off : Int} {tgt : Nat} (hd : decode cc pc = .ok (.ifCond .ge off, 3)) (ht : (pc : Int) + off = (tgt : Int)) (h1 : -2147483648 ≤ a) (h2 : a < 2147483648) (kt : 0 ≤ a → AW K own cc M d mc ms Q n z σ cells slots tgt ls st) (kf : ¬ (0 ≤ a) → AW K own cc M d mc ms Q n z σ cells slots (pc + 3) ls st) : AW K own cc M d mc ms Q n z σ cells slots pc ls (.int (iI a) :: st) := by
  exact aw_if_ge hd ht (fun h => kt ((iI_le (by decide : (-2147483648 : Int) ≤ 0) (by decide : (0 : Int) < 2147483648) h1 h2).mp h)) (fun h => kf (fun q => h ((iI_le (by decide : (-2147483648 : Int) ≤ 0) (by decide : (0 : Int) < 2147483648) h1 h2).mpr q)))
theorem ai_lif_gt {a b : Int} {off : Int} {tgt : Nat} (hd0 : decode cc pc = .ok (.lcmp, 1)) (hd : decode cc (pc + 1) = .ok (.ifCond .gt off, 3)) (ht : ((pc + 1 : Nat) : Int) + off = (tgt : Int)) (h1 : -9223372036854775808 ≤ a) (h2 : a < 9223372036854775808) (h3 : -9223372036854775808 ≤ b) (h4 : b < 9223372036854775808) (kt : b < a → AW K own cc M d mc ms Q n z σ cells slots tgt ls st) (kf : ¬ (b < a) → AW K own cc M d mc ms Q n z σ cells slots (pc + 1 + 3) ls st) : AW K own cc M d mc ms Q n z σ cells slots pc ls (.long (lI b) :: .long (lI a) :: st) := by
  refine aw_lcmp hd0 ?_
  exact aw_if_gt hd ht (fun h => kt (((lg_cmp_gt _ _).trans (lI_lt h3 h4 h1 h2)).mp h)) (fun h => kf (fun q => h (((lg_cmp_gt _ _).trans (lI_lt h3 h4 h1 h2)).mpr q)))
theorem ai_ic_gt {a b : Int} {off : Int} {tgt : Nat} (hd : decode cc pc = .ok (.if_icmp .gt off, 3)) (ht : (pc : Int) + off = (tgt : Int)) (h1 : -2147483648 ≤ a) (h2 : a < 2147483648) (h3 : -2147483648 ≤ b) (h4 : b < 2147483648) (kt : b < a → AW K own cc M d mc ms Q n z σ cells slots tgt ls st) (kf : ¬ (b < a) → AW K own cc M d mc ms Q n z σ cells slots (pc + 3) ls st) : AW K own cc M d mc ms Q n z σ cells slots pc ls (.int (iI b) :: .int (iI a) :: st) := by
  exact aw_ic_gt hd ht (fun h => kt ((iI_lt h3 h4 h1 h2).mp h)) (fun h => kf (fun q => h ((iI_lt h3 h4 h1 h2).mpr q)))
theorem ai_if_gt {a : Int} {off : Int} {tgt : Nat} (hd : decode cc pc = .ok (.ifCond .gt off, 3)) (ht : (pc : Int) + off = (tgt : Int)) (h1 : -2147483648 ≤ a) (h2 : a < 2147483648) (kt : 0 < a → AW K own cc M d mc ms Q n z σ cells slots tgt ls st) (kf : ¬ (0 < a) → AW K own cc M d mc ms Q n z σ cells slots (pc + 3) ls st) : AW K own cc M d mc ms Q n z σ cells slots pc ls (.int (iI a) :: st) := by
  exact aw_if_gt hd ht (fun h => kt ((iI_lt (by decide : (-2147483648 : Int) ≤ 0) (by decide : (0 : Int) < 2147483648) h1 h2).mp h)) (fun h => kf (fun q => h ((iI_lt (by decide : (-2147483648 : Int) ≤ 0) (by decide : (0 : Int) < 2147483648) h1 h2).mpr q)))
theorem ai_lif_le {a b : Int} {off : Int} {tgt : Nat} (hd0 : decode cc pc = .ok (.lcmp, 1)) (hd : decode cc (pc + 1) = .ok (.ifCond .le off, 3)) (ht : ((pc + 1 : Nat) : Int) + off = (tgt : Int)) (h1 : -9223372036854775808 ≤ a) (h2 : a < 9223372036854775808) (h3 : -9223372036854775808 ≤ b) (h4 : b < 9223372036854775808) (kt : a ≤ b → AW K own cc M d mc ms Q n z σ cells slots tgt ls st) (kf : ¬ (a ≤ b) → AW K own cc M d mc ms Q n z σ cells slots (pc + 1 + 3) ls st) : AW K own cc M d mc ms Q n z σ cells slots pc ls (.long (lI b) :: .long (lI a) :: st) := by
  refine aw_lcmp hd0 ?_
  exact aw_if_le hd ht (fun h => kt (((lg_cmp_le _ _).trans (lI_le h1 h2 h3 h4)).mp h)) (fun h => kf (fun q => h (((lg_cmp_le _ _).trans (lI_le h1 h2 h3 h4)).mpr q)))
theorem ai_ic_le {a b : Int} {off : Int} {tgt : Nat} (hd : decode cc pc = .ok (.if_icmp .le off, 3)) (ht : (pc : Int) + off = (tgt : Int)) (h1 : -2147483648 ≤ a) (h2 : a < 2147483648) (h3 : -2147483648 ≤ b) (h4 : b < 2147483648) (kt : a ≤ b → AW K own cc M d mc ms Q n z σ cells slots tgt ls st) (kf : ¬ (a ≤ b) → AW K own cc M d mc ms Q n z σ cells slots (pc + 3) ls st) : AW K own cc M d mc ms Q n z σ cells slots pc ls (.int (iI b) :: .int (iI a) :: st) := by
  exact aw_ic_le hd ht (fun h => kt ((iI_le h1 h2 h3 h4).mp h)) (fun h => kf (fun q => h ((iI_le h1 h2 h3 h4).mpr q)))
theorem ai_if_le {a : Int} {off : Int} {tgt : Nat} (hd : decode cc pc = .ok (.ifCond .le off, 3)) (ht : (pc : Int) + off = (tgt : Int)) (h1 : -2147483648 ≤ a) (h2 : a < 2147483648) (kt : a ≤ 0 → AW K own cc M d mc ms Q n z σ cells slots tgt ls st) (kf : ¬ (a ≤ 0) → AW K own cc M d mc ms Q n z σ cells slots (pc + 3) ls st) : AW K own cc M d mc ms Q n z σ cells slots pc ls (.int (iI a) :: st) := by
  exact aw_if_le hd ht (fun h => kt ((iI_le h1 h2 (by decide : (-2147483648 : Int) ≤ 0) (by decide : (0 : Int) < 2147483648)).mp h)) (fun h => kf (fun q => h ((iI_le h1 h2 (by decide : (-2147483648 : Int) ≤ 0) (by decide : (0 : Int) < 2147483648)).mpr q)))
theorem aw_iand7 {a : Int32} {v : Int32} (hd : decode cc pc = .ok (.iand, 1)) {w : Int32} (hv : a &&& w = v) (k : AW K own cc M d mc ms Q n z σ cells slots (pc + 1) ls (.int v :: st)) : AW K own cc M d mc ms Q n z σ cells slots pc ls (.int w :: .int a :: st) := by
  subst hv
  exact aw_iand hd k
theorem aw_ishr {x y : Int32} (hd : decode cc pc = .ok (.ishr, 1)) (k : AW K own cc M d mc ms Q n z σ cells slots (pc + 1) ls (.int (x >>> (y &&& 31)) :: st)) : AW K own cc M d mc ms Q n z σ cells slots pc ls (.int y :: .int x :: st) := by
  obtain ⟨p, l, e, s, m, args, below, meth, c, D, cs, a0, A0⟩ := K
  intro C H locs la hP hA hS hl
  exact lv_ishr C.1 C.2.1 hd (k C H locs la hP hA hS hl)
end AWR2
theorem Ct.mono {y : MethodName} {cc : ByteArray} {M : MT} {d mc ms n n' : Nat} {z : Bool} {σ : Sg} {av : List Value} {P P' : PT} {X X' : XT} (h : Ct y cc M d mc ms n z σ av n' P X) (hP : ∀ ρ r, P ρ r → P' ρ r) (hX : ∀ ρ E, X ρ E → X' ρ E) : Ct y cc M d mc ms n z σ av n' P' X' := by
  intro l hfl D cs a0 sz p e ha hc hk s m args below h1 h2 h3 h4
  obtain ⟨k, o, w1, w2, w3, w4⟩ := h l hfl D cs a0 sz p e ha hc hk s m args below h1 h2 h3 h4
  refine ⟨k, o, w1, w2, w3, ?_⟩
  rcases w4 with ⟨⟨⟨r, ρ, q1, q2, q3⟩, q4⟩, q5⟩ | ⟨q, q1, E, ce, L, ⟨⟨ρ, q2, q3⟩, q4⟩, q5⟩
  · exact Or.inl ⟨⟨⟨r, ρ, q1, hP _ _ q2, q3⟩, q4⟩, q5⟩
  · exact Or.inr ⟨q, q1, E, ce, L, ⟨⟨ρ, hX _ _ q2, q3⟩, q4⟩, q5⟩
theorem CtH.mono {y : MethodName} {cc : ByteArray} {M : MT} {d mc ms n n' : Nat} {z : Bool} {σ : Sg} {av : List Value} {P P' : PT} {X X' : XT} (h : CtH y cc M d mc ms n z σ av n' P X) (hP : ∀ ρ r, P ρ r → P' ρ r) (hX : ∀ ρ E, X ρ E → X' ρ E) : CtH y cc M d mc ms n z σ av n' P' X' := by
  intro l hfl D cs a0 sz p e ha hc hk s m args below h1 h2 h3 h4
  obtain ⟨k, o, w1, w2, w3, w4⟩ := h l hfl D cs a0 sz p e ha hc hk s m args below h1 h2 h3 h4
  refine ⟨k, o, w1, w2, w3, ?_⟩
  rcases w4 with ⟨⟨⟨r, ρ, q1, q2, q3⟩, q4⟩, q5⟩ | ⟨q, q1, E, ce, L, ⟨⟨ρ, q2, q3⟩, q4⟩, q5⟩
  · exact Or.inl ⟨⟨⟨r, ρ, q1, hP _ _ q2, q3⟩, q4⟩, q5⟩
  · exact Or.inr ⟨q, q1, E, ce, L, ⟨⟨ρ, hX _ _ q2, q3⟩, q4⟩, q5⟩
/-- two objects' worlds, one behind the other -/
def cmb (σ τ : Sg) : Sg := (fun i j => if i < 388 then σ.1 i j else τ.1 (i - 388) j, fun i j => if i < 388 then σ.2.1 i j else (τ.2.1 (i - 388) j).map (fun x => 388 + x), fun i j => if i < 388 then σ.2.2 i j else τ.2.2 (i - 388) j)
theorem cmb_lo {a0 : Nat} {cs : Nat → ClassId} {σ τ : Sg} {i : Nat} (hi : i < 388) : cE a0 cs (cmb σ τ) i = cE a0 cs σ i :=
  cE_congr (funext fun j => if_pos hi) (funext fun j => if_pos hi) (funext fun j => if_pos hi)
theorem cT_hi {i : Nat} (hi : i < 388) : cT (388 + i) = cT i := by
  rw [cT, cT, if_neg (by omega), if_pos hi, Nat.add_sub_cancel_left]
theorem cmb_hi {a0 : Nat} {cs : Nat → ClassId} {σ τ : Sg} {i : Nat} (hi : i < 388) : cE a0 cs (cmb σ τ) (388 + i) = cE (a0 + 388) cs τ i := by
  have e1 : (cmb σ τ).1 (388 + i) = τ.1 i := funext fun j => by
    show (if 388 + i < 388 then _ else τ.1 (388 + i - 388) j) = _
    rw [if_neg (by omega), Nat.add_sub_cancel_left]
  have e2 : (cmb σ τ).2.1 (388 + i) = fun j => (τ.2.1 i j).map (fun x => 388 + x) := funext fun j => by
    show (if 388 + i < 388 then _ else (τ.2.1 (388 + i - 388) j).map _) = _
    rw [if_neg (by omega), Nat.add_sub_cancel_left]
  have e3 : (cmb σ τ).2.2 (388 + i) = τ.2.2 i := funext fun j => by
    show (if 388 + i < 388 then _ else τ.2.2 (388 + i - 388) j) = _
    rw [if_neg (by omega), Nat.add_sub_cancel_left]
  have e4 : ∀ o : Option Nat, (o.map (fun x => 388 + x)).map (fun x => a0 + x) = o.map (fun x => a0 + 388 + x) := fun o => by
    cases o with
    | none => rfl
    | some x => exact congrArg some (by show a0 + (388 + x) = a0 + 388 + x; omega)
  have f1 : ∀ ci, fV a0 (cmb σ τ) ci (388 + i) = fV (a0 + 388) τ ci i := fun ci => funext fun k => by
    simp only [fV, e1, e2, e4]
  have f2 : ∀ kd, aC a0 (cmb σ τ) (388 + i) kd = aC (a0 + 388) τ i kd := fun kd => by
    simp only [aC, e1, e2, e3, e4]
  unfold cE
  rw [cT_hi hi]
  split
  · rw [f1]
  · rw [f2]
theorem wl_of {a0 n : Nat} {cs : Nat → ClassId} {σ : Sg} {k : Nat} {q : Nat × va_E} (h : (wl a0 cs σ n)[k]? = some q) : k < n ∧ q = (a0 + k, cE a0 cs σ k) := by
  have hl : k < n := by
    have := (List.getElem?_eq_some_iff.mp h).1
    rwa [wl_len] at this
  rw [wl_get hl] at h
  cases h
  exact ⟨hl, rfl⟩
section CMB
variable {D : va_G} {cs : Nat → ClassId} {a0 n m : Nat} {σ τ ρ : Sg} {H H1 : Heap}
theorem Wd.kept (h : Wd D cs a0 n σ H) (hq : ∀ q, a0 ≤ q → q < a0 + n → H1[q]? = H[q]?) (hs : H.size ≤ H1.size) : Wd D cs a0 n σ H1 :=
  ⟨h.1.kept (fun k x hk => by
    obtain ⟨h1, rfl⟩ := wl_of hk
    exact hq _ (by show a0 ≤ a0 + k; omega) (by show a0 + k < a0 + n; omega)), Nat.le_trans h.2 hs⟩
theorem Wd.lo (h : Wd D cs a0 (388 + m) (cmb σ τ) H) : Wd D cs a0 388 σ H := by
  refine ⟨fun k q hk => ?_, by have := h.2; omega⟩
  obtain ⟨h1, rfl⟩ := wl_of hk
  have := h.1 k _ (wl_get (by omega))
  rw [cmb_lo h1] at this
  exact this
theorem Wd.hi (hm : m ≤ 388) (h : Wd D cs a0 (388 + m) (cmb σ τ) H) : Wd D cs (a0 + 388) m τ H := by
  refine ⟨fun k q hk => ?_, by have := h.2; omega⟩
  obtain ⟨h1, rfl⟩ := wl_of hk
  have := h.1 (388 + k) _ (wl_get (by omega))
  rw [cmb_hi (by omega)] at this
  rw [show a0 + 388 + k = a0 + (388 + k) by omega]
  exact this
theorem Wd.cmb (hm : m ≤ 388) (h1 : Wd D cs a0 388 σ H) (h2 : Wd D cs (a0 + 388) m τ H) : Wd D cs a0 (388 + m) (cmb σ τ) H := by
  refine ⟨fun k q hk => ?_, by have := h2.2; omega⟩
  obtain ⟨hk1, rfl⟩ := wl_of hk
  rcases Nat.lt_or_ge k 388 with h | h
  · have := h1.1 k _ (wl_get h)
    rw [cmb_lo h]
    exact this
  · obtain ⟨i, rfl⟩ : ∃ i, k = 388 + i := ⟨k - 388, by omega⟩
    have := h2.1 i _ (wl_get (by omega))
    rw [cmb_hi (by omega), show a0 + (388 + i) = a0 + 388 + i by omega]
    exact this
theorem Wd.cong (h : Wd D cs a0 n σ H) (he : ∀ i, i < n → σ.1 i = ρ.1 i ∧ σ.2.1 i = ρ.2.1 i ∧ σ.2.2 i = ρ.2.2 i) : Wd D cs a0 n ρ H := by
  refine ⟨fun k q hk => ?_, h.2⟩
  obtain ⟨h1, rfl⟩ := wl_of hk
  have := h.1 k _ (wl_get h1)
  rw [cE_congr (he k h1).1 (he k h1).2.1 (he k h1).2.2] at this
  exact this
end CMB
theorem AW.cong {K : KT} {own : String} {cc : ByteArray} {M : MT} {d mc ms : Nat} {Q : State → Prop} {n : Nat} {z : Option Nat} {σ ρ : Sg} {cells slots pc : Nat} {ls : List (Option Value)} {st : List Value} (he : ∀ i, i < n → σ.1 i = ρ.1 i ∧ σ.2.1 i = ρ.2.1 i ∧ σ.2.2 i = ρ.2.2 i) (k : AW K own cc M d mc ms Q n z ρ cells slots pc ls st) : AW K own cc M d mc ms Q n z σ cells slots pc ls st := by
  obtain ⟨p, l, e, s, m, args, below, meth, c, D, cs, a0, A0⟩ := K
  intro C H locs la hP hA hS hl
  exact k C H locs la (hP.cong he) hA hS hl
theorem Ct.lo {y : MethodName} {cc : ByteArray} {M : MT} {d mc ms : Nat} {σ : Sg} {av : List Value} {P : PT} {X : XT} (h : Ct y cc M d mc ms 388 false σ av 388 P X) (τ : Sg) : Ct y cc M d mc ms 776 false (cmb σ τ) av 776 (fun ρ r => ∃ σ', cmb σ' τ = ρ ∧ P σ' r) (fun ρ E => ∃ σ', cmb σ' τ = ρ ∧ X σ' E) := by
  intro l hfl D cs a0 sz p e ha hc hk s m args below h1 h2 h3 h4
  obtain ⟨g1, g2, gW, -, gK, gE, gZ⟩ := h3
  have hs : ∀ q, Wa a0 388 sz q → Wa a0 776 sz q := fun q hq => hq.imp (fun z => ⟨z.1, by omega⟩) id
  have hss : ∀ q, Wa a0 388 s.heap.size q → Wa a0 776 s.heap.size q := fun q hq => hq.imp (fun z => ⟨z.1, by omega⟩) id
  have gW' : Wd D cs a0 (388 + 388) (cmb σ τ) s.heap := gW
  have hsz := gW'.2
  obtain ⟨k, o, w1, w2, w3, w4⟩ := h l hfl D cs a0 sz p e ha hc hk s m args below h1 h2 ⟨g1, g2, gW'.lo, (fun q => nomatch q), gK, gE, ⟨vx_Zq.narrow gZ.1 hss, vx_Zq.narrow gZ.2 hss⟩⟩ h4
  have key : ∀ (σ' : Sg) (t : State), va_F (Wa a0 388 sz) s t → Wd D cs a0 388 σ' t.heap → Wd D cs a0 776 (cmb σ' τ) t.heap := fun σ' t hF hW => by
    refine Wd.cmb (m := 388) (Nat.le_refl _) hW ((gW'.hi (Nat.le_refl _)).kept (fun q q1 q2 => hF.2 q (by omega) (fun z => ?_)) hF.1)
    rcases z with z | z <;> omega
  have kF : ∀ t : State, va_F (Wa a0 388 sz) s t → va_F (Wa a0 776 sz) s t := fun t hF => ⟨hF.1, fun q q1 q2 => hF.2 q q1 (fun z => q2 (hs q z))⟩
  refine ⟨k, o, w1, w2, w3, ?_⟩
  rcases w4 with ⟨⟨⟨r, ρ, q1, q2, q3⟩, q4⟩, L, q5, q6⟩ | ⟨q, q1, E, ce, L, ⟨⟨ρ, q2, q7, q3⟩, q4⟩, q5, q8, q9, q10, q11, q12⟩
  · exact Or.inl ⟨⟨⟨r, cmb ρ τ, q1, ⟨ρ, rfl, q2⟩, key _ _ q4 q3⟩, kF _ q4⟩, L, q5, fun z hz => hs _ (q6 z hz)⟩
  · exact Or.inr ⟨q, q1, E, ce, L, ⟨⟨cmb ρ τ, ⟨ρ, rfl, q2⟩, q7, key _ _ q4 q3⟩, kF _ q4⟩, q5, q8, q9, q10, q11, fun z hz => hs _ (q12 z hz)⟩
/-- no reference is answered -/
theorem Ct.hi {y : MethodName} {cc : ByteArray} {M : MT} {d mc ms m m' : Nat} {z : Bool} {τ : Sg} {av av2 : List Value} {P : PT} {X : XT} (hm : m ≤ 388) (hm' : m ≤ m' ∧ m' ≤ 388) (h : Ct y cc M d mc ms m z τ av m' P X) (hav : ∀ a0, av2.map (cv a0) = av.map (cv (a0 + 388))) (hr : ∀ ρ r, P ρ r → ∀ a0, r.map (cv (a0 + 388)) = r.map (cv a0)) (σ : Sg) : Ct y cc M d mc ms (388 + m) z (cmb σ τ) av2 (388 + m') (fun ρ r => ∃ τ', cmb σ τ' = ρ ∧ P τ' r) (fun ρ E => ∃ τ', cmb σ τ' = ρ ∧ X τ' E) := by
  intro l hfl D cs a0 sz p e ha hc hk s m0 args below h1 h2 h3 h4
  obtain ⟨g1, g2, gW, gz, gK, gE, gZ⟩ := h3
  have hsz := gW.2
  have hs : ∀ q, Wa (a0 + 388) m sz q → Wa a0 (388 + m) sz q := fun q hq => hq.imp (fun z => ⟨by omega, by omega⟩) id
  have hss : ∀ q, Wa (a0 + 388) m s.heap.size q → Wa a0 (388 + m) s.heap.size q := fun q hq => hq.imp (fun z => ⟨by omega, by omega⟩) id
  obtain ⟨k, o, w1, w2, w3, w4⟩ := h l hfl D cs (a0 + 388) sz p e ha hc hk s m0 args below h1 h2 ⟨by rw [g1, hav], g2, gW.hi hm, (fun q => by rw [gz q]; omega), gK, gE, ⟨vx_Zq.narrow gZ.1 hss, vx_Zq.narrow gZ.2 hss⟩⟩ h4
  have key : ∀ (τ' : Sg) (t : State), va_F (Wa (a0 + 388) m sz) s t → Wd D cs (a0 + 388) m' τ' t.heap → Wd D cs a0 (388 + m') (cmb σ τ') t.heap := fun τ' t hF hW => by
    refine Wd.cmb hm'.2 (gW.lo.kept (fun q q1 q2 => hF.2 q (by omega) (fun z => ?_)) hF.1) hW
    rcases z with z | z <;> omega
  have kF : ∀ t : State, va_F (Wa (a0 + 388) m sz) s t → va_F (Wa a0 (388 + m) sz) s t := fun t hF => ⟨hF.1, fun q q1 q2 => hF.2 q q1 (fun z => q2 (hs q z))⟩
  refine ⟨k, o, w1, w2, w3, ?_⟩
  rcases w4 with ⟨⟨⟨r, ρ, q1, q2, q3⟩, q4⟩, L, q5, q6⟩ | ⟨q, q1, E, ce, L, ⟨⟨ρ, q2, q7, q3⟩, q4⟩, q5, q8, q9, q10, q11, q12⟩
  · exact Or.inl ⟨⟨⟨r, cmb σ ρ, by rw [q1, hr _ _ q2], ⟨ρ, rfl, q2⟩, key _ _ q4 q3⟩, kF _ q4⟩, L, q5, fun z hz => hs _ (q6 z hz)⟩
  · exact Or.inr ⟨q, q1, E, ce, L, ⟨⟨cmb σ ρ, ⟨ρ, rfl, q2⟩, q7, key _ _ q4 q3⟩, kF _ q4⟩, q5, q8, q9, q10, q11, fun z hz => hs _ (q12 z hz)⟩
theorem CtH.lo {y : MethodName} {cc : ByteArray} {M : MT} {d mc ms : Nat} {σ : Sg} {av : List Value} {P : PT} {X : XT} (h : CtH y cc M d mc ms 388 false σ av 388 P X) (τ : Sg) : CtH y cc M d mc ms 776 false (cmb σ τ) av 776 (fun ρ r => ∃ σ', cmb σ' τ = ρ ∧ P σ' r) (fun ρ E => ∃ σ', cmb σ' τ = ρ ∧ X σ' E) := by
  intro l hfl D cs a0 sz p e ha hc hk s m args below h1 h2 h3 h4
  obtain ⟨g1, g2, gW, -, gK, gE, gZ⟩ := h3
  have hs : ∀ q, Wa a0 388 sz q → Wa a0 776 sz q := fun q hq => hq.imp (fun z => ⟨z.1, by omega⟩) id
  have hss : ∀ q, Wa a0 388 s.heap.size q → Wa a0 776 s.heap.size q := fun q hq => hq.imp (fun z => ⟨z.1, by omega⟩) id
  have gW' : Wd D cs a0 (388 + 388) (cmb σ τ) s.heap := gW
  have hsz := gW'.2
  obtain ⟨k, o, w1, w2, w3, w4⟩ := h l hfl D cs a0 sz p e ha hc hk s m args below h1 h2 ⟨g1, g2, gW'.lo, (fun q => nomatch q), gK, gE, ⟨vx_Zq.narrow gZ.1 hss, vx_Zq.narrow gZ.2 hss⟩⟩ h4
  have key : ∀ (σ' : Sg) (t : State), va_F (Wa a0 388 sz) s t → Wd D cs a0 388 σ' t.heap → Wd D cs a0 776 (cmb σ' τ) t.heap := fun σ' t hF hW => by
    refine Wd.cmb (m := 388) (Nat.le_refl _) hW ((gW'.hi (Nat.le_refl _)).kept (fun q q1 q2 => hF.2 q (by omega) (fun z => ?_)) hF.1)
    rcases z with z | z <;> omega
  have kF : ∀ t : State, va_F (Wa a0 388 sz) s t → va_F (Wa a0 776 sz) s t := fun t hF => ⟨hF.1, fun q q1 q2 => hF.2 q q1 (fun z => q2 (hs q z))⟩
  refine ⟨k, o, w1, w2, w3, ?_⟩
  rcases w4 with ⟨⟨⟨r, ρ, q1, q2, q3⟩, q4⟩, L, q5, q6⟩ | ⟨q, q1, E, ce, L, ⟨⟨ρ, q2, q7, q3⟩, q4⟩, q5, q8, q9, q10, q11, q12⟩
  · exact Or.inl ⟨⟨⟨r, cmb ρ τ, q1, ⟨ρ, rfl, q2⟩, key _ _ q4 q3⟩, kF _ q4⟩, L, q5, fun z hz => hs _ (q6 z hz)⟩
  · exact Or.inr ⟨q, q1, E, ce, L, ⟨⟨cmb ρ τ, ⟨ρ, rfl, q2⟩, q7, key _ _ q4 q3⟩, kF _ q4⟩, q5, q8, q9, q10, q11, fun z hz => hs _ (q12 z hz)⟩
/-- no reference is answered -/
theorem CtH.hi {y : MethodName} {cc : ByteArray} {M : MT} {d mc ms m m' : Nat} {z : Bool} {τ : Sg} {av av2 : List Value} {P : PT} {X : XT} (hm : m ≤ 388) (hm' : m ≤ m' ∧ m' ≤ 388) (h : CtH y cc M d mc ms m z τ av m' P X) (hav : ∀ a0, av2.map (cv a0) = av.map (cv (a0 + 388))) (hr : ∀ ρ r, P ρ r → ∀ a0, r.map (cv (a0 + 388)) = r.map (cv a0)) (σ : Sg) : CtH y cc M d mc ms (388 + m) z (cmb σ τ) av2 (388 + m') (fun ρ r => ∃ τ', cmb σ τ' = ρ ∧ P τ' r) (fun ρ E => ∃ τ', cmb σ τ' = ρ ∧ X τ' E) := by
  intro l hfl D cs a0 sz p e ha hc hk s m0 args below h1 h2 h3 h4
  obtain ⟨g1, g2, gW, gz, gK, gE, gZ⟩ := h3
  have hsz := gW.2
  have hs : ∀ q, Wa (a0 + 388) m sz q → Wa a0 (388 + m) sz q := fun q hq => hq.imp (fun z => ⟨by omega, by omega⟩) id
  have hss : ∀ q, Wa (a0 + 388) m s.heap.size q → Wa a0 (388 + m) s.heap.size q := fun q hq => hq.imp (fun z => ⟨by omega, by omega⟩) id
  obtain ⟨k, o, w1, w2, w3, w4⟩ := h l hfl D cs (a0 + 388) sz p e ha hc hk s m0 args below h1 h2 ⟨by rw [g1, hav], g2, gW.hi hm, (fun q => by rw [gz q]; omega), gK, gE, ⟨vx_Zq.narrow gZ.1 hss, vx_Zq.narrow gZ.2 hss⟩⟩ h4
  have key : ∀ (τ' : Sg) (t : State), va_F (Wa (a0 + 388) m sz) s t → Wd D cs (a0 + 388) m' τ' t.heap → Wd D cs a0 (388 + m') (cmb σ τ') t.heap := fun τ' t hF hW => by
    refine Wd.cmb hm'.2 (gW.lo.kept (fun q q1 q2 => hF.2 q (by omega) (fun z => ?_)) hF.1) hW
    rcases z with z | z <;> omega
  have kF : ∀ t : State, va_F (Wa (a0 + 388) m sz) s t → va_F (Wa a0 (388 + m) sz) s t := fun t hF => ⟨hF.1, fun q q1 q2 => hF.2 q q1 (fun z => q2 (hs q z))⟩
  refine ⟨k, o, w1, w2, w3, ?_⟩
  rcases w4 with ⟨⟨⟨r, ρ, q1, q2, q3⟩, q4⟩, L, q5, q6⟩ | ⟨q, q1, E, ce, L, ⟨⟨ρ, q2, q7, q3⟩, q4⟩, q5, q8, q9, q10, q11, q12⟩
  · exact Or.inl ⟨⟨⟨r, cmb σ ρ, by rw [q1, hr _ _ q2], ⟨ρ, rfl, q2⟩, key _ _ q4 q3⟩, kF _ q4⟩, L, q5, fun z hz => hs _ (q6 z hz)⟩
  · exact Or.inr ⟨q, q1, E, ce, L, ⟨⟨cmb σ ρ, ⟨ρ, rfl, q2⟩, q7, key _ _ q4 q3⟩, kF _ q4⟩, q5, q8, q9, q10, q11, fun z hz => hs _ (q12 z hz)⟩
