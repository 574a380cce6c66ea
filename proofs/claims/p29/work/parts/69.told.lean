/-! what is told of hours to come -/
theorem fCur_eq {g e : Rw} {r : Nat} (h : ∀ j, kept0 j → e j = g j) : ∀ k, fCur e r k = fCur g r k
  | 0 => rfl
  | k + 1 => by
    have e0 := h 0 (Or.inl (by decide))
    have e1 := h (31 + 10 * k + 0) (by unfold kept0; omega)
    have e2 := h (31 + 10 * k + 2) (by unfold kept0; omega)
    have e3 := h (31 + 10 * k + 3) (by unfold kept0; omega)
    have hd : curD e r k = curD g r k := Bool.eq_iff_iff.mpr (by rw [curD_iff, curD_iff, curP, curP, fEnd, fEnd, e0, e1, e2, e3])
    unfold fCur
    rw [fCur_eq h k, hd]
theorem fNxt_eq {g e : Rw} {r : Nat} (h : ∀ j, kept0 j → e j = g j) : ∀ k, fNxt e r k = fNxt g r k
  | 0 => rfl
  | k + 1 => by
    have e0 := h 0 (Or.inl (by decide))
    have e1 := h (31 + 10 * k + 0) (by unfold kept0; omega)
    have e2 : ∀ b, e (31 + 10 * b + 2) = g (31 + 10 * b + 2) := fun b => h _ (by unfold kept0; omega)
    have hd : ∀ o, nxtD e r k o = nxtD g r k o := fun o => Bool.eq_iff_iff.mpr (by rw [nxtD_iff, nxtD_iff, nxtP, nxtP, e0, e1]; simp only [e2])
    unfold fNxt
    rw [fNxt_eq h k, hd]
theorem fCool_eq {g e : Rw} {r : Nat} (h : ∀ j, kept0 j → e j = g j) (hr : r < 4) (hT : e (9 + 4 * r + 3) = g (9 + 4 * r + 3)) : fCool e r = fCool g r := by
  rw [fCool, fCool, hT, h (9 + 4 * r + 1) (by unfold kept0; omega), h 4 (by unfold kept0; omega)]
theorem fHeater_eq {g e : Rw} {r nb : Nat} (h : ∀ j, kept0 j → e j = g j) (hr : r < 4) (hT : e (9 + 4 * r + 3) = g (9 + 4 * r + 3)) (hB : ∀ b, b < nb → g (31 + 10 * b + 0) = nI r → e (31 + 10 * b + 9) = g (31 + 10 * b + 9)) : fHeater e r nb = fHeater g r nb := by
  unfold fHeater
  rw [fCur_eq h, fNxt_eq h]
  match fCur g r nb with
  | some b => rfl
  | none =>
    match hq : fNxt g r nb with
    | none => rfl
    | some b =>
      have e9 := hB b (fNxt_lt hq) (fNxt_spec hq).1
      show (if fPreD e r b = true then some b else none) = (if fPreD g r b = true then some b else none)
      have : fPreD e r b = fPreD g r b := Bool.eq_iff_iff.mpr (by
        rw [fPreD_iff, fPreD_iff, fPre, fPre, e9, fCool_eq h hr hT, h (9 + 4 * r + 2) (by unfold kept0; omega), h (31 + 10 * b + 2) (by unfold kept0; omega), h 0 (by unfold kept0; omega), h (31 + 10 * b + 4) (by unfold kept0; omega)])
      rw [this]
theorem rs_where {g : Rw} {nr ng nb t k j : Nat} (hw : WF g nr ng nb t) (hk : k < nr) (h5 : j ≠ 5) (h8 : j ≠ 8) (hT : j ≠ 9 + 4 * k + 3) (hlo : j < 25 ∧ j ≠ 6 ∧ j ≠ 7 ∨ ∃ b, b < nb ∧ ¬ g (31 + 10 * b + 0) = nI k ∧ j = 31 + 10 * b + 9) : rs g k nb j = g j := by
  have h4 := hw.nr4
  have h12 := hw.nb12
  have h6 := hw.ng6
  match hf : fHeater g k nb with
  | none => rw [(rs_none hf (by omega)).1, upd_n hT]
  | some b =>
    have hb := fHeater_lt hf
    obtain ⟨w, hw6, hgw⟩ := hw.who b hb
    rw [(rs_8 (by omega) (by omega) hw6 hgw hf j).1, if_neg h5, if_neg h8]
    rcases hlo with ⟨h, h1, h2⟩ | ⟨c, hc, hcn, rfl⟩
    · exact rmF_n hT (by omega) h2 h1 (by omega)
    · have hcb : c ≠ b := fun z => hcn (by rw [z]; exact fHeater_room hf)
      exact rmF_n hT (by omega) (by omega) (by omega) (by omega)
/-- rooms ahead of it don't touch a room -/
theorem fRooms_room {g : Rw} {nr ng nb t r : Nat} (hw : WF g nr ng nb t) (hr : r < nr) : ∀ k, k ≤ r → WF (fRooms g nb k).1 nr ng nb t ∧ (∀ j, kept0 j → (fRooms g nb k).1 j = g j) ∧ (fRooms g nb k).1 (9 + 4 * r + 3) = g (9 + 4 * r + 3) ∧ ∀ b, b < nb → g (31 + 10 * b + 0) = nI r → (fRooms g nb k).1 (31 + 10 * b + 9) = g (31 + 10 * b + 9)
  | 0, _ => ⟨hw, fun _ _ => rfl, rfl, fun _ _ _ => rfl⟩
  | k + 1, hk => by
    obtain ⟨h1, h2, h3, h4⟩ := fRooms_room hw hr k (by omega)
    have h44 := hw.nr4
    rw [fRooms_rs]
    refine ⟨rs_WF h1 (by omega), fun j hj => (rs_off h1.who (by omega) hj).trans (h2 j hj), ?_, fun b hb he => ?_⟩
    · exact (rs_where h1 (by omega) (by omega) (by omega) (by omega) (Or.inl (by omega))).trans h3
    · refine (rs_where h1 (k := k) (by omega) (by omega) (by omega) (by omega) (Or.inr ⟨b, hb, ?_, rfl⟩)).trans (h4 b hb he)
      rw [h2 _ (by unfold kept0; omega), he, nI_eq (by omega) (by omega)]
      omega
theorem fEnds_lo {g : Rw} {nb : Nat} (hw : WHO g nb) : ∀ (k : Nat), k ≤ nb → ∀ (j : Nat), j < 25 → fEnds g nb k j = g j
  | 0, _, _, _ => rfl
  | k + 1, hk, j, hj => by
    have ih := fEnds_lo hw k (by omega)
    have hw2 : WHO (upd (fEnds g nb k) (31 + 10 * k + 7) 0) nb := fun b hb => by
      obtain ⟨w, h1, h2⟩ := hw b hb
      exact ⟨w, h1, by rw [upd_n (by omega), fEnds_off hw k (by omega) _ kept0_who]; exact h2⟩
    rw [fEnds_s]
    split
    · rw [fSettle_off hw2 (by omega) nb (Nat.le_refl _) j (by omega), upd_n (by omega), ih j hj]
    · rw [upd_n (by omega), ih j hj]
theorem hour_T {g : Rw} {nr ng nb t r : Nat} (hw : WF g nr ng nb t) (hr : r < nr) : fHour g nr nb (9 + 4 * r + 3) = rs (fRooms g nb r).1 r nb (9 + 4 * r + 3) := by
  have h4 := hw.nr4
  have key : ∀ m, r + 1 + m ≤ nr → (fRooms g nb (r + 1 + m)).1 (9 + 4 * r + 3) = rs (fRooms g nb r).1 r nb (9 + 4 * r + 3) ∧ WF (fRooms g nb (r + 1 + m)).1 nr ng nb t := by
    intro m
    induction m with
    | zero =>
      intro hk
      obtain ⟨h1, -⟩ := fRooms_room hw hr r (Nat.le_refl _)
      rw [Nat.add_zero, fRooms_rs]
      exact ⟨rfl, rs_WF h1 hr⟩
    | succ m ih =>
      intro hk2
      obtain ⟨i1, i2⟩ := ih (by omega)
      rw [← Nat.add_assoc, fRooms_rs]
      exact ⟨(rs_where i2 (by omega) (by omega) (by omega) (by omega) (Or.inl (by omega))).trans i1, rs_WF i2 (by omega)⟩
  show fEnds (fMid g nr nb) nb nb (9 + 4 * r + 3) = _
  rw [fEnds_lo hw.mid.who nb (Nat.le_refl _) _ (by omega)]
  show upd (upd _ 5 _) 0 _ _ = _
  rw [upd_n (by omega), upd_n (by omega)]
  obtain ⟨m, hm⟩ : ∃ m, nr = r + 1 + m := ⟨nr - (r + 1), by omega⟩
  have := (key m (by omega)).1
  rw [← hm] at this
  exact this
theorem next_T {g : Rw} {nr ng nb t r : Nat} (H : WK g nr ng nb t) (hr : r < nr) : (zz g (9 + 4 * r + 3) ≤ zz (fHours g nr nb 1) (9 + 4 * r + 3) ∨ zz g 4 ≤ zz (fHours g nr nb 1) (9 + 4 * r + 3)) ∧ (fHeater g r nb = none → zz (fHours g nr nb 1) (9 + 4 * r + 3) ≤ zz g (9 + 4 * r + 3) ∨ zz (fHours g nr nb 1) (9 + 4 * r + 3) ≤ zz g 4) := by
  have hw := H.1
  have h4 := hw.nr4
  have h12 := hw.nb12
  obtain ⟨h1, h2, h3, h5⟩ := fRooms_room hw hr r (Nat.le_refl _)
  obtain ⟨r1, r2, r3, r4⟩ := H.2.1.1 r hr
  have hO := H.2.1.2
  have hc := cool_Z (g := g) (r := r) (by omega) (by omega) hO
  have e1 : zz (fHours g nr nb 1) (9 + 4 * r + 3) = (rs (fRooms g nb r).1 r nb (9 + 4 * r + 3)).toInt := by
    show (fHour g nr nb (9 + 4 * r + 3)).toInt = _
    rw [hour_T hw hr]
  have hcool := fCool_eq (g := g) (e := (fRooms g nb r).1) h2 (by omega) h3
  have hheat := fHeater_eq (g := g) (e := (fRooms g nb r).1) (nb := nb) h2 (by omega) h3 h5
  rw [e1]
  match hf : fHeater g r nb with
  | none =>
    rw [hf] at hheat
    rw [(rs_none hheat (by omega)).1, upd_s, hcool]
    exact ⟨by omega, fun _ => by omega⟩
  | some b =>
    rw [hf] at hheat
    have hb := fHeater_lt hf
    obtain ⟨w, hw6, hgw⟩ := h1.who b hb
    refine ⟨?_, fun z => by cases z⟩
    have e9 : zz (fRooms g nb r).1 (9 + 4 * r + 2) = zz g (9 + 4 * r + 2) := zz_e (h2 _ (by unfold kept0; omega))
    have e8 : zz (fRooms g nb r).1 (31 + 10 * b + 4) = zz g (31 + 10 * b + 4) := zz_e (h2 _ (by unfold kept0; omega))
    obtain ⟨b1, -⟩ := H.2.2.1 b hb
    rw [(rs_8 (by omega) (by omega) hw6 hgw hheat _).1, if_neg (by omega), if_neg (by omega), rmF_T, hcool]
    unfold rmU
    rw [hcool]
    obtain ⟨u1, u2, u3⟩ := byOf_Z (m := (fRooms g nb r).1 (31 + 10 * b + 4) - fCool g r) (p := (fRooms g nb r).1 (9 + 4 * r + 2)) (by show 0 ≤ zz _ _; omega)
    have u2' : (byOf ((fRooms g nb r).1 (31 + 10 * b + 4) - fCool g r) ((fRooms g nb r).1 (9 + 4 * r + 2))).toInt ≤ zz (fRooms g nb r).1 (9 + 4 * r + 2) := u2
    rw [i32_add rfl rfl (by omega) (by omega)]
    omega
/-- a group that owed d less from the start owes d less -/
def OW (e g : Rw) (k : Nat) (d : Int32) : Prop := (∀ j, j ≠ 25 + k → e j = g j) ∧ e (25 + k) = g (25 + k) - d
theorem OW.kept {e g : Rw} {k : Nat} {d : Int32} (h : OW e g k d) (hk : k < 6) : ∀ j, kept0 j → e j = g j := fun j hj => h.1 j (by unfold kept0 at hj; omega)
theorem OW.put {e g : Rw} {k j : Nat} {d x y : Int32} (h : OW e g k d) (hxy : (j = 25 + k → x = y - d) ∧ (j ≠ 25 + k → x = y)) : OW (upd e j x) (upd g j y) k d := by
  refine ⟨fun i hi => ?_, ?_⟩
  · by_cases q : i = j
    · subst q; rw [upd_s, upd_s]; exact hxy.2 hi
    · rw [upd_n q, upd_n q]; exact h.1 i hi
  · by_cases q : 25 + k = j
    · subst q; rw [upd_s, upd_s]; exact hxy.1 rfl
    · rw [upd_n q, upd_n q]; exact h.2
theorem i32_ow (a b d : Int32) : a - d + b = a + b - d := by grind
theorem OW.add {e g : Rw} {k : Nat} {d : Int32} (h : OW e g k d) (j : Nat) (u : Int32) : OW (upd e j (e j + u)) (upd g j (g j + u)) k d := by
  refine h.put ⟨fun q => ?_, fun q => by rw [h.1 j q]⟩
  subst q
  rw [h.2, i32_ow]
theorem OW.room {e g : Rw} {nr ng nb t k r : Nat} {d : Int32} (hw : WF g nr ng nb t) (hk : k < 6) (hr : r < nr) (h : OW e g k d) : OW (rs e r nb) (rs g r nb) k d ∧ (fRoom e r nb).2 = (fRoom g r nb).2 := by
  have h4 := hw.nr4
  have h12 := hw.nb12
  have hT := h.1 (9 + 4 * r + 3) (by omega)
  have hc := fCool_eq (g := g) (e := e) (h.kept hk) (by omega) hT
  have hh := fHeater_eq (g := g) (e := e) (nb := nb) (h.kept hk) (by omega) hT (fun b _ _ => h.1 _ (by omega))
  match hf : fHeater g r nb with
  | none =>
    rw [hf] at hh
    have a := fun j => rs_none (g := e) (r := r) (nb := nb) (j := j) hh (by omega)
    have b := fun j => rs_none (g := g) (r := r) (nb := nb) (j := j) hf (by omega)
    refine ⟨?_, (a 0).2.trans (b 0).2.symm⟩
    have q := h.put (j := 9 + 4 * r + 3) (x := fCool e r) (y := fCool g r) ⟨fun z => by omega, fun _ => hc⟩
    exact ⟨fun j hj => by rw [(a j).1, (b j).1]; exact q.1 j hj, by rw [(a _).1, (b _).1]; exact q.2⟩
  | some b =>
    rw [hf] at hh
    have hb := fHeater_lt hf
    obtain ⟨w, hw6, hgw⟩ := hw.who b hb
    have hew : e (31 + 10 * b + 1) = nI w := (h.1 _ (by omega)).trans hgw
    have n : ∀ i, i < 25 ∨ 31 ≤ i → e i = g i := fun i hi => h.1 i (by omega)
    have hU : rmU e r b = rmU g r b := by rw [rmU, rmU, hc, n _ (by omega), n _ (by omega)]
    have hH : rmH e r b = rmH g r b := by rw [rmH, rmH, hU, n _ (by omega)]
    have a := fun j => rs_8 (g := e) (r := r) (b := b) (w := w) (nb := nb) (by omega) (by omega) hw6 hew hh j
    have c := fun j => rs_8 (g := g) (r := r) (b := b) (w := w) (nb := nb) (by omega) (by omega) hw6 hgw hf j
    have n0 := n 0 (by omega)
    have n2 := n (31 + 10 * b + 2) (by omega)
    have n4 := n (31 + 10 * b + 4) (by omega)
    have n7 := n (31 + 10 * b + 7) (by omega)
    have n5 := n 5 (by omega)
    have n8 := n 8 (by omega)
    refine ⟨⟨fun j hj => ?_, ?_⟩, by rw [(a 0).2, (c 0).2, hH]⟩
    · rw [(a j).1, (c j).1, n0, n2, n4, n7, n5, n8, hT, hH]
      have : ∀ o c m, rmF e r b w o c m j = rmF g r b w o c m j := fun o c m => by
        unfold rmF
        rw [hc, hU, hH, h.1 j hj]
      rw [this]
    · rw [(a _).1, (c _).1, n0, n2, n4, n7, hT, if_neg (by omega), if_neg (by omega), if_neg (by omega), if_neg (by omega)]
      by_cases q : w = k
      · subst q
        rw [rmF_o (by omega) hw6, rmF_o (by omega) hw6, h.2, hH]
        split
        · rfl
        · rw [i32_ow]
      · rw [rmF_n (by omega) (by omega) (by omega) (by omega) (by omega), rmF_n (by omega) (by omega) (by omega) (by omega) (by omega)]
        exact h.2
theorem OW.rooms {e g : Rw} {nr ng nb t k : Nat} {d : Int32} (hw : WF g nr ng nb t) (hk : k < 6) (h : OW e g k d) : ∀ r, r ≤ nr → OW (fRooms e nb r).1 (fRooms g nb r).1 k d ∧ (fRooms e nb r).2 = (fRooms g nb r).2 ∧ WF (fRooms g nb r).1 nr ng nb t
  | 0, _ => ⟨h, rfl, hw⟩
  | r + 1, hr => by
    obtain ⟨h1, h2, h3⟩ := OW.rooms hw hk h r (by omega)
    obtain ⟨q1, q2⟩ := h1.room h3 hk (r := r) (by omega)
    rw [fRooms_rs, fRooms_rs]
    exact ⟨q1, by show (_ || _) = (_ || _); rw [h2, q2], rs_WF h3 (by omega)⟩
theorem OW.mid {e g : Rw} {nr ng nb t k : Nat} {d : Int32} (hw : WF g nr ng nb t) (hk : k < 6) (h : OW e g k d) : OW (fMid e nr nb) (fMid g nr nb) k d := by
  obtain ⟨h1, h2, h3⟩ := h.rooms hw hk nr (Nat.le_refl _)
  show OW (upd (upd _ 5 (_ + b01 _)) 0 _) (upd (upd _ 5 (_ + b01 _)) 0 _) k d
  rw [h2]
  exact (h1.add 5 _).add 0 1
theorem OW.set1 {e g : Rw} {nr ng nb t k b q : Nat} {d : Int32} (hw : WF g nr ng nb t) (hk : k < 6) (hb : b < nb) (hq : q < nb) (h : OW e g k d) : OW (fSet1 e b q) (fSet1 g b q) k d := by
  have n : ∀ i, i < 25 ∨ 31 ≤ i → e i = g i := fun i hi => h.1 i (by omega)
  have hs : setD e b q = setD g b q := Bool.eq_iff_iff.mpr (by
    rw [setD_iff, setD_iff, setP, setP, fEnd, fEnd, n (31 + 10 * q + 0) (by omega), n (31 + 10 * b + 0) (by omega), n (31 + 10 * q + 1) (by omega), n (31 + 10 * b + 1) (by omega), n (31 + 10 * q + 2) (by omega), n (31 + 10 * b + 2) (by omega), n (31 + 10 * b + 3) (by omega)])
  have hw1 : whoN e b = whoN g b := by rw [whoN, whoN, n _ (by omega)]
  have hw2 : whoN e q = whoN g q := by rw [whoN, whoN, n _ (by omega)]
  have h5 := n (31 + 10 * b + 5) (by omega)
  unfold fSet1
  rw [hs, hw1, hw2, h5]
  split
  · simp only [Int32.sub_eq_add_neg]
    have h1 := h.add (25 + whoN g b) (-(g (31 + 10 * b + 5) / 2))
    exact h1.add (25 + whoN g q) (g (31 + 10 * b + 5) / 2)
  · exact h
theorem OW.settle {e g : Rw} {nr ng nb t k b : Nat} {d : Int32} (hw : WF g nr ng nb t) (hk : k < 6) (hb : b < nb) (h : OW e g k d) : ∀ q, q ≤ nb → OW (fSettle e b q) (fSettle g b q) k d
  | 0, _ => h
  | q + 1, hq => by
    have ih := OW.settle hw hk hb h q (by omega)
    have hoff := fSettle_off hw.who hb q (by omega)
    have hw2 : WF (fSettle g b q) nr ng nb t := hw.of (fun j hj h0 => hoff j (by unfold kept0 at hj; omega)) ((hoff 0 (by omega)).trans hw.hr) (hw.bt.eqs (fun c hc => hoff _ (by omega)) (fun c hc => hoff _ (by omega)))
    exact ih.set1 hw2 hk hb (by omega)
theorem OW.ends {e g : Rw} {nr ng nb t k : Nat} {d : Int32} (hw : WF g nr ng nb t) (hk : k < 6) (h : OW e g k d) : ∀ j, j ≤ nb → OW (fEnds e nb j) (fEnds g nb j) k d
  | 0, _ => h
  | j + 1, hj => by
    have ih := OW.ends hw hk h j (by omega)
    have hw2 : WF (upd (fEnds g nb j) (31 + 10 * j + 7) 0) nr ng nb t := (hw.ends (by omega)).marks 0 (Or.inl rfl)
    have h1 := ih.put (j := 31 + 10 * j + 7) (x := 0) (y := 0) ⟨fun z => by omega, fun _ => rfl⟩
    rw [fEnds_s, fEnds_s]
    have e1 : fEnd (upd (fEnds e nb j) (31 + 10 * j + 7) 0) j = fEnd (upd (fEnds g nb j) (31 + 10 * j + 7) 0) j := by rw [fEnd, fEnd, h1.1 _ (by omega), h1.1 _ (by omega)]
    rw [e1, h1.1 0 (by omega)]
    split
    · exact h1.settle hw2 hk (by omega) nb (Nat.le_refl _)
    · exact h1
theorem OW.hours {e g : Rw} {nr ng nb t k : Nat} {d : Int32} (hw : WF g nr ng nb t) (hk : k < 6) (h : OW e g k d) : ∀ m, OW (fHours e nr nb m) (fHours g nr nb m) k d
  | 0 => h
  | m + 1 => ((OW.hours hw hk h m).mid (hw.hoursN m) hk).ends (hw.hoursN m).mid hk nb (Nat.le_refl _)
theorem fMax_eq {e g : Rw} {a : Int32} (h : ∀ j, kept0 j → e j = g j) : ∀ k, fMax e a k = fMax g a k
  | 0 => rfl
  | k + 1 => by
    have e1 : fEnd e k = fEnd g k := by rw [fEnd, fEnd, h _ (by unfold kept0; omega), h _ (by unfold kept0; omega)]
    unfold fMax
    rw [fMax_eq h k, e1]
theorem fH_pay {g : Rw} {nb k : Nat} (hk : k < 6) : fH (upd g (25 + k) 0) nb = fH g nb := by
  have h : ∀ j, kept0 j → upd g (25 + k) 0 j = g j := fun j hj => upd_n (by unfold kept0 at hj; omega)
  rw [fH, fH, fMax_eq h, h 0 (by unfold kept0; omega)]
theorem fH_t {g : Rw} {nr ng nb t : Nat} (h : WF g nr ng nb t) (ht : t ≤ 300) : t + fH g nb ≤ 300 := by
  obtain ⟨e, h1, h2, h3⟩ := h.maxs ht nb (Nat.le_refl _)
  have e1 : fMax g (g 0) nb - g 0 = nI (e - t) := by rw [h3, h.hr, pk_sub h1]
  rw [fH, e1, nI_clamp (by omega)]
  omega
/-- what a group will owe, behind its paying -/
theorem will_pay {g : Rw} {nr ng nb t k : Nat} (H : WK g nr ng nb t) (ht : t ≤ 240) (hk : k < ng) : zz (fHours (upd g (25 + k) 0) nr nb (fH (upd g (25 + k) 0) nb)) (25 + k) = zz (fHours g nr nb (fH g nb)) (25 + k) - zz g (25 + k) ∧ (-600000000 ≤ zz (fHours g nr nb (fH g nb)) (25 + k) ∧ zz (fHours g nr nb (fH g nb)) (25 + k) ≤ 600000000) ∧ (-600000000 ≤ zz g (25 + k) ∧ zz g (25 + k) ≤ 600000000) := by
  have hw := H.1
  have h6 := hw.ng6
  have hO := H.2.2.2.2.2 k hk
  have ht3 := fH_t hw (by omega)
  have hO2 := (H.hours (fH g nb) (by omega)).2.2.2.2.2 k hk
  have hh := OW.hours (e := upd g (25 + k) 0) (d := g (25 + k)) hw (k := k) (by omega) ⟨fun j hj => upd_n hj, by rw [upd_s]; exact (Int32.sub_self _).symm⟩ (fH g nb)
  rw [fH_pay (by omega)]
  refine ⟨?_, by omega, by omega⟩
  rw [zz, hh.2, i32_sub rfl rfl (by show _ ≤ zz _ _ - zz _ _; omega) (by show zz _ _ - zz _ _ < _; omega)]
  rfl
