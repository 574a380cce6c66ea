/-! actions keep it -/
theorem zz_j {g e : Rw} {i j : Nat} (h : e i = g j) : zz e i = zz g j := by rw [zz, h, zz]
theorem WK.wf {g : Rw} {nr ng nb t : Nat} (H : WK g nr ng nb t) : WF g nr ng nb t := H.1
theorem WK.out {g : Rw} {nr ng nb t : Nat} {v : Int32} (H : WK g nr ng nb t) (hv : -20 ≤ v ∧ v ≤ 25) : WK (upd g 4 v) nr ng nb t := by
  obtain ⟨hw, hR, hB, hM, hT, hO⟩ := H
  have h6 := hw.ng6
  have h4 := hw.nr4
  have e : ∀ j, j ≠ 4 → upd g 4 v j = g j := fun j hj => upd_n hj
  have v1 := Int32.le_iff_toInt_le.mp hv.1
  have v2 := Int32.le_iff_toInt_le.mp hv.2
  rw [show (-20 : Int32).toInt = -20 by decide] at v1
  rw [show (25 : Int32).toInt = 25 by decide] at v2
  refine ⟨hw.out v, ⟨fun r hr => ?_, ?_⟩, hB.e (fun b i hb h1 h2 h3 => e _ (by omega)), hM.e (fun b hb => ⟨e _ (by omega), e _ (by omega), e _ (by omega)⟩), hT.e ⟨e _ (by omega), e _ (by omega), e _ (by omega), e _ (by omega)⟩ (sm_e (fun b hb => ⟨e _ (by omega), e _ (by omega)⟩)), hO.e (fun w hw => e _ (by omega))⟩
  · rw [zz_e (e (9 + 4 * r + 0) (by omega)), zz_e (e (9 + 4 * r + 1) (by omega)), zz_e (e (9 + 4 * r + 2) (by omega)), zz_e (e (9 + 4 * r + 3) (by omega))]
    exact hR.1 r hr
  · rw [zz, upd_s]
    exact ⟨v1, v2⟩
theorem WK.pay {g : Rw} {nr ng nb t w : Nat} (H : WK g nr ng nb t) (hwn : w < ng) : WK (upd g (25 + w) 0) nr ng nb t := by
  obtain ⟨hw, hR, hB, hM, hT, hO⟩ := H
  have h6 := hw.ng6
  have h4 := hw.nr4
  have e : ∀ j, j ≠ 25 + w → upd g (25 + w) 0 j = g j := fun j hj => upd_n hj
  refine ⟨hw.owe (by omega) 0, hR.e (fun j hj => e j (by omega)), hB.e (fun b i hb h1 h2 h3 => e _ (by omega)), hM.e (fun b hb => ⟨e _ (by omega), e _ (by omega), e _ (by omega)⟩), hT.e ⟨e _ (by omega), e _ (by omega), e _ (by omega), e _ (by omega)⟩ (sm_e (fun b hb => ⟨e _ (by omega), e _ (by omega)⟩)), ?_⟩
  have := hO.put (v := w) (x := 0) (d := 0) (by omega) (by rw [show (0 : Int32).toInt = 0 by decide]; omega)
  rwa [Int.add_zero] at this
theorem WK.mark {g : Rw} {nr ng nb t b : Nat} {v : Int32} (H : WK g nr ng nb t) (ht : t ≤ 300) (hb : b < nb) (hc : zz g (31 + 10 * b + 2) ≤ t ∧ (t : Int) < zz g (31 + 10 * b + 2) + zz g (31 + 10 * b + 3)) (hv : v = 0 ∨ v = 1) : WK (upd g (31 + 10 * b + 7) v) nr ng nb t := by
  obtain ⟨hw, hR, hB, hM, hT, hO⟩ := H
  have h6 := hw.ng6
  have h4 := hw.nr4
  have e : ∀ j, j ≠ 31 + 10 * b + 7 → upd g (31 + 10 * b + 7) v j = g j := fun j hj => upd_n hj
  refine ⟨hw.marks v hv, hR.e (fun j hj => e j (by omega)), hB.e (fun c i hc h1 h2 h3 => e _ (by omega)), fun c hcn hm => ?_, hT.e ⟨e _ (by omega), e _ (by omega), e _ (by omega), e _ (by omega)⟩ (sm_e (fun c hc => ⟨e _ (by omega), e _ (by omega)⟩)), hO.e (fun w hw => e _ (by omega))⟩
  rw [zz_e (e (31 + 10 * c + 2) (by omega)), zz_e (e (31 + 10 * c + 3) (by omega))]
  by_cases q : c = b
  · subst q; exact hc
  · rw [zz_e (e _ (by omega))] at hm
    exact hM c hcn hm
theorem WK.cur {g : Rw} {nr ng nb t r b : Nat} (H : WF g nr ng nb t) (ht : t ≤ 300) (hc : fCur g r nb = some b) : b < nb ∧ zz g (31 + 10 * b + 2) ≤ t ∧ (t : Int) < zz g (31 + 10 * b + 2) + zz g (31 + 10 * b + 3) := by
  have hb := fCur_lt hc
  obtain ⟨-, h1, h2⟩ := fCur_spec hc
  obtain ⟨f, hf, hff⟩ := H.first hb
  obtain ⟨h, -, hh, hhh⟩ := H.hours hb
  have zt : (g 0).toInt = t := zz_nI H.hr (by omega)
  rw [Int32.le_iff_toInt_le, zt] at h1
  have h3 := Int32.lt_iff_toInt_lt.mp (Int32.not_le.mp h2)
  have h4 : (fEnd g b).toInt = zz g (31 + 10 * b + 2) + zz g (31 + 10 * b + 3) := i32_add rfl rfl (by show _ ≤ zz g _ + zz g _; rw [zz_nI hff (by omega), zz_nI hhh (by omega)]; omega) (by show zz g _ + zz g _ < _; rw [zz_nI hff (by omega), zz_nI hhh (by omega)]; omega)
  rw [zt, h4] at h3
  exact ⟨hb, h1, h3⟩
theorem WK.pr {g : Rw} {nr ng nb t r : Nat} {v : Int32} (H : WK g nr ng nb t) (ht : t ≤ 300) (hv : v = 0 ∨ v = 1) : WK (fPr g nb r v) nr ng nb t := by
  unfold fPr
  split
  · exact H
  · rename_i b hb
    obtain ⟨h1, h2⟩ := WK.cur H.1 ht hb
    exact H.mark ht h1 h2 hv
theorem WK.addGroup {g : Rw} {nr ng nb t : Nat} (H : WK g nr ng nb t) (hg : ng < 6) : WK (fAddGroup g ng) nr (ng + 1) nb t := by
  obtain ⟨hw, hR, hB, hM, hT, hO⟩ := H
  have h4 := hw.nr4
  have e : ∀ j, j ≠ 25 + ng → j ≠ 2 → fAddGroup g ng j = g j := fun j h1 h2 => by rw [fAddGroup, upd_n h2, upd_n h1]
  refine ⟨hw.addGroup hg, hR.e (fun j hj => e j (by omega) (by omega)), hB.e (fun b i hb h1 h2 h3 => e _ (by omega) (by omega)), hM.e (fun b hb => ⟨e _ (by omega) (by omega), e _ (by omega) (by omega), e _ (by omega) (by omega)⟩), hT.e ⟨e _ (by omega) (by omega), e _ (by omega) (by omega), e _ (by omega) (by omega), e _ (by omega) (by omega)⟩ (sm_e (fun b hb => ⟨e _ (by omega) (by omega), e _ (by omega) (by omega)⟩)), fun w hw2 => ?_⟩
  by_cases q : w = ng
  · subst q
    have : fAddGroup g w (25 + w) = 0 := by rw [fAddGroup, upd_n (by omega), upd_s]
    rw [zz, this, show (0 : Int32).toInt = 0 by decide]
    omega
  · rw [zz_e (e _ (by omega) (by omega))]
    exact hO w (by omega)
theorem fAddRoom_in {g : Rw} {nr : Nat} {s l p t : Int32} : fAddRoom g nr s l p t (9 + 4 * nr + 0) = s ∧ fAddRoom g nr s l p t (9 + 4 * nr + 1) = l ∧ fAddRoom g nr s l p t (9 + 4 * nr + 2) = p ∧ fAddRoom g nr s l p t (9 + 4 * nr + 3) = t := by
  simp only [fAddRoom]
  refine ⟨?_, ?_, ?_, ?_⟩
  · rw [upd_n (by omega), upd_n (by omega), upd_n (by omega), upd_n (by omega), upd_s]
  · rw [upd_n (by omega), upd_n (by omega), upd_n (by omega), upd_s]
  · rw [upd_n (by omega), upd_n (by omega), upd_s]
  · rw [upd_n (by omega), upd_s]
theorem WK.addRoom {g : Rw} {nr ng nb t s l p : Nat} {u : Int32} (H : WK g nr ng nb t) (hr : nr < 4) (hs : 1 ≤ s ∧ s ≤ 9) (hl : 1 ≤ l ∧ l ≤ 9) (hp : 1 ≤ p ∧ p ≤ 9) (hu : -20 ≤ u.toInt ∧ u.toInt ≤ 30) : WK (fAddRoom g nr (nI s) (nI l) (nI p) u) (nr + 1) ng nb t := by
  obtain ⟨hw, hR, hB, hM, hT, hO⟩ := H
  have h6 := hw.ng6
  have e : ∀ j, j ≠ 1 → j < 9 + 4 * nr ∨ 13 + 4 * nr ≤ j → fAddRoom g nr (nI s) (nI l) (nI p) u j = g j := fun j h1 h2 => fAddRoom_off h1 h2
  obtain ⟨i0, i1, i2, i3⟩ := fAddRoom_in (g := g) (nr := nr) (s := nI s) (l := nI l) (p := nI p) (t := u)
  refine ⟨hw.addRoom hr ⟨s, hs.2, rfl⟩ ⟨p, hp.2, rfl⟩, ⟨fun r hr2 => ?_, ?_⟩, hB.e (fun b i hb h1 h2 h3 => e _ (by omega) (by omega)), hM.e (fun b hb => ⟨e _ (by omega) (by omega), e _ (by omega) (by omega), e _ (by omega) (by omega)⟩), ?_, hO.e (fun w hw => e _ (by omega) (by omega))⟩
  · by_cases q : r = nr
    · subst q
      rw [zz_nI i0 (by omega), zz_nI i1 (by omega), zz_nI i2 (by omega), zz, i3]
      omega
    · rw [zz_e (e (9 + 4 * r + 0) (by omega) (by omega)), zz_e (e (9 + 4 * r + 1) (by omega) (by omega)), zz_e (e (9 + 4 * r + 2) (by omega) (by omega)), zz_e (e (9 + 4 * r + 3) (by omega) (by omega))]
      exact hR.1 r (by omega)
  · rw [zz_e (e 4 (by omega) (by omega))]
    exact hR.2
  · have h2 := hT.e (e := fAddRoom g nr (nI s) (nI l) (nI p) u) ⟨e _ (by omega) (by omega), e _ (by omega) (by omega), e _ (by omega) (by omega), e _ (by omega) (by omega)⟩ (sm_e (fun b hb => ⟨e _ (by omega) (by omega), e _ (by omega) (by omega)⟩))
    obtain ⟨t1, t2, t3, t4, t5⟩ := h2
    have hx := t3.1
    have : ((nr + 1 : Nat) : Int) * (zz (fAddRoom g nr (nI s) (nI l) (nI p) u) 5 - zz (fAddRoom g nr (nI s) (nI l) (nI p) u) 6 - zz (fAddRoom g nr (nI s) (nI l) (nI p) u) 7) = (nr : Int) * (zz (fAddRoom g nr (nI s) (nI l) (nI p) u) 5 - zz (fAddRoom g nr (nI s) (nI l) (nI p) u) 6 - zz (fAddRoom g nr (nI s) (nI l) (nI p) u) 7) + (zz (fAddRoom g nr (nI s) (nI l) (nI p) u) 5 - zz (fAddRoom g nr (nI s) (nI l) (nI p) u) 6 - zz (fAddRoom g nr (nI s) (nI l) (nI p) u) 7) := by
      rw [Int.natCast_add, Int.add_mul]
      simp
    exact ⟨t1, t2, t3, ⟨t4.1, by rw [this]; omega⟩, t5⟩
theorem WK.book {g : Rw} {nr ng nb t ri wi fi hi ui : Nat} (H : WK g nr ng nb t) (hb : nb < 12) (hr : ri < nr) (hw : wi < ng) (hf : fi < 200) (h1 : 1 ≤ hi) (h12 : hi ≤ 12) (hu : 12 ≤ ui ∧ ui ≤ 25) (hfree : fFree g (nI ri) (nI fi) (nI hi) nb) : WK (fBookTo g nb (nI ri) (nI wi) (nI fi) (nI hi) (nI ui)) nr ng (nb + 1) t := by
  obtain ⟨hwf, hR, hB, hM, hT, hO⟩ := H
  have h6 := hwf.ng6
  have h4 := hwf.nr4
  have e : ∀ j, j ≠ 3 → j < 31 + 10 * nb ∨ 41 + 10 * nb ≤ j → fBookTo g nb (nI ri) (nI wi) (nI fi) (nI hi) (nI ui) j = g j := fun j q1 q2 => fBookTo_off q1 q2
  obtain ⟨i0, i2, i3, i4, i5⟩ := fBookTo_in (g := g) (nb := nb) (r := nI ri) (w := nI wi) (f := nI fi) (h := nI hi) (t := nI ui)
  have z : ∀ k, 5 ≤ k → k < 10 → zz (fBookTo g nb (nI ri) (nI wi) (nI fi) (nI hi) (nI ui)) (31 + 10 * nb + k) = 0 := fun k q1 q2 => by
    rw [zz, i5 k q1 q2]; decide
  refine ⟨hwf.book hb hr hw hf h1 h12 hfree, hR.e (fun j hj => e j (by omega) (by omega)), fun b hb2 => ?_, fun b hb2 hm => ?_, ?_, hO.e (fun w hw => e _ (by omega) (by omega))⟩
  · by_cases q : b = nb
    · subst q
      have hd : 0 ≤ dn (fBookTo g b (nI ri) (nI wi) (nI fi) (nI hi) (nI ui)) b 0 := by
        have := (dn_01 (g := fBookTo g b (nI ri) (nI wi) (nI fi) (nI hi) (nI ui)) (b := b) (k := 0)).1
        omega
      unfold KB1
      rw [z 5 (by omega) (by omega), z 6 (by omega) (by omega), z 8 (by omega) (by omega), z 9 (by omega) (by omega), zz_nI i4 (by omega), zz_nI i2 (by omega), zz_nI i3 (by omega)]
      refine ⟨by omega, by omega, by omega, by omega, fun _ => ⟨rfl, rfl⟩, fun p => by omega, fun _ => rfl⟩
    · exact (hB b (by omega)).e (fun i q1 q2 q3 => e _ (by omega) (by omega))
  · by_cases q : b = nb
    · subst q
      rw [z 7 (by omega) (by omega)] at hm
      omega
    · rw [zz_e (e (31 + 10 * b + 2) (by omega) (by omega)), zz_e (e (31 + 10 * b + 3) (by omega) (by omega))]
      rw [zz_e (e _ (by omega) (by omega))] at hm
      exact hM b (by omega) hm
  · have hs : sm (fBookTo g nb (nI ri) (nI wi) (nI fi) (nI hi) (nI ui)) (nb + 1) = sm g nb := by
      rw [sm, z 5 (by omega) (by omega), z 6 (by omega) (by omega), sm_e (fun b hb => ⟨e _ (by omega) (by omega), e _ (by omega) (by omega)⟩)]
      omega
    unfold KU at hT ⊢
    rw [hs, zz_e (e 5 (by omega) (by omega)), zz_e (e 6 (by omega) (by omega)), zz_e (e 7 (by omega) (by omega)), zz_e (e 8 (by omega) (by omega))]
    exact hT
theorem sm_drop {g : Rw} {b : Nat} (hb : b < 12) (h0 : zz g (31 + 10 * b + 5) + zz g (31 + 10 * b + 6) = 0) : ∀ n, n ≤ 11 → sm (fDrop g b) n = if n ≤ b then sm g n else sm g (n + 1)
  | 0, _ => by rw [if_pos (Nat.zero_le _)]; rfl
  | n + 1, hn => by
    have ih := sm_drop hb h0 n (by omega)
    have e5 := zz_j (fDrop_at (g := g) (b := b) (c := n) (k := 5) hb (by omega) (by omega))
    have e6 := zz_j (fDrop_at (g := g) (b := b) (c := n) (k := 6) hb (by omega) (by omega))
    unfold skp at e5 e6
    rw [sm, ih]
    by_cases q : n + 1 ≤ b
    · rw [if_pos q, if_pos (by omega)]
      rw [if_pos (by omega)] at e5 e6
      rw [sm]
      have e5' : zz (fDrop g b) (31 + 10 * n + 5) = zz g (31 + 10 * n + 5) := e5
      have e6' : zz (fDrop g b) (31 + 10 * n + 6) = zz g (31 + 10 * n + 6) := e6
      rw [e5', e6']
    · rw [if_neg q]
      rw [if_neg (by omega)] at e5 e6
      have e5' : zz (fDrop g b) (31 + 10 * n + 5) = zz g (31 + 10 * (n + 1) + 5) := e5
      have e6' : zz (fDrop g b) (31 + 10 * n + 6) = zz g (31 + 10 * (n + 1) + 6) := e6
      have s1 : sm g (n + 1 + 1) = sm g (n + 1) + (zz g (31 + 10 * (n + 1) + 5) + zz g (31 + 10 * (n + 1) + 6)) := rfl
      have s2 : sm g (n + 1) = sm g n + (zz g (31 + 10 * n + 5) + zz g (31 + 10 * n + 6)) := rfl
      rw [e5', e6', s1]
      by_cases p : n ≤ b
      · have : n = b := by omega
        subst this
        rw [if_pos (Nat.le_refl _)]
        omega
      · rw [if_neg p]
theorem WK.drop {g : Rw} {nr ng nb t b : Nat} (H : WK g nr ng nb t) (ht : t ≤ 300) (hb : b < nb) (hg : goesP g b) : WK (fDrop g b) nr ng (nb - 1) t := by
  obtain ⟨hw, hR, hB, hM, hT, hO⟩ := H
  have h6 := hw.ng6
  have h4 := hw.nr4
  have h12 := hw.nb12
  have e : ∀ c, c < nb - 1 → ∀ k, k < 10 → fDrop g b (31 + 10 * c + k) = g (31 + 10 * skp b c + k) := fun c hc k hk => fDrop_at (by omega) (by omega) hk
  have hs : ∀ c, c < nb - 1 → skp b c < nb := fun c hc => by unfold skp; split <;> omega
  have lo : ∀ j, j ≠ 3 → j < 31 → fDrop g b j = g j := fun j h1 h2 => fDrop_lo h1 (by omega)
  obtain ⟨b1, b2, b3, b5, b6, b7, b9⟩ := hB b hb
  have z9 : zz g (31 + 10 * b + 9) = 0 := by rw [zz, hg.1]; decide
  have zt : zz g 0 = t := zz_nI hw.hr (by omega)
  have ht2 : (t : Int) ≤ zz g (31 + 10 * b + 2) := by
    have := Int32.le_iff_toInt_le.mp hg.2
    have h : zz g 0 ≤ zz g (31 + 10 * b + 2) := this
    omega
  have hd0 : ∀ (G : Rw) (c : Nat), (∃ r, r < nr ∧ G (31 + 10 * c + 0) = nI r) → dn G c 0 = 0 := fun G c hc => by
    obtain ⟨r, hr, hr2⟩ := hc
    rw [dn, zz_nI hr2 (by omega), if_neg (by omega)]
  have d0 := hd0 g b (hw.room hb)
  rw [d0] at b6
  refine ⟨hw.drop hb, hR.e (fun j hj => lo j (by omega) (by omega)), fun c hc => ?_, fun c hc hm => ?_, ?_, hO.e (fun w hw => lo _ (by omega) (by omega))⟩
  · have q := hB _ (hs c hc)
    have dq := hd0 g _ (hw.room (hs c hc))
    have dc := hd0 (fDrop g b) c (by rw [e c hc 0 (by omega)]; exact hw.room (hs c hc))
    unfold KB1 at q ⊢
    rw [dq] at q
    rw [dc, zz_j (e c hc 2 (by omega)), zz_j (e c hc 3 (by omega)), zz_j (e c hc 4 (by omega)), zz_j (e c hc 5 (by omega)), zz_j (e c hc 6 (by omega)), zz_j (e c hc 8 (by omega)), zz_j (e c hc 9 (by omega))]
    exact q
  · rw [zz_j (e c hc 7 (by omega))] at hm
    rw [zz_j (e c hc 2 (by omega)), zz_j (e c hc 3 (by omega))]
    exact hM _ (hs c hc) hm
  · have h0 : zz g (31 + 10 * b + 5) + zz g (31 + 10 * b + 6) = 0 := by
      have q1 := b9 z9
      have q2 := (b6 (by omega)).2
      omega
    have hsm : sm (fDrop g b) (nb - 1) = sm g nb := by
      rw [sm_drop (by omega) h0 _ (by omega)]
      by_cases q : nb - 1 ≤ b
      · rw [if_pos q]
        have : nb = b + 1 := by omega
        subst this
        rw [sm]
        show sm g b = _
        omega
      · rw [if_neg q, show nb - 1 + 1 = nb by omega]
    unfold KU at hT ⊢
    rw [hsm, zz_e (lo 5 (by omega) (by omega)), zz_e (lo 6 (by omega) (by omega)), zz_e (lo 7 (by omega) (by omega)), zz_e (lo 8 (by omega) (by omega))]
    exact hT
theorem WK.clean {g : Rw} : WK (fClean g) 0 0 0 0 := by
  have e : ∀ j, j < 151 → j ≠ 4 → fClean g j = 0 := fun j h1 h2 => by rw [fClean, if_neg h2, if_pos h1]
  have z : ∀ j, j < 151 → j ≠ 4 → zz (fClean g) j = 0 := fun j h1 h2 => by rw [zz, e j h1 h2]; decide
  refine ⟨WF.clean, ⟨fun r hr => absurd hr (Nat.not_lt_zero _), ?_⟩, fun _ h => absurd h (Nat.not_lt_zero _), fun _ h => absurd h (Nat.not_lt_zero _), ?_, fun _ h => absurd h (Nat.not_lt_zero _)⟩
  · have : zz (fClean g) 4 = 5 := by rw [zz, fClean, if_pos rfl]; decide
    rw [this]
    omega
  · unfold KU
    rw [z 5 (by omega) (by omega), z 6 (by omega) (by omega), z 7 (by omega) (by omega), z 8 (by omega) (by omega)]
    simp [sm]
