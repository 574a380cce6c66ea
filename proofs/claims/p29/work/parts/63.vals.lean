/-! answers by whole numbers -/
theorem kx_L_17 : Cond.constantLong RL 17 (lI (-9000000000000000002)) ∈ TT := by
  rw [show lI (-9000000000000000002) = (-9000000000000000002 : Int64) by decide +kernel]
  exact kl_L_17
theorem kx_L_21 : Cond.constantLong RL 21 (lI (-9000000000000000003)) ∈ TT := by
  rw [show lI (-9000000000000000003) = (-9000000000000000003 : Int64) by decide +kernel]
  exact kl_L_21
theorem kx_L_36 : Cond.constantLong RL 36 (lI (-9000000000000000001)) ∈ TT := by
  rw [show lI (-9000000000000000001) = (-9000000000000000001 : Int64) by decide +kernel]
  exact kl_L_36
theorem kx_L_100 : Cond.constantLong RL 100 (lI (59)) ∈ TT := by
  rw [show lI (59) = (59 : Int64) by decide +kernel]
  exact kl_L_100
theorem kx_L_102 : Cond.constantLong RL 102 (lI (31)) ∈ TT := by
  rw [show lI (31) = (31 : Int64) by decide +kernel]
  exact kl_L_102
theorem kx_L_109 : Cond.constantLong RL 109 (lI (7)) ∈ TT := by
  rw [show lI (7) = (7 : Int64) by decide +kernel]
  exact kl_L_109
theorem kx_L_116 : Cond.constantLong RL 116 (lI (10)) ∈ TT := by
  rw [show lI (10) = (10 : Int64) by decide +kernel]
  exact kl_L_116
theorem kx_L_151 : Cond.constantLong RL 151 (lI (-99)) ∈ TT := by
  rw [show lI (-99) = (-99 : Int64) by decide +kernel]
  exact kl_L_151
theorem kx_L_157 : Cond.constantLong RL 157 (lI (1000000000000000)) ∈ TT := by
  rw [show lI (1000000000000000) = (1000000000000000 : Int64) by decide +kernel]
  exact kl_L_157
theorem kx_L_168 : Cond.constantLong RL 168 (lI (240)) ∈ TT := by
  rw [show lI (240) = (240 : Int64) by decide +kernel]
  exact kl_L_168
theorem kx_L_174 : Cond.constantLong RL 174 (lI (4)) ∈ TT := by
  rw [show lI (4) = (4 : Int64) by decide +kernel]
  exact kl_L_174
theorem kx_L_176 : Cond.constantLong RL 176 (lI (6)) ∈ TT := by
  rw [show lI (6) = (6 : Int64) by decide +kernel]
  exact kl_L_176
theorem kx_L_178 : Cond.constantLong RL 178 (lI (12)) ∈ TT := by
  rw [show lI (12) = (12 : Int64) by decide +kernel]
  exact kl_L_178
theorem kx_L_180 : Cond.constantLong RL 180 (lI (199)) ∈ TT := by
  rw [show lI (199) = (199 : Int64) by decide +kernel]
  exact kl_L_180
theorem kx_L_182 : Cond.constantLong RL 182 (lI (25)) ∈ TT := by
  rw [show lI (25) = (25 : Int64) by decide +kernel]
  exact kl_L_182
theorem kx_L_192 : Cond.constantLong RL 192 (lI (200030001060010)) ∈ TT := by
  rw [show lI (200030001060010) = (200030001060010 : Int64) by decide +kernel]
  exact kl_L_192
theorem ki_L_7 : Cond.constant RL 7 (15593459 : Int32) ∈ TT := tt_t (i := 246) (by decide +kernel) rfl
theorem ki_L_8 : Cond.constant RL 8 (2147483647 : Int32) ∈ TT := tt_t (i := 247) (by decide +kernel) rfl
theorem ki_L_232 : Cond.constant RL 232 (83003 : Int32) ∈ TT := tt_t (i := 907) (by decide +kernel) rfl
theorem cN_iI {k : Nat} (h : k < 2147483648) : cN (iI (k : Int)) = k := by rw [cN, ← nI_iI, nI_clamp (by omega)]
theorem cN_of {k : Nat} {x : Int} (hx : x = (k : Int)) (h : k < 2147483648) : cN (iI x) = k := by rw [hx, cN_iI h]
theorem isN_of {x : Int} {n : Nat} (h : 0 ≤ x ∧ x < (n : Int)) : isN (iI x) n := ⟨x.toNat, by omega, by rw [nI_iI]; congr 1; omega⟩
theorem isN_not {x : Int} {n : Nat} (hn : n < 1000) (h : x < 0 ∨ (n : Int) ≤ x) (h1 : -2147483648 ≤ x) (h2 : x < 2147483648) : ¬ isN (iI x) n := fun ⟨k, hk, e⟩ => by
  rw [nI_iI] at e
  have := (iI_inj h1 h2 (by omega) (by omega)).mp e
  omega
theorem rngI {x lo hi : Int} {l h : Int32} (hl : iI lo = l) (hh : iI hi = h) (h1 : -2147483648 ≤ x) (h2 : x < 2147483648) (a1 : -2147483648 ≤ lo) (a2 : lo < 2147483648) (b1 : -2147483648 ≤ hi) (b2 : hi < 2147483648) : (l ≤ iI x ∧ iI x ≤ h) ↔ (lo ≤ x ∧ x ≤ hi) := by
  rw [← hl, ← hh, iI_le a1 a2 h1 h2, iI_le h1 h2 b1 b2]
section ANS
variable {s : AS}
theorem ans1 {k1 : Int64} {cd val : Int32} (h : cd = 0) : av1 k1 cd val = val.toInt64 := by rw [av1, if_pos h]
theorem ans2 {k1 k2 : Int64} {cd val : Int32} (h : cd = 0) : av2 k1 k2 cd val = val.toInt64 := by rw [av2, if_pos h]
theorem ans3 {k1 k2 k3 : Int64} {cd val : Int32} (h : cd = 0) : av3 k1 k2 k3 cd val = val.toInt64 := by rw [av3, if_pos h]
theorem ref1 {k1 : Int64} {cd val : Int32} (h : cd = 1) : av1 k1 cd val = k1 := by rw [av1, h]; rfl
theorem ref21 {k1 k2 : Int64} {cd val : Int32} (h : cd = 1) : av2 k1 k2 cd val = k1 := by rw [av2, h]; rfl
theorem ref22 {k1 k2 : Int64} {cd val : Int32} (h : cd = 2) : av2 k1 k2 cd val = k2 := by rw [av2, h]; rfl
theorem ref31 {k1 k2 k3 : Int64} {cd val : Int32} (h : cd = 1) : av3 k1 k2 k3 cd val = k1 := by rw [av3, h]; rfl
theorem ref32 {k1 k2 k3 : Int64} {cd val : Int32} (h : cd = 2) : av3 k1 k2 k3 cd val = k2 := by rw [av3, h]; rfl
theorem ref33 {k1 k2 k3 : Int64} {cd val : Int32} (h : cd = 3) : av3 k1 k2 k3 cd val = k3 := by rw [av3, h]; rfl
/-- an answer that is given -/
theorem about_c {x : Int} (h1 : -2147483648 ≤ x) (h2 : x < 2147483648) : cAbout s (iI x) = if 0 ≤ x ∧ x ≤ 9 then 0 else 1 := by
  have hr := rngI (x := x) (lo := 0) (hi := 9) (l := 0) (h := 9) rfl (by decide) h1 h2 (by decide) (by decide) (by decide) (by decide)
  unfold cAbout
  by_cases q : 0 ≤ x ∧ x ≤ 9
  · rw [if_pos q, ← cd1_0 (hr.mpr q)]
  · rw [if_neg q, ← cd1_1 (fun z => q (hr.mp z))]
theorem about_v {i : Nat} (hi : i < 10) {x : Int} (hx : x = (i : Int)) : vAbout s (iI x) = (aboutV (stG s) i).toInt64 := by
  rw [vAbout, ans1 (by rw [about_c (by omega) (by omega), if_pos (by omega)]), wAbout, cN_of hx (by omega)]
theorem room_v {r k : Nat} (hr : r < rn (stG s)) (hk : k ≤ 6) {x y : Int} (hx : x = (r : Int)) (hy : y = (k : Int)) (hn : rn (stG s) < 1000) : vRoom s (iI x) (iI y) = (roomV (stG s) (bn (stG s)) r k).toInt64 := by
  have c : cRoom s (iI x) (iI y) = 0 := (cd2_0 (isN_of (by omega)) ((rngI (lo := 0) (hi := 6) rfl (by decide) (by omega) (by omega) (by decide) (by decide) (by decide) (by decide)).mpr (by omega))).symm
  rw [vRoom, ans2 c, wRoom, cN_of hx (by omega), cN_of hy (by omega)]
theorem owes_v {w : Nat} (hw : w < gn (stG s)) {x : Int} (hx : x = (w : Int)) (hn : gn (stG s) < 1000) : vOwes s (iI x) = (stG s (25 + w)).toInt64 := by
  have c : cOwes s (iI x) = 0 := (cd1_0 (isN_of (by omega))).symm
  rw [vOwes, ans1 c, wOwes, cN_of hx (by omega)]
theorem booking_v {b k : Nat} (hb : b < bn (stG s)) (hk : k ≤ 9) {x y : Int} (hx : x = (b : Int)) (hy : y = (k : Int)) (hn : bn (stG s) < 1000) : vBooking s (iI x) (iI y) = (bookV (stG s) b k).toInt64 := by
  have c : cBooking s (iI x) (iI y) = 0 := (cd2_0 (isN_of (by omega)) ((rngI (lo := 0) (hi := 9) rfl (by decide) (by omega) (by omega) (by decide) (by decide) (by decide) (by decide)).mpr (by omega))).symm
  rw [vBooking, ans2 c, wBooking, cN_of hx (by omega), cN_of hy (by omega)]
theorem willOwe_v {w : Nat} (hw : w < gn (stG s)) {x : Int} (hx : x = (w : Int)) (hn : gn (stG s) < 1000) : vWillOwe s (iI x) = (fHours (stG s) (rn (stG s)) (bn (stG s)) (fH (stG s) (bn (stG s))) (25 + w)).toInt64 := by
  have c : cWillOwe s (iI x) = 0 := (cd1_0 (isN_of (by omega))).symm
  rw [vWillOwe, ans1 c, wWillOwe, cN_of hx (by omega)]
theorem later_v {r h : Nat} (hr : r < rn (stG s)) (hh : h ≤ 48) {x y : Int} (hx : x = (r : Int)) (hy : y = (h : Int)) (hn : rn (stG s) < 1000) : vLater s (iI x) (iI y) = (fHours (stG s) (rn (stG s)) (bn (stG s)) h (9 + 4 * r + 3)).toInt64 := by
  have c : cLater s (iI x) (iI y) = 0 := (cd2_0 (isN_of (by omega)) ((rngI (lo := 0) (hi := 48) rfl (by decide) (by omega) (by omega) (by decide) (by decide) (by decide) (by decide)).mpr (by omega))).symm
  rw [vLater, ans2 c, wLater, cN_of hx (by omega), cN_of hy (by omega)]
theorem begins_v {b : Nat} (hb : b < bn (stG s)) {x : Int} (hx : x = (b : Int)) (hn : bn (stG s) < 1000) : vBegins s (iI x) = (fBeg (stG s) (rn (stG s)) (bn (stG s)) (cN (stG s (31 + 10 * b + 0))) b (fLeft (stG s) b)).toInt64 := by
  have c : cBegins s (iI x) = 0 := (cd1_0 (isN_of (by omega))).symm
  rw [vBegins, ans1 c, wBegins, cN_of hx (by omega)]
end ANS
/-- an action that is refused changes nothing -/
theorem rL_append {σ : Sg} {s : AS} (hI : CI σ s) (v : Int32) {kc : Int32} (hc : cAppend s v = kc) (h0 : ¬ kc = 0) : CtH yL_append cL_append mL_append 9 8 48 NN false σ [.ref 0, .int v] NN (rL fun τ y0 => CI τ s ∧ av2 kA kS_ kc 0 = y0) XF :=
  (qL_append hI v).mono (fun ρ r ⟨v, e, h1, h2⟩ => ⟨v, e, by rw [aAppend, if_neg (by rw [hc]; exact h0)] at h1; exact h1, by
    rw [← h2, vAppend, hc]
    simp only [av2, if_neg h0]⟩) (fun ρ E h => h)
theorem dL_append_ {σ : Sg} {s : AS} (hI : CI σ s) (v : Int32) (hc : cAppend s v = 0) : CtH yL_append cL_append mL_append 9 8 48 NN false σ [.ref 0, .int v] NN (rL fun τ y0 => CI τ (stG s, stN s + 1, upd (stT s) (stN s) v, stC s, stM s, stB s, stS s) ∧ (wAppend s v).toInt64 = y0) XF :=
  (qL_append hI v).mono (fun ρ r ⟨v, e, h1, h2⟩ => ⟨v, e, by rw [aAppend, if_pos hc] at h1; exact h1, by
    rw [← h2, vAppend, ans2 hc]⟩) (fun ρ E h => h)
theorem rL_load {σ : Sg} {s : AS} (hI : CI σ s)  {kc : Int32} (hc : cLoad s  = kc) (h0 : ¬ kc = 0) : CtH yL_load cL_load mL_load 9 8 48 NN false σ [.ref 0] NN (rL fun τ y0 => CI τ s ∧ av1 kS_ kc 0 = y0) XF :=
  (qL_load hI ).mono (fun ρ r ⟨v, e, h1, h2⟩ => ⟨v, e, by rw [aLoad, if_neg (by rw [hc]; exact h0)] at h1; exact h1, by
    rw [← h2, vLoad, hc]
    simp only [av1, if_neg h0]⟩) (fun ρ E h => h)
theorem dL_load_ {σ : Sg} {s : AS} (hI : CI σ s)  (hc : cLoad s  = 0) : CtH yL_load cL_load mL_load 9 8 48 NN false σ [.ref 0] NN (rL fun τ y0 => CI τ ((pText (stT s) (stN s) (fClean g00)).2.1, stN s, stT s, 0, stM s, (fun _ => false), stS s) ∧ (wLoad s ).toInt64 = y0) XF :=
  (qL_load hI ).mono (fun ρ r ⟨v, e, h1, h2⟩ => ⟨v, e, by rw [aLoad, if_pos hc] at h1; exact h1, by
    rw [← h2, vLoad, ans1 hc]⟩) (fun ρ E h => h)
theorem rL_addRoom {σ : Sg} {s : AS} (hI : CI σ s) (a : Int32) (l : Int32) (p : Int32) (t0 : Int32) {kc : Int32} (hc : cAddRoom s a l p t0 = kc) (h0 : ¬ kc = 0) : CtH yL_addRoom cL_addRoom mL_addRoom 9 8 48 NN false σ [.ref 0, .int a, .int l, .int p, .int t0] NN (rL fun τ y0 => CI τ s ∧ av2 kA kS_ kc 0 = y0) XF :=
  (qL_addRoom hI a l p t0).mono (fun ρ r ⟨v, e, h1, h2⟩ => ⟨v, e, by rw [aAddRoom, if_neg (by rw [hc]; exact h0)] at h1; exact h1, by
    rw [← h2, vAddRoom, hc]
    simp only [av2, if_neg h0]⟩) (fun ρ E h => h)
theorem dL_addRoom_ {σ : Sg} {s : AS} (hI : CI σ s) (a : Int32) (l : Int32) (p : Int32) (t0 : Int32) (hc : cAddRoom s a l p t0 = 0) : CtH yL_addRoom cL_addRoom mL_addRoom 9 8 48 NN false σ [.ref 0, .int a, .int l, .int p, .int t0] NN (rL fun τ y0 => CI τ (fAddRoom (stG s) (rn (stG s)) a l p t0, stN s, stT s, remA (stC s), remM (stM s) (stC s) (stG s), stB s, stS s) ∧ (wAddRoom s a l p t0).toInt64 = y0) XF :=
  (qL_addRoom hI a l p t0).mono (fun ρ r ⟨v, e, h1, h2⟩ => ⟨v, e, by rw [aAddRoom, if_pos hc] at h1; exact h1, by
    rw [← h2, vAddRoom, ans2 hc]⟩) (fun ρ E h => h)
theorem rL_addGroup {σ : Sg} {s : AS} (hI : CI σ s)  {kc : Int32} (hc : cAddGroup s  = kc) (h0 : ¬ kc = 0) : CtH yL_addGroup cL_addGroup mL_addGroup 9 8 48 NN false σ [.ref 0] NN (rL fun τ y0 => CI τ s ∧ av1 kS_ kc 0 = y0) XF :=
  (qL_addGroup hI ).mono (fun ρ r ⟨v, e, h1, h2⟩ => ⟨v, e, by rw [aAddGroup, if_neg (by rw [hc]; exact h0)] at h1; exact h1, by
    rw [← h2, vAddGroup, hc]
    simp only [av1, if_neg h0]⟩) (fun ρ E h => h)
theorem dL_addGroup_ {σ : Sg} {s : AS} (hI : CI σ s)  (hc : cAddGroup s  = 0) : CtH yL_addGroup cL_addGroup mL_addGroup 9 8 48 NN false σ [.ref 0] NN (rL fun τ y0 => CI τ (fAddGroup (stG s) (gn (stG s)), stN s, stT s, remA (stC s), remM (stM s) (stC s) (stG s), stB s, stS s) ∧ (wAddGroup s ).toInt64 = y0) XF :=
  (qL_addGroup hI ).mono (fun ρ r ⟨v, e, h1, h2⟩ => ⟨v, e, by rw [aAddGroup, if_pos hc] at h1; exact h1, by
    rw [← h2, vAddGroup, ans1 hc]⟩) (fun ρ E h => h)
theorem rL_book {σ : Sg} {s : AS} (hI : CI σ s) (r : Int32) (w : Int32) (f : Int32) (h : Int32) (t0 : Int32) {kc : Int32} (hc : cBook s r w f h t0 = kc) (h0 : ¬ kc = 0) : CtH yL_book cL_book mL_book 9 8 48 NN false σ [.ref 0, .int r, .int w, .int f, .int h, .int t0] NN (rL fun τ y0 => CI τ s ∧ av3 kI kA kS_ kc 0 = y0) XF :=
  (qL_book hI r w f h t0).mono (fun ρ r ⟨v, e, h1, h2⟩ => ⟨v, e, by rw [aBook, if_neg (by rw [hc]; exact h0)] at h1; exact h1, by
    rw [← h2, vBook, hc]
    simp only [av3, if_neg h0]⟩) (fun ρ E h => h)
theorem dL_book_ {σ : Sg} {s : AS} (hI : CI σ s) (r : Int32) (w : Int32) (f : Int32) (h : Int32) (t0 : Int32) (hc : cBook s r w f h t0 = 0) : CtH yL_book cL_book mL_book 9 8 48 NN false σ [.ref 0, .int r, .int w, .int f, .int h, .int t0] NN (rL fun τ y0 => CI τ (fBookTo (stG s) (bn (stG s)) r w f h t0, stN s, stT s, remA (stC s), remM (stM s) (stC s) (stG s), stB s, stS s) ∧ (wBook s r w f h t0).toInt64 = y0) XF :=
  (qL_book hI r w f h t0).mono (fun ρ r ⟨v, e, h1, h2⟩ => ⟨v, e, by rw [aBook, if_pos hc] at h1; exact h1, by
    rw [← h2, vBook, ans3 hc]⟩) (fun ρ E h => h)
theorem rL_cancel {σ : Sg} {s : AS} (hI : CI σ s) (b : Int32) {kc : Int32} (hc : cCancel s b = kc) (h0 : ¬ kc = 0) : CtH yL_cancel cL_cancel mL_cancel 9 8 48 NN false σ [.ref 0, .int b] NN (rL fun τ y0 => CI τ s ∧ av2 kI kS_ kc 0 = y0) XF :=
  (qL_cancel hI b).mono (fun ρ r ⟨v, e, h1, h2⟩ => ⟨v, e, by rw [aCancel, if_neg (by rw [hc]; exact h0)] at h1; exact h1, by
    rw [← h2, vCancel, hc]
    simp only [av2, if_neg h0]⟩) (fun ρ E h => h)
theorem dL_cancel_ {σ : Sg} {s : AS} (hI : CI σ s) (b : Int32) (hc : cCancel s b = 0) : CtH yL_cancel cL_cancel mL_cancel 9 8 48 NN false σ [.ref 0, .int b] NN (rL fun τ y0 => CI τ (fDrop (stG s) (cN b), stN s, stT s, remA (stC s), remM (stM s) (stC s) (stG s), stB s, stS s) ∧ (wCancel s b).toInt64 = y0) XF :=
  (qL_cancel hI b).mono (fun ρ r ⟨v, e, h1, h2⟩ => ⟨v, e, by rw [aCancel, if_pos hc] at h1; exact h1, by
    rw [← h2, vCancel, ans2 hc]⟩) (fun ρ E h => h)
theorem rL_prove {σ : Sg} {s : AS} (hI : CI σ s) (r : Int32) (is : Int32) (his : is = 0 ∨ is = 1) {kc : Int32} (hc : cProve s r is = kc) (h0 : ¬ kc = 0) : CtH yL_prove cL_prove mL_prove 9 8 48 NN false σ [.ref 0, .int r, .int is] NN (rL fun τ y0 => CI τ s ∧ av2 kI kS_ kc 0 = y0) XF :=
  (qL_prove hI r is his).mono (fun ρ r ⟨v, e, h1, h2⟩ => ⟨v, e, by rw [aProve, if_neg (by rw [hc]; exact h0)] at h1; exact h1, by
    rw [← h2, vProve, hc]
    simp only [av2, if_neg h0]⟩) (fun ρ E h => h)
theorem dL_prove_ {σ : Sg} {s : AS} (hI : CI σ s) (r : Int32) (is : Int32) (his : is = 0 ∨ is = 1) (hc : cProve s r is = 0) : CtH yL_prove cL_prove mL_prove 9 8 48 NN false σ [.ref 0, .int r, .int is] NN (rL fun τ y0 => CI τ (fPr (stG s) (bn (stG s)) (cN r) is, stN s, stT s, remA (stC s), remM (stM s) (stC s) (stG s), stB s, stS s) ∧ (wProve s r is).toInt64 = y0) XF :=
  (qL_prove hI r is his).mono (fun ρ r ⟨v, e, h1, h2⟩ => ⟨v, e, by rw [aProve, if_pos hc] at h1; exact h1, by
    rw [← h2, vProve, ans2 hc]⟩) (fun ρ E h => h)
theorem rL_outside {σ : Sg} {s : AS} (hI : CI σ s) (t0 : Int32) {kc : Int32} (hc : cOutside s t0 = kc) (h0 : ¬ kc = 0) : CtH yL_outside cL_outside mL_outside 9 8 48 NN false σ [.ref 0, .int t0] NN (rL fun τ y0 => CI τ s ∧ av1 kA kc 0 = y0) XF :=
  (qL_outside hI t0).mono (fun ρ r ⟨v, e, h1, h2⟩ => ⟨v, e, by rw [aOutside, if_neg (by rw [hc]; exact h0)] at h1; exact h1, by
    rw [← h2, vOutside, hc]
    simp only [av1, if_neg h0]⟩) (fun ρ E h => h)
theorem dL_outside_ {σ : Sg} {s : AS} (hI : CI σ s) (t0 : Int32) (hc : cOutside s t0 = 0) : CtH yL_outside cL_outside mL_outside 9 8 48 NN false σ [.ref 0, .int t0] NN (rL fun τ y0 => CI τ (upd (stG s) 4 t0, stN s, stT s, remA (stC s), remM (stM s) (stC s) (stG s), stB s, stS s) ∧ (wOutside s t0).toInt64 = y0) XF :=
  (qL_outside hI t0).mono (fun ρ r ⟨v, e, h1, h2⟩ => ⟨v, e, by rw [aOutside, if_pos hc] at h1; exact h1, by
    rw [← h2, vOutside, ans1 hc]⟩) (fun ρ E h => h)
theorem rL_pay {σ : Sg} {s : AS} (hI : CI σ s) (w : Int32) {kc : Int32} (hc : cPay s w = kc) (h0 : ¬ kc = 0) : CtH yL_pay cL_pay mL_pay 9 8 48 NN false σ [.ref 0, .int w] NN (rL fun τ y0 => CI τ s ∧ av1 kI kc 0 = y0) XF :=
  (qL_pay hI w).mono (fun ρ r ⟨v, e, h1, h2⟩ => ⟨v, e, by rw [aPay, if_neg (by rw [hc]; exact h0)] at h1; exact h1, by
    rw [← h2, vPay, hc]
    simp only [av1, if_neg h0]⟩) (fun ρ E h => h)
theorem dL_pay_ {σ : Sg} {s : AS} (hI : CI σ s) (w : Int32) (hc : cPay s w = 0) : CtH yL_pay cL_pay mL_pay 9 8 48 NN false σ [.ref 0, .int w] NN (rL fun τ y0 => CI τ (upd (stG s) (25 + cN w) 0, stN s, stT s, remA (stC s), remM (stM s) (stC s) (stG s), stB s, stS s) ∧ (wPay s w).toInt64 = y0) XF :=
  (qL_pay hI w).mono (fun ρ r ⟨v, e, h1, h2⟩ => ⟨v, e, by rw [aPay, if_pos hc] at h1; exact h1, by
    rw [← h2, vPay, ans1 hc]⟩) (fun ρ E h => h)
theorem rL_pass {σ : Sg} {s : AS} (hI : CI σ s) (h : Int32) {kc : Int32} (hc : cPass s h = kc) (h0 : ¬ kc = 0) : CtH yL_pass cL_pass mL_pass 9 8 48 NN false σ [.ref 0, .int h] NN (rL fun τ y0 => CI τ s ∧ av2 kA kS_ kc 0 = y0) XF :=
  (qL_pass hI h).mono (fun ρ r ⟨v, e, h1, h2⟩ => ⟨v, e, by rw [aPass, if_neg (by rw [hc]; exact h0)] at h1; exact h1, by
    rw [← h2, vPass, hc]
    simp only [av2, if_neg h0]⟩) (fun ρ E h => h)
theorem dL_pass_ {σ : Sg} {s : AS} (hI : CI σ s) (h : Int32) (hc : cPass s h = 0) : CtH yL_pass cL_pass mL_pass 9 8 48 NN false σ [.ref 0, .int h] NN (rL fun τ y0 => CI τ (fHours (stG s) (rn (stG s)) (bn (stG s)) (cN h), stN s, stT s, remA (stC s), remM (stM s) (stC s) (stG s), stB s, stS s) ∧ (wPass s h).toInt64 = y0) XF :=
  (qL_pass hI h).mono (fun ρ r ⟨v, e, h1, h2⟩ => ⟨v, e, by rw [aPass, if_pos hc] at h1; exact h1, by
    rw [← h2, vPass, ans2 hc]⟩) (fun ρ E h => h)
theorem rL_undo {σ : Sg} {s : AS} (hI : CI σ s)  {kc : Int32} (hc : cUndo s  = kc) (h0 : ¬ kc = 0) : CtH yL_undo cL_undo mL_undo 9 8 48 NN false σ [.ref 0] NN (rL fun τ y0 => CI τ s ∧ av1 kS_ kc 0 = y0) XF :=
  (qL_undo hI ).mono (fun ρ r ⟨v, e, h1, h2⟩ => ⟨v, e, by rw [aUndo, if_neg (by rw [hc]; exact h0)] at h1; exact h1, by
    rw [← h2, vUndo, hc]
    simp only [av1, if_neg h0]⟩) (fun ρ E h => h)
theorem dL_undo_ {σ : Sg} {s : AS} (hI : CI σ s)  (hc : cUndo s  = 0) : CtH yL_undo cL_undo mL_undo 9 8 48 NN false σ [.ref 0] NN (rL fun τ y0 => CI τ (stM s (stC s - 1), stN s, stT s, stC s - 1, stM s, stB s, stS s) ∧ (wUndo s ).toInt64 = y0) XF :=
  (qL_undo hI ).mono (fun ρ r ⟨v, e, h1, h2⟩ => ⟨v, e, by rw [aUndo, if_pos hc] at h1; exact h1, by
    rw [← h2, vUndo, ans1 hc]⟩) (fun ρ E h => h)
theorem rL_save {σ : Sg} {s : AS} (hI : CI σ s) (k : Int32) {kc : Int32} (hc : cSave s k = kc) (h0 : ¬ kc = 0) : CtH yL_save cL_save mL_save 9 8 48 NN false σ [.ref 0, .int k] NN (rL fun τ y0 => CI τ s ∧ av1 kI kc 0 = y0) XF :=
  (qL_save hI k).mono (fun ρ r ⟨v, e, h1, h2⟩ => ⟨v, e, by rw [aSave, if_neg (by rw [hc]; exact h0)] at h1; exact h1, by
    rw [← h2, vSave, hc]
    simp only [av1, if_neg h0]⟩) (fun ρ E h => h)
theorem dL_save_ {σ : Sg} {s : AS} (hI : CI σ s) (k : Int32) (hc : cSave s k = 0) : CtH yL_save cL_save mL_save 9 8 48 NN false σ [.ref 0, .int k] NN (rL fun τ y0 => CI τ (stG s, stN s, stT s, stC s, stM s, savB (stB s) (cN k), savS (stS s) (cN k) (stG s)) ∧ (wSave s k).toInt64 = y0) XF :=
  (qL_save hI k).mono (fun ρ r ⟨v, e, h1, h2⟩ => ⟨v, e, by rw [aSave, if_pos hc] at h1; exact h1, by
    rw [← h2, vSave, ans1 hc]⟩) (fun ρ E h => h)
theorem rL_restore {σ : Sg} {s : AS} (hI : CI σ s) (k : Int32) {kc : Int32} (hc : cRestore s k = kc) (h0 : ¬ kc = 0) : CtH yL_restore cL_restore mL_restore 9 8 48 NN false σ [.ref 0, .int k] NN (rL fun τ y0 => CI τ s ∧ av2 kI kS_ kc 0 = y0) XF :=
  (qL_restore hI k).mono (fun ρ r ⟨v, e, h1, h2⟩ => ⟨v, e, by rw [aRestore, if_neg (by rw [hc]; exact h0)] at h1; exact h1, by
    rw [← h2, vRestore, hc]
    simp only [av2, if_neg h0]⟩) (fun ρ E h => h)
theorem dL_restore_ {σ : Sg} {s : AS} (hI : CI σ s) (k : Int32) (hc : cRestore s k = 0) : CtH yL_restore cL_restore mL_restore 9 8 48 NN false σ [.ref 0, .int k] NN (rL fun τ y0 => CI τ (stS s (cN k), stN s, stT s, 0, stM s, stB s, stS s) ∧ (wRestore s k).toInt64 = y0) XF :=
  (qL_restore hI k).mono (fun ρ r ⟨v, e, h1, h2⟩ => ⟨v, e, by rw [aRestore, if_pos hc] at h1; exact h1, by
    rw [← h2, vRestore, ans2 hc]⟩) (fun ρ E h => h)
/-- of a row, all that is told, as one number -/
def n1 (g : Rw) : Nat → Int64
  | 0 => 59
  | k + 1 => 31 * n1 g k + (aboutV g k).toInt64
def n2 (g : Rw) (nb : Nat) (v : Int64) : Nat → Int64
  | 0 => v
  | k + 1 => 31 * n2 g nb v k + (roomV g nb (k / 7) (k % 7)).toInt64
def n3 (g : Rw) (v : Int64) : Nat → Int64
  | 0 => v
  | k + 1 => 31 * n3 g v k + (g (25 + k)).toInt64
def n4 (g : Rw) (v : Int64) : Nat → Int64
  | 0 => v
  | k + 1 => 31 * n4 g v k + (bookV g (k / 10) (k % 10)).toInt64
def nowV (g : Rw) : Int64 := n4 g (n3 g (n2 g (bn g) (n1 g 10) (7 * rn g)) (gn g)) (10 * bn g)
theorem CI.nums {σ : Sg} {s : AS} (h : CI σ s) : rn (stG s) ≤ 4 ∧ gn (stG s) ≤ 6 ∧ bn (stG s) ≤ 12 ∧ tn (stG s) ≤ 240 := by
  obtain ⟨π, hc, hs, hw, ht, hcb⟩ := h.wf
  exact ⟨hw.nr4, hw.ng6, hw.nb12, ht⟩
theorem aboutV_n {g : Rw} {nr ng nb t : Nat} (hw : WF g nr ng nb t) (ht : t ≤ 1000) : (aboutV g 0).toInt64 = lI t ∧ (aboutV g 1).toInt64 = lI nr ∧ (aboutV g 2).toInt64 = lI ng ∧ (aboutV g 3).toInt64 = lI nb := by
  have h4 := hw.nr4
  have h6 := hw.ng6
  have h12 := hw.nb12
  refine ⟨?_, ?_, ?_, ?_⟩
  · show (g 0).toInt64 = _
    rw [hw.hr, nI_l (by omega), lN_lI]
  · show (g 1).toInt64 = _
    rw [hw.nr, nI_l (by omega), lN_lI]
  · show (g 2).toInt64 = _
    rw [hw.ng, nI_l (by omega), lN_lI]
  · show (g 3).toInt64 = _
    rw [hw.nb, nI_l (by omega), lN_lI]
theorem iinc_N {k : Nat} {x : Int} (hx : x = (k : Int)) : iI x + Int32.ofInt 1 = iI ((k + 1 : Nat) : Int) := by
  rw [hx, show Int32.ofInt 1 = iI 1 from rfl, iI_add]
  rfl
