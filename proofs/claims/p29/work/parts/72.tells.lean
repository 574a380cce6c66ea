/-! the law: rooms, groups and bookings told as a text -/
def mk (x r M : Int) : Int := ((iI x >>> (iI r &&& 31)) &&& iI M).toInt
theorem mk_e (x r M : Int) : (iI x >>> (iI r &&& 31)) &&& iI M = iI (mk x r M) := iI_of _
theorem mk_rng255 (x r : Int) : 0 ≤ mk x r 255 ∧ mk x r 255 ≤ 255 := by
  obtain ⟨j, hj, e⟩ := pk_andE (iI x >>> (iI r &&& 31)) (m := iI 255) 8 (by decide)
  rw [mk, e, nI_toInt (by omega)]
  omega
theorem mk_rng4095 (x r : Int) : 0 ≤ mk x r 4095 ∧ mk x r 4095 ≤ 4095 := by
  obtain ⟨j, hj, e⟩ := pk_andE (iI x >>> (iI r &&& 31)) (m := iI 4095) 12 (by decide)
  rw [mk, e, nI_toInt (by omega)]
  omega
theorem iand_1 {a : Int} (h : 0 ≤ a) (h2 : a < 2147483648) : iI a &&& iI 1 = iI (a % 2) := by
  obtain ⟨n, rfl⟩ : ∃ n : Nat, a = n := ⟨a.toNat, by omega⟩
  rw [← nI_iI, pk_andN (n := n) (by omega) (m := iI 1) 1 (by decide), nI_iI]
  rfl
def mN (y : Int) : Nat := (1 + y % 4).toNat
def gN (y : Int) : Nat := (1 + (y / 4) % 5).toNat
def hdL (y : Int) : List Int := [72, 111, 43, 48 + ((y / 20) % 16) / 10, 48 + ((y / 20) % 16) % 10]
def roomL (x y : Int) (r : Nat) : List Int := [114, 49 + mk x r 255 % 9, 49 + mk y r 255 % 9, 49 + mk x (r + 3) 255 % 9, 48 + (mk x (2 * r) 255 % 22) / 10, 48 + (mk x (2 * r) 255 % 22) % 10]
def bkv (x : Int) (k : Nat) : Int := mk x k 4095 + 53 * k
def bookL (x y : Int) (k : Nat) : List Int := [98, 48 + (k : Int) % (1 + y % 4), 48 + bkv x k % (1 + (y / 4) % 5), 48, 48 + (8 * k + (bkv x k / 5) % 3) / 10, 48 + (8 * k + (bkv x k / 5) % 3) % 10, 48 + (1 + (bkv x k / 15) % 6) / 10, 48 + (1 + (bkv x k / 15) % 6) % 10, 48 + (12 + (bkv x k / 90) % 14) / 10, 48 + (12 + (bkv x k / 90) % 14) % 10]
def L1 (x y : Int) : Nat → List Int
  | 0 => hdL y
  | r + 1 => L1 x y r ++ roomL x y r
def L2 (x y : Int) : Nat → List Int
  | 0 => L1 x y (mN y)
  | k + 1 => L2 x y k ++ [103]
def L3 (x y : Int) : Nat → List Int
  | 0 => L2 x y (gN y)
  | k + 1 => L3 x y k ++ bookL x y k
def tlS (s : AS) (L : List Int) : AS := L.foldl apS s
abbrev clS (s : AS) : AS := (stG s, 0, stT s, stC s, stM s, stB s, stS s)
abbrev told (s : AS) (x y : Int) : AS := tlS (clS s) (L3 x y 6)
theorem tlS_app {s : AS} {A B : List Int} : tlS s (A ++ B) = tlS (tlS s A) B := List.foldl_append
theorem tlS_n : ∀ (L : List Int) (s : AS), stN (tlS s L) = stN s + L.length
  | [], _ => rfl
  | c :: L, s => by
    show stN (tlS (apS s c) L) = _
    rw [tlS_n L (apS s c)]
    show stN s + 1 + L.length = stN s + (L.length + 1)
    omega
theorem tlS_lo : ∀ (L : List Int) (s : AS) (j : Nat), j < stN s → stT (tlS s L) j = stT s j
  | [], _, _, _ => rfl
  | c :: L, s, j, h => by
    show stT (tlS (apS s c) L) j = _
    rw [tlS_lo L (apS s c) j (by show j < stN s + 1; omega)]
    exact upd_n (by omega)
theorem tlS_T : ∀ (L : List Int) (s : AS) (i : Nat), i < L.length → stT (tlS s L) (stN s + i) = iI (L.getD i 0)
  | [], _, i, h => absurd h (Nat.not_lt_zero _)
  | c :: L, s, 0, _ => by
    show stT (tlS (apS s c) L) (stN s) = iI c
    rw [tlS_lo L (apS s c) _ (Nat.lt_succ_self _)]
    exact upd_s
  | c :: L, s, i + 1, h => by
    have := tlS_T L (apS s c) i (by simpa using h)
    show stT (tlS (apS s c) L) (stN s + (i + 1)) = iI (L.getD i 0)
    rw [← this]
    congr 1
    show stN s + (i + 1) = stN s + 1 + i
    omega
theorem L1_n {x y : Int} : ∀ r, (L1 x y r).length = 5 + 6 * r
  | 0 => rfl
  | r + 1 => by rw [L1, List.length_append, L1_n r]; show 5 + 6 * r + 6 = _; omega
theorem L2_n {x y : Int} : ∀ k, (L2 x y k).length = 5 + 6 * mN y + k
  | 0 => L1_n _
  | k + 1 => by rw [L2, List.length_append, L2_n k]; rfl
theorem L3_n {x y : Int} : ∀ k, (L3 x y k).length = 5 + 6 * mN y + gN y + 10 * k
  | 0 => L2_n _
  | k + 1 => by rw [L3, List.length_append, L3_n k]; show 5 + 6 * mN y + gN y + 10 * k + 10 = _; omega
theorem getD_app {A P R : List Int} {j : Nat} (h : j < P.length) : (A ++ P ++ R).getD (A.length + j) 0 = P.getD j 0 := by
  rw [List.append_assoc, List.getD_eq_getElem?_getD, List.getElem?_append_right (by omega), Nat.add_sub_cancel_left, List.getElem?_append_left h, ← List.getD_eq_getElem?_getD]
theorem mN_Z {y : Int} (hy : 0 ≤ y) : (mN y : Int) = 1 + y % 4 ∧ 1 ≤ mN y ∧ mN y ≤ 4 := by unfold mN; omega
theorem gN_Z {y : Int} (hy : 0 ≤ y) : (gN y : Int) = 1 + (y / 4) % 5 ∧ 1 ≤ gN y ∧ gN y ≤ 5 := by unfold gN; omega
theorem pre1 {x y : Int} : ∀ m r, r ≤ m → ∃ R, L1 x y m = L1 x y r ++ R
  | 0, r, h => ⟨[], by rw [show r = 0 by omega, List.append_nil]⟩
  | m + 1, r, h => by
    by_cases q : r = m + 1
    · subst q; exact ⟨[], by rw [List.append_nil]⟩
    · obtain ⟨R, e⟩ := pre1 m r (by omega)
      exact ⟨R ++ roomL x y m, by rw [L1, e, List.append_assoc]⟩
theorem pre2 {x y : Int} : ∀ m r, r ≤ m → ∃ R, L2 x y m = L2 x y r ++ R
  | 0, r, h => ⟨[], by rw [show r = 0 by omega, List.append_nil]⟩
  | m + 1, r, h => by
    by_cases q : r = m + 1
    · subst q; exact ⟨[], by rw [List.append_nil]⟩
    · obtain ⟨R, e⟩ := pre2 m r (by omega)
      exact ⟨R ++ [103], by rw [L2, e, List.append_assoc]⟩
theorem pre3 {x y : Int} : ∀ m r, r ≤ m → ∃ R, L3 x y m = L3 x y r ++ R
  | 0, r, h => ⟨[], by rw [show r = 0 by omega, List.append_nil]⟩
  | m + 1, r, h => by
    by_cases q : r = m + 1
    · subst q; exact ⟨[], by rw [List.append_nil]⟩
    · obtain ⟨R, e⟩ := pre3 m r (by omega)
      exact ⟨R ++ bookL x y m, by rw [L3, e, List.append_assoc]⟩
theorem pre23 {x y : Int} {k : Nat} (h : k ≤ gN y) : ∃ R, L3 x y 6 = L2 x y k ++ R := by
  obtain ⟨R, e⟩ := pre3 (x := x) (y := y) 6 0 (by omega)
  obtain ⟨Q, f⟩ := pre2 (x := x) (y := y) (gN y) k h
  exact ⟨Q ++ R, by rw [e, L3, f, List.append_assoc]⟩
theorem pre13 {x y : Int} {k : Nat} (h : k ≤ mN y) : ∃ R, L3 x y 6 = L1 x y k ++ R := by
  obtain ⟨R, e⟩ := pre23 (x := x) (y := y) (k := 0) (by omega)
  obtain ⟨Q, f⟩ := pre1 (x := x) (y := y) (mN y) k h
  exact ⟨Q ++ R, by rw [e, L2, f, List.append_assoc]⟩
/-- the signs of a part, where it begins -/
theorem told_at {s : AS} {x y : Int} {A P R : List Int} (e : L3 x y 6 = A ++ P ++ R) {j : Nat} (hj : j < P.length) : stT (told s x y) (A.length + j) = iI (P.getD j 0) := by
  have := tlS_T (L3 x y 6) (clS s) (A.length + j) (by rw [e, List.length_append, List.length_append]; omega)
  rw [e, getD_app hj, ← e] at this
  rw [← this]
  congr 1
  exact (Nat.zero_add _).symm
theorem told_n {s : AS} {x y : Int} : stN (told s x y) = 65 + 6 * mN y + gN y := by
  have := tlS_n (L3 x y 6) (clS s)
  rw [L3_n] at this
  rw [this]
  show 0 + _ = _
  omega
theorem chN {c : Int} {d : Nat} (h : c = 48 + d) : iI c = nI (48 + d) := by rw [nI_iI, h]; rfl
theorem fEnd_book {g : Rw} {nb : Nat} {r w f h t : Int32} : fEnd (fBookTo g nb r w f h t) nb = f + h := by
  obtain ⟨i0, i2, i3, i4, i5⟩ := fBookTo_in (g := g) (nb := nb) (r := r) (w := w) (f := f) (h := h) (t := t)
  rw [fEnd, i2, i3]
theorem told_read (s : AS) {x y : Int} (hx : 0 ≤ x) (hy : 0 ≤ y) : ∃ g, pText (stT (told s x y)) (stN (told s x y)) (fClean g00) = ((stN (told s x y), true), g, mN y, gN y, 6) ∧ WK g (mN y) (gN y) 6 0 := by
  obtain ⟨mz, m1, m4⟩ := mN_Z hy
  obtain ⟨gz, g1, g5⟩ := gN_Z hy
  have hn := told_n (s := s) (x := x) (y := y)
  have P1 : ∀ r, r ≤ mN y → ∃ g, PZ (stT (told s x y)) (stN (told s x y)) (5 + 6 * r) r 0 0 g (1 + r) := by
    intro r
    induction r with
    | zero =>
      intro _
      obtain ⟨R, e⟩ := pre13 (x := x) (y := y) (k := 0) (by omega)
      have ea : L3 x y 6 = [] ++ hdL y ++ R := by rw [e, L1]; rfl
      have c := fun (j : Nat) (h : j < 5) => told_at (s := s) ea (j := j) h
      have c0 : stT (told s x y) 0 = 72 := (c 0 (by omega)).trans (by show iI 72 = 72; decide)
      have c1 : stT (told s x y) 1 = 111 := (c 1 (by omega)).trans (by show iI 111 = 111; decide)
      have c2 : stT (told s x y) (1 + 1) = 43 := (c 2 (by omega)).trans (by show iI 43 = 43; decide)
      have c3 : stT (told s x y) (1 + 2) = nI (48 + ((y / 20) % 16).toNat / 10) := (c 3 (by omega)).trans (chN (by show (48 + ((y / 20) % 16) / 10 : Int) = _; omega))
      have c4 : stT (told s x y) (1 + 3) = nI (48 + ((y / 20) % 16).toNat % 10) := (c 4 (by omega)).trans (chN (by show (48 + ((y / 20) % 16) % 10 : Int) = _; omega))
      have z0 := PZ.start (T := stT (told s x y)) (n := stN (told s x y)) (by omega) c0
      have hv : ((y / 20) % 16).toNat ≤ 25 := by omega
      exact ⟨_, z0.step (by omega) (by omega) (pp_out (by omega) c1 c2 c3 c4 hv) (WK.clean.out ⟨Int32.le_trans (by decide) (nI_pos' (n := ((y / 20) % 16).toNat) (by omega)), nI_le (b := 25) hv (by omega)⟩)⟩
    | succ r ih =>
      intro hr
      obtain ⟨g, z⟩ := ih (by omega)
      obtain ⟨R, e⟩ := pre13 (x := x) (y := y) (k := r + 1) hr
      rw [L1] at e
      have c := fun (j : Nat) (h : j < 6) => told_at (s := s) e (j := j) h
      rw [L1_n] at c
      have k1 := mk_rng255 x r
      have k2 := mk_rng255 y r
      have k3 := mk_rng255 x (r + 3)
      have k4 := mk_rng255 x (2 * r)
      have hW := z.2.2.1
      refine ⟨_, z.step (p' := 5 + 6 * (r + 1)) (by omega) (by omega) (pp_room (a := (1 + mk x r 255 % 9).toNat) (b := (1 + mk y r 255 % 9).toNat) (c := (1 + mk x (r + 3) 255 % 9).toNat) (v := (mk x (2 * r) 255 % 22).toNat) (by omega) (by omega) ((c 0 (by omega)).trans (by show iI 114 = 114; decide)) ((c 1 (by omega)).trans (chN (by show (49 + mk x r 255 % 9 : Int) = _; omega))) ((c 2 (by omega)).trans (chN (by show (49 + mk y r 255 % 9 : Int) = _; omega))) ((c 3 (by omega)).trans (chN (by show (49 + mk x (r + 3) 255 % 9 : Int) = _; omega))) ((c 4 (by omega)).trans (chN (by show (48 + (mk x (2 * r) 255 % 22) / 10 : Int) = _; omega))) ((c 5 (by omega)).trans (chN (by show (48 + (mk x (2 * r) 255 % 22) % 10 : Int) = _; omega))) (by omega) (by omega) (by omega) (by omega)) ?_⟩
      exact hW.addRoom (by omega) (by omega) (by omega) (by omega) (by rw [nI_toInt (by omega)]; omega)
  have P2 : ∀ k, k ≤ gN y → ∃ g, PZ (stT (told s x y)) (stN (told s x y)) (5 + 6 * mN y + k) (mN y) k 0 g (1 + mN y + k) := by
    intro k
    induction k with
    | zero => intro _; exact P1 (mN y) (Nat.le_refl _)
    | succ k ih =>
      intro hk
      obtain ⟨g, z⟩ := ih (by omega)
      obtain ⟨R, e⟩ := pre23 (x := x) (y := y) (k := k + 1) hk
      rw [L2] at e
      have c := fun (j : Nat) (h : j < 1) => told_at (s := s) e (j := j) h
      rw [L2_n] at c
      have hW := z.2.2.1
      refine ⟨_, z.step (p' := 5 + 6 * mN y + (k + 1)) (by omega) (by omega) (pp_grp (by omega) (by omega) ((c 0 (by omega)).trans (by show iI 103 = 103; decide))) ?_⟩
      have q := PI.grp z.2.1 (by omega)
      rw [← q]
      exact hW.addGroup (by omega)
  have P3 : ∀ k, k ≤ 6 → ∃ g, PZ (stT (told s x y)) (stN (told s x y)) (5 + 6 * mN y + gN y + 10 * k) (mN y) (gN y) k g (1 + mN y + gN y + k) ∧ ∀ i, i < k → fEnd g i ≤ nI (8 * k) := by
    intro k
    induction k with
    | zero =>
      intro _
      obtain ⟨g, z⟩ := P2 (gN y) (Nat.le_refl _)
      exact ⟨g, z, fun i hi => absurd hi (Nat.not_lt_zero _)⟩
    | succ k ih =>
      intro hk
      obtain ⟨g, z, hE⟩ := ih (by omega)
      obtain ⟨R, e⟩ := pre3 (x := x) (y := y) 6 (k + 1) hk
      rw [show L3 x y (k + 1) = L3 x y k ++ bookL x y k from rfl] at e
      have c := fun (j : Nat) (h : j < 10) => told_at (s := s) e (j := j) h
      rw [L3_n] at c
      have k1 := mk_rng4095 x k
      have hW := z.2.2.1
      have hv : 0 ≤ bkv x k := by unfold bkv; omega
      obtain ⟨r, hr1, hr2⟩ := emodN (a := (k : Int)) (b := 1 + y % 4) (by omega)
      obtain ⟨w, hw1, hw2⟩ := emodN (a := bkv x k) (b := 1 + (y / 4) % 5) (by omega)
      obtain ⟨f, hf⟩ : ∃ f : Nat, 8 * (k : Int) + (bkv x k / 5) % 3 = f := ⟨(8 * (k : Int) + (bkv x k / 5) % 3).toNat, by omega⟩
      obtain ⟨h, hh⟩ : ∃ h : Nat, 1 + (bkv x k / 15) % 6 = (h : Int) := ⟨(1 + (bkv x k / 15) % 6).toNat, by omega⟩
      obtain ⟨u, hu⟩ : ∃ u : Nat, 12 + (bkv x k / 90) % 14 = (u : Int) := ⟨(12 + (bkv x k / 90) % 14).toNat, by omega⟩
      have hfree : fFree g (nI r) (nI f) (nI h) k := fun b hb => Or.inr (Or.inl (Int32.le_trans (hE b hb) (nI_le (by omega) (by omega))))
      have z2 := z.step (p' := 5 + 6 * mN y + gN y + 10 * (k + 1)) (by omega) (by omega) (pp_book (r := r) (w := w) (f := f) (h := h) (u := u) (by omega) (by omega) ((c 0 (by omega)).trans (by show iI 98 = 98; decide)) ((c 1 (by omega)).trans (chN (by show (48 + (k : Int) % (1 + y % 4) : Int) = _; omega))) ((c 2 (by omega)).trans (chN (by show (48 + bkv x k % (1 + (y / 4) % 5) : Int) = _; omega))) ((c 3 (by omega)).trans (by show iI 48 = nI 48; decide)) ((c 4 (by omega)).trans (chN (by show (48 + (8 * k + (bkv x k / 5) % 3) / 10 : Int) = _; omega))) ((c 5 (by omega)).trans (chN (by show (48 + (8 * k + (bkv x k / 5) % 3) % 10 : Int) = _; omega))) ((c 6 (by omega)).trans (chN (by show (48 + (1 + (bkv x k / 15) % 6) / 10 : Int) = _; omega))) ((c 7 (by omega)).trans (chN (by show (48 + (1 + (bkv x k / 15) % 6) % 10 : Int) = _; omega))) ((c 8 (by omega)).trans (chN (by show (48 + (12 + (bkv x k / 90) % 14) / 10 : Int) = _; omega))) ((c 9 (by omega)).trans (chN (by show (48 + (12 + (bkv x k / 90) % 14) % 10 : Int) = _; omega))) (by omega) (by omega) (by omega) (by omega) (by omega) (by omega) (by omega) hfree) (hW.book (by omega) (by omega) (by omega) (by omega) (by omega) (by omega) (by omega) hfree)
      refine ⟨_, z2, fun i hi => ?_⟩
      by_cases q : i = k
      · subst q
        rw [fEnd_book, nI_add]
        exact nI_le (by omega) (by omega)
      · have : fEnd (fBookTo g k (nI r) (nI w) (nI f) (nI h) (nI u)) i = fEnd g i := by rw [fEnd, fEnd, fBookTo_off (by omega) (by omega), fBookTo_off (by omega) (by omega)]
        rw [this]
        exact Int32.le_trans (hE i (by omega)) (nI_le (by omega) (by omega))
  obtain ⟨g, z, -⟩ := P3 6 (Nat.le_refl _)
  rw [show 5 + 6 * mN y + gN y + 10 * 6 = stN (told s x y) by omega] at z
  exact ⟨g, z.done, z.2.2.1⟩
set_option maxHeartbeats 16000000 in
theorem k_tells {σ : Sg} {s : AS} (hI : CI σ s) {x y : Int} (hx : 0 ≤ x) (hx2 : x < 2147483648) (hy : 0 ≤ y) (hy2 : y < 2147483648) : Ct yL_tells cL_tells mL_tells 12 752 4512 NN false σ [.ref 0, .int (iI x), .int (iI y)] NN (rI fun τ y0 => CI τ (told s x y) ∧ iI 1 = y0) XF := by
  refine ct_of (ls0 := [some (.ref 0), some (.int (iI x)), some (.int (iI y)), none, none, none, none, none]) 5 (by decide +kernel) rfl rfl (ndR (ndI (ndI nd0))) rfl (Nat.le_of_ble_eq_true rfl) (fun K => ?_)
  obtain ⟨mz, m1, m4⟩ := mN_Z hy
  obtain ⟨gz, g1, g5⟩ := gN_Z hy
  obtain ⟨gr, hrd, hrW⟩ := told_read s hx hy
  have h120 := hI.n120
  have hcl : stN (clS s) = 0 := rfl
  have J223 : ∀ (k i : Nat) (h1 : i ≤ 6) (h2 : 6 - i < k) (τ : Sg) (h : CI τ (tlS (clS s) (L3 x y i))) (cells slots : Nat) (hb : cells + 8 * (10 * (6 - i)) ≤ 752) (hs : slots + 48 * (10 * (6 - i)) ≤ 4512), AW K yL_tells.cls cL_tells mL_tells 12 752 4512 (Qm K NN (rI fun τ y0 => CI τ (told s x y) ∧ iI 1 = y0) XF 752 4512) NN none τ cells slots 223 [some (.ref 0), some (.int (iI (x))), some (.int (iI (y))), some (.int (iI ((1 + (y % 4))))), some (.int (iI ((1 + ((y / 4) % 5))))), some (.int (iI (1))), some (.int (iI ((i : Int)))), none] [] := by
    intro k
    induction k with
    | zero => intro i h1 h2; exact absurd h2 (Nat.not_lt_zero _)
    | succ k ih =>
      intro i h1 h2 τ h cells slots hb hs
      have hl : stN (tlS (clS s) (L3 x y i)) = 0 + _ := (tlS_n _ _).trans (congrArg (fun z => 0 + z) (L3_n i))
      refine aw_iload6 dL_tells_223 ?_
      refine aw_bipush (v := iI (6)) dL_tells_225 (by decide) ?_
      refine ai_ic_ge (tgt := 365) dL_tells_227 (by decide) (by omega) (by omega) (by omega) (by omega) (fun c_227 => ?_) (fun c_227 => ?_)
      · obtain rfl : i = 6 := by omega
        refine aw_iload5 dL_tells_365 ?_
        refine ai_if_eq (tgt := 383) dL_tells_367 (by decide) (by omega) (by omega) (fun c_367 => absurd c_367 (by decide)) (fun _ => ?_)
        refine aw_aload0 dL_tells_370 ?_
        refine ac_V (As := []) (q6_errorPosition h) dL_tells_371 vl_L_186 rfl (by decide) (by decide) (Nat.le_of_ble_eq_true rfl) hb hs (B2 := 752) (B2' := 4512) rfl rfl (by omega) (by omega) (fun τ_371 r_371 c_ s_ h_371 hb_ hs_ => ?_)
        replace hb := hb_
        replace hs := hs_
        clear hb_ hs_
        obtain ⟨v_371, rfl, i_371, e_371⟩ := h_371
        obtain rfl : (iI (-99)) = v_371 := ((show pErr (pText (stT (told s x y)) (stN (told s x y)) (fClean g00)).1 = iI (-99) from by rw [hrd]; show (-99 : Int32) = iI (-99); decide).symm.trans e_371)
        refine aw_bipush (v := iI (-99)) dL_tells_374 (by decide) ?_
        refine ai_ic_ne (tgt := 383) dL_tells_376 (by decide) (by omega) (by omega) (by omega) (by omega) (fun c_376 => absurd c_376 (by decide)) (fun _ => ?_)
        refine aw_iconst (v := iI (1)) dL_tells_379 rfl ?_
        refine aw_goto (tgt := 384) dL_tells_380 (by decide) ?_
        exact aw_zret dL_tells_384 rfl (by decide) ⟨by omega, by omega⟩ ⟨_, rfl, i_371, rfl⟩
      · refine aw_iload5 dL_tells_230 ?_
        refine ai_if_eq (tgt := 365) dL_tells_232 (by decide) (by omega) (by omega) (fun c_232 => absurd c_232 (by decide)) (fun _ => ?_)
        refine aw_iload1 dL_tells_235 ?_
        refine aw_iload6 dL_tells_236 ?_
        refine aw_ishr dL_tells_238 ?_
        refine aw_sipush (v := iI (4095)) dL_tells_239 (by decide) ?_
        refine aw_iand7 (v := iI (mk (x) ((i : Int)) 4095)) dL_tells_242 (mk_e _ _ _) ?_
        have k_242 := mk_rng4095 (x) ((i : Int))
        refine aw_bipush (v := iI (53)) dL_tells_243 (by decide) ?_
        refine aw_iload6 dL_tells_245 ?_
        refine ai_imul dL_tells_247 ?_
        refine ai_iadd dL_tells_248 ?_
        rw [show ((mk (x) ((i : Int)) 4095) + (53 * (i : Int))) = bkv x i from rfl]
        have kv : 0 ≤ bkv x i ∧ bkv x i ≤ 5000 := by unfold bkv; omega
        refine aw_istore7 dL_tells_249 (Nat.le_of_ble_eq_true rfl) rfl ?_
        refine aw_aload0 dL_tells_251 ?_
        refine aw_bipush (v := iI (98)) dL_tells_252 (by decide) ?_
        refine ac_S (As := [.ref 0, .int (iI (98))]) (k_says h (c := 98) (by omega) (by show stN (tlS (clS s) (L3 x y i)) < 120; omega)) dL_tells_254 sl_L_194 (by decide) (Nat.le_of_ble_eq_true rfl) hb hs (B2 := 760) (B2' := 4560) rfl rfl (by omega) (by omega) (fun τ_254 r_254 c_ s_ h_254 hb_ hs_ => ?_)
        replace hb := hb_
        replace hs := hs_
        clear hb_ hs_
        obtain ⟨v_254, rfl, i_254, e_254⟩ := h_254
        obtain rfl : (iI (1)) = v_254 := e_254
        refine ai_if_eq (tgt := 356) dL_tells_257 (by decide) (by omega) (by omega) (fun c_257 => absurd c_257 (by decide)) (fun _ => ?_)
        refine aw_aload0 dL_tells_260 ?_
        refine aw_bipush (v := iI (48)) dL_tells_261 (by decide) ?_
        have kr := Int.emod_nonneg ((i : Int)) (show ((1 + (y % 4)) : Int) ≠ 0 by omega)
        have kr2 := Int.emod_lt_of_pos ((i : Int)) (show (0 : Int) < (1 + (y % 4)) by omega)
        refine aw_iload6 dL_tells_263 ?_
        refine aw_iload3 dL_tells_265 ?_
        refine ai_irem dL_tells_266 (by omega) (by omega) (by omega) (by omega) ?_
        refine ai_iadd dL_tells_267 ?_
        refine ac_S (As := [.ref 0, .int (iI ((48 + ((i : Int) % (1 + (y % 4))))))]) (k_says i_254 (c := (48 + ((i : Int) % (1 + (y % 4))))) (by omega) (by show stN (tlS (clS s) (L3 x y i)) + 1 < 120; omega)) dL_tells_268 sl_L_194 (by decide) (Nat.le_of_ble_eq_true rfl) hb hs (B2 := 768) (B2' := 4608) rfl rfl (by omega) (by omega) (fun τ_268 r_268 c_ s_ h_268 hb_ hs_ => ?_)
        replace hb := hb_
        replace hs := hs_
        clear hb_ hs_
        obtain ⟨v_268, rfl, i_268, e_268⟩ := h_268
        obtain rfl : (iI (1)) = v_268 := e_268
        refine ai_if_eq (tgt := 356) dL_tells_271 (by decide) (by omega) (by omega) (fun c_271 => absurd c_271 (by decide)) (fun _ => ?_)
        refine aw_aload0 dL_tells_274 ?_
        refine aw_bipush (v := iI (48)) dL_tells_275 (by decide) ?_
        have kw := Int.emod_nonneg (bkv x i) (show ((1 + ((y / 4) % 5)) : Int) ≠ 0 by omega)
        have kw2 := Int.emod_lt_of_pos (bkv x i) (show (0 : Int) < (1 + ((y / 4) % 5)) by omega)
        refine aw_iload7 dL_tells_277 ?_
        refine aw_iload4 dL_tells_279 ?_
        refine ai_irem dL_tells_281 (by omega) (by omega) (by omega) (by omega) ?_
        refine ai_iadd dL_tells_282 ?_
        refine ac_S (As := [.ref 0, .int (iI ((48 + ((bkv x i) % (1 + ((y / 4) % 5))))))]) (k_says i_268 (c := (48 + ((bkv x i) % (1 + ((y / 4) % 5))))) (by omega) (by show stN (tlS (clS s) (L3 x y i)) + 1 + 1 < 120; omega)) dL_tells_283 sl_L_194 (by decide) (Nat.le_of_ble_eq_true rfl) hb hs (B2 := 776) (B2' := 4656) rfl rfl (by omega) (by omega) (fun τ_283 r_283 c_ s_ h_283 hb_ hs_ => ?_)
        replace hb := hb_
        replace hs := hs_
        clear hb_ hs_
        obtain ⟨v_283, rfl, i_283, e_283⟩ := h_283
        obtain rfl : (iI (1)) = v_283 := e_283
        refine ai_if_eq (tgt := 356) dL_tells_286 (by decide) (by omega) (by omega) (fun c_286 => absurd c_286 (by decide)) (fun _ => ?_)
        refine aw_aload0 dL_tells_289 ?_
        refine aw_bipush (v := iI (48)) dL_tells_290 (by decide) ?_
        refine ac_S (As := [.ref 0, .int (iI (48))]) (k_says i_283 (c := 48) (by omega) (by show stN (tlS (clS s) (L3 x y i)) + 1 + 1 + 1 < 120; omega)) dL_tells_292 sl_L_194 (by decide) (Nat.le_of_ble_eq_true rfl) hb hs (B2 := 784) (B2' := 4704) rfl rfl (by omega) (by omega) (fun τ_292 r_292 c_ s_ h_292 hb_ hs_ => ?_)
        replace hb := hb_
        replace hs := hs_
        clear hb_ hs_
        obtain ⟨v_292, rfl, i_292, e_292⟩ := h_292
        obtain rfl : (iI (1)) = v_292 := e_292
        refine ai_if_eq (tgt := 356) dL_tells_295 (by decide) (by omega) (by omega) (fun c_295 => absurd c_295 (by decide)) (fun _ => ?_)
        refine aw_aload0 dL_tells_298 ?_
        refine aw_bipush (v := iI (8)) dL_tells_299 (by decide) ?_
        refine aw_iload6 dL_tells_301 ?_
        refine ai_imul dL_tells_303 ?_
        refine aw_iload7 dL_tells_304 ?_
        refine aw_iconst (v := iI (5)) dL_tells_306 rfl ?_
        refine ai_idiv dL_tells_307 (by omega) (by omega) (by omega) (by omega) ?_
        refine aw_iconst (v := iI (3)) dL_tells_308 rfl ?_
        refine ai_irem dL_tells_309 (by omega) (by omega) (by omega) (by omega) ?_
        refine ai_iadd dL_tells_310 ?_
        refine ac_S (As := [.ref 0, .int (iI (((8 * (i : Int)) + (((bkv x i) / 5) % 3))))]) (k_two i_292 (v := ((8 * (i : Int)) + (((bkv x i) / 5) % 3))) (by omega) (by show stN (tlS (clS s) (L3 x y i)) + 1 + 1 + 1 + 1 + 1 < 120; omega)) dL_tells_311 sl_L_201 (by decide) (Nat.le_of_ble_eq_true rfl) hb hs (B2 := 800) (B2' := 4800) rfl rfl (by omega) (by omega) (fun τ_311 r_311 c_ s_ h_311 hb_ hs_ => ?_)
        replace hb := hb_
        replace hs := hs_
        clear hb_ hs_
        obtain ⟨v_311, rfl, i_311, e_311⟩ := h_311
        obtain rfl : (iI (1)) = v_311 := e_311
        refine ai_if_eq (tgt := 356) dL_tells_314 (by decide) (by omega) (by omega) (fun c_314 => absurd c_314 (by decide)) (fun _ => ?_)
        refine aw_aload0 dL_tells_317 ?_
        refine aw_iconst (v := iI (1)) dL_tells_318 rfl ?_
        refine aw_iload7 dL_tells_319 ?_
        refine aw_bipush (v := iI (15)) dL_tells_321 (by decide) ?_
        refine ai_idiv dL_tells_323 (by omega) (by omega) (by omega) (by omega) ?_
        refine aw_bipush (v := iI (6)) dL_tells_324 (by decide) ?_
        refine ai_irem dL_tells_326 (by omega) (by omega) (by omega) (by omega) ?_
        refine ai_iadd dL_tells_327 ?_
        refine ac_S (As := [.ref 0, .int (iI ((1 + (((bkv x i) / 15) % 6))))]) (k_two i_311 (v := (1 + (((bkv x i) / 15) % 6))) (by omega) (by show stN (tlS (clS s) (L3 x y i)) + 1 + 1 + 1 + 1 + 1 + 1 + 1 < 120; omega)) dL_tells_328 sl_L_201 (by decide) (Nat.le_of_ble_eq_true rfl) hb hs (B2 := 816) (B2' := 4896) rfl rfl (by omega) (by omega) (fun τ_328 r_328 c_ s_ h_328 hb_ hs_ => ?_)
        replace hb := hb_
        replace hs := hs_
        clear hb_ hs_
        obtain ⟨v_328, rfl, i_328, e_328⟩ := h_328
        obtain rfl : (iI (1)) = v_328 := e_328
        refine ai_if_eq (tgt := 356) dL_tells_331 (by decide) (by omega) (by omega) (fun c_331 => absurd c_331 (by decide)) (fun _ => ?_)
        refine aw_aload0 dL_tells_334 ?_
        refine aw_bipush (v := iI (12)) dL_tells_335 (by decide) ?_
        refine aw_iload7 dL_tells_337 ?_
        refine aw_bipush (v := iI (90)) dL_tells_339 (by decide) ?_
        refine ai_idiv dL_tells_341 (by omega) (by omega) (by omega) (by omega) ?_
        refine aw_bipush (v := iI (14)) dL_tells_342 (by decide) ?_
        refine ai_irem dL_tells_344 (by omega) (by omega) (by omega) (by omega) ?_
        refine ai_iadd dL_tells_345 ?_
        refine ac_S (As := [.ref 0, .int (iI ((12 + (((bkv x i) / 90) % 14))))]) (k_two i_328 (v := (12 + (((bkv x i) / 90) % 14))) (by omega) (by show stN (tlS (clS s) (L3 x y i)) + 1 + 1 + 1 + 1 + 1 + 1 + 1 + 1 + 1 < 120; omega)) dL_tells_346 sl_L_201 (by decide) (Nat.le_of_ble_eq_true rfl) hb hs (B2 := 832) (B2' := 4992) rfl rfl (by omega) (by omega) (fun τ_346 r_346 c_ s_ h_346 hb_ hs_ => ?_)
        replace hb := hb_
        replace hs := hs_
        clear hb_ hs_
        obtain ⟨v_346, rfl, i_346, e_346⟩ := h_346
        obtain rfl : (iI (1)) = v_346 := e_346
        refine ai_if_eq (tgt := 356) dL_tells_349 (by decide) (by omega) (by omega) (fun c_349 => absurd c_349 (by decide)) (fun _ => ?_)
        refine aw_iconst (v := iI (1)) dL_tells_352 rfl ?_
        refine aw_goto (tgt := 357) dL_tells_353 (by decide) ?_
        refine aw_istore5 dL_tells_357 (Nat.le_of_ble_eq_true rfl) rfl ?_
        refine aw_iinc6 (w := (iI (((i + 1 : Nat) : Int)))) dL_tells_359 (iinc_N rfl) (Nat.le_of_ble_eq_true rfl) rfl ?_
        refine aw_goto (tgt := 223) dL_tells_362 (by decide) ?_
        refine AW.loc (ls' := [some (.ref 0), some (.int (iI (x))), some (.int (iI (y))), some (.int (iI ((1 + (y % 4))))), some (.int (iI ((1 + ((y / 4) % 5))))), some (.int (iI (1))), some (.int (iI (((i + 1 : Nat) : Int)))), none]) (loc_c (loc_c (loc_c (loc_c (loc_c (loc_c (loc_c (loc_n loc_r)))))))) ?_
        have j_ : CI τ_346 (tlS (clS s) (L3 x y (i + 1))) := by
          have e9 : (tlS (clS s) (L3 x y (i + 1))) = (apS (apS (apS (apS (apS (apS (apS (apS (apS (apS (tlS (clS s) (L3 x y i)) (98)) ((48 + ((i : Int) % (1 + (y % 4)))))) ((48 + ((bkv x i) % (1 + ((y / 4) % 5)))))) (48)) (48 + ((8 * (i : Int)) + (((bkv x i) / 5) % 3)) / 10)) (48 + ((8 * (i : Int)) + (((bkv x i) / 5) % 3)) % 10)) (48 + (1 + (((bkv x i) / 15) % 6)) / 10)) (48 + (1 + (((bkv x i) / 15) % 6)) % 10)) (48 + (12 + (((bkv x i) / 90) % 14)) / 10)) (48 + (12 + (((bkv x i) / 90) % 14)) % 10)) := tlS_app
          rw [e9]
          exact i_346
        exact ih (i + 1) (by omega) (by omega) _ j_ _ _ (by omega) (by omega)
  have J194 : ∀ (k i : Nat) (h1 : i ≤ gN y) (h2 : gN y - i < k) (τ : Sg) (h : CI τ (tlS (clS s) (L2 x y i))) (cells slots : Nat) (hb : cells + 8 * (60 + (gN y - i)) ≤ 752) (hs : slots + 48 * (60 + (gN y - i)) ≤ 4512), AW K yL_tells.cls cL_tells mL_tells 12 752 4512 (Qm K NN (rI fun τ y0 => CI τ (told s x y) ∧ iI 1 = y0) XF 752 4512) NN none τ cells slots 194 [some (.ref 0), some (.int (iI (x))), some (.int (iI (y))), some (.int (iI ((1 + (y % 4))))), some (.int (iI ((1 + ((y / 4) % 5))))), some (.int (iI (1))), some (.int (iI ((i : Int)))), none] [] := by
    intro k
    induction k with
    | zero => intro i h1 h2; exact absurd h2 (Nat.not_lt_zero _)
    | succ k ih =>
      intro i h1 h2 τ h cells slots hb hs
      have hl : stN (tlS (clS s) (L2 x y i)) = 0 + _ := (tlS_n _ _).trans (congrArg (fun z => 0 + z) (L2_n i))
      refine aw_iload6 dL_tells_194 ?_
      refine aw_iload4 dL_tells_196 ?_
      refine ai_ic_ge (tgt := 220) dL_tells_198 (by decide) (by omega) (by omega) (by omega) (by omega) (fun c_198 => ?_) (fun c_198 => ?_)
      · obtain rfl : i = gN y := by omega
        refine aw_iconst (v := iI (0)) dL_tells_220 rfl ?_
        refine aw_istore6 dL_tells_221 (Nat.le_of_ble_eq_true rfl) rfl ?_
        exact J223 _ 0 (Nat.zero_le _) (Nat.lt_succ_self _) _ h _ _ (by omega) (by omega)
      · refine aw_iload5 dL_tells_201 ?_
        refine ai_if_eq (tgt := 220) dL_tells_203 (by decide) (by omega) (by omega) (fun c_203 => absurd c_203 (by decide)) (fun _ => ?_)
        refine aw_aload0 dL_tells_206 ?_
        refine aw_bipush (v := iI (103)) dL_tells_207 (by decide) ?_
        refine ac_S (As := [.ref 0, .int (iI (103))]) (k_says h (c := 103) (by omega) (by show stN (tlS (clS s) (L2 x y i)) < 120; omega)) dL_tells_209 sl_L_194 (by decide) (Nat.le_of_ble_eq_true rfl) hb hs (B2 := 760) (B2' := 4560) rfl rfl (by omega) (by omega) (fun τ_209 r_209 c_ s_ h_209 hb_ hs_ => ?_)
        replace hb := hb_
        replace hs := hs_
        clear hb_ hs_
        obtain ⟨v_209, rfl, i_209, e_209⟩ := h_209
        obtain rfl : (iI (1)) = v_209 := e_209
        refine aw_istore5 dL_tells_212 (Nat.le_of_ble_eq_true rfl) rfl ?_
        refine aw_iinc6 (w := (iI (((i + 1 : Nat) : Int)))) dL_tells_214 (iinc_N rfl) (Nat.le_of_ble_eq_true rfl) rfl ?_
        refine aw_goto (tgt := 194) dL_tells_217 (by decide) ?_
        have j_ : CI τ_209 (tlS (clS s) (L2 x y (i + 1))) := by
          have e9 : (tlS (clS s) (L2 x y (i + 1))) = (apS (tlS (clS s) (L2 x y i)) (103)) := tlS_app
          rw [e9]
          exact i_209
        exact ih (i + 1) (by omega) (by omega) _ j_ _ _ (by omega) (by omega)
  have J73 : ∀ (k i : Nat) (h1 : i ≤ mN y) (h2 : mN y - i < k) (τ : Sg) (h : CI τ (tlS (clS s) (L1 x y i))) (cells slots : Nat) (hb : cells + 8 * (60 + gN y + 6 * (mN y - i)) ≤ 752) (hs : slots + 48 * (60 + gN y + 6 * (mN y - i)) ≤ 4512), AW K yL_tells.cls cL_tells mL_tells 12 752 4512 (Qm K NN (rI fun τ y0 => CI τ (told s x y) ∧ iI 1 = y0) XF 752 4512) NN none τ cells slots 73 [some (.ref 0), some (.int (iI (x))), some (.int (iI (y))), some (.int (iI ((1 + (y % 4))))), some (.int (iI ((1 + ((y / 4) % 5))))), some (.int (iI (1))), some (.int (iI ((i : Int)))), none] [] := by
    intro k
    induction k with
    | zero => intro i h1 h2; exact absurd h2 (Nat.not_lt_zero _)
    | succ k ih =>
      intro i h1 h2 τ h cells slots hb hs
      have hl : stN (tlS (clS s) (L1 x y i)) = 0 + _ := (tlS_n _ _).trans (congrArg (fun z => 0 + z) (L1_n i))
      refine aw_iload6 dL_tells_73 ?_
      refine aw_iload3 dL_tells_75 ?_
      refine ai_ic_ge (tgt := 191) dL_tells_76 (by decide) (by omega) (by omega) (by omega) (by omega) (fun c_76 => ?_) (fun c_76 => ?_)
      · obtain rfl : i = mN y := by omega
        refine aw_iconst (v := iI (0)) dL_tells_191 rfl ?_
        refine aw_istore6 dL_tells_192 (Nat.le_of_ble_eq_true rfl) rfl ?_
        exact J194 _ 0 (Nat.zero_le _) (Nat.lt_succ_self _) _ h _ _ (by omega) (by omega)
      · refine aw_iload5 dL_tells_79 ?_
        refine ai_if_eq (tgt := 191) dL_tells_81 (by decide) (by omega) (by omega) (fun c_81 => absurd c_81 (by decide)) (fun _ => ?_)
        refine aw_aload0 dL_tells_84 ?_
        refine aw_bipush (v := iI (114)) dL_tells_85 (by decide) ?_
        refine ac_S (As := [.ref 0, .int (iI (114))]) (k_says h (c := 114) (by omega) (by show stN (tlS (clS s) (L1 x y i)) < 120; omega)) dL_tells_87 sl_L_194 (by decide) (Nat.le_of_ble_eq_true rfl) hb hs (B2 := 760) (B2' := 4560) rfl rfl (by omega) (by omega) (fun τ_87 r_87 c_ s_ h_87 hb_ hs_ => ?_)
        replace hb := hb_
        replace hs := hs_
        clear hb_ hs_
        obtain ⟨v_87, rfl, i_87, e_87⟩ := h_87
        obtain rfl : (iI (1)) = v_87 := e_87
        refine ai_if_eq (tgt := 182) dL_tells_90 (by decide) (by omega) (by omega) (fun c_90 => absurd c_90 (by decide)) (fun _ => ?_)
        refine aw_aload0 dL_tells_93 ?_
        refine aw_bipush (v := iI (49)) dL_tells_94 (by decide) ?_
        refine aw_iload1 dL_tells_96 ?_
        refine aw_iload6 dL_tells_97 ?_
        refine aw_ishr dL_tells_99 ?_
        refine aw_sipush (v := iI (255)) dL_tells_100 (by decide) ?_
        refine aw_iand7 (v := iI (mk (x) ((i : Int)) 255)) dL_tells_103 (mk_e _ _ _) ?_
        have k_103 := mk_rng255 (x) ((i : Int))
        refine aw_bipush (v := iI (9)) dL_tells_104 (by decide) ?_
        refine ai_irem dL_tells_106 (by omega) (by omega) (by omega) (by omega) ?_
        refine ai_iadd dL_tells_107 ?_
        refine ac_S (As := [.ref 0, .int (iI ((49 + ((mk (x) ((i : Int)) 255) % 9))))]) (k_says i_87 (c := (49 + ((mk (x) ((i : Int)) 255) % 9))) (by omega) (by show stN (tlS (clS s) (L1 x y i)) + 1 < 120; omega)) dL_tells_108 sl_L_194 (by decide) (Nat.le_of_ble_eq_true rfl) hb hs (B2 := 768) (B2' := 4608) rfl rfl (by omega) (by omega) (fun τ_108 r_108 c_ s_ h_108 hb_ hs_ => ?_)
        replace hb := hb_
        replace hs := hs_
        clear hb_ hs_
        obtain ⟨v_108, rfl, i_108, e_108⟩ := h_108
        obtain rfl : (iI (1)) = v_108 := e_108
        refine ai_if_eq (tgt := 182) dL_tells_111 (by decide) (by omega) (by omega) (fun c_111 => absurd c_111 (by decide)) (fun _ => ?_)
        refine aw_aload0 dL_tells_114 ?_
        refine aw_bipush (v := iI (49)) dL_tells_115 (by decide) ?_
        refine aw_iload2 dL_tells_117 ?_
        refine aw_iload6 dL_tells_118 ?_
        refine aw_ishr dL_tells_120 ?_
        refine aw_sipush (v := iI (255)) dL_tells_121 (by decide) ?_
        refine aw_iand7 (v := iI (mk (y) ((i : Int)) 255)) dL_tells_124 (mk_e _ _ _) ?_
        have k_124 := mk_rng255 (y) ((i : Int))
        refine aw_bipush (v := iI (9)) dL_tells_125 (by decide) ?_
        refine ai_irem dL_tells_127 (by omega) (by omega) (by omega) (by omega) ?_
        refine ai_iadd dL_tells_128 ?_
        refine ac_S (As := [.ref 0, .int (iI ((49 + ((mk (y) ((i : Int)) 255) % 9))))]) (k_says i_108 (c := (49 + ((mk (y) ((i : Int)) 255) % 9))) (by omega) (by show stN (tlS (clS s) (L1 x y i)) + 1 + 1 < 120; omega)) dL_tells_129 sl_L_194 (by decide) (Nat.le_of_ble_eq_true rfl) hb hs (B2 := 776) (B2' := 4656) rfl rfl (by omega) (by omega) (fun τ_129 r_129 c_ s_ h_129 hb_ hs_ => ?_)
        replace hb := hb_
        replace hs := hs_
        clear hb_ hs_
        obtain ⟨v_129, rfl, i_129, e_129⟩ := h_129
        obtain rfl : (iI (1)) = v_129 := e_129
        refine ai_if_eq (tgt := 182) dL_tells_132 (by decide) (by omega) (by omega) (fun c_132 => absurd c_132 (by decide)) (fun _ => ?_)
        refine aw_aload0 dL_tells_135 ?_
        refine aw_bipush (v := iI (49)) dL_tells_136 (by decide) ?_
        refine aw_iload1 dL_tells_138 ?_
        refine aw_iload6 dL_tells_139 ?_
        refine aw_iconst (v := iI (3)) dL_tells_141 rfl ?_
        refine ai_iadd dL_tells_142 ?_
        refine aw_ishr dL_tells_143 ?_
        refine aw_sipush (v := iI (255)) dL_tells_144 (by decide) ?_
        refine aw_iand7 (v := iI (mk (x) (((i : Int) + 3)) 255)) dL_tells_147 (mk_e _ _ _) ?_
        have k_147 := mk_rng255 (x) (((i : Int) + 3))
        refine aw_bipush (v := iI (9)) dL_tells_148 (by decide) ?_
        refine ai_irem dL_tells_150 (by omega) (by omega) (by omega) (by omega) ?_
        refine ai_iadd dL_tells_151 ?_
        refine ac_S (As := [.ref 0, .int (iI ((49 + ((mk (x) (((i : Int) + 3)) 255) % 9))))]) (k_says i_129 (c := (49 + ((mk (x) (((i : Int) + 3)) 255) % 9))) (by omega) (by show stN (tlS (clS s) (L1 x y i)) + 1 + 1 + 1 < 120; omega)) dL_tells_152 sl_L_194 (by decide) (Nat.le_of_ble_eq_true rfl) hb hs (B2 := 784) (B2' := 4704) rfl rfl (by omega) (by omega) (fun τ_152 r_152 c_ s_ h_152 hb_ hs_ => ?_)
        replace hb := hb_
        replace hs := hs_
        clear hb_ hs_
        obtain ⟨v_152, rfl, i_152, e_152⟩ := h_152
        obtain rfl : (iI (1)) = v_152 := e_152
        refine ai_if_eq (tgt := 182) dL_tells_155 (by decide) (by omega) (by omega) (fun c_155 => absurd c_155 (by decide)) (fun _ => ?_)
        refine aw_aload0 dL_tells_158 ?_
        refine aw_iload1 dL_tells_159 ?_
        refine aw_iconst (v := iI (2)) dL_tells_160 rfl ?_
        refine aw_iload6 dL_tells_161 ?_
        refine ai_imul dL_tells_163 ?_
        refine aw_ishr dL_tells_164 ?_
        refine aw_sipush (v := iI (255)) dL_tells_165 (by decide) ?_
        refine aw_iand7 (v := iI (mk (x) ((2 * (i : Int))) 255)) dL_tells_168 (mk_e _ _ _) ?_
        have k_168 := mk_rng255 (x) ((2 * (i : Int)))
        refine aw_bipush (v := iI (22)) dL_tells_169 (by decide) ?_
        refine ai_irem dL_tells_171 (by omega) (by omega) (by omega) (by omega) ?_
        refine ac_S (As := [.ref 0, .int (iI (((mk (x) ((2 * (i : Int))) 255) % 22)))]) (k_two i_152 (v := ((mk (x) ((2 * (i : Int))) 255) % 22)) (by omega) (by show stN (tlS (clS s) (L1 x y i)) + 1 + 1 + 1 + 1 + 1 < 120; omega)) dL_tells_172 sl_L_201 (by decide) (Nat.le_of_ble_eq_true rfl) hb hs (B2 := 800) (B2' := 4800) rfl rfl (by omega) (by omega) (fun τ_172 r_172 c_ s_ h_172 hb_ hs_ => ?_)
        replace hb := hb_
        replace hs := hs_
        clear hb_ hs_
        obtain ⟨v_172, rfl, i_172, e_172⟩ := h_172
        obtain rfl : (iI (1)) = v_172 := e_172
        refine ai_if_eq (tgt := 182) dL_tells_175 (by decide) (by omega) (by omega) (fun c_175 => absurd c_175 (by decide)) (fun _ => ?_)
        refine aw_iconst (v := iI (1)) dL_tells_178 rfl ?_
        refine aw_goto (tgt := 183) dL_tells_179 (by decide) ?_
        refine aw_istore5 dL_tells_183 (Nat.le_of_ble_eq_true rfl) rfl ?_
        refine aw_iinc6 (w := (iI (((i + 1 : Nat) : Int)))) dL_tells_185 (iinc_N rfl) (Nat.le_of_ble_eq_true rfl) rfl ?_
        refine aw_goto (tgt := 73) dL_tells_188 (by decide) ?_
        have j_ : CI τ_172 (tlS (clS s) (L1 x y (i + 1))) := by
          have e9 : (tlS (clS s) (L1 x y (i + 1))) = (apS (apS (apS (apS (apS (apS (tlS (clS s) (L1 x y i)) (114)) ((49 + ((mk (x) ((i : Int)) 255) % 9)))) ((49 + ((mk (y) ((i : Int)) 255) % 9)))) ((49 + ((mk (x) (((i : Int) + 3)) 255) % 9)))) (48 + ((mk (x) ((2 * (i : Int))) 255) % 22) / 10)) (48 + ((mk (x) ((2 * (i : Int))) 255) % 22) % 10)) := tlS_app
          rw [e9]
          exact i_172
        exact ih (i + 1) (by omega) (by omega) _ j_ _ _ (by omega) (by omega)
  have hb : 0 + 752 ≤ 752 := by omega
  have hs : 0 + 4512 ≤ 4512 := by omega
  refine aw_iconst (v := iI (1)) dL_tells_0 rfl ?_
  refine aw_iload2 dL_tells_1 ?_
  refine aw_iconst (v := iI (4)) dL_tells_2 rfl ?_
  refine ai_irem dL_tells_3 (by omega) (by omega) (by omega) (by omega) ?_
  refine ai_iadd dL_tells_4 ?_
  refine aw_istore3 dL_tells_5 (Nat.le_of_ble_eq_true rfl) rfl ?_
  refine aw_iconst (v := iI (1)) dL_tells_6 rfl ?_
  refine aw_iload2 dL_tells_7 ?_
  refine aw_iconst (v := iI (4)) dL_tells_8 rfl ?_
  refine ai_idiv dL_tells_9 (by omega) (by omega) (by omega) (by omega) ?_
  refine aw_iconst (v := iI (5)) dL_tells_10 rfl ?_
  refine ai_irem dL_tells_11 (by omega) (by omega) (by omega) (by omega) ?_
  refine ai_iadd dL_tells_12 ?_
  refine aw_istore4 dL_tells_13 (Nat.le_of_ble_eq_true rfl) rfl ?_
  refine aw_aload0 dL_tells_15 ?_
  refine ac_V (As := []) (q6_clearText hI) dL_tells_16 vl_L_198 rfl (by decide) (by decide) (Nat.le_of_ble_eq_true rfl) hb hs (B2 := 752) (B2' := 4512) rfl rfl (by omega) (by omega) (fun τ_16 r_16 c_ s_ h_16 hb_ hs_ => ?_)
  replace hb := hb_
  replace hs := hs_
  clear hb_ hs_
  obtain ⟨v_16, rfl, i_16, e_16⟩ := h_16
  obtain rfl : (iI ((stN s : Int))) = v_16 := ((nI_iI _).symm.trans e_16)
  refine ai_if_lt (tgt := 67) dL_tells_19 (by decide) (by omega) (by omega) (fun c_19 => absurd c_19 (by omega)) (fun c_19 => ?_)
  refine aw_aload0 dL_tells_22 ?_
  refine aw_bipush (v := iI (72)) dL_tells_23 (by decide) ?_
  refine ac_S (As := [.ref 0, .int (iI (72))]) (k_says i_16 (c := 72) (by omega) (by show stN (clS s) < 120; omega)) dL_tells_25 sl_L_194 (by decide) (Nat.le_of_ble_eq_true rfl) hb hs (B2 := 760) (B2' := 4560) rfl rfl (by omega) (by omega) (fun τ_25 r_25 c_ s_ h_25 hb_ hs_ => ?_)
  replace hb := hb_
  replace hs := hs_
  clear hb_ hs_
  obtain ⟨v_25, rfl, i_25, e_25⟩ := h_25
  obtain rfl : (iI (1)) = v_25 := e_25
  refine ai_if_eq (tgt := 67) dL_tells_28 (by decide) (by omega) (by omega) (fun c_28 => absurd c_28 (by decide)) (fun _ => ?_)
  refine aw_aload0 dL_tells_31 ?_
  refine aw_bipush (v := iI (111)) dL_tells_32 (by decide) ?_
  refine ac_S (As := [.ref 0, .int (iI (111))]) (k_says i_25 (c := 111) (by omega) (by show stN (clS s) + 1 < 120; omega)) dL_tells_34 sl_L_194 (by decide) (Nat.le_of_ble_eq_true rfl) hb hs (B2 := 768) (B2' := 4608) rfl rfl (by omega) (by omega) (fun τ_34 r_34 c_ s_ h_34 hb_ hs_ => ?_)
  replace hb := hb_
  replace hs := hs_
  clear hb_ hs_
  obtain ⟨v_34, rfl, i_34, e_34⟩ := h_34
  obtain rfl : (iI (1)) = v_34 := e_34
  refine ai_if_eq (tgt := 67) dL_tells_37 (by decide) (by omega) (by omega) (fun c_37 => absurd c_37 (by decide)) (fun _ => ?_)
  refine aw_aload0 dL_tells_40 ?_
  refine aw_bipush (v := iI (43)) dL_tells_41 (by decide) ?_
  refine ac_S (As := [.ref 0, .int (iI (43))]) (k_says i_34 (c := 43) (by omega) (by show stN (clS s) + 1 + 1 < 120; omega)) dL_tells_43 sl_L_194 (by decide) (Nat.le_of_ble_eq_true rfl) hb hs (B2 := 776) (B2' := 4656) rfl rfl (by omega) (by omega) (fun τ_43 r_43 c_ s_ h_43 hb_ hs_ => ?_)
  replace hb := hb_
  replace hs := hs_
  clear hb_ hs_
  obtain ⟨v_43, rfl, i_43, e_43⟩ := h_43
  obtain rfl : (iI (1)) = v_43 := e_43
  refine ai_if_eq (tgt := 67) dL_tells_46 (by decide) (by omega) (by omega) (fun c_46 => absurd c_46 (by decide)) (fun _ => ?_)
  refine aw_aload0 dL_tells_49 ?_
  refine aw_iload2 dL_tells_50 ?_
  refine aw_bipush (v := iI (20)) dL_tells_51 (by decide) ?_
  refine ai_idiv dL_tells_53 (by omega) (by omega) (by omega) (by omega) ?_
  refine aw_bipush (v := iI (16)) dL_tells_54 (by decide) ?_
  refine ai_irem dL_tells_56 (by omega) (by omega) (by omega) (by omega) ?_
  refine ac_S (As := [.ref 0, .int (iI (((y / 20) % 16)))]) (k_two i_43 (v := ((y / 20) % 16)) (by omega) (by show stN (clS s) + 1 + 1 + 1 + 1 < 120; omega)) dL_tells_57 sl_L_201 (by decide) (Nat.le_of_ble_eq_true rfl) hb hs (B2 := 792) (B2' := 4752) rfl rfl (by omega) (by omega) (fun τ_57 r_57 c_ s_ h_57 hb_ hs_ => ?_)
  replace hb := hb_
  replace hs := hs_
  clear hb_ hs_
  obtain ⟨v_57, rfl, i_57, e_57⟩ := h_57
  obtain rfl : (iI (1)) = v_57 := e_57
  refine ai_if_eq (tgt := 67) dL_tells_60 (by decide) (by omega) (by omega) (fun c_60 => absurd c_60 (by decide)) (fun _ => ?_)
  refine aw_iconst (v := iI (1)) dL_tells_63 rfl ?_
  refine aw_goto (tgt := 68) dL_tells_64 (by decide) ?_
  refine aw_istore5 dL_tells_68 (Nat.le_of_ble_eq_true rfl) rfl ?_
  refine aw_iconst (v := iI (0)) dL_tells_70 rfl ?_
  refine aw_istore6 dL_tells_71 (Nat.le_of_ble_eq_true rfl) rfl ?_
  exact J73 _ 0 (Nat.zero_le _) (Nat.lt_succ_self _) _ i_57 _ _ (by omega) (by omega)
