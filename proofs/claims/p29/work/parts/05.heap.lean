/-! rows that read and write the world -/
def clR (ci : Nat) : String := match ci with
  | 0 => RX0 | 1 => RX1 | 2 => RX2 | 3 => RX3 | 4 => RX4 | 5 => RX5 | _ => RX6
def clT (ci : Nat) : u_T := match ci with
  | 0 => TX0 | 1 => TX1 | 2 => TX2 | 3 => TX3 | 4 => TX4 | 5 => TX5 | _ => TX6
def clY (ci : Nat) : Nat → FieldType := match ci with
  | 0 => tyX0 | 1 => tyX1 | 2 => tyX2 | 3 => tyX3 | 4 => tyX4 | 5 => tyX5 | _ => tyX6
theorem cl_7 {P : Nat → Prop} (h0 : P 0) (h1 : P 1) (h2 : P 2) (h3 : P 3) (h4 : P 4) (h5 : P 5) (h6 : P 6) {ci : Nat} (h : ci < 7) : P ci := by
  rcases (show ci = 0 ∨ ci = 1 ∨ ci = 2 ∨ ci = 3 ∨ ci = 4 ∨ ci = 5 ∨ ci = 6  by omega) with rfl | rfl | rfl | rfl | rfl | rfl | rfl <;> assumption
theorem cl_at {ci : Nat} (h : ci < 7) : vwCl[ci]? = some (clR ci, clT ci, nF ci) :=
  cl_7 (P := fun ci => vwCl[ci]? = some (clR ci, clT ci, nF ci)) rfl rfl rfl rfl rfl rfl rfl h
theorem cl_nm {ci : Nat} (h : ci < 7) : ∀ a, a < nF ci → ∀ b, b < nF ci → a ≠ b → (clT ci a).2.1 ≠ (clT ci b).2.1 :=
  cl_7 (P := fun ci => ∀ a, a < nF ci → ∀ b, b < nF ci → a ≠ b → (clT ci a).2.1 ≠ (clT ci b).2.1) nmX0 nmX1 nmX2 nmX3 nmX4 nmX5 nmX6 h
theorem cl_ty {ci : Nat} (h : ci < 7) : ∀ k, k < nF ci → parseFieldDescriptor (clT ci k).2.2.1 = some (clY ci k) :=
  cl_7 (P := fun ci => ∀ k, k < nF ci → parseFieldDescriptor (clT ci k).2.2.1 = some (clY ci k)) tyX0_ok tyX1_ok tyX2_ok tyX3_ok tyX4_ok tyX5_ok tyX6_ok h
theorem cl_in0 : ∀ w ∈ u_ws RX0 TX0 10, w ∈ TT := by decide +kernel
theorem cl_in1 : ∀ w ∈ u_ws RX1 TX1 5, w ∈ TT := by decide +kernel
theorem cl_in2 : ∀ w ∈ u_ws RX2 TX2 12, w ∈ TT := by decide +kernel
theorem cl_in3 : ∀ w ∈ u_ws RX3 TX3 4, w ∈ TT := by decide +kernel
theorem cl_in4 : ∀ w ∈ u_ws RX4 TX4 3, w ∈ TT := by decide +kernel
theorem cl_in5 : ∀ w ∈ u_ws RX5 TX5 4, w ∈ TT := by decide +kernel
theorem cl_in6 : ∀ w ∈ u_ws RX6 TX6 8, w ∈ TT := by decide +kernel
theorem cl_in {ci : Nat} (h : ci < 7) : ∀ w ∈ u_ws (clR ci) (clT ci) (nF ci), w ∈ TT :=
  cl_7 (P := fun ci => ∀ w ∈ u_ws (clR ci) (clT ci) (nF ci), w ∈ TT) cl_in0 cl_in1 cl_in2 cl_in3 cl_in4 cl_in5 cl_in6 h
/-- the entry ix of own's pool names the field k of the class ci -/
def FL (own : String) (ix ci k : Nat) : Prop := ci < 7 ∧ k < nF ci ∧ Cond.fieldLink own ix (clT ci k).1 (clT ci k).2.1 (clT ci k).2.2.1 ∈ TT
def FI (own : String) (ix ci k : Nat) : Prop := FL own ix ci k ∧ rF ci k = false
def FR (own : String) (ix ci k : Nat) : Prop := FL own ix ci k ∧ rF ci k = true
def FP (own : String) (ix ci k : Nat) (ty : FieldType) : Prop := FL own ix ci k ∧ rF ci k = false ∧ (clT ci k).2.2.2 = false ∧ parseFieldDescriptor (clT ci k).2.2.1 = some ty
def FF (own : String) (ix ci k : Nat) : Prop := FL own ix ci k ∧ rF ci k = true ∧ (clT ci k).2.2.2 = true ∧ (clT ci k).1 = own ∧ ((∃ s, parseFieldDescriptor (clT ci k).2.2.1 = some (.object s)) ∨ ∃ t, parseFieldDescriptor (clT ci k).2.2.1 = some (.array t))
def cok (x : CTy) : Prop := ∀ kd len, x = .inr (kd, len) → len ≤ 2114 ∧ kd < 6
theorem cok_if {c : Prop} [Decidable c] {x y : CTy} (hx : cok x) (hy : cok y) : cok (if c then x else y) := by split <;> assumption
theorem cok_l (c : Nat) : cok (.inl c) := fun _ _ h => by cases h
theorem cok_r {k l : Nat} (h1 : l ≤ 2114) (h2 : k < 6) : cok (.inr (k, l)) := fun _ _ h => by cases h; exact ⟨h1, h2⟩
theorem cok_h (j : Nat) : cok (hallTy j) := by
  unfold hallTy
  repeat' (first | exact cok_l _ | exact cok_r (by decide) (by decide) | apply cok_if)
set_option maxRecDepth 4000 in
theorem cT_len {a kd len : Nat} (h : cT a = .inr (kd, len)) : len ≤ 2114 ∧ kd < 6 := by
  have h9 : cok (cT a) := by
    unfold cT
    repeat' (first | exact cok_l _ | exact cok_r (by decide) (by decide) | exact cok_h _ | apply cok_if)
  exact h9 _ _ h
theorem fV_at {a0 : Nat} {σ : Sg} {ci i k : Nat} (h : k < nF ci) : ((List.range (nF ci)).map (fV a0 σ ci i))[k]? = some (fV a0 σ ci i k) := by simp [h]
theorem fV_i {a0 : Nat} {σ : Sg} {ci i k : Nat} (h : rF ci k = false) : fV a0 σ ci i k = .int (σ.1 i k) := by simp [fV, h]
theorem fV_r {a0 : Nat} {σ : Sg} {ci i k : Nat} (h : rF ci k = true) : fV a0 σ ci i k = va_rf ((σ.2.1 i k).map (fun x => a0 + x)) := by simp [fV, h]
theorem fV_set {a0 : Nat} {σ τ : Sg} {ci i k : Nat} {v : Value} (h : ∀ j, j ≠ k → fV a0 τ ci i j = fV a0 σ ci i j) (hv : fV a0 τ ci i k = v) : (List.range (nF ci)).map (fV a0 τ ci i) = ((List.range (nF ci)).map (fV a0 σ ci i)).set k v := by
  apply List.ext_getElem?
  intro j
  by_cases hj : j < nF ci
  · by_cases e : k = j
    · subst e
      rw [List.getElem?_set_self (by simpa using hj), fV_at hj, hv]
    · rw [List.getElem?_set_ne e, fV_at hj, fV_at hj, h j (Ne.symm e)]
  · rw [List.getElem?_eq_none (by simpa using hj), List.getElem?_eq_none (by simpa using hj)]
theorem rF_i {σ : Sg} {a0 a k ci j : Nat} {x : Int32} (h : j ≠ k) : fV a0 (sI σ a k x) ci a j = fV a0 σ ci a j := by simp [fV, sI, h]
theorem rF_r {σ : Sg} {a0 a k ci j : Nat} {x : Option Nat} (h : j ≠ k) : fV a0 (sR σ a k x) ci a j = fV a0 σ ci a j := by simp [fV, sR, h]
theorem sI_off {σ : Sg} {a k : Nat} {x : Int32} : ∀ i, i ≠ a → σ.1 i = (sI σ a k x).1 i ∧ σ.2.1 i = (sI σ a k x).2.1 i ∧ σ.2.2 i = (sI σ a k x).2.2 i := fun i h => ⟨funext fun j => by simp [sI, h], rfl, rfl⟩
theorem sR_off {σ : Sg} {a k : Nat} {x : Option Nat} : ∀ i, i ≠ a → σ.1 i = (sR σ a k x).1 i ∧ σ.2.1 i = (sR σ a k x).2.1 i ∧ σ.2.2 i = (sR σ a k x).2.2 i := fun i h => ⟨rfl, funext fun j => by simp [sR, h], rfl⟩
theorem sL_off {σ : Sg} {a k : Nat} {x : Int64} : ∀ i, i ≠ a → σ.1 i = (sL σ a k x).1 i ∧ σ.2.1 i = (sL σ a k x).2.1 i ∧ σ.2.2 i = (sL σ a k x).2.2 i := fun i h => ⟨rfl, rfl, funext fun j => by simp [sL, h]⟩
theorem sA_off {σ : Sg} {a : Nat} {f : Nat → Int32} : ∀ i, i ≠ a → σ.1 i = (sA σ a f).1 i ∧ σ.2.1 i = (sA σ a f).2.1 i ∧ σ.2.2 i = (sA σ a f).2.2 i := fun i h => ⟨funext fun j => by simp [sA, h], rfl, rfl⟩
theorem sZ_off {σ : Sg} {a : Nat} : ∀ i, i < a → σ.1 i = (sZ σ a).1 i ∧ σ.2.1 i = (sZ σ a).2.1 i ∧ σ.2.2 i = (sZ σ a).2.2 i := fun i h => by
  have : i ≠ a := by omega
  exact ⟨funext fun j => by simp [sZ, this], funext fun j => by simp [sZ, this], funext fun j => by simp [sZ, this]⟩
theorem Wd.put {D : va_G} {cs : Nat → ClassId} {a0 n : Nat} {σ τ : Sg} {H1 : Heap} {a : Nat} {e : va_E} (ha : a < n) (hp : va_P D vwCl ((wl a0 cs σ n).set a (a0 + a, e)) H1) (hw : ∀ i, i ≠ a → σ.1 i = τ.1 i ∧ σ.2.1 i = τ.2.1 i ∧ σ.2.2 i = τ.2.2 i) (he : cE a0 cs τ a = e) : Wd D cs a0 n τ H1 := by
  rw [wl_set hw he] at hp
  refine ⟨hp, ?_⟩
  have h1 := (hp (n - 1) _ (wl_get (by omega))).lt
  have h2 : a0 + (n - 1) < H1.size := h1
  omega
theorem vin {i : Int32} {j len : Nat} (hi : i = nI j) (hj : j < len) (hl : len ≤ 2114) : vp_in i len ∧ i.toNatClampNeg = j := by
  subst hi
  exact ⟨vp_in_nI hj (by omega), nI_clamp (by omega)⟩
theorem upd_sI {σ : Sg} {a j : Nat} {v : Int32} : upd (σ.1 a) j v = (sI σ a j v).1 a := funext fun k => by simp [upd, sI]
theorem cE_int {a0 : Nat} {cs : Nat → ClassId} {σ : Sg} {a kd len : Nat} (h : cT a = .inr (kd, len)) (hk : kd < 2) : cE a0 cs σ a = .inl (cs kd, len, .inl (σ.1 a)) := by rw [cE_a h]; simp [aC, hk]
theorem cE_long {a0 : Nat} {cs : Nat → ClassId} {σ : Sg} {a len : Nat} (h : cT a = .inr (2, len)) : cE a0 cs σ a = .inl (cs 2, len, .inr (.inl (σ.2.2 a))) := by rw [cE_a h]; simp [aC]
theorem cE_ref {a0 : Nat} {cs : Nat → ClassId} {σ : Sg} {a kd len : Nat} (h : cT a = .inr (kd, len)) (hk : 2 < kd) : cE a0 cs σ a = .inl (cs kd, len, .inr (.inr (.inr (.inr (fun j => (σ.2.1 a j).map (fun x => a0 + x)))))) := by
  rw [cE_a h]
  simp [aC, show ¬ kd < 2 by omega, show ¬ kd = 2 by omega]
theorem ty_ref {cs : Nat → ClassId} {kd : Nat} (h1 : 2 < kd) (h2 : kd < 6) : ∃ C, (tyl cs)[kd]? = some (cs kd, .object C) := by
  rcases (show kd = 3 ∨ kd = 4 ∨ kd = 5 by omega) with rfl | rfl | rfl
  · exact ⟨_, rfl⟩
  · exact ⟨_, rfl⟩
  · exact ⟨_, rfl⟩
section AWH
variable {K : KT} {own : String} {cc : ByteArray} {M : MT} {d mc ms : Nat} {Q : State → Prop} {n : Nat} {z : Option Nat} {σ : Sg} {cells slots pc : Nat} {ls : List (Option Value)} {st : List Value}
theorem aw_getI {ix ci k a : Nat} {v : Int32} (hd : decode cc pc = .ok (.getfield ix, 3)) (hL : FI own ix ci k) (hT : cT a = .inl ci) (ha : a < n) (hv : σ.1 a k = v) (kk : AW K own cc M d mc ms Q n z σ cells slots (pc + 3) ls (.int v :: st)) : AW K own cc M d mc ms Q n z σ cells slots pc ls (.ref a :: st) := by
  obtain ⟨p, l, e, s, m, args, below, meth, c, D, cs, a0, A0⟩ := K
  intro C H locs la hP hA hS hl
  obtain ⟨hx, hb, -, -, -, -, hown, hts, -, -, hK, -⟩ := id C
  obtain ⟨⟨hc, hk, hlk⟩, hr⟩ := hL
  exact va_get (D := D) (ci := ci) (v := .int v) hx hb hts (cl_in hc) hown hK hP.1 a (by rw [wl_get ha, cE_o hT]) (cl_at hc) k hk (hts _ hlk) (fun _ h => h) (by rw [fV_at hk, fV_i hr, hv]) hd (kk C H locs la hP hA hS hl)
theorem aw_getR {ix ci k a b : Nat} (hd : decode cc pc = .ok (.getfield ix, 3)) (hL : FR own ix ci k) (hT : cT a = .inl ci) (ha : a < n) (hv : σ.2.1 a k = some b) (kk : AW K own cc M d mc ms Q n z σ cells slots (pc + 3) ls (.ref b :: st)) : AW K own cc M d mc ms Q n z σ cells slots pc ls (.ref a :: st) := by
  obtain ⟨p, l, e, s, m, args, below, meth, c, D, cs, a0, A0⟩ := K
  intro C H locs la hP hA hS hl
  obtain ⟨hx, hb, -, -, -, -, hown, hts, -, -, hK, -⟩ := id C
  obtain ⟨⟨hc, hk, hlk⟩, hr⟩ := hL
  exact va_get (D := D) (ci := ci) (v := .ref (a0 + b)) hx hb hts (cl_in hc) hown hK hP.1 a (by rw [wl_get ha, cE_o hT]) (cl_at hc) k hk (hts _ hlk) (fun _ h => h) (by rw [fV_at hk, fV_r hr, hv]; rfl) hd (kk C H locs la hP hA hS hl)
theorem aw_putT {ty : FieldType} {ix ci k a : Nat} {v : Int32} (hd : decode cc pc = .ok (.putfield ix, 3)) (hL : FP own ix ci k ty) (hT : cT a = .inl ci) (ha : a < n) (hn : narrow ty (.int v) = .int v) (hf : fits ty (.int v) = true) (kk : AW K own cc M d mc ms Q n z (sI σ a k v) cells slots (pc + 3) ls st) : AW K own cc M d mc ms Q n z σ cells slots pc ls (.int v :: .ref a :: st) := by
  obtain ⟨p, l, e, s, m, args, below, meth, c, D, cs, a0, A0⟩ := K
  intro C H locs la hP hA hS hl
  obtain ⟨hx, hb, -, -, -, -, hown, hts, -, -, hK, -⟩ := id C
  obtain ⟨⟨hc, hk, hlk⟩, hr, hfin, hty⟩ := hL
  have he : (wl a0 cs σ n)[a]? = some (a0 + a, .inr (ci, (List.range (nF ci)).map (fV a0 σ ci a))) := by rw [wl_get ha, cE_o hT]
  have hD := va_D_wl (cs := cs) (σ := σ) hA
  refine va_put (D := D) (ci := ci) (v := .int v) (ty := ty) hx hb hts (cl_in hc) (clY ci) (cl_ty hc) (cl_nm hc) hown hK hP.1 hD hS a he (cl_at hc) k hk (hts _ hlk) (fun _ h => h) hfin hty hn hf (by simpa using hk) hd (fun H1 locs1 hP1 hD1 hS1 => ?_)
  refine kk C H1 locs1 la (Wd.put ha hP1 sI_off ?_) hA hS1 hl
  rw [cE_o hT, fV_set (σ := σ) (v := .int v) (fun j hj => rF_i hj) (by rw [fV_i hr]; simp [sI])]
theorem aw_putI {ix ci k a : Nat} {v : Int32} (hd : decode cc pc = .ok (.putfield ix, 3)) (hL : FP own ix ci k .int) (hT : cT a = .inl ci) (ha : a < n) (kk : AW K own cc M d mc ms Q n z (sI σ a k v) cells slots (pc + 3) ls st) : AW K own cc M d mc ms Q n z σ cells slots pc ls (.int v :: .ref a :: st) :=
  aw_putT hd hL hT ha rfl rfl kk
theorem aw_putZ {ix ci k a : Nat} {v : Int32} (hd : decode cc pc = .ok (.putfield ix, 3)) (hL : FP own ix ci k .boolean) (hT : cT a = .inl ci) (ha : a < n) (hv : v = 0 ∨ v = 1) (kk : AW K own cc M d mc ms Q n z (sI σ a k v) cells slots (pc + 3) ls st) : AW K own cc M d mc ms Q n z σ cells slots pc ls (.int v :: .ref a :: st) := by
  rcases hv with rfl | rfl
  · exact aw_putT hd hL hT ha rfl rfl kk
  · exact aw_putT hd hL hT ha rfl rfl kk
/-- a final field of references, in a constructor -/
theorem aw_putF {ix ci k a b : Nat} (hd : decode cc pc = .ok (.putfield ix, 3)) (hL : FF own ix ci k) (hT : cT a = .inl ci) (ha : a < n) (hin : M.2.2.2 = "<init>") (kk : AW K own cc M d mc ms Q n z (sR σ a k (some b)) cells slots (pc + 3) ls st) : AW K own cc M d mc ms Q n z σ cells slots pc ls (.ref b :: .ref a :: st) := by
  obtain ⟨p, l, e, s, m, args, below, meth, c, D, cs, a0, A0⟩ := K
  intro C H locs la hP hA hS hl
  obtain ⟨hx, hb, -, -, -, hnm, hown, hts, -, -, hK, -⟩ := id C
  obtain ⟨⟨hc, hk, hlk⟩, hr, hfin, hdecl, hty⟩ := hL
  have he : (wl a0 cs σ n)[a]? = some (a0 + a, .inr (ci, (List.range (nF ci)).map (fV a0 σ ci a))) := by rw [wl_get ha, cE_o hT]
  have hD := va_D_wl (cs := cs) (σ := σ) hA
  obtain ⟨ty, hty, hn, hf⟩ : ∃ ty, parseFieldDescriptor (clT ci k).2.2.1 = some ty ∧ narrow ty (.ref (a0 + b)) = .ref (a0 + b) ∧ fits ty (.ref (a0 + b)) = true := by
    rcases hty with ⟨s, h⟩ | ⟨t, h⟩
    · exact ⟨_, h, rfl, rfl⟩
    · exact ⟨_, h, rfl, rfl⟩
  refine va_putF (D := D) (ci := ci) (v := .ref (a0 + b)) (ty := ty) hx hb hts (cl_in hc) (clY ci) (cl_ty hc) (cl_nm hc) hown hK hP.1 hD hS a he (cl_at hc) k hk (hts _ hlk) (fun _ h => h) hfin (hnm.trans hin) hdecl hty hn hf (by simpa using hk) hd (fun H1 locs1 hP1 hD1 hS1 => ?_)
  refine kk C H1 locs1 la (Wd.put ha hP1 sR_off ?_) hA hS1 hl
  rw [cE_o hT, fV_set (σ := σ) (v := .ref (a0 + b)) (fun j hj => rF_r hj) (by rw [fV_r hr]; simp [sR, va_rf])]
theorem aw_iald {a len j : Nat} {i v : Int32} (hd : decode cc pc = .ok (.iaload, 1)) (hT : cT a = .inr (0, len)) (ha : a < n) (hi : i = nI j) (hj : j < len) (hv : σ.1 a j = v) (kk : AW K own cc M d mc ms Q n z σ cells slots (pc + 1) ls (.int v :: st)) : AW K own cc M d mc ms Q n z σ cells slots pc ls (.int i :: .ref a :: st) := by
  obtain ⟨p, l, e, s, m, args, below, meth, c, D, cs, a0, A0⟩ := K
  intro C H locs la hP hA hS hl
  obtain ⟨hx, hb, -, -, -, -, hown, hts, -, -, hK, -⟩ := id C
  obtain ⟨h1, h2⟩ := vin hi hj (cT_len hT).1
  refine va_iald hx hb hK hP.1 a 0 (by rw [wl_get ha, cE_int hT (by decide)]) rfl h1 hd ?_
  rw [h2, hv]
  exact kk C H locs la hP hA hS hl
theorem aw_zald {a len j : Nat} {i v : Int32} (hd : decode cc pc = .ok (.baload, 1)) (hT : cT a = .inr (1, len)) (ha : a < n) (hi : i = nI j) (hj : j < len) (hv : σ.1 a j = v) (kk : AW K own cc M d mc ms Q n z σ cells slots (pc + 1) ls (.int v :: st)) : AW K own cc M d mc ms Q n z σ cells slots pc ls (.int i :: .ref a :: st) := by
  obtain ⟨p, l, e, s, m, args, below, meth, c, D, cs, a0, A0⟩ := K
  intro C H locs la hP hA hS hl
  obtain ⟨hx, hb, -, -, -, -, hown, hts, -, -, hK, -⟩ := id C
  obtain ⟨h1, h2⟩ := vin hi hj (cT_len hT).1
  refine va_zald hx hb hK hP.1 a 1 (by rw [wl_get ha, cE_int hT (by decide)]) rfl h1 hd ?_
  rw [h2, hv]
  exact kk C H locs la hP hA hS hl
theorem aw_aald {a kd len j b : Nat} {i : Int32} (hd : decode cc pc = .ok (.aaload, 1)) (hT : cT a = .inr (kd, len)) (hk : 2 < kd) (ha : a < n) (hi : i = nI j) (hj : j < len) (hv : σ.2.1 a j = some b) (kk : AW K own cc M d mc ms Q n z σ cells slots (pc + 1) ls (.ref b :: st)) : AW K own cc M d mc ms Q n z σ cells slots pc ls (.int i :: .ref a :: st) := by
  obtain ⟨p, l, e, s, m, args, below, meth, c, D, cs, a0, A0⟩ := K
  intro C H locs la hP hA hS hl
  obtain ⟨hx, hb, -, -, -, -, hown, hts, -, -, hK, -⟩ := id C
  obtain ⟨h1, h2⟩ := vin hi hj (cT_len hT).1
  obtain ⟨Cn, hCn⟩ := ty_ref (cs := cs) hk (cT_len hT).2
  refine va_aldq hx hb hK hP.1 a kd (by rw [wl_get ha, cE_ref hT hk]) hCn h1 hd ?_
  rw [h2, hv]
  exact kk C H locs la hP hA hS hl
theorem aw_iast {a len j : Nat} {i v : Int32} (hd : decode cc pc = .ok (.iastore, 1)) (hT : cT a = .inr (0, len)) (ha : a < n) (hi : i = nI j) (hj : j < len) (kk : AW K own cc M d mc ms Q n z (sI σ a j v) cells slots (pc + 1) ls st) : AW K own cc M d mc ms Q n z σ cells slots pc ls (.int v :: .int i :: .ref a :: st) := by
  obtain ⟨p, l, e, s, m, args, below, meth, c, D, cs, a0, A0⟩ := K
  intro C H locs la hP hA hS hl
  obtain ⟨hx, hb, -, -, -, -, hown, hts, -, -, hK, -⟩ := id C
  obtain ⟨h1, h2⟩ := vin hi hj (cT_len hT).1
  refine va_iast hx hb hK hP.1 (va_D_wl (cs := cs) (σ := σ) hA) hS a 0 (by rw [wl_get ha, cE_int hT (by decide)]) rfl h1 hd (fun H1 locs1 hP1 hD1 hS1 => ?_)
  rw [h2, upd_sI] at hP1
  exact kk C H1 locs1 la (Wd.put ha hP1 sI_off (cE_int hT (by decide))) hA hS1 hl
theorem aw_zast {a len j : Nat} {i v : Int32} (hd : decode cc pc = .ok (.bastore, 1)) (hT : cT a = .inr (1, len)) (ha : a < n) (hi : i = nI j) (hj : j < len) (hv : v = 0 ∨ v = 1) (kk : AW K own cc M d mc ms Q n z (sI σ a j v) cells slots (pc + 1) ls st) : AW K own cc M d mc ms Q n z σ cells slots pc ls (.int v :: .int i :: .ref a :: st) := by
  obtain ⟨p, l, e, s, m, args, below, meth, c, D, cs, a0, A0⟩ := K
  intro C H locs la hP hA hS hl
  obtain ⟨hx, hb, -, -, -, -, hown, hts, -, -, hK, -⟩ := id C
  obtain ⟨h1, h2⟩ := vin hi hj (cT_len hT).1
  have hv' : vp_nar .boolean v = v := by rcases hv with rfl | rfl <;> rfl
  refine va_zast hx hb hK hP.1 (va_D_wl (cs := cs) (σ := σ) hA) hS a 1 (by rw [wl_get ha, cE_int hT (by decide)]) rfl h1 hd (fun H1 locs1 hP1 hD1 hS1 => ?_)
  rw [h2, hv', upd_sI] at hP1
  exact kk C H1 locs1 la (Wd.put ha hP1 sI_off (cE_int hT (by decide))) hA hS1 hl
theorem aw_aast {a kd len j b ci : Nat} {i : Int32} (hd : decode cc pc = .ok (.aastore, 1)) (hT : cT a = .inr (kd, len)) (hk : (kd = 3 ∧ ci = 5) ∨ (kd = 4 ∧ ci = 0) ∨ (kd = 5 ∧ ci = 2)) (hb2 : cT b = .inl ci) (hbn : b < n) (ha : a < n) (hi : i = nI j) (hj : j < len) (kk : AW K own cc M d mc ms Q n z (sR σ a j (some b)) cells slots (pc + 1) ls st) : AW K own cc M d mc ms Q n z σ cells slots pc ls (.ref b :: .int i :: .ref a :: st) := by
  obtain ⟨p, l, e, s, m, args, below, meth, c, D, cs, a0, A0⟩ := K
  intro C H locs la hP hA hS hl
  obtain ⟨hx, hb, -, -, -, -, hown, hts, -, -, hK, -⟩ := id C
  obtain ⟨h1, h2⟩ := vin hi hj (cT_len hT).1
  have hk2 : 2 < kd := by omega
  obtain ⟨hc, hty⟩ : ci < 7 ∧ (tyl cs)[kd]? = some (cs kd, .object (clR ci)) := by
    rcases hk with ⟨rfl, rfl⟩ | ⟨rfl, rfl⟩ | ⟨rfl, rfl⟩ <;> exact ⟨by decide, rfl⟩
  have hu : va_up (fun j => (σ.2.1 a j).map (fun x => a0 + x)) j (some (a0 + b)) = fun k => ((sR σ a j (some b)).2.1 a k).map (fun x => a0 + x) := funext fun k => by
    by_cases e : k = j <;> simp [va_up, sR, e]
  refine va_astq (r := (clR ci, clT ci, nF ci)) hx hb hK hP.1 (va_D_wl (cs := cs) (σ := σ) hA) hS a kd b ci (by rw [wl_get ha, cE_ref hT hk2]) hty (by rw [wl_get hbn, cE_o hb2]) (cl_at hc) h1 hd (fun H1 locs1 hP1 hD1 hS1 => ?_)
  rw [h2, hu] at hP1
  exact kk C H1 locs1 la (Wd.put ha hP1 sR_off (cE_ref hT hk2)) hA hS1 hl
theorem aw_alen {a kd len : Nat} (hd : decode cc pc = .ok (.arraylength, 1)) (hT : cT a = .inr (kd, len)) (ha : a < n) (kk : AW K own cc M d mc ms Q n z σ cells slots (pc + 1) ls (.int (nI len) :: st)) : AW K own cc M d mc ms Q n z σ cells slots pc ls (.ref a :: st) := by
  obtain ⟨p, l, e, s, m, args, below, meth, c, D, cs, a0, A0⟩ := K
  intro C H locs la hP hA hS hl
  obtain ⟨hx, hb, -, -, -, -, hown, hts, -, -, hK, -⟩ := id C
  have hk := (cT_len hT).2
  obtain ⟨ty, hty⟩ : ∃ ty, (tyl cs)[kd]? = some (cs kd, ty) := by
    rcases (show kd = 0 ∨ kd = 1 ∨ kd = 2 ∨ kd = 3 ∨ kd = 4 ∨ kd = 5 by omega) with rfl | rfl | rfl | rfl | rfl | rfl <;> exact ⟨_, rfl⟩
  exact va_alen (x := (len, aC a0 σ a kd)) hx hb hK hP.1 a kd (by rw [wl_get ha, cE_a hT]) hty rfl hd (kk C H locs la hP hA hS hl)
end AWH
