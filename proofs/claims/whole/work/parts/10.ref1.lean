/-! joins; small facts; what the rows of 151 numbers hold -/
section AWJ
variable {K : KT} {own : String} {cc : ByteArray} {M : MT} {d mc ms : Nat} {Q : State → Prop} {n : Nat} {z : Option Nat} {σ : Sg} {cells slots pc pc2 : Nat} {ls : List (Option Value)} {st : List Value}
theorem AW.tern0 {E : Int32} (k : ∀ x, x = E → AW K own cc M d mc ms Q n z σ cells slots pc2 ls (.int x :: st)) (kb : (∀ x, x = E → AW K own cc M d mc ms Q n z σ cells slots pc2 ls (.int x :: st)) → AW K own cc M d mc ms Q n z σ cells slots pc ls st) : AW K own cc M d mc ms Q n z σ cells slots pc ls st := kb k
theorem AW.tern1 {E : Int32} {v : Value} (k : ∀ x, x = E → AW K own cc M d mc ms Q n z σ cells slots pc2 ls (.int x :: st)) (kb : (∀ x, x = E → AW K own cc M d mc ms Q n z σ cells slots pc2 ls (.int x :: st)) → AW K own cc M d mc ms Q n z σ cells slots pc ls (v :: st)) : AW K own cc M d mc ms Q n z σ cells slots pc ls (v :: st) := kb k
theorem AW.tern2 {E : Int32} {v w : Value} (k : ∀ x, x = E → AW K own cc M d mc ms Q n z σ cells slots pc2 ls (.int x :: st)) (kb : (∀ x, x = E → AW K own cc M d mc ms Q n z σ cells slots pc2 ls (.int x :: st)) → AW K own cc M d mc ms Q n z σ cells slots pc ls (v :: w :: st)) : AW K own cc M d mc ms Q n z σ cells slots pc ls (v :: w :: st) := kb k
theorem AW.cutS {E : Sg} (k : ∀ x, x = E → AW K own cc M d mc ms Q n z x cells slots pc2 ls st) (kb : (∀ x, x = E → AW K own cc M d mc ms Q n z x cells slots pc2 ls st) → AW K own cc M d mc ms Q n z σ cells slots pc ls st) : AW K own cc M d mc ms Q n z σ cells slots pc ls st := kb k
end AWJ
abbrev NN : Nat := 397
/-- a boolean answer -/
def bz (c : Prop) (v : Int32) : Prop := (v = 1 ∧ c) ∨ (v = 0 ∧ ¬ c)
/-- an int answer; nothing changes -/
abbrev eI1 (σ : Sg) (e : Int32) : PT := rI fun σ' v => σ = σ' ∧ e = v
abbrev eZ1 (σ : Sg) (c : Prop) : PT := rI fun σ' v => σ = σ' ∧ bz c v
/-- nothing is answered; the world becomes this -/
abbrev eV1 (τ : Sg) : PT := rV fun σ' => τ = σ'
theorem eI_of {σ : Sg} {e : Int32} : eI1 σ e σ (some (.int e)) := ⟨_, rfl, rfl, rfl⟩
theorem eI_to {σ : Sg} {e v : Int32} (h : e = v) : eI1 σ e σ (some (.int v)) := ⟨_, rfl, rfl, h⟩
theorem eZ_1 {σ : Sg} {c : Prop} (h : c) : eZ1 σ c σ (some (.int 1)) := ⟨_, rfl, rfl, Or.inl ⟨rfl, h⟩⟩
theorem eZ_0 {σ : Sg} {c : Prop} (h : ¬ c) : eZ1 σ c σ (some (.int 0)) := ⟨_, rfl, rfl, Or.inr ⟨rfl, h⟩⟩
theorem eV_of {σ : Sg} : eV1 σ σ none := ⟨rfl, rfl⟩
theorem eV_to {σ τ : Sg} (h : τ = σ) : eV1 τ σ none := ⟨rfl, h⟩
def oI (o : Option Nat) : Int32 := match o with
  | some b => nI b
  | none => -99
theorem nd0 : nodbl [] := fun _ h => nomatch h
theorem nd1 {v : Value} {r : List Value} (h : ∀ x, v ≠ .double x) (hr : nodbl r) : nodbl (v :: r) := fun x hx => by
  rcases List.mem_cons.mp hx with e | e
  · exact h x e.symm
  · exact hr x e
theorem ndI {x : Int32} {r : List Value} (hr : nodbl r) : nodbl (.int x :: r) := nd1 (fun _ h => nomatch h) hr
theorem ndL {x : Int64} {r : List Value} (hr : nodbl r) : nodbl (.long x :: r) := nd1 (fun _ h => nomatch h) hr
theorem ndR {x : Nat} {r : List Value} (hr : nodbl r) : nodbl (.ref x :: r) := nd1 (fun _ h => nomatch h) hr
theorem ndN {r : List Value} (hr : nodbl r) : nodbl (.null :: r) := nd1 (fun _ h => nomatch h) hr
/-! a row as a whole -/
abbrev Rw : Type := Nat → Int32
theorem sA_at {σ : Sg} {a j : Nat} {f : Rw} : (sA σ a f).1 a j = f j := by simp [sA]
theorem sA_row {σ : Sg} {a : Nat} {f : Rw} : (sA σ a f).1 a = f := funext fun _ => sA_at
theorem sI_sA {σ : Sg} {a j : Nat} {f : Rw} {v : Int32} : sI (sA σ a f) a j v = sA σ a (upd f j v) := by
  refine Prod.ext (funext fun i => funext fun k => ?_) rfl
  by_cases h1 : i = a <;> by_cases h2 : k = j <;> simp [sI, sA, upd, h1, h2]
theorem sA_self (σ : Sg) (a : Nat) : sA σ a (σ.1 a) = σ := by
  refine Prod.ext (funext fun i => funext fun k => ?_) rfl
  by_cases h1 : i = a
  · subst h1; simp [sA]
  · simp [sA, h1]
theorem sA_sA {σ : Sg} {a : Nat} {f h : Rw} : sA (sA σ a f) a h = sA σ a h := by
  refine Prod.ext (funext fun i => funext fun k => ?_) rfl
  by_cases h1 : i = a <;> simp [sA, h1]
theorem upd_s {f : Rw} {k : Nat} {x : Int32} : upd f k x k = x := if_pos rfl
theorem upd_n {f : Rw} {k j : Nat} {x : Int32} (h : j ≠ k) : upd f k x j = f j := if_neg h
/-! the reference's functions over a row -/
def fEnd (g : Rw) (b : Nat) : Int32 := g (31 + 10 * b + 2) + g (31 + 10 * b + 3)
def curP (g : Rw) (r b : Nat) : Prop := g (31 + 10 * b + 0) = nI r ∧ g (31 + 10 * b + 2) ≤ g 0 ∧ ¬ fEnd g b ≤ g 0
def curD (g : Rw) (r b : Nat) : Bool := decide (g (31 + 10 * b + 0) = nI r) && (decide (g (31 + 10 * b + 2) ≤ g 0) && !decide (fEnd g b ≤ g 0))
theorem curD_iff {g : Rw} {r b : Nat} : curD g r b = true ↔ curP g r b := by simp [curD, curP]
def fCur (g : Rw) (r : Nat) : Nat → Option Nat
  | 0 => none
  | k + 1 => if curD g r k = true then some k else fCur g r k
def nxtP (g : Rw) (r b : Nat) (o : Option Nat) : Prop := g (31 + 10 * b + 0) = nI r ∧ g 0 < g (31 + 10 * b + 2) ∧ ∀ f, o = some f → g (31 + 10 * b + 2) < g (31 + 10 * f + 2)
def nxtD (g : Rw) (r b : Nat) (o : Option Nat) : Bool := decide (g (31 + 10 * b + 0) = nI r) && (decide (g 0 < g (31 + 10 * b + 2)) && match o with
  | none => true
  | some f => decide (g (31 + 10 * b + 2) < g (31 + 10 * f + 2)))
theorem nxtD_iff {g : Rw} {r b : Nat} {o : Option Nat} : nxtD g r b o = true ↔ nxtP g r b o := by cases o <;> simp [nxtD, nxtP]
def fNxt (g : Rw) (r : Nat) : Nat → Option Nat
  | 0 => none
  | k + 1 => if nxtD g r k (fNxt g r k) = true then some k else fNxt g r k
theorem fCur_lt {g : Rw} {r : Nat} : ∀ {k b : Nat}, fCur g r k = some b → b < k
  | 0, _, h => nomatch h
  | k + 1, b, h => by
    unfold fCur at h
    split at h
    · cases h; exact Nat.lt_succ_self k
    · exact Nat.lt_succ_of_lt (fCur_lt h)
theorem fNxt_lt {g : Rw} {r : Nat} : ∀ {k b : Nat}, fNxt g r k = some b → b < k
  | 0, _, h => nomatch h
  | k + 1, b, h => by
    unfold fNxt at h
    split at h
    · cases h; exact Nat.lt_succ_self k
    · exact Nat.lt_succ_of_lt (fNxt_lt h)
def fCool (g : Rw) (r : Nat) : Int32 := g (9 + 4 * r + 3) - g (9 + 4 * r + 1) * (g (9 + 4 * r + 3) - g 4) / 100
def fPre (g : Rw) (r b : Nat) : Prop := g (31 + 10 * b + 9) = 1 ∨ fCool g r + g (9 + 4 * r + 2) * (g (31 + 10 * b + 2) - g 0 - 1) < g (31 + 10 * b + 4)
def fPreD (g : Rw) (r b : Nat) : Bool := decide (g (31 + 10 * b + 9) = 1) || decide (fCool g r + g (9 + 4 * r + 2) * (g (31 + 10 * b + 2) - g 0 - 1) < g (31 + 10 * b + 4))
theorem fPreD_iff {g : Rw} {r b : Nat} : fPreD g r b = true ↔ fPre g r b := by simp [fPreD, fPre]
def fHeater (g : Rw) (r nb : Nat) : Option Nat := match fCur g r nb with
  | some b => some b
  | none => match fNxt g r nb with
    | none => none
    | some b => if fPreD g r b = true then some b else none
theorem fHeater_lt {g : Rw} {r nb b : Nat} (h : fHeater g r nb = some b) : b < nb := by
  unfold fHeater at h
  split at h
  · rename_i c hc; cases h; exact fCur_lt hc
  · split at h
    · cases h
    · rename_i c hc
      split at h
      · cases h; exact fNxt_lt hc
      · cases h
def whoN (g : Rw) (b : Nat) : Nat := (g (31 + 10 * b + 1)).toNatClampNeg
def fCharge (g : Rw) (b : Nat) (u : Int32) : Rw :=
  let g1 := if g (31 + 10 * b + 2) ≤ g 0 ∧ g (31 + 10 * b + 7) = 1 then upd g 7 (g 7 + u) else upd (upd g 6 (g 6 + u)) (25 + whoN g b) (upd g 6 (g 6 + u) (25 + whoN g b) + u)
  let w := if g (31 + 10 * b + 2) ≤ g 0 then 6 else 5
  upd g1 (31 + 10 * b + w) (g1 (31 + 10 * b + w) + u)
def byOf (missing power : Int32) : Int32 := if missing < 0 then 0 else if power < missing then power else missing
/-- a room in an hour: what the row becomes, and its heat -/
def fRoom (g : Rw) (r nb : Nat) : Rw × Int32 := match fHeater g r nb with
  | none => (upd g (9 + 4 * r + 3) (fCool g r), 0)
  | some b =>
    let g1 := upd g (9 + 4 * r + 3) (fCool g r)
    let g2 := upd g1 (31 + 10 * b + 9) (if g1 (31 + 10 * b + 2) ≤ g1 0 then g1 (31 + 10 * b + 9) else 1)
    let g3 := upd g2 (31 + 10 * b + 8) (g2 (31 + 10 * b + 8) + if g1 (31 + 10 * b + 2) ≤ g1 0 ∧ g (9 + 4 * r + 3) < g2 (31 + 10 * b + 4) - 1 then 1 else 0)
    let by0 := byOf (g3 (31 + 10 * b + 4) - g3 (9 + 4 * r + 3)) (g3 (9 + 4 * r + 2))
    let g4 := upd g3 (9 + 4 * r + 3) (g3 (9 + 4 * r + 3) + by0)
    (fCharge g4 b (by0 * g4 (9 + 4 * r + 0)), by0 * g4 (9 + 4 * r + 0))
set_option maxHeartbeats 4000000 in
theorem k_bookAt (σ : Sg) (b w : Nat) : Ct yX7_bookAt cX7_bookAt mX7_bookAt 1 0 0 NN false σ [.int (nI b), .int (nI w)] NN (eI1 σ (nI (31 + 10 * b + w))) XF := by
  refine ct_of (ls0 := [some (.int (nI b)), some (.int (nI w))]) 0 (by decide +kernel) rfl rfl (ndI (ndI nd0)) rfl (Nat.le_of_ble_eq_true rfl) (fun K => ?_)
  refine aw_bipush (v := 31) dX7_bookAt_0 (by decide) ?_
  refine aw_bipush (v := 10) dX7_bookAt_2 (by decide) ?_
  refine aw_iload0 dX7_bookAt_4 ?_
  refine aw_imul dX7_bookAt_5 ?_
  refine aw_iadd dX7_bookAt_6 ?_
  refine aw_iload1 dX7_bookAt_7 ?_
  refine aw_iadd dX7_bookAt_8 ?_
  exact aw_iret dX7_bookAt_9 rfl (by decide) (eI_to (by rw [show (31 : Int32) = nI 31 from rfl, show (10 : Int32) = nI 10 from rfl, pk_mul, nI_add, nI_add]))
set_option maxHeartbeats 4000000 in
theorem k_roomAt (σ : Sg) (b w : Nat) : Ct yX7_roomAt cX7_roomAt mX7_roomAt 1 0 0 NN false σ [.int (nI b), .int (nI w)] NN (eI1 σ (nI (9 + 4 * b + w))) XF := by
  refine ct_of (ls0 := [some (.int (nI b)), some (.int (nI w))]) 0 (by decide +kernel) rfl rfl (ndI (ndI nd0)) rfl (Nat.le_of_ble_eq_true rfl) (fun K => ?_)
  refine aw_bipush (v := 9) dX7_roomAt_0 (by decide) ?_
  refine aw_iconst (v := 4) dX7_roomAt_2 (by decide) ?_
  refine aw_iload0 dX7_roomAt_3 ?_
  refine aw_imul dX7_roomAt_4 ?_
  refine aw_iadd dX7_roomAt_5 ?_
  refine aw_iload1 dX7_roomAt_6 ?_
  refine aw_iadd dX7_roomAt_7 ?_
  exact aw_iret dX7_roomAt_8 rfl (by decide) (eI_to (by rw [show (9 : Int32) = nI 9 from rfl, show (4 : Int32) = nI 4 from rfl, pk_mul, nI_add, nI_add]))
set_option maxHeartbeats 4000000 in
theorem k_endOf (σ : Sg) (row : Nat) (g : Rw) (b : Nat) (hT : cT row = .inr (0, 151)) (hn : row < NN) (hb : b < 12) : Ct yX7_endOf cX7_endOf mX7_endOf 2 0 0 NN false (sA σ row g) [.ref row, .int (nI b)] NN (eI1 (sA σ row g) (fEnd g b)) XF := by
  refine ct_of (ls0 := [some (.ref row), some (.int (nI b))]) 0 (by decide +kernel) rfl rfl (ndR (ndI nd0)) rfl (Nat.le_of_ble_eq_true rfl) (fun K => ?_)
  refine aw_aload0 dX7_endOf_0 ?_
  refine aw_iload1 dX7_endOf_1 ?_
  refine aw_iconst (v := 2) dX7_endOf_2 (by decide) ?_
  refine aw_SI2 (k_bookAt _ _ 2) dX7_endOf_3 sl_7_49 (by decide) (Nat.le_of_ble_eq_true rfl) (fun σ_3 r_3 h_3 => ?_)
  obtain ⟨rfl, rfl⟩ := h_3
  refine aw_iald dX7_endOf_6 hT hn rfl (by omega) sA_at ?_
  refine aw_aload0 dX7_endOf_7 ?_
  refine aw_iload1 dX7_endOf_8 ?_
  refine aw_iconst (v := 3) dX7_endOf_9 (by decide) ?_
  refine aw_SI2 (k_bookAt _ _ 3) dX7_endOf_10 sl_7_49 (by decide) (Nat.le_of_ble_eq_true rfl) (fun σ_10 r_10 h_10 => ?_)
  obtain ⟨rfl, rfl⟩ := h_10
  refine aw_iald dX7_endOf_13 hT hn rfl (by omega) sA_at ?_
  refine aw_iadd dX7_endOf_14 ?_
  exact aw_iret dX7_endOf_15 rfl (by decide) eI_of
set_option maxHeartbeats 4000000 in
theorem k_isOver (σ : Sg) (row : Nat) (g : Rw) (b : Nat) (hT : cT row = .inr (0, 151)) (hn : row < NN) (hb : b < 12) : Ct yX7_isOver cX7_isOver mX7_isOver 3 0 0 NN false (sA σ row g) [.ref row, .int (nI b)] NN (eZ1 (sA σ row g) (fEnd g b ≤ g 0)) XF := by
  refine ct_of (ls0 := [some (.ref row), some (.int (nI b))]) 0 (by decide +kernel) rfl rfl (ndR (ndI nd0)) rfl (Nat.le_of_ble_eq_true rfl) (fun K => ?_)
  refine aw_aload0 dX7_isOver_0 ?_
  refine aw_iconst (v := 0) dX7_isOver_1 (by decide) ?_
  refine aw_iald (j := 0) dX7_isOver_2 hT hn rfl (by decide) sA_at ?_
  refine aw_aload0 dX7_isOver_3 ?_
  refine aw_iload1 dX7_isOver_4 ?_
  refine aw_SI2 (k_endOf _ _ _ _ hT hn (by omega)) dX7_isOver_5 sl_7_53 (by decide) (Nat.le_of_ble_eq_true rfl) (fun σ_5 r_5 h_5 => ?_)
  obtain ⟨rfl, rfl⟩ := h_5
  refine aw_ic_lt (tgt := 15) dX7_isOver_8 (by decide) (fun c_8 => ?_) (fun c_8 => ?_)
  · refine aw_iconst (v := 0) dX7_isOver_15 (by decide) ?_
    exact aw_zret dX7_isOver_16 rfl (by decide) (by decide) (eZ_0 (Int32.not_le.mpr c_8))
  · refine aw_iconst (v := 1) dX7_isOver_11 (by decide) ?_
    refine aw_goto (tgt := 16) dX7_isOver_12 (by decide) ?_
    exact aw_zret dX7_isOver_16 rfl (by decide) (by decide) (eZ_1 (Int32.not_lt.mp c_8))
set_option maxHeartbeats 4000000 in
theorem k_currentOf (σ : Sg) (row : Nat) (g : Rw) (r nb : Nat) (hT : cT row = .inr (0, 151)) (hn : row < NN) (hnb : g 3 = nI nb) (hb : nb ≤ 12) : Ct yX7_currentOf cX7_currentOf mX7_currentOf 4 0 0 NN false (sA σ row g) [.ref row, .int (nI r)] NN (eI1 (sA σ row g) (oI (fCur g r nb))) XF := by
  refine ct_of (ls0 := [some (.ref row), some (.int (nI r)), none, none, none]) 3 (by decide +kernel) rfl rfl (ndR (ndI nd0)) rfl (Nat.le_of_ble_eq_true rfl) (fun K => ?_)
  have L5 : ∀ (k : Nat) (b : Nat) (h1 : b ≤ nb) (h2 : nb - b < k) (x4 : Option Value), AW K RX7 cX7_currentOf mX7_currentOf 4 0 0 (Qm K NN (eI1 (sA σ row g) (oI (fCur g r nb))) XF 0 0) NN none (sA σ row g) 0 0 5 [some (.ref row), some (.int (nI r)), some (.int (oI (fCur g r b))), some (.int (nI b)), x4] [] := by
    intro k
    induction k with
    | zero => intro b h1 h2 x4; exact absurd h2 (Nat.not_lt_zero _)
    | succ k ih =>
      intro b h1 h2 x4
      refine aw_iload3 dX7_currentOf_5 ?_
      refine aw_aload0 dX7_currentOf_6 ?_
      refine aw_iconst (v := 3) dX7_currentOf_7 (by decide) ?_
      refine aw_iald (j := 3) dX7_currentOf_8 hT hn rfl (by decide) (sA_at.trans hnb) ?_
      refine aw_ic_ge (tgt := 68) dX7_currentOf_9 (by decide) (fun c_9 => ?_) (fun c_9 => ?_)
      · have hbb : b = nb := by
          have := (nI_leI (by omega) (by omega)).mp c_9
          omega
        subst hbb
        refine aw_iload2 dX7_currentOf_68 ?_
        exact aw_iret dX7_currentOf_69 rfl (by decide) eI_of
      · have hlt : b < nb := by
          rcases Nat.lt_or_ge b nb with q | q
          · exact q
          · exact absurd (nI_le q (by omega)) c_9
        refine aw_aload0 dX7_currentOf_12 ?_
        refine aw_iload3 dX7_currentOf_13 ?_
        refine aw_iconst (v := 0) dX7_currentOf_14 (by decide) ?_
        refine aw_SI2 (k_bookAt _ _ 0) dX7_currentOf_15 sl_7_49 (by decide) (Nat.le_of_ble_eq_true rfl) (fun σ_15 r_15 h_15 => ?_)
        obtain ⟨rfl, rfl⟩ := h_15
        refine aw_iald dX7_currentOf_18 hT hn rfl (by omega) sA_at ?_
        refine aw_iload1 dX7_currentOf_19 ?_
        refine aw_ic_ne (tgt := 48) dX7_currentOf_20 (by decide) (fun c_20 => ?_) (fun c_20 => ?_)
        · refine aw_iconst (v := 0) dX7_currentOf_48 (by decide) ?_
          refine aw_istore4 dX7_currentOf_49 (by decide) rfl ?_
          refine aw_iload4 dX7_currentOf_51 ?_
          refine aw_if_eq (tgt := 60) dX7_currentOf_53 (by decide) (fun _ => ?_) (fun c_53 => absurd c_53 (by decide))
          refine aw_iload2 dX7_currentOf_60 ?_
          refine aw_istore2 dX7_currentOf_61 (by decide) rfl ?_
          refine aw_iinc3 (w := nI (b + 1)) dX7_currentOf_62 (nI_1 b) (by decide) rfl ?_
          refine aw_goto (tgt := 5) dX7_currentOf_65 (by decide) ?_
          have e : fCur g r (b + 1) = fCur g r b := if_neg (fun h => by
            obtain ⟨h1, h2, h3⟩ := curD_iff.mp h
            first | exact c_20 h1 | exact Int32.not_lt.mpr h2 c_33 | exact h3 p_38)
          have k9 := ih (b + 1) hlt (by omega) (some (.int 0))
          rw [e] at k9
          exact k9
        · refine aw_aload0 dX7_currentOf_23 ?_
          refine aw_iload3 dX7_currentOf_24 ?_
          refine aw_iconst (v := 2) dX7_currentOf_25 (by decide) ?_
          refine aw_SI2 (k_bookAt _ _ 2) dX7_currentOf_26 sl_7_49 (by decide) (Nat.le_of_ble_eq_true rfl) (fun σ_26 r_26 h_26 => ?_)
          obtain ⟨rfl, rfl⟩ := h_26
          refine aw_iald dX7_currentOf_29 hT hn rfl (by omega) sA_at ?_
          refine aw_aload0 dX7_currentOf_30 ?_
          refine aw_iconst (v := 0) dX7_currentOf_31 (by decide) ?_
          refine aw_iald (j := 0) dX7_currentOf_32 hT hn rfl (by decide) sA_at ?_
          refine aw_ic_gt (tgt := 48) dX7_currentOf_33 (by decide) (fun c_33 => ?_) (fun c_33 => ?_)
          · refine aw_iconst (v := 0) dX7_currentOf_48 (by decide) ?_
            refine aw_istore4 dX7_currentOf_49 (by decide) rfl ?_
            refine aw_iload4 dX7_currentOf_51 ?_
            refine aw_if_eq (tgt := 60) dX7_currentOf_53 (by decide) (fun _ => ?_) (fun c_53 => absurd c_53 (by decide))
            refine aw_iload2 dX7_currentOf_60 ?_
            refine aw_istore2 dX7_currentOf_61 (by decide) rfl ?_
            refine aw_iinc3 (w := nI (b + 1)) dX7_currentOf_62 (nI_1 b) (by decide) rfl ?_
            refine aw_goto (tgt := 5) dX7_currentOf_65 (by decide) ?_
            have e : fCur g r (b + 1) = fCur g r b := if_neg (fun h => by
              obtain ⟨h1, h2, h3⟩ := curD_iff.mp h
              first | exact c_20 h1 | exact Int32.not_lt.mpr h2 c_33 | exact h3 p_38)
            have k9 := ih (b + 1) hlt (by omega) (some (.int 0))
            rw [e] at k9
            exact k9
          · refine aw_aload0 dX7_currentOf_36 ?_
            refine aw_iload3 dX7_currentOf_37 ?_
            refine aw_SI2 (k_isOver _ _ _ _ hT hn (by omega)) dX7_currentOf_38 sl_7_57 (by decide) (Nat.le_of_ble_eq_true rfl) (fun σ_38 r_38 h_38 => ?_)
            obtain ⟨rfl, h_38⟩ := h_38
            rcases h_38 with ⟨rfl, p_38⟩ | ⟨rfl, p_38⟩
            · refine aw_if_ne (tgt := 48) dX7_currentOf_41 (by decide) (fun _ => ?_) (fun c_41 => absurd c_41 (by decide))
              refine aw_iconst (v := 0) dX7_currentOf_48 (by decide) ?_
              refine aw_istore4 dX7_currentOf_49 (by decide) rfl ?_
              refine aw_iload4 dX7_currentOf_51 ?_
              refine aw_if_eq (tgt := 60) dX7_currentOf_53 (by decide) (fun _ => ?_) (fun c_53 => absurd c_53 (by decide))
              refine aw_iload2 dX7_currentOf_60 ?_
              refine aw_istore2 dX7_currentOf_61 (by decide) rfl ?_
              refine aw_iinc3 (w := nI (b + 1)) dX7_currentOf_62 (nI_1 b) (by decide) rfl ?_
              refine aw_goto (tgt := 5) dX7_currentOf_65 (by decide) ?_
              have e : fCur g r (b + 1) = fCur g r b := if_neg (fun h => by
                obtain ⟨h1, h2, h3⟩ := curD_iff.mp h
                first | exact c_20 h1 | exact Int32.not_lt.mpr h2 c_33 | exact h3 p_38)
              have k9 := ih (b + 1) hlt (by omega) (some (.int 0))
              rw [e] at k9
              exact k9
            · refine aw_if_ne (tgt := 48) dX7_currentOf_41 (by decide) (fun c_41 => absurd c_41 (by decide)) (fun _ => ?_)
              refine aw_iconst (v := 1) dX7_currentOf_44 (by decide) ?_
              refine aw_goto (tgt := 49) dX7_currentOf_45 (by decide) ?_
              refine aw_istore4 dX7_currentOf_49 (by decide) rfl ?_
              refine aw_iload4 dX7_currentOf_51 ?_
              refine aw_if_eq (tgt := 60) dX7_currentOf_53 (by decide) (fun c_53 => absurd c_53 (by decide)) (fun _ => ?_)
              refine aw_iload3 dX7_currentOf_56 ?_
              refine aw_goto (tgt := 61) dX7_currentOf_57 (by decide) ?_
              refine aw_istore2 dX7_currentOf_61 (by decide) rfl ?_
              refine aw_iinc3 (w := nI (b + 1)) dX7_currentOf_62 (nI_1 b) (by decide) rfl ?_
              refine aw_goto (tgt := 5) dX7_currentOf_65 (by decide) ?_
              have e : fCur g r (b + 1) = some b := if_pos (curD_iff.mpr ⟨c_20, Int32.not_lt.mp c_33, p_38⟩)
              have k9 := ih (b + 1) hlt (by omega) (some (.int 1))
              rw [e] at k9
              exact k9
  refine aw_bipush (v := (-99)) dX7_currentOf_0 (by decide) ?_
  refine aw_istore2 dX7_currentOf_2 (by decide) rfl ?_
  refine aw_iconst (v := 0) dX7_currentOf_3 (by decide) ?_
  refine aw_istore3 dX7_currentOf_4 (by decide) rfl ?_
  exact L5 (nb + 1) 0 (Nat.zero_le _) (by omega) none
theorem oI_n {o : Option Nat} (h : ∀ f, o = some f → f < 12) (e : oI o = -99) : o = none := by
  cases o with
  | none => rfl
  | some f =>
    have hf := h f rfl
    have h2 : (nI f).toInt = (f : Int) := nI_toInt (by omega)
    rw [show oI (some f) = nI f from rfl] at e
    rw [e] at h2
    have h3 : (-99 : Int32).toInt = -99 := by decide
    omega
theorem oI_s {o : Option Nat} (e : ¬ oI o = -99) : ∃ f, o = some f := by
  cases o with
  | none => exact absurd rfl e
  | some f => exact ⟨f, rfl⟩
set_option maxHeartbeats 4000000 in
theorem k_nextOf (σ : Sg) (row : Nat) (g : Rw) (r nb : Nat) (hT : cT row = .inr (0, 151)) (hn : row < NN) (hnb : g 3 = nI nb) (hb : nb ≤ 12) : Ct yX7_nextOf cX7_nextOf mX7_nextOf 4 0 0 NN false (sA σ row g) [.ref row, .int (nI r)] NN (eI1 (sA σ row g) (oI (fNxt g r nb))) XF := by
  refine ct_of (ls0 := [some (.ref row), some (.int (nI r)), none, none, none]) 3 (by decide +kernel) rfl rfl (ndR (ndI nd0)) rfl (Nat.le_of_ble_eq_true rfl) (fun K => ?_)
  have L5 : ∀ (k : Nat) (b : Nat) (h1 : b ≤ nb) (h2 : nb - b < k) (x4 : Option Value), AW K RX7 cX7_nextOf mX7_nextOf 4 0 0 (Qm K NN (eI1 (sA σ row g) (oI (fNxt g r nb))) XF 0 0) NN none (sA σ row g) 0 0 5 [some (.ref row), some (.int (nI r)), some (.int (oI (fNxt g r b))), some (.int (nI b)), x4] [] := by
    intro k
    induction k with
    | zero => intro b h1 h2 x4; exact absurd h2 (Nat.not_lt_zero _)
    | succ k ih =>
      intro b h1 h2 x4
      refine aw_iload3 dX7_nextOf_5 ?_
      refine aw_aload0 dX7_nextOf_6 ?_
      refine aw_iconst (v := 3) dX7_nextOf_7 (by decide) ?_
      refine aw_iald (j := 3) dX7_nextOf_8 hT hn rfl (by decide) (sA_at.trans hnb) ?_
      refine aw_ic_ge (tgt := 83) dX7_nextOf_9 (by decide) (fun c_9 => ?_) (fun c_9 => ?_)
      · have hbb : b = nb := by
          have := (nI_leI (by omega) (by omega)).mp c_9
          omega
        subst hbb
        refine aw_iload2 dX7_nextOf_83 ?_
        exact aw_iret dX7_nextOf_84 rfl (by decide) eI_of
      · have hlt : b < nb := by
          rcases Nat.lt_or_ge b nb with q | q
          · exact q
          · exact absurd (nI_le q (by omega)) c_9
        refine aw_aload0 dX7_nextOf_12 ?_
        refine aw_iload3 dX7_nextOf_13 ?_
        refine aw_iconst (v := 0) dX7_nextOf_14 (by decide) ?_
        refine aw_SI2 (k_bookAt _ _ 0) dX7_nextOf_15 sl_7_49 (by decide) (Nat.le_of_ble_eq_true rfl) (fun σ_15 r_15 h_15 => ?_)
        obtain ⟨rfl, rfl⟩ := h_15
        refine aw_iald dX7_nextOf_18 hT hn rfl (by omega) sA_at ?_
        refine aw_iload1 dX7_nextOf_19 ?_
        refine aw_ic_ne (tgt := 40) dX7_nextOf_20 (by decide) (fun c_20 => ?_) (fun c_20 => ?_)
        · refine aw_iconst (v := 0) dX7_nextOf_40 (by decide) ?_
          refine aw_istore4 dX7_nextOf_41 (by decide) rfl ?_
          refine aw_iload4 dX7_nextOf_43 ?_
          refine aw_if_eq (tgt := 75) dX7_nextOf_45 (by decide) (fun _ => ?_) (fun c_45 => absurd c_45 (by decide))
          refine aw_iload2 dX7_nextOf_75 ?_
          refine aw_istore2 dX7_nextOf_76 (by decide) rfl ?_
          refine aw_iinc3 (w := nI (b + 1)) dX7_nextOf_77 (nI_1 b) (by decide) rfl ?_
          refine aw_goto (tgt := 5) dX7_nextOf_80 (by decide) ?_
          have e : fNxt g r (b + 1) = fNxt g r b := if_neg (fun h => by
            obtain ⟨h1, h2, h3⟩ := nxtD_iff.mp h
            first | exact c_20 h1 | exact Int32.not_le.mpr h2 c_33 | exact Int32.not_lt.mpr c_68 (h3 f hf))
          have k9 := ih (b + 1) hlt (by omega) (some (.int 0))
          rw [e] at k9
          first | exact k9 | (rw [hf] at k9; exact k9)
        · refine aw_aload0 dX7_nextOf_23 ?_
          refine aw_iload3 dX7_nextOf_24 ?_
          refine aw_iconst (v := 2) dX7_nextOf_25 (by decide) ?_
          refine aw_SI2 (k_bookAt _ _ 2) dX7_nextOf_26 sl_7_49 (by decide) (Nat.le_of_ble_eq_true rfl) (fun σ_26 r_26 h_26 => ?_)
          obtain ⟨rfl, rfl⟩ := h_26
          refine aw_iald dX7_nextOf_29 hT hn rfl (by omega) sA_at ?_
          refine aw_aload0 dX7_nextOf_30 ?_
          refine aw_iconst (v := 0) dX7_nextOf_31 (by decide) ?_
          refine aw_iald (j := 0) dX7_nextOf_32 hT hn rfl (by decide) sA_at ?_
          refine aw_ic_le (tgt := 40) dX7_nextOf_33 (by decide) (fun c_33 => ?_) (fun c_33 => ?_)
          · refine aw_iconst (v := 0) dX7_nextOf_40 (by decide) ?_
            refine aw_istore4 dX7_nextOf_41 (by decide) rfl ?_
            refine aw_iload4 dX7_nextOf_43 ?_
            refine aw_if_eq (tgt := 75) dX7_nextOf_45 (by decide) (fun _ => ?_) (fun c_45 => absurd c_45 (by decide))
            refine aw_iload2 dX7_nextOf_75 ?_
            refine aw_istore2 dX7_nextOf_76 (by decide) rfl ?_
            refine aw_iinc3 (w := nI (b + 1)) dX7_nextOf_77 (nI_1 b) (by decide) rfl ?_
            refine aw_goto (tgt := 5) dX7_nextOf_80 (by decide) ?_
            have e : fNxt g r (b + 1) = fNxt g r b := if_neg (fun h => by
              obtain ⟨h1, h2, h3⟩ := nxtD_iff.mp h
              first | exact c_20 h1 | exact Int32.not_le.mpr h2 c_33 | exact Int32.not_lt.mpr c_68 (h3 f hf))
            have k9 := ih (b + 1) hlt (by omega) (some (.int 0))
            rw [e] at k9
            first | exact k9 | (rw [hf] at k9; exact k9)
          · refine aw_iconst (v := 1) dX7_nextOf_36 (by decide) ?_
            refine aw_goto (tgt := 41) dX7_nextOf_37 (by decide) ?_
            refine aw_istore4 dX7_nextOf_41 (by decide) rfl ?_
            refine aw_iload4 dX7_nextOf_43 ?_
            refine aw_if_eq (tgt := 75) dX7_nextOf_45 (by decide) (fun c_45 => absurd c_45 (by decide)) (fun _ => ?_)
            refine aw_iload2 dX7_nextOf_48 ?_
            refine aw_bipush (v := (-99)) dX7_nextOf_49 (by decide) ?_
            refine aw_ic_eq (tgt := 71) dX7_nextOf_51 (by decide) (fun c_51 => ?_) (fun c_51 => ?_)
            · have hO : ∀ f, fNxt g r b = some f → g (31 + 10 * b + 2) < g (31 + 10 * f + 2) := by
                first
                  | (intro f hf; rw [oI_n (fun f hf => by have := fNxt_lt hf; omega) c_51] at hf; cases hf)
                  | (intro f9 hf9; rw [hf] at hf9; cases hf9; exact Int32.not_le.mp c_68)
              refine aw_iload3 dX7_nextOf_71 ?_
              refine aw_goto (tgt := 76) dX7_nextOf_72 (by decide) ?_
              refine aw_istore2 dX7_nextOf_76 (by decide) rfl ?_
              refine aw_iinc3 (w := nI (b + 1)) dX7_nextOf_77 (nI_1 b) (by decide) rfl ?_
              refine aw_goto (tgt := 5) dX7_nextOf_80 (by decide) ?_
              have e : fNxt g r (b + 1) = some b := if_pos (nxtD_iff.mpr ⟨c_20, Int32.not_le.mp c_33, hO⟩)
              have k9 := ih (b + 1) hlt (by omega) (some (.int 1))
              rw [e] at k9
              exact k9
            · obtain ⟨f, hf⟩ := oI_s c_51
              have hf12 : f < 12 := by have := fNxt_lt hf; omega
              rw [hf]
              rw [show oI (some f) = nI f from rfl]
              refine aw_aload0 dX7_nextOf_54 ?_
              refine aw_iload3 dX7_nextOf_55 ?_
              refine aw_iconst (v := 2) dX7_nextOf_56 (by decide) ?_
              refine aw_SI2 (k_bookAt _ _ 2) dX7_nextOf_57 sl_7_49 (by decide) (Nat.le_of_ble_eq_true rfl) (fun σ_57 r_57 h_57 => ?_)
              obtain ⟨rfl, rfl⟩ := h_57
              refine aw_iald dX7_nextOf_60 hT hn rfl (by omega) sA_at ?_
              refine aw_aload0 dX7_nextOf_61 ?_
              refine aw_iload2 dX7_nextOf_62 ?_
              refine aw_iconst (v := 2) dX7_nextOf_63 (by decide) ?_
              refine aw_SI2 (k_bookAt _ _ 2) dX7_nextOf_64 sl_7_49 (by decide) (Nat.le_of_ble_eq_true rfl) (fun σ_64 r_64 h_64 => ?_)
              obtain ⟨rfl, rfl⟩ := h_64
              refine aw_iald dX7_nextOf_67 hT hn rfl (by omega) sA_at ?_
              refine aw_ic_ge (tgt := 75) dX7_nextOf_68 (by decide) (fun c_68 => ?_) (fun c_68 => ?_)
              · refine aw_iload2 dX7_nextOf_75 ?_
                refine aw_istore2 dX7_nextOf_76 (by decide) rfl ?_
                refine aw_iinc3 (w := nI (b + 1)) dX7_nextOf_77 (nI_1 b) (by decide) rfl ?_
                refine aw_goto (tgt := 5) dX7_nextOf_80 (by decide) ?_
                have e : fNxt g r (b + 1) = fNxt g r b := if_neg (fun h => by
                  obtain ⟨h1, h2, h3⟩ := nxtD_iff.mp h
                  first | exact c_20 h1 | exact Int32.not_le.mpr h2 c_33 | exact Int32.not_lt.mpr c_68 (h3 f hf))
                have k9 := ih (b + 1) hlt (by omega) (some (.int 1))
                rw [e] at k9
                first | exact k9 | (rw [hf] at k9; exact k9)
              · have hO : ∀ f, fNxt g r b = some f → g (31 + 10 * b + 2) < g (31 + 10 * f + 2) := by
                  first
                    | (intro f hf; rw [oI_n (fun f hf => by have := fNxt_lt hf; omega) c_51] at hf; cases hf)
                    | (intro f9 hf9; rw [hf] at hf9; cases hf9; exact Int32.not_le.mp c_68)
                refine aw_iload3 dX7_nextOf_71 ?_
                refine aw_goto (tgt := 76) dX7_nextOf_72 (by decide) ?_
                refine aw_istore2 dX7_nextOf_76 (by decide) rfl ?_
                refine aw_iinc3 (w := nI (b + 1)) dX7_nextOf_77 (nI_1 b) (by decide) rfl ?_
                refine aw_goto (tgt := 5) dX7_nextOf_80 (by decide) ?_
                have e : fNxt g r (b + 1) = some b := if_pos (nxtD_iff.mpr ⟨c_20, Int32.not_le.mp c_33, hO⟩)
                have k9 := ih (b + 1) hlt (by omega) (some (.int 1))
                rw [e] at k9
                exact k9
  refine aw_bipush (v := (-99)) dX7_nextOf_0 (by decide) ?_
  refine aw_istore2 dX7_nextOf_2 (by decide) rfl ?_
  refine aw_iconst (v := 0) dX7_nextOf_3 (by decide) ?_
  refine aw_istore3 dX7_nextOf_4 (by decide) rfl ?_
  exact L5 (nb + 1) 0 (Nat.zero_le _) (by omega) none
set_option maxHeartbeats 4000000 in
theorem k_cooled (σ : Sg) (row : Nat) (g : Rw) (r : Nat) (hT : cT row = .inr (0, 151)) (hn : row < NN) (hr : r < 4) : Ct yX7_cooled cX7_cooled mX7_cooled 3 0 0 NN false (sA σ row g) [.ref row, .int (nI r)] NN (eI1 (sA σ row g) (fCool g r)) XF := by
  refine ct_of (ls0 := [some (.ref row), some (.int (nI r)), none]) 1 (by decide +kernel) rfl rfl (ndR (ndI nd0)) rfl (Nat.le_of_ble_eq_true rfl) (fun K => ?_)
  refine aw_aload0 dX7_cooled_0 ?_
  refine aw_iload1 dX7_cooled_1 ?_
  refine aw_iconst (v := 3) dX7_cooled_2 (by decide) ?_
  refine aw_SI2 (k_roomAt _ _ 3) dX7_cooled_3 sl_7_61 (by decide) (Nat.le_of_ble_eq_true rfl) (fun σ_3 r_3 h_3 => ?_)
  obtain ⟨rfl, rfl⟩ := h_3
  refine aw_iald dX7_cooled_6 hT hn rfl (by omega) sA_at ?_
  refine aw_istore2 dX7_cooled_7 (by decide) rfl ?_
  refine aw_iload2 dX7_cooled_8 ?_
  refine aw_aload0 dX7_cooled_9 ?_
  refine aw_iload1 dX7_cooled_10 ?_
  refine aw_iconst (v := 1) dX7_cooled_11 (by decide) ?_
  refine aw_SI2 (k_roomAt _ _ 1) dX7_cooled_12 sl_7_61 (by decide) (Nat.le_of_ble_eq_true rfl) (fun σ_12 r_12 h_12 => ?_)
  obtain ⟨rfl, rfl⟩ := h_12
  refine aw_iald dX7_cooled_15 hT hn rfl (by omega) sA_at ?_
  refine aw_iload2 dX7_cooled_16 ?_
  refine aw_aload0 dX7_cooled_17 ?_
  refine aw_iconst (v := 4) dX7_cooled_18 (by decide) ?_
  refine aw_iald (j := 4) dX7_cooled_19 hT hn rfl (by decide) sA_at ?_
  refine aw_isub dX7_cooled_20 ?_
  refine aw_imul dX7_cooled_21 ?_
  refine aw_bipush (v := 100) dX7_cooled_22 (by decide) ?_
  refine aw_idiv dX7_cooled_24 (by decide) ?_
  refine aw_isub dX7_cooled_25 ?_
  exact aw_iret dX7_cooled_26 rfl (by decide) eI_of
set_option maxHeartbeats 4000000 in
theorem k_isPreheated (σ : Sg) (row : Nat) (g : Rw) (r b : Nat) (hT : cT row = .inr (0, 151)) (hn : row < NN) (hr : r < 4) (hb : b < 12) : Ct yX7_isPreheated cX7_isPreheated mX7_isPreheated 4 0 0 NN false (sA σ row g) [.ref row, .int (nI r), .int (nI b)] NN (eZ1 (sA σ row g) (fPre g r b)) XF := by
  refine ct_of (ls0 := [some (.ref row), some (.int (nI r)), some (.int (nI b)), none]) 1 (by decide +kernel) rfl rfl (ndR (ndI (ndI nd0))) rfl (Nat.le_of_ble_eq_true rfl) (fun K => ?_)
  refine aw_aload0 dX7_isPreheated_0 ?_
  refine aw_iload2 dX7_isPreheated_1 ?_
  refine aw_iconst (v := 2) dX7_isPreheated_2 (by decide) ?_
  refine aw_SI2 (k_bookAt _ _ 2) dX7_isPreheated_3 sl_7_49 (by decide) (Nat.le_of_ble_eq_true rfl) (fun σ_3 r_3 h_3 => ?_)
  obtain ⟨rfl, rfl⟩ := h_3
  refine aw_iald dX7_isPreheated_6 hT hn rfl (by omega) sA_at ?_
  refine aw_aload0 dX7_isPreheated_7 ?_
  refine aw_iconst (v := 0) dX7_isPreheated_8 (by decide) ?_
  refine aw_iald (j := 0) dX7_isPreheated_9 hT hn rfl (by decide) sA_at ?_
  refine aw_isub dX7_isPreheated_10 ?_
  refine aw_iconst (v := 1) dX7_isPreheated_11 (by decide) ?_
  refine aw_isub dX7_isPreheated_12 ?_
  refine aw_istore3 dX7_isPreheated_13 (by decide) rfl ?_
  refine aw_aload0 dX7_isPreheated_14 ?_
  refine aw_iload2 dX7_isPreheated_15 ?_
  refine aw_bipush (v := 9) dX7_isPreheated_16 (by decide) ?_
  refine aw_SI2 (k_bookAt _ _ 9) dX7_isPreheated_18 sl_7_49 (by decide) (Nat.le_of_ble_eq_true rfl) (fun σ_18 r_18 h_18 => ?_)
  obtain ⟨rfl, rfl⟩ := h_18
  refine aw_iald dX7_isPreheated_21 hT hn rfl (by omega) sA_at ?_
  refine aw_iconst (v := 1) dX7_isPreheated_22 (by decide) ?_
  refine aw_ic_eq (tgt := 51) dX7_isPreheated_23 (by decide) (fun c_23 => ?_) (fun c_23 => ?_)
  · refine aw_iconst (v := 1) dX7_isPreheated_51 (by decide) ?_
    refine aw_goto (tgt := 56) dX7_isPreheated_52 (by decide) ?_
    exact aw_zret dX7_isPreheated_56 rfl (by decide) (by decide) (eZ_1 (by first | exact Or.inl c_23 | exact Or.inr (Int32.not_le.mp c_48)))
  · refine aw_aload0 dX7_isPreheated_26 ?_
    refine aw_iload1 dX7_isPreheated_27 ?_
    refine aw_SI2 (k_cooled _ _ _ _ hT hn hr) dX7_isPreheated_28 sl_7_64 (by decide) (Nat.le_of_ble_eq_true rfl) (fun σ_28 r_28 h_28 => ?_)
    obtain ⟨rfl, rfl⟩ := h_28
    refine aw_aload0 dX7_isPreheated_31 ?_
    refine aw_iload1 dX7_isPreheated_32 ?_
    refine aw_iconst (v := 2) dX7_isPreheated_33 (by decide) ?_
    refine aw_SI2 (k_roomAt _ _ 2) dX7_isPreheated_34 sl_7_61 (by decide) (Nat.le_of_ble_eq_true rfl) (fun σ_34 r_34 h_34 => ?_)
    obtain ⟨rfl, rfl⟩ := h_34
    refine aw_iald dX7_isPreheated_37 hT hn rfl (by omega) sA_at ?_
    refine aw_iload3 dX7_isPreheated_38 ?_
    refine aw_imul dX7_isPreheated_39 ?_
    refine aw_iadd dX7_isPreheated_40 ?_
    refine aw_aload0 dX7_isPreheated_41 ?_
    refine aw_iload2 dX7_isPreheated_42 ?_
    refine aw_iconst (v := 4) dX7_isPreheated_43 (by decide) ?_
    refine aw_SI2 (k_bookAt _ _ 4) dX7_isPreheated_44 sl_7_49 (by decide) (Nat.le_of_ble_eq_true rfl) (fun σ_44 r_44 h_44 => ?_)
    obtain ⟨rfl, rfl⟩ := h_44
    refine aw_iald dX7_isPreheated_47 hT hn rfl (by omega) sA_at ?_
    refine aw_ic_ge (tgt := 55) dX7_isPreheated_48 (by decide) (fun c_48 => ?_) (fun c_48 => ?_)
    · refine aw_iconst (v := 0) dX7_isPreheated_55 (by decide) ?_
      exact aw_zret dX7_isPreheated_56 rfl (by decide) (by decide) (eZ_0 (fun h => h.elim c_23 (Int32.not_lt.mpr c_48)))
    · refine aw_iconst (v := 1) dX7_isPreheated_51 (by decide) ?_
      refine aw_goto (tgt := 56) dX7_isPreheated_52 (by decide) ?_
      exact aw_zret dX7_isPreheated_56 rfl (by decide) (by decide) (eZ_1 (by first | exact Or.inl c_23 | exact Or.inr (Int32.not_le.mp c_48)))
set_option maxHeartbeats 4000000 in
theorem k_heaterOf (σ : Sg) (row : Nat) (g : Rw) (r nb : Nat) (hT : cT row = .inr (0, 151)) (hn : row < NN) (hnb : g 3 = nI nb) (hb : nb ≤ 12) (hr : r < 4) : Ct yX7_heaterOf cX7_heaterOf mX7_heaterOf 5 0 0 NN false (sA σ row g) [.ref row, .int (nI r)] NN (eI1 (sA σ row g) (oI (fHeater g r nb))) XF := by
  refine ct_of (ls0 := [some (.ref row), some (.int (nI r)), none]) 1 (by decide +kernel) rfl rfl (ndR (ndI nd0)) rfl (Nat.le_of_ble_eq_true rfl) (fun K => ?_)
  refine aw_aload0 dX7_heaterOf_0 ?_
  refine aw_iload1 dX7_heaterOf_1 ?_
  refine aw_SI2 (k_currentOf _ _ _ _ _ hT hn hnb hb) dX7_heaterOf_2 sl_7_67 (by decide) (Nat.le_of_ble_eq_true rfl) (fun σ_2 r_2 h_2 => ?_)
  obtain ⟨rfl, rfl⟩ := h_2
  refine aw_istore2 dX7_heaterOf_5 (by decide) rfl ?_
  refine aw_iload2 dX7_heaterOf_6 ?_
  refine aw_bipush (v := (-99)) dX7_heaterOf_7 (by decide) ?_
  refine aw_ic_eq (tgt := 14) dX7_heaterOf_9 (by decide) (fun c_9 => ?_) (fun c_9 => ?_)
  · refine aw_aload0 dX7_heaterOf_14 ?_
    refine aw_iload1 dX7_heaterOf_15 ?_
    refine aw_SI2 (k_nextOf _ _ _ _ _ hT hn hnb hb) dX7_heaterOf_16 sl_7_70 (by decide) (Nat.le_of_ble_eq_true rfl) (fun σ_16 r_16 h_16 => ?_)
    obtain ⟨rfl, rfl⟩ := h_16
    refine aw_istore2 dX7_heaterOf_19 (by decide) rfl ?_
    refine aw_iload2 dX7_heaterOf_20 ?_
    refine aw_bipush (v := (-99)) dX7_heaterOf_21 (by decide) ?_
    refine aw_ic_eq (tgt := 39) dX7_heaterOf_23 (by decide) (fun c_23 => ?_) (fun c_23 => ?_)
    · refine aw_bipush (v := (-99)) dX7_heaterOf_39 (by decide) ?_
      exact aw_iret dX7_heaterOf_41 rfl (by decide) (eI_to (by
        have h1 := oI_n (fun f hf => by have := fCur_lt hf; omega) c_9
        first
          | (have h2 := oI_n (fun f hf => by have := fNxt_lt hf; omega) c_23
             rw [fHeater, h1, h2]; rfl)
          | (rw [fHeater, h1, hf]; simp only [fPreD_iff, p_29, if_true, if_false]; rfl)))
    · obtain ⟨f, hf⟩ := oI_s c_23
      have hf12 : f < 12 := by have := fNxt_lt hf; omega
      rw [hf]
      rw [show oI (some f) = nI f from rfl]
      refine aw_aload0 dX7_heaterOf_26 ?_
      refine aw_iload1 dX7_heaterOf_27 ?_
      refine aw_iload2 dX7_heaterOf_28 ?_
      refine aw_SI3 (k_isPreheated _ _ _ _ _ hT hn hr (by omega)) dX7_heaterOf_29 sl_7_73 (by decide) (Nat.le_of_ble_eq_true rfl) (fun σ_29 r_29 h_29 => ?_)
      obtain ⟨rfl, h_29⟩ := h_29
      rcases h_29 with ⟨rfl, p_29⟩ | ⟨rfl, p_29⟩
      · refine aw_if_eq (tgt := 39) dX7_heaterOf_32 (by decide) (fun c_32 => absurd c_32 (by decide)) (fun _ => ?_)
        refine aw_iload2 dX7_heaterOf_35 ?_
        refine aw_goto (tgt := 41) dX7_heaterOf_36 (by decide) ?_
        exact aw_iret dX7_heaterOf_41 rfl (by decide) (eI_to (by
          have h1 := oI_n (fun f hf => by have := fCur_lt hf; omega) c_9
          first
            | (have h2 := oI_n (fun f hf => by have := fNxt_lt hf; omega) c_23
               rw [fHeater, h1, h2]; rfl)
            | (rw [fHeater, h1, hf]; simp only [fPreD_iff, p_29, if_true, if_false]; rfl)))
      · refine aw_if_eq (tgt := 39) dX7_heaterOf_32 (by decide) (fun _ => ?_) (fun c_32 => absurd c_32 (by decide))
        refine aw_bipush (v := (-99)) dX7_heaterOf_39 (by decide) ?_
        exact aw_iret dX7_heaterOf_41 rfl (by decide) (eI_to (by
          have h1 := oI_n (fun f hf => by have := fCur_lt hf; omega) c_9
          first
            | (have h2 := oI_n (fun f hf => by have := fNxt_lt hf; omega) c_23
               rw [fHeater, h1, h2]; rfl)
            | (rw [fHeater, h1, hf]; simp only [fPreD_iff, p_29, if_true, if_false]; rfl)))
  · refine aw_iload2 dX7_heaterOf_12 ?_
    exact aw_iret dX7_heaterOf_13 rfl (by decide) (eI_to (by obtain ⟨f, hf⟩ := oI_s c_9; rw [fHeater, hf]))
set_option maxHeartbeats 4000000 in
theorem k_canCancel (σ : Sg) (row : Nat) (g : Rw) (b : Nat) (hT : cT row = .inr (0, 151)) (hn : row < NN) (hb : b < 12) : Ct yX7_canCancel cX7_canCancel mX7_canCancel 4 0 0 NN false (sA σ row g) [.ref row, .int (nI b)] NN (eZ1 (sA σ row g) (g (31 + 10 * b + 9) = 0 ∧ g 0 ≤ g (31 + 10 * b + 2))) XF := by
  refine ct_of (ls0 := [some (.ref row), some (.int (nI b))]) 0 (by decide +kernel) rfl rfl (ndR (ndI nd0)) rfl (Nat.le_of_ble_eq_true rfl) (fun K => ?_)
  refine aw_aload0 dX7_canCancel_0 ?_
  refine aw_iload1 dX7_canCancel_1 ?_
  refine aw_bipush (v := 9) dX7_canCancel_2 (by decide) ?_
  refine aw_SI2 (k_bookAt _ _ 9) dX7_canCancel_4 sl_7_49 (by decide) (Nat.le_of_ble_eq_true rfl) (fun σ_4 r_4 h_4 => ?_)
  obtain ⟨rfl, rfl⟩ := h_4
  refine aw_iald dX7_canCancel_7 hT hn rfl (by omega) sA_at ?_
  refine aw_if_ne (tgt := 28) dX7_canCancel_8 (by decide) (fun c_8 => ?_) (fun c_8 => ?_)
  · refine aw_iconst (v := 0) dX7_canCancel_28 (by decide) ?_
    exact aw_zret dX7_canCancel_29 rfl (by decide) (by decide) (eZ_0 (fun h => by first | exact c_8 h.1 | exact Int32.not_lt.mpr h.2 c_21))
  · refine aw_aload0 dX7_canCancel_11 ?_
    refine aw_iconst (v := 0) dX7_canCancel_12 (by decide) ?_
    refine aw_iald (j := 0) dX7_canCancel_13 hT hn rfl (by decide) sA_at ?_
    refine aw_aload0 dX7_canCancel_14 ?_
    refine aw_iload1 dX7_canCancel_15 ?_
    refine aw_iconst (v := 2) dX7_canCancel_16 (by decide) ?_
    refine aw_SI2 (k_bookAt _ _ 2) dX7_canCancel_17 sl_7_49 (by decide) (Nat.le_of_ble_eq_true rfl) (fun σ_17 r_17 h_17 => ?_)
    obtain ⟨rfl, rfl⟩ := h_17
    refine aw_iald dX7_canCancel_20 hT hn rfl (by omega) sA_at ?_
    refine aw_ic_gt (tgt := 28) dX7_canCancel_21 (by decide) (fun c_21 => ?_) (fun c_21 => ?_)
    · refine aw_iconst (v := 0) dX7_canCancel_28 (by decide) ?_
      exact aw_zret dX7_canCancel_29 rfl (by decide) (by decide) (eZ_0 (fun h => by first | exact c_8 h.1 | exact Int32.not_lt.mpr h.2 c_21))
    · refine aw_iconst (v := 1) dX7_canCancel_24 (by decide) ?_
      refine aw_goto (tgt := 29) dX7_canCancel_25 (by decide) ?_
      exact aw_zret dX7_canCancel_29 rfl (by decide) (by decide) (eZ_1 ⟨c_8, Int32.not_lt.mp c_21⟩)
def freeP (g : Rw) (r first hours : Int32) (b : Nat) : Prop := ¬ g (31 + 10 * b + 0) = r ∨ fEnd g b ≤ first ∨ first + hours ≤ g (31 + 10 * b + 2)
def fFree (g : Rw) (r first hours : Int32) (k : Nat) : Prop := ∀ b, b < k → freeP g r first hours b
theorem fFree_s {g : Rw} {r first hours : Int32} {k : Nat} : fFree g r first hours (k + 1) ↔ fFree g r first hours k ∧ freeP g r first hours k := by
  constructor
  · intro h
    exact ⟨fun b hb => h b (Nat.lt_succ_of_lt hb), h k (Nat.lt_succ_self k)⟩
  · rintro ⟨h1, h2⟩ b hb
    rcases Nat.lt_or_ge b k with q | q
    · exact h1 b q
    · rw [show b = k by omega]; exact h2
set_option maxHeartbeats 4000000 in
theorem k_isFree (σ : Sg) (row : Nat) (g : Rw) (r first hours : Int32) (nb : Nat) (hT : cT row = .inr (0, 151)) (hn : row < NN) (hnb : g 3 = nI nb) (hb : nb ≤ 12) : Ct yX7_isFree cX7_isFree mX7_isFree 4 0 0 NN false (sA σ row g) [.ref row, .int r, .int first, .int hours] NN (eZ1 (sA σ row g) (fFree g r first hours nb)) XF := by
  refine ct_of (ls0 := [some (.ref row), some (.int r), some (.int first), some (.int hours), none, none]) 2 (by decide +kernel) rfl rfl (ndR (ndI (ndI (ndI nd0)))) rfl (Nat.le_of_ble_eq_true rfl) (fun K => ?_)
  have L6 : ∀ (k : Nat) (b : Nat) (h1 : b ≤ nb) (h2 : nb - b < k) (v : Int32) (hv : bz (fFree g r first hours b) v), AW K RX7 cX7_isFree mX7_isFree 4 0 0 (Qm K NN (eZ1 (sA σ row g) (fFree g r first hours nb)) XF 0 0) NN none (sA σ row g) 0 0 6 [some (.ref row), some (.int r), some (.int first), some (.int hours), some (.int v), some (.int (nI b))] [] := by
    intro k
    induction k with
    | zero => intro b h1 h2 v hv; exact absurd h2 (Nat.not_lt_zero _)
    | succ k ih =>
      intro b h1 h2 v hv
      refine aw_iload5 dX7_isFree_6 ?_
      refine aw_aload0 dX7_isFree_8 ?_
      refine aw_iconst (v := 3) dX7_isFree_9 (by decide) ?_
      refine aw_iald (j := 3) dX7_isFree_10 hT hn rfl (by decide) (sA_at.trans hnb) ?_
      refine aw_ic_ge (tgt := 68) dX7_isFree_11 (by decide) (fun c_11 => ?_) (fun c_11 => ?_)
      · have hbb : b = nb := by
          have := (nI_leI (by omega) (by omega)).mp c_11
          omega
        subst hbb
        refine aw_iload4 dX7_isFree_68 ?_
        exact aw_zret dX7_isFree_70 rfl (hv.elim (fun h => Or.inr h.1) (fun h => Or.inl h.1)) (by decide) ⟨_, rfl, rfl, hv⟩
      · have hlt : b < nb := by
          rcases Nat.lt_or_ge b nb with q | q
          · exact q
          · exact absurd (nI_le q (by omega)) c_11
        have hv : (v = 1 ∧ fFree g r first hours b) ∨ (v = 0 ∧ ¬ fFree g r first hours b) := hv
        refine aw_iload4 dX7_isFree_14 ?_
        refine aw_if_eq (tgt := 59) dX7_isFree_16 (by decide) (fun c_16 => ?_) (fun c_16 => ?_)
        · 
          refine aw_iconst (v := 0) dX7_isFree_59 (by decide) ?_
          refine aw_istore4 dX7_isFree_60 (by decide) rfl ?_
          refine aw_iinc5 (w := nI (b + 1)) dX7_isFree_62 (nI_1 b) (by decide) rfl ?_
          refine aw_goto (tgt := 6) dX7_isFree_65 (by decide) ?_
          exact ih (b + 1) hlt (by omega) 0 (Or.inr ⟨rfl, fun h => by
            obtain ⟨h1, h2⟩ := fFree_s.mp h
            first
              | exact hv.2 h1
              | exact hv.elim (fun q => absurd (q.1.symm.trans c_16) (by decide)) (fun q => q.2 h1)
              | exact h2.elim (fun q => q c_28) (fun q => q.elim c_38 (Int32.not_le.mpr c_52))⟩)
        · have hv : v = 1 ∧ fFree g r first hours b := hv.elim id (fun h => absurd h.1 c_16)
          refine aw_aload0 dX7_isFree_19 ?_
          refine aw_iload5 dX7_isFree_20 ?_
          refine aw_iconst (v := 0) dX7_isFree_22 (by decide) ?_
          refine aw_SI2 (k_bookAt _ _ 0) dX7_isFree_23 sl_7_49 (by decide) (Nat.le_of_ble_eq_true rfl) (fun σ_23 r_23 h_23 => ?_)
          obtain ⟨rfl, rfl⟩ := h_23
          refine aw_iald dX7_isFree_26 hT hn rfl (by omega) sA_at ?_
          refine aw_iload1 dX7_isFree_27 ?_
          refine aw_ic_ne (tgt := 55) dX7_isFree_28 (by decide) (fun c_28 => ?_) (fun c_28 => ?_)
          · refine aw_iconst (v := 1) dX7_isFree_55 (by decide) ?_
            refine aw_goto (tgt := 60) dX7_isFree_56 (by decide) ?_
            refine aw_istore4 dX7_isFree_60 (by decide) rfl ?_
            refine aw_iinc5 (w := nI (b + 1)) dX7_isFree_62 (nI_1 b) (by decide) rfl ?_
            refine aw_goto (tgt := 6) dX7_isFree_65 (by decide) ?_
            exact ih (b + 1) hlt (by omega) 1 (Or.inl ⟨rfl, fFree_s.mpr ⟨hv.2, by first | exact Or.inl c_28 | exact Or.inr (Or.inl c_38) | exact Or.inr (Or.inr (Int32.not_lt.mp c_52))⟩⟩)
          · refine aw_iload2 dX7_isFree_31 ?_
            refine aw_aload0 dX7_isFree_32 ?_
            refine aw_iload5 dX7_isFree_33 ?_
            refine aw_SI2 (k_endOf _ _ _ _ hT hn (by omega)) dX7_isFree_35 sl_7_53 (by decide) (Nat.le_of_ble_eq_true rfl) (fun σ_35 r_35 h_35 => ?_)
            obtain ⟨rfl, rfl⟩ := h_35
            refine aw_ic_ge (tgt := 55) dX7_isFree_38 (by decide) (fun c_38 => ?_) (fun c_38 => ?_)
            · refine aw_iconst (v := 1) dX7_isFree_55 (by decide) ?_
              refine aw_goto (tgt := 60) dX7_isFree_56 (by decide) ?_
              refine aw_istore4 dX7_isFree_60 (by decide) rfl ?_
              refine aw_iinc5 (w := nI (b + 1)) dX7_isFree_62 (nI_1 b) (by decide) rfl ?_
              refine aw_goto (tgt := 6) dX7_isFree_65 (by decide) ?_
              exact ih (b + 1) hlt (by omega) 1 (Or.inl ⟨rfl, fFree_s.mpr ⟨hv.2, by first | exact Or.inl c_28 | exact Or.inr (Or.inl c_38) | exact Or.inr (Or.inr (Int32.not_lt.mp c_52))⟩⟩)
            · refine aw_iload2 dX7_isFree_41 ?_
              refine aw_iload3 dX7_isFree_42 ?_
              refine aw_iadd dX7_isFree_43 ?_
              refine aw_aload0 dX7_isFree_44 ?_
              refine aw_iload5 dX7_isFree_45 ?_
              refine aw_iconst (v := 2) dX7_isFree_47 (by decide) ?_
              refine aw_SI2 (k_bookAt _ _ 2) dX7_isFree_48 sl_7_49 (by decide) (Nat.le_of_ble_eq_true rfl) (fun σ_48 r_48 h_48 => ?_)
              obtain ⟨rfl, rfl⟩ := h_48
              refine aw_iald dX7_isFree_51 hT hn rfl (by omega) sA_at ?_
              refine aw_ic_gt (tgt := 59) dX7_isFree_52 (by decide) (fun c_52 => ?_) (fun c_52 => ?_)
              · 
                refine aw_iconst (v := 0) dX7_isFree_59 (by decide) ?_
                refine aw_istore4 dX7_isFree_60 (by decide) rfl ?_
                refine aw_iinc5 (w := nI (b + 1)) dX7_isFree_62 (nI_1 b) (by decide) rfl ?_
                refine aw_goto (tgt := 6) dX7_isFree_65 (by decide) ?_
                exact ih (b + 1) hlt (by omega) 0 (Or.inr ⟨rfl, fun h => by
                  obtain ⟨h1, h2⟩ := fFree_s.mp h
                  first
                    | exact hv.2 h1
                    | exact hv.elim (fun q => absurd (q.1.symm.trans c_16) (by decide)) (fun q => q.2 h1)
                    | exact h2.elim (fun q => q c_28) (fun q => q.elim c_38 (Int32.not_le.mpr c_52))⟩)
              · refine aw_iconst (v := 1) dX7_isFree_55 (by decide) ?_
                refine aw_goto (tgt := 60) dX7_isFree_56 (by decide) ?_
                refine aw_istore4 dX7_isFree_60 (by decide) rfl ?_
                refine aw_iinc5 (w := nI (b + 1)) dX7_isFree_62 (nI_1 b) (by decide) rfl ?_
                refine aw_goto (tgt := 6) dX7_isFree_65 (by decide) ?_
                exact ih (b + 1) hlt (by omega) 1 (Or.inl ⟨rfl, fFree_s.mpr ⟨hv.2, by first | exact Or.inl c_28 | exact Or.inr (Or.inl c_38) | exact Or.inr (Or.inr (Int32.not_lt.mp c_52))⟩⟩)
  refine aw_iconst (v := 1) dX7_isFree_0 (by decide) ?_
  refine aw_istore4 dX7_isFree_1 (by decide) rfl ?_
  refine aw_iconst (v := 0) dX7_isFree_3 (by decide) ?_
  refine aw_istore5 dX7_isFree_4 (by decide) rfl ?_
  exact L6 (nb + 1) 0 (Nat.zero_le _) (by omega) 1 (Or.inl ⟨rfl, fun _ h => absurd h (Nat.not_lt_zero _)⟩)
