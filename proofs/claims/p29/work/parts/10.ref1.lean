/-! joins; small facts; what the rows of 151 numbers hold -/
section AWJ
variable {K : KT} {own : String} {cc : ByteArray} {M : MT} {d mc ms : Nat} {Q : State → Prop} {n : Nat} {z : Option Nat} {σ : Sg} {cells slots pc pc2 : Nat} {ls : List (Option Value)} {st : List Value}
theorem AW.tern0 {E : Int32} (k : ∀ x, x = E → AW K own cc M d mc ms Q n z σ cells slots pc2 ls (.int x :: st)) (kb : (∀ x, x = E → AW K own cc M d mc ms Q n z σ cells slots pc2 ls (.int x :: st)) → AW K own cc M d mc ms Q n z σ cells slots pc ls st) : AW K own cc M d mc ms Q n z σ cells slots pc ls st := kb k
theorem AW.tern1 {E : Int32} {v : Value} (k : ∀ x, x = E → AW K own cc M d mc ms Q n z σ cells slots pc2 ls (.int x :: st)) (kb : (∀ x, x = E → AW K own cc M d mc ms Q n z σ cells slots pc2 ls (.int x :: st)) → AW K own cc M d mc ms Q n z σ cells slots pc ls (v :: st)) : AW K own cc M d mc ms Q n z σ cells slots pc ls (v :: st) := kb k
theorem AW.tern2 {E : Int32} {v w : Value} (k : ∀ x, x = E → AW K own cc M d mc ms Q n z σ cells slots pc2 ls (.int x :: st)) (kb : (∀ x, x = E → AW K own cc M d mc ms Q n z σ cells slots pc2 ls (.int x :: st)) → AW K own cc M d mc ms Q n z σ cells slots pc ls (v :: w :: st)) : AW K own cc M d mc ms Q n z σ cells slots pc ls (v :: w :: st) := kb k
theorem AW.cutS {E : Sg} (k : ∀ x, x = E → AW K own cc M d mc ms Q n z x cells slots pc2 ls st) (kb : (∀ x, x = E → AW K own cc M d mc ms Q n z x cells slots pc2 ls st) → AW K own cc M d mc ms Q n z σ cells slots pc ls st) : AW K own cc M d mc ms Q n z σ cells slots pc ls st := kb k
end AWJ
abbrev NN : Nat := 388
/-- a boolean answer -/
def bz (c : Prop) (v : Int32) : Prop := (v = 1 ∧ c) ∨ (v = 0 ∧ ¬ c)
/-- an int answer; nothing changes -/
abbrev eI1 (σ : Sg) (e : Int32) : PT := rI fun σ' v => σ = σ' ∧ e = v
abbrev eZ1 (σ : Sg) (c : Prop) : PT := rI fun σ' v => σ = σ' ∧ bz c v
/-- nothing is answered; the world becomes this -/
abbrev eV1 (τ : Sg) : PT := rV fun σ' => τ = σ'
theorem eI_of {σ : Sg} {e : Int32} : eI1 σ e σ (some (.int e)) := ⟨_, rfl, rfl, rfl⟩
theorem eI_to {σ : Sg} {e v : Int32} (h : e = v) : eI1 σ e σ (some (.int v)) := ⟨_, rfl, rfl, h⟩
theorem eZ_1 {σ : Sg} {c : Prop} (h : c) : eZ1 σ c σ (some (.int 1)) := ⟨_, rfl, rfl, Or.inl ⟨rfl, h⟩⟩
theorem eZ_0 {σ : Sg} {c : Prop} (h : ¬ c) : eZ1 σ c σ (some (.int 0)) := ⟨_, rfl, rfl, Or.inr ⟨rfl, h⟩⟩
theorem eV_of {σ : Sg} : eV1 σ σ none := ⟨rfl, rfl⟩
theorem eV_to {σ τ : Sg} (h : τ = σ) : eV1 τ σ none := ⟨rfl, h⟩
def oI (o : Option Nat) : Int32 := match o with
  | some b => nI b
  | none => -99
theorem nd0 : nodbl [] := fun _ h => nomatch h
theorem nd1 {v : Value} {r : List Value} (h : ∀ x, v ≠ .double x) (hr : nodbl r) : nodbl (v :: r) := fun x hx => by
  rcases List.mem_cons.mp hx with e | e
  · exact h x e.symm
  · exact hr x e
theorem ndI {x : Int32} {r : List Value} (hr : nodbl r) : nodbl (.int x :: r) := nd1 (fun _ h => nomatch h) hr
theorem ndL {x : Int64} {r : List Value} (hr : nodbl r) : nodbl (.long x :: r) := nd1 (fun _ h => nomatch h) hr
theorem ndR {x : Nat} {r : List Value} (hr : nodbl r) : nodbl (.ref x :: r) := nd1 (fun _ h => nomatch h) hr
theorem ndN {r : List Value} (hr : nodbl r) : nodbl (.null :: r) := nd1 (fun _ h => nomatch h) hr
/-! a row as a whole -/
abbrev Rw : Type := Nat → Int32
theorem sA_at {σ : Sg} {a j : Nat} {f : Rw} : (sA σ a f).1 a j = f j := by simp [sA]
theorem sA_row {σ : Sg} {a : Nat} {f : Rw} : (sA σ a f).1 a = f := funext fun _ => sA_at
theorem sI_sA {σ : Sg} {a j : Nat} {f : Rw} {v : Int32} : sI (sA σ a f) a j v = sA σ a (upd f j v) := by
  refine Prod.ext (funext fun i => funext fun k => ?_) rfl
  by_cases h1 : i = a <;> by_cases h2 : k = j <;> simp [sI, sA, upd, h1, h2]
theorem sA_self (σ : Sg) (a : Nat) : sA σ a (σ.1 a) = σ := by
  refine Prod.ext (funext fun i => funext fun k => ?_) rfl
  by_cases h1 : i = a
  · subst h1; simp [sA]
  · simp [sA, h1]
theorem sA_sA {σ : Sg} {a : Nat} {f h : Rw} : sA (sA σ a f) a h = sA σ a h := by
  refine Prod.ext (funext fun i => funext fun k => ?_) rfl
  by_cases h1 : i = a <;> simp [sA, h1]
theorem upd_s {f : Rw} {k : Nat} {x : Int32} : upd f k x k = x := if_pos rfl
theorem upd_n {f : Rw} {k j : Nat} {x : Int32} (h : j ≠ k) : upd f k x j = f j := if_neg h
/-! the reference's functions over a row -/
def fEnd (g : Rw) (b : Nat) : Int32 := g (31 + 10 * b + 2) + g (31 + 10 * b + 3)
def curP (g : Rw) (r b : Nat) : Prop := g (31 + 10 * b + 0) = nI r ∧ g (31 + 10 * b + 2) ≤ g 0 ∧ ¬ fEnd g b ≤ g 0
def curD (g : Rw) (r b : Nat) : Bool := decide (g (31 + 10 * b + 0) = nI r) && (decide (g (31 + 10 * b + 2) ≤ g 0) && !decide (fEnd g b ≤ g 0))
theorem curD_iff {g : Rw} {r b : Nat} : curD g r b = true ↔ curP g r b := by simp [curD, curP]
def fCur (g : Rw) (r : Nat) : Nat → Option Nat
  | 0 => none
  | k + 1 => if curD g r k = true then some k else fCur g r k
def nxtP (g : Rw) (r b : Nat) (o : Option Nat) : Prop := g (31 + 10 * b + 0) = nI r ∧ g 0 < g (31 + 10 * b + 2) ∧ ∀ f, o = some f → g (31 + 10 * b + 2) < g (31 + 10 * f + 2)
def nxtD (g : Rw) (r b : Nat) (o : Option Nat) : Bool := decide (g (31 + 10 * b + 0) = nI r) && (decide (g 0 < g (31 + 10 * b + 2)) && match o with
  | none => true
  | some f => decide (g (31 + 10 * b + 2) < g (31 + 10 * f + 2)))
theorem nxtD_iff {g : Rw} {r b : Nat} {o : Option Nat} : nxtD g r b o = true ↔ nxtP g r b o := by cases o <;> simp [nxtD, nxtP]
def fNxt (g : Rw) (r : Nat) : Nat → Option Nat
  | 0 => none
  | k + 1 => if nxtD g r k (fNxt g r k) = true then some k else fNxt g r k
theorem fCur_lt {g : Rw} {r : Nat} : ∀ {k b : Nat}, fCur g r k = some b → b < k
  | 0, _, h => nomatch h
  | k + 1, b, h => by
    unfold fCur at h
    split at h
    · cases h; exact Nat.lt_succ_self k
    · exact Nat.lt_succ_of_lt (fCur_lt h)
theorem fNxt_lt {g : Rw} {r : Nat} : ∀ {k b : Nat}, fNxt g r k = some b → b < k
  | 0, _, h => nomatch h
  | k + 1, b, h => by
    unfold fNxt at h
    split at h
    · cases h; exact Nat.lt_succ_self k
    · exact Nat.lt_succ_of_lt (fNxt_lt h)
def fCool (g : Rw) (r : Nat) : Int32 := g (9 + 4 * r + 3) - g (9 + 4 * r + 1) * (g (9 + 4 * r + 3) - g 4) / 100
def fPre (g : Rw) (r b : Nat) : Prop := g (31 + 10 * b + 9) = 1 ∨ fCool g r + g (9 + 4 * r + 2) * (g (31 + 10 * b + 2) - g 0 - 1) < g (31 + 10 * b + 4)
def fPreD (g : Rw) (r b : Nat) : Bool := decide (g (31 + 10 * b + 9) = 1) || decide (fCool g r + g (9 + 4 * r + 2) * (g (31 + 10 * b + 2) - g 0 - 1) < g (31 + 10 * b + 4))
theorem fPreD_iff {g : Rw} {r b : Nat} : fPreD g r b = true ↔ fPre g r b := by simp [fPreD, fPre]
def fHeater (g : Rw) (r nb : Nat) : Option Nat := match fCur g r nb with
  | some b => some b
  | none => match fNxt g r nb with
    | none => none
    | some b => if fPreD g r b = true then some b else none
theorem fHeater_lt {g : Rw} {r nb b : Nat} (h : fHeater g r nb = some b) : b < nb := by
  unfold fHeater at h
  split at h
  · rename_i c hc; cases h; exact fCur_lt hc
  · split at h
    · cases h
    · rename_i c hc
      split at h
      · cases h; exact fNxt_lt hc
      · cases h
def whoN (g : Rw) (b : Nat) : Nat := (g (31 + 10 * b + 1)).toNatClampNeg
def fCharge (g : Rw) (b : Nat) (u : Int32) : Rw :=
  let g1 := if g (31 + 10 * b + 2) ≤ g 0 ∧ g (31 + 10 * b + 7) = 1 then upd g 7 (g 7 + u) else upd (upd g 6 (g 6 + u)) (25 + whoN g b) (upd g 6 (g 6 + u) (25 + whoN g b) + u)
  let w := if g (31 + 10 * b + 2) ≤ g 0 then 6 else 5
  upd g1 (31 + 10 * b + w) (g1 (31 + 10 * b + w) + u)
def byOf (missing power : Int32) : Int32 := if missing < 0 then 0 else if power < missing then power else missing
/-- a room in an hour: what the row becomes, and its heat -/
def fRoom (g : Rw) (r nb : Nat) : Rw × Int32 := match fHeater g r nb with
  | none => (upd g (9 + 4 * r + 3) (fCool g r), 0)
  | some b =>
    let g1 := upd g (9 + 4 * r + 3) (fCool g r)
    let g2 := upd g1 (31 + 10 * b + 9) (if g1 (31 + 10 * b + 2) ≤ g1 0 then g1 (31 + 10 * b + 9) else 1)
    let g3 := upd g2 (31 + 10 * b + 8) (g2 (31 + 10 * b + 8) + if g1 (31 + 10 * b + 2) ≤ g1 0 ∧ g (9 + 4 * r + 3) < g2 (31 + 10 * b + 4) - 1 then 1 else 0)
    let by0 := byOf (g3 (31 + 10 * b + 4) - g3 (9 + 4 * r + 3)) (g3 (9 + 4 * r + 2))
    let g4 := upd g3 (9 + 4 * r + 3) (g3 (9 + 4 * r + 3) + by0)
    (fCharge g4 b (by0 * g4 (9 + 4 * r + 0)), by0 * g4 (9 + 4 * r + 0))
theorem oI_n {o : Option Nat} (h : ∀ f, o = some f → f < 12) (e : oI o = -99) : o = none := by
  cases o with
  | none => rfl
  | some f =>
    have hf := h f rfl
    have h2 : (nI f).toInt = (f : Int) := nI_toInt (by omega)
    rw [show oI (some f) = nI f from rfl] at e
    rw [e] at h2
    have h3 : (-99 : Int32).toInt = -99 := by decide
    omega
theorem oI_s {o : Option Nat} (e : ¬ oI o = -99) : ∃ f, o = some f := by
  cases o with
  | none => exact absurd rfl e
  | some f => exact ⟨f, rfl⟩
def freeP (g : Rw) (r first hours : Int32) (b : Nat) : Prop := ¬ g (31 + 10 * b + 0) = r ∨ fEnd g b ≤ first ∨ first + hours ≤ g (31 + 10 * b + 2)
def fFree (g : Rw) (r first hours : Int32) (k : Nat) : Prop := ∀ b, b < k → freeP g r first hours b
theorem fFree_s {g : Rw} {r first hours : Int32} {k : Nat} : fFree g r first hours (k + 1) ↔ fFree g r first hours k ∧ freeP g r first hours k := by
  constructor
  · intro h
    exact ⟨fun b hb => h b (Nat.lt_succ_of_lt hb), h k (Nat.lt_succ_self k)⟩
  · rintro ⟨h1, h2⟩ b hb
    rcases Nat.lt_or_ge b k with q | q
    · exact h1 b q
    · rw [show b = k by omega]; exact h2
