/-! the class: how a hall of it stands for a row -/
def hx (j : Nat) : Nat := if j = 0 then 0 else if j = 1 then 4 else if j = 3 then 1 else if j = 5 then 2 else if j = 7 then 3 else if j = 8 then 5 else if j = 9 then 6 else if j = 10 then 7 else 8
def isI (j : Nat) : Prop := j < 12 ∧ j ≠ 2 ∧ j ≠ 4 ∧ j ≠ 6
def bx (j : Nat) : Nat := if j < 5 then j else if j = 5 then 9 else j - 1
def fnd (π : Nat → Nat) (x : Nat) : Nat → Option Nat
  | 0 => none
  | k + 1 => if π k = x then some k else fnd π x k
def PM (π : Nat → Nat) : Prop := (∀ j, j < 12 → π j < 12) ∧ ∀ i j, i < 12 → j < 12 → π i = π j → i = j
theorem fnd_of {π : Nat → Nat} (hp : PM π) {b : Nat} : ∀ k, k ≤ 12 → b < k → fnd π (π b) k = some b
  | 0, _, h => absurd h (Nat.not_lt_zero _)
  | k + 1, h12, h => by
    unfold fnd
    by_cases e : π k = π b
    · rw [if_pos e, hp.2 k b (by omega) (by omega) e]
    · rw [if_neg e]
      rcases Nat.lt_or_ge b k with q | q
      · exact fnd_of hp k (by omega) q
      · exact absurd (by rw [show b = k by omega]) e
theorem fnd_some {π : Nat → Nat} {x b : Nat} : ∀ {k : Nat}, fnd π x k = some b → π b = x ∧ b < k
  | 0, h => nomatch h
  | k + 1, h => by
    unfold fnd at h
    split at h
    · cases h; rename_i e; exact ⟨e, Nat.lt_succ_self _⟩
    · have := fnd_some h; exact ⟨this.1, by omega⟩
/-- the world with the hall at h as the row says: its rooms, groups and bookings as far as there are any -/
def sH (σ : Sg) (h : Nat) (π : Nat → Nat) (nr ng nb : Nat) (g : Rw) : Sg :=
  (fun i j => if i = h then (@ite _ (isI j) (by unfold isI; infer_instance) (g (hx j)) (σ.1 i j))
    else if i = h + 2 then (if j < ng then g (25 + j) else σ.1 i j)
    else if h + 4 ≤ i ∧ i < h + 8 then (if i < h + 4 + nr ∧ j < 4 then g (9 + 4 * (i - (h + 4)) + j) else σ.1 i j)
    else if h + 8 ≤ i ∧ i < h + 20 then (if j < 10 then (match fnd π (i - (h + 8)) nb with
      | some b => g (31 + 10 * b + bx j)
      | none => σ.1 i j) else σ.1 i j)
    else σ.1 i j,
   fun i j => if i = h + 3 ∧ j < 12 then some (h + 8 + π j) else σ.2.1 i j, σ.2.2)
/-- the cells of a hall, and what of them never changes -/
def HT (h : Nat) : Prop := cT h = .inl 2 ∧ cT (h + 1) = .inr (3, 4) ∧ cT (h + 2) = .inr (0, 6) ∧ cT (h + 3) = .inr (4, 12) ∧ (∀ r, r < 4 → cT (h + 4 + r) = .inl 5) ∧ (∀ j, j < 12 → cT (h + 8 + j) = .inl 0) ∧ h + 20 ≤ NN
def HS (σ : Sg) (h : Nat) : Prop := σ.2.1 h 2 = some (h + 1) ∧ σ.2.1 h 4 = some (h + 2) ∧ σ.2.1 h 6 = some (h + 3) ∧ ∀ r, r < 4 → σ.2.1 (h + 1) r = some (h + 4 + r)
def HC (σ : Sg) (h : Nat) (π : Nat → Nat) : Prop := HT h ∧ HS σ h ∧ PM π
theorem HC.t {σ : Sg} {h : Nat} {π : Nat → Nat} (c : HC σ h π) : cT h = .inl 2 := c.1.1
theorem HC.l {σ : Sg} {h : Nat} {π : Nat → Nat} (c : HC σ h π) : h < NN := by have := c.1.2.2.2.2.2.2; omega
theorem HC.tR {σ : Sg} {h : Nat} {π : Nat → Nat} (c : HC σ h π) : cT (h + 1) = .inr (3, 4) := c.1.2.1
theorem HC.lR {σ : Sg} {h : Nat} {π : Nat → Nat} (c : HC σ h π) : h + 1 < NN := by have := c.1.2.2.2.2.2.2; omega
theorem HC.tO {σ : Sg} {h : Nat} {π : Nat → Nat} (c : HC σ h π) : cT (h + 2) = .inr (0, 6) := c.1.2.2.1
theorem HC.lO {σ : Sg} {h : Nat} {π : Nat → Nat} (c : HC σ h π) : h + 2 < NN := by have := c.1.2.2.2.2.2.2; omega
theorem HC.tB {σ : Sg} {h : Nat} {π : Nat → Nat} (c : HC σ h π) : cT (h + 3) = .inr (4, 12) := c.1.2.2.2.1
theorem HC.lB {σ : Sg} {h : Nat} {π : Nat → Nat} (c : HC σ h π) : h + 3 < NN := by have := c.1.2.2.2.2.2.2; omega
theorem HC.tr {σ : Sg} {h r : Nat} {π : Nat → Nat} (c : HC σ h π) (hr : r < 4) : cT (h + 4 + r) = .inl 5 := c.1.2.2.2.2.1 r hr
theorem HC.lr {σ : Sg} {h r : Nat} {π : Nat → Nat} (c : HC σ h π) (hr : r < 4) : h + 4 + r < NN := by have := c.1.2.2.2.2.2.2; omega
theorem HC.tb {σ : Sg} {h b : Nat} {π : Nat → Nat} (c : HC σ h π) (hb : b < 12) : cT (h + 8 + π b) = .inl 0 := c.1.2.2.2.2.2.1 _ (c.2.2.1 b hb)
theorem HC.lb {σ : Sg} {h b : Nat} {π : Nat → Nat} (c : HC σ h π) (hb : b < 12) : h + 8 + π b < NN := by have := c.1.2.2.2.2.2.2; have := c.2.2.1 b hb; omega
section HAT
variable {σ : Sg} {h nr ng nb : Nat} {π : Nat → Nat} {g : Rw}
theorem sH_i {j : Nat} (hj : isI j) : (sH σ h π nr ng nb g).1 h j = g (hx j) := by
  show @ite _ _ _ _ _ = _
  rw [if_pos rfl]
  exact @if_pos _ _ hj _ _ _
theorem sH_o {j : Nat} (hj : j < ng) : (sH σ h π nr ng nb g).1 (h + 2) j = g (25 + j) := by
  show @ite _ _ _ _ _ = _
  rw [if_neg (by omega), if_pos rfl, if_pos hj]
theorem sH_r {r j : Nat} (hr : r < nr) (h4 : nr ≤ 4) (hj : j < 4) : (sH σ h π nr ng nb g).1 (h + 4 + r) j = g (9 + 4 * r + j) := by
  show @ite _ _ _ _ _ = _
  rw [if_neg (by omega), if_neg (by omega), if_pos (by omega), if_pos (by omega)]
  congr 1
  omega
theorem sH_b {b j : Nat} (c : HC σ h π) (hb : b < nb) (h12 : nb ≤ 12) (hj : j < 10) : (sH σ h π nr ng nb g).1 (h + 8 + π b) j = g (31 + 10 * b + bx j) := by
  have h2 := c.2.2.1 b (by omega)
  show @ite _ _ _ _ _ = _
  rw [if_neg (by omega), if_neg (by omega), if_neg (by omega), if_pos (by omega), if_pos hj, show h + 8 + π b - (h + 8) = π b by omega, fnd_of c.2.2 nb h12 hb]
theorem sH_R {i j : Nat} (hi : i ≠ h + 3) : (sH σ h π nr ng nb g).2.1 i j = σ.2.1 i j := if_neg (fun q => hi q.1)
theorem sH_rooms (c : HC σ h π) : (sH σ h π nr ng nb g).2.1 h 2 = some (h + 1) := (sH_R (by omega)).trans c.2.1.1
theorem sH_owed (c : HC σ h π) : (sH σ h π nr ng nb g).2.1 h 4 = some (h + 2) := (sH_R (by omega)).trans c.2.1.2.1
theorem sH_books (c : HC σ h π) : (sH σ h π nr ng nb g).2.1 h 6 = some (h + 3) := (sH_R (by omega)).trans c.2.1.2.2.1
theorem sH_room (c : HC σ h π) {r : Nat} (hr : r < 4) : (sH σ h π nr ng nb g).2.1 (h + 1) r = some (h + 4 + r) := (sH_R (by omega)).trans (c.2.1.2.2.2 r hr)
theorem sH_book {b : Nat} (hb : b < 12) : (sH σ h π nr ng nb g).2.1 (h + 3) b = some (h + 8 + π b) := if_pos ⟨rfl, hb⟩
theorem sH_hour : (sH σ h π nr ng nb g).1 h 0 = g 0 := sH_i (by unfold isI; omega)
theorem sH_outd : (sH σ h π nr ng nb g).1 h 1 = g 4 := sH_i (by unfold isI; omega)
theorem sH_nr : (sH σ h π nr ng nb g).1 h 3 = g 1 := sH_i (by unfold isI; omega)
theorem sH_ng : (sH σ h π nr ng nb g).1 h 5 = g 2 := sH_i (by unfold isI; omega)
theorem sH_nb : (sH σ h π nr ng nb g).1 h 7 = g 3 := sH_i (by unfold isI; omega)
theorem sH_met : (sH σ h π nr ng nb g).1 h 8 = g 5 := sH_i (by unfold isI; omega)
theorem sH_gch : (sH σ h π nr ng nb g).1 h 9 = g 6 := sH_i (by unfold isI; omega)
theorem sH_par : (sH σ h π nr ng nb g).1 h 10 = g 7 := sH_i (by unfold isI; omega)
theorem sH_hea : (sH σ h π nr ng nb g).1 h 11 = g 8 := sH_i (by unfold isI; omega)
theorem hx_inj {i j : Nat} (hi : isI i) (hj : isI j) (e : hx i = hx j) : i = j := by
  unfold isI at hi hj
  obtain ⟨i1, i2⟩ := hi
  obtain ⟨j1, j2⟩ := hj
  have a1 : i = 0 ∨ i = 1 ∨ i = 3 ∨ i = 5 ∨ i = 7 ∨ i = 8 ∨ i = 9 ∨ i = 10 ∨ i = 11 := by omega
  have a2 : j = 0 ∨ j = 1 ∨ j = 3 ∨ j = 5 ∨ j = 7 ∨ j = 8 ∨ j = 9 ∨ j = 10 ∨ j = 11 := by omega
  rcases a1 with rfl | rfl | rfl | rfl | rfl | rfl | rfl | rfl | rfl <;> rcases a2 with rfl | rfl | rfl | rfl | rfl | rfl | rfl | rfl | rfl <;> first | rfl | (simp [hx] at e)
theorem hx_lt {j : Nat} : hx j < 9 := by unfold hx; (repeat' split) <;> omega
theorem bx_lt {j : Nat} (hj : j < 10) : bx j < 10 := by unfold bx; (repeat' split) <;> omega
theorem bx_inj {i j : Nat} (hi : i < 10) (hj : j < 10) (e : bx i = bx j) : i = j := by
  unfold bx at e
  split at e <;> split at e <;> first | omega | (split at e <;> first | omega | (split at e <;> omega))
theorem fnd_ne {π : Nat → Nat} (hp : PM π) {x b : Nat} (hb : b < 12) (hn : nb ≤ 12) (hx : x ≠ π b) : ∀ c, fnd π x nb = some c → c ≠ b := fun c hc e => by
  subst e
  exact hx (fnd_some hc).1.symm
theorem sH_ext {e : Rw} {i k : Nat} (hI : i = h → isI k → g (hx k) = e (hx k)) (hO : i = h + 2 → k < ng → g (25 + k) = e (25 + k)) (hR : ∀ r, r < nr → r < 4 → i = h + 4 + r → k < 4 → g (9 + 4 * r + k) = e (9 + 4 * r + k)) (hB : ∀ b, b < nb → i = h + 8 + π b → k < 10 → g (31 + 10 * b + bx k) = e (31 + 10 * b + bx k)) : (sH σ h π nr ng nb g).1 i k = (sH σ h π nr ng nb e).1 i k := by
  by_cases h1 : i = h
  · subst h1
    by_cases h2 : isI k
    · rw [sH_i h2, sH_i h2, hI rfl h2]
    · show @ite _ _ _ _ _ = @ite _ _ _ _ _
      rw [if_pos rfl, if_pos rfl]
      exact (@if_neg _ _ h2 _ _ _).trans (@if_neg _ _ h2 _ _ _).symm
  · show @ite _ _ _ _ _ = @ite _ _ _ _ _
    rw [if_neg h1, if_neg h1]
    by_cases h2 : i = h + 2
    · rw [if_pos h2, if_pos h2]
      by_cases h3 : k < ng
      · rw [if_pos h3, if_pos h3, hO h2 h3]
      · rw [if_neg h3, if_neg h3]
    · rw [if_neg h2, if_neg h2]
      by_cases h3 : h + 4 ≤ i ∧ i < h + 8
      · rw [if_pos h3, if_pos h3]
        by_cases h4 : i < h + 4 + nr ∧ k < 4
        · rw [if_pos h4, if_pos h4]
          exact hR (i - (h + 4)) (by omega) (by omega) (by omega) h4.2
        · rw [if_neg h4, if_neg h4]
      · rw [if_neg h3, if_neg h3]
        by_cases h4 : h + 8 ≤ i ∧ i < h + 20
        · rw [if_pos h4, if_pos h4]
          by_cases h5 : k < 10
          · rw [if_pos h5, if_pos h5]
            match hf : fnd π (i - (h + 8)) nb with
            | none => rfl
            | some b =>
              have := fnd_some hf
              exact hB b this.2 (by omega) h5
          · rw [if_neg h5, if_neg h5]
        · rw [if_neg h4, if_neg h4]
theorem sH_eq {e : Rw} (hI : ∀ k, isI k → g (hx k) = e (hx k)) (hO : ∀ k, k < ng → g (25 + k) = e (25 + k)) (hR : ∀ r k, r < nr → r < 4 → k < 4 → g (9 + 4 * r + k) = e (9 + 4 * r + k)) (hB : ∀ b k, b < nb → k < 10 → g (31 + 10 * b + bx k) = e (31 + 10 * b + bx k)) : sH σ h π nr ng nb g = sH σ h π nr ng nb e :=
  Prod.ext (funext fun _ => funext fun _ => sH_ext (fun _ => hI _) (fun _ => hO _) (fun r h1 h2 _ h3 => hR r _ h1 h2 h3) (fun b h1 _ h3 => hB b _ h1 h3)) rfl
theorem sW_i {j : Nat} {v : Int32} (hj : isI j) : sI (sH σ h π nr ng nb g) h j v = sH σ h π nr ng nb (upd g (hx j) v) := by
  refine Prod.ext (funext fun i => funext fun k => ?_) rfl
  have hl := hx_lt (j := j)
  show @ite _ _ _ _ _ = _
  by_cases q : i = h ∧ k = j
  · obtain ⟨rfl, rfl⟩ := q
    rw [if_pos ⟨rfl, rfl⟩, sH_i hj, upd_s]
  · rw [if_neg q]
    exact sH_ext (fun e hk => (upd_n (fun e2 => q ⟨e, hx_inj hk hj e2⟩)).symm) (fun _ _ => (upd_n (by omega)).symm) (fun _ _ _ _ _ => (upd_n (by omega)).symm) (fun _ _ _ _ => (upd_n (by omega)).symm)
theorem sW_o {j : Nat} {v : Int32} (hj : j < ng) (h6 : ng ≤ 6) : sI (sH σ h π nr ng nb g) (h + 2) j v = sH σ h π nr ng nb (upd g (25 + j) v) := by
  refine Prod.ext (funext fun i => funext fun k => ?_) rfl
  show @ite _ _ _ _ _ = _
  by_cases q : i = h + 2 ∧ k = j
  · obtain ⟨rfl, rfl⟩ := q
    rw [if_pos ⟨rfl, rfl⟩, sH_o hj, upd_s]
  · rw [if_neg q]
    exact sH_ext (fun e hk => (upd_n (by have := hx_lt (j := k); omega)).symm) (fun e _ => (upd_n (fun e2 => q ⟨e, by omega⟩)).symm) (fun _ _ _ _ _ => (upd_n (by omega)).symm) (fun _ _ _ _ => (upd_n (by omega)).symm)
theorem sW_r {r j : Nat} {v : Int32} (hr : r < nr) (h4 : nr ≤ 4) (hj : j < 4) : sI (sH σ h π nr ng nb g) (h + 4 + r) j v = sH σ h π nr ng nb (upd g (9 + 4 * r + j) v) := by
  refine Prod.ext (funext fun i => funext fun k => ?_) rfl
  show @ite _ _ _ _ _ = _
  by_cases q : i = h + 4 + r ∧ k = j
  · obtain ⟨rfl, rfl⟩ := q
    rw [if_pos ⟨rfl, rfl⟩, sH_r hr h4 hj, upd_s]
  · rw [if_neg q]
    exact sH_ext (fun e hk => (upd_n (by have := hx_lt (j := k); omega)).symm) (fun e _ => (upd_n (by omega)).symm) (fun r2 _ _ e _ => (upd_n (fun e2 => q ⟨by omega, by omega⟩)).symm) (fun _ _ _ _ => (upd_n (by omega)).symm)
theorem sW_b {b j : Nat} {v : Int32} (c : HC σ h π) (hb : b < nb) (h12 : nb ≤ 12) (h6 : ng ≤ 6) (hj : j < 10) : sI (sH σ h π nr ng nb g) (h + 8 + π b) j v = sH σ h π nr ng nb (upd g (31 + 10 * b + bx j) v) := by
  refine Prod.ext (funext fun i => funext fun k => ?_) rfl
  have hl := bx_lt hj
  show @ite _ _ _ _ _ = _
  by_cases q : i = h + 8 + π b ∧ k = j
  · obtain ⟨rfl, rfl⟩ := q
    rw [if_pos ⟨rfl, rfl⟩, sH_b c hb h12 hj, upd_s]
  · rw [if_neg q]
    exact sH_ext (fun e hk => (upd_n (by have := hx_lt (j := k); omega)).symm) (fun e _ => (upd_n (by omega)).symm) (fun r2 _ _ e _ => (upd_n (by omega)).symm) (fun b2 h2 e hk => (upd_n (fun e2 => by
      have := bx_lt hk
      have eb : b2 = b := by omega
      subst eb
      exact q ⟨e, bx_inj hk hj (by omega)⟩)).symm)
end HAT
/-- ten places of a booking, four of a room -/
def sB (σ : Sg) (x n : Nat) (v : Nat → Int32) : Sg := (fun i j => if i = x ∧ j < n then v j else σ.1 i j, σ.2.1, σ.2.2)
def bkV (r w f h t : Int32) (j : Nat) : Int32 := if j = 0 then r else if j = 1 then w else if j = 2 then f else if j = 3 then h else if j = 4 then t else 0
def rmV (a b c d : Int32) (j : Nat) : Int32 := if j = 0 then a else if j = 1 then b else if j = 2 then c else d
theorem sB_4 {σ : Sg} {x : Nat} {a b c d : Int32} : sI (sI (sI (sI σ x 0 a) x 1 b) x 2 c) x 3 d = sB σ x 4 (rmV a b c d) := by
  refine Prod.ext (funext fun i => funext fun k => ?_) rfl
  by_cases h : i = x
  · subst h
    have hk : k = 0 ∨ k = 1 ∨ k = 2 ∨ k = 3 ∨ 4 ≤ k := by omega
    rcases hk with rfl | rfl | rfl | rfl | hk
    · simp [sI, sB, rmV]
    · simp [sI, sB, rmV]
    · simp [sI, sB, rmV]
    · simp [sI, sB, rmV]
    · simp [sI, sB, show ¬ k = 0 by omega, show ¬ k = 1 by omega, show ¬ k = 2 by omega, show ¬ k = 3 by omega, show ¬ k < 4 by omega]
  · simp [sI, sB, h]
theorem sB_10 {σ : Sg} {x : Nat} {a b c d e f g h2 i2 j2 : Int32} : sI (sI (sI (sI (sI (sI (sI (sI (sI (sI σ x 0 a) x 1 b) x 2 c) x 3 d) x 4 e) x 5 f) x 6 g) x 7 h2) x 8 i2) x 9 j2 = sB σ x 10 (fun j => if j = 0 then a else if j = 1 then b else if j = 2 then c else if j = 3 then d else if j = 4 then e else if j = 5 then f else if j = 6 then g else if j = 7 then h2 else if j = 8 then i2 else j2) := by
  refine Prod.ext (funext fun i => funext fun k => ?_) rfl
  by_cases h : i = x
  · subst h
    have hk : k = 0 ∨ k = 1 ∨ k = 2 ∨ k = 3 ∨ k = 4 ∨ k = 5 ∨ k = 6 ∨ k = 7 ∨ k = 8 ∨ k = 9 ∨ 10 ≤ k := by omega
    rcases hk with rfl | rfl | rfl | rfl | rfl | rfl | rfl | rfl | rfl | rfl | hk
    all_goals first | (simp [sI, sB]; done) | skip
    simp [sI, sB, show ¬ k = 0 by omega, show ¬ k = 1 by omega, show ¬ k = 2 by omega, show ¬ k = 3 by omega, show ¬ k = 4 by omega, show ¬ k = 5 by omega, show ¬ k = 6 by omega, show ¬ k = 7 by omega, show ¬ k = 8 by omega, show ¬ k = 9 by omega, show ¬ k < 10 by omega]
  · simp [sI, sB, h]
theorem sB_c {σ : Sg} {x n : Nat} {v w : Nat → Int32} (h : ∀ j, j < n → v j = w j) : sB σ x n v = sB σ x n w := by
  refine Prod.ext (funext fun i => funext fun k => ?_) rfl
  show @ite _ _ _ _ _ = @ite _ _ _ _ _
  by_cases q : i = x ∧ k < n
  · rw [if_pos q, if_pos q, h k q.2]
  · rw [if_neg q, if_neg q]
theorem sB_B {σ : Sg} {x n : Nat} {v : Nat → Int32} {j : Nat} {w : Int32} (hj : j < n) : sI (sB σ x n v) x j w = sB σ x n (upd v j w) := by
  refine Prod.ext (funext fun i => funext fun k => ?_) rfl
  show @ite _ _ _ _ (@ite _ _ _ _ _) = @ite _ _ _ _ _
  unfold upd
  by_cases q : i = x ∧ k = j
  · rw [if_pos q, if_pos ⟨q.1, by omega⟩, if_pos q.2]
  · rw [if_neg q]
    by_cases q2 : i = x ∧ k < n
    · rw [if_pos q2, if_pos q2, if_neg (fun e => q ⟨q2.1, e⟩)]
    · rw [if_neg q2, if_neg q2]
theorem sB_at {σ : Sg} {x n : Nat} {v : Nat → Int32} {j : Nat} (hj : j < n) : (sB σ x n v).1 x j = v j := if_pos ⟨rfl, hj⟩
theorem sB_ne {σ : Sg} {x n : Nat} {v : Nat → Int32} {i j : Nat} (hi : i ≠ x) : (sB σ x n v).1 i j = σ.1 i j := if_neg (fun q => hi q.1)
