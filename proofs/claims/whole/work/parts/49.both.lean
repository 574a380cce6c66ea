/-! between two calls: class and reference -/
def MI (τ : Sg) (g : Rw) (n : Nat) (T : Rw) (c : Nat) (M : Nat → Rw) (B : Nat → Bool) (S : Nat → Rw) : Prop := MS τ ∧ τ.1 391 = g ∧ τ.1 388 2 = nI n ∧ τ.1 389 = T ∧ τ.1 388 9 = nI c ∧ (∀ i, i < c → ∀ j, j < 151 → τ.1 393 (151 * i + j) = M i j) ∧ (∀ s, s < 2 → τ.1 395 s = b01 (B s)) ∧ ∀ s, s < 2 → B s = true → ∀ j, j < 151 → τ.1 394 (151 * s + j) = S s j
def IV (τ : Sg) : Prop := ∃ g n T c M B S, KJ τ n T c M B S ∧ SA τ 3 g ∧ MI τ g n T c M B S
section MIV
variable {σ τ : Sg} {g : Rw} {n c : Nat} {T : Rw} {M S : Nat → Rw} {B : Nat → Bool}
theorem MS.fm (x : MS σ) (f : ∀ j, τ.2.1 388 j = σ.2.1 388 j) : MS τ := by
  obtain ⟨a, b, c, d, e, g, h⟩ := x
  exact ⟨(f _).trans a, (f _).trans b, (f _).trans c, (f _).trans d, (f _).trans e, (f _).trans g, (f _).trans h⟩
theorem MI.fm (x : MI σ g n T c M B S) (f : FMo σ τ) : MI τ g n T c M B S := by
  obtain ⟨a, b, d, e, h, i, j, k⟩ := x
  exact ⟨a.fm (fun q => f.2 _ _ (by decide)), (funext fun q => f.1 _ _ (by decide)).trans b, (f.1 _ _ (by decide)).trans d, (funext fun q => f.1 _ _ (by decide)).trans e, (f.1 _ _ (by decide)).trans h, fun q hq r hr => (f.1 _ _ (by decide)).trans (i q hq r hr), fun s hs => (f.1 _ _ (by decide)).trans (j s hs), fun s hs hb r hr => (f.1 _ _ (by decide)).trans (k s hs hb r hr)⟩
theorem MI.self (x : MI τ g n T c M B S) : sA τ 391 g = τ := by
  rw [← x.2.1]
  exact sA_self _ _
/-- the class's own cells are as they were, and all refs -/
def FK (σ τ : Sg) : Prop := (∀ i j, i < 388 → τ.1 i j = σ.1 i j) ∧ τ.2 = σ.2
theorem FK.r (f : FK σ τ) (i j : Nat) : τ.2.1 i j = σ.2.1 i j := by rw [f.2]
theorem KJ.fk (x : KJ σ n T c M B S) (f : FK σ τ) : KJ τ n T c M B S :=
  x.frame (fun i j h => f.1 _ _ (by omega)) (fun i j _ _ _ => f.r i j) ((x.bb (Or.inl rfl)).frame (fun j => f.r _ j)) ((x.bb (Or.inr (Or.inl rfl))).frame (fun j => f.r _ j)) ((x.bb (Or.inr (Or.inr (Or.inl rfl)))).frame (fun j => f.r _ j))
theorem SA.fk {h : Nat} (x : SA σ h g) (f : FK σ τ) (hh : h + 20 ≤ 388) : SA τ h g := x.frame (fun i j h1 h2 => f.1 _ _ (by omega)) (fun i j h1 h2 => f.r i j)
theorem FK.i (f : FK σ τ) {i j : Nat} {v : Int32} (h : 388 ≤ i) : FK σ (sI τ i j v) := ⟨fun x y hx => (sI_un (by omega)).trans (f.1 x y hx), f.2⟩
theorem FK.a (f : FK σ τ) {i : Nat} {v : Rw} (h : 388 ≤ i) : FK σ (sA τ i v) := ⟨fun x y hx => (if_neg (by omega)).trans (f.1 x y hx), f.2⟩
theorem FK.refl : FK σ σ := ⟨fun _ _ _ => rfl, rfl⟩
/-- refused, or only asked: the reference is as it was -/
theorem MI.code (x : MI τ g n T c M B S) (k : Int32) : MI (sA (sI τ 388 0 k) 391 g) g n T c M B S := by
  obtain ⟨a, b, d, e, h, i, j, l⟩ := x
  refine ⟨a, rfl, (show _ = τ.1 388 2 from ?_).trans d, (show _ = τ.1 389 from ?_).trans e, (show _ = τ.1 388 9 from ?_).trans h, fun q hq r hr => (show _ = τ.1 393 (151 * q + r) from ?_).trans (i q hq r hr), fun s hs => (show _ = τ.1 395 s from ?_).trans (j s hs), fun s hs hb r hr => (show _ = τ.1 394 (151 * s + r) from ?_).trans (l s hs hb r hr)⟩ <;> rfl
theorem MI.t392 (x : MI τ g n T c M B S) (X : Rw) : MI (sA τ 392 X) g n T c M B S := by
  obtain ⟨a, b, d, e, h, i, j, l⟩ := x
  refine ⟨a, (show _ = τ.1 391 from ?_).trans b, (show _ = τ.1 388 2 from ?_).trans d, (show _ = τ.1 389 from ?_).trans e, (show _ = τ.1 388 9 from ?_).trans h, fun q hq r hr => (show _ = τ.1 393 (151 * q + r) from ?_).trans (i q hq r hr), fun s hs => (show _ = τ.1 395 s from ?_).trans (j s hs), fun s hs hb r hr => (show _ = τ.1 394 (151 * s + r) from ?_).trans (l s hs hb r hr)⟩ <;> rfl
theorem FK.code {k : Int32} {f : Rw} : FK τ (sA (sI τ 388 0 k) 391 f) := (FK.refl.i (by decide)).a (by decide)
theorem MI.rem (x : MI τ g n T c M B S) (hc : c ≤ 14) (k : Int32) (e : Rw) : MI (remT (sI τ 388 0 k) g c e) e n T (remA c) (remM M c g) B S := by
  obtain ⟨a, b, d, h, i, j, l, o⟩ := x
  refine ⟨a, rfl, (show _ = τ.1 388 2 from rfl).trans d, (show _ = τ.1 389 from rfl).trans h, rfl, fun q hq r hr => ?_, fun s hs => (show _ = τ.1 395 s from rfl).trans (l s hs), fun s hs hb r hr => (show _ = τ.1 394 (151 * s + r) from rfl).trans (o s hs hb r hr)⟩
  show remD (τ.1 393) g c (151 * q + r) = remM M c g q r
  unfold remA at hq
  unfold remD remM
  by_cases h14 : c = 14
  · rw [if_pos h14] at hq ⊢
    rw [if_pos h14]
    by_cases h13 : q < 13
    · rw [if_pos h13, ← j (q + 1) (by omega) r hr]
      refine (if_neg (by omega)).trans ((if_pos ⟨Nat.zero_le _, by omega⟩).trans ?_)
      show τ.1 393 (151 + (151 * q + r - 0)) = τ.1 393 (151 * (q + 1) + r)
      rw [show 151 + (151 * q + r - 0) = 151 * (q + 1) + r by omega]
    · rw [if_neg h13]
      refine (if_pos (by omega)).trans ?_
      show g (0 + (151 * q + r - 1963)) = g r
      rw [show 0 + (151 * q + r - 1963) = r by omega]
  · rw [if_neg h14] at hq ⊢
    rw [if_neg h14]
    by_cases hqc : q < c
    · rw [if_pos hqc]
      exact (if_neg (by omega)).trans (j q hqc r hr)
    · rw [if_neg hqc]
      refine (if_pos (by omega)).trans ?_
      show g (0 + (151 * q + r - 151 * c)) = g r
      rw [show 0 + (151 * q + r - 151 * c) = r by omega]
theorem FK.rem {k : Int32} {e : Rw} : FK τ (remT (sI τ 388 0 k) g c e) := (((FK.refl.i (by decide)).a (by decide)).i (by decide)).a (by decide)
theorem MI.app (x : MI τ g n T c M B S) (k v : Int32) : MI (sI (sI (sA (sI τ 388 0 k) 391 g) 389 n v) 388 2 (nI n + 1)) g (n + 1) (upd T n v) c M B S := by
  obtain ⟨a, b, d, e, h, i, j, l⟩ := x
  refine ⟨a, rfl, nI_1 n, funext fun q => ?_, (show _ = τ.1 388 9 from rfl).trans h, fun q hq r hr => (show _ = τ.1 393 (151 * q + r) from rfl).trans (i q hq r hr), fun s hs => (show _ = τ.1 395 s from rfl).trans (j s hs), fun s hs hb r hr => (show _ = τ.1 394 (151 * s + r) from rfl).trans (l s hs hb r hr)⟩
  rw [← e]
  show (if (389 : Nat) = 388 ∧ q = 2 then nI n + 1 else if (389 : Nat) = 389 ∧ q = n then v else τ.1 389 q) = if q = n then v else τ.1 389 q
  rw [if_neg (by omega)]
  by_cases z : q = n
  · rw [if_pos z, if_pos ⟨rfl, z⟩]
  · rw [if_neg z, if_neg (fun y => z y.2)]
theorem FK.app {k v w : Int32} : FK τ (sI (sI (sA (sI τ 388 0 k) 391 g) 389 n v) 388 2 w) := (((FK.refl.i (by decide)).a (by decide)).i (by decide)).i (by decide)
theorem MI.clr (x : MI τ g n T c M B S) : MI (sI (sI (sA τ 391 g) 388 0 0) 388 2 0) g 0 T c M B S := by
  obtain ⟨a, b, d, e, h, i, j, l⟩ := x
  exact ⟨a, rfl, rfl, (show _ = τ.1 389 from rfl).trans e, (show _ = τ.1 388 9 from rfl).trans h, fun q hq r hr => (show _ = τ.1 393 (151 * q + r) from rfl).trans (i q hq r hr), fun s hs => (show _ = τ.1 395 s from rfl).trans (j s hs), fun s hs hb r hr => (show _ = τ.1 394 (151 * s + r) from rfl).trans (l s hs hb r hr)⟩
theorem MI.und (x : MI τ g n T c M B S) (hc : c ≠ 0) (k : Int32) : MI (sA (sI (sA (sI τ 388 0 k) 391 g) 388 9 (nI (c - 1))) 391 (M (c - 1))) (M (c - 1)) n T (c - 1) M B S := by
  obtain ⟨a, b, d, e, h, i, j, l⟩ := x
  exact ⟨a, rfl, (show _ = τ.1 388 2 from rfl).trans d, (show _ = τ.1 389 from rfl).trans e, rfl, fun q hq r hr => (show _ = τ.1 393 (151 * q + r) from rfl).trans (i q (by omega) r hr), fun s hs => (show _ = τ.1 395 s from rfl).trans (j s hs), fun s hs hb r hr => (show _ = τ.1 394 (151 * s + r) from rfl).trans (l s hs hb r hr)⟩
theorem MI.sav (x : MI τ g n T c M B S) {s0 : Nat} (hs0 : s0 < 2) (k : Int32) : MI (sI (sA (sA (sI τ 388 0 k) 391 g) 394 (cp (τ.1 394) g (151 * s0) 0 151)) 395 s0 1) g n T c M (savB B s0) (savS S s0 g) := by
  obtain ⟨a, b, d, e, h, i, j, l⟩ := x
  refine ⟨a, rfl, (show _ = τ.1 388 2 from rfl).trans d, (show _ = τ.1 389 from rfl).trans e, (show _ = τ.1 388 9 from rfl).trans h, fun q hq r hr => (show _ = τ.1 393 (151 * q + r) from rfl).trans (i q hq r hr), fun s hs => ?_, fun s hs hb r hr => ?_⟩
  · show (if (395 : Nat) = 395 ∧ s = s0 then 1 else τ.1 395 s) = b01 (if s = s0 then true else B s)
    by_cases z : s = s0
    · rw [if_pos z, if_pos ⟨rfl, z⟩]
      rfl
    · rw [if_neg z, if_neg (fun y => z y.2)]
      exact j s hs
  · show cp (τ.1 394) g (151 * s0) 0 151 (151 * s + r) = (if s = s0 then g else S s) r
    unfold savB at hb
    by_cases z : s = s0
    · rw [if_pos z]
      refine (if_pos (by omega)).trans ?_
      congr 1
      omega
    · rw [if_neg z] at hb ⊢
      exact (if_neg (by omega)).trans (l s hs hb r hr)
theorem MI.res (x : MI τ g n T c M B S) (e : Rw) (k : Int32) : MI (sI (sA (sA (sI τ 388 0 k) 391 g) 391 e) 388 9 0) e n T 0 M B S := by
  obtain ⟨a, b, d, e, h, i, j, l⟩ := x
  exact ⟨a, rfl, (show _ = τ.1 388 2 from rfl).trans d, (show _ = τ.1 389 from rfl).trans e, rfl, fun q hq r hr => absurd hq (Nat.not_lt_zero _), fun s hs => (show _ = τ.1 395 s from rfl).trans (j s hs), fun s hs hb r hr => (show _ = τ.1 394 (151 * s + r) from rfl).trans (l s hs hb r hr)⟩
theorem MI.pS (x : MI τ g n T c M B S) (s : PSt) (e : Rw) : MI (pS τ s e) g n T c M B S := by
  obtain ⟨a, b, d, f, h, i, j, l⟩ := x
  exact ⟨a, (show _ = τ.1 391 from rfl).trans b, (show _ = τ.1 388 2 from rfl).trans d, (show _ = τ.1 389 from rfl).trans f, (show _ = τ.1 388 9 from rfl).trans h, fun q hq r hr => (show _ = τ.1 393 (151 * q + r) from rfl).trans (i q hq r hr), fun s hs => (show _ = τ.1 395 s from rfl).trans (j s hs), fun s hs hb r hr => (show _ = τ.1 394 (151 * s + r) from rfl).trans (l s hs hb r hr)⟩
theorem MI.uns (x : MI τ g n T c M B S) : MI (sI (sI τ 395 0 0) 395 1 0) g n T c M (fun _ => false) S := by
  obtain ⟨a, b, d, f, h, i, j, l⟩ := x
  refine ⟨a, (show _ = τ.1 391 from rfl).trans b, (show _ = τ.1 388 2 from rfl).trans d, (show _ = τ.1 389 from rfl).trans f, (show _ = τ.1 388 9 from rfl).trans h, fun q hq r hr => (show _ = τ.1 393 (151 * q + r) from rfl).trans (i q hq r hr), fun s hs => ?_, fun s hs hb => absurd hb Bool.false_ne_true⟩
  rcases (show s = 0 ∨ s = 1 by omega) with rfl | rfl <;> rfl
/-- what is handed to the reference's method behind the class's -/
def AFT (σ σ1 : Sg) (cd val : Int32) (po : Sg → Prop) : Prop := (cd = 0 ∧ ∃ τ, po τ ∧ sL τ 396 0 val.toInt64 = σ1) ∨ (¬ cd = 0 ∧ DG σ σ1)
/-- what the reference's method has to give -/
def OKm (σ1 : Sg) (cd val : Int32) (P : PT) : Prop := ∀ σ2 r, P σ2 r → ∃ v, r = some (.int v) ∧ IV σ2 ∧ σ2.1 388 0 = cd ∧ σ2.2.2 = σ1.2.2 ∧ (cd = 0 → val = v)
theorem SA.l {h : Nat} {v : Int64} (x : SA τ h g) : SA (sL τ 396 0 v) h g := x.frame (fun _ _ _ _ => rfl) (fun _ _ _ _ => rfl)
theorem KJ.l {v : Int64} (x : KJ τ n T c M B S) : KJ (sL τ 396 0 v) n T c M B S :=
  x.frame (fun _ _ _ => rfl) (fun _ _ _ _ _ => rfl) ((x.bb (Or.inl rfl)).frame (fun _ => rfl)) ((x.bb (Or.inr (Or.inl rfl))).frame (fun _ => rfl)) ((x.bb (Or.inr (Or.inr (Or.inl rfl)))).frame (fun _ => rfl))
theorem MI.l {v : Int64} (x : MI τ g n T c M B S) : MI (sL τ 396 0 v) g n T c M B S := x
/-- a question: the three are as they were -/
theorem aftQ {σ1 : Sg} {cd val : Int32} (hJ : KJ σ n T c M B S) (hS : SA σ 3 g) (hM : MI σ g n T c M B S) (ha : AFT σ σ1 cd val (DG σ)) : KJ σ1 n T c M B S ∧ SA σ1 3 g ∧ MI σ1 g n T c M B S := by
  rcases ha with ⟨-, τ, d, rfl⟩ | ⟨-, d⟩
  · exact ⟨(hJ.dg d).l, (d.sa hS (by decide)).l, (hM.fm d.fr).l⟩
  · exact ⟨hJ.dg d, d.sa hS (by decide), hM.fm d.fr⟩
theorem okR {σ1 : Sg} {cd : Int32} (hJ : KJ σ1 n T c M B S) (hS : SA σ1 3 g) (hM : MI σ1 g n T c M B S) : IV (sA (sI σ1 388 0 cd) 391 g) := ⟨g, n, T, c, M, B, S, hJ.fk FK.code, hS.fk FK.code (by decide), hM.code cd⟩
theorem okM {σ1 : Sg} {cd val : Int32} (hJ : KJ σ1 n T c M B S) (hS : SA σ1 3 g) (hM : MI σ1 g n T c M B S) : OKm σ1 cd val (eM σ1 g cd (sA (sI σ1 388 0 cd) 391 g) val) := by
  intro σ2 r h
  obtain ⟨v, rfl, ⟨h1, rfl⟩ | ⟨h1, rfl, h3⟩⟩ := h
  · exact ⟨v, rfl, okR hJ hS hM, rfl, rfl, fun z => absurd z h1⟩
  · exact ⟨v, rfl, okR hJ hS hM, rfl, rfl, fun _ => h3⟩
theorem okX {σ1 : Sg} {cd val : Int32} (hJ : KJ σ1 n T c M B S) (hS : SA σ1 3 g) (hM : MI σ1 g n T c M B S) : OKm σ1 cd val (eX σ1 g cd val) := by
  intro σ2 r h
  obtain ⟨v, rfl, ⟨h1, rfl⟩ | ⟨h1, ⟨X, rfl⟩, h3⟩⟩ := h
  · exact ⟨v, rfl, okR hJ hS hM, rfl, rfl, fun z => absurd z h1⟩
  · exact ⟨v, rfl, ⟨g, n, T, c, M, B, S, (hJ.fk FK.code).fk (FK.refl.a (by decide)), (hS.fk FK.code (by decide)).fk (FK.refl.a (by decide)) (by decide), (hM.code cd).t392 X⟩, rfl, rfl, fun _ => h3⟩
/-- an action -/
theorem aftA {σ1 : Sg} {cd val : Int32} {g1 : Rw} {n1 c1 : Nat} {T1 : Rw} {M1 S1 : Nat → Rw} {B1 : Nat → Bool} (hJ : KJ σ n T c M B S) (hS : SA σ 3 g) (hM : MI σ g n T c M B S) (ha : AFT σ σ1 cd val (PA σ n1 T1 c1 M1 B1 S1 g1)) : MI σ1 g n T c M B S ∧ ((cd = 0 ∧ KJ σ1 n1 T1 c1 M1 B1 S1 ∧ SA σ1 3 g1) ∨ (¬ cd = 0 ∧ KJ σ1 n T c M B S ∧ SA σ1 3 g)) := by
  rcases ha with ⟨h0, τ, d, rfl⟩ | ⟨h0, d⟩
  · exact ⟨(hM.fm d.2.2).l, Or.inl ⟨h0, d.1.l, d.2.1.l⟩⟩
  · exact ⟨hM.fm d.fr, Or.inr ⟨h0, hJ.dg d, d.sa hS (by decide)⟩⟩
theorem okA {σ1 ρ : Sg} {cd val : Int32} {g1 : Rw} {n1 c1 : Nat} {T1 : Rw} {M1 S1 : Nat → Rw} {B1 : Nat → Bool} (hM : MI σ1 g n T c M B S) (hor : (cd = 0 ∧ KJ σ1 n1 T1 c1 M1 B1 S1 ∧ SA σ1 3 g1) ∨ (¬ cd = 0 ∧ KJ σ1 n T c M B S ∧ SA σ1 3 g)) (hρ : cd = 0 → MI ρ g1 n1 T1 c1 M1 B1 S1) (hf : FK σ1 ρ) (h0 : ρ.1 388 0 = cd) : OKm σ1 cd val (eM σ1 g cd ρ val) := by
  intro σ2 r h
  obtain ⟨v, rfl, ⟨h1, rfl⟩ | ⟨h1, rfl, h3⟩⟩ := h
  · rcases hor with ⟨q, -⟩ | ⟨-, q1, q2⟩
    · exact absurd q h1
    · exact ⟨v, rfl, okR q1 q2 hM, rfl, rfl, fun z => absurd z h1⟩
  · rcases hor with ⟨-, q1, q2⟩ | ⟨q, -⟩
    · exact ⟨v, rfl, ⟨g1, n1, T1, c1, M1, B1, S1, q1.fk hf, q2.fk hf (by decide), hρ h1⟩, h0, by rw [hf.2], fun _ => h3⟩
    · exact absurd h1 q
end MIV
