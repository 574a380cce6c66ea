/-! the class between two calls -/
def BB (σ : Sg) (h : Nat) : Prop := ∃ π, PM π ∧ ∀ j, j < 12 → σ.2.1 (h + 3) j = some (h + 8 + π j)
/-- the hall at h stands for the row, which is a sound one -/
def SA (σ : Sg) (h : Nat) (g : Rw) : Prop := ∃ π nr ng nb t, t ≤ 240 ∧ HC σ h π ∧ RH σ h π nr ng nb g ∧ WF g nr ng nb t ∧ CB g nb (4 * t)
def HL (h : Nat) : Prop := h = 3 ∨ h = 308 ∨ h = 328 ∨ h = 348 ∨ h = 368 ∨ ∃ k, k < 14 ∧ h = 25 + 20 * k
theorem HL.t {h : Nat} (x : HL h) : HT h := by
  rcases x with rfl | rfl | rfl | rfl | rfl | ⟨k, hk, rfl⟩
  · exact HT_3
  · exact HT_308
  · exact HT_328
  · exact HT_348
  · exact HT_368
  · exact HT_m k hk
/-- the class's refs that never change -/
def RF (σ : Sg) : Prop := (σ.2.1 0 0 = some 1 ∧ σ.2.1 0 1 = some 3 ∧ σ.2.1 0 2 = some 23 ∧ σ.2.1 0 3 = some 305 ∧ σ.2.1 0 4 = some 306 ∧ σ.2.1 0 5 = some 307 ∧ σ.2.1 0 6 = some 308 ∧ σ.2.1 0 7 = some 328) ∧ σ.2.1 1 0 = some 2 ∧ MR σ ∧ (∀ s, s < 2 → σ.2.1 305 s = some (348 + 20 * s)) ∧ ∀ h, HL h → HS σ h
theorem RF.frame {σ τ : Sg} (x : RF σ) (hf : ∀ i j, i ≠ 6 → i ≠ 311 → i ≠ 331 → τ.2.1 i j = σ.2.1 i j) (hb : ∀ h, HL h → h ≠ 3 → h ≠ 308 → h ≠ 328 → True) : RF τ := by
  obtain ⟨⟨a0, a1, a2, a3, a4, a5, a6, a7⟩, b, c, d, e⟩ := x
  have f : ∀ i j, i ≠ 6 ∧ i ≠ 311 ∧ i ≠ 331 → ∀ {v}, σ.2.1 i j = v → τ.2.1 i j = v := fun i j h v q => (hf i j h.1 h.2.1 h.2.2).trans q
  refine ⟨⟨f _ _ (by omega) a0, f _ _ (by omega) a1, f _ _ (by omega) a2, f _ _ (by omega) a3, f _ _ (by omega) a4, f _ _ (by omega) a5, f _ _ (by omega) a6, f _ _ (by omega) a7⟩, f _ _ (by omega) b, ⟨f _ _ (by omega) c.1, fun k hk => f _ _ (by omega) (c.2 k hk)⟩, fun s hs => f _ _ (by omega) (d s hs), fun h hh => ?_⟩
  have hl : h ≠ 6 ∧ h ≠ 311 ∧ h ≠ 331 ∧ h ≠ 5 ∧ h ≠ 310 ∧ h ≠ 330 := by
    rcases hh with rfl | rfl | rfl | rfl | rfl | ⟨k, hk, rfl⟩ <;> omega
  obtain ⟨e1, e2, e3, e4⟩ := e h hh
  exact ⟨f _ _ (by omega) e1, f _ _ (by omega) e2, f _ _ (by omega) e3, fun r hr => f _ _ (by omega) (e4 r hr)⟩
theorem HC.frame {σ τ : Sg} {h : Nat} {π : Nat → Nat} (x : HC σ h π) (hf : ∀ i j, h ≤ i → i < h + 20 → τ.2.1 i j = σ.2.1 i j) : HC τ h π :=
  ⟨x.1, ⟨(hf _ _ (by omega) (by omega)).trans x.2.1.1, (hf _ _ (by omega) (by omega)).trans x.2.1.2.1, (hf _ _ (by omega) (by omega)).trans x.2.1.2.2.1, fun r hr => (hf _ _ (by omega) (by omega)).trans (x.2.1.2.2.2 r hr)⟩, x.2.2⟩
theorem RH.frame {σ τ : Sg} {h nr ng nb t : Nat} {π : Nat → Nat} {g : Rw} (x : RH σ h π nr ng nb g) (hp : PM π) (hw : WF g nr ng nb t) (hf : ∀ i j, h ≤ i → i < h + 20 → τ.1 i j = σ.1 i j) (hg : ∀ i j, h ≤ i → i < h + 20 → τ.2.1 i j = σ.2.1 i j) : RH τ h π nr ng nb g := by
  obtain ⟨a, b, c, d, e⟩ := x
  have h4 := hw.nr4
  have h12 := hw.nb12
  exact ⟨fun j hj => (hf _ _ (by omega) (by omega)).trans (a j hj), fun j hj => (hf _ _ (by omega) (by omega)).trans (b j hj), fun r j hr hj => (hf _ _ (by omega) (by omega)).trans (c r j hr hj), fun k j hk hj => (hf _ _ (by omega) (by have := hp.1 k (by omega); omega)).trans (d k j hk hj), fun j hj => (hg _ _ (by omega) (by omega)).trans (e j hj)⟩
theorem SA.frame {σ τ : Sg} {h : Nat} {g : Rw} (x : SA σ h g) (hf : ∀ i j, h ≤ i → i < h + 20 → τ.1 i j = σ.1 i j) (hg : ∀ i j, h ≤ i → i < h + 20 → τ.2.1 i j = σ.2.1 i j) : SA τ h g := by
  obtain ⟨π, nr, ng, nb, t, ht, hc, hR, hw, hb⟩ := x
  exact ⟨π, nr, ng, nb, t, ht, hc.frame hg, hR.frame hc.2.2 hw hf hg, hw, hb⟩
/-- of the class, all but the hall of now: its refs, its text, what is remembered, what is saved -/
def KJ (σ : Sg) (n : Nat) (T : Rw) (c : Nat) (M : Nat → Rw) (B : Nat → Bool) (S : Nat → Rw) : Prop :=
  RF σ ∧ (∀ h, HL h → BB σ h) ∧ (σ.1 1 1 = nI n ∧ n ≤ 120 ∧ σ.1 2 = T) ∧ (∃ p, p < 14 ∧ c ≤ 14 ∧ σ.1 23 1 = nI p ∧ σ.1 23 2 = nI c ∧ ∀ i, i < c → SA σ (25 + 20 * ((p + 14 - c + i) % 14)) (M i)) ∧ ∀ s, s < 2 → σ.1 306 s = b01 (B s) ∧ (B s = true → SA σ (348 + 20 * s) (S s))
theorem BB.frame {σ τ : Sg} {h : Nat} (x : BB σ h) (hg : ∀ j, τ.2.1 (h + 3) j = σ.2.1 (h + 3) j) : BB τ h := by
  obtain ⟨π, hp, hb⟩ := x
  exact ⟨π, hp, fun j hj => (hg j).trans (hb j hj)⟩
theorem KJ.frame {σ τ : Sg} {n c : Nat} {T : Rw} {M S : Nat → Rw} {B : Nat → Bool} (x : KJ σ n T c M B S) (hf : ∀ i j, (i = 1 ∧ j = 1) ∨ i = 2 ∨ (23 ≤ i ∧ i < 307) ∨ (348 ≤ i ∧ i < 388) → τ.1 i j = σ.1 i j) (hg : ∀ i j, i ≠ 6 → i ≠ 311 → i ≠ 331 → τ.2.1 i j = σ.2.1 i j) (h3 : BB τ 3) (h308 : BB τ 308) (h328 : BB τ 328) : KJ τ n T c M B S := by
  obtain ⟨a, b, ⟨c1, c2, c3⟩, ⟨p, hp, hc, e1, e2, e3⟩, f⟩ := x
  refine ⟨a.frame hg (fun _ _ _ _ _ => trivial), fun h hh => ?_, ⟨(hf _ _ (Or.inl ⟨rfl, rfl⟩)).trans c1, c2, (funext fun j => hf _ _ (by omega)).trans c3⟩, ⟨p, hp, hc, (hf _ _ (by omega)).trans e1, (hf _ _ (by omega)).trans e2, fun i hi => (e3 i hi).frame (fun x j h1 h2 => hf _ _ (by omega)) (fun x j h1 h2 => hg _ _ (by omega) (by omega) (by omega))⟩, fun s hs => ⟨(hf _ _ (by omega)).trans (f s hs).1, fun q => ((f s hs).2 q).frame (fun x j h1 h2 => hf _ _ (by omega)) (fun x j h1 h2 => hg _ _ (by omega) (by omega) (by omega))⟩⟩
  rcases id hh with rfl | rfl | rfl | rfl | rfl | ⟨k, hk, rfl⟩
  · exact h3
  · exact h308
  · exact h328
  · exact (b _ hh).frame (fun j => hg _ _ (by omega) (by omega) (by omega))
  · exact (b _ hh).frame (fun j => hg _ _ (by omega) (by omega) (by omega))
  · exact (b _ hh).frame (fun j => hg _ _ (by omega) (by omega) (by omega))
/-- only what is tried out has changed -/
def DG (σ τ : Sg) : Prop := (∀ i j, i < 307 ∨ 348 ≤ i → ¬ (i = 1 ∧ 2 ≤ j) → τ.1 i j = σ.1 i j) ∧ (∀ i j, i ≠ 311 → i ≠ 331 → τ.2.1 i j = σ.2.1 i j) ∧ (BB σ 308 → BB τ 308) ∧ (BB σ 328 → BB τ 328)
theorem DG.refl {σ : Sg} : DG σ σ := ⟨fun _ _ _ _ => rfl, fun _ _ _ _ => rfl, id, id⟩
theorem DG.trans {a b c : Sg} (x : DG a b) (y : DG b c) : DG a c := ⟨fun i j h1 h2 => (y.1 i j h1 h2).trans (x.1 i j h1 h2), fun i j h1 h2 => (y.2.1 i j h1 h2).trans (x.2.1 i j h1 h2), fun h => y.2.2.1 (x.2.2.1 h), fun h => y.2.2.2 (x.2.2.2 h)⟩
theorem KJ.dg {σ τ : Sg} {n c : Nat} {T : Rw} {M S : Nat → Rw} {B : Nat → Bool} (x : KJ σ n T c M B S) (d : DG σ τ) : KJ τ n T c M B S :=
  x.frame (fun i j h => d.1 i j (by omega) (by omega)) (fun i j _ h1 h2 => d.2.1 i j h1 h2) ((x.2.1 3 (Or.inl rfl)).frame (fun j => d.2.1 _ _ (by omega) (by omega))) (d.2.2.1 (x.2.1 308 (Or.inr (Or.inl rfl)))) (d.2.2.2 (x.2.1 328 (Or.inr (Or.inr (Or.inl rfl)))))
theorem DG.sa {σ τ : Sg} {h : Nat} {g : Rw} (d : DG σ τ) (x : SA σ h g) (hh : 2 ≤ h ∧ h + 20 ≤ 307 ∨ 348 ≤ h) : SA τ h g := x.frame (fun i j h1 h2 => d.1 i j (by omega) (by omega)) (fun i j h1 h2 => d.2.1 i j (by omega) (by omega))
theorem DG.hc {σ τ : Sg} {π : Nat → Nat} (d : DG σ τ) (x : HC σ 3 π) : HC τ 3 π := x.frame (fun i j h1 h2 => d.2.1 i j (by omega) (by omega))
theorem DG.rh {σ τ : Sg} {π : Nat → Nat} {nr ng nb t : Nat} {g : Rw} (d : DG σ τ) (x : RH σ 3 π nr ng nb g) (hp : PM π) (hw : WF g nr ng nb t) : RH τ 3 π nr ng nb g := x.frame hp hw (fun i j h1 h2 => d.1 i j (by omega) (by omega)) (fun i j h1 h2 => d.2.1 i j (by omega) (by omega))
theorem sH_BB {σ : Sg} {h nr ng nb : Nat} {π : Nat → Nat} {g : Rw} (hp : PM π) : BB (sH σ h π nr ng nb g) h := ⟨π, hp, fun j hj => sH_book hj⟩
theorem DG.t8 {σ τ : Sg} {π : Nat → Nat} {nr ng nb : Nat} {g : Rw} (d : DG σ τ) (hp : PM π) : DG σ (sH τ 308 π nr ng nb g) :=
  ⟨fun i j h1 h2 => (sH_out (by omega)).trans (d.1 i j h1 h2), fun i j h1 h2 => (sH_R (by omega)).trans (d.2.1 i j h1 h2), fun _ => sH_BB hp, fun h => (d.2.2.2 h).frame (fun j => sH_R (by omega))⟩
theorem DG.t9 {σ τ : Sg} {π : Nat → Nat} {nr ng nb : Nat} {g : Rw} (d : DG σ τ) (hp : PM π) : DG σ (sH τ 328 π nr ng nb g) :=
  ⟨fun i j h1 h2 => (sH_out (by omega)).trans (d.1 i j h1 h2), fun i j h1 h2 => (sH_R (by omega)).trans (d.2.1 i j h1 h2), fun h => (d.2.2.1 h).frame (fun j => sH_R (by omega)), fun _ => sH_BB hp⟩
theorem DG.i {σ τ : Sg} {i j : Nat} {v : Int32} (d : DG σ τ) (h : (307 ≤ i ∧ i < 348) ∨ (i = 1 ∧ 2 ≤ j)) : DG σ (sI τ i j v) :=
  ⟨fun x y h1 h2 => (if_neg (by omega)).trans (d.1 x y h1 h2), d.2.1, d.2.2.1, d.2.2.2⟩
theorem DG.a {σ τ : Sg} {i : Nat} {f : Rw} (d : DG σ τ) (h : 307 ≤ i ∧ i < 348) : DG σ (sA τ i f) :=
  ⟨fun x y h1 h2 => (if_neg (by omega)).trans (d.1 x y h1 h2), d.2.1, d.2.2.1, d.2.2.2⟩
/-- the reference's own cells are as they were -/
def FMo (σ τ : Sg) : Prop := (∀ i j, 388 ≤ i → τ.1 i j = σ.1 i j) ∧ ∀ i j, 388 ≤ i → τ.2.1 i j = σ.2.1 i j
theorem FMo.refl {σ : Sg} : FMo σ σ := ⟨fun _ _ _ => rfl, fun _ _ _ => rfl⟩
theorem FMo.trans {a b c : Sg} (x : FMo a b) (y : FMo b c) : FMo a c := ⟨fun i j h => (y.1 i j h).trans (x.1 i j h), fun i j h => (y.2 i j h).trans (x.2 i j h)⟩
theorem DG.fr {σ τ : Sg} (d : DG σ τ) : FMo σ τ := ⟨fun i j h => d.1 i j (by omega) (by omega), fun i j h => d.2.1 i j (by omega) (by omega)⟩
theorem FMo.h {σ τ : Sg} {h nr ng nb : Nat} {π : Nat → Nat} {g : Rw} (d : FMo σ τ) (hh : h + 20 ≤ 388) : FMo σ (sH τ h π nr ng nb g) := ⟨fun i j q => (sH_out (by omega)).trans (d.1 i j q), fun i j q => (sH_R (by omega)).trans (d.2 i j q)⟩
theorem FMo.i {σ τ : Sg} {i j : Nat} {v : Int32} (d : FMo σ τ) (h : i < 388) : FMo σ (sI τ i j v) := ⟨fun x y q => (if_neg (by omega)).trans (d.1 x y q), d.2⟩
theorem FMo.a {σ τ : Sg} {i : Nat} {f : Rw} (d : FMo σ τ) (h : i < 388) : FMo σ (sA τ i f) := ⟨fun x y q => (if_neg (by omega)).trans (d.1 x y q), d.2⟩
/-- the hall of now by its row: KJ holds on -/
theorem KJ.h3 {σ : Sg} {n c nr ng nb : Nat} {T g : Rw} {M S : Nat → Rw} {B : Nat → Bool} {π : Nat → Nat} (x : KJ σ n T c M B S) (hp : PM π) : KJ (sH σ 3 π nr ng nb g) n T c M B S :=
  x.frame (fun i j h => sH_out (by omega)) (fun i j h1 h2 h3 => sH_R (by omega)) (sH_BB hp) ((x.2.1 308 (Or.inr (Or.inl rfl))).frame (fun j => sH_R (by omega))) ((x.2.1 328 (Or.inr (Or.inr (Or.inl rfl)))).frame (fun j => sH_R (by omega)))
theorem SA.mk {σ : Sg} {π : Nat → Nat} {nr ng nb t h : Nat} {g : Rw} (hc : HC σ h π) (hw : WF g nr ng nb t) (ht : t ≤ 240) (hb : CB g nb (4 * t)) : SA (sH σ h π nr ng nb g) h g :=
  ⟨π, nr, ng, nb, t, ht, ⟨hc.1, ⟨sH_rooms hc, sH_owed hc, sH_books hc, fun _ hr => sH_room hc hr⟩, hc.2.2⟩, sH_RH hc hw.nr4 hw.nb12, hw, hb⟩
