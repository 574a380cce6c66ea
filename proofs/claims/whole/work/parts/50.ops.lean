/-! each operation: class and reference agree -/
theorem aftF {σ σ1 : Sg} {cd val : Int32} {po : Sg → Prop} (ha : AFT σ σ1 cd val po) (h : ∀ τ, po τ → FMo σ τ) : FMo σ σ1 := by
  rcases ha with ⟨-, τ, d, rfl⟩ | ⟨-, d⟩
  · exact h τ d
  · exact d.fr
theorem mi_err {τ : Sg} {g : Rw} {n c : Nat} {T : Rw} {M S : Nat → Rw} {B : Nat → Bool} (x : MI τ g n T c M B S) (s : PSt) (e : Rw) : MI (sA (pS (sI τ 388 0 0) s e) 391 g) g n T c M B S := by
  obtain ⟨a, b, d, f, h, i, j, l⟩ := x
  exact ⟨a, rfl, (show _ = τ.1 388 2 from rfl).trans d, (show _ = τ.1 389 from rfl).trans f, (show _ = τ.1 388 9 from rfl).trans h, fun q hq r hr => (show _ = τ.1 393 (151 * q + r) from rfl).trans (i q hq r hr), fun s hs => (show _ = τ.1 395 s from rfl).trans (j s hs), fun s hs hb r hr => (show _ = τ.1 394 (151 * s + r) from rfl).trans (l s hs hb r hr)⟩
theorem okN {σ1 ρ : Sg} {g : Rw} {n c : Nat} {T : Rw} {M S : Nat → Rw} {B : Nat → Bool} {cd val val2 : Int32} {g1 : Rw} {n1 c1 : Nat} {T1 : Rw} {M1 S1 : Nat → Rw} {B1 : Nat → Bool} (hM : MI σ1 g n T c M B S) (hor : (cd = 0 ∧ KJ σ1 n1 T1 c1 M1 B1 S1 ∧ SA σ1 3 g1) ∨ (¬ cd = 0 ∧ KJ σ1 n T c M B S ∧ SA σ1 3 g)) (h0 : ¬ cd = 0) : OKm σ1 cd val (eM σ1 g cd ρ val2) := by
  intro σ2 r h
  rcases hor with ⟨q, -⟩ | ⟨-, q1, q2⟩
  · exact absurd q h0
  · obtain ⟨v, rfl, ⟨h1, rfl⟩ | ⟨h1, -⟩⟩ := h
    · exact ⟨v, rfl, okR q1 q2 hM, rfl, rfl, fun z => absurd z h0⟩
    · exact absurd h1 h0
theorem KJ.c14 {σ : Sg} {n c : Nat} {T : Rw} {M S : Nat → Rw} {B : Nat → Bool} (x : KJ σ n T c M B S) : c ≤ 14 := by
  obtain ⟨-, -, -, ⟨p, -, h, -⟩, -⟩ := x
  exact h
theorem op_append (σ : Sg) (p0 : Int32) (hI : IV σ) : ∃ (cd val : Int32) (po : Sg → Prop), Ct yX6_append cX6_append mX6_append 7 8 48 NN false σ [.ref 0, .int p0] NN (oX cd po val) (x2 σ cd eA eS) ∧ ∀ σ1, AFT σ σ1 cd val po → ∃ P, Ct yX7_append cX7_append mX7_append 3 0 0 NN false σ1 [.ref 388, .int p0] NN P XF ∧ OKm σ1 cd val P := by
  obtain ⟨g, n, T, c, M, B, S, hJ, hS, hM⟩ := hI
  obtain ⟨π, nr, ng, nb, t, ht, hc, hR, hw, hcb⟩ := id hS
  have hc14 := hJ.c14
  have k := k6_append σ π nr ng nb t g n c T M S B p0 hJ hc hw ht hcb
  rw [hR.eq] at k
  refine ⟨_, _, _, k, fun σ1 ha => ?_⟩
  obtain ⟨m1, hor⟩ := aftA hJ hS hM ha
  have km := k_append σ1 g p0 n m1.1 m1.2.2.1 hJ.2.2.1.2.1
  rw [m1.self] at km
  exact ⟨_, km, okA m1 hor (fun _ => m1.app _ _) FK.app rfl⟩
theorem op_load (σ : Sg)  (hI : IV σ) : ∃ (cd val : Int32) (po : Sg → Prop), Ct yX6_load cX6_load mX6_load 7 8 48 NN false σ [.ref 0] NN (oX cd po val) (x1 σ cd eS) ∧ ∀ σ1, AFT σ σ1 cd val po → ∃ P, Ct yX7_load cX7_load mX7_load 8 0 0 NN false σ1 [.ref 388] NN P XF ∧ OKm σ1 cd val P := by
  obtain ⟨g, n, T, c, M, B, S, hJ, hS, hM⟩ := hI
  obtain ⟨π, nr, ng, nb, t, ht, hc, hR, hw, hcb⟩ := id hS
  have hc14 := hJ.c14
  have k := k6_load σ π nr ng nb t g n c T M S B (σ.1 390) hJ hc hw ht hcb
  rw [hR.eq] at k
  refine ⟨_, _, _, k, fun σ1 ha => ?_⟩
  have hf := aftF ha (fun τ x => x.2.2)
  obtain ⟨m1, hor⟩ := aftA hJ hS hM ha
  have km := k_load σ1 g n m1.1 m1.2.2.1 hJ.2.2.1.2.1
  rw [m1.self, m1.2.2.2.1, show σ1.1 390 = σ.1 390 from funext fun j => hf.1 _ _ (by decide)] at km
  have fp : FK σ1 (pS σ1 (pText T n (fClean (σ.1 390))).1 (pText T n (fClean (σ.1 390))).2.1) := ((FK.refl.i (by decide)).i (by decide)).a (by decide)
  refine ⟨_, km, okA (σ1 := pS σ1 (pText T n (fClean (σ.1 390))).1 (pText T n (fClean (σ.1 390))).2.1) (m1.pS _ _) (hor.imp (fun h => ⟨h.1, h.2.1.fk fp, h.2.2.fk fp (by decide)⟩) (fun h => ⟨h.1, h.2.1.fk fp, h.2.2.fk fp (by decide)⟩)) (fun _ => ((m1.pS _ _).res _ _).uns) ((((((FK.refl.i (by decide)).a (by decide)).a (by decide)).i (by decide)).i (by decide)).i (by decide)) rfl⟩
theorem op_about (σ : Sg) (p0 : Int32) (hI : IV σ) : ∃ (cd val : Int32) (po : Sg → Prop), Ct yX6_about cX6_about mX6_about 7 8 48 NN false σ [.ref 0, .int p0] NN (oX cd po val) (x1 σ cd eA) ∧ ∀ σ1, AFT σ σ1 cd val po → ∃ P, Ct yX7_about cX7_about mX7_about 3 0 0 NN false σ1 [.ref 388, .int p0] NN P XF ∧ OKm σ1 cd val P := by
  obtain ⟨g, n, T, c, M, B, S, hJ, hS, hM⟩ := hI
  obtain ⟨π, nr, ng, nb, t, ht, hc, hR, hw, hcb⟩ := id hS
  have hc14 := hJ.c14
  have k := k6_about σ π nr ng nb t g n c T M S B p0 hJ hc hw ht hcb
  rw [hR.eq] at k
  refine ⟨_, _, _, k, fun σ1 ha => ?_⟩
  obtain ⟨j1, s1, m1⟩ := aftQ hJ hS hM ha
  have km := k_about σ1 g nr ng nb t p0 m1.1
  rw [m1.self] at km
  exact ⟨_, km, okM j1 s1 m1⟩
theorem op_room (σ : Sg) (p0 : Int32) (p1 : Int32) (hI : IV σ) : ∃ (cd val : Int32) (po : Sg → Prop), Ct yX6_room cX6_room mX6_room 7 8 48 NN false σ [.ref 0, .int p0, .int p1] NN (oX cd po val) (x2 σ cd eI eA) ∧ ∀ σ1, AFT σ σ1 cd val po → ∃ P, Ct yX7_room cX7_room mX7_room 6 0 0 NN false σ1 [.ref 388, .int p0, .int p1] NN P XF ∧ OKm σ1 cd val P := by
  obtain ⟨g, n, T, c, M, B, S, hJ, hS, hM⟩ := hI
  obtain ⟨π, nr, ng, nb, t, ht, hc, hR, hw, hcb⟩ := id hS
  have hc14 := hJ.c14
  have k := k6_room σ π nr ng nb t g n c T M S B p0 p1 hJ hc hw ht hcb
  rw [hR.eq] at k
  refine ⟨_, _, _, k, fun σ1 ha => ?_⟩
  obtain ⟨j1, s1, m1⟩ := aftQ hJ hS hM ha
  have km := k_room σ1 g nr ng nb t p0 p1 m1.1 hw
  rw [m1.self] at km
  exact ⟨_, km, okM j1 s1 m1⟩
theorem op_owes (σ : Sg) (p0 : Int32) (hI : IV σ) : ∃ (cd val : Int32) (po : Sg → Prop), Ct yX6_owes cX6_owes mX6_owes 7 8 48 NN false σ [.ref 0, .int p0] NN (oX cd po val) (x1 σ cd eI) ∧ ∀ σ1, AFT σ σ1 cd val po → ∃ P, Ct yX7_owes cX7_owes mX7_owes 3 0 0 NN false σ1 [.ref 388, .int p0] NN P XF ∧ OKm σ1 cd val P := by
  obtain ⟨g, n, T, c, M, B, S, hJ, hS, hM⟩ := hI
  obtain ⟨π, nr, ng, nb, t, ht, hc, hR, hw, hcb⟩ := id hS
  have hc14 := hJ.c14
  have k := k6_owes σ π nr ng nb t g n c T M S B p0 hJ hc hw ht hcb
  rw [hR.eq] at k
  refine ⟨_, _, _, k, fun σ1 ha => ?_⟩
  obtain ⟨j1, s1, m1⟩ := aftQ hJ hS hM ha
  have km := k_owes σ1 g nr ng nb t p0 m1.1 hw
  rw [m1.self] at km
  exact ⟨_, km, okM j1 s1 m1⟩
theorem op_booking (σ : Sg) (p0 : Int32) (p1 : Int32) (hI : IV σ) : ∃ (cd val : Int32) (po : Sg → Prop), Ct yX6_booking cX6_booking mX6_booking 7 8 48 NN false σ [.ref 0, .int p0, .int p1] NN (oX cd po val) (x2 σ cd eI eA) ∧ ∀ σ1, AFT σ σ1 cd val po → ∃ P, Ct yX7_booking cX7_booking mX7_booking 6 0 0 NN false σ1 [.ref 388, .int p0, .int p1] NN P XF ∧ OKm σ1 cd val P := by
  obtain ⟨g, n, T, c, M, B, S, hJ, hS, hM⟩ := hI
  obtain ⟨π, nr, ng, nb, t, ht, hc, hR, hw, hcb⟩ := id hS
  have hc14 := hJ.c14
  have k := k6_booking σ π nr ng nb t g n c T M S B p0 p1 hJ hc hw ht hcb
  rw [hR.eq] at k
  refine ⟨_, _, _, k, fun σ1 ha => ?_⟩
  obtain ⟨j1, s1, m1⟩ := aftQ hJ hS hM ha
  have km := k_booking σ1 g nr ng nb t p0 p1 m1.1 hw
  rw [m1.self] at km
  exact ⟨_, km, okM j1 s1 m1⟩
theorem op_addRoom (σ : Sg) (p0 : Int32) (p1 : Int32) (p2 : Int32) (p3 : Int32) (hI : IV σ) : ∃ (cd val : Int32) (po : Sg → Prop), Ct yX6_addRoom cX6_addRoom mX6_addRoom 7 8 48 NN false σ [.ref 0, .int p0, .int p1, .int p2, .int p3] NN (oX cd po val) (x2 σ cd eA eS) ∧ ∀ σ1, AFT σ σ1 cd val po → ∃ P, Ct yX7_addRoom cX7_addRoom mX7_addRoom 3 0 0 NN false σ1 [.ref 388, .int p0, .int p1, .int p2, .int p3] NN P XF ∧ OKm σ1 cd val P := by
  obtain ⟨g, n, T, c, M, B, S, hJ, hS, hM⟩ := hI
  obtain ⟨π, nr, ng, nb, t, ht, hc, hR, hw, hcb⟩ := id hS
  have hc14 := hJ.c14
  have k := k6_addRoom σ π nr ng nb t g n c T M S B p0 p1 p2 p3 hJ hc hw ht hcb
  rw [hR.eq] at k
  refine ⟨_, _, _, k, fun σ1 ha => ?_⟩
  obtain ⟨m1, hor⟩ := aftA hJ hS hM ha
  have km := k_addRoom σ1 g nr ng nb t c p0 p1 p2 p3 m1.1 hw m1.2.2.2.2.1 hc14
  rw [m1.self] at km
  exact ⟨_, km, okA m1 hor (fun _ => m1.rem hc14 _ _) FK.rem rfl⟩
theorem op_addGroup (σ : Sg)  (hI : IV σ) : ∃ (cd val : Int32) (po : Sg → Prop), Ct yX6_addGroup cX6_addGroup mX6_addGroup 7 8 48 NN false σ [.ref 0] NN (oX cd po val) (x1 σ cd eS) ∧ ∀ σ1, AFT σ σ1 cd val po → ∃ P, Ct yX7_addGroup cX7_addGroup mX7_addGroup 3 0 0 NN false σ1 [.ref 388] NN P XF ∧ OKm σ1 cd val P := by
  obtain ⟨g, n, T, c, M, B, S, hJ, hS, hM⟩ := hI
  obtain ⟨π, nr, ng, nb, t, ht, hc, hR, hw, hcb⟩ := id hS
  have hc14 := hJ.c14
  have k := k6_addGroup σ π nr ng nb t g n c T M S B  hJ hc hw ht hcb
  rw [hR.eq] at k
  refine ⟨_, _, _, k, fun σ1 ha => ?_⟩
  obtain ⟨m1, hor⟩ := aftA hJ hS hM ha
  have km := k_addGroup σ1 g nr ng nb t c  m1.1 hw m1.2.2.2.2.1 hc14
  rw [m1.self] at km
  exact ⟨_, km, okA m1 hor (fun _ => m1.rem hc14 _ _) FK.rem rfl⟩
theorem op_book (σ : Sg) (p0 : Int32) (p1 : Int32) (p2 : Int32) (p3 : Int32) (p4 : Int32) (hI : IV σ) : ∃ (cd val : Int32) (po : Sg → Prop), Ct yX6_book cX6_book mX6_book 8 8 48 NN false σ [.ref 0, .int p0, .int p1, .int p2, .int p3, .int p4] NN (oX cd po val) (x3 σ cd eI eA eS) ∧ ∀ σ1, AFT σ σ1 cd val po → ∃ P, Ct yX7_book cX7_book mX7_book 6 0 0 NN false σ1 [.ref 388, .int p0, .int p1, .int p2, .int p3, .int p4] NN P XF ∧ OKm σ1 cd val P := by
  obtain ⟨g, n, T, c, M, B, S, hJ, hS, hM⟩ := hI
  obtain ⟨π, nr, ng, nb, t, ht, hc, hR, hw, hcb⟩ := id hS
  have hc14 := hJ.c14
  have k := k6_book σ π nr ng nb t g n c T M S B p0 p1 p2 p3 p4 hJ hc hw ht hcb
  rw [hR.eq] at k
  refine ⟨_, _, _, k, fun σ1 ha => ?_⟩
  obtain ⟨m1, hor⟩ := aftA hJ hS hM ha
  have km := k_book σ1 g nr ng nb t c p0 p1 p2 p3 p4 m1.1 hw m1.2.2.2.2.1 hc14
  rw [m1.self] at km
  exact ⟨_, km, okA m1 hor (fun _ => m1.rem hc14 _ _) FK.rem rfl⟩
theorem op_cancel (σ : Sg) (p0 : Int32) (hI : IV σ) : ∃ (cd val : Int32) (po : Sg → Prop), Ct yX6_cancel cX6_cancel mX6_cancel 7 8 48 NN false σ [.ref 0, .int p0] NN (oX cd po val) (x2 σ cd eI eS) ∧ ∀ σ1, AFT σ σ1 cd val po → ∃ P, Ct yX7_cancel cX7_cancel mX7_cancel 5 0 0 NN false σ1 [.ref 388, .int p0] NN P XF ∧ OKm σ1 cd val P := by
  obtain ⟨g, n, T, c, M, B, S, hJ, hS, hM⟩ := hI
  obtain ⟨π, nr, ng, nb, t, ht, hc, hR, hw, hcb⟩ := id hS
  have hc14 := hJ.c14
  have k := k6_cancel σ π nr ng nb t g n c T M S B p0 hJ hc hw ht hcb
  rw [hR.eq] at k
  refine ⟨_, _, _, k, fun σ1 ha => ?_⟩
  obtain ⟨m1, hor⟩ := aftA hJ hS hM ha
  have km := k_cancel σ1 g nr ng nb t c p0 m1.1 hw m1.2.2.2.2.1 hc14
  rw [m1.self] at km
  exact ⟨_, km, okA m1 hor (fun _ => m1.rem hc14 _ _) FK.rem rfl⟩
theorem op_prove (σ : Sg) (p0 : Int32) (p1 : Int32) (his : p1 = 0 ∨ p1 = 1) (hI : IV σ) : ∃ (cd val : Int32) (po : Sg → Prop), Ct yX6_prove cX6_prove mX6_prove 7 8 48 NN false σ [.ref 0, .int p0, .int p1] NN (oX cd po val) (x2 σ cd eI eS) ∧ ∀ σ1, AFT σ σ1 cd val po → ∃ P, Ct yX7_prove cX7_prove mX7_prove 5 0 0 NN false σ1 [.ref 388, .int p0, .int p1] NN P XF ∧ OKm σ1 cd val P := by
  obtain ⟨g, n, T, c, M, B, S, hJ, hS, hM⟩ := hI
  obtain ⟨π, nr, ng, nb, t, ht, hc, hR, hw, hcb⟩ := id hS
  have hc14 := hJ.c14
  have k := k6_prove σ π nr ng nb t g n c T M S B p0 p1 his hJ hc hw ht hcb
  rw [hR.eq] at k
  refine ⟨_, _, _, k, fun σ1 ha => ?_⟩
  obtain ⟨m1, hor⟩ := aftA hJ hS hM ha
  have km := k_prove σ1 g nr ng nb t c p0 p1 m1.1 hw m1.2.2.2.2.1 hc14
  rw [m1.self] at km
  refine ⟨_, km, ?_⟩
  intro σ2 r h
  obtain ⟨v, rfl, ⟨h1, rfl⟩ | ⟨h1, b, hb, rfl, h3⟩⟩ := h
  · rcases hor with ⟨q, -⟩ | ⟨-, q1, q2⟩
    · exact absurd q h1
    · exact ⟨v, rfl, okR q1 q2 m1, rfl, rfl, fun z => absurd z h1⟩
  · rcases hor with ⟨-, q1, q2⟩ | ⟨q, -⟩
    · have e : fPr g nb (cN p0) p1 = upd g (31 + 10 * b + 7) (if p1 = 0 then 0 else 1) := by
        rw [fPr, hb]
        rcases his with rfl | rfl <;> rfl
      rw [e] at q2
      refine ⟨v, rfl, ⟨_, n, T, _, _, B, S, q1.fk FK.rem, q2.fk FK.rem (by decide), m1.rem hc14 _ _⟩, rfl, rfl, fun _ => ?_⟩
      rw [hb]
      exact h3
    · exact absurd h1 q
theorem op_outside (σ : Sg) (p0 : Int32) (hI : IV σ) : ∃ (cd val : Int32) (po : Sg → Prop), Ct yX6_outside cX6_outside mX6_outside 7 8 48 NN false σ [.ref 0, .int p0] NN (oX cd po val) (x1 σ cd eA) ∧ ∀ σ1, AFT σ σ1 cd val po → ∃ P, Ct yX7_outside cX7_outside mX7_outside 3 0 0 NN false σ1 [.ref 388, .int p0] NN P XF ∧ OKm σ1 cd val P := by
  obtain ⟨g, n, T, c, M, B, S, hJ, hS, hM⟩ := hI
  obtain ⟨π, nr, ng, nb, t, ht, hc, hR, hw, hcb⟩ := id hS
  have hc14 := hJ.c14
  have k := k6_outside σ π nr ng nb t g n c T M S B p0 hJ hc hw ht hcb
  rw [hR.eq] at k
  refine ⟨_, _, _, k, fun σ1 ha => ?_⟩
  obtain ⟨m1, hor⟩ := aftA hJ hS hM ha
  have km := k_outside σ1 g c p0 m1.1 m1.2.2.2.2.1 hc14
  rw [m1.self] at km
  exact ⟨_, km, okA m1 hor (fun _ => m1.rem hc14 _ _) FK.rem rfl⟩
theorem op_pay (σ : Sg) (p0 : Int32) (hI : IV σ) : ∃ (cd val : Int32) (po : Sg → Prop), Ct yX6_pay cX6_pay mX6_pay 7 8 48 NN false σ [.ref 0, .int p0] NN (oX cd po val) (x1 σ cd eI) ∧ ∀ σ1, AFT σ σ1 cd val po → ∃ P, Ct yX7_pay cX7_pay mX7_pay 3 0 0 NN false σ1 [.ref 388, .int p0] NN P XF ∧ OKm σ1 cd val P := by
  obtain ⟨g, n, T, c, M, B, S, hJ, hS, hM⟩ := hI
  obtain ⟨π, nr, ng, nb, t, ht, hc, hR, hw, hcb⟩ := id hS
  have hc14 := hJ.c14
  have k := k6_pay σ π nr ng nb t g n c T M S B p0 hJ hc hw ht hcb
  rw [hR.eq] at k
  refine ⟨_, _, _, k, fun σ1 ha => ?_⟩
  obtain ⟨m1, hor⟩ := aftA hJ hS hM ha
  have km := k_pay σ1 g nr ng nb t c p0 m1.1 hw m1.2.2.2.2.1 hc14
  rw [m1.self] at km
  exact ⟨_, km, okA m1 hor (fun _ => m1.rem hc14 _ _) FK.rem rfl⟩
theorem op_pass (σ : Sg) (p0 : Int32) (hI : IV σ) : ∃ (cd val : Int32) (po : Sg → Prop), Ct yX6_pass cX6_pass mX6_pass 7 8 48 NN false σ [.ref 0, .int p0] NN (oX cd po val) (x2 σ cd eA eS) ∧ ∀ σ1, AFT σ σ1 cd val po → ∃ P, Ct yX7_pass cX7_pass mX7_pass 9 0 0 NN false σ1 [.ref 388, .int p0] NN P XF ∧ OKm σ1 cd val P := by
  obtain ⟨g, n, T, c, M, B, S, hJ, hS, hM⟩ := hI
  obtain ⟨π, nr, ng, nb, t, ht, hc, hR, hw, hcb⟩ := id hS
  have hc14 := hJ.c14
  have k := k6_pass σ π nr ng nb t g n c T M S B p0 hJ hc hw ht hcb
  rw [hR.eq] at k
  refine ⟨_, _, _, k, fun σ1 ha => ?_⟩
  obtain ⟨m1, hor⟩ := aftA hJ hS hM ha
  have km := k_pass σ1 g nr ng nb t c p0 m1.1 hw m1.2.2.2.2.1 hc14
  rw [m1.self] at km
  exact ⟨_, km, okA m1 hor (fun _ => m1.rem hc14 _ _) FK.rem rfl⟩
theorem op_undo (σ : Sg)  (hI : IV σ) : ∃ (cd val : Int32) (po : Sg → Prop), Ct yX6_undo cX6_undo mX6_undo 7 8 48 NN false σ [.ref 0] NN (oX cd po val) (x1 σ cd eS) ∧ ∀ σ1, AFT σ σ1 cd val po → ∃ P, Ct yX7_undo cX7_undo mX7_undo 3 0 0 NN false σ1 [.ref 388] NN P XF ∧ OKm σ1 cd val P := by
  obtain ⟨g, n, T, c, M, B, S, hJ, hS, hM⟩ := hI
  obtain ⟨π, nr, ng, nb, t, ht, hc, hR, hw, hcb⟩ := id hS
  have hc14 := hJ.c14
  have k := k6_undo σ π nr ng nb t g n c T M S B  hJ hc hw ht hcb
  rw [hR.eq] at k
  refine ⟨_, _, _, k, fun σ1 ha => ?_⟩
  obtain ⟨m1, hor⟩ := aftA hJ hS hM ha
  by_cases h0 : c = 0
  · have km := k_undo σ1 g c (fun j => σ1.1 393 (151 * (c - 1) + j)) m1.1 m1.2.2.2.2.1 hc14 (fun _ _ => rfl)
    rw [m1.self] at km
    exact ⟨_, km, okA m1 hor (fun z => absurd ((cd1_1 (fun y => y h0)).trans z) (by decide)) (((FK.refl.i (by decide)).a (by decide)).i (by decide) |>.a (by decide)) rfl⟩
  · have km := k_undo σ1 g c (M (c - 1)) m1.1 m1.2.2.2.2.1 hc14 (fun j hj => m1.2.2.2.2.2.1 (c - 1) (by omega) j hj)
    rw [m1.self] at km
    exact ⟨_, km, okA m1 hor (fun _ => m1.und h0 _) (((FK.refl.i (by decide)).a (by decide)).i (by decide) |>.a (by decide)) rfl⟩
theorem op_later (σ : Sg) (p0 : Int32) (p1 : Int32) (hI : IV σ) : ∃ (cd val : Int32) (po : Sg → Prop), Ct yX6_later cX6_later mX6_later 7 8 48 NN false σ [.ref 0, .int p0, .int p1] NN (oX cd po val) (x2 σ cd eI eA) ∧ ∀ σ1, AFT σ σ1 cd val po → ∃ P, Ct yX7_later cX7_later mX7_later 9 0 0 NN false σ1 [.ref 388, .int p0, .int p1] NN P XF ∧ OKm σ1 cd val P := by
  obtain ⟨g, n, T, c, M, B, S, hJ, hS, hM⟩ := hI
  obtain ⟨π, nr, ng, nb, t, ht, hc, hR, hw, hcb⟩ := id hS
  have hc14 := hJ.c14
  have k := k6_later σ π nr ng nb t g n c T M S B p0 p1 hJ hc hw ht hcb
  rw [hR.eq] at k
  refine ⟨_, _, _, k, fun σ1 ha => ?_⟩
  obtain ⟨j1, s1, m1⟩ := aftQ hJ hS hM ha
  have km := k_later σ1 g nr ng nb t p0 p1 m1.1 hw
  rw [m1.self] at km
  exact ⟨_, km, okX j1 s1 m1⟩
theorem op_begins (σ : Sg) (p0 : Int32) (hI : IV σ) : ∃ (cd val : Int32) (po : Sg → Prop), Ct yX6_begins cX6_begins mX6_begins 7 8 48 NN false σ [.ref 0, .int p0] NN (oX cd po val) (x1 σ cd eI) ∧ ∀ σ1, AFT σ σ1 cd val po → ∃ P, Ct yX7_begins cX7_begins mX7_begins 9 0 0 NN false σ1 [.ref 388, .int p0] NN P XF ∧ OKm σ1 cd val P := by
  obtain ⟨g, n, T, c, M, B, S, hJ, hS, hM⟩ := hI
  obtain ⟨π, nr, ng, nb, t, ht, hc, hR, hw, hcb⟩ := id hS
  have hc14 := hJ.c14
  have k := k6_begins σ π nr ng nb t g n c T M S B p0 hJ hc hw ht hcb
  rw [hR.eq] at k
  refine ⟨_, _, _, k, fun σ1 ha => ?_⟩
  obtain ⟨j1, s1, m1⟩ := aftQ hJ hS hM ha
  have km := k_begins σ1 g nr ng nb t p0 m1.1 hw (by omega)
  rw [m1.self] at km
  exact ⟨_, km, okX j1 s1 m1⟩
theorem op_cost (σ : Sg) (p0 : Int32) (p1 : Int32) (p2 : Int32) (p3 : Int32) (p4 : Int32) (hI : IV σ) : ∃ (cd val : Int32) (po : Sg → Prop), Ct yX6_cost cX6_cost mX6_cost 8 8 48 NN false σ [.ref 0, .int p0, .int p1, .int p2, .int p3, .int p4] NN (oX cd po val) (x2 σ cd eI eA) ∧ ∀ σ1, AFT σ σ1 cd val po → ∃ P, Ct yX7_cost cX7_cost mX7_cost 9 0 0 NN false σ1 [.ref 388, .int p0, .int p1, .int p2, .int p3, .int p4] NN P XF ∧ OKm σ1 cd val P := by
  obtain ⟨g, n, T, c, M, B, S, hJ, hS, hM⟩ := hI
  obtain ⟨π, nr, ng, nb, t, ht, hc, hR, hw, hcb⟩ := id hS
  have hc14 := hJ.c14
  have k := k6_cost σ π nr ng nb t g n c T M S B p0 p1 p2 p3 p4 hJ hc hw ht hcb
  rw [hR.eq] at k
  refine ⟨_, _, _, k, fun σ1 ha => ?_⟩
  obtain ⟨j1, s1, m1⟩ := aftQ hJ hS hM ha
  have km := k_cost σ1 g nr ng nb t p0 p1 p2 p3 p4 m1.1 hw (by omega)
  rw [m1.self] at km
  exact ⟨_, km, okX j1 s1 m1⟩
theorem op_willOwe (σ : Sg) (p0 : Int32) (hI : IV σ) : ∃ (cd val : Int32) (po : Sg → Prop), Ct yX6_willOwe cX6_willOwe mX6_willOwe 7 8 48 NN false σ [.ref 0, .int p0] NN (oX cd po val) (x1 σ cd eI) ∧ ∀ σ1, AFT σ σ1 cd val po → ∃ P, Ct yX7_willOwe cX7_willOwe mX7_willOwe 10 0 0 NN false σ1 [.ref 388, .int p0] NN P XF ∧ OKm σ1 cd val P := by
  obtain ⟨g, n, T, c, M, B, S, hJ, hS, hM⟩ := hI
  obtain ⟨π, nr, ng, nb, t, ht, hc, hR, hw, hcb⟩ := id hS
  have hc14 := hJ.c14
  have k := k6_willOwe σ π nr ng nb t g n c T M S B p0 hJ hc hw ht hcb
  rw [hR.eq] at k
  refine ⟨_, _, _, k, fun σ1 ha => ?_⟩
  obtain ⟨j1, s1, m1⟩ := aftQ hJ hS hM ha
  have km := k_willOwe σ1 g nr ng nb t p0 m1.1 hw (by omega)
  rw [m1.self] at km
  exact ⟨_, km, okX j1 s1 m1⟩
theorem op_runScript (σ : Sg) (p0 : Int32) (p1 : Int64) (hI : IV σ) : ∃ (cd val : Int32) (po : Sg → Prop), Ct yX6_runScript cX6_runScript mX6_runScript 7 8 48 NN false σ [.ref 0, .int p0, .long p1] NN (oX cd po val) (x1 σ cd eA) ∧ ∀ σ1, AFT σ σ1 cd val po → ∃ P, Ct yX7_runScript cX7_runScript mX7_runScript 10 0 0 NN false σ1 [.ref 388, .int p0, .long p1] NN P XF ∧ OKm σ1 cd val P := by
  obtain ⟨g, n, T, c, M, B, S, hJ, hS, hM⟩ := hI
  obtain ⟨π, nr, ng, nb, t, ht, hc, hR, hw, hcb⟩ := id hS
  have hc14 := hJ.c14
  have k := k6_runScript σ π nr ng nb t g n c T M S B p0 p1 hJ hc hw ht hcb
  rw [hR.eq] at k
  refine ⟨_, _, _, k, fun σ1 ha => ?_⟩
  obtain ⟨j1, s1, m1⟩ := aftQ hJ hS hM ha
  have km := k_runScript σ1 g nr ng nb t p0 p1 m1.1 hw (by omega)
  rw [m1.self] at km
  exact ⟨_, km, okX j1 s1 m1⟩
theorem op_simulate (σ : Sg) (p0 : Int64) (p1 : Int32) (hI : IV σ) : ∃ (cd val : Int32) (po : Sg → Prop), Ct yX6_simulate cX6_simulate mX6_simulate 7 8 48 NN false σ [.ref 0, .long p0, .int p1] NN (oX cd po val) (x1 σ cd eA) ∧ ∀ σ1, AFT σ σ1 cd val po → ∃ P, Ct yX7_simulate cX7_simulate mX7_simulate 10 0 0 NN false σ1 [.ref 388, .long p0, .int p1] NN P XF ∧ OKm σ1 cd val P := by
  obtain ⟨g, n, T, c, M, B, S, hJ, hS, hM⟩ := hI
  obtain ⟨π, nr, ng, nb, t, ht, hc, hR, hw, hcb⟩ := id hS
  have hc14 := hJ.c14
  have k := k6_simulate σ π nr ng nb t g n c T M S B p0 p1 hJ hc hw ht hcb
  rw [hR.eq] at k
  refine ⟨_, _, _, k, fun σ1 ha => ?_⟩
  obtain ⟨j1, s1, m1⟩ := aftQ hJ hS hM ha
  have km := k_simulate σ1 g nr ng nb t p0 p1 m1.1 hw
  rw [m1.self] at km
  exact ⟨_, km, okX j1 s1 m1⟩
theorem op_save (σ : Sg) (p0 : Int32) (hI : IV σ) : ∃ (cd val : Int32) (po : Sg → Prop), Ct yX6_save cX6_save mX6_save 7 8 48 NN false σ [.ref 0, .int p0] NN (oX cd po val) (x1 σ cd eI) ∧ ∀ σ1, AFT σ σ1 cd val po → ∃ P, Ct yX7_save cX7_save mX7_save 3 0 0 NN false σ1 [.ref 388, .int p0] NN P XF ∧ OKm σ1 cd val P := by
  obtain ⟨g, n, T, c, M, B, S, hJ, hS, hM⟩ := hI
  obtain ⟨π, nr, ng, nb, t, ht, hc, hR, hw, hcb⟩ := id hS
  have hc14 := hJ.c14
  have k := k6_save σ π nr ng nb t g n c T M S B p0 hJ hc hw ht hcb
  rw [hR.eq] at k
  refine ⟨_, _, _, k, fun σ1 ha => ?_⟩
  obtain ⟨m1, hor⟩ := aftA hJ hS hM ha
  have km := k_save σ1 g nr ng nb t p0 m1.1 hw
  rw [m1.self] at km
  refine ⟨_, km, okA m1 hor (fun z => m1.sav ?_ _) ((((FK.refl.i (by decide)).a (by decide)).a (by decide)).i (by decide)) rfl⟩
  have h := cd1_z (a := 0 ≤ p0 ∧ p0 ≤ 1) (by rw [z]; decide)
  obtain ⟨k, hk, rfl⟩ := Int32.rng (n := 1) (by omega) h.1 h.2
  rw [cN, nI_clamp (by omega)]
  omega
theorem op_restore (σ : Sg) (p0 : Int32) (hI : IV σ) : ∃ (cd val : Int32) (po : Sg → Prop), Ct yX6_restore cX6_restore mX6_restore 7 8 48 NN false σ [.ref 0, .int p0] NN (oX cd po val) (x2 σ cd eI eS) ∧ ∀ σ1, AFT σ σ1 cd val po → ∃ P, Ct yX7_restore cX7_restore mX7_restore 3 0 0 NN false σ1 [.ref 388, .int p0] NN P XF ∧ OKm σ1 cd val P := by
  obtain ⟨g, n, T, c, M, B, S, hJ, hS, hM⟩ := hI
  obtain ⟨π, nr, ng, nb, t, ht, hc, hR, hw, hcb⟩ := id hS
  have hc14 := hJ.c14
  have k := k6_restore σ π nr ng nb t g n c T M S B p0 hJ hc hw ht hcb
  rw [hR.eq] at k
  refine ⟨_, _, _, k, fun σ1 ha => ?_⟩
  obtain ⟨m1, hor⟩ := aftA hJ hS hM ha
  have hcn : 0 ≤ p0 ∧ p0 ≤ 1 → cN p0 < 2 := fun h => by
    obtain ⟨k, hk, rfl⟩ := Int32.rng (n := 1) (by omega) h.1 h.2
    rw [cN, nI_clamp (by omega)]
    omega
  have ecd : cd2 (0 ≤ p0 ∧ p0 ≤ 1) (¬ σ1.1 395 (cN p0) = 0) = cd2 (0 ≤ p0 ∧ p0 ≤ 1) (B (cN p0) = true) := by
    by_cases h : 0 ≤ p0 ∧ p0 ≤ 1
    · have e : (¬ σ1.1 395 (cN p0) = 0) = (B (cN p0) = true) := propext (by
        rw [m1.2.2.2.2.2.2.1 _ (hcn h)]
        cases B (cN p0) <;> decide)
      rw [e]
    · rw [← cd2_1 h, ← cd2_1 h]
  by_cases hb : cN p0 < 2 ∧ B (cN p0) = true
  · have km := k_restore σ1 g p0 (S (cN p0)) m1.1 (fun j hj => m1.2.2.2.2.2.2.2 _ hb.1 hb.2 j hj)
    rw [m1.self, ecd] at km
    exact ⟨_, km, okA m1 hor (fun _ => m1.res _ _) ((((FK.refl.i (by decide)).a (by decide)).a (by decide)).i (by decide)) rfl⟩
  · have km := k_restore σ1 g p0 (fun j => σ1.1 394 (151 * cN p0 + j)) m1.1 (fun _ _ => rfl)
    rw [m1.self, ecd] at km
    exact ⟨_, km, okN m1 hor (fun z => absurd (cd2_z (by rw [z]; decide)) (fun h => hb ⟨hcn h.1, h.2⟩))⟩
theorem op_clearText (σ : Sg) (hI : IV σ) : ∃ (val : Int32) (po : Sg → Prop), Ct yX6_clearText cX6_clearText mX6_clearText 1 0 0 NN false σ [.ref 0] NN (oX 0 po val) XF ∧ ∀ σ1, po σ1 → ∃ P, Ct yX7_clearText cX7_clearText mX7_clearText 1 0 0 NN false σ1 [.ref 388] NN P XF ∧ ∀ σ2 r, P σ2 r → ∃ v, r = some (.int v) ∧ IV σ2 ∧ val = v := by
  obtain ⟨g, n, T, c, M, B, S, hJ, hS, hM⟩ := hI
  obtain ⟨π, nr, ng, nb, t, ht, hc, hR, hw, hcb⟩ := id hS
  have hc14 := hJ.c14
  have k := k6_clearText σ π nr ng nb t g n c T M S B  hJ hc hw ht hcb
  rw [hR.eq] at k
  refine ⟨_, _, k, fun σ1 d => ?_⟩
  have m1 := hM.fm d.2.2
  have km := k_clearText σ1 g n m1.1 m1.2.2.1
  have m2 := m1.clr
  have fk : FK σ1 (sI (sI (sA σ1 391 g) 388 0 0) 388 2 0) := ((FK.refl.a (by decide)).i (by decide)).i (by decide)
  rw [m1.self] at km m2 fk
  refine ⟨_, km, fun σ2 r h => ?_⟩
  obtain ⟨v, rfl, rfl, h3⟩ := h
  exact ⟨v, rfl, ⟨g, 0, T, c, M, B, S, d.1.fk fk, d.2.1.fk fk (by decide), m2⟩, h3⟩
theorem op_errorPosition (σ : Sg) (hI : IV σ) : ∃ (val : Int32) (po : Sg → Prop), Ct yX6_errorPosition cX6_errorPosition mX6_errorPosition 7 0 0 NN false σ [.ref 0] NN (oX 0 po val) XF ∧ ∀ σ1, po σ1 → ∃ P, Ct yX7_errorPosition cX7_errorPosition mX7_errorPosition 8 0 0 NN false σ1 [.ref 388] NN P XF ∧ ∀ σ2 r, P σ2 r → ∃ v, r = some (.int v) ∧ IV σ2 ∧ val = v := by
  obtain ⟨g, n, T, c, M, B, S, hJ, hS, hM⟩ := hI
  obtain ⟨π, nr, ng, nb, t, ht, hc, hR, hw, hcb⟩ := id hS
  have hc14 := hJ.c14
  have k := k6_errorPosition σ π nr ng nb t g n c T M S B (σ.1 390) hJ hc hw ht hcb
  rw [hR.eq] at k
  refine ⟨_, _, k, fun σ1 d => ?_⟩
  have m1 := hM.fm d.fr
  have km := k_errorPosition σ1 g n m1.1 m1.2.2.1 hJ.2.2.1.2.1
  rw [m1.self, m1.2.2.2.1, show σ1.1 390 = σ.1 390 from funext fun j => d.fr.1 _ _ (by decide)] at km
  refine ⟨_, km, fun σ2 r h => ?_⟩
  obtain ⟨v, rfl, rfl, h3⟩ := h
  have fk : ∀ s e, FK σ1 (sA (pS (sI σ1 388 0 0) s e) 391 g) := fun s e => ((((FK.refl.i (by decide)).i (by decide)).i (by decide)).a (by decide)).a (by decide)
  exact ⟨v, rfl, ⟨g, n, T, c, M, B, S, (hJ.dg d).fk (fk _ _), (d.sa hS (by decide)).fk (fk _ _) (by decide), mi_err m1 _ _⟩, h3⟩
theorem op_coldest (σ : Sg) (hI : IV σ) : ∃ (val : Int32) (po : Sg → Prop), Ct yX6_coldest cX6_coldest mX6_coldest 7 0 0 NN false σ [.ref 0] NN (oX 0 po val) XF ∧ ∀ σ1, po σ1 → ∃ P, Ct yX7_coldest cX7_coldest mX7_coldest 10 0 0 NN false σ1 [.ref 388] NN P XF ∧ ∀ σ2 r, P σ2 r → ∃ v, r = some (.int v) ∧ IV σ2 ∧ val = v := by
  obtain ⟨g, n, T, c, M, B, S, hJ, hS, hM⟩ := hI
  obtain ⟨π, nr, ng, nb, t, ht, hc, hR, hw, hcb⟩ := id hS
  have hc14 := hJ.c14
  have k := k6_coldest σ π nr ng nb t g n c T M S B  hJ hc hw ht hcb
  rw [hR.eq] at k
  refine ⟨_, _, k, fun σ1 d => ?_⟩
  have m1 := hM.fm d.fr
  have km := k_coldest σ1 g nr ng nb t m1.1 hw (by omega)
  rw [m1.self] at km
  refine ⟨_, km, fun σ2 r h => ?_⟩
  obtain ⟨v, rfl, ⟨X, rfl⟩, h3⟩ := h
  exact ⟨v, rfl, ⟨g, n, T, c, M, B, S, ((hJ.dg d).fk FK.code).fk (FK.refl.a (by decide)), ((d.sa hS (by decide)).fk FK.code (by decide)).fk (FK.refl.a (by decide)) (by decide), (m1.code 0).t392 X⟩, h3⟩
