/-! an object between two calls, by what it stands for -/
abbrev AS : Type := Rw × Nat × Rw × Nat × (Nat → Rw) × (Nat → Bool) × (Nat → Rw)
abbrev stG (s : AS) : Rw := s.1
abbrev stN (s : AS) : Nat := s.2.1
abbrev stT (s : AS) : Rw := s.2.2.1
abbrev stC (s : AS) : Nat := s.2.2.2.1
abbrev stM (s : AS) : Nat → Rw := s.2.2.2.2.1
abbrev stB (s : AS) : Nat → Bool := s.2.2.2.2.2.1
abbrev stS (s : AS) : Nat → Rw := s.2.2.2.2.2.2
def rn (g : Rw) : Nat := cN (g 1)
def gn (g : Rw) : Nat := cN (g 2)
def bn (g : Rw) : Nat := cN (g 3)
def tn (g : Rw) : Nat := cN (g 0)
def CI (σ : Sg) (s : AS) : Prop := KJ σ (stN s) (stT s) (stC s) (stM s) (stB s) (stS s) ∧ SA σ 3 (stG s)
theorem CI.dg {σ τ : Sg} {s : AS} (h : CI σ s) (d : DG σ τ) : CI τ s := ⟨h.1.dg d, d.sa h.2 (by decide)⟩
theorem CI.pa {σ τ : Sg} {n c : Nat} {T : Rw} {M S : Nat → Rw} {B : Nat → Bool} {g : Rw} (h : PA σ n T c M B S g τ) : CI τ (g, n, T, c, M, B, S) := ⟨h.1, h.2.1⟩
theorem WF.nums {g : Rw} {nr ng nb t : Nat} (h : WF g nr ng nb t) (ht : t < 2 ^ 31) : rn g = nr ∧ gn g = ng ∧ bn g = nb ∧ tn g = t := by
  have h4 := h.nr4
  have h6 := h.ng6
  have h12 := h.nb12
  refine ⟨?_, ?_, ?_, ?_⟩
  · rw [rn, cN, h.nr, nI_clamp (by omega)]
  · rw [gn, cN, h.ng, nI_clamp (by omega)]
  · rw [bn, cN, h.nb, nI_clamp (by omega)]
  · rw [tn, cN, h.hr, nI_clamp ht]
theorem CI.wf {σ : Sg} {s : AS} (h : CI σ s) : ∃ π, HC σ 3 π ∧ sH σ 3 π (rn (stG s)) (gn (stG s)) (bn (stG s)) (stG s) = σ ∧ WF (stG s) (rn (stG s)) (gn (stG s)) (bn (stG s)) (tn (stG s)) ∧ tn (stG s) ≤ 240 ∧ CB (stG s) (bn (stG s)) (4 * tn (stG s)) := by
  obtain ⟨π, nr, ng, nb, t, ht, hc, hR, hw, hcb⟩ := h.2
  obtain ⟨e1, e2, e3, e4⟩ := hw.nums (by omega)
  rw [e1, e2, e3, e4]
  exact ⟨π, hc, hR.eq, hw, ht, hcb⟩
theorem CI.n120 {σ : Sg} {s : AS} (h : CI σ s) : stN s ≤ 120 := h.1.2.2.1.2.1
theorem CI.c14 {σ : Sg} {s : AS} (h : CI σ s) : stC s ≤ 14 := by
  obtain ⟨p, -, h1, -⟩ := h.1.2.2.2.1
  exact h1
/-- what is thrown, behind what -/
def z1 (px : Sg → Prop) (c : Int32) (e : String) : XT := fun σ' E => px σ' ∧ c = 1 ∧ E = e
def z2 (px : Sg → Prop) (c : Int32) (e f : String) : XT := fun σ' E => px σ' ∧ ((c = 1 ∧ E = e) ∨ (c = 2 ∧ E = f))
def z3 (px : Sg → Prop) (c : Int32) (e f k : String) : XT := fun σ' E => px σ' ∧ ((c = 1 ∧ E = e) ∨ (c = 2 ∧ E = f) ∨ (c = 3 ∧ E = k))
def kI : Int64 := -9000000000000000001
def kA : Int64 := -9000000000000000002
def kS_ : Int64 := -9000000000000000003
def av1 (k1 : Int64) (cd val : Int32) : Int64 := if cd = 0 then val.toInt64 else k1
def av2 (k1 k2 : Int64) (cd val : Int32) : Int64 := if cd = 0 then val.toInt64 else if cd = 1 then k1 else k2
def av3 (k1 k2 k3 : Int64) (cd val : Int32) : Int64 := if cd = 0 then val.toInt64 else if cd = 1 then k1 else if cd = 2 then k2 else k3
def wX (cd : Int32) (po px : Sg → Prop) (V : Int64) : PT := rL fun σ' v => V = v ∧ ((cd = 0 ∧ po σ') ∨ (¬ cd = 0 ∧ px σ'))
theorem wX1_0 {cd val : Int32} {po px : Sg → Prop} {k1 : Int64} {τ : Sg} (h : cd = 0) (hp : po τ) : wX cd po px (av1 k1 cd val) τ (some (.long val.toInt64)) := ⟨_, rfl, by rw [av1, if_pos h], Or.inl ⟨h, hp⟩⟩
theorem wX1_1 {cd val : Int32} {po px : Sg → Prop} {k1 : Int64} {τ : Sg} (h : cd = 1) (hp : px τ) : wX cd po px (av1 k1 cd val) τ (some (.long k1)) := ⟨_, rfl, by rw [av1, h]; rfl, Or.inr ⟨by rw [h]; decide, hp⟩⟩
theorem wX2_0 {cd val : Int32} {po px : Sg → Prop} {k1 k2 : Int64} {τ : Sg} (h : cd = 0) (hp : po τ) : wX cd po px (av2 k1 k2 cd val) τ (some (.long val.toInt64)) := ⟨_, rfl, by rw [av2, if_pos h], Or.inl ⟨h, hp⟩⟩
theorem wX2_1 {cd val : Int32} {po px : Sg → Prop} {k1 k2 : Int64} {τ : Sg} (h : cd = 1) (hp : px τ) : wX cd po px (av2 k1 k2 cd val) τ (some (.long k1)) := ⟨_, rfl, by rw [av2, h]; rfl, Or.inr ⟨by rw [h]; decide, hp⟩⟩
theorem wX2_2 {cd val : Int32} {po px : Sg → Prop} {k1 k2 : Int64} {τ : Sg} (h : cd = 2) (hp : px τ) : wX cd po px (av2 k1 k2 cd val) τ (some (.long k2)) := ⟨_, rfl, by rw [av2, h]; rfl, Or.inr ⟨by rw [h]; decide, hp⟩⟩
theorem wX3_0 {cd val : Int32} {po px : Sg → Prop} {k1 k2 k3 : Int64} {τ : Sg} (h : cd = 0) (hp : po τ) : wX cd po px (av3 k1 k2 k3 cd val) τ (some (.long val.toInt64)) := ⟨_, rfl, by rw [av3, if_pos h], Or.inl ⟨h, hp⟩⟩
theorem wX3_1 {cd val : Int32} {po px : Sg → Prop} {k1 k2 k3 : Int64} {τ : Sg} (h : cd = 1) (hp : px τ) : wX cd po px (av3 k1 k2 k3 cd val) τ (some (.long k1)) := ⟨_, rfl, by rw [av3, h]; rfl, Or.inr ⟨by rw [h]; decide, hp⟩⟩
theorem wX3_2 {cd val : Int32} {po px : Sg → Prop} {k1 k2 k3 : Int64} {τ : Sg} (h : cd = 2) (hp : px τ) : wX cd po px (av3 k1 k2 k3 cd val) τ (some (.long k2)) := ⟨_, rfl, by rw [av3, h]; rfl, Or.inr ⟨by rw [h]; decide, hp⟩⟩
theorem wX3_3 {cd val : Int32} {po px : Sg → Prop} {k1 k2 k3 : Int64} {τ : Sg} (h : cd = 3) (hp : px τ) : wX cd po px (av3 k1 k2 k3 cd val) τ (some (.long k3)) := ⟨_, rfl, by rw [av3, h]; rfl, Or.inr ⟨by rw [h]; decide, hp⟩⟩
abbrev g00 : Rw := fun _ => 0
noncomputable def cAppend (s : AS) (v : Int32) : Int32 := (cd2 (0 ≤ v ∧ v ≤ 255) (stN s < 120))
noncomputable def wAppend (s : AS) (v : Int32) : Int32 := (nI (stN s) + 1)
noncomputable def vAppend (s : AS) (v : Int32) : Int64 := av2 kA kS_ (cAppend s v) (wAppend s v)
noncomputable def aAppend (s : AS) (v : Int32) : AS := if cAppend s v = 0 then (stG s, stN s + 1, upd (stT s) (stN s) v, stC s, stM s, stB s, stS s) else s
theorem q6_append {σ : Sg} {s : AS} (hI : CI σ s) (v : Int32) : Ct yX6_append cX6_append mX6_append 7 8 48 NN false σ [.ref 0, .int v] NN (oX (cAppend s v) (fun τ => CI τ (stG s, stN s + 1, upd (stT s) (stN s) v, stC s, stM s, stB s, stS s)) (wAppend s v)) (z2 (fun τ => CI τ s) (cAppend s v) eA eS) := by
  obtain ⟨π, hc, hs, hw, ht, hcb⟩ := hI.wf
  have h := k6_append σ π _ _ _ _ _ _ _ _ _ _ _  v  hI.1 hc hw ht hcb
  rw [hs] at h
  exact h.mono (fun ρ r ⟨v, e, h0, hp, hv⟩ => ⟨v, e, h0, CI.pa hp, hv⟩) (fun ρ E ⟨hd, hx⟩ => ⟨hI.dg hd, hx⟩)
noncomputable def cLoad (s : AS)  : Int32 := (cd1 ((pText (stT s) (stN s) (fClean g00)).1.2 = true))
noncomputable def wLoad (s : AS)  : Int32 := ((pText (stT s) (stN s) (fClean g00)).2.1 1)
noncomputable def vLoad (s : AS)  : Int64 := av1 kS_ (cLoad s ) (wLoad s )
noncomputable def aLoad (s : AS)  : AS := if cLoad s  = 0 then ((pText (stT s) (stN s) (fClean g00)).2.1, stN s, stT s, 0, stM s, (fun _ => false), stS s) else s
theorem q6_load {σ : Sg} {s : AS} (hI : CI σ s)  : Ct yX6_load cX6_load mX6_load 7 8 48 NN false σ [.ref 0] NN (oX (cLoad s ) (fun τ => CI τ ((pText (stT s) (stN s) (fClean g00)).2.1, stN s, stT s, 0, stM s, (fun _ => false), stS s)) (wLoad s )) (z1 (fun τ => CI τ s) (cLoad s ) eS) := by
  obtain ⟨π, hc, hs, hw, ht, hcb⟩ := hI.wf
  have h := k6_load σ π _ _ _ _ _ _ _ _ _ _ _ g00   hI.1 hc hw ht hcb
  rw [hs] at h
  exact h.mono (fun ρ r ⟨v, e, h0, hp, hv⟩ => ⟨v, e, h0, CI.pa hp, hv⟩) (fun ρ E ⟨hd, hx⟩ => ⟨hI.dg hd, hx⟩)
noncomputable def cAbout (s : AS) (k : Int32) : Int32 := (cd1 (0 ≤ k ∧ k ≤ 9))
noncomputable def wAbout (s : AS) (k : Int32) : Int32 := (aboutV (stG s) (cN k))
noncomputable def vAbout (s : AS) (k : Int32) : Int64 := av1 kA (cAbout s k) (wAbout s k)
theorem q6_about {σ : Sg} {s : AS} (hI : CI σ s) (k : Int32) : Ct yX6_about cX6_about mX6_about 7 8 48 NN false σ [.ref 0, .int k] NN (oX (cAbout s k) (fun τ => CI τ s) (wAbout s k)) (z1 (fun τ => CI τ s) (cAbout s k) eA) := by
  obtain ⟨π, hc, hs, hw, ht, hcb⟩ := hI.wf
  have h := k6_about σ π _ _ _ _ _ _ _ _ _ _ _  k  hI.1 hc hw ht hcb
  rw [hs] at h
  exact h.mono (fun ρ r ⟨v, e, h0, hp, hv⟩ => ⟨v, e, h0, hI.dg (hs ▸ hp), hv⟩) (fun ρ E ⟨hd, hx⟩ => ⟨hI.dg hd, hx⟩)
noncomputable def cRoom (s : AS) (r : Int32) (k : Int32) : Int32 := (cd2 (isN r (rn (stG s))) (0 ≤ k ∧ k ≤ 6))
noncomputable def wRoom (s : AS) (r : Int32) (k : Int32) : Int32 := (roomV (stG s) (bn (stG s)) (cN r) (cN k))
noncomputable def vRoom (s : AS) (r : Int32) (k : Int32) : Int64 := av2 kI kA (cRoom s r k) (wRoom s r k)
theorem q6_room {σ : Sg} {s : AS} (hI : CI σ s) (r : Int32) (k : Int32) : Ct yX6_room cX6_room mX6_room 7 8 48 NN false σ [.ref 0, .int r, .int k] NN (oX (cRoom s r k) (fun τ => CI τ s) (wRoom s r k)) (z2 (fun τ => CI τ s) (cRoom s r k) eI eA) := by
  obtain ⟨π, hc, hs, hw, ht, hcb⟩ := hI.wf
  have h := k6_room σ π _ _ _ _ _ _ _ _ _ _ _  r k  hI.1 hc hw ht hcb
  rw [hs] at h
  exact h.mono (fun ρ r ⟨v, e, h0, hp, hv⟩ => ⟨v, e, h0, hI.dg (hs ▸ hp), hv⟩) (fun ρ E ⟨hd, hx⟩ => ⟨hI.dg hd, hx⟩)
noncomputable def cOwes (s : AS) (w : Int32) : Int32 := (cd1 (isN w (gn (stG s))))
noncomputable def wOwes (s : AS) (w : Int32) : Int32 := (stG s (25 + cN w))
noncomputable def vOwes (s : AS) (w : Int32) : Int64 := av1 kI (cOwes s w) (wOwes s w)
theorem q6_owes {σ : Sg} {s : AS} (hI : CI σ s) (w : Int32) : Ct yX6_owes cX6_owes mX6_owes 7 8 48 NN false σ [.ref 0, .int w] NN (oX (cOwes s w) (fun τ => CI τ s) (wOwes s w)) (z1 (fun τ => CI τ s) (cOwes s w) eI) := by
  obtain ⟨π, hc, hs, hw, ht, hcb⟩ := hI.wf
  have h := k6_owes σ π _ _ _ _ _ _ _ _ _ _ _  w  hI.1 hc hw ht hcb
  rw [hs] at h
  exact h.mono (fun ρ r ⟨v, e, h0, hp, hv⟩ => ⟨v, e, h0, hI.dg (hs ▸ hp), hv⟩) (fun ρ E ⟨hd, hx⟩ => ⟨hI.dg hd, hx⟩)
noncomputable def cBooking (s : AS) (b : Int32) (k : Int32) : Int32 := (cd2 (isN b (bn (stG s))) (0 ≤ k ∧ k ≤ 9))
noncomputable def wBooking (s : AS) (b : Int32) (k : Int32) : Int32 := (bookV (stG s) (cN b) (cN k))
noncomputable def vBooking (s : AS) (b : Int32) (k : Int32) : Int64 := av2 kI kA (cBooking s b k) (wBooking s b k)
theorem q6_booking {σ : Sg} {s : AS} (hI : CI σ s) (b : Int32) (k : Int32) : Ct yX6_booking cX6_booking mX6_booking 7 8 48 NN false σ [.ref 0, .int b, .int k] NN (oX (cBooking s b k) (fun τ => CI τ s) (wBooking s b k)) (z2 (fun τ => CI τ s) (cBooking s b k) eI eA) := by
  obtain ⟨π, hc, hs, hw, ht, hcb⟩ := hI.wf
  have h := k6_booking σ π _ _ _ _ _ _ _ _ _ _ _  b k  hI.1 hc hw ht hcb
  rw [hs] at h
  exact h.mono (fun ρ r ⟨v, e, h0, hp, hv⟩ => ⟨v, e, h0, hI.dg (hs ▸ hp), hv⟩) (fun ρ E ⟨hd, hx⟩ => ⟨hI.dg hd, hx⟩)
noncomputable def cAddRoom (s : AS) (a : Int32) (l : Int32) (p : Int32) (t0 : Int32) : Int32 := (cd2 ((1 ≤ a ∧ a ≤ 9) ∧ (1 ≤ l ∧ l ≤ 9) ∧ (1 ≤ p ∧ p ≤ 9) ∧ -10 ≤ t0 ∧ t0 ≤ 30) ((rn (stG s)) < 4))
noncomputable def wAddRoom (s : AS) (a : Int32) (l : Int32) (p : Int32) (t0 : Int32) : Int32 := (nI (rn (stG s)))
noncomputable def vAddRoom (s : AS) (a : Int32) (l : Int32) (p : Int32) (t0 : Int32) : Int64 := av2 kA kS_ (cAddRoom s a l p t0) (wAddRoom s a l p t0)
noncomputable def aAddRoom (s : AS) (a : Int32) (l : Int32) (p : Int32) (t0 : Int32) : AS := if cAddRoom s a l p t0 = 0 then (fAddRoom (stG s) (rn (stG s)) a l p t0, stN s, stT s, remA (stC s), remM (stM s) (stC s) (stG s), stB s, stS s) else s
theorem q6_addRoom {σ : Sg} {s : AS} (hI : CI σ s) (a : Int32) (l : Int32) (p : Int32) (t0 : Int32) : Ct yX6_addRoom cX6_addRoom mX6_addRoom 7 8 48 NN false σ [.ref 0, .int a, .int l, .int p, .int t0] NN (oX (cAddRoom s a l p t0) (fun τ => CI τ (fAddRoom (stG s) (rn (stG s)) a l p t0, stN s, stT s, remA (stC s), remM (stM s) (stC s) (stG s), stB s, stS s)) (wAddRoom s a l p t0)) (z2 (fun τ => CI τ s) (cAddRoom s a l p t0) eA eS) := by
  obtain ⟨π, hc, hs, hw, ht, hcb⟩ := hI.wf
  have h := k6_addRoom σ π _ _ _ _ _ _ _ _ _ _ _  a l p t0  hI.1 hc hw ht hcb
  rw [hs] at h
  exact h.mono (fun ρ r ⟨v, e, h0, hp, hv⟩ => ⟨v, e, h0, CI.pa hp, hv⟩) (fun ρ E ⟨hd, hx⟩ => ⟨hI.dg hd, hx⟩)
noncomputable def cAddGroup (s : AS)  : Int32 := (cd1 ((gn (stG s)) < 6))
noncomputable def wAddGroup (s : AS)  : Int32 := (nI (gn (stG s)))
noncomputable def vAddGroup (s : AS)  : Int64 := av1 kS_ (cAddGroup s ) (wAddGroup s )
noncomputable def aAddGroup (s : AS)  : AS := if cAddGroup s  = 0 then (fAddGroup (stG s) (gn (stG s)), stN s, stT s, remA (stC s), remM (stM s) (stC s) (stG s), stB s, stS s) else s
theorem q6_addGroup {σ : Sg} {s : AS} (hI : CI σ s)  : Ct yX6_addGroup cX6_addGroup mX6_addGroup 7 8 48 NN false σ [.ref 0] NN (oX (cAddGroup s ) (fun τ => CI τ (fAddGroup (stG s) (gn (stG s)), stN s, stT s, remA (stC s), remM (stM s) (stC s) (stG s), stB s, stS s)) (wAddGroup s )) (z1 (fun τ => CI τ s) (cAddGroup s ) eS) := by
  obtain ⟨π, hc, hs, hw, ht, hcb⟩ := hI.wf
  have h := k6_addGroup σ π _ _ _ _ _ _ _ _ _ _ _    hI.1 hc hw ht hcb
  rw [hs] at h
  exact h.mono (fun ρ r ⟨v, e, h0, hp, hv⟩ => ⟨v, e, h0, CI.pa hp, hv⟩) (fun ρ E ⟨hd, hx⟩ => ⟨hI.dg hd, hx⟩)
noncomputable def cBook (s : AS) (r : Int32) (w : Int32) (f : Int32) (h : Int32) (t0 : Int32) : Int32 := (cd3 (isN r (rn (stG s)) ∧ isN w (gn (stG s))) (sound (stG s) f h t0) ((bn (stG s)) < 12 ∧ fFree (stG s) r f h (bn (stG s))))
noncomputable def wBook (s : AS) (r : Int32) (w : Int32) (f : Int32) (h : Int32) (t0 : Int32) : Int32 := (nI (bn (stG s)))
noncomputable def vBook (s : AS) (r : Int32) (w : Int32) (f : Int32) (h : Int32) (t0 : Int32) : Int64 := av3 kI kA kS_ (cBook s r w f h t0) (wBook s r w f h t0)
noncomputable def aBook (s : AS) (r : Int32) (w : Int32) (f : Int32) (h : Int32) (t0 : Int32) : AS := if cBook s r w f h t0 = 0 then (fBookTo (stG s) (bn (stG s)) r w f h t0, stN s, stT s, remA (stC s), remM (stM s) (stC s) (stG s), stB s, stS s) else s
theorem q6_book {σ : Sg} {s : AS} (hI : CI σ s) (r : Int32) (w : Int32) (f : Int32) (h : Int32) (t0 : Int32) : Ct yX6_book cX6_book mX6_book 8 8 48 NN false σ [.ref 0, .int r, .int w, .int f, .int h, .int t0] NN (oX (cBook s r w f h t0) (fun τ => CI τ (fBookTo (stG s) (bn (stG s)) r w f h t0, stN s, stT s, remA (stC s), remM (stM s) (stC s) (stG s), stB s, stS s)) (wBook s r w f h t0)) (z3 (fun τ => CI τ s) (cBook s r w f h t0) eI eA eS) := by
  obtain ⟨π, hc, hs, hw, ht, hcb⟩ := hI.wf
  have h := k6_book σ π _ _ _ _ _ _ _ _ _ _ _  r w f h t0  hI.1 hc hw ht hcb
  rw [hs] at h
  exact h.mono (fun ρ r ⟨v, e, h0, hp, hv⟩ => ⟨v, e, h0, CI.pa hp, hv⟩) (fun ρ E ⟨hd, hx⟩ => ⟨hI.dg hd, hx⟩)
noncomputable def cCancel (s : AS) (b : Int32) : Int32 := (cd2 (isN b (bn (stG s))) (goesP (stG s) (cN b)))
noncomputable def wCancel (s : AS) (b : Int32) : Int32 := (fDrop (stG s) (cN b) 3)
noncomputable def vCancel (s : AS) (b : Int32) : Int64 := av2 kI kS_ (cCancel s b) (wCancel s b)
noncomputable def aCancel (s : AS) (b : Int32) : AS := if cCancel s b = 0 then (fDrop (stG s) (cN b), stN s, stT s, remA (stC s), remM (stM s) (stC s) (stG s), stB s, stS s) else s
theorem q6_cancel {σ : Sg} {s : AS} (hI : CI σ s) (b : Int32) : Ct yX6_cancel cX6_cancel mX6_cancel 7 8 48 NN false σ [.ref 0, .int b] NN (oX (cCancel s b) (fun τ => CI τ (fDrop (stG s) (cN b), stN s, stT s, remA (stC s), remM (stM s) (stC s) (stG s), stB s, stS s)) (wCancel s b)) (z2 (fun τ => CI τ s) (cCancel s b) eI eS) := by
  obtain ⟨π, hc, hs, hw, ht, hcb⟩ := hI.wf
  have h := k6_cancel σ π _ _ _ _ _ _ _ _ _ _ _  b  hI.1 hc hw ht hcb
  rw [hs] at h
  exact h.mono (fun ρ r ⟨v, e, h0, hp, hv⟩ => ⟨v, e, h0, CI.pa hp, hv⟩) (fun ρ E ⟨hd, hx⟩ => ⟨hI.dg hd, hx⟩)
noncomputable def cProve (s : AS) (r : Int32) (is : Int32) : Int32 := (cd2 (isN r (rn (stG s))) (∃ b, fCur (stG s) (cN r) (bn (stG s)) = some b))
noncomputable def wProve (s : AS) (r : Int32) (is : Int32) : Int32 := (oI (fCur (stG s) (cN r) (bn (stG s))))
noncomputable def vProve (s : AS) (r : Int32) (is : Int32) : Int64 := av2 kI kS_ (cProve s r is) (wProve s r is)
noncomputable def aProve (s : AS) (r : Int32) (is : Int32) : AS := if cProve s r is = 0 then (fPr (stG s) (bn (stG s)) (cN r) is, stN s, stT s, remA (stC s), remM (stM s) (stC s) (stG s), stB s, stS s) else s
theorem q6_prove {σ : Sg} {s : AS} (hI : CI σ s) (r : Int32) (is : Int32) (his : is = 0 ∨ is = 1) : Ct yX6_prove cX6_prove mX6_prove 7 8 48 NN false σ [.ref 0, .int r, .int is] NN (oX (cProve s r is) (fun τ => CI τ (fPr (stG s) (bn (stG s)) (cN r) is, stN s, stT s, remA (stC s), remM (stM s) (stC s) (stG s), stB s, stS s)) (wProve s r is)) (z2 (fun τ => CI τ s) (cProve s r is) eI eS) := by
  obtain ⟨π, hc, hs, hw, ht, hcb⟩ := hI.wf
  have h := k6_prove σ π _ _ _ _ _ _ _ _ _ _ _  r is his hI.1 hc hw ht hcb
  rw [hs] at h
  exact h.mono (fun ρ r ⟨v, e, h0, hp, hv⟩ => ⟨v, e, h0, CI.pa hp, hv⟩) (fun ρ E ⟨hd, hx⟩ => ⟨hI.dg hd, hx⟩)
noncomputable def cOutside (s : AS) (t0 : Int32) : Int32 := (cd1 (-20 ≤ t0 ∧ t0 ≤ 25))
noncomputable def wOutside (s : AS) (t0 : Int32) : Int32 := (stG s 4)
noncomputable def vOutside (s : AS) (t0 : Int32) : Int64 := av1 kA (cOutside s t0) (wOutside s t0)
noncomputable def aOutside (s : AS) (t0 : Int32) : AS := if cOutside s t0 = 0 then (upd (stG s) 4 t0, stN s, stT s, remA (stC s), remM (stM s) (stC s) (stG s), stB s, stS s) else s
theorem q6_outside {σ : Sg} {s : AS} (hI : CI σ s) (t0 : Int32) : Ct yX6_outside cX6_outside mX6_outside 7 8 48 NN false σ [.ref 0, .int t0] NN (oX (cOutside s t0) (fun τ => CI τ (upd (stG s) 4 t0, stN s, stT s, remA (stC s), remM (stM s) (stC s) (stG s), stB s, stS s)) (wOutside s t0)) (z1 (fun τ => CI τ s) (cOutside s t0) eA) := by
  obtain ⟨π, hc, hs, hw, ht, hcb⟩ := hI.wf
  have h := k6_outside σ π _ _ _ _ _ _ _ _ _ _ _  t0  hI.1 hc hw ht hcb
  rw [hs] at h
  exact h.mono (fun ρ r ⟨v, e, h0, hp, hv⟩ => ⟨v, e, h0, CI.pa hp, hv⟩) (fun ρ E ⟨hd, hx⟩ => ⟨hI.dg hd, hx⟩)
noncomputable def cPay (s : AS) (w : Int32) : Int32 := (cd1 (isN w (gn (stG s))))
noncomputable def wPay (s : AS) (w : Int32) : Int32 := (stG s (25 + cN w))
noncomputable def vPay (s : AS) (w : Int32) : Int64 := av1 kI (cPay s w) (wPay s w)
noncomputable def aPay (s : AS) (w : Int32) : AS := if cPay s w = 0 then (upd (stG s) (25 + cN w) 0, stN s, stT s, remA (stC s), remM (stM s) (stC s) (stG s), stB s, stS s) else s
theorem q6_pay {σ : Sg} {s : AS} (hI : CI σ s) (w : Int32) : Ct yX6_pay cX6_pay mX6_pay 7 8 48 NN false σ [.ref 0, .int w] NN (oX (cPay s w) (fun τ => CI τ (upd (stG s) (25 + cN w) 0, stN s, stT s, remA (stC s), remM (stM s) (stC s) (stG s), stB s, stS s)) (wPay s w)) (z1 (fun τ => CI τ s) (cPay s w) eI) := by
  obtain ⟨π, hc, hs, hw, ht, hcb⟩ := hI.wf
  have h := k6_pay σ π _ _ _ _ _ _ _ _ _ _ _  w  hI.1 hc hw ht hcb
  rw [hs] at h
  exact h.mono (fun ρ r ⟨v, e, h0, hp, hv⟩ => ⟨v, e, h0, CI.pa hp, hv⟩) (fun ρ E ⟨hd, hx⟩ => ⟨hI.dg hd, hx⟩)
noncomputable def cPass (s : AS) (h : Int32) : Int32 := (cd2 (1 ≤ h ∧ h ≤ 48) (stG s 0 + h ≤ 240))
noncomputable def wPass (s : AS) (h : Int32) : Int32 := (fHours (stG s) (rn (stG s)) (bn (stG s)) (cN h) 5 - stG s 5)
noncomputable def vPass (s : AS) (h : Int32) : Int64 := av2 kA kS_ (cPass s h) (wPass s h)
noncomputable def aPass (s : AS) (h : Int32) : AS := if cPass s h = 0 then (fHours (stG s) (rn (stG s)) (bn (stG s)) (cN h), stN s, stT s, remA (stC s), remM (stM s) (stC s) (stG s), stB s, stS s) else s
theorem q6_pass {σ : Sg} {s : AS} (hI : CI σ s) (h : Int32) : Ct yX6_pass cX6_pass mX6_pass 7 8 48 NN false σ [.ref 0, .int h] NN (oX (cPass s h) (fun τ => CI τ (fHours (stG s) (rn (stG s)) (bn (stG s)) (cN h), stN s, stT s, remA (stC s), remM (stM s) (stC s) (stG s), stB s, stS s)) (wPass s h)) (z2 (fun τ => CI τ s) (cPass s h) eA eS) := by
  obtain ⟨π, hc, hs, hw, ht, hcb⟩ := hI.wf
  have h := k6_pass σ π _ _ _ _ _ _ _ _ _ _ _  h  hI.1 hc hw ht hcb
  rw [hs] at h
  exact h.mono (fun ρ r ⟨v, e, h0, hp, hv⟩ => ⟨v, e, h0, CI.pa hp, hv⟩) (fun ρ E ⟨hd, hx⟩ => ⟨hI.dg hd, hx⟩)
noncomputable def cUndo (s : AS)  : Int32 := (cd1 (stC s ≠ 0))
noncomputable def wUndo (s : AS)  : Int32 := (nI (stC s - 1))
noncomputable def vUndo (s : AS)  : Int64 := av1 kS_ (cUndo s ) (wUndo s )
noncomputable def aUndo (s : AS)  : AS := if cUndo s  = 0 then (stM s (stC s - 1), stN s, stT s, stC s - 1, stM s, stB s, stS s) else s
theorem q6_undo {σ : Sg} {s : AS} (hI : CI σ s)  : Ct yX6_undo cX6_undo mX6_undo 7 8 48 NN false σ [.ref 0] NN (oX (cUndo s ) (fun τ => CI τ (stM s (stC s - 1), stN s, stT s, stC s - 1, stM s, stB s, stS s)) (wUndo s )) (z1 (fun τ => CI τ s) (cUndo s ) eS) := by
  obtain ⟨π, hc, hs, hw, ht, hcb⟩ := hI.wf
  have h := k6_undo σ π _ _ _ _ _ _ _ _ _ _ _    hI.1 hc hw ht hcb
  rw [hs] at h
  exact h.mono (fun ρ r ⟨v, e, h0, hp, hv⟩ => ⟨v, e, h0, CI.pa hp, hv⟩) (fun ρ E ⟨hd, hx⟩ => ⟨hI.dg hd, hx⟩)
noncomputable def cLater (s : AS) (r : Int32) (h : Int32) : Int32 := (cd2 (isN r (rn (stG s))) (0 ≤ h ∧ h ≤ 48))
noncomputable def wLater (s : AS) (r : Int32) (h : Int32) : Int32 := (fHours (stG s) (rn (stG s)) (bn (stG s)) (cN h) (9 + 4 * cN r + 3))
noncomputable def vLater (s : AS) (r : Int32) (h : Int32) : Int64 := av2 kI kA (cLater s r h) (wLater s r h)
theorem q6_later {σ : Sg} {s : AS} (hI : CI σ s) (r : Int32) (h : Int32) : Ct yX6_later cX6_later mX6_later 7 8 48 NN false σ [.ref 0, .int r, .int h] NN (oX (cLater s r h) (fun τ => CI τ s) (wLater s r h)) (z2 (fun τ => CI τ s) (cLater s r h) eI eA) := by
  obtain ⟨π, hc, hs, hw, ht, hcb⟩ := hI.wf
  have h := k6_later σ π _ _ _ _ _ _ _ _ _ _ _  r h  hI.1 hc hw ht hcb
  rw [hs] at h
  exact h.mono (fun ρ r ⟨v, e, h0, hp, hv⟩ => ⟨v, e, h0, hI.dg (hs ▸ hp), hv⟩) (fun ρ E ⟨hd, hx⟩ => ⟨hI.dg hd, hx⟩)
noncomputable def cBegins (s : AS) (b : Int32) : Int32 := (cd1 (isN b (bn (stG s))))
noncomputable def wBegins (s : AS) (b : Int32) : Int32 := (fBeg (stG s) (rn (stG s)) (bn (stG s)) (cN (stG s (31 + 10 * cN b + 0))) (cN b) (fLeft (stG s) (cN b)))
noncomputable def vBegins (s : AS) (b : Int32) : Int64 := av1 kI (cBegins s b) (wBegins s b)
theorem q6_begins {σ : Sg} {s : AS} (hI : CI σ s) (b : Int32) : Ct yX6_begins cX6_begins mX6_begins 7 8 48 NN false σ [.ref 0, .int b] NN (oX (cBegins s b) (fun τ => CI τ s) (wBegins s b)) (z1 (fun τ => CI τ s) (cBegins s b) eI) := by
  obtain ⟨π, hc, hs, hw, ht, hcb⟩ := hI.wf
  have h := k6_begins σ π _ _ _ _ _ _ _ _ _ _ _  b  hI.1 hc hw ht hcb
  rw [hs] at h
  exact h.mono (fun ρ r ⟨v, e, h0, hp, hv⟩ => ⟨v, e, h0, hI.dg (hs ▸ hp), hv⟩) (fun ρ E ⟨hd, hx⟩ => ⟨hI.dg hd, hx⟩)
noncomputable def cCost (s : AS) (r : Int32) (w : Int32) (f : Int32) (h : Int32) (t0 : Int32) : Int32 := (cd2 (isN r (rn (stG s)) ∧ isN w (gn (stG s))) (sound (stG s) f h t0))
noncomputable def wCost (s : AS) (r : Int32) (w : Int32) (f : Int32) (h : Int32) (t0 : Int32) : Int32 := (@ite _ ((bn (stG s)) < 12 ∧ fFree (stG s) r f h (bn (stG s))) (Classical.propDecidable _) (fHours (fBookTo (stG s) (bn (stG s)) r w f h t0) (rn (stG s)) ((bn (stG s)) + 1) (fL (stG s) f h) 5 - fHours (stG s) (rn (stG s)) (bn (stG s)) (fL (stG s) f h) 5) (-99))
noncomputable def vCost (s : AS) (r : Int32) (w : Int32) (f : Int32) (h : Int32) (t0 : Int32) : Int64 := av2 kI kA (cCost s r w f h t0) (wCost s r w f h t0)
theorem q6_cost {σ : Sg} {s : AS} (hI : CI σ s) (r : Int32) (w : Int32) (f : Int32) (h : Int32) (t0 : Int32) : Ct yX6_cost cX6_cost mX6_cost 8 8 48 NN false σ [.ref 0, .int r, .int w, .int f, .int h, .int t0] NN (oX (cCost s r w f h t0) (fun τ => CI τ s) (wCost s r w f h t0)) (z2 (fun τ => CI τ s) (cCost s r w f h t0) eI eA) := by
  obtain ⟨π, hc, hs, hw, ht, hcb⟩ := hI.wf
  have h := k6_cost σ π _ _ _ _ _ _ _ _ _ _ _  r w f h t0  hI.1 hc hw ht hcb
  rw [hs] at h
  exact h.mono (fun ρ r ⟨v, e, h0, hp, hv⟩ => ⟨v, e, h0, hI.dg (hs ▸ hp), hv⟩) (fun ρ E ⟨hd, hx⟩ => ⟨hI.dg hd, hx⟩)
noncomputable def cWillOwe (s : AS) (w : Int32) : Int32 := (cd1 (isN w (gn (stG s))))
noncomputable def wWillOwe (s : AS) (w : Int32) : Int32 := (fHours (stG s) (rn (stG s)) (bn (stG s)) (fH (stG s) (bn (stG s))) (25 + cN w))
noncomputable def vWillOwe (s : AS) (w : Int32) : Int64 := av1 kI (cWillOwe s w) (wWillOwe s w)
theorem q6_willOwe {σ : Sg} {s : AS} (hI : CI σ s) (w : Int32) : Ct yX6_willOwe cX6_willOwe mX6_willOwe 7 8 48 NN false σ [.ref 0, .int w] NN (oX (cWillOwe s w) (fun τ => CI τ s) (wWillOwe s w)) (z1 (fun τ => CI τ s) (cWillOwe s w) eI) := by
  obtain ⟨π, hc, hs, hw, ht, hcb⟩ := hI.wf
  have h := k6_willOwe σ π _ _ _ _ _ _ _ _ _ _ _  w  hI.1 hc hw ht hcb
  rw [hs] at h
  exact h.mono (fun ρ r ⟨v, e, h0, hp, hv⟩ => ⟨v, e, h0, hI.dg (hs ▸ hp), hv⟩) (fun ρ E ⟨hd, hx⟩ => ⟨hI.dg hd, hx⟩)
noncomputable def cScript (s : AS) (v : Int32) (x : Int64) : Int32 := (cd1 (scrA v x))
noncomputable def wScript (s : AS) (v : Int32) (x : Int64) : Int32 := (fRun (rn (stG s)) (gn (stG s)) (cN v) (lC x) (cN v) (stG s) (bn (stG s)))
noncomputable def vScript (s : AS) (v : Int32) (x : Int64) : Int64 := av1 kA (cScript s v x) (wScript s v x)
theorem q6_script {σ : Sg} {s : AS} (hI : CI σ s) (v : Int32) (x : Int64) : Ct yX6_runScript cX6_runScript mX6_runScript 7 8 48 NN false σ [.ref 0, .int v, .long x] NN (oX (cScript s v x) (fun τ => CI τ s) (wScript s v x)) (z1 (fun τ => CI τ s) (cScript s v x) eA) := by
  obtain ⟨π, hc, hs, hw, ht, hcb⟩ := hI.wf
  have h := k6_runScript σ π _ _ _ _ _ _ _ _ _ _ _  v x  hI.1 hc hw ht hcb
  rw [hs] at h
  exact h.mono (fun ρ r ⟨v, e, h0, hp, hv⟩ => ⟨v, e, h0, hI.dg (hs ▸ hp), hv⟩) (fun ρ E ⟨hd, hx⟩ => ⟨hI.dg hd, hx⟩)
noncomputable def cSimulate (s : AS) (x : Int64) (v : Int32) : Int32 := (cd1 (1 ≤ v ∧ v ≤ 99))
noncomputable def wSimulate (s : AS) (x : Int64) (v : Int32) : Int32 := (simV (stG s) (fSim (rn (stG s)) (bn (stG s)) (cN v) (stG s) x))
noncomputable def vSimulate (s : AS) (x : Int64) (v : Int32) : Int64 := av1 kA (cSimulate s x v) (wSimulate s x v)
theorem q6_simulate {σ : Sg} {s : AS} (hI : CI σ s) (x : Int64) (v : Int32) : Ct yX6_simulate cX6_simulate mX6_simulate 7 8 48 NN false σ [.ref 0, .long x, .int v] NN (oX (cSimulate s x v) (fun τ => CI τ s) (wSimulate s x v)) (z1 (fun τ => CI τ s) (cSimulate s x v) eA) := by
  obtain ⟨π, hc, hs, hw, ht, hcb⟩ := hI.wf
  have h := k6_simulate σ π _ _ _ _ _ _ _ _ _ _ _  x v  hI.1 hc hw ht hcb
  rw [hs] at h
  exact h.mono (fun ρ r ⟨v, e, h0, hp, hv⟩ => ⟨v, e, h0, hI.dg (hs ▸ hp), hv⟩) (fun ρ E ⟨hd, hx⟩ => ⟨hI.dg hd, hx⟩)
noncomputable def cSave (s : AS) (k : Int32) : Int32 := (cd1 (0 ≤ k ∧ k ≤ 1))
noncomputable def wSave (s : AS) (k : Int32) : Int32 := (stG s 0)
noncomputable def vSave (s : AS) (k : Int32) : Int64 := av1 kI (cSave s k) (wSave s k)
noncomputable def aSave (s : AS) (k : Int32) : AS := if cSave s k = 0 then (stG s, stN s, stT s, stC s, stM s, savB (stB s) (cN k), savS (stS s) (cN k) (stG s)) else s
theorem q6_save {σ : Sg} {s : AS} (hI : CI σ s) (k : Int32) : Ct yX6_save cX6_save mX6_save 7 8 48 NN false σ [.ref 0, .int k] NN (oX (cSave s k) (fun τ => CI τ (stG s, stN s, stT s, stC s, stM s, savB (stB s) (cN k), savS (stS s) (cN k) (stG s))) (wSave s k)) (z1 (fun τ => CI τ s) (cSave s k) eI) := by
  obtain ⟨π, hc, hs, hw, ht, hcb⟩ := hI.wf
  have h := k6_save σ π _ _ _ _ _ _ _ _ _ _ _  k  hI.1 hc hw ht hcb
  rw [hs] at h
  exact h.mono (fun ρ r ⟨v, e, h0, hp, hv⟩ => ⟨v, e, h0, CI.pa hp, hv⟩) (fun ρ E ⟨hd, hx⟩ => ⟨hI.dg hd, hx⟩)
noncomputable def cRestore (s : AS) (k : Int32) : Int32 := (cd2 (0 ≤ k ∧ k ≤ 1) (stB s (cN k) = true))
noncomputable def wRestore (s : AS) (k : Int32) : Int32 := (stS s (cN k) 0)
noncomputable def vRestore (s : AS) (k : Int32) : Int64 := av2 kI kS_ (cRestore s k) (wRestore s k)
noncomputable def aRestore (s : AS) (k : Int32) : AS := if cRestore s k = 0 then (stS s (cN k), stN s, stT s, 0, stM s, stB s, stS s) else s
theorem q6_restore {σ : Sg} {s : AS} (hI : CI σ s) (k : Int32) : Ct yX6_restore cX6_restore mX6_restore 7 8 48 NN false σ [.ref 0, .int k] NN (oX (cRestore s k) (fun τ => CI τ (stS s (cN k), stN s, stT s, 0, stM s, stB s, stS s)) (wRestore s k)) (z2 (fun τ => CI τ s) (cRestore s k) eI eS) := by
  obtain ⟨π, hc, hs, hw, ht, hcb⟩ := hI.wf
  have h := k6_restore σ π _ _ _ _ _ _ _ _ _ _ _  k  hI.1 hc hw ht hcb
  rw [hs] at h
  exact h.mono (fun ρ r ⟨v, e, h0, hp, hv⟩ => ⟨v, e, h0, CI.pa hp, hv⟩) (fun ρ E ⟨hd, hx⟩ => ⟨hI.dg hd, hx⟩)
theorem q6_clearText {σ : Sg} {s : AS} (hI : CI σ s) : Ct yX6_clearText cX6_clearText mX6_clearText 1 0 0 NN false σ [.ref 0] NN (rI fun τ v => CI τ (stG s, 0, stT s, stC s, stM s, stB s, stS s) ∧ nI (stN s) = v) XF := by
  obtain ⟨π, hc, hs, hw, ht, hcb⟩ := hI.wf
  have h := k6_clearText σ π _ _ _ _ _ _ _ _ _ _ _ hI.1 hc hw ht hcb
  rw [hs] at h
  exact h.mono (fun ρ r ⟨v, e, h0, hp, hv⟩ => ⟨v, e, CI.pa hp, hv⟩) (fun ρ E h => h)
theorem q6_errorPosition {σ : Sg} {s : AS} (hI : CI σ s) : Ct yX6_errorPosition cX6_errorPosition mX6_errorPosition 7 0 0 NN false σ [.ref 0] NN (rI fun τ v => CI τ s ∧ pErr (pText (stT s) (stN s) (fClean g00)).1 = v) XF := by
  obtain ⟨π, hc, hs, hw, ht, hcb⟩ := hI.wf
  have h := k6_errorPosition σ π _ _ _ _ _ _ _ _ _ _ _ g00 hI.1 hc hw ht hcb
  rw [hs] at h
  exact h.mono (fun ρ r ⟨v, e, h0, hp, hv⟩ => ⟨v, e, hI.dg (hs ▸ hp), hv⟩) (fun ρ E h => h)
theorem q6_coldest {σ : Sg} {s : AS} (hI : CI σ s) : Ct yX6_coldest cX6_coldest mX6_coldest 7 0 0 NN false σ [.ref 0] NN (rI fun τ v => CI τ s ∧ oI (fCold (fHours (stG s) (rn (stG s)) (bn (stG s)) (fH (stG s) (bn (stG s)))) (bn (stG s))) = v) XF := by
  obtain ⟨π, hc, hs, hw, ht, hcb⟩ := hI.wf
  have h := k6_coldest σ π _ _ _ _ _ _ _ _ _ _ _ hI.1 hc hw ht hcb
  rw [hs] at h
  exact h.mono (fun ρ r ⟨v, e, h0, hp, hv⟩ => ⟨v, e, hI.dg (hs ▸ hp), hv⟩) (fun ρ E h => h)
