/-! THE ABSTRACT WORLD. All objects of one run stand at a0 + i, i their number in the order in which they are made; what they hold is three functions of number and place. -/
abbrev Sg : Type := (Nat → Nat → Int32) × (Nat → Nat → Option Nat) × (Nat → Nat → Int64)
def sI (σ : Sg) (a k : Nat) (v : Int32) : Sg := (fun i j => if i = a ∧ j = k then v else σ.1 i j, σ.2.1, σ.2.2)
def sR (σ : Sg) (a k : Nat) (v : Option Nat) : Sg := (σ.1, fun i j => if i = a ∧ j = k then v else σ.2.1 i j, σ.2.2)
def sL (σ : Sg) (a k : Nat) (v : Int64) : Sg := (σ.1, σ.2.1, fun i j => if i = a ∧ j = k then v else σ.2.2 i j)
def sZ (σ : Sg) (a : Nat) : Sg := (fun i j => if i = a then 0 else σ.1 i j, fun i j => if i = a then none else σ.2.1 i j, fun i j => if i = a then 0 else σ.2.2 i j)
/-- the whole int row a gets new contents -/
def sA (σ : Sg) (a : Nat) (f : Nat → Int32) : Sg := (fun i j => if i = a then f j else σ.1 i j, σ.2.1, σ.2.2)
/-- what the cell of each number is: an object of the class of that place in vwCl, or an array (kind, length) -/
abbrev CTy : Type := Nat ⊕ (Nat × Nat)
def hallTy (j : Nat) : CTy := if j = 0 then .inl 2 else if j = 1 then .inr (3, 4) else if j = 2 then .inr (0, 6) else if j = 3 then .inr (4, 12) else if j < 8 then .inl 5 else .inl 0
def cT0 (i : Nat) : CTy :=
  if i = 0 then .inl 6 else if i = 1 then .inl 3 else if i = 2 then .inr (0, 120) else if i < 23 then hallTy (i - 3) else if i = 23 then .inl 4 else if i = 24 then .inr (5, 14)
  else if i < 305 then hallTy ((i - 25) % 20) else if i = 305 then .inr (5, 2) else if i = 306 then .inr (1, 2) else if i = 307 then .inl 1 else hallTy ((i - 308) % 20)
def cT (i : Nat) : CTy := if i < 388 then cT0 i else cT0 (i - 388)
def nF (ci : Nat) : Nat := if ci = 0 then 10 else if ci = 1 then 5 else if ci = 2 then 12 else if ci = 3 then 4 else if ci = 4 then 3 else if ci = 5 then 4 else 8
def rF (ci k : Nat) : Bool := if ci = 2 then k == 2 || (k == 4 || k == 6) else if ci = 3 then k == 0 else if ci = 4 then k == 0 else if ci = 6 then true else false
def cv (a0 : Nat) (v : Value) : Value := match v with
  | .ref i => .ref (a0 + i)
  | .retAddr q => .ref q
  | v => v
def fV (a0 : Nat) (σ : Sg) (ci i k : Nat) : Value := if rF ci k = true then va_rf ((σ.2.1 i k).map (fun x => a0 + x)) else .int (σ.1 i k)
def aC (a0 : Nat) (σ : Sg) (i kd : Nat) : (Nat → Int32) ⊕ (Nat → Int64) ⊕ (Nat → UInt32) ⊕ (Nat → UInt64) ⊕ (Nat → Option Nat) := if kd < 2 then .inl (σ.1 i) else if kd = 2 then .inr (.inl (σ.2.2 i)) else .inr (.inr (.inr (.inr (fun j => (σ.2.1 i j).map (fun x => a0 + x)))))
def cE (a0 : Nat) (cs : Nat → ClassId) (σ : Sg) (i : Nat) : va_E := match cT i with
  | .inl ci => .inr (ci, (List.range (nF ci)).map (fV a0 σ ci i))
  | .inr (kd, len) => .inl (cs kd, len, aC a0 σ i kd)
def wl (a0 : Nat) (cs : Nat → ClassId) (σ : Sg) (n : Nat) : va_W := (List.range n).map (fun i => (a0 + i, cE a0 cs σ i))
abbrev tyl (cs : Nat → ClassId) : List (ClassId × FieldType) := [(cs 0, .int), (cs 1, .boolean), (cs 2, .int), (cs 3, .object RX5), (cs 4, .object RX0), (cs 5, .object RX2)]
theorem wl_get {a0 : Nat} {cs : Nat → ClassId} {σ : Sg} {n i : Nat} (h : i < n) : (wl a0 cs σ n)[i]? = some (a0 + i, cE a0 cs σ i) := by
  simp [wl, h]
theorem wl_len (a0 : Nat) (cs : Nat → ClassId) (σ : Sg) (n : Nat) : (wl a0 cs σ n).length = n := by simp [wl]
theorem cE_o {a0 : Nat} {cs : Nat → ClassId} {σ : Sg} {i ci : Nat} (h : cT i = .inl ci) : cE a0 cs σ i = .inr (ci, (List.range (nF ci)).map (fV a0 σ ci i)) := by
  simp [cE, h]
theorem cE_a {a0 : Nat} {cs : Nat → ClassId} {σ : Sg} {i kd len : Nat} (h : cT i = .inr (kd, len)) : cE a0 cs σ i = .inl (cs kd, len, aC a0 σ i kd) := by
  simp [cE, h]
theorem cE_congr {a0 : Nat} {cs : Nat → ClassId} {σ τ : Sg} {i : Nat} (h1 : σ.1 i = τ.1 i) (h2 : σ.2.1 i = τ.2.1 i) (h3 : σ.2.2 i = τ.2.2 i) : cE a0 cs σ i = cE a0 cs τ i := by
  have e1 : ∀ ci, fV a0 σ ci i = fV a0 τ ci i := fun ci => funext fun k => by simp [fV, h1, h2]
  have e2 : ∀ kd, aC a0 σ i kd = aC a0 τ i kd := fun kd => by simp [aC, h1, h2, h3]
  unfold cE
  split
  · rw [e1]
  · rw [e2]
theorem wl_set {a0 : Nat} {cs : Nat → ClassId} {σ τ : Sg} {n a : Nat} (h : ∀ i, i ≠ a → σ.1 i = τ.1 i ∧ σ.2.1 i = τ.2.1 i ∧ σ.2.2 i = τ.2.2 i) {e : va_E} (he : cE a0 cs τ a = e) : (wl a0 cs σ n).set a (a0 + a, e) = wl a0 cs τ n := by
  apply List.ext_getElem?
  intro i
  by_cases hi : i < n
  · rw [wl_get hi]
    by_cases ha : a = i
    · subst ha
      rw [List.getElem?_set_self (by rw [wl_len]; exact hi), he]
    · rw [List.getElem?_set_ne ha, wl_get hi]
      obtain ⟨h1, h2, h3⟩ := h i (Ne.symm ha)
      rw [cE_congr h1 h2 h3]
  · rw [List.getElem?_eq_none (by rw [List.length_set, wl_len]; omega), List.getElem?_eq_none (by rw [wl_len]; omega)]
theorem wl_push {a0 : Nat} {cs : Nat → ClassId} {σ τ : Sg} {n : Nat} (h : ∀ i, i < n → σ.1 i = τ.1 i ∧ σ.2.1 i = τ.2.1 i ∧ σ.2.2 i = τ.2.2 i) : wl a0 cs σ n ++ [(a0 + n, cE a0 cs τ n)] = wl a0 cs τ (n + 1) := by
  apply List.ext_getElem?
  intro i
  by_cases hi : i < n
  · rw [List.getElem?_append_left (by rw [wl_len]; exact hi), wl_get hi, wl_get (by omega)]
    obtain ⟨h1, h2, h3⟩ := h i hi
    rw [cE_congr h1 h2 h3]
  · rw [List.getElem?_append_right (by rw [wl_len]; omega), wl_len]
    by_cases h2 : i = n
    · subst h2
      rw [Nat.sub_self, wl_get (by omega)]
      rfl
    · rw [List.getElem?_eq_none (by simp; omega), List.getElem?_eq_none (by rw [wl_len]; omega)]
theorem va_D_wl {A : Nat → Prop} {a0 : Nat} {cs : Nat → ClassId} {σ : Sg} {n : Nat} (h : ∀ i, i < n → A (a0 + i)) : va_D A (wl a0 cs σ n) := by
  have key : ∀ (k : Nat) (q : Nat × va_E), (wl a0 cs σ n)[k]? = some q → k < n ∧ q.1 = a0 + k := by
    intro k q hk
    have hl : k < n := by
      have := (List.getElem?_eq_some_iff.mp hk).1
      rwa [wl_len] at this
    rw [wl_get hl] at hk
    cases hk
    exact ⟨hl, rfl⟩
  refine ⟨fun i j p q hi hj hpq => ?_, fun k q hk => ?_⟩
  · have h1 := (key i p hi).2
    have h2 := (key j q hj).2
    omega
  · obtain ⟨h1, h2⟩ := key k q hk
    rw [h2]
    exact h k h1
/-! the tables' words that every method's list holds -/
def TT : List Cond := lw_tbl.filter goodWord
theorem tt_in {w : Cond} (h : w ∈ lw_tbl) (g : goodWord w = true) : w ∈ TT := List.mem_filter.mpr ⟨h, g⟩
theorem tt_t {w : Cond} {i : Nat} (h : tables_1[i]? = some w) (g : goodWord w = true) : w ∈ TT := tt_in (List.mem_append_right _ (List.mem_of_getElem? h)) g
theorem tt_p {w : Cond} {i : Nat} (h : (k2_sels lw_privs)[i]? = some w) (g : goodWord w = true) : w ∈ TT := tt_in (List.mem_append_left _ (List.mem_of_getElem? h)) g
theorem tt_good : ∀ w ∈ TT, goodWord w = true := fun w h => (List.mem_filter.mp h).2
/-! what else must hold of a state, beside the words of a list: it goes along from state to state -/
def shpW : Cond → Bool
  | .castable .. | .declares _ | .methodLinkNest .. => true
  | _ => false
def nW : List Cond := lw_tbl.filter shpW
def sW : List (Nat × String) := [(262, "an argument is out of its range"), (61, "the text is full"), (74, "the text is not a hall"), (266, "there is no such room"), (272, "there is no such group"), (277, "there is no such booking"), (126, "there are 4 rooms"), (138, "there are 6 groups"), (152, "there are 12 bookings, or the room is taken then"), (161, "it has been preheated, or its first hour went by"), (169, "no booking of this room has the hour of now"), (181, "the hour of now would become more than 240"), (192, "no state is remembered"), (227, "a script has 0 to 5 * n digits"), (279, "there is no such save slot"), (260, "nothing has been saved in this slot since the last load")]
def aoW : List String := [RX5, RX0, RX2]
def eA : String := "java/lang/IllegalArgumentException"
def eS : String := "java/lang/IllegalStateException"
def eI : String := "java/lang/IndexOutOfBoundsException"
def exN : List String := [eA, eS, eI]
def EX (U : State) : Prop := (∀ w ∈ nW, va_Nw w U) ∧ (∀ q ∈ sW, ∃ a, vk_R RX6 q.1 q.2 a U) ∧ (∀ C ∈ aoW, va_AO C U) ∧ ∀ C ∈ exN, ∀ C' ∈ exN, C ≠ C' → va_Nc C C' U
theorem EX.warm {s U : State} (hW : s.WarmedH U.vm) (h : EX s) : EX U := by
  obtain ⟨h1, h2, h3, h4⟩ := h
  refine ⟨fun w hw => ?_, fun q hq => ?_, fun C hC => ?_, fun C hC C' hC' hne => (h4 C hC C' hC' hne).moved hW.alike⟩
  · have h9 := h1 w hw
    have hs : shpW w = true := (List.mem_filter.mp hw).2
    cases w <;> first | exact va_Nw.warmC hW h9 | exact va_Nw.warmD hW h9 | exact va_Nw.warmM hW h9 | (simp [shpW] at hs)
  · obtain ⟨a, ha⟩ := h2 q hq
    exact ⟨a, ha.warm hW⟩
  · exact va_AO.moved hW.alike (h3 C hC)
/-- the Statement's static texts of Throwable -/
def ZQ (A : Nat → Prop) (U : State) (H : Heap) : Prop := vx_Zq Bundle.tN "UNASSIGNED_STACK" Bundle.steD A U H ∧ vx_Zq Bundle.tN "SUPPRESSED_SENTINEL" Bundle.listD A U H
/-- the cells that a method may change: the world's, and new ones -/
def Wa (a0 n sz : Nat) : Nat → Prop := fun q => (a0 ≤ q ∧ q < a0 + n) ∨ sz ≤ q
/-- the heap holds the world -/
def Wd (D : va_G) (cs : Nat → ClassId) (a0 n : Nat) (σ : Sg) (H : Heap) : Prop := va_P D vwCl (wl a0 cs σ n) H ∧ a0 + n ≤ H.size
def Pre (D : va_G) (cs : Nat → ClassId) (a0 n : Nat) (z : Bool) (σ : Sg) (U : State) : Prop := Wd D cs a0 n σ U.heap ∧ (z = true → U.heap.size = a0 + n) ∧ va_K D vwCl (tyl cs) U ∧ EX U ∧ ZQ (Wa a0 n U.heap.size) U U.heap
theorem Pre.blind {D : va_G} {cs : Nat → ClassId} {a0 n : Nat} {z : Bool} {σ : Sg} {U : State} {g : JFrame} {mk : MethodId} {a : Array Value} (h : Pre D cs a0 n z σ U) : Pre D cs a0 n z σ (U.calling g mk a) := by
  obtain ⟨h1, hz, h2, h3, h4, h5⟩ := h
  exact ⟨h1, hz, va_K.moved (u := U) (U := U.calling g mk a) (Vm.Alike.refl U.vm) h2, EX.warm (s := U) (U := U.calling g mk a) (State.WarmedH.refl U) h3, vx_Zq.moved (u := U) (U := U.calling g mk a) (Vm.Alike.refl U.vm) h4, vx_Zq.moved (u := U) (U := U.calling g mk a) (Vm.Alike.refl U.vm) h5⟩
/-! locals -/
def lok (a0 nL : Nat) (la : Array Slot) (ls : List (Option Value)) : Prop := la.size = nL ∧ lv_wf la ∧ ∀ (i : Nat) (v : Value), ls[i]? = some (some v) → la[i]? = some (.val (cv a0 v))
theorem cv_cat (a0 : Nat) (v : Value) : (cv a0 v).category = v.category := by cases v <;> rfl
def lpr (a0 : Nat) (ls : List (Option Value)) : List (Nat × Value) := (List.range ls.length).filterMap (fun i => match ls[i]? with
  | some (some v) => some (i, cv a0 v)
  | _ => none)
theorem lpr_mem {a0 : Nat} {ls : List (Option Value)} {i : Nat} {v : Value} (h : ls[i]? = some (some v)) : (i, cv a0 v) ∈ lpr a0 ls :=
  List.mem_filterMap.mpr ⟨i, List.mem_range.mpr (List.getElem?_eq_some_iff.mp h).1, by rw [h]⟩
theorem lpr_of {a0 : Nat} {ls : List (Option Value)} {q : Nat × Value} (h : q ∈ lpr a0 ls) : ∃ v, ls[q.1]? = some (some v) ∧ q.2 = cv a0 v := by
  obtain ⟨i, -, hi⟩ := List.mem_filterMap.mp h
  revert hi
  split
  · rename_i v hv
    intro hi
    cases hi
    exact ⟨v, hv, rfl⟩
  · intro hi; cases hi
theorem lok.has {a0 nL : Nat} {la : Array Slot} {ls : List (Option Value)} (h : lok a0 nL la ls) : lv_has la nL (lpr a0 ls) := ⟨h.1, h.2.1, fun q hq => by
  obtain ⟨v, h1, h2⟩ := lpr_of hq
  rw [h2]
  exact h.2.2 _ _ h1⟩
theorem lok.at {a0 nL : Nat} {la : Array Slot} {ls : List (Option Value)} (h : lok a0 nL la ls) {i : Nat} {v : Value} (hi : ls[i]? = some (some v)) : la[i]? = some (.val (cv a0 v)) := h.2.2 i v hi
/-- no long or double begins just ahead of the place i -/
def lnc (ls : List (Option Value)) (i : Nat) : Prop := ∀ (j : Nat) (w : Value), j + 1 = i → ls[j]? = some (some w) → w.category = 1
theorem lok.set1 {a0 nL : Nat} {la : Array Slot} {ls : List (Option Value)} {i : Nat} {v : Value} (hn : lnc ls i) (h : lv_has la nL ((i, cv a0 v) :: (lpr a0 ls).filter (fun q => !(q.1 == i) && !(q.1 + 1 == i && q.2.category == 2)))) : lok a0 nL la (ls.set i (some v)) := by
  refine ⟨h.1, h.2.1, fun j w hj => ?_⟩
  by_cases e : j = i
  · subst e
    have hl : j < ls.length := by
      have := (List.getElem?_eq_some_iff.mp hj).1
      rwa [List.length_set] at this
    rw [List.getElem?_set_self hl] at hj
    cases hj
    exact h.2.2 _ List.mem_cons_self
  · rw [List.getElem?_set_ne (Ne.symm e)] at hj
    refine h.2.2 (j, cv a0 w) (List.mem_cons_of_mem _ (List.mem_filter.mpr ⟨lpr_mem hj, ?_⟩))
    have h1 : (j == i) = false := by simpa using e
    by_cases h2 : j + 1 = i
    · have hc := hn j w h2 hj
      have : ((cv a0 w).category == 2) = false := by rw [cv_cat, hc]; rfl
      simp [h1, this]
    · have : (j + 1 == i) = false := by simpa using h2
      simp [h1, this]
theorem lok.set2 {a0 nL : Nat} {la : Array Slot} {ls : List (Option Value)} {i : Nat} {v : Value} (hn : lnc ls i) (h : lv_has la nL ((i, cv a0 v) :: (lpr a0 ls).filter (fun q => !(q.1 == i) && (!(q.1 == i + 1) && !(q.1 + 1 == i && q.2.category == 2))))) : lok a0 nL la ((ls.set i (some v)).set (i + 1) none) := by
  refine ⟨h.1, h.2.1, fun j w hj => ?_⟩
  by_cases e1 : j = i + 1
  · subst e1
    by_cases hl : i + 1 < ls.length
    · rw [List.getElem?_set_self (by rw [List.length_set]; exact hl)] at hj
      cases hj
    · rw [List.getElem?_eq_none (by rw [List.length_set, List.length_set]; omega)] at hj
      cases hj
  · rw [List.getElem?_set_ne (Ne.symm e1)] at hj
    by_cases e : j = i
    · subst e
      have hl : j < ls.length := by
        have := (List.getElem?_eq_some_iff.mp hj).1
        rwa [List.length_set] at this
      rw [List.getElem?_set_self hl] at hj
      cases hj
      exact h.2.2 _ List.mem_cons_self
    · rw [List.getElem?_set_ne (Ne.symm e)] at hj
      refine h.2.2 (j, cv a0 w) (List.mem_cons_of_mem _ (List.mem_filter.mpr ⟨lpr_mem hj, ?_⟩))
      have h1 : (j == i) = false := by simpa using e
      have h3 : (j == i + 1) = false := by simpa using e1
      by_cases h2 : j + 1 = i
      · have hc := hn j w h2 hj
        have : ((cv a0 w).category == 2) = false := by rw [cv_cat, hc]; rfl
        simp [h1, h3, this]
      · have : (j + 1 == i) = false := by simpa using h2
        simp [h1, h3, this]
/-- the locals at a method's entry -/
def lent : List Value → List (Option Value)
  | [] => []
  | .long x :: r => some (.long x) :: none :: lent r
  | v :: r => some v :: lent r
theorem lent_c1 {v : Value} (h : v.category = 1) (r : List Value) : lent (v :: r) = some v :: lent r := by
  cases v <;> first | rfl | (simp [Value.category] at h)
def nodbl (av : List Value) : Prop := ∀ x, Value.double x ∉ av
theorem lent_args {a0 : Nat} : ∀ (av : List Value), nodbl av → ∀ (i j : Nat) (v : Value), (lent av)[i]? = some (some v) → (j + i, cv a0 v) ∈ lv_args j (av.map (cv a0))
  | [], _, i, j, v, h => by simp [lent] at h
  | w :: r, hd, i, j, v, h => by
    have hr : nodbl r := fun x hx => hd x (List.mem_cons_of_mem _ hx)
    rcases lv_cat w with hc | hc
    · rw [lent_c1 hc] at h
      have hc2 : ¬ (cv a0 w).category = 2 := by rw [cv_cat]; omega
      show (j + i, cv a0 v) ∈ (j, cv a0 w) :: lv_args (if (cv a0 w).category = 2 then j + 2 else j + 1) (r.map (cv a0))
      rw [if_neg hc2]
      cases i with
      | zero => cases h; exact List.mem_cons_self
      | succ i =>
        have := lent_args (a0 := a0) r hr i (j + 1) v (by simpa using h)
        rw [show j + (i + 1) = j + 1 + i by omega]
        exact List.mem_cons_of_mem _ this
    · cases w with
      | long x =>
        show (j + i, cv a0 v) ∈ (j, Value.long x) :: lv_args (j + 2) (r.map (cv a0))
        cases i with
        | zero => cases h; exact List.mem_cons_self
        | succ i =>
          cases i with
          | zero => simp [lent] at h
          | succ i =>
            have := lent_args (a0 := a0) r hr i (j + 2) v (by simpa [lent] using h)
            rw [show j + (i + 1 + 1) = j + 2 + i by omega]
            exact List.mem_cons_of_mem _ this
      | double x => exact absurd List.mem_cons_self (hd x)
      | _ => simp [Value.category] at hc
theorem lok_entry {a0 nL : Nat} {av : List Value} (hd : nodbl av) (h : (lg_sl (av.map (cv a0))).length ≤ nL) (k : Nat) : lok a0 nL ((lg_sl (av.map (cv a0)) ++ List.replicate (nL - (lg_sl (av.map (cv a0))).length) Slot.unset).toArray) (lent av ++ List.replicate k none) := by
  have hl := lv_entry (av.map (cv a0)) (n := nL) h
  refine ⟨hl.1, hl.2.1, fun i v hi => ?_⟩
  by_cases hk : i < (lent av).length
  · rw [List.getElem?_append_left hk] at hi
    have := hl.2.2 _ (lent_args (a0 := a0) av hd i 0 v hi)
    simpa using this
  · rw [List.getElem?_append_right (by omega)] at hi
    have := List.eq_of_mem_replicate (List.mem_of_getElem? hi)
    cases this
