/-! A pure machine over places: a reference of its values names a place; the heap is the list of the cells; the rules carry each instruction down to the kit's rows. -/
def xw_v (ad : Nat → Nat) (v : Value) : Value := match v with
  | .ref i => .ref (ad i)
  | v => v
theorem xw_cat (ad : Nat → Nat) (v : Value) : (xw_v ad v).category = v.category := by cases v <;> rfl
def xw_e (ad : Nat → Nat) (c : va_E) : va_E := match c with
  | .inl a => .inl a
  | .inr o => .inr (o.1, o.2.map (xw_v ad))
def xw_ws (ad : Nat → Nat) (hp : List va_E) : va_W := hp.mapIdx (fun i c => (ad i, xw_e ad c))
theorem xw_get {ad : Nat → Nat} {hp : List va_E} {i : Nat} {c : va_E} (h : hp[i]? = some c) : (xw_ws ad hp)[i]? = some (ad i, xw_e ad c) := by
  simp [xw_ws, h]
theorem xw_set {ad : Nat → Nat} {hp : List va_E} {i : Nat} {c : va_E} : (xw_ws ad hp).set i (ad i, xw_e ad c) = xw_ws ad (hp.set i c) := by
  apply List.ext_getElem?
  intro j
  simp only [xw_ws, List.getElem?_set, List.getElem?_mapIdx, List.length_mapIdx]
  by_cases h : i = j
  · subst h
    by_cases h2 : i < hp.length <;> simp [h2]
  · simp [h]
def xw_A (ad : Nat → Nat) (n : Nat) : Nat → Prop := fun q => ∃ i : Nat, i < n ∧ q = ad i
theorem xw_D {ad : Nat → Nat} {n : Nat} {hp : List va_E} (hi : ∀ i j : Nat, i < n → j < n → ad i = ad j → i = j) (hn : hp.length = n) : va_D (xw_A ad n) (xw_ws ad hp) := by
  have key : ∀ (k : Nat) (q : Nat × va_E), (xw_ws ad hp)[k]? = some q → k < n ∧ q.1 = ad k := by
    intro k q h
    simp only [xw_ws, List.getElem?_mapIdx, Option.map_eq_some_iff] at h
    obtain ⟨c, h1, rfl⟩ := h
    exact ⟨hn ▸ (List.getElem?_eq_some_iff.mp h1).1, rfl⟩
  refine ⟨fun i j p q h1 h2 h => ?_, fun k q h => ⟨k, (key k q h).1, (key k q h).2⟩⟩
  obtain ⟨a1, a2⟩ := key i p h1
  obtain ⟨b1, b2⟩ := key j q h2
  exact hi i j a1 b1 (a2.symm.trans (h.trans b2))
/-! locals by their places; a wide one has nothing behind it -/
def xl_w (o : Option Value) : Option Value := match o with
  | some (.long _) => none
  | some (.double _) => none
  | o => o
def xl_1 : List (Option Value) → Nat → Value → List (Option Value)
  | [], _, _ => []
  | _ :: t, 0, v => some v :: t
  | a :: t, 1, v => xl_w a :: xl_1 t 0 v
  | a :: t, n + 2, v => a :: xl_1 t (n + 1) v
def xl_n : List (Option Value) → List (Option Value)
  | [] => []
  | _ :: t => none :: t
def xl_2 : List (Option Value) → Nat → Value → List (Option Value)
  | [], _, _ => []
  | _ :: t, 0, v => some v :: xl_n t
  | a :: t, 1, v => xl_w a :: xl_2 t 0 v
  | a :: t, n + 2, v => a :: xl_2 t (n + 1) v
theorem xl_w_spec {o : Option Value} {w : Value} (h : xl_w o = some w) : o = some w ∧ ¬ w.category = 2 := by
  cases o with
  | none => cases h
  | some v => cases v <;> first | (cases h; done) | (cases h; exact ⟨rfl, by decide⟩) | (cases h; refine ⟨rfl, ?_⟩; simp [Value.category])
theorem xl_1_spec : ∀ (lv : List (Option Value)) (i : Nat) (v : Value) (j : Nat) (w : Value), (xl_1 lv i v)[j]? = some (some w) → (j = i ∧ w = v) ∨ (j ≠ i ∧ lv[j]? = some (some w) ∧ ¬ (j + 1 = i ∧ w.category = 2))
  | [], i, v, j, w, h => by simp [xl_1] at h
  | a :: t, 0, v, j, w, h => by
    cases j with
    | zero => simp [xl_1] at h; exact Or.inl ⟨rfl, h.symm⟩
    | succ j => simp [xl_1] at h; exact Or.inr ⟨by omega, by simpa using h, by omega⟩
  | a :: t, 1, v, j, w, h => by
    cases j with
    | zero =>
      simp only [xl_1, List.getElem?_cons_zero, Option.some.injEq] at h
      obtain ⟨h1, h2⟩ := xl_w_spec h
      exact Or.inr ⟨by omega, by simp [h1], fun q => h2 q.2⟩
    | succ j =>
      simp only [xl_1, List.getElem?_cons_succ] at h
      rcases xl_1_spec t 0 v j w h with ⟨h1, h2⟩ | ⟨h1, h2, h3⟩
      · exact Or.inl ⟨by omega, h2⟩
      · exact Or.inr ⟨by omega, by simpa using h2, by omega⟩
  | a :: t, n + 2, v, j, w, h => by
    cases j with
    | zero =>
      simp only [xl_1, List.getElem?_cons_zero, Option.some.injEq] at h
      exact Or.inr ⟨by omega, by simp [h], by omega⟩
    | succ j =>
      simp only [xl_1, List.getElem?_cons_succ] at h
      rcases xl_1_spec t (n + 1) v j w h with ⟨h1, h2⟩ | ⟨h1, h2, h3⟩
      · exact Or.inl ⟨by omega, h2⟩
      · exact Or.inr ⟨by omega, by simpa using h2, fun q => h3 ⟨by omega, q.2⟩⟩
theorem xl_2_spec : ∀ (lv : List (Option Value)) (i : Nat) (v : Value) (j : Nat) (w : Value), (xl_2 lv i v)[j]? = some (some w) → (j = i ∧ w = v) ∨ (j ≠ i ∧ j ≠ i + 1 ∧ lv[j]? = some (some w) ∧ ¬ (j + 1 = i ∧ w.category = 2))
  | [], i, v, j, w, h => by simp [xl_2] at h
  | a :: t, 0, v, j, w, h => by
    cases j with
    | zero => simp [xl_2] at h; exact Or.inl ⟨rfl, h.symm⟩
    | succ j =>
      cases t with
      | nil => simp [xl_2, xl_n] at h
      | cons b t =>
        cases j with
        | zero => simp [xl_2, xl_n] at h
        | succ j => simp [xl_2, xl_n] at h; exact Or.inr ⟨by omega, by omega, by simpa using h, by omega⟩
  | a :: t, 1, v, j, w, h => by
    cases j with
    | zero =>
      simp only [xl_2, List.getElem?_cons_zero, Option.some.injEq] at h
      obtain ⟨h1, h2⟩ := xl_w_spec h
      exact Or.inr ⟨by omega, by omega, by simp [h1], fun q => h2 q.2⟩
    | succ j =>
      simp only [xl_2, List.getElem?_cons_succ] at h
      rcases xl_2_spec t 0 v j w h with ⟨h1, h2⟩ | ⟨h1, h0, h2, h3⟩
      · exact Or.inl ⟨by omega, h2⟩
      · exact Or.inr ⟨by omega, by omega, by simpa using h2, by omega⟩
  | a :: t, n + 2, v, j, w, h => by
    cases j with
    | zero =>
      simp only [xl_2, List.getElem?_cons_zero, Option.some.injEq] at h
      exact Or.inr ⟨by omega, by omega, by simp [h], by omega⟩
    | succ j =>
      simp only [xl_2, List.getElem?_cons_succ] at h
      rcases xl_2_spec t (n + 1) v j w h with ⟨h1, h2⟩ | ⟨h1, h0, h2, h3⟩
      · exact Or.inl ⟨by omega, h2⟩
      · exact Or.inr ⟨by omega, by omega, by simpa using h2, fun q => h3 ⟨by omega, q.2⟩⟩
def xl_ok (ad : Nat → Nat) (ls : Array Slot) (nL : Nat) (lv : List (Option Value)) : Prop := ls.size = nL ∧ lv_wf ls ∧ ∀ (i : Nat) (v : Value), lv[i]? = some (some v) → ls[i]? = some (.val (xw_v ad v))
def xl_l (ad : Nat → Nat) (lv : List (Option Value)) : List (Nat × Value) := lv.zipIdx.filterMap (fun q => q.1.map (fun v => (q.2, xw_v ad v)))
theorem xl_mem {ad : Nat → Nat} {lv : List (Option Value)} {q : Nat × Value} : q ∈ xl_l ad lv ↔ ∃ v, lv[q.1]? = some (some v) ∧ q.2 = xw_v ad v := by
  unfold xl_l
  rw [List.mem_filterMap]
  constructor
  · rintro ⟨⟨o, i⟩, h1, h2⟩
    rw [List.mem_zipIdx_iff_getElem?] at h1
    cases o with
    | none => cases h2
    | some v => cases h2; exact ⟨v, h1, rfl⟩
  · rintro ⟨v, h1, h2⟩
    refine ⟨(some v, q.1), ?_, ?_⟩
    · rw [List.mem_zipIdx_iff_getElem?]; exact h1
    · show some (q.1, xw_v ad v) = some q
      rw [← h2]
theorem xl_has {ad : Nat → Nat} {ls : Array Slot} {nL : Nat} {lv : List (Option Value)} (h : xl_ok ad ls nL lv) : lv_has ls nL (xl_l ad lv) := by
  refine ⟨h.1, h.2.1, fun q hq => ?_⟩
  obtain ⟨v, h1, h2⟩ := xl_mem.mp hq
  rw [h2]
  exact h.2.2 q.1 v h1
theorem xl_of {ad : Nat → Nat} {ls : Array Slot} {nL : Nat} {lv : List (Option Value)} {l : List (Nat × Value)} (h : lv_has ls nL l) (hm : ∀ (i : Nat) (v : Value), lv[i]? = some (some v) → (i, xw_v ad v) ∈ l) : xl_ok ad ls nL lv :=
  ⟨h.1, h.2.1, fun i v hi => h.2.2 (i, xw_v ad v) (hm i v hi)⟩
theorem xl_st1 {ad : Nat → Nat} {ls : Array Slot} {nL : Nat} {lv : List (Option Value)} {i : Nat} {x : Value} (h : lv_has ls nL ((i, xw_v ad x) :: (xl_l ad lv).filter (fun q => !(q.1 == i) && !(q.1 + 1 == i && q.2.category == 2)))) : xl_ok ad ls nL (xl_1 lv i x) := by
  refine xl_of h fun j w hj => ?_
  rcases xl_1_spec _ _ _ _ _ hj with ⟨rfl, rfl⟩ | ⟨h1, h2, h3⟩
  · exact List.mem_cons_self
  · refine List.mem_cons_of_mem _ (List.mem_filter.mpr ⟨xl_mem.mpr ⟨w, h2, rfl⟩, ?_⟩)
    simp only [xw_cat]
    by_cases e1 : j + 1 = i <;> by_cases e2 : w.category = 2 <;> simp_all
theorem xl_st2 {ad : Nat → Nat} {ls : Array Slot} {nL : Nat} {lv : List (Option Value)} {i : Nat} {x : Value} (h : lv_has ls nL ((i, xw_v ad x) :: (xl_l ad lv).filter (fun q => !(q.1 == i) && (!(q.1 == i + 1) && !(q.1 + 1 == i && q.2.category == 2))))) : xl_ok ad ls nL (xl_2 lv i x) := by
  refine xl_of h fun j w hj => ?_
  rcases xl_2_spec _ _ _ _ _ hj with ⟨rfl, rfl⟩ | ⟨h1, h0, h2, h3⟩
  · exact List.mem_cons_self
  · refine List.mem_cons_of_mem _ (List.mem_filter.mpr ⟨xl_mem.mpr ⟨w, h2, rfl⟩, ?_⟩)
    simp only [xw_cat]
    by_cases e1 : j + 1 = i <;> by_cases e2 : w.category = 2 <;> simp_all
/-- the locals with which a method begins -/
def xl_in : List Value → List (Option Value)
  | [] => []
  | .long x :: t => some (.long x) :: none :: xl_in t
  | .double x :: t => some (.double x) :: none :: xl_in t
  | v :: t => some v :: xl_in t
theorem xl_in_mem (ad : Nat → Nat) : ∀ (av : List Value) (k i : Nat) (v : Value), (xl_in av)[i]? = some (some v) → (k + i, xw_v ad v) ∈ lv_args k (av.map (xw_v ad))
  | [], k, i, v, h => by simp [xl_in] at h
  | a :: t, k, i, v, h => by
    cases a <;> (
      simp only [List.map_cons, lv_args, xw_v, Value.category]
      cases i with
      | zero => simp [xl_in] at h; subst h; exact List.mem_cons_self
      | succ i =>
        first
          | (cases i with
             | zero => simp [xl_in] at h; done
             | succ i =>
               simp only [xl_in, List.getElem?_cons_succ] at h
               have := xl_in_mem ad t (k + 2) i v h
               rw [show k + 2 + i = k + (i + 1 + 1) by omega] at this
               exact List.mem_cons_of_mem _ this)
          | (simp only [xl_in, List.getElem?_cons_succ] at h
             have := xl_in_mem ad t (k + 1) i v h
             rw [show k + 1 + i = k + (i + 1) by omega] at this
             exact List.mem_cons_of_mem _ this))
