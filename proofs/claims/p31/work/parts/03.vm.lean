/-! THE PURE CELLS: memory is a list of cells by number; a reference is a number; the law's world holds them at base + number -/
abbrev PE : Type := Nat × List Value
abbrev EV : Type := Nat × (Nat → Nat) × (Nat → Nat) × (Nat → Nat → Int32)
abbrev MT : Type := String × MethodName × ByteArray × Nat × Option FieldType
/-- a number's address: below 1000 a cell of ours, from 1000 on a table that nobody writes -/
def kv_adr (E : EV) (i : Nat) : Nat := if i < 1000 then E.1 + i else E.2.1 (i - 1000)
def kv_v (E : EV) : Value → Value
  | .ref i => .ref (kv_adr E i)
  | v => v
def kv_ro (E : EV) : Option Value → Option Nat
  | some (.ref i) => some (kv_adr E i)
  | _ => none
def kv_io : Option Value → Int32
  | some (.int x) => x
  | _ => 0
/-- a cell of the pure memory as a cell of the kit's world: kinds below 100 are objects, 100 + t arrays; t: 0 int, 1 char, 2 boolean, 3 int[], 4 State, 5 Team -/
def kv_c (E : EV) (cA : Nat → ClassId) (e : PE) : va_E :=
  if e.1 < 100 then .inr (e.1, e.2.map (kv_v E))
  else if 103 ≤ e.1 then .inl (cA (e.1 - 100), e.2.length, .inr (.inr (.inr (.inr (fun j => kv_ro E e.2[j]?)))))
  else .inl (cA (e.1 - 100), e.2.length, .inl (fun j => kv_io e.2[j]?))
def kv_w (E : EV) (cA : Nat → ClassId) (M : List PE) : va_W := M.mapIdx (fun i e => (kv_adr E i, kv_c E cA e))
theorem kv_cat (E : EV) (v : Value) : (kv_v E v).category = v.category := by cases v <;> rfl
theorem kv_w_get (E : EV) (cA : Nat → ClassId) (M : List PE) (i : Nat) : (kv_w E cA M)[i]? = M[i]?.map (fun e => (kv_adr E i, kv_c E cA e)) := by
  unfold kv_w
  rw [List.getElem?_mapIdx]
theorem kv_w_at {E : EV} {cA : Nat → ClassId} {M : List PE} {i : Nat} {e : PE} (h : M[i]? = some e) : (kv_w E cA M)[i]? = some (kv_adr E i, kv_c E cA e) := by
  rw [kv_w_get, h]; rfl
theorem kv_w_set {E : EV} {cA : Nat → ClassId} {M : List PE} {i : Nat} {e : PE} : kv_w E cA (M.set i e) = (kv_w E cA M).set i (kv_adr E i, kv_c E cA e) := by
  apply List.ext_getElem?
  intro j
  rw [kv_w_get, List.getElem?_set, List.getElem?_set]
  have hl : (kv_w E cA M).length = M.length := by unfold kv_w; simp
  rw [hl]
  by_cases h : i = j
  · subst h
    by_cases h2 : i < M.length
    · simp [h2]
    · simp [h2]
  · simp [h, kv_w_get]
theorem kv_w_app {E : EV} {cA : Nat → ClassId} {M : List PE} {e : PE} : kv_w E cA (M ++ [e]) = kv_w E cA M ++ [(kv_adr E M.length, kv_c E cA e)] := by
  unfold kv_w
  rw [List.mapIdx_append]
  simp
def kv_sum (M : List PE) : Nat := (M.map (fun e => e.2.length)).sum
theorem kv_sum_app (M : List PE) (e : PE) : kv_sum (M ++ [e]) = kv_sum M + e.2.length := by simp [kv_sum]
theorem kv_sum_set {M : List PE} {i : Nat} {e e' : PE} (h : M[i]? = some e) (hl : e'.2.length = e.2.length) : kv_sum (M.set i e') = kv_sum M := by
  unfold kv_sum
  induction M generalizing i with
  | nil => simp at h
  | cons a M ih =>
    cases i with
    | zero =>
      simp at h
      subst h
      simp [hl]
    | succ i =>
      simp at h
      rw [List.set_cons_succ, List.map_cons, List.map_cons, List.sum_cons, List.sum_cons, ih h]
/-! what stands around: the kinds, the tables that nobody writes, the links -/
def kv_tys (cA : Nat → ClassId) : List (ClassId × FieldType) := [(cA 0, .int), (cA 1, .char), (cA 2, .boolean), (cA 3, .array .int), (cA 4, .object RX3), (cA 5, .object RX4)]
def kv_A (E : EV) : Nat → Prop := fun q => E.1 ≤ q
def TB : List Cond := lw_tbl.filter goodWord
theorem TB_good : GoodIn TB TB := fun w h => ⟨h, good_of_word (List.mem_filter.mp h).2⟩
theorem TB_tbl {w : Cond} (h : w ∈ TB) : w ∈ lw_tbl := (List.mem_filter.mp h).1
def kv_NW : List Cond := [.methodLinkNest RX3 39 yX4_init RX5, .methodLinkNest RX5 21 yX0_init RX5, .methodLinkNest RX5 28 yX2_init RX5, .methodLinkNest RX2 25 yX5_isPlace RX5, .methodLinkNest RX2 17 yX5_isFrom RX5, .fieldLinkNest RX3 30 RX5 "FIRST_SETTINGS" "[I" RX5]
def kv_AOI (U : State) : Prop := (Cond.arrayOver (.array .int)).before #[] U = true
def kv_G (E : EV) (D : va_G) (cA : Nat → ClassId) (U : State) : Prop :=
  va_K D vwCl (kv_tys cA) U ∧ va_AO RX3 U ∧ va_AO RX4 U ∧ kv_AOI U ∧ (∀ w ∈ kv_NW, va_Nw w U) ∧
  (∀ k, k < 4 → va_T .int (E.2.1 k) (E.2.2.1 k) (fun j => .int (E.2.2.2 k j)) (kv_A E) U U.heap) ∧
  va_Z RX5 "FIRST_SETTINGS" "[I" (.ref (E.2.1 0)) (kv_A E) U U.heap ∧ va_Z RX5 "LEAST_SETTINGS" "[I" (.ref (E.2.1 1)) (kv_A E) U U.heap ∧ va_Z RX5 "MOST_SETTINGS" "[I" (.ref (E.2.1 2)) (kv_A E) U U.heap
/-! the locals -/
def kv_L (E : EV) (nL : Nat) (la : Array Slot) (ls : List (Option Value)) : Prop :=
  la.size = nL ∧ lv_wf la ∧ ls.length = nL ∧ ∀ (i : Nat) (v : Value), ls[i]? = some (some v) → la[i]? = some (.val (kv_v E v))
def kv_al (E : EV) (ls : List (Option Value)) : List (Nat × Value) := (List.range ls.length).filterMap (fun i => ((ls[i]?).join).map (fun v => (i, kv_v E v)))
theorem kv_al_in {E : EV} {ls : List (Option Value)} {q : Nat × Value} : q ∈ kv_al E ls ↔ ∃ v, ls[q.1]? = some (some v) ∧ q.2 = kv_v E v := by
  unfold kv_al
  rw [List.mem_filterMap]
  constructor
  · rintro ⟨i, -, h⟩
    cases hi : ls[i]? with
    | none => rw [hi] at h; cases h
    | some o =>
      cases o with
      | none => rw [hi] at h; cases h
      | some v =>
        rw [hi] at h
        cases h
        exact ⟨v, hi, rfl⟩
  · rintro ⟨v, h1, h2⟩
    refine ⟨q.1, List.mem_range.mpr (List.getElem?_eq_some_iff.mp h1).1, ?_⟩
    rw [h1]
    simp [← h2]
theorem kv_L.has {E : EV} {nL : Nat} {la : Array Slot} {ls : List (Option Value)} (h : kv_L E nL la ls) : lv_has la nL (kv_al E ls) := by
  refine ⟨h.1, h.2.1, fun q hq => ?_⟩
  obtain ⟨v, h1, h2⟩ := kv_al_in.mp hq
  rw [h2]
  exact h.2.2.2 _ _ h1
/-- a store at i breaks no long below it -/
def kv_ok (ls : List (Option Value)) : Nat → Bool
  | 0 => true
  | i + 1 => match ls[i]? with
    | some (some v) => v.category == 1
    | _ => true
theorem kv_ok_at {ls : List (Option Value)} {i : Nat} (h : kv_ok ls i = true) {j : Nat} {v : Value} (hj : j + 1 = i) (hv : ls[j]? = some (some v)) : v.category = 1 := by
  subst hj
  simp only [kv_ok, hv] at h
  simpa using h
theorem kv_L.st1 {E : EV} {nL : Nat} {la la' : Array Slot} {ls : List (Option Value)} {i : Nat} {v : Value} (h : kv_L E nL la ls) (hok : kv_ok ls i = true) (hi : i < nL) (hv : v.category = 1)
    (h' : lv_has la' nL ((i, kv_v E v) :: (kv_al E ls).filter (fun q => !(q.1 == i) && !(q.1 + 1 == i && q.2.category == 2)))) : kv_L E nL la' (ls.set i (some v)) := by
  refine ⟨h'.1, h'.2.1, by rw [List.length_set]; exact h.2.2.1, fun j w hj => ?_⟩
  rw [List.getElem?_set] at hj
  by_cases e : i = j
  · subst e
    rw [if_pos rfl] at hj
    split at hj
    · cases hj
      exact h'.2.2 (i, kv_v E v) List.mem_cons_self
    · cases hj
  · rw [if_neg e] at hj
    refine h'.2.2 (j, kv_v E w) (List.mem_cons_of_mem _ (List.mem_filter.mpr ⟨kv_al_in.mpr ⟨w, hj, rfl⟩, ?_⟩))
    have h1 : ¬ j = i := fun q => e q.symm
    by_cases e2 : j + 1 = i
    · have := kv_ok_at hok e2 hj
      simp [h1, kv_cat, this]
    · simp [h1, e2]
theorem kv_L.st2 {E : EV} {nL : Nat} {la la' : Array Slot} {ls : List (Option Value)} {i : Nat} {v : Value} (h : kv_L E nL la ls) (hok : kv_ok ls i = true) (hi : i + 1 < nL)
    (h' : lv_has la' nL ((i, kv_v E v) :: (kv_al E ls).filter (fun q => !(q.1 == i) && (!(q.1 == i + 1) && !(q.1 + 1 == i && q.2.category == 2))))) : kv_L E nL la' ((ls.set i (some v)).set (i + 1) none) := by
  refine ⟨h'.1, h'.2.1, by rw [List.length_set, List.length_set]; exact h.2.2.1, fun j w hj => ?_⟩
  rw [List.getElem?_set] at hj
  by_cases e0 : i + 1 = j
  · rw [if_pos e0] at hj
    split at hj <;> cases hj
  rw [if_neg e0, List.getElem?_set] at hj
  by_cases e : i = j
  · subst e
    rw [if_pos rfl] at hj
    split at hj
    · cases hj
      exact h'.2.2 (i, kv_v E v) List.mem_cons_self
    · cases hj
  · rw [if_neg e] at hj
    refine h'.2.2 (j, kv_v E w) (List.mem_cons_of_mem _ (List.mem_filter.mpr ⟨kv_al_in.mpr ⟨w, hj, rfl⟩, ?_⟩))
    have h1 : ¬ j = i := fun q => e q.symm
    have h2 : ¬ j = i + 1 := fun q => e0 q.symm
    by_cases e2 : j + 1 = i
    · have := kv_ok_at hok e2 hj
      simp [h1, h2, kv_cat, this]
    · simp [h1, h2, e2]
/-! a method's start: its arguments in the locals -/
def kv_fl (vs : List Value) : List (Option Value) := vs.flatMap (fun v => if v.category = 2 then [some v, none] else [some v])
def kv_en (nL : Nat) (vs : List Value) : List (Option Value) := kv_fl vs ++ List.replicate (nL - (kv_fl vs).length) none
theorem kv_fl_len (E : EV) (vs : List Value) : (lg_sl (vs.map (kv_v E))).length = (kv_fl vs).length := by
  induction vs with
  | nil => rfl
  | cons v vs ih =>
    have h1 : lg_sl ((v :: vs).map (kv_v E)) = (if v.category = 2 then [.val (kv_v E v), .second] else [.val (kv_v E v)]) ++ lg_sl (vs.map (kv_v E)) := by
      simp [lg_sl, kv_cat]
    have h2 : kv_fl (v :: vs) = (if v.category = 2 then [some v, none] else [some v]) ++ kv_fl vs := by simp [kv_fl]
    rw [h1, h2, List.length_append, List.length_append, ih]
    split <;> rfl
theorem kv_fl_at (E : EV) : ∀ (vs : List Value) (i : Nat) (v : Value), (kv_fl vs)[i]? = some (some v) → (lg_sl (vs.map (kv_v E)))[i]? = some (.val (kv_v E v))
  | [], i, v, h => by simp [kv_fl] at h
  | a :: vs, i, v, h => by
    have h1 : lg_sl ((a :: vs).map (kv_v E)) = (if a.category = 2 then [.val (kv_v E a), .second] else [.val (kv_v E a)]) ++ lg_sl (vs.map (kv_v E)) := by
      simp [lg_sl, kv_cat]
    have h2 : kv_fl (a :: vs) = (if a.category = 2 then [some a, none] else [some a]) ++ kv_fl vs := by simp [kv_fl]
    rw [h1]
    rw [h2] at h
    by_cases hc : a.category = 2
    · rw [if_pos hc] at h ⊢
      match i, h with
      | 0, h => simp at h; subst h; rfl
      | 1, h => simp at h
      | i + 2, h =>
        have h : (kv_fl vs)[i]? = some (some v) := by simpa using h
        simpa using kv_fl_at E vs i v h
    · rw [if_neg hc] at h ⊢
      match i, h with
      | 0, h => simp at h; subst h; rfl
      | i + 1, h =>
        have h : (kv_fl vs)[i]? = some (some v) := by simpa using h
        simpa using kv_fl_at E vs i v h
theorem kv_en_L (E : EV) {nL : Nat} {vs : List Value} (h : (kv_fl vs).length ≤ nL) : kv_L E nL ((lg_sl (vs.map (kv_v E)) ++ List.replicate (nL - (lg_sl (vs.map (kv_v E))).length) Slot.unset).toArray) (kv_en nL vs) := by
  have hl := lv_entry (vs.map (kv_v E)) (n := nL) (by rw [kv_fl_len]; exact h)
  refine ⟨hl.1, hl.2.1, by simp [kv_en]; omega, fun i v hi => ?_⟩
  unfold kv_en at hi
  by_cases hlt : i < (kv_fl vs).length
  · rw [List.getElem?_append_left hlt] at hi
    have := kv_fl_at E vs i v hi
    rw [List.getElem?_toArray, List.getElem?_append_left (by rw [kv_fl_len]; exact hlt)]
    exact this
  · rw [List.getElem?_append_right (by omega)] at hi
    have := List.mem_of_getElem? hi
    have := List.eq_of_mem_replicate this
    cases this
