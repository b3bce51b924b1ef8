/-! rows with memory -/
def kv_f (own : String) (idx ci k : Nat) : Prop := ∃ (C : String) (T : u_T) (N : Nat) (ty : Nat → FieldType), vwCl[ci]? = some (C, T, N) ∧ k < N ∧ Cond.fieldLink own idx (T k).1 (T k).2.1 (T k).2.2.1 ∈ TB ∧ (∀ w ∈ u_ws C T N, w ∈ TB) ∧ (∀ j, j < N → parseFieldDescriptor (T j).2.2.1 = some (ty j)) ∧ (∀ a, a < N → ∀ b, b < N → a ≠ b → (T a).2.1 ≠ (T b).2.1)
/-- what may be stored in a field: its type takes the value as it is -/
def kv_fit (ci k : Nat) (v : Value) : Prop := ∀ q : vw_C, vwCl[ci]? = some q → ∃ ty, parseFieldDescriptor (q.2.1 k).2.2.1 = some ty ∧ narrow ty v = v ∧ fits ty v = true
section PWM
variable {l : Launch} {E : EV} {D : va_G} {cA : Nat → ClassId} {N Z : Nat} {X : MT} {d : Nat} {fin : Option Value → List PE → Prop} {pc : Nat} {ls : List (Option Value)} {st : List Value} {M : List PE}
theorem kv_c_obj {ci : Nat} {fs : List Value} (h : ci < 100) : kv_c E cA (ci, fs) = .inr (ci, fs.map (kv_v E)) := by simp [kv_c, h]
theorem kv_c_int {t : Nat} {xs : List Value} (h : t < 3) : kv_c E cA (100 + t, xs) = .inl (cA t, xs.length, .inl (fun j => kv_io xs[j]?)) := by
  unfold kv_c
  rw [if_neg (by show ¬ 100 + t < 100; omega), if_neg (by show ¬ 103 ≤ 100 + t; omega)]
  show (Sum.inl (cA (100 + t - 100), _) : va_E) = _
  rw [Nat.add_sub_cancel_left]
theorem kv_c_ref {t : Nat} {xs : List Value} (h : 3 ≤ t) : kv_c E cA (100 + t, xs) = .inl (cA t, xs.length, .inr (.inr (.inr (.inr (fun j => kv_ro E xs[j]?))))) := by
  unfold kv_c
  rw [if_neg (by show ¬ 100 + t < 100; omega), if_pos (by show 103 ≤ 100 + t; omega)]
  show (Sum.inl (cA (100 + t - 100), _) : va_E) = _
  rw [Nat.add_sub_cancel_left]
theorem kv_in {i : Int32} {xs : List Value} {v : Value} (h0 : ¬ i < 0) (hv : xs[i.toNatClampNeg]? = some v) : vp_in i xs.length := by
  have := (List.getElem?_eq_some_iff.mp hv).1
  rintro (h | h)
  · exact h0 h
  · omega
theorem kv_inl {i : Int32} {n : Nat} (h0 : ¬ i < 0) (h1 : i.toNatClampNeg < n) : vp_in i n := by
  rintro (h | h)
  · exact h0 h
  · omega
theorem pw_getf {i idx ci k : Nat} {fs : List Value} {v : Value} (hd : decode X.2.2.1 pc = .ok (.getfield idx, 3)) (hf : kv_f X.1 idx ci k) (hci : ci < 100) (hM : M[i]? = some (ci, fs)) (hv : fs[k]? = some v) (kk : PW l E D cA N Z X d fin (pc + 3) ls (v :: st) M) (hi : i < 1000 := by omega) : PW l E D cA N Z X d fin pc ls (.ref i :: st) M := by
  intro p e R s m args below meth c Q n0 z0 H locs cells slots la B P
  obtain ⟨C, T, n, ty, hc, hk, hlink, hin, -, -⟩ := hf
  have hw := kv_w_at (E := E) (cA := cA) hM
  rw [kv_c_obj hci] at hw
  exact va_get B.1.1 B.1.2.1 B.1.2.2.2.2.1 hin B.1.2.2.2.1 B.2.1.1 P.1.2 i hw hc k hk (B.1.2.2.2.2.1 _ hlink) (fun _ h => h) (by rw [List.getElem?_map, hv]; rfl) hd (kk B P)
theorem kv_P.set {s : State} {n0 z0 : Nat} {H H1 : Heap} {locs locs1 : List Loc} {cells slots : Nat} {la : Array Slot} {i : Nat} {e0 e1 : PE} (P : kv_P E D cA X s n0 z0 ls M H locs cells slots la) (hM : M[i]? = some e0) (hl : e1.2.length = e0.2.length)
    (hP : va_P D vwCl ((kv_w E cA M).set i (kv_adr E i, kv_c E cA e1)) H1) (hS : va_S (kv_A E) s.heap H1 locs1) : kv_P E D cA X s n0 z0 ls (M.set i e1) H1 locs1 cells slots la :=
  ⟨⟨by rw [List.length_set]; exact P.1.1, by rw [kv_w_set]; exact hP⟩, hS, P.2.2.1, by rw [List.length_set]; exact P.2.2.2.1, by rw [kv_sum_set hM hl]; exact P.2.2.2.2⟩
theorem pw_putf {i idx ci k : Nat} {fs : List Value} {v : Value} (hd : decode X.2.2.1 pc = .ok (.putfield idx, 3)) (hf : kv_f X.1 idx ci k) (hci : ci < 100) (hM : M[i]? = some (ci, fs)) (hk2 : k < fs.length) (hfit : kv_fit ci k (kv_v E v)) (hfin : ∀ q : vw_C, vwCl[ci]? = some q → (q.2.1 k).2.2.2 = false ∨ ((q.2.1 k).2.2.2 = true ∧ X.2.1.name = "<init>" ∧ (q.2.1 k).1 = X.1)) (kk : PW l E D cA N Z X d fin (pc + 3) ls st (M.set i (ci, fs.set k v))) : PW l E D cA N Z X d fin pc ls (v :: .ref i :: st) M := by
  intro p e R s m args below meth c Q n0 z0 H locs cells slots la B P
  obtain ⟨C, T, n, ty, hc, hk, hlink, hin, hty, hnm⟩ := hf
  obtain ⟨ty9, hd9, hn9, hf9⟩ := hfit _ hc
  have hw := kv_w_at (E := E) (cA := cA) hM
  rw [kv_c_obj hci] at hw
  have go : ∀ (H1 : Heap) (locs1 : List Loc), va_P D vwCl ((kv_w E cA M).set i (kv_adr E i, .inr (ci, (fs.map (kv_v E)).set k (kv_v E v)))) H1 → va_D (kv_A E) ((kv_w E cA M).set i (kv_adr E i, .inr (ci, (fs.map (kv_v E)).set k (kv_v E v)))) → va_S (kv_A E) s.heap H1 locs1 → W p l e R s m args below meth c H1 locs1 cells slots Q (F0 m (pc + 3) la (st.map (kv_v E))) := by
    intro H1 locs1 hP _ hS
    refine kk B (P.set (e1 := (ci, fs.set k v)) hM (by simp) ?_ hS)
    rw [kv_c_obj hci, List.map_set]
    exact hP
  rcases hfin _ hc with h0 | ⟨h0, h1, h2⟩
  · exact va_put B.1.1 B.1.2.1 B.1.2.2.2.2.1 hin ty hty hnm B.1.2.2.2.1 B.2.1.1 P.1.2 P.1.apart P.2.1 i hw hc k hk (B.1.2.2.2.2.1 _ hlink) (fun _ h => h) h0 hd9 hn9 hf9 (by rw [List.length_map]; exact hk2) hd go
  · exact va_putF B.1.1 B.1.2.1 B.1.2.2.2.2.1 hin ty hty hnm B.1.2.2.2.1 B.2.1.1 P.1.2 P.1.apart P.2.1 i hw hc k hk (B.1.2.2.2.2.1 _ hlink) (fun _ h => h) h0 (B.1.2.2.2.2.2 h1) h2 hd9 hn9 hf9 (by rw [List.length_map]; exact hk2) hd go
/-! arrays -/
theorem kv_io_set {xs : List Value} {k : Nat} {x : Int32} (h : k < xs.length) : (fun j => kv_io (xs.set k (.int x))[j]?) = upd (fun j => kv_io xs[j]?) k x := by
  funext j
  rw [List.getElem?_set]
  by_cases e : k = j
  · subst e
    simp [h, upd, kv_io]
  · have e2 : ¬ j = k := fun q => e q.symm
    simp [e, e2, upd]
theorem kv_ro_set {xs : List Value} {k r : Nat} (h : k < xs.length) : (fun j => kv_ro E (xs.set k (.ref r))[j]?) = va_up (fun j => kv_ro E xs[j]?) k (some (kv_adr E r)) := by
  funext j
  rw [List.getElem?_set]
  by_cases e : k = j
  · subst e
    simp [h, va_up, kv_ro]
  · have e2 : ¬ j = k := fun q => e q.symm
    simp [e, e2, va_up]
theorem pw_iaload {i : Nat} {ix x : Int32} {xs : List Value} (hd : decode X.2.2.1 pc = .ok (.iaload, 1)) (hM : M[i]? = some (100, xs)) (h0 : ¬ ix < 0) (hv : xs[ix.toNatClampNeg]? = some (.int x)) (kk : PW l E D cA N Z X d fin (pc + 1) ls (.int x :: st) M) : PW l E D cA N Z X d fin pc ls (.int ix :: .ref i :: st) M := by
  intro p e R s m args below meth c Q n0 z0 H locs cells slots la B P
  have hw := kv_w_at (E := E) (cA := cA) hM
  rw [show (100 : Nat) = 100 + 0 from rfl, kv_c_int (by decide)] at hw
  refine va_iald B.1.1 B.1.2.1 B.2.1.1 P.1.2 i 0 hw rfl (kv_in h0 hv) hd ?_
  have hx : kv_io xs[ix.toNatClampNeg]? = x := by rw [hv]; rfl
  rw [hx]
  exact kk B P
theorem pw_caload {i : Nat} {ix x : Int32} {xs : List Value} (hd : decode X.2.2.1 pc = .ok (.caload, 1)) (hM : M[i]? = some (101, xs)) (h0 : ¬ ix < 0) (hv : xs[ix.toNatClampNeg]? = some (.int x)) (kk : PW l E D cA N Z X d fin (pc + 1) ls (.int x :: st) M) : PW l E D cA N Z X d fin pc ls (.int ix :: .ref i :: st) M := by
  intro p e R s m args below meth c Q n0 z0 H locs cells slots la B P
  have hw := kv_w_at (E := E) (cA := cA) hM
  rw [show (101 : Nat) = 100 + 1 from rfl, kv_c_int (by decide)] at hw
  refine va_cald B.1.1 B.1.2.1 B.2.1.1 P.1.2 i 1 hw rfl (kv_in h0 hv) hd ?_
  have hx : kv_io xs[ix.toNatClampNeg]? = x := by rw [hv]; rfl
  rw [hx]
  exact kk B P
theorem pw_baload {i : Nat} {ix x : Int32} {xs : List Value} (hd : decode X.2.2.1 pc = .ok (.baload, 1)) (hM : M[i]? = some (102, xs)) (h0 : ¬ ix < 0) (hv : xs[ix.toNatClampNeg]? = some (.int x)) (kk : PW l E D cA N Z X d fin (pc + 1) ls (.int x :: st) M) : PW l E D cA N Z X d fin pc ls (.int ix :: .ref i :: st) M := by
  intro p e R s m args below meth c Q n0 z0 H locs cells slots la B P
  have hw := kv_w_at (E := E) (cA := cA) hM
  rw [show (102 : Nat) = 100 + 2 from rfl, kv_c_int (by decide)] at hw
  refine va_zald B.1.1 B.1.2.1 B.2.1.1 P.1.2 i 2 hw rfl (kv_in h0 hv) hd ?_
  have hx : kv_io xs[ix.toNatClampNeg]? = x := by rw [hv]; rfl
  rw [hx]
  exact kk B P
theorem pw_iastore {i : Nat} {ix x : Int32} {xs : List Value} (hd : decode X.2.2.1 pc = .ok (.iastore, 1)) (hM : M[i]? = some (100, xs)) (h0 : ¬ ix < 0) (h1 : ix.toNatClampNeg < xs.length) (kk : PW l E D cA N Z X d fin (pc + 1) ls st (M.set i (100, xs.set ix.toNatClampNeg (.int x)))) : PW l E D cA N Z X d fin pc ls (.int x :: .int ix :: .ref i :: st) M := by
  intro p e R s m args below meth c Q n0 z0 H locs cells slots la B P
  have hw := kv_w_at (E := E) (cA := cA) hM
  rw [show (100 : Nat) = 100 + 0 from rfl, kv_c_int (by decide)] at hw
  refine va_iast B.1.1 B.1.2.1 B.2.1.1 P.1.2 P.1.apart P.2.1 i 0 hw rfl (kv_inl h0 h1) hd (fun H1 locs1 hP _ hS => kk B (P.set (e1 := (100, xs.set ix.toNatClampNeg (.int x))) hM (by simp) ?_ hS))
  rw [show (100 : Nat) = 100 + 0 from rfl, kv_c_int (by decide), kv_io_set h1, List.length_set]
  exact hP
theorem pw_castore {i : Nat} {ix x : Int32} {xs : List Value} (hd : decode X.2.2.1 pc = .ok (.castore, 1)) (hM : M[i]? = some (101, xs)) (h0 : ¬ ix < 0) (h1 : ix.toNatClampNeg < xs.length) (kk : PW l E D cA N Z X d fin (pc + 1) ls st (M.set i (101, xs.set ix.toNatClampNeg (.int (vp_nar .char x))))) : PW l E D cA N Z X d fin pc ls (.int x :: .int ix :: .ref i :: st) M := by
  intro p e R s m args below meth c Q n0 z0 H locs cells slots la B P
  have hw := kv_w_at (E := E) (cA := cA) hM
  rw [show (101 : Nat) = 100 + 1 from rfl, kv_c_int (by decide)] at hw
  refine va_cast B.1.1 B.1.2.1 B.2.1.1 P.1.2 P.1.apart P.2.1 i 1 hw rfl (kv_inl h0 h1) hd (fun H1 locs1 hP _ hS => kk B (P.set (e1 := (101, xs.set ix.toNatClampNeg (.int (vp_nar .char x)))) hM (by simp) ?_ hS))
  rw [show (101 : Nat) = 100 + 1 from rfl, kv_c_int (by decide), kv_io_set h1, List.length_set]
  exact hP
theorem pw_bastore {i : Nat} {ix x : Int32} {xs : List Value} (hd : decode X.2.2.1 pc = .ok (.bastore, 1)) (hM : M[i]? = some (102, xs)) (h0 : ¬ ix < 0) (h1 : ix.toNatClampNeg < xs.length) (kk : PW l E D cA N Z X d fin (pc + 1) ls st (M.set i (102, xs.set ix.toNatClampNeg (.int (vp_nar .boolean x))))) : PW l E D cA N Z X d fin pc ls (.int x :: .int ix :: .ref i :: st) M := by
  intro p e R s m args below meth c Q n0 z0 H locs cells slots la B P
  have hw := kv_w_at (E := E) (cA := cA) hM
  rw [show (102 : Nat) = 100 + 2 from rfl, kv_c_int (by decide)] at hw
  refine va_zast B.1.1 B.1.2.1 B.2.1.1 P.1.2 P.1.apart P.2.1 i 2 hw rfl (kv_inl h0 h1) hd (fun H1 locs1 hP _ hS => kk B (P.set (e1 := (102, xs.set ix.toNatClampNeg (.int (vp_nar .boolean x)))) hM (by simp) ?_ hS))
  rw [show (102 : Nat) = 100 + 2 from rfl, kv_c_int (by decide), kv_io_set h1, List.length_set]
  exact hP
theorem pw_aaload {i t r : Nat} {ix : Int32} {xs : List Value} (hd : decode X.2.2.1 pc = .ok (.aaload, 1)) (hM : M[i]? = some (100 + t, xs)) (ht : t = 3 ∨ t = 4 ∨ t = 5) (h0 : ¬ ix < 0) (hv : xs[ix.toNatClampNeg]? = some (.ref r)) (kk : PW l E D cA N Z X d fin (pc + 1) ls (.ref r :: st) M) : PW l E D cA N Z X d fin pc ls (.int ix :: .ref i :: st) M := by
  intro p e R s m args below meth c Q n0 z0 H locs cells slots la B P
  have hw := kv_w_at (E := E) (cA := cA) hM
  have h3 : 3 ≤ t := by omega
  rw [kv_c_ref h3] at hw
  have hlt := (List.getElem?_eq_some_iff.mp hv).1
  obtain ⟨ty, hty, hr⟩ : ∃ ty, (kv_tys cA)[t]? = some (cA t, ty) ∧ ty.isReference = true := by
    rcases ht with rfl | rfl | rfl
    · exact ⟨_, rfl, rfl⟩
    · exact ⟨_, rfl, rfl⟩
    · exact ⟨_, rfl, rfl⟩
  have hin := kv_in h0 hv
  refine W.aald (v := .ref (kv_adr E r)) (ty := ty) B.1.1 B.1.2.1 (P.1.2 i _ hw) ((B.2.1.1.2 t _ hty).1 xs.length (fun j => va_rf (kv_ro E xs[j]?))) hr (fun q => by cases q) (by show ¬ (ix < 0 ∨ (arrV _ _ _).slots.size ≤ _); rw [arrV_size]; exact hin) (by show (arrV _ _ _).slots[_]? = _; rw [arrV_read _ _ hlt]; show some (va_rf (kv_ro E xs[ix.toNatClampNeg]?)) = _; rw [hv]; rfl) rfl rfl hd ?_
  exact kk B P
theorem pw_aastore {i ci r : Nat} {t : Nat} {q : vw_C} {ix : Int32} {xs fs : List Value} (hd : decode X.2.2.1 pc = .ok (.aastore, 1)) (hM : M[i]? = some (100 + t, xs)) (ht : (kv_tys cA)[t]? = some (cA t, .object q.1)) (h3 : 3 ≤ t) (h0 : ¬ ix < 0) (h1 : ix.toNatClampNeg < xs.length) (hr : M[r]? = some (ci, fs)) (hci : ci < 100) (hc : vwCl[ci]? = some q)
    (kk : PW l E D cA N Z X d fin (pc + 1) ls st (M.set i (100 + t, xs.set ix.toNatClampNeg (.ref r)))) : PW l E D cA N Z X d fin pc ls (.ref r :: .int ix :: .ref i :: st) M := by
  intro p e R s m args below meth c Q n0 z0 H locs cells slots la B P
  have hw := kv_w_at (E := E) (cA := cA) hM
  rw [kv_c_ref h3] at hw
  have hv := kv_w_at (E := E) (cA := cA) hr
  rw [kv_c_obj hci] at hv
  refine va_astq B.1.1 B.1.2.1 B.2.1.1 P.1.2 P.1.apart P.2.1 i t r ci hw ht hv hc (kv_inl h0 h1) hd (fun H1 locs1 hP _ hS => kk B (P.set (e1 := (100 + t, xs.set ix.toNatClampNeg (.ref r))) hM (by simp) ?_ hS))
  rw [kv_c_ref h3, kv_ro_set h1, List.length_set]
  exact hP
theorem pw_alen {i t : Nat} {xs : List Value} (hd : decode X.2.2.1 pc = .ok (.arraylength, 1)) (hM : M[i]? = some (100 + t, xs)) (ht : t < 3) (kk : PW l E D cA N Z X d fin (pc + 1) ls (.int (Int32.ofNat xs.length) :: st) M) : PW l E D cA N Z X d fin pc ls (.ref i :: st) M := by
  intro p e R s m args below meth c Q n0 z0 H locs cells slots la B P
  have hw := kv_w_at (E := E) (cA := cA) hM
  rw [kv_c_int ht] at hw
  obtain ⟨ty, hty⟩ : ∃ ty, (kv_tys cA)[t]? = some (cA t, ty) := by
    match t, ht with
    | 0, _ => exact ⟨_, rfl⟩
    | 1, _ => exact ⟨_, rfl⟩
    | 2, _ => exact ⟨_, rfl⟩
  exact va_alen B.1.1 B.1.2.1 B.2.1.1 P.1.2 i t hw hty rfl hd (kk B P)
/-! the tables that nobody writes: numbers 1000 and on -/
theorem kv_adr_s {k : Nat} : kv_adr E (1000 + k) = E.2.1 k := by
  unfold kv_adr
  rw [if_neg (by omega), Nat.add_sub_cancel_left]
theorem pw_iaload_s {k : Nat} {ix : Int32} (hd : decode X.2.2.1 pc = .ok (.iaload, 1)) (hk : k < 4) (h0 : ¬ ix < 0) (h1 : ix.toNatClampNeg < E.2.2.1 k) (kk : PW l E D cA N Z X d fin (pc + 1) ls (.int (E.2.2.2 k ix.toNatClampNeg) :: st) M) : PW l E D cA N Z X d fin pc ls (.int ix :: .ref (1000 + k) :: st) M := by
  intro p e R s m args below meth c Q n0 z0 H locs cells slots la B P
  have h := va_ti B.1.1 B.1.2.1 (B.2.1.2.2.2.2.2.1 k hk) P.2.1 (i := ix) (kv_inl h0 h1) rfl hd (kk B P)
  rw [← kv_adr_s] at h
  exact h
theorem pw_alen_s {k : Nat} (hd : decode X.2.2.1 pc = .ok (.arraylength, 1)) (hk : k < 4) (kk : PW l E D cA N Z X d fin (pc + 1) ls (.int (Int32.ofNat (E.2.2.1 k)) :: st) M) : PW l E D cA N Z X d fin pc ls (.ref (1000 + k) :: st) M := by
  intro p e R s m args below meth c Q n0 z0 H locs cells slots la B P
  have h := va_tlen B.1.1 B.1.2.1 (B.2.1.2.2.2.2.2.1 k hk) P.2.1 rfl hd (kk B P)
  rw [← kv_adr_s] at h
  exact h
theorem pw_gets {k idx : Nat} {nm : String} (hd : decode X.2.2.1 pc = .ok (.getstatic idx, 3)) (hn : (k, nm) ∈ [(0, "FIRST_SETTINGS"), (1, "LEAST_SETTINGS"), (2, "MOST_SETTINGS")]) (hw : Cond.fieldLink X.1 idx RX5 nm "[I" ∈ TB) (kk : PW l E D cA N Z X d fin (pc + 3) ls (.ref (1000 + k) :: st) M) : PW l E D cA N Z X d fin pc ls st M := by
  intro p e R s m args below meth c Q n0 z0 H locs cells slots la B P
  have hz : va_Z RX5 nm "[I" (.ref (E.2.1 k)) (kv_A E) s s.heap := by
    obtain ⟨z0, z1, z2⟩ := B.2.1.2.2.2.2.2.2
    simp only [List.mem_cons, Prod.mk.injEq, List.not_mem_nil, or_false] at hn
    rcases hn with ⟨rfl, rfl⟩ | ⟨rfl, rfl⟩ | ⟨rfl, rfl⟩
    · exact z0
    · exact z1
    · exact z2
  refine va_gets B.1.1 B.1.2.1 hz P.2.1 B.1.2.2.2.1 (B.1.2.2.2.2.1 _ hw) (fun _ h => h) hd ?_
  have h := kk B P
  rw [List.map_cons] at h
  show W p l e R s m args below meth c H locs cells slots Q (F0 m (pc + 3) la (.ref (E.2.1 k) :: st.map (kv_v E)))
  rw [← kv_adr_s]
  exact h
theorem pw_getsN (hd : decode X.2.2.1 pc = .ok (.getstatic 30, 3)) (hX : X.1 = RX3) (kk : PW l E D cA N Z X d fin (pc + 3) ls (.ref 1000 :: st) M) : PW l E D cA N Z X d fin pc ls st M := by
  intro p e R s m args below meth c Q n0 z0 H locs cells slots la B P
  have hw : va_Nw (.fieldLinkNest X.1 30 RX5 "FIRST_SETTINGS" "[I" RX5) s := by
    rw [hX]
    exact B.2.1.2.2.2.2.1 _ (by simp [kv_NW])
  refine va_getsN B.1.1 B.1.2.1 B.2.1.2.2.2.2.2.2.1 P.2.1 B.1.2.2.2.1 (va_Nw.use rfl hw) (fun _ h => h) hd ?_
  have h := kk B P
  rw [List.map_cons] at h
  show W p l e R s m args below meth c H locs cells slots Q (F0 m (pc + 3) la (.ref (E.2.1 0) :: st.map (kv_v E)))
  rw [← kv_adr_s]
  exact h
end PWM
