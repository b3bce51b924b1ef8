/-! the world at the law's entry -/
theorem kv_AOI_spec {u : State} (h : kv_AOI u) : ∃ c k comp', u.vm.classes[c]? = some k ∧ k.kind = .array comp' (.array .int) ∧ u.vm.findClass ("[" ++ (FieldType.array .int).toString) = some c := by
  unfold kv_AOI Cond.before Cond.holds at h
  simp only [Cond.value, beq_iff_eq] at h
  cases hc : u.vm.findClass (FieldType.array .int).toString with
  | none => simp [hc] at h
  | some comp =>
    simp only [hc, Option.bind_some, Option.bind_eq_some_iff, Option.map_eq_some_iff] at h
    obtain ⟨c, hi, k, hk, hb⟩ := h
    cases hkind : k.kind with
    | array component ty =>
      rw [hkind] at hb
      simp at hb
      exact ⟨c, k, component, hk, by rw [hkind, hb.1], hb.2⟩
    | _ => rw [hkind] at hb; simp at hb
theorem tm_w (i : Nat) {w : Cond} (h : tables_1[i]? = some w) : w ∈ lw_tbl := List.mem_append_right _ (List.mem_of_getElem? h)
/-- the classes and arrays as the tables have them -/
theorem wd_K {s : State} {args : Array Value} (hts : ∀ w ∈ lw_tbl, w.before args s = true) : ∃ (D : va_G) (cA : Nat → ClassId), va_K D vwCl (kv_tys cA) s ∧ va_AO RX3 s ∧ va_AO RX4 s ∧ kv_AOI s ∧ ∀ w ∈ kv_NW, va_Nw w s := by
  have htb : ∀ w ∈ TB, w.before args s = true := fun w h => hts w (TB_tbl h)
  obtain ⟨c0, i0, k0⟩ := u_known (C := RX0) (T := TX0) (N := 11) (n := 11) htb inX0 (hts (.instantiable RX0 11) (tm_w 100 (by decide +kernel)))
  obtain ⟨c1, i1, k1⟩ := u_known (C := RX1) (T := TX1) (N := 3) (n := 3) htb inX1 (hts (.instantiable RX1 3) (tm_w 164 (by decide +kernel)))
  obtain ⟨c2, i2, k2⟩ := u_known (C := RX2) (T := TX2) (N := 2) (n := 2) htb inX2 (hts (.instantiable RX2 2) (tm_w 149 (by decide +kernel)))
  obtain ⟨c3, i3, k3⟩ := u_known (C := RX3) (T := TX3) (N := 7) (n := 7) htb inX3 (hts (.instantiable RX3 7) (tm_w 20 (by decide +kernel)))
  obtain ⟨c4, i4, k4⟩ := u_known (C := RX4) (T := TX4) (N := 5) (n := 5) htb inX4 (hts (.instantiable RX4 5) (tm_w 32 (by decide +kernel)))
  obtain ⟨c5, i5, k5⟩ := u_known (C := RX5) (T := TX5) (N := 7) (n := 7) htb inX5 (hts (.instantiable RX5 7) (tm_w 12 (by decide +kernel)))
  have aoI : kv_AOI s := hts (.arrayOver (.array .int)) (tm_w 106 (by decide +kernel))
  have ao3 : va_AO RX3 s := va_AO.of (hts (.arrayOver (.object RX3)) (tm_w 170 (by decide +kernel)))
  have ao4 : va_AO RX4 s := va_AO.of (hts (.arrayOver (.object RX4)) (tm_w 26 (by decide +kernel)))
  obtain ⟨a0, x0, y0, f0, g0, h0⟩ := Cond.arrayClass_spec (hts (.arrayClass .int) (tm_w 65 (by decide +kernel)))
  obtain ⟨a1, x1, y1, f1, g1, h1⟩ := Cond.arrayClass_spec (hts (.arrayClass .char) (tm_w 162 (by decide +kernel)))
  obtain ⟨a2, x2, y2, f2, g2, h2⟩ := Cond.arrayClass_spec (hts (.arrayClass .boolean) (tm_w 205 (by decide +kernel)))
  obtain ⟨a3, x3, y3, g3, h3, f3⟩ := kv_AOI_spec aoI
  obtain ⟨e4, a4, x4, f4, -, g4, h4, j4⟩ := Cond.arrayOver_spec (va_AO.use (A := args) ao3)
  obtain ⟨e5, a5, x5, f5, -, g5, h5, j5⟩ := Cond.arrayOver_spec (va_AO.use (A := args) ao4)
  refine ⟨(fun k => match k with | 0 => c0 | 1 => c1 | 2 => c2 | 3 => c3 | 4 => c4 | _ => c5, fun k => match k with | 0 => i0 | 1 => i1 | 2 => i2 | 3 => i3 | 4 => i4 | _ => i5), (fun k => match k with | 0 => a0 | 1 => a1 | 2 => a2 | 3 => a3 | 4 => a4 | _ => a5), ⟨?_, ?_⟩, ao3, ao4, aoI, ?_⟩
  · intro k q hq
    match k, hq with
    | 0, hq => cases hq; exact k0
    | 1, hq => cases hq; exact k1
    | 2, hq => cases hq; exact k2
    | 3, hq => cases hq; exact k3
    | 4, hq => cases hq; exact k4
    | 5, hq => cases hq; exact k5
    | k + 6, hq => simp [vwCl] at hq
  · intro k q hq
    match k, hq with
    | 0, hq => cases hq; exact ⟨fun n z => ⟨(fun k h => (by cases h)), x0, g0, y0, h0⟩, f0⟩
    | 1, hq => cases hq; exact ⟨fun n z => ⟨(fun k h => (by cases h)), x1, g1, y1, h1⟩, f1⟩
    | 2, hq => cases hq; exact ⟨fun n z => ⟨(fun k h => (by cases h)), x2, g2, y2, h2⟩, f2⟩
    | 3, hq => cases hq; exact ⟨fun n z => ⟨(fun k h => (by cases h)), x3, g3, y3, h3⟩, f3⟩
    | 4, hq => cases hq; exact ⟨fun n z => ⟨(fun k h => (by cases h)), x4, g4, e4, h4⟩, x4, e4, g4, h4, f4, j4⟩
    | 5, hq => cases hq; exact ⟨fun n z => ⟨(fun k h => (by cases h)), x5, g5, e5, h5⟩, x5, e5, g5, h5, f5, j5⟩
    | k + 6, hq => simp [kv_tys] at hq
  · intro w hw
    simp only [kv_NW, List.mem_cons, List.not_mem_nil, or_false] at hw
    rcases hw with rfl | rfl | rfl | rfl | rfl | rfl
    · exact va_Nw.of rfl (hts _ (tm_w 33 (by decide +kernel)))
    · exact va_Nw.of rfl (hts _ (tm_w 101 (by decide +kernel)))
    · exact va_Nw.of rfl (hts _ (tm_w 150 (by decide +kernel)))
    · exact va_Nw.of rfl (hts _ (tm_w 497 (by decide +kernel)))
    · exact va_Nw.of rfl (hts _ (tm_w 483 (by decide +kernel)))
    · exact va_Nw.of rfl (hts _ (tm_w 27 (by decide +kernel)))
theorem wd_T0 {s : State} {args : Array Value} {A : Nat → Prop} (hts : ∀ w ∈ lw_tbl, w.before args s = true) (hgv : (Jvm.Cond.and given_1 narrow_1).before args s = true) (hA : ∀ a : Nat, a < s.heap.size → ¬ A a) : ∃ t : Nat, va_T .int t 3 (fun j => .int (nI (fiS j))) A s s.heap ∧ va_Z RX5 "FIRST_SETTINGS" "[I" (.ref t) A s s.heap := by
  have hs := flat_of_before _ hgv
  obtain ⟨t, h1, h2⟩ := va_Tof (args := args) (s := s) (tm := (Term.static "TrailTeams" "FIRST_SETTINGS" "[I")) (ty := .int) (N := 3) (f := fun j => .int (nI (fiS j))) (A := A) (by decide) (hs (.arrayOf (Term.static "TrailTeams" "FIRST_SETTINGS" "[I") .int) (by decide +kernel)) (va_eqt (hs (.eq (.length (Term.static "TrailTeams" "FIRST_SETTINGS" "[I")) (.int 3)) (by decide +kernel))) (fun j hj => by
    rcases (show j = 0 ∨ j = 1 ∨ j = 2 by omega) with rfl | rfl | rfl
    · exact va_eqt (hs (.eq (.elem (Term.static "TrailTeams" "FIRST_SETTINGS" "[I") (.int 0)) (.int 10)) (by decide +kernel))
    · exact va_eqt (hs (.eq (.elem (Term.static "TrailTeams" "FIRST_SETTINGS" "[I") (.int 1)) (.int 200)) (by decide +kernel))
    · exact va_eqt (hs (.eq (.elem (Term.static "TrailTeams" "FIRST_SETTINGS" "[I") (.int 2)) (.int 2)) (by decide +kernel))) hA
  exact ⟨t, h2, va_Zref (hts (.laysStatic "TrailTeams" "FIRST_SETTINGS" "[I") (tm_w 28 (by decide +kernel))) (hts (.initialized "TrailTeams") (tm_w 1 (by decide +kernel))) h1 hA⟩
theorem wd_T1 {s : State} {args : Array Value} {A : Nat → Prop} (hts : ∀ w ∈ lw_tbl, w.before args s = true) (hgv : (Jvm.Cond.and given_1 narrow_1).before args s = true) (hA : ∀ a : Nat, a < s.heap.size → ¬ A a) : ∃ t : Nat, va_T .int t 3 (fun j => .int (nI (loS j))) A s s.heap ∧ va_Z RX5 "LEAST_SETTINGS" "[I" (.ref t) A s s.heap := by
  have hs := flat_of_before _ hgv
  obtain ⟨t, h1, h2⟩ := va_Tof (args := args) (s := s) (tm := (Term.static "TrailTeams" "LEAST_SETTINGS" "[I")) (ty := .int) (N := 3) (f := fun j => .int (nI (loS j))) (A := A) (by decide) (hs (.arrayOf (Term.static "TrailTeams" "LEAST_SETTINGS" "[I") .int) (by decide +kernel)) (va_eqt (hs (.eq (.length (Term.static "TrailTeams" "LEAST_SETTINGS" "[I")) (.int 3)) (by decide +kernel))) (fun j hj => by
    rcases (show j = 0 ∨ j = 1 ∨ j = 2 by omega) with rfl | rfl | rfl
    · exact va_eqt (hs (.eq (.elem (Term.static "TrailTeams" "LEAST_SETTINGS" "[I") (.int 0)) (.int 0)) (by decide +kernel))
    · exact va_eqt (hs (.eq (.elem (Term.static "TrailTeams" "LEAST_SETTINGS" "[I") (.int 1)) (.int 0)) (by decide +kernel))
    · exact va_eqt (hs (.eq (.elem (Term.static "TrailTeams" "LEAST_SETTINGS" "[I") (.int 2)) (.int 1)) (by decide +kernel))) hA
  exact ⟨t, h2, va_Zref (hts (.laysStatic "TrailTeams" "LEAST_SETTINGS" "[I") (tm_w 215 (by decide +kernel))) (hts (.initialized "TrailTeams") (tm_w 1 (by decide +kernel))) h1 hA⟩
theorem wd_T2 {s : State} {args : Array Value} {A : Nat → Prop} (hts : ∀ w ∈ lw_tbl, w.before args s = true) (hgv : (Jvm.Cond.and given_1 narrow_1).before args s = true) (hA : ∀ a : Nat, a < s.heap.size → ¬ A a) : ∃ t : Nat, va_T .int t 3 (fun j => .int (nI (hiS j))) A s s.heap ∧ va_Z RX5 "MOST_SETTINGS" "[I" (.ref t) A s s.heap := by
  have hs := flat_of_before _ hgv
  obtain ⟨t, h1, h2⟩ := va_Tof (args := args) (s := s) (tm := (Term.static "TrailTeams" "MOST_SETTINGS" "[I")) (ty := .int) (N := 3) (f := fun j => .int (nI (hiS j))) (A := A) (by decide) (hs (.arrayOf (Term.static "TrailTeams" "MOST_SETTINGS" "[I") .int) (by decide +kernel)) (va_eqt (hs (.eq (.length (Term.static "TrailTeams" "MOST_SETTINGS" "[I")) (.int 3)) (by decide +kernel))) (fun j hj => by
    rcases (show j = 0 ∨ j = 1 ∨ j = 2 by omega) with rfl | rfl | rfl
    · exact va_eqt (hs (.eq (.elem (Term.static "TrailTeams" "MOST_SETTINGS" "[I") (.int 0)) (.int 50)) (by decide +kernel))
    · exact va_eqt (hs (.eq (.elem (Term.static "TrailTeams" "MOST_SETTINGS" "[I") (.int 1)) (.int 500)) (by decide +kernel))
    · exact va_eqt (hs (.eq (.elem (Term.static "TrailTeams" "MOST_SETTINGS" "[I") (.int 2)) (.int 5)) (by decide +kernel))) hA
  exact ⟨t, h2, va_Zref (hts (.laysStatic "TrailTeams" "MOST_SETTINGS" "[I") (tm_w 217 (by decide +kernel))) (hts (.initialized "TrailTeams") (tm_w 1 (by decide +kernel))) h1 hA⟩
