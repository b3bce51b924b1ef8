/-! rows for the constructors: memory as an opaque front and a written rest -/
/-- the tables, of the world without the law's rows -/
def ESV (E : EV) : Prop := E.2.2.1 0 = 3 ∧ E.2.2.1 1 = 3 ∧ E.2.2.1 2 = 3 ∧ ∀ j, j < 3 → E.2.2.2 0 j = nI (fiS j) ∧ E.2.2.2 1 j = nI (loS j) ∧ E.2.2.2 2 j = nI (hiS j)
theorem ESV.es {E : EV} {Y : List PE} (h : ESV E) : ES (E, Y) := h
theorem kv_sum_app2 (A B : List PE) : kv_sum (A ++ B) = kv_sum A + kv_sum B := by simp [kv_sum]
theorem kv_sum_cons (e : PE) (M : List PE) : kv_sum (e :: M) = e.2.length + kv_sum M := by simp [kv_sum]
theorem kv_sum_nil : kv_sum ([] : List PE) = 0 := rfl
def noref (fs : List Value) : Bool := fs.all (fun v => match v with | .ref _ => false | _ => true)
theorem noref_of {fs : List Value} (h : noref fs = true) : ∀ v ∈ fs, ∀ i, v ≠ .ref i := by
  intro v hv i e
  subst e
  unfold noref at h
  rw [List.all_eq_true] at h
  have h9 := h _ hv
  simp at h9
def fz3 : List Value := [.null, .null, .null, .null, .int 0, .null, .int 0]
theorem df3 : ∀ j, j < 7 → defaultValue (tyX3 j) = vp_V fz3 j := by decide +kernel
def fz4 : List Value := [.null, .int 0, .int 0, .int 0, .int 0]
theorem df4 : ∀ j, j < 5 → defaultValue (tyX4 j) = vp_V fz4 j := by decide +kernel
def fz0 : List Value := [.null, .int 0, .null, .null, .null, .null, .null, .null, .null, .null, .null]
theorem df0 : ∀ j, j < 11 → defaultValue (tyX0 j) = vp_V fz0 j := by decide +kernel
def fz2 : List Value := [.null, .int 0]
theorem df2 : ∀ j, j < 2 → defaultValue (tyX2 j) = vp_V fz2 j := by decide +kernel
def fz1 : List Value := [.null, .int 0, .int 0]
theorem df1 : ∀ j, j < 3 → defaultValue (tyX1 j) = vp_V fz1 j := by decide +kernel
def fz5 : List Value := [.null, .null, .null, .null, .null, .null, .null]
theorem df5 : ∀ j, j < 7 → defaultValue (tyX5 j) = vp_V fz5 j := by decide +kernel
theorem kn_X5_7 : kv_new RX5 7 3 fz3 := ⟨_, _, _, tyX3, rfl, by decide, (tb_t 19 (by decide +kernel) rfl), (tb_t 20 (by decide +kernel) rfl), (tb_t 2 (by decide +kernel) rfl), inX3, tyX3_ok, df3, rfl, noref_of (by decide)⟩
theorem kn_X3_24 : kv_new RX3 24 4 fz4 := ⟨_, _, _, tyX4, rfl, by decide, (tb_t 25 (by decide +kernel) rfl), (tb_t 32 (by decide +kernel) rfl), (tb_t 4 (by decide +kernel) rfl), inX4, tyX4_ok, df4, rfl, noref_of (by decide)⟩
theorem kn_X5_19 : kv_new RX5 19 0 fz0 := ⟨_, _, _, tyX0, rfl, by decide, (tb_t 99 (by decide +kernel) rfl), (tb_t 100 (by decide +kernel) rfl), (tb_t 5 (by decide +kernel) rfl), inX0, tyX0_ok, df0, rfl, noref_of (by decide)⟩
theorem kn_X5_26 : kv_new RX5 26 2 fz2 := ⟨_, _, _, tyX2, rfl, by decide, (tb_t 148 (by decide +kernel) rfl), (tb_t 149 (by decide +kernel) rfl), (tb_t 6 (by decide +kernel) rfl), inX2, tyX2_ok, df2, rfl, noref_of (by decide)⟩
theorem kn_X5_33 : kv_new RX5 33 1 fz1 := ⟨_, _, _, tyX1, rfl, by decide, (tb_t 163 (by decide +kernel) rfl), (tb_t 164 (by decide +kernel) rfl), (tb_t 7 (by decide +kernel) rfl), inX1, tyX1_ok, df1, rfl, noref_of (by decide)⟩
theorem kn_X1_9 : kv_new RX1 9 3 fz3 := ⟨_, _, _, tyX3, rfl, by decide, (tb_t 169 (by decide +kernel) rfl), (tb_t 20 (by decide +kernel) rfl), (tb_t 2 (by decide +kernel) rfl), inX3, tyX3_ok, df3, rfl, noref_of (by decide)⟩
theorem kn_L_10 : kv_new RL 10 5 fz5 := ⟨_, _, _, tyX5, rfl, by decide, (tb_t 11 (by decide +kernel) rfl), (tb_t 12 (by decide +kernel) rfl), (tb_t 1 (by decide +kernel) rfl), inX5, tyX5_ok, df5, rfl, noref_of (by decide)⟩
theorem ak_int : Cond.arrayClass (newarray.typeOf .int) ∈ TB := (tb_t 65 (by decide +kernel) rfl)
theorem ak_char : Cond.arrayClass (newarray.typeOf .char) ∈ TB := (tb_t 162 (by decide +kernel) rfl)
theorem ak_bool : Cond.arrayClass (newarray.typeOf .boolean) ∈ TB := (tb_t 205 (by decide +kernel) rfl)
theorem cl_X3_24 : Cond.classLink RX3 24 RX4 ∈ TB := (tb_t 25 (by decide +kernel) rfl)
theorem cl_X5_7 : Cond.classLink RX5 7 RX3 ∈ TB := (tb_t 19 (by decide +kernel) rfl)
theorem cl_X1_9 : Cond.classLink RX1 9 RX3 ∈ TB := (tb_t 169 (by decide +kernel) rfl)
theorem cl_X0_15 : Cond.classLink RX0 15 ("[" ++ (FieldType.array .int).toString) ∈ TB := (tb_t 105 (by decide +kernel) rfl)
theorem pa_at {M0 L : List PE} {b j : Nat} (hb : M0.length = b) : (M0 ++ L)[b + j]? = L[j]? := by
  rw [List.getElem?_append_right (by omega)]
  congr 1
  omega
theorem pa_set {M0 L : List PE} {b j : Nat} {e : PE} (hb : M0.length = b) : (M0 ++ L).set (b + j) e = M0 ++ L.set j e := by
  rw [List.set_append_right _ _ (by omega)]
  congr 2
  omega
theorem pa_len {M0 L : List PE} {b r : Nat} (hb : M0.length = b) (hr : b + L.length = r) : (M0 ++ L).length = r := by rw [List.length_append, hb, hr]
theorem pa_sum {M0 L : List PE} {z s : Nat} (hz : kv_sum M0 = z) (hn : z + kv_sum L = s) : kv_sum (M0 ++ L) = s := by rw [kv_sum_app2, hz, hn]
theorem gs {C C' X S : List PE} {j : Nat} {e : PE} (h : j < C.length) (hc : C.set j e = C') : (C ++ X).set j e ++ S = C' ++ (X ++ S) := by rw [List.set_append_left _ _ h, hc, List.append_assoc]
theorem gw {C C' X : List PE} {j : Nat} {e : PE} (h : j < C.length) (hc : C.set j e = C') : (C ++ X).set j e = C' ++ X := by rw [List.set_append_left _ _ h, hc]
theorem gg {C X : List PE} {j : Nat} {e : PE} (h : C[j]? = some e) : (C ++ X)[j]? = some e := by rw [List.getElem?_append_left (List.getElem?_eq_some_iff.mp h).1, h]
theorem ga {C X : List PE} {t k : Nat} {z : List Value} (h : z = List.replicate k (.int 0)) : (C ++ X) ++ [(100 + t, List.replicate k (.int 0))] = C ++ (X ++ [(100 + t, z)]) := by rw [h, List.append_assoc]
theorem ga0 {C : List PE} {t k : Nat} {z : List Value} (h : z = List.replicate k (.int 0)) : C ++ [(100 + t, List.replicate k (.int 0))] = C ++ [(100 + t, z)] := by rw [h]
theorem gg0 {X : List PE} {j : Nat} {e : PE} (h : X[j]? = some e) : (([] : List PE) ++ X)[j]? = some e := h
section CROWS
variable {l : Launch} {E : EV} {D : va_G} {cA : Nat → ClassId} {N Z : Nat} {X : MT} {d : Nat} {fin : Option Value → List PE → Prop} {pc : Nat} {ls : List (Option Value)} {st : List Value} {M0 L L' S : List PE} {b r z s : Nat}
theorem pa_newo {idx ci : Nat} {fs : List Value} (hA : (M0 ++ L).length = r) (hS : kv_sum (M0 ++ L) = s) (hd : decode X.2.2.1 pc = .ok (.new idx, 3)) (hn : kv_new X.1 idx ci fs) (h1 : r < 1000) (hN : r < N) (hZ : s + fs.length ≤ Z) (kk : PW l E D cA N Z X d fin (pc + 3) ls (.ref r :: st) ((M0 ++ L) ++ [(ci, fs)])) : PW l E D cA N Z X d fin pc ls st (M0 ++ L) := by
  refine pw_new hd hn (by rw [hA]; exact h1) (by rw [hA]; exact hN) (by rw [hS]; exact hZ) ?_
  rw [hA]
  exact kk
theorem pa_arr {at9 : ArrayType} {t k : Nat} {n : Int32} (hA : (M0 ++ L).length = r) (hS : kv_sum (M0 ++ L) = s) (hd : decode X.2.2.1 pc = .ok (.newarray at9, 2)) (ht : (t, at9) ∈ [(0, ArrayType.int), (1, ArrayType.char), (2, ArrayType.boolean)]) (hw : Cond.arrayClass (newarray.typeOf at9) ∈ TB) (hn : n = nI k) (hk : k ≤ 1000) (h1 : r < 1000) (hN : r < N) (hZ : s + k ≤ Z) (hL : L ++ [(100 + t, List.replicate k (.int 0))] = L')
    (kk : PW l E D cA N Z X d fin (pc + 2) ls (.ref r :: st) (M0 ++ L')) : PW l E D cA N Z X d fin pc ls (.int n :: st) (M0 ++ L) := by
  subst hn
  have e : (nI k).toNatClampNeg = k := nI_clamp (by omega)
  refine pw_newarray hd ht hw (nI_pos (by omega)) (by rw [e]; exact hk) (by rw [hA]; exact h1) (by rw [hA]; exact hN) (by rw [hS, e]; exact hZ) ?_
  rw [hA, e, List.append_assoc, hL]
  exact kk
theorem pa_anew {idx t k : Nat} {C : String} {n : Int32} (hA : (M0 ++ L).length = r) (hS : kv_sum (M0 ++ L) = s) (hd : decode X.2.2.1 pc = .ok (.anewarray idx, 3)) (ht : (t, C) ∈ [(4, RX3), (5, RX4)]) (hw : Cond.classLink X.1 idx C ∈ TB) (hn : n = nI k) (hk : k ≤ 1000) (h1 : r < 1000) (hN : r < N) (hZ : s + k ≤ Z) (hL : L ++ [(100 + t, List.replicate k .null)] = L')
    (kk : PW l E D cA N Z X d fin (pc + 3) ls (.ref r :: st) (M0 ++ L')) : PW l E D cA N Z X d fin pc ls (.int n :: st) (M0 ++ L) := by
  subst hn
  have e : (nI k).toNatClampNeg = k := nI_clamp (by omega)
  refine pw_anewarray hd ht hw (nI_pos (by omega)) (by rw [e]; exact hk) (by rw [hA]; exact h1) (by rw [hA]; exact hN) (by rw [hS, e]; exact hZ) ?_
  rw [hA, e, List.append_assoc, hL]
  exact kk
theorem pa_mnew {idx : Nat} (hA : (M0 ++ L).length = r) (hS : kv_sum (M0 ++ L) = s) (hd : decode X.2.2.1 pc = .ok (.multianewarray idx 2, 4)) (hcl : Cond.classLink X.1 idx ("[" ++ (FieldType.array .int).toString) ∈ TB) (h1 : r + 6 < 1000) (hN : r + 7 ≤ N) (hZ : s + 54 ≤ Z) (hL : L ++ kv_grid r 6 8 = L')
    (kk : PW l E D cA N Z X d fin (pc + 4) ls (.ref r :: st) (M0 ++ L')) : PW l E D cA N Z X d fin pc ls (.int (nI 8) :: .int (nI 6) :: st) (M0 ++ L) := by
  have e6 : (nI 6).toNatClampNeg = 6 := nI_clamp (by decide)
  have e8 : (nI 8).toNatClampNeg = 8 := nI_clamp (by decide)
  refine pw_mnew hd hcl ak_int (by decide) (by decide) (by rw [e6]; decide) (by rw [e8]; decide) (by rw [hA, e6]; exact h1) (by rw [hA, e6]; omega) (by rw [hS, e6, e8]; exact hZ) ?_
  rw [hA, e6, e8, List.append_assoc, hL]
  exact kk
theorem pa_putf {i j idx ci k : Nat} {fs : List Value} {v : Value} (hb : M0.length = b) (hi : b + j = i) (hd : decode X.2.2.1 pc = .ok (.putfield idx, 3)) (hf : kv_f X.1 idx ci k) (hci : ci < 100) (hj : L[j]? = some (ci, fs)) (hk : k < fs.length) (hfit : kv_fit ci k (kv_v E v)) (hfin : ∀ q : vw_C, vwCl[ci]? = some q → (q.2.1 k).2.2.2 = false ∨ ((q.2.1 k).2.2.2 = true ∧ X.2.1.name = "<init>" ∧ (q.2.1 k).1 = X.1)) (hL : L.set j (ci, fs.set k v) = L')
    (kk : PW l E D cA N Z X d fin (pc + 3) ls st (M0 ++ L')) : PW l E D cA N Z X d fin pc ls (v :: .ref i :: st) (M0 ++ L) := by
  subst hi
  refine pw_putf hd hf hci (by rw [pa_at hb]; exact hj) hk hfit hfin ?_
  rw [pa_set hb, hL]
  exact kk
/-- the same where the callee's cells lie behind -/
theorem pa_putfS {i j idx ci k : Nat} {fs : List Value} {v : Value} (hb : M0.length = b) (hi : b + j = i) (hd : decode X.2.2.1 pc = .ok (.putfield idx, 3)) (hf : kv_f X.1 idx ci k) (hci : ci < 100) (hj : L[j]? = some (ci, fs)) (hk : k < fs.length) (hfit : kv_fit ci k (kv_v E v)) (hfin : ∀ q : vw_C, vwCl[ci]? = some q → (q.2.1 k).2.2.2 = false ∨ ((q.2.1 k).2.2.2 = true ∧ X.2.1.name = "<init>" ∧ (q.2.1 k).1 = X.1)) (hL : L.set j (ci, fs.set k v) ++ S = L')
    (kk : PW l E D cA N Z X d fin (pc + 3) ls st (M0 ++ L')) : PW l E D cA N Z X d fin pc ls (v :: .ref i :: st) ((M0 ++ L) ++ S) := by
  subst hi
  have hj2 := (List.getElem?_eq_some_iff.mp hj).1
  rw [List.append_assoc]
  refine pw_putf hd hf hci (by rw [pa_at hb, List.getElem?_append_left hj2]; exact hj) hk hfit hfin ?_
  rw [pa_set hb, List.set_append_left _ _ hj2, hL]
  exact kk
theorem pa_getf {i j idx ci k : Nat} {fs : List Value} {v : Value} (hb : M0.length = b) (hi : b + j = i) (h9 : i < 1000) (hd : decode X.2.2.1 pc = .ok (.getfield idx, 3)) (hf : kv_f X.1 idx ci k) (hci : ci < 100) (hj : L[j]? = some (ci, fs)) (hv : fs[k]? = some v)
    (kk : PW l E D cA N Z X d fin (pc + 3) ls (v :: st) (M0 ++ L)) : PW l E D cA N Z X d fin pc ls (.ref i :: st) (M0 ++ L) := by
  subst hi
  exact pw_getf hd hf hci (by rw [pa_at hb]; exact hj) hv kk
theorem pa_iast {i j k : Nat} {ix x : Int32} {xs : List Value} (hb : M0.length = b) (hi : b + j = i) (hd : decode X.2.2.1 pc = .ok (.iastore, 1)) (hj : L[j]? = some (100, xs)) (hx : ix = nI k) (hk2 : k < 2 ^ 31) (hk : k < xs.length) (hL : L.set j (100, xs.set k (.int x)) = L')
    (kk : PW l E D cA N Z X d fin (pc + 1) ls st (M0 ++ L')) : PW l E D cA N Z X d fin pc ls (.int x :: .int ix :: .ref i :: st) (M0 ++ L) := by
  subst hi
  subst hx
  have e : (nI k).toNatClampNeg = k := nI_clamp hk2
  refine pw_iastore hd (by rw [pa_at hb]; exact hj) (nI_pos hk2) (by rw [e]; exact hk) ?_
  rw [pa_set hb, e, hL]
  exact kk
theorem pa_aastS {i j k t ci : Nat} {q : vw_C} {ix : Int32} {xs fs : List Value} (hb : M0.length = b) (hi : b + j = i) (hr : b + L.length = r) (hd : decode X.2.2.1 pc = .ok (.aastore, 1)) (hj : L[j]? = some (100 + t, xs)) (ht : (kv_tys cA)[t]? = some (cA t, .object q.1)) (h3 : 3 ≤ t) (hx : ix = nI k) (hk2 : k < 2 ^ 31) (hk : k < xs.length) (hs : S[0]? = some (ci, fs)) (hci : ci < 100) (hc : vwCl[ci]? = some q) (hL : L.set j (100 + t, xs.set k (.ref r)) ++ S = L')
    (kk : PW l E D cA N Z X d fin (pc + 1) ls st (M0 ++ L')) : PW l E D cA N Z X d fin pc ls (.ref r :: .int ix :: .ref i :: st) ((M0 ++ L) ++ S) := by
  subst hi
  subst hx
  have e : (nI k).toNatClampNeg = k := nI_clamp hk2
  have hj2 := (List.getElem?_eq_some_iff.mp hj).1
  refine pw_aastore (ci := ci) (fs := fs) (q := q) hd (by rw [List.append_assoc, pa_at hb, List.getElem?_append_left hj2]; exact hj) ht h3 (nI_pos hk2) (by rw [e]; exact hk) (by rw [← hr, ← hb, ← List.length_append, List.getElem?_append_right (Nat.le_refl _), Nat.sub_self]; exact hs) hci hc ?_
  rw [List.append_assoc, pa_set hb, e, List.set_append_left _ _ hj2, hL]
  exact kk
end CROWS
