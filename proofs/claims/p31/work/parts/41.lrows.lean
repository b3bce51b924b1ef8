/-! THE LAW'S OWN ROWS: memory is the standing cells and a list Y of rows of ints that grows -/
def yr (f : Nat → Int32) (n : Nat) : PE := (100, (List.range n).map (fun j => Value.int (f j)))
def upi (f : Nat → Int32) (k : Nat) (x : Int32) : Nat → Int32 := fun j => if j = k then x else f j
theorem upi_s {f : Nat → Int32} {k : Nat} {x : Int32} : upi f k x k = x := by simp [upi]
theorem upi_n {f : Nat → Int32} {k j : Nat} {x : Int32} (h : j ≠ k) : upi f k x j = f j := by simp [upi, h]
theorem yr_len {f : Nat → Int32} {n : Nat} : (yr f n).2.length = n := by simp [yr]
theorem yr_at {f : Nat → Int32} {n j : Nat} (h : j < n) : (yr f n).2[j]? = some (.int (f j)) := by
  unfold yr
  rw [List.getElem?_map, List.getElem?_range h]
  rfl
theorem yr_set {f : Nat → Int32} {n j : Nat} {x : Int32} : (100, (yr f n).2.set j (.int x)) = yr (upi f j x) n := by
  unfold yr
  congr 1
  apply List.ext_getElem?
  intro i
  rw [List.getElem?_set, List.getElem?_map, List.getElem?_map, List.length_map, List.length_range]
  by_cases e : j = i
  · subst e
    by_cases h : j < n
    · rw [if_pos rfl, if_pos h, List.getElem?_range h]
      simp [upi]
    · rw [if_pos rfl, if_neg h, List.getElem?_eq_none (by simp; omega)]
      rfl
  · have e2 : ¬ i = j := fun q => e q.symm
    rw [if_neg e]
    by_cases h : i < n
    · rw [List.getElem?_range h]
      simp [upi, e2]
    · rw [List.getElem?_eq_none (by simp; omega)]
      rfl
theorem yr_new {n : Nat} : (100 + 0, List.replicate n (Value.int 0)) = yr (fun _ => 0) n := by
  unfold yr
  congr 1
  apply List.ext_getElem?
  intro i
  rw [List.getElem?_replicate, List.getElem?_map]
  by_cases h : i < n
  · rw [if_pos h, List.getElem?_range h]
    rfl
  · rw [if_neg h, List.getElem?_eq_none (by simp; omega)]
    rfl
abbrev PL (l : Launch) (E : EV) (D : va_G) (cA : Nat → ClassId) (k z : Nat) (X : MT) (d : Nat) (fin : Option Value → Mu → List PE → Prop) (pc : Nat) (ls : List (Option Value)) (st : List Value) (μ : Mu) (Y : List PE) : Prop :=
  PW l E D cA (227 + k) (em_Z + z) X d (fun r M => ∃ ν Y', M = em ν ++ Y' ∧ fin r ν Y') pc ls st (em μ ++ Y)
section PLR
variable {l : Launch} {E : EV} {D : va_G} {cA : Nat → ClassId} {k z : Nat} {X : MT} {d : Nat} {fin : Option Value → Mu → List PE → Prop} {pc : Nat} {ls : List (Option Value)} {st : List Value} {μ : Mu} {Y : List PE}
theorem pl_mono {fin' : Option Value → Mu → List PE → Prop} (hf : ∀ r ν Y', fin r ν Y' → fin' r ν Y') (h : PL l E D cA k z X d fin pc ls st μ Y) : PL l E D cA k z X d fin' pc ls st μ Y :=
  pw_mono (fun r M h => by obtain ⟨ν, Y', e, h⟩ := h; exact ⟨ν, Y', e, hf r ν Y' h⟩) h
theorem pl_iret {v : Int32} {ty : FieldType} (hd : decode X.2.2.1 pc = .ok (.ireturn, 1)) (ht : X.2.2.2.2 = some ty) (hn : narrow ty (.int v) = .int v) (hk : Y.length = k) (hz : kv_sum Y = z) (hf : fin (some (.int v)) μ Y) : PL l E D cA k z X d fin pc ls [.int v] μ Y :=
  pw_ireturn hd ht hn (by rw [emy_len, hk]) (by rw [emy_sum, hz]) ⟨μ, Y, rfl, hf⟩
theorem pl_ret (hd : decode X.2.2.1 pc = .ok (.return_, 1)) (ht : X.2.2.2.2 = none) (hk : Y.length = k) (hz : kv_sum Y = z) (hf : fin none μ Y) : PL l E D cA k z X d fin pc ls [] μ Y :=
  pw_return hd ht (by rw [emy_len, hk]) (by rw [emy_sum, hz]) ⟨μ, Y, rfl, hf⟩
theorem pl_iald {i j n : Nat} {f : Nat → Int32} {ix x : Int32} (hd : decode X.2.2.1 pc = .ok (.iaload, 1)) (hj : ix = nI j) (hjn : j < n) (hn : n ≤ 48) (hY : Y[i]? = some (yr f n)) (hx : f j = x) (kk : PL l E D cA k z X d fin (pc + 1) ls (.int x :: st) μ Y) : PL l E D cA k z X d fin pc ls (.int ix :: .ref (227 + i) :: st) μ Y := by
  obtain ⟨g1, g2⟩ := ps_n0 (ix := ix) (j := j) (by omega) hj
  exact pw_iaload hd (emy_Y.trans hY) g1 (by rw [g2]; exact (yr_at hjn).trans (by rw [hx])) kk
theorem pl_iast {i j n : Nat} {f : Nat → Int32} {ix x : Int32} (hd : decode X.2.2.1 pc = .ok (.iastore, 1)) (hj : ix = nI j) (hjn : j < n) (hn : n ≤ 48) (hY : Y[i]? = some (yr f n))
    (kk : ∀ Y' : List PE, Y'.length = Y.length → kv_sum Y' = kv_sum Y → Y'[i]? = some (yr (upi f j x) n) → (∀ q, q ≠ i → Y'[q]? = Y[q]?) → PL l E D cA k z X d fin (pc + 1) ls st μ Y') : PL l E D cA k z X d fin pc ls (.int x :: .int ix :: .ref (227 + i) :: st) μ Y := by
  obtain ⟨g1, g2⟩ := ps_n0 (ix := ix) (j := j) (by omega) hj
  refine pw_iastore hd (emy_Y.trans hY) g1 (by rw [g2]; show j < (yr f n).2.length; rw [yr_len]; exact hjn) ?_
  rw [g2, emy_out]
  have e : (100, (yr f n).2.set j (.int x)) = yr (upi f j x) n := yr_set
  rw [show ((100, ((100, (List.range n).map (fun j => Value.int (f j))) : PE).2.set j (.int x)) : PE) = yr (upi f j x) n from e]
  have hi : i < Y.length := (List.getElem?_eq_some_iff.mp hY).1
  refine kk _ List.length_set (kv_sum_set hY (by rw [yr_len, yr_len])) ?_ ?_
  · rw [List.getElem?_set, if_pos rfl, if_pos hi]
  · intro q hq
    rw [List.getElem?_set, if_neg (fun e => hq e.symm)]
theorem pl_new {n : Nat} {m : Int32} (hd : decode X.2.2.1 pc = .ok (.newarray .int, 2)) (hw : Cond.arrayClass .int ∈ TB) (hm : m = nI n) (hn : n ≤ 48) (hk : Y.length < k) (hk2 : k ≤ 700) (hz : kv_sum Y + n ≤ z)
    (kk : ∀ Y' : List PE, Y'.length = Y.length + 1 → kv_sum Y' = kv_sum Y + n → Y'[Y.length]? = some (yr (fun _ => 0) n) → (∀ q, q < Y.length → Y'[q]? = Y[q]?) → PL l E D cA k z X d fin (pc + 2) ls (.ref (227 + Y.length) :: st) μ Y') : PL l E D cA k z X d fin pc ls (.int m :: st) μ Y := by
  obtain ⟨g1, g2⟩ := ps_n0 (ix := m) (j := n) (by omega) hm
  refine pw_newarray (t := 0) hd List.mem_cons_self hw g1 (by rw [g2]; omega) (by rw [emy_len]; omega) (by rw [emy_len]; omega) (by rw [g2, emy_sum]; omega) ?_
  rw [g2, yr_new, emy_len, List.append_assoc]
  refine kk _ (by simp) (by rw [kv_sum_app, yr_len]) ?_ ?_
  · rw [List.getElem?_append_right (Nat.le_refl _), Nat.sub_self]
    rfl
  · intro q hq
    rw [List.getElem?_append_left hq]
/-- a call of the class -/
theorem pl_callV {Y9 : MT} {idx b ci : Nat} {As st0 : List Value} (hd : decode X.2.2.1 pc = .ok (.invokevirtual idx, 3)) (hc : kv_cV X.1 idx Y9 ci As.length) (hst : st0 = As.reverse ++ .ref b :: st) (hb : b < 227 ∧ ly_k b = ci) (hL : (kv_fl (.ref b :: As)).length ≤ Y9.2.2.2.1) (hw : (st.map fun v => v.category).sum ≤ 8) (hk : Y.length ≤ k) (hz : kv_sum Y ≤ z)
    (kk : PS l (E, Y) D cA Y9 d (fun r ν => PL l E D cA k z X (d + 1) fin (pc + 3) ls (r.toList ++ st) ν Y) 0 (kv_en Y9.2.2.2.1 (.ref b :: As)) [] μ) : PL l E D cA k z X (d + 1) fin pc ls st0 μ Y := by
  obtain ⟨hY, hl, hin, hci, q, hq, hse⟩ := hc
  exact pw_callV (N' := 227 + Y.length) (Z' := em_Z + kv_sum Y) hd hY hl hin hse hst (emy_at hb.1) (hb.2 ▸ hci) (hb.2 ▸ hq) hL hw ⟨by rw [emy_len]; exact Nat.le_refl _, by omega⟩ ⟨by rw [emy_sum]; exact Nat.le_refl _, by omega⟩ (pw_mono (fun r M h => by obtain ⟨ν, rfl, h⟩ := h; exact h) kk)
/-- a call of the law's own -/
theorem pl_callS {Y9 : MT} {idx k' z' : Nat} {As st0 : List Value} (hd : decode X.2.2.1 pc = .ok (.invokestatic idx, 3)) (hc : kv_cS X.1 idx Y9 As.length) (hst : st0 = As.reverse ++ st) (hL : (kv_fl As).length ≤ Y9.2.2.2.1) (hw : (st.map fun v => v.category).sum ≤ 8) (hk : Y.length ≤ k' ∧ k' ≤ k) (hz : kv_sum Y ≤ z' ∧ z' ≤ z)
    (kk : PL l E D cA k' z' Y9 d (fun r ν Y' => PL l E D cA k z X (d + 1) fin (pc + 3) ls (r.toList ++ st) ν Y') 0 (kv_en Y9.2.2.2.1 As) [] μ Y) : PL l E D cA k z X (d + 1) fin pc ls st0 μ Y :=
  pw_callS (N' := 227 + k') (Z' := em_Z + z') hd hc.1 hc.2.1 hc.2.2 hst hL hw ⟨by rw [emy_len]; omega, by omega⟩ ⟨by rw [emy_sum]; omega, by omega⟩ (pw_mono (fun r M h => by obtain ⟨ν, Y', rfl, h⟩ := h; exact h) kk)
end PLR
