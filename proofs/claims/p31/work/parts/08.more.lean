/-! a copy out of a table that nobody writes, and the making of rows of rows -/
section PWT
variable {l : Launch} {E : EV} {D : va_G} {cA : Nat → ClassId} {N Z : Nat} {X : MT} {d : Nat} {fin : Option Value → List PE → Prop} {pc : Nat} {ls : List (Option Value)} {st : List Value} {M : List PE}
theorem kv_nn {z : Int32} (hz : ¬ z < 0) : z.toInt = (z.toNatClampNeg : Int) := by
  have hz0 : (0 : Int) ≤ z.toInt := by
    have := Int32.not_lt.mp hz
    simpa using Int32.le_iff_toInt_le.mp this
  show z.toInt = ((z.toInt.toNat : Nat) : Int)
  omega
theorem pw_copy_s {idx k j : Nat} {n : Int32} {ys : List Value} (hd : decode X.2.2.1 pc = .ok (.invokestatic idx, 3)) (hl : Cond.methodLink X.1 idx arraycopyName ∈ TB) (h1 : Cond.native arraycopyName ∈ TB) (h2 : Cond.static arraycopyName ∈ TB) (h3 : Cond.initialized "java/lang/System" ∈ TB)
    (hk : k < 4) (hM2 : M[j]? = some (100, ys)) (h0 : ¬ n < 0) (hx : n.toNatClampNeg = E.2.2.1 k) (hy : n.toNatClampNeg = ys.length) (hw : (st.map fun v => v.category).sum ≤ 8) (kk : PW l E D cA N Z X (d + 1) fin (pc + 3) ls st (M.set j (100, (List.range (E.2.2.1 k)).map (fun q => .int (E.2.2.2 k q))))) : PW l E D cA N Z X (d + 1) fin pc ls (.int n :: .int 0 :: .ref j :: .int 0 :: .ref (1000 + k) :: st) M := by
  intro p e R s m args below meth c Q n0 z0 H locs cells slots la B P
  have hcat : (((st.map (kv_v E)).map fun v => v.category).sum) ≤ 8 := by rw [List.map_map, show ((fun v : Value => v.category) ∘ kv_v E) = (fun v => v.category) from funext fun v => kv_cat E v]; exact hw
  have hr1 := B.2.2.2.1
  have hr2 := B.2.2.2.2.1
  have hnf := kv_nfw
  have hw2 := kv_w_at (E := E) (cA := cA) hM2
  rw [show (100 : Nat) = 100 + 0 from rfl, kv_c_int (by decide)] at hw2
  have hK := B.2.1.1
  have hP := P.1.2
  have hS := P.2.1
  have hD := P.1.apart
  intro T hT S
  obtain ⟨scr, hs1, hs2, hs3, hs4, hs4b, hs5, hs7⟩ := B.2.1.2.2.2.2.2.1 k hk
  have hc0 : H[E.2.1 k]? = some scr := by rw [hS.2.1 _ (Array.getElem?_eq_some_iff.mp hs1).1 hs7]; exact hs1
  have hc1 : H[kv_adr E j]? = some (vp_cell (cA 0) (ys.length, .inl (fun j => kv_io ys[j]?))) := hP j _ hw2
  obtain ⟨hs6, k0, hk0, cm0, hkk0⟩ := hs2
  obtain ⟨-, k1, hk1, cm1, hkk1⟩ := (hK.2 0 _ rfl).1 ys.length (fun j => .int (kv_io ys[j]?))
  have n0' : (0 : Int32).toInt = 0 := rfl
  obtain ⟨vm', X', step⟩ := S.arraycopy B.1.1 B.1.2.2.2.1 (B.1.2.2.2.2.1 _ hl) (B.1.2.2.2.2.1 _ h1) (B.1.2.2.2.2.1 _ h2) (B.1.2.2.2.2.1 _ h3) (src := E.2.1 k) (dst := kv_adr E j) (cs := scr) (cd := vp_cell (cA 0) (ys.length, .inl (fun j => kv_io ys[j]?))) (srcPos := 0) (destPos := 0) (n := n) (by rw [hT]; exact hc0) (by rw [hT]; exact hc1)
    hs6 (fun _ h => by cases h) hs3 (fun h => by cases h) hk0 hk1 hkk0 hkk1 (by simp [refKind]) (by decide) (by decide) h0
    (by rw [n0', kv_nn h0]; omega)
    (by rw [n0', kv_nn h0]; show ¬ _ > ((arrV (cA 0) ys.length (fun j => .int (kv_io ys[j]?))).slots.size : Int); rw [arrV_size]; omega)
    (fun vm₁ _ i hi => by
      have e : scr.slots.getD ((0 : Int32).toNatClampNeg + i) .null = .int (E.2.2.2 k ((0 : Int32).toNatClampNeg + i)) := by
        rw [Array.getD_eq_getD_getElem?, hs5 _ (by show 0 + i < _; omega)]
        rfl
      refine ⟨?_, ?_⟩
      · rw [e]
        rfl
      · rw [e]
        exact trivial)
    (g := F0 m pc la ((.int n :: .int 0 :: .ref j :: .int 0 :: .ref (1000 + k) :: st).map (kv_v E))) rfl (by rw [P.2.2.1.1]; exact B.1.2.2.1.symm) (rest := st.map (kv_v E)) (by show _ :: _ :: _ :: _ :: Value.ref (kv_adr E (1000 + k)) :: _ = _; rw [kv_adr_s]; rfl) (by rw [B.1.2.1]; exact hd) (by omega) (by show 2 * 0 + _ + _ ≤ _; omega)
  have e1 : copied scr (vp_cell (cA 0) (ys.length, .inl (fun j => kv_io ys[j]?))) 0 0 n = vp_cell (cA 0) (ys.length, .inl (va_cpy (E.2.2.2 k) (fun j => kv_io ys[j]?) (0 : Int32).toNatClampNeg (0 : Int32).toNatClampNeg n.toNatClampNeg)) := va_copiedX (fun z => .int z) scr (cA 0) (E.2.2.2 k) (fun j => kv_io ys[j]?) hs5 (by show 0 + _ ≤ _; omega)
  have e2 : kv_c E cA (100, (List.range (E.2.2.1 k)).map (fun q => Value.int (E.2.2.2 k q))) = .inl (cA 0, ys.length, .inl (va_cpy (E.2.2.2 k) (fun j => kv_io ys[j]?) (0 : Int32).toNatClampNeg (0 : Int32).toNatClampNeg n.toNatClampNeg)) := by
    rw [show (100 : Nat) = 100 + 0 from rfl, kv_c_int (by decide), List.length_map, List.length_range, ← hx, hy]
    congr 4
    funext q
    show _ = (if 0 ≤ q ∧ q < 0 + ys.length then E.2.2.2 k (0 + (q - 0)) else kv_io ys[q]?)
    by_cases hq : q < ys.length
    · rw [if_pos ⟨Nat.zero_le _, by omega⟩, List.getElem?_map, List.getElem?_range (by omega)]
      simp [kv_io]
    · rw [if_neg (by omega), List.getElem?_eq_none (by simp; omega), List.getElem?_eq_none (by omega)]
  rw [e1] at X' step
  have hl9 : kv_adr E j < H.size := (Array.getElem?_eq_some_iff.mp hc1).1
  generalize hcc : vp_cell (cA 0) (ys.length, .inl (va_cpy (E.2.2.2 k) (fun j => kv_io ys[j]?) (0 : Int32).toNatClampNeg (0 : Int32).toNatClampNeg n.toNatClampNeg)) = cc at X' step
  have hheap : ((T.setVm vm').setCell (kv_adr E j) cc).heap = H.setIfInBounds (kv_adr E j) cc := by rw [← hT]; rfl
  have oq : ∀ q : Nat, q ≠ kv_adr E j → (H.setIfInBounds (kv_adr E j) cc)[q]? = H[q]? := fun q hq => by simp [Array.getElem?_setIfInBounds, Ne.symm hq]
  obtain ⟨t, a1, b1⟩ := kk B (P.set (e1 := (100, (List.range (E.2.2.1 k)).map (fun q => .int (E.2.2.2 k q)))) hM2 (by simp; omega) (hP.set hD hw2 (by rw [e2]; show (H.setIfInBounds _ cc)[_]? = some (vp_cell _ _); rw [hcc]; simp [Array.getElem?_setIfInBounds, hl9]) oq) ⟨by simp; exact hS.1, fun q g1 g2 => by
      rw [oq q (fun e => g2 (by rw [e]; exact hD.2 j _ hw2))]
      exact hS.2.1 q g1 g2, fun q hq => by
      rcases List.mem_append.mp hq with h | h
      · exact hS.2.2 q h
      · obtain ⟨z, -, hz⟩ := List.mem_map.mp h
        rw [← hz]
        exact hD.2 j _ hw2⟩) _ hheap X'
  exact ⟨t, step t a1, b1⟩
end PWT
