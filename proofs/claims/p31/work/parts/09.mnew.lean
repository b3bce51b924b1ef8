/-! new int[n][k] -/
section PWG
variable {l : Launch} {E : EV} {D : va_G} {cA : Nat → ClassId} {N Z : Nat} {X : MT} {d : Nat} {fin : Option Value → List PE → Prop} {pc : Nat} {ls : List (Option Value)} {st : List Value} {M : List PE}
theorem kv_outer (c : ClassId) (N h0 : Nat) : ∀ i : Nat, Jvm.Free.Multi.outerC c N h0 i = arrV c N (fun j => va_rf (if j < i then some (h0 + 1 + j) else none))
  | 0 => by
    show ({ cls := c, slots := Array.replicate N .null, vm := .none } : Cell) = _
    rw [arrV_new]
    refine congrArg (arrV c N) (funext fun j => ?_)
    simp [va_rf]
  | i + 1 => by
    show (Jvm.Free.Multi.outerC c N h0 i).setSlot i (.ref (h0 + 1 + i)) = _
    rw [kv_outer c N h0 i, arrV_store]
    refine congrArg (arrV c N) (funext fun j => ?_)
    by_cases e : j = i
    · subst e
      simp [updV, va_rf]
    · by_cases h : j < i
      · simp [updV, e, h, Nat.lt_succ_of_lt h]
      · simp [updV, e, h, show ¬ j < i + 1 by omega]
def kv_grid (b n k : Nat) : List PE := (103, (List.range n).map (fun j => Value.ref (b + 1 + j))) :: List.replicate n (100, List.replicate k (.int 0))
theorem pw_mnew {idx : Nat} {n k : Int32} (hd : decode X.2.2.1 pc = .ok (.multianewarray idx 2, 4)) (hcl : Cond.classLink X.1 idx ("[" ++ (FieldType.array .int).toString) ∈ TB) (hac : Cond.arrayClass .int ∈ TB) (hn : ¬ n < 0) (hk : ¬ k < 0) (hns : n.toNatClampNeg ≤ 100) (hks : k.toNatClampNeg ≤ 100) (hlen : M.length + n.toNatClampNeg < 1000) (hN : M.length + 1 + n.toNatClampNeg ≤ N) (hZ : kv_sum M + n.toNatClampNeg + n.toNatClampNeg * k.toNatClampNeg ≤ Z)
    (kk : PW l E D cA N Z X d fin (pc + 4) ls (.ref M.length :: st) (M ++ kv_grid M.length n.toNatClampNeg k.toNatClampNeg)) : PW l E D cA N Z X d fin pc ls (.int k :: .int n :: st) M := by
  intro p e R s m args below meth c Q n0 z0 H locs cells slots la B P
  have hr1 := B.2.2.2.2.2.1
  have hr2 := B.2.2.2.2.2.2.1
  have hp1 := P.2.2.2.1
  have hp2 := P.2.2.2.2
  have hb := B.2.2.1.1
  have hK := B.2.1.1
  have hP := P.1.2
  have hS := P.2.1
  intro T hT S
  have hsz := B.size P hT S
  have hsz2 : H.size = E.1 + M.length := by
    rcases Nat.eq_zero_or_pos M.length with h | h
    · have := hS.1
      omega
    · have hg := List.getElem?_eq_getElem (l := M) (i := M.length - 1) (by omega)
      have h9 := (hP _ _ (kv_w_at (E := E) (cA := cA) hg)).lt
      have h10 : kv_adr E (M.length - 1) = E.1 + (M.length - 1) := by
        unfold kv_adr
        rw [if_pos (by omega)]
      rw [h10] at h9
      omega
  obtain ⟨vm₁, c9, comp, -, fA, fC, hO, hI, X', step⟩ := Jvm.Stand.multianewarray2F S B.1.1 B.1.2.2.2.1 (B.1.2.2.2.2.1 _ hcl) B.2.1.2.2.2.1 (B.1.2.2.2.2.1 _ hac) (g := F0 m pc la ((.int k :: .int n :: st).map (kv_v E))) rfl (by rw [B.1.2.1]; exact hd) rfl hn hk (Nat.le_trans (Nat.mul_le_mul_right 4 hns) (by decide)) (Nat.le_trans (Nat.mul_le_mul_right 4 hks) (by decide)) (by omega) rfl rfl (by omega) (by omega)
  have e9 : c9 = cA 3 := Option.some.inj (fA.symm.trans (hK.2 3 _ rfl).2)
  have e8 : comp = cA 0 := Option.some.inj (fC.symm.trans (hK.2 0 _ rfl).2)
  subst e9
  subst e8
  generalize hF : Jvm.Free.Multi.fill (T.setVm vm₁) (cA 3) (cA 0) n.toNatClampNeg k.toNatClampNeg (defaultValue .int) n.toNatClampNeg = F at X' step
  have hTh : (T.setVm vm₁).heap = H := hT
  obtain ⟨f1, f2, -, -⟩ := Jvm.Free.Multi.fill_facts (T.setVm vm₁) (cA 3) (cA 0) n.toNatClampNeg k.toNatClampNeg (defaultValue .int) n.toNatClampNeg
  rw [hF, hTh] at f1 f2
  have hold : ∀ x : Nat, x < H.size → F.heap[x]? = H[x]? := fun x hx => by
    have := Jvm.Free.Multi.fill_old (T.setVm vm₁) (cA 3) (cA 0) n.toNatClampNeg k.toNatClampNeg (defaultValue .int) (a := x) (by rw [hTh]; exact hx) n.toNatClampNeg
    rw [hF, hTh] at this
    exact this
  have hrow : ∀ j : Nat, j < n.toNatClampNeg → F.heap[H.size + 1 + j]? = some (Jvm.Free.Multi.innerC (cA 0) k.toNatClampNeg (defaultValue .int)) := fun j hj => by
    have := Jvm.Free.Multi.fill_inner (T.setVm vm₁) (cA 3) (cA 0) n.toNatClampNeg k.toNatClampNeg (defaultValue .int) n.toNatClampNeg j hj
    rw [hF, hTh] at this
    exact this
  rw [kv_outer] at f2
  have hin : Jvm.Free.Multi.innerC (cA 0) k.toNatClampNeg (defaultValue .int) = vp_cell (cA 0) (k.toNatClampNeg, .inl (fun j : Nat => kv_io (List.replicate k.toNatClampNeg (Value.int 0))[j]?)) := by
    rw [kv_z, vp_cell_i]
    show ({ cls := cA 0, slots := Array.replicate k.toNatClampNeg (defaultValue .int), vm := .none } : Cell) = _
    rw [arrV_new]
    rfl
  have hw9 : ∀ (q : Nat) (x : Nat × va_E), (kv_w E cA (M ++ kv_grid M.length n.toNatClampNeg k.toNatClampNeg))[q]? = some x → va_at D vwCl x F.heap := by
    intro q x hx
    rw [kv_w_get] at hx
    by_cases h1 : q < M.length
    · rw [List.getElem?_append_left h1, ← kv_w_get] at hx
      exact (hP q x hx).kept (hold x.1 ((hP q x hx).lt))
    · rw [List.getElem?_append_right (by omega)] at hx
      by_cases h2 : q = M.length
      · subst h2
        rw [Nat.sub_self] at hx
        cases hx
        show va_at D vwCl (kv_adr E M.length, kv_c E cA (100 + 3, _)) F.heap
        rw [kv_c_ref (by decide)]
        show F.heap[kv_adr E M.length]? = some (vp_cell _ _)
        have ha : kv_adr E M.length = H.size := by
          unfold kv_adr
          rw [if_pos (by omega), hsz2]
        rw [ha, f2, vp_cell_q, List.length_map, List.length_range]
        refine congrArg some (congrArg (arrV _ _) (funext fun j => ?_))
        rw [List.getElem?_map]
        by_cases hj : j < n.toNatClampNeg
        · rw [if_pos hj, List.getElem?_range hj]
          have hz : kv_adr E (M.length + 1 + j) = H.size + 1 + j := by
            unfold kv_adr
            rw [if_pos (by omega), hsz2]
            omega
          show va_rf (some (H.size + 1 + j)) = va_rf (some (kv_adr E (M.length + 1 + j)))
          rw [hz]
        · rw [if_neg hj, List.getElem?_eq_none (by simp; omega)]
          rfl
      · have h3 : q - M.length = (q - M.length - 1) + 1 := by omega
        rw [h3] at hx
        unfold kv_grid at hx
        rw [List.getElem?_cons_succ, List.getElem?_replicate] at hx
        by_cases h4 : q - M.length - 1 < n.toNatClampNeg
        · rw [if_pos h4] at hx
          cases hx
          show va_at D vwCl (kv_adr E q, kv_c E cA (100 + 0, _)) F.heap
          rw [kv_c_int (by decide)]
          show F.heap[kv_adr E q]? = some (vp_cell _ _)
          have ha : kv_adr E q = H.size + 1 + (q - M.length - 1) := by
            unfold kv_adr
            rw [if_pos (by omega)]
            omega
          rw [ha, hrow _ h4, hin, List.length_replicate]
        · rw [if_neg h4] at hx
          cases hx
  have hstep : ∃ t, Steps p.tables e below (F.setTop (F0 m (pc + 4) la ((.ref M.length :: st).map (kv_v E)))) t ∧ Q t := by
    refine kk B ⟨⟨by simp [kv_grid]; omega, hw9⟩, ⟨by rw [f1]; have := hS.1; omega, fun q g1 g2 => (hold q (by have := hS.1; omega)).trans (hS.2.1 q g1 g2), hS.2.2⟩, P.2.2.1, ?_, ?_⟩ F rfl X'
    · simp [kv_grid]
      omega
    · simp [kv_sum, kv_grid] at hp2 ⊢
      omega
  obtain ⟨t, a1, b1⟩ := hstep
  refine ⟨t, step t ?_, b1⟩
  have ha : T.heap.size = kv_adr E M.length := by
    unfold kv_adr
    rw [if_pos (by omega), hT, hsz2]
  rw [ha]
  exact a1
end PWG
