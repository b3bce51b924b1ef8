/-! what stands behind the calls stays well -/
theorem w_close {c : CS} {v z : Int32} (hw : CW c) : CW (o_close c v z).2 := by
  unfold o_close
  split
  · next h1 =>
    split
    · exact hw
    · obtain ⟨p, hp, rfl⟩ := (rg_to (by decide)).mp h1
      rw [iN_nI (by omega)]
      exact hw.rec.now (wf_place hw.1 (Or.inr (Or.inr (Or.inr ⟨p, by omega, by omega, rfl⟩))))
  · exact hw
theorem w_start {c : CS} {v w : Int32} (hw : CW c) : CW (o_start c v w).2 := by
  unfold o_start
  split
  · next h1 =>
    split
    · next h2 =>
      obtain ⟨t, ht, rfl⟩ := (rg_nat (by have := hw.1.t6; omega)).mp h1
      obtain ⟨k, hk, rfl⟩ := (rg_to (by decide)).mp h2
      have t6 : t < 6 := Nat.lt_of_lt_of_le ht hw.1.t6
      rw [iN_nI (by omega), iN_nI (by omega)]
      exact hw.rec.now (wf_team hw.1 ht (Or.inl ⟨hk, rfl⟩))
    · exact hw
  · exact hw
theorem w_hint {c : CS} {v w z : Int32} (hw : CW c) : CW (o_hint c v w z).2 := by
  unfold o_hint
  split
  · next h1 =>
    split
    · next h2 =>
      split
      · exact hw
      · obtain ⟨t, ht, rfl⟩ := (rg_nat (by have := hw.1.t6; omega)).mp h1
        obtain ⟨k, hk, rfl⟩ := (rg_to (by decide)).mp h2
        have t6 : t < 6 := Nat.lt_of_lt_of_le ht hw.1.t6
        rw [iN_nI (by omega), iN_nI (by omega)]
        exact hw.rec.now (wf_team hw.1 ht (Or.inr (Or.inl ⟨(bit_xor _ (hw.1.tm ht).2.1 k (by omega)).2, rfl⟩)))
    · exact hw
  · exact hw
theorem w_lose {c : CS} {v w : Int32} (hw : CW c) : CW (o_lose c v w).2 := by
  unfold o_lose
  split
  · next h1 =>
    split
    · next h2 =>
      obtain ⟨t, ht, rfl⟩ := (rg_nat (by have := hw.1.t6; omega)).mp h1
      obtain ⟨k, hk8, hk, hkn⟩ := lose_of h2
      have t6 : t < 6 := Nat.lt_of_lt_of_le ht hw.1.t6
      rw [iN_nI (by omega), hkn]
      exact hw.rec.now (wf_team hw.1 ht (Or.inr (Or.inr ⟨hk8, rfl⟩)))
    · exact hw
  · exact hw
theorem wf_trn {a : AS} {t b : Nat} (hw : Wf a) (ht : t < a 3) : Wf (trn a t b) := wf_rt hw ht (fun k hk => (hw.tm ht).2.2.2.2 _ (Nat.mod_lt _ (by omega)))
theorem w_turn {c : CS} {v w : Int32} (hw : CW c) : CW (o_turn c v w).2 := by
  unfold o_turn
  split
  · next h1 =>
    split
    · next h2 =>
      obtain ⟨t, ht, rfl⟩ := (rg_nat (by have := hw.1.t6; omega)).mp h1
      have t6 : t < 6 := Nat.lt_of_lt_of_le ht hw.1.t6
      rw [iN_nI (by omega)]
      exact hw.rec.now (wf_trn hw.1 ht)
    · exact hw
  · exact hw
theorem w_exchange {c : CS} {v x y : Int32} (hw : CW c) : CW (o_exchange c v x y).2 := by
  unfold o_exchange
  split
  · next h1 =>
    split
    · next h2 =>
      split
      · next h3 =>
        split
        · exact hw
        · obtain ⟨t, ht, rfl⟩ := (rg_nat (by have := hw.1.t6; omega)).mp h1
          have t6 : t < 6 := Nat.lt_of_lt_of_le ht hw.1.t6
          rw [iN_nI (by omega)] at h2 h3 ⊢
          have n8 := (hw.1.tm ht).2.2.2.1.2
          obtain ⟨i, hi, rfl⟩ := (rg_nat (by omega)).mp h2
          obtain ⟨j, hj, rfl⟩ := (rg_nat (by omega)).mp h3
          rw [iN_nI (by omega), iN_nI (by omega)]
          exact hw.rec.now (wf_xch hw.1 ht hi hj)
      · exact hw
    · exact hw
  · exact hw
theorem w_part {c : CS} (hw : CW c) : CW (o_part c).2 := hw.rec.now (wf_pst hw.1 _ (Nat.le_refl _))
theorem w_undo {c : CS} (hw : CW c) : CW (o_undo c).2 := by
  unfold o_undo
  split
  · exact hw
  · next h =>
    exact ⟨hw.2.1 _ (by omega), fun j hj => hw.2.1 j (by have hj : j < hN c - 1 := hj; omega), hw.2.2.1, (by have := hw.2.2.2.1; show hN c - 1 ≤ 6; omega), hw.2.2.2.2⟩
theorem w_save {c : CS} {v : Int32} (hw : CW c) : CW (o_save c v).2 := by
  unfold o_save
  split
  · refine ⟨hw.1, hw.2.1, fun j hj => ?_, hw.2.2.2⟩
    show up1 (sV c) (iN v) 1 j ≤ 1 ∧ (up1 (sV c) (iN v) 1 j = 1 → Wf (upS (sS c) (iN v) (na c) j))
    by_cases e : j = iN v
    · subst e
      rw [up1_s]
      exact ⟨Nat.le_refl _, fun _ => by unfold upS; rw [if_pos rfl]; exact hw.1⟩
    · rw [up1_n e]
      unfold upS
      rw [if_neg e]
      exact hw.2.2.1 j hj
  · exact hw
theorem w_restore {c : CS} {v : Int32} (hw : CW c) : CW (o_restore c v).2 := by
  unfold o_restore
  split
  · next h1 =>
    split
    · exact hw
    · next h2 =>
      obtain ⟨j, hj, rfl⟩ := (rg_to (by decide)).mp h1
      rw [iN_nI (by omega)] at h2 ⊢
      have h3 := hw.2.2.1 j (by omega)
      exact hw.rec.now (h3.2 (by omega))
  · exact hw
theorem CW.pad0 {c : CS} (hw : CW c) : CW (pad0 c) := ⟨hw.1, hw.2.1, hw.2.2.1, hw.2.2.2.1, Nat.zero_le _⟩
theorem w_team {c : CS} {v : Int32} (hw : CW c) : CW (o_team c v).2 := by
  unfold o_team
  split
  · next h1 =>
    split
    · next h2 =>
      split
      · exact hw
      · next h3 =>
        obtain ⟨k, hk, rfl⟩ := (rg_to (by decide)).mp h1
        rw [iN_nI (by omega)]
        exact (hw.rec.now (wf_newt hw.1 (by omega) hk h2)).pad0
    · exact hw
  · exact hw
theorem w_route {c : CS} {v : Int32} (hw : CW c) : CW (o_route c v).2 := by
  unfold o_route
  split
  · next h1 =>
    split
    · next h2 =>
      obtain ⟨t, ht, rfl⟩ := (rg_nat (by have := hw.1.t6; omega)).mp h1
      have t6 : t < 6 := Nat.lt_of_lt_of_le ht hw.1.t6
      rw [iN_nI (by omega)]
      exact (hw.rec.now (wf_tk hw.1 ht h2)).pad0
    · exact hw
  · exact hw
theorem w_leave {c : CS} {v : Int32} (hw : CW c) : CW (o_leave c v).2 := by
  unfold o_leave
  split
  · next h1 =>
    obtain ⟨t, ht, rfl⟩ := (rg_nat (by have := hw.1.t6; omega)).mp h1
    have t6 : t < 6 := Nat.lt_of_lt_of_le ht hw.1.t6
    rw [iN_nI (by omega)]
    exact hw.rec.now (wf_lv hw.1 ht)
  · exact hw
theorem w_put {c : CS} {U : Nat} (hw : CW c) : CW (o_put c U).2 := by
  unfold o_put
  split
  · exact hw
  · split
    · next h => exact ⟨hw.1, hw.2.1, hw.2.2.1, hw.2.2.2.1, h⟩
    · exact hw
theorem w_wipe {c : CS} (hw : CW c) : CW (o_wipe c).2 := hw.pad0
theorem w_fault {c : CS} : (o_fault c).2 = c := rfl
theorem w_freeStart {c : CS} {v : Int32} : (o_freeStart c v).2 = c := by unfold o_freeStart; split <;> rfl
theorem w_bestExchange {c : CS} {v w : Int32} : (o_bestExchange c v w).2 = c := by unfold o_bestExchange; repeat (first | rfl | split)
theorem w_worstPlace {c : CS} {w : Int32} : (o_worstPlace c w).2 = c := by unfold o_worstPlace; split <;> rfl
theorem w_ifTurned {c : CS} {v w : Int32} : (o_ifTurned c v w).2 = c := by unfold o_ifTurned; repeat (first | rfl | split)
theorem w_visit {c : CS} {v u w : Int32} : (o_visit c v u w).2 = c := by unfold o_visit; repeat (first | rfl | split)
theorem w_teamOf {c : CS} {v w : Int32} : (o_teamOf c v w).2 = c := by unfold o_teamOf; repeat (first | rfl | split)
theorem w_placeOf {c : CS} {v w : Int32} : (o_placeOf c v w).2 = c := by unfold o_placeOf; repeat (first | rfl | split)
theorem w_where {c : CS} {v w : Int32} : (o_where c v w).2 = c := by unfold o_where; repeat (first | rfl | split)
theorem w_told {c : CS} {v w : Int32} : (o_told c v w).2 = c := by unfold o_told; repeat (first | rfl | split)
theorem w_count {c : CS} {w : Int32} : (o_count c w).2 = c := by unfold o_count; split <;> rfl
