/-! leaves: ranges, places, teams; reads and writes of the row -/
/-- a Java boolean -/
def kb (p : Prop) [Decidable p] : Int32 := if p then nI 1 else nI 0
theorem kb_t {p : Prop} [Decidable p] (h : p) : kb p = nI 1 := if_pos h
theorem kb_f {p : Prop} [Decidable p] (h : ¬ p) : kb p = nI 0 := if_neg h
theorem kb_nar {p : Prop} [Decidable p] : narrow .boolean (.int (kb p)) = .int (kb p) := by
  by_cases h : p
  · rw [kb_t h]; decide
  · rw [kb_f h]; decide
/-- in a range from 0: one of its numbers, or below, or above -/
theorem rg_nat {x : Int32} {n : Nat} (hn : n < 2 ^ 30) : (¬ x < nI 0 ∧ ¬ nI n - nI 1 < x) ↔ ∃ t : Nat, t < n ∧ x = nI t := by
  constructor
  · rintro ⟨h1, h2⟩
    rcases pk_ix x (n := n) (by omega) with h | h | h
    · exact absurd h h1
    · exfalso
      apply h2
      rw [Int32.lt_iff_toInt_lt]
      have e : (nI n - nI 1).toInt = (n : Int) - 1 := pk_sub_toInt hn (by decide)
      rw [e]
      have := Int32.le_iff_toInt_le.mp h
      rw [nI_toInt (by omega)] at this
      omega
    · exact h
  · rintro ⟨t, ht, rfl⟩
    refine ⟨fun h => nI_pos (by omega : t < 2 ^ 31) h, fun h => ?_⟩
    rw [Int32.lt_iff_toInt_lt] at h
    have e : (nI n - nI 1).toInt = (n : Int) - 1 := pk_sub_toInt hn (by decide)
    rw [e, nI_toInt (by omega)] at h
    omega
theorem rg_to {x : Int32} {m : Nat} (hm : m < 2 ^ 30) : (¬ x < nI 0 ∧ ¬ nI m < x) ↔ ∃ t : Nat, t ≤ m ∧ x = nI t := by
  constructor
  · rintro ⟨h1, h2⟩
    rcases pk_ix x (n := m + 1) (by omega) with h | h | h
    · exact absurd h h1
    · exfalso
      apply h2
      rw [Int32.lt_iff_toInt_lt, nI_toInt (by omega)]
      have := Int32.le_iff_toInt_le.mp h
      rw [nI_toInt (by omega)] at this
      omega
    · obtain ⟨j, hj, rfl⟩ := h
      exact ⟨j, by omega, rfl⟩
  · rintro ⟨t, ht, rfl⟩
    exact ⟨nI_pos (by omega), nI_nlt ht (by omega)⟩
section LEAF
variable {l : Launch} {E : EY} {D : va_G} {cA : Nat → ClassId} {fin : Option Value → Mu → Prop} {μ : Mu} {d : Nat}
set_option maxRecDepth 100000 in
set_option maxHeartbeats 4000000 in
theorem c_isFrom {v a b : Int32} (hf : fin (some (.int (kb (¬ v < a ∧ ¬ b < v)))) μ) : PS l E D cA mX5_isFrom d fin 0 [some (.int v), some (.int a), some (.int b)] [] μ := by
  refine pw_iload_n dX5_isFrom_0 rfl ?_
  refine pw_iload_n dX5_isFrom_1 rfl ?_
  refine pw_icmp_lt (tgt := 14) dX5_isFrom_2 (by decide) (fun h1 => ?_) (fun h1 => ?_)
  · refine pw_iconst_ (v := nI 0) dX5_isFrom_14 (by decide) ?_
    exact ps_iret dX5_isFrom_15 rfl (by decide) (by rw [kb_f (fun q => q.1 h1)] at hf; exact hf)
  · refine pw_iload_n dX5_isFrom_5 rfl ?_
    refine pw_iload_n dX5_isFrom_6 rfl ?_
    refine pw_icmp_gt (tgt := 14) dX5_isFrom_7 (by decide) (fun h2 => ?_) (fun h2 => ?_)
    · refine pw_iconst_ (v := nI 0) dX5_isFrom_14 (by decide) ?_
      exact ps_iret dX5_isFrom_15 rfl (by decide) (by rw [kb_f (fun q => q.2 h2)] at hf; exact hf)
    · refine pw_iconst_ (v := nI 1) dX5_isFrom_10 (by decide) ?_
      refine pw_goto (tgt := 15) dX5_isFrom_11 (by decide) ?_
      exact ps_iret dX5_isFrom_15 rfl (by decide) (by rw [kb_t ⟨h1, h2⟩] at hf; exact hf)
set_option maxRecDepth 100000 in
set_option maxHeartbeats 4000000 in
theorem c_isPlace {v : Int32} (hf : fin (some (.int (kb (¬ v < nI 0 ∧ ¬ nI 7 < v)))) μ) : PS l E D cA mX5_isPlace (d + 1) fin 0 [some (.int v)] [] μ := by
  refine pw_iload_n dX5_isPlace_0 rfl ?_
  refine pw_iconst_ (v := nI 0) dX5_isPlace_1 (by decide) ?_
  refine pw_bipush (v := nI 7) dX5_isPlace_2 (by decide) ?_
  refine ps_callS (As := [.int v, .int (nI 0), .int (nI 7)]) (st := []) dX5_isPlace_4 cs_X5_48 rfl (Nat.le_of_ble_eq_true rfl) (Nat.le_of_ble_eq_true rfl) ?_
  refine c_isFrom ?_
  show PS l E D cA mX5_isPlace (d + 1) fin 7 [some (.int v)] [.int (kb (¬ v < nI 0 ∧ ¬ nI 7 < v))] μ
  exact ps_iret dX5_isPlace_7 rfl (kb_nar) hf
set_option maxRecDepth 100000 in
set_option maxHeartbeats 4000000 in
theorem c_isTeam {v : Int32} {n : Nat} (hn : μ 1 6 = nI n) (hf : fin (some (.int (kb (¬ v < nI 0 ∧ ¬ nI n - nI 1 < v)))) μ) : PS l E D cA mX5_isTeam (d + 1) fin 0 [some (.ref 0), some (.int v)] [] μ := by
  refine pw_iload_n dX5_isTeam_0 rfl ?_
  refine pw_iconst_ (v := nI 0) dX5_isTeam_1 (by decide) ?_
  refine pw_aload_n dX5_isTeam_2 rfl ?_
  refine ps_getr (r := 1) dX5_isTeam_3 kf_X5_10 (by decide) (by decide +kernel) ?_
  refine ps_geti (x := nI n) dX5_isTeam_6 kf_X5_98 (by decide) (by decide +kernel) hn ?_
  refine pw_iconst_ (v := nI 1) dX5_isTeam_9 (by decide) ?_
  refine pw_isub dX5_isTeam_10 ?_
  refine ps_callS (As := [.int v, .int (nI 0), .int ((nI n) - (nI 1))]) (st := []) dX5_isTeam_11 cs_X5_48 rfl (Nat.le_of_ble_eq_true rfl) (Nat.le_of_ble_eq_true rfl) ?_
  refine c_isFrom ?_
  show PS l E D cA mX5_isTeam (d + 1) fin 14 [some (.ref 0), some (.int v)] [.int (kb (¬ v < nI 0 ∧ ¬ nI n - nI 1 < v))] μ
  exact ps_iret dX5_isTeam_14 rfl (kb_nar) hf
end LEAF
