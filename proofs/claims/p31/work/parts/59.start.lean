/-! the state behind the constructors -/
def a0 : AS := fun k => if k = 0 then 10 else if k = 1 then 200 else if k = 2 then 2 else if 4 ≤ k ∧ k < 36 then (if k % 4 = 0 then 2 * ((k - 4) / 4) else if k % 4 = 2 then 5 else 0) else 0
def c0 : CS := (a0, fun _ => a0, 0, fun _ => a0, fun _ => 0, fun _ => 0, 0)
/-- where a cell lies in its State, if it lies in one -/
def offS (i : Nat) : Nat := if 1 ≤ i ∧ i < 37 then (i - 1) % 18 else if 81 ≤ i ∧ i < 189 then (i - 81) % 18 else if 191 ≤ i ∧ i < 227 then (i - 191) % 18 else 99
def mu0 : Mu := fun i k => if i = 37 then (if k = 0 then -1 else 0) else if offS i = 1 then nI (fiS k) else if offS i = 2 then nI (2 * k) else if offS i = 4 then nI 5 else if 6 ≤ offS i ∧ offS i < 18 ∧ offS i % 2 = 0 ∧ k = 4 then -1 else 0
theorem wf_a0 : Wf a0 := ⟨by decide, by decide, by decide, by decide, by decide, fun t ht => absurd ht (by show ¬ t < 0; omega)⟩
theorem cw_0 : CW c0 := ⟨wf_a0, fun j hj => absurd hj (Nat.not_lt_zero _), fun j _ => ⟨Nat.zero_le _, fun h => absurd h (by show ¬ (0 : Nat) = 1; decide)⟩, Nat.zero_le _, Nat.zero_le _⟩
theorem cx_0 : CX mu0 c0 := by
  refine ⟨⟨?_, ?_, ?_, ⟨0, by decide, by decide +kernel, ?_⟩, fun t ht => absurd ht (by show ¬ t < 0; omega)⟩, ⟨Nat.zero_le _, by decide +kernel, 0, by decide, by decide +kernel, fun j hj => absurd hj (Nat.not_lt_zero _)⟩, ?_, fun j _ h => absurd h (by show ¬ (0 : Nat) = 1; decide), ⟨by decide +kernel, Nat.zero_le _, fun k hk => absurd hk (Nat.not_lt_zero _)⟩⟩
  · show ∀ k, k < 3 → mu0 2 k = nI (a0 k)
    decide +kernel
  · show mu0 1 6 = nI (a0 3)
    decide +kernel
  · show ∀ p, p < 8 → mu0 3 p = nI (a0 (4 + 4 * p)) ∧ mu0 4 p = nI (a0 (5 + 4 * p)) ∧ mu0 5 p = nI (a0 (6 + 4 * p))
    decide +kernel
  · show ∀ p, p < 8 → 0 / 2 ^ p % 2 = a0 (7 + 4 * p)
    decide +kernel
  · show ∀ j, j < 2 → mu0 190 j = nI 0
    decide +kernel
theorem em_0 : TTM = em mu0 := by decide +kernel
