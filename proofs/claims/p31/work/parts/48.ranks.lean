/-! ranks: who is ahead is a strict order; the winner is who has rank 0 (as in whole) -/
theorem pz_b {a : AS} (hw : Wf a) {n t : Nat} (ht : t < a 3) (ho : OV a n t ≤ 10520) : -20000 ≤ pz a n t ∧ pz a n t ≤ 20000 := by
  have h1 := tl_le hw ht
  have h2 := hd_le a t (tl a t)
  have h3 : a 1 * tl a t ≤ 500 * 8 := Nat.mul_le_mul hw.2.1 h1
  have h4 : a 0 * hd a t (tl a t) ≤ 50 * 8 := Nat.mul_le_mul hw.1 (by omega)
  unfold pz
  omega
theorem ptd_int {a : AS} (hw : Wf a) {n t u : Nat} (ht : t < a 3) (hu : u < a 3) (ho : OV a n t ≤ 10520) (ho2 : OV a n u ≤ 10520) : (pt a n t - pt a n u).toInt = pz a n t - pz a n u := by
  have h1 := pz_b hw ht ho
  have h2 := pz_b hw hu ho2
  rw [Int32.toInt_sub, pt_int hw ht ho, pt_int hw hu ho2]
  unfold Int.bmod
  dsimp only
  split <;> omega
theorem ah_irr {a : AS} {n t : Nat} : ah a n t t = false := by simp [ah]
theorem ah_tr {a : AS} {n t u v : Nat} (h1 : ah a n t u = true) (h2 : ah a n u v = true) : ah a n t v = true := by
  simp only [ah, decide_eq_true_eq] at *
  omega
theorem ah_tot {a : AS} {n t u : Nat} (h : ¬ ah a n t u = true) (hn : t ≠ u) : ah a n u t = true := by
  simp only [ah, decide_eq_true_eq] at *
  omega
theorem ah_as {a : AS} {n t u : Nat} (h : ah a n t u = true) : ¬ ah a n u t = true := by
  simp only [ah, decide_eq_true_eq] at *
  omega
theorem wnp_0 {a : AS} {n : Nat} : ∀ {i : Nat}, wnp a n i = none → i = 0
  | 0, _ => rfl
  | i + 1, h => by
    unfold wnp at h
    split at h
    · cases h
    · split at h <;> cases h
theorem wnp_best {a : AS} {n : Nat} : ∀ {i b : Nat}, wnp a n i = some b → ∀ u, u < i → u ≠ b → ah a n b u = true
  | 0, b, h => by cases h
  | i + 1, b, h => by
    unfold wnp at h
    intro u hu hub
    split at h
    · next h0 =>
      cases h
      have := wnp_0 h0
      omega
    · next c hc =>
      have ih := wnp_best hc
      split at h
      · next ha =>
        cases h
        by_cases e : u = c
        · rw [e]
          exact ha
        · exact ah_tr ha (ih u (by omega) e)
      · next ha =>
        cases h
        by_cases e : u = i
        · rw [e]
          exact ah_tot ha (by omega)
        · exact ih u (by omega) hub
theorem cntN_0 {p : Nat → Bool} : ∀ {n : Nat}, cntN p n = 0 ↔ ∀ i, i < n → ¬ p i = true
  | 0 => ⟨fun _ i h => absurd h (Nat.not_lt_zero _), fun _ => rfl⟩
  | n + 1 => by
    have ih := cntN_0 (p := p) (n := n)
    show cntN p n + (if p n = true then 1 else 0) = 0 ↔ _
    constructor
    · intro h i hi
      rcases Nat.lt_or_eq_of_le (Nat.le_of_lt_succ hi) with h2 | rfl
      · exact ih.mp (by omega) i h2
      · intro hp
        rw [if_pos hp] at h
        omega
    · intro h
      rw [ih.mpr (fun i hi => h i (by omega)), if_neg (h n (Nat.lt_succ_self _))]
theorem rk_0 {a : AS} {n b : Nat} (h : wnp a n n = some b) {t : Nat} (ht : t < n) : rk a n t = 0 ↔ t = b := by
  unfold rk
  rw [cntN_0]
  constructor
  · intro h1
    by_cases e : t = b
    · exact e
    · exact absurd (wnp_best h t ht e) (h1 b (wnp_lt h))
  · rintro rfl u hu
    by_cases e : u = t
    · rw [e, ah_irr]
      decide
    · exact ah_as (wnp_best h u hu e)
