/-! the model: reading the pad -/
/-- the places read so far, as bits and as a row -/
theorem fmk_bit {pd : Nat → Nat} : ∀ {i : Nat}, (∀ j, j < i → okc pd j = true) → ∀ q, q < 8 → (fmk pd i / 2 ^ q % 2 = 1 ↔ ∃ k, 2 * k < i ∧ pd (2 * k) - 97 = q)
  | 0, _, q, _ => by
    show (0 : Nat) / 2 ^ q % 2 = 1 ↔ _
    rw [Nat.zero_div]
    exact ⟨fun h => absurd h (by decide), fun ⟨k, h, _⟩ => absurd h (by omega)⟩
  | i + 1, h, q, hq => by
    have ih := fmk_bit (i := i) (fun j hj => h j (by omega)) q hq
    have hm := (fmk_ok (i := i) (fun j hj => h j (by omega))).1
    have hi := h i (by omega)
    show (if i % 2 = 0 then fmk pd i + 2 ^ (pd i - 97) else fmk pd i) / 2 ^ q % 2 = 1 ↔ _
    by_cases e : i % 2 = 0
    · rw [if_pos e]
      unfold okc at hi
      rw [if_pos e, decide_eq_true_eq] at hi
      have ho := (or_m8 _ hm (pd i - 97) (by omega) hi.2.2).2.2.2 q hq
      rw [ho]
      by_cases e2 : q = pd i - 97
      · rw [if_pos e2]
        exact ⟨fun _ => ⟨i / 2, by omega, by rw [show 2 * (i / 2) = i by omega]; exact e2.symm⟩, fun _ => rfl⟩
      · rw [if_neg e2, ih]
        constructor
        · rintro ⟨k, h1, h2⟩
          exact ⟨k, by omega, h2⟩
        · rintro ⟨k, h1, h2⟩
          refine ⟨k, ?_, h2⟩
          rcases Nat.lt_or_ge (2 * k) i with g | g
          · exact g
          · exfalso
            rw [show 2 * k = i by omega] at h2
            exact e2 h2.symm
    · rw [if_neg e, ih]
      constructor
      · rintro ⟨k, h1, h2⟩
        exact ⟨k, by omega, h2⟩
      · rintro ⟨k, h1, h2⟩
        exact ⟨k, by omega, h2⟩
