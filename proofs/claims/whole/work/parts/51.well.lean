/-! the model: isWell -/
theorem pop_255 : ∀ m, m < 256 → (m = 255 ↔ pop8 m = 8) := by decide +kernel
/-- an odd place of a text -/
theorem okc_odd {pd : Nat → Nat} {M : Nat} (h1 : 1 ≤ M) (h : ∀ j, j < 2 * M - 1 → okc pd j = true) : okc pd (2 * M - 1) = true ↔ M < 8 ∧ pd (2 * M - 1) = 62 := by
  obtain ⟨g1, g2⟩ := fmk_ok h
  have hp : pop8 (fmk pd (2 * M - 1)) = M := by rw [g2]; omega
  have hle : ∀ m, m < 256 → pop8 m ≤ 8 := by decide +kernel
  have h8 := hle _ g1
  have h5 := pop_255 _ g1
  unfold okc
  rw [if_neg (by omega), decide_eq_true_eq]
  constructor
  · rintro ⟨a, b⟩
    exact ⟨by have : ¬ pop8 (fmk pd (2 * M - 1)) = 8 := fun q => b (h5.mpr q); omega, a⟩
  · rintro ⟨a, b⟩
    exact ⟨b, fun q => by have := h5.mp q; omega⟩
theorem ffp_at {pd : Nat → Nat} {ln i : Nat} (hi : i < ln) (h : ∀ j, j < i → okc pd j = true) (h2 : ¬ okc pd i = true) : ffp pd ln = some i := by
  have : fstN (fun i => !okc pd i) ln = some i := fstN_some.mpr ⟨hi, by simpa using h2, fun j hj => by simpa using h j hj⟩
  unfold ffp
  rw [this]
