/-! Team and State: copies, bits, looks -/
theorem px_copy {l : Launch} {E : EY} {D : va_G} {cA : Nat → ClassId} {X : MT} {d : Nat} {fin : Option Value → Mu → Prop} {pc : Nat} {ls : List (Option Value)} {st : List Value} {μ : Mu} {idx i j n : Nat} (hd : decode X.2.2.1 pc = .ok (.invokestatic idx, 3)) (hl : Cond.methodLink X.1 idx arraycopyName ∈ TB) (hi : oka i 100 n = true) (hj : oka j 100 n = true) {m : Int32} (hm : m = nI n) (hw : (st.map fun v => v.category).sum ≤ 8) (kk : PS l E D cA X (d + 1) fin (pc + 3) ls st (u2c μ j i)) : PS l E D cA X (d + 1) fin pc ls (.int m :: .int (nI 0) :: .ref j :: .int (nI 0) :: .ref i :: st) μ := by
  obtain ⟨h1, h2, h3, h4⟩ := oka_of hi
  obtain ⟨g1, g2, g3, g4⟩ := oka_of hj
  rw [nI_0]
  exact ps_copy hd hl ca_native ca_static ca_init h1 g1 h2 g2 h3 g3 (fun k hk => ⟨h4 k hk, g4 k hk⟩) hm hw kk
/-! THE ABSTRACT STATE: the model's row of 108, in natural numbers -/
abbrev AS : Type := Nat → Nat
/-- a Team object w with its route's row v holds team t of a -/
def RT (μ : Mu) (w v : Nat) (a : AS) (t : Nat) : Prop := μ w 1 = nI (a (39 + 12 * t)) ∧ μ w 2 = nI (a (36 + 12 * t)) ∧ μ w 3 = nI (a (37 + 12 * t)) ∧ μ w 4 = nI (a (38 + 12 * t)) - nI 1 ∧ ∀ k, k < a (39 + 12 * t) → μ v k = nI (a (40 + 12 * t + k))
/-- a State object s holds a -/
def RS (μ : Mu) (s : Nat) (a : AS) : Prop := (∀ k, k < 3 → μ (s + 1) k = nI (a k)) ∧ μ s 6 = nI (a 3) ∧ (∀ p, p < 8 → μ (s + 2) p = nI (a (4 + 4 * p)) ∧ μ (s + 3) p = nI (a (5 + 4 * p)) ∧ μ (s + 4) p = nI (a (6 + 4 * p))) ∧ (∃ m, m < 256 ∧ μ s 4 = nI m ∧ ∀ p, p < 8 → m / 2 ^ p % 2 = a (7 + 4 * p)) ∧ ∀ t, t < a 3 → RT μ (s + 6 + 2 * t) (s + 7 + 2 * t) a t
/-- what holds of every state that comes -/
def Wf (a : AS) : Prop := a 0 ≤ 50 ∧ a 1 ≤ 500 ∧ (1 ≤ a 2 ∧ a 2 ≤ 5) ∧ a 3 ≤ 6 ∧ (∀ p, p < 8 → a (4 + 4 * p) ≤ 20 ∧ a (5 + 4 * p) ≤ 20 ∧ (1 ≤ a (6 + 4 * p) ∧ a (6 + 4 * p) ≤ 15) ∧ a (7 + 4 * p) ≤ 1) ∧ ∀ t, t < a 3 → a (36 + 12 * t) ≤ 200 ∧ a (37 + 12 * t) < 256 ∧ a (38 + 12 * t) ≤ 8 ∧ (1 ≤ a (39 + 12 * t) ∧ a (39 + 12 * t) ≤ 8) ∧ ∀ k, k < a (39 + 12 * t) → a (40 + 12 * t + k) < 8
theorem isS_odd {s : Nat} (h : isS s) : s % 2 = 1 ∧ 1 ≤ s ∧ s ≤ 209 := by
  have : ∀ s, s ∈ [1, 19, 81, 99, 117, 135, 153, 171, 191, 209] → s % 2 = 1 ∧ 1 ≤ s ∧ s ≤ 209 := by decide
  exact this s h
theorem bit_shr : ∀ m, m < 256 → ∀ p, p < 8 → (nI m >>> (nI p &&& 31)) &&& nI 1 = nI (m / 2 ^ p % 2) := by decide +kernel
theorem bit_01 (m p : Nat) : m / 2 ^ p % 2 = 0 ∨ m / 2 ^ p % 2 = 1 := by omega
/-- outside of the cells from s on, n of them, nothing is changed -/
def sameOff (ν μ : Mu) (s n : Nat) : Prop := ∀ i k, ¬ (s ≤ i ∧ i < s + n) → ν i k = μ i k
/-- the State at s is as that at o was -/
def CPS (ν μ : Mu) (s o : Nat) : Prop := sameOff ν μ s 18 ∧ ν s 4 = μ o 4 ∧ ν s 6 = μ o 6 ∧ (∀ j k, 1 ≤ j → j < 5 → ν (s + j) k = μ (o + j) k) ∧ ∀ t, t < 6 → (∀ k, 1 ≤ k → k < 5 → ν (s + 6 + 2 * t) k = μ (o + 6 + 2 * t) k) ∧ ∀ k, ν (s + 7 + 2 * t) k = μ (o + 7 + 2 * t) k
theorem RT.of {ν μ : Mu} {w v w2 v2 : Nat} {a : AS} {t : Nat} (h : RT μ w2 v2 a t) (h1 : ∀ k, 1 ≤ k → k < 5 → ν w k = μ w2 k) (h2 : ∀ k, ν v k = μ v2 k) : RT ν w v a t := by
  obtain ⟨g1, g2, g3, g4, g5⟩ := h
  exact ⟨(h1 1 (by decide) (by decide)).trans g1, (h1 2 (by decide) (by decide)).trans g2, (h1 3 (by decide) (by decide)).trans g3, (h1 4 (by decide) (by decide)).trans g4, fun k hk => (h2 k).trans (g5 k hk)⟩
theorem CPS.RS {ν μ : Mu} {s o : Nat} {a : AS} (h : CPS ν μ s o) (ha : a 3 ≤ 6) (hr : RS μ o a) : RS ν s a := by
  obtain ⟨-, h1, h2, h3, h4⟩ := h
  obtain ⟨g1, g2, g3, ⟨m, g4, g5, g6⟩, g7⟩ := hr
  refine ⟨fun k hk => (h3 1 k (by decide) (by decide)).trans (g1 k hk), h2.trans g2, fun p hp => ⟨(h3 2 p (by decide) (by decide)).trans (g3 p hp).1, (h3 3 p (by decide) (by decide)).trans (g3 p hp).2.1, (h3 4 p (by decide) (by decide)).trans (g3 p hp).2.2⟩, ⟨m, g4, h1.trans g5, g6⟩, fun t ht => ?_⟩
  exact (g7 t ht).of (h4 t (by omega)).1 (h4 t (by omega)).2
theorem RS.same {ν μ : Mu} {s : Nat} {a : AS} (ha : a 3 ≤ 6) (h : ∀ i k, s ≤ i → i < s + 18 → ν i k = μ i k) (hr : RS μ s a) : RS ν s a := by
  obtain ⟨g1, g2, g3, ⟨m, g4, g5, g6⟩, g7⟩ := hr
  refine ⟨fun k hk => (h _ _ (by omega) (by omega)).trans (g1 k hk), (h _ _ (by omega) (by omega)).trans g2, fun p hp => ⟨(h _ _ (by omega) (by omega)).trans (g3 p hp).1, (h _ _ (by omega) (by omega)).trans (g3 p hp).2.1, (h _ _ (by omega) (by omega)).trans (g3 p hp).2.2⟩, ⟨m, g4, (h _ _ (by omega) (by omega)).trans g5, g6⟩, fun t ht => ?_⟩
  exact (g7 t ht).of (fun k _ _ => h _ _ (by omega) (by omega)) (fun k => h _ _ (by omega) (by omega))
section STATE
variable {l : Launch} {E : EY} {D : va_G} {cA : Nat → ClassId} {fin : Option Value → Mu → Prop} {μ : Mu} {d : Nat}
/-! copies -/
set_option maxRecDepth 100000 in
set_option maxHeartbeats 4000000 in
theorem c_T_copyFrom {s t o t2 : Nat} (hs : isS s) (ht : t < 6) (ho : isS o) (ht2 : t2 < 6) (hf : ∀ ν : Mu, (∀ i k, i ≠ s + 6 + 2 * t → i ≠ s + 7 + 2 * t → ν i k = μ i k) → (∀ k, 1 ≤ k → k < 5 → ν (s + 6 + 2 * t) k = μ (o + 6 + 2 * t2) k) → (∀ k, ν (s + 7 + 2 * t) k = μ (o + 7 + 2 * t2) k) → fin none ν) : PS l E D cA mX4_copyFrom (d + 1) fin 0 [some (.ref (s + 6 + 2 * t)), some (.ref (o + 6 + 2 * t2))] [] μ := by
  have q1 := isS_odd hs
  have q2 := isS_odd ho
  refine pw_aload_n dX4_copyFrom_0 rfl ?_
  refine ps_getr (r := o + 7 + 2 * t2) dX4_copyFrom_1 kf_X4_9 (by decide) ((ok_T ho ht2).2.1) ?_
  refine pw_iconst_ (v := nI 0) dX4_copyFrom_4 (by decide) ?_
  refine pw_aload_n dX4_copyFrom_5 rfl ?_
  refine ps_getr (r := s + 7 + 2 * t) dX4_copyFrom_6 kf_X4_9 (by decide) ((ok_T hs ht).2.1) ?_
  refine pw_iconst_ (v := nI 0) dX4_copyFrom_9 (by decide) ?_
  refine pw_bipush (v := nI 8) dX4_copyFrom_10 (by decide) ?_
  refine px_copy (n := 8) dX4_copyFrom_12 ca_X4_19 ((ok_T ho ht2).2.2.2.2.2.2) ((ok_T hs ht).2.2.2.2.2.2) rfl (Nat.le_of_ble_eq_true rfl) ?_
  refine pw_aload_n dX4_copyFrom_15 rfl ?_
  refine pw_aload_n dX4_copyFrom_16 rfl ?_
  refine ps_geti (x := μ (o + 6 + 2 * t2) 1) dX4_copyFrom_17 kf_X4_25 (by decide) ((ok_T ho ht2).2.2.1) (u2c_a (by omega)) ?_
  refine ps_puti dX4_copyFrom_20 kf_X4_25 (by decide) rfl ((ok_T hs ht).2.2.1) ?_
  refine pw_aload_n dX4_copyFrom_23 rfl ?_
  refine pw_aload_n dX4_copyFrom_24 rfl ?_
  refine ps_geti (x := μ (o + 6 + 2 * t2) 2) dX4_copyFrom_25 kf_X4_28 (by decide) ((ok_T ho ht2).2.2.2.1) ((u2_b (by decide)).trans (u2c_a (by omega))) ?_
  refine ps_puti dX4_copyFrom_28 kf_X4_28 (by decide) rfl ((ok_T hs ht).2.2.2.1) ?_
  refine pw_aload_n dX4_copyFrom_31 rfl ?_
  refine pw_aload_n dX4_copyFrom_32 rfl ?_
  refine ps_geti (x := μ (o + 6 + 2 * t2) 3) dX4_copyFrom_33 kf_X4_31 (by decide) ((ok_T ho ht2).2.2.2.2.1) ((u2_b (by decide)).trans ((u2_b (by decide)).trans (u2c_a (by omega)))) ?_
  refine ps_puti dX4_copyFrom_36 kf_X4_31 (by decide) rfl ((ok_T hs ht).2.2.2.2.1) ?_
  refine pw_aload_n dX4_copyFrom_39 rfl ?_
  refine pw_aload_n dX4_copyFrom_40 rfl ?_
  refine ps_geti (x := μ (o + 6 + 2 * t2) 4) dX4_copyFrom_41 kf_X4_15 (by decide) ((ok_T ho ht2).2.2.2.2.2.1) ((u2_b (by decide)).trans ((u2_b (by decide)).trans ((u2_b (by decide)).trans (u2c_a (by omega))))) ?_
  refine ps_puti dX4_copyFrom_44 kf_X4_15 (by decide) rfl ((ok_T hs ht).2.2.2.2.2.1) ?_
  refine ps_ret dX4_copyFrom_47 rfl (hf _ ?_ ?_ ?_)
  · intro i k h1 h2
    rw [u2_a h1, u2_a h1, u2_a h1, u2_a h1, u2c_a h2]
  · intro k h1 h2
    rcases (show k = 1 ∨ k = 2 ∨ k = 3 ∨ k = 4 by omega) with rfl | rfl | rfl | rfl
    · rw [u2_b (by decide), u2_b (by decide), u2_b (by decide), u2_s]
    · rw [u2_b (by decide), u2_b (by decide), u2_s]
    · rw [u2_b (by decide), u2_s]
    · rw [u2_s]
  · intro k
    rw [u2_a (by omega), u2_a (by omega), u2_a (by omega), u2_a (by omega), u2c_s]
end STATE
