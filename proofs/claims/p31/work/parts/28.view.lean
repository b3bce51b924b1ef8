/-! what stands behind the calls: now, history, slots, pad; and its changes -/
/-- now; history, its length; slots, which are saved; pad, its length -/
abbrev CS : Type := AS × (Nat → AS) × Nat × (Nat → AS) × (Nat → Nat) × (Nat → Nat) × Nat
abbrev na (c : CS) : AS := c.1
abbrev hH (c : CS) : Nat → AS := c.2.1
abbrev hN (c : CS) : Nat := c.2.2.1
abbrev sS (c : CS) : Nat → AS := c.2.2.2.1
abbrev sV (c : CS) : Nat → Nat := c.2.2.2.2.1
abbrev pD (c : CS) : Nat → Nat := c.2.2.2.2.2.1
abbrev pL (c : CS) : Nat := c.2.2.2.2.2.2
/-- all but now -/
def CO (μ : Mu) (c : CS) : Prop := RH μ (hH c) (hN c) ∧ (∀ j, j < 2 → μ 190 j = nI (sV c j)) ∧ (∀ j, j < 2 → sV c j = 1 → RS μ (191 + 18 * j) (sS c j)) ∧ RP μ (pD c) (pL c)
def CX (μ : Mu) (c : CS) : Prop := RS μ 1 (na c) ∧ CO μ c
def CW (c : CS) : Prop := Wf (na c) ∧ (∀ j, j < hN c → Wf (hH c j)) ∧ (∀ j, j < 2 → sV c j ≤ 1 ∧ (sV c j = 1 → Wf (sS c j))) ∧ hN c ≤ 6 ∧ pL c ≤ 20
/-- the model's cells stay -/
def SM (ν μ : Mu) : Prop := ∀ q k, 227 ≤ q → ν q k = μ q k
def cnow (c : CS) (b : AS) : CS := (b, c.2)
/-- now goes into the history -/
def crec (c : CS) : CS := (na c, rcH (hH c) (hN c) (na c), rcN (hN c), c.2.2.2)
theorem SM.rfl {μ : Mu} : SM μ μ := fun _ _ _ => Eq.refl _
theorem SM.tr {ν μ κ : Mu} (h1 : SM ν κ) (h2 : SM κ μ) : SM ν μ := fun q k h => (h1 q k h).trans (h2 q k h)
theorem SM.up {ν μ : Mu} {i k : Nat} {x : Int32} (h : SM ν μ) (hi : i < 227) : SM (u2 ν i k x) μ := fun q j hq => (u2_a (by omega)).trans (h q j hq)
theorem Wf.t6 {a : AS} (h : Wf a) : a 3 ≤ 6 := h.2.2.2.1
theorem Wf.pl {a : AS} (h : Wf a) {p : Nat} (hp : p < 8) : a (4 + 4 * p) ≤ 20 ∧ a (5 + 4 * p) ≤ 20 ∧ (1 ≤ a (6 + 4 * p) ∧ a (6 + 4 * p) ≤ 15) ∧ a (7 + 4 * p) ≤ 1 := h.2.2.2.2.1 p hp
theorem Wf.tm {a : AS} (h : Wf a) {t : Nat} (ht : t < a 3) : a (36 + 12 * t) ≤ 200 ∧ a (37 + 12 * t) < 256 ∧ a (38 + 12 * t) ≤ 8 ∧ (1 ≤ a (39 + 12 * t) ∧ a (39 + 12 * t) ≤ 8) ∧ ∀ k, k < a (39 + 12 * t) → a (40 + 12 * t + k) < 8 := h.2.2.2.2.2 t ht
theorem RP.off {μ ν : Mu} {pd : Nat → Nat} {ln : Nat} (h : ∀ q k, q = 77 ∨ q = 78 → ν q k = μ q k) (hR : RP μ pd ln) : RP ν pd ln :=
  ⟨(h _ _ (Or.inl rfl)).trans hR.1, hR.2.1, fun k hk => ⟨(h _ _ (Or.inr rfl)).trans (hR.2.2 k hk).1, (hR.2.2 k hk).2⟩⟩
theorem RH.off {μ ν : Mu} {H : Nat → AS} {n : Nat} (hW : ∀ j, j < n → H j 3 ≤ 6) (h : ∀ q k, q = 79 ∨ (81 ≤ q ∧ q < 189) → ν q k = μ q k) (hR : RH μ H n) : RH ν H n := by
  obtain ⟨h1, h2, o, ho, h3, h4⟩ := hR
  refine ⟨h1, (h _ _ (Or.inl rfl)).trans h2, o, ho, (h _ _ (Or.inl rfl)).trans h3, fun j hj => RS.same (hW j hj) (fun i k g1 g2 => ?_) (h4 j hj)⟩
  have := Nat.mod_lt (o + j) (show 0 < 6 by decide)
  exact h _ _ (by omega)
theorem CO.off {μ ν : Mu} {c : CS} (hw : CW c) (h : ∀ q k, 77 ≤ q → q < 227 → ν q k = μ q k) (hR : CO μ c) : CO ν c := by
  obtain ⟨h1, h2, h3, h4⟩ := hR
  refine ⟨h1.off (fun j hj => (hw.2.1 j hj).t6) (fun q k g => h q k (by omega) (by omega)), fun j hj => (h _ _ (by decide) (by decide)).trans (h2 j hj), fun j hj e => RS.same ((hw.2.2.1 j hj).2 e).t6 (fun i k g1 g2 => h i k (by omega) (by omega)) (h3 j hj e), h4.off (fun q k g => h q k (by omega) (by omega))⟩
theorem CX.rec {μ ν : Mu} {c : CS} (hw : CW c) (hx : CX μ c) (h1 : RH ν (rcH (hH c) (hN c) (na c)) (rcN (hN c))) (h2 : ∀ q k, q ≠ 79 → ¬ (81 ≤ q ∧ q < 189) → ν q k = μ q k) : CX ν (crec c) := by
  obtain ⟨g0, g1, g2, g3, g4⟩ := hx
  refine ⟨RS.same hw.1.t6 (fun i k e1 e2 => h2 i k (by omega) (by omega)) g0, h1, fun j hj => (h2 _ _ (by decide) (by omega)).trans (g2 j hj), fun j hj e => RS.same ((hw.2.2.1 j hj).2 e).t6 (fun i k e1 e2 => h2 i k (by omega) (by omega)) (g3 j hj e), g4.off (fun q k g => h2 q k (by omega) (by omega))⟩
theorem CW.rec {c : CS} (hw : CW c) : CW (crec c) := by
  obtain ⟨g0, g1, g2, g3, g4⟩ := hw
  refine ⟨g0, fun j hj => ?_, g2, ?_, g4⟩
  · show Wf (rcH (hH c) (hN c) (na c) j)
    have hj : j < rcN (hN c) := hj
    unfold rcN at hj
    unfold rcH
    by_cases e : hN c = 6
    · rw [if_pos e] at hj ⊢
      by_cases e2 : j = 5
      · simp only [e2, if_pos]
        exact g0
      · simp only [e2, if_false]
        exact g1 (j + 1) (by omega)
    · rw [if_neg e] at hj ⊢
      by_cases e2 : j = hN c
      · simp only [e2, if_pos]
        exact g0
      · simp only [e2, if_false]
        exact g1 j (by omega)
  · show rcN (hN c) ≤ 6
    unfold rcN
    split <;> omega
theorem CW.now {c : CS} {b : AS} (hw : CW c) (hb : Wf b) : CW (cnow c b) := ⟨hb, hw.2⟩
theorem RT.ext {μ : Mu} {w v t : Nat} {a b : AS} (h : RT μ w v a t) (hl : a (39 + 12 * t) ≤ 8) (he : ∀ i, 36 + 12 * t ≤ i → i < 48 + 12 * t → b i = a i) : RT μ w v b t := by
  obtain ⟨g1, g2, g3, g4, g5⟩ := h
  refine ⟨by rw [he _ (by omega) (by omega)]; exact g1, by rw [he _ (by omega) (by omega)]; exact g2, by rw [he _ (by omega) (by omega)]; exact g3, by rw [he _ (by omega) (by omega)]; exact g4, fun k hk => ?_⟩
  rw [he _ (by omega) (by omega)] at hk
  rw [he _ (by omega) (by omega)]
  exact g5 k hk
theorem RS.set {μ : Mu} {s v : Nat} {a : AS} {k : Nat} (hk : k < 3) (hw : Wf a) (h : RS μ s a) : RS (u2 μ (s + 1) k (nI v)) s (up1 a (k) v) := by
  obtain ⟨g1, g2, g3, ⟨m, g4, g5, g6⟩, g7⟩ := h
  refine ⟨fun j hj => ?_, ?_, fun p hp => ⟨?_, ?_, ?_⟩, ⟨m, g4, ?_, fun p hp => ?_⟩, fun t ht => ?_⟩
  · by_cases e : j = k
    · subst e
      rw [u2_s, up1_s]
    · rw [u2_b e, up1_n (by omega)]
      exact g1 j hj
  · rw [u2_a (by omega), up1_n (by omega)]
    exact g2
  · rw [u2_a (by omega), up1_n (by omega)]
    exact (g3 p hp).1
  · rw [u2_a (by omega), up1_n (by omega)]
    exact (g3 p hp).2.1
  · rw [u2_a (by omega), up1_n (by omega)]
    exact (g3 p hp).2.2
  · rw [u2_a (by omega)]
    exact g5
  · rw [up1_n (by omega)]
    exact g6 p hp
  · rw [up1_n (by omega)] at ht
    have hl := (hw.tm ht).2.2.2.1.2
    refine ((g7 t ht).of (fun k _ _ => u2_a (by omega)) (fun k => u2_a (by omega))).ext hl (fun i _ _ => up1_n (by omega))
theorem RS.xs {μ : Mu} {s v : Nat} {a : AS} {q : Nat} (hq : q < 8) (hw : Wf a) (h : RS μ s a) : RS (u2 μ (s + 2) q (nI v)) s (up1 a (4 + 4 * q) v) := by
  obtain ⟨g1, g2, g3, ⟨m, g4, g5, g6⟩, g7⟩ := h
  refine ⟨fun j hj => ?_, ?_, fun p hp => ⟨?_, ?_, ?_⟩, ⟨m, g4, ?_, fun p hp => ?_⟩, fun t ht => ?_⟩
  · rw [u2_a (by omega), up1_n (by omega)]
    exact g1 j hj
  · rw [u2_a (by omega), up1_n (by omega)]
    exact g2
  · by_cases e : p = q
    · subst e
      rw [u2_s, up1_s]
    · rw [u2_b e, up1_n (by omega)]
      exact (g3 p hp).1
  · rw [u2_a (by omega), up1_n (by omega)]
    exact (g3 p hp).2.1
  · rw [u2_a (by omega), up1_n (by omega)]
    exact (g3 p hp).2.2
  · rw [u2_a (by omega)]
    exact g5
  · rw [up1_n (by omega)]
    exact g6 p hp
  · rw [up1_n (by omega)] at ht
    have hl := (hw.tm ht).2.2.2.1.2
    refine ((g7 t ht).of (fun k _ _ => u2_a (by omega)) (fun k => u2_a (by omega))).ext hl (fun i _ _ => up1_n (by omega))
theorem RS.ys {μ : Mu} {s v : Nat} {a : AS} {q : Nat} (hq : q < 8) (hw : Wf a) (h : RS μ s a) : RS (u2 μ (s + 3) q (nI v)) s (up1 a (5 + 4 * q) v) := by
  obtain ⟨g1, g2, g3, ⟨m, g4, g5, g6⟩, g7⟩ := h
  refine ⟨fun j hj => ?_, ?_, fun p hp => ⟨?_, ?_, ?_⟩, ⟨m, g4, ?_, fun p hp => ?_⟩, fun t ht => ?_⟩
  · rw [u2_a (by omega), up1_n (by omega)]
    exact g1 j hj
  · rw [u2_a (by omega), up1_n (by omega)]
    exact g2
  · rw [u2_a (by omega), up1_n (by omega)]
    exact (g3 p hp).1
  · by_cases e : p = q
    · subst e
      rw [u2_s, up1_s]
    · rw [u2_b e, up1_n (by omega)]
      exact (g3 p hp).2.1
  · rw [u2_a (by omega), up1_n (by omega)]
    exact (g3 p hp).2.2
  · rw [u2_a (by omega)]
    exact g5
  · rw [up1_n (by omega)]
    exact g6 p hp
  · rw [up1_n (by omega)] at ht
    have hl := (hw.tm ht).2.2.2.1.2
    refine ((g7 t ht).of (fun k _ _ => u2_a (by omega)) (fun k => u2_a (by omega))).ext hl (fun i _ _ => up1_n (by omega))
theorem RS.looks {μ : Mu} {s v : Nat} {a : AS} {q : Nat} (hq : q < 8) (hw : Wf a) (h : RS μ s a) : RS (u2 μ (s + 4) q (nI v)) s (up1 a (6 + 4 * q) v) := by
  obtain ⟨g1, g2, g3, ⟨m, g4, g5, g6⟩, g7⟩ := h
  refine ⟨fun j hj => ?_, ?_, fun p hp => ⟨?_, ?_, ?_⟩, ⟨m, g4, ?_, fun p hp => ?_⟩, fun t ht => ?_⟩
  · rw [u2_a (by omega), up1_n (by omega)]
    exact g1 j hj
  · rw [u2_a (by omega), up1_n (by omega)]
    exact g2
  · rw [u2_a (by omega), up1_n (by omega)]
    exact (g3 p hp).1
  · rw [u2_a (by omega), up1_n (by omega)]
    exact (g3 p hp).2.1
  · by_cases e : p = q
    · subst e
      rw [u2_s, up1_s]
    · rw [u2_b e, up1_n (by omega)]
      exact (g3 p hp).2.2
  · rw [u2_a (by omega)]
    exact g5
  · rw [up1_n (by omega)]
    exact g6 p hp
  · rw [up1_n (by omega)] at ht
    have hl := (hw.tm ht).2.2.2.1.2
    refine ((g7 t ht).of (fun k _ _ => u2_a (by omega)) (fun k => u2_a (by omega))).ext hl (fun i _ _ => up1_n (by omega))
theorem RS.start {μ : Mu} {s v : Nat} {a : AS} {u : Nat} (hu : u < 6) (hw : Wf a) (h : RS μ s a) : RS (u2 μ (s + 6 + 2 * u) 2 (nI v)) s (up1 a (36 + 12 * u) v) := by
  obtain ⟨g1, g2, g3, ⟨m, g4, g5, g6⟩, g7⟩ := h
  refine ⟨fun j hj => ?_, ?_, fun p hp => ⟨?_, ?_, ?_⟩, ⟨m, g4, ?_, fun p hp => ?_⟩, fun t ht => ?_⟩
  · rw [u2_a (by omega), up1_n (by omega)]
    exact g1 j hj
  · rw [u2_a (by omega), up1_n (by omega)]
    exact g2
  · rw [u2_a (by omega), up1_n (by omega)]
    exact (g3 p hp).1
  · rw [u2_a (by omega), up1_n (by omega)]
    exact (g3 p hp).2.1
  · rw [u2_a (by omega), up1_n (by omega)]
    exact (g3 p hp).2.2
  · rw [u2_a (by omega)]
    exact g5
  · rw [up1_n (by omega)]
    exact g6 p hp
  · rw [up1_n (by omega)] at ht
    have hl := (hw.tm ht).2.2.2.1.2
    by_cases e : t = u
    · subst e
      obtain ⟨q1, q2, q3, q4, q5⟩ := g7 t ht
      exact ⟨by rw [u2_b (by omega), up1_n (by omega)]; exact q1, by rw [u2_s, up1_s], by rw [u2_b (by omega), up1_n (by omega)]; exact q3, by rw [u2_b (by omega), up1_n (by omega)]; exact q4, fun k hk => by rw [up1_n (by omega)] at hk; rw [u2_a (by omega), up1_n (by omega)]; exact q5 k hk⟩
    · exact ((g7 t ht).of (fun k _ _ => u2_a (by omega)) (fun k => u2_a (by omega))).ext hl (fun i _ _ => up1_n (by omega))
theorem RS.hints {μ : Mu} {s v : Nat} {a : AS} {u : Nat} (hu : u < 6) (hw : Wf a) (h : RS μ s a) : RS (u2 μ (s + 6 + 2 * u) 3 (nI v)) s (up1 a (37 + 12 * u) v) := by
  obtain ⟨g1, g2, g3, ⟨m, g4, g5, g6⟩, g7⟩ := h
  refine ⟨fun j hj => ?_, ?_, fun p hp => ⟨?_, ?_, ?_⟩, ⟨m, g4, ?_, fun p hp => ?_⟩, fun t ht => ?_⟩
  · rw [u2_a (by omega), up1_n (by omega)]
    exact g1 j hj
  · rw [u2_a (by omega), up1_n (by omega)]
    exact g2
  · rw [u2_a (by omega), up1_n (by omega)]
    exact (g3 p hp).1
  · rw [u2_a (by omega), up1_n (by omega)]
    exact (g3 p hp).2.1
  · rw [u2_a (by omega), up1_n (by omega)]
    exact (g3 p hp).2.2
  · rw [u2_a (by omega)]
    exact g5
  · rw [up1_n (by omega)]
    exact g6 p hp
  · rw [up1_n (by omega)] at ht
    have hl := (hw.tm ht).2.2.2.1.2
    by_cases e : t = u
    · subst e
      obtain ⟨q1, q2, q3, q4, q5⟩ := g7 t ht
      exact ⟨by rw [u2_b (by omega), up1_n (by omega)]; exact q1, by rw [u2_b (by omega), up1_n (by omega)]; exact q2, by rw [u2_s, up1_s], by rw [u2_b (by omega), up1_n (by omega)]; exact q4, fun k hk => by rw [up1_n (by omega)] at hk; rw [u2_a (by omega), up1_n (by omega)]; exact q5 k hk⟩
    · exact ((g7 t ht).of (fun k _ _ => u2_a (by omega)) (fun k => u2_a (by omega))).ext hl (fun i _ _ => up1_n (by omega))
theorem RS.lost {μ : Mu} {s v : Nat} {a : AS} {u : Nat} (hu : u < 6) (hw : Wf a) (h : RS μ s a) : RS (u2 μ (s + 6 + 2 * u) 4 (nI v - nI 1)) s (up1 a (38 + 12 * u) v) := by
  obtain ⟨g1, g2, g3, ⟨m, g4, g5, g6⟩, g7⟩ := h
  refine ⟨fun j hj => ?_, ?_, fun p hp => ⟨?_, ?_, ?_⟩, ⟨m, g4, ?_, fun p hp => ?_⟩, fun t ht => ?_⟩
  · rw [u2_a (by omega), up1_n (by omega)]
    exact g1 j hj
  · rw [u2_a (by omega), up1_n (by omega)]
    exact g2
  · rw [u2_a (by omega), up1_n (by omega)]
    exact (g3 p hp).1
  · rw [u2_a (by omega), up1_n (by omega)]
    exact (g3 p hp).2.1
  · rw [u2_a (by omega), up1_n (by omega)]
    exact (g3 p hp).2.2
  · rw [u2_a (by omega)]
    exact g5
  · rw [up1_n (by omega)]
    exact g6 p hp
  · rw [up1_n (by omega)] at ht
    have hl := (hw.tm ht).2.2.2.1.2
    by_cases e : t = u
    · subst e
      obtain ⟨q1, q2, q3, q4, q5⟩ := g7 t ht
      exact ⟨by rw [u2_b (by omega), up1_n (by omega)]; exact q1, by rw [u2_b (by omega), up1_n (by omega)]; exact q2, by rw [u2_b (by omega), up1_n (by omega)]; exact q3, by rw [u2_s, up1_s], fun k hk => by rw [up1_n (by omega)] at hk; rw [u2_a (by omega), up1_n (by omega)]; exact q5 k hk⟩
    · exact ((g7 t ht).of (fun k _ _ => u2_a (by omega)) (fun k => u2_a (by omega))).ext hl (fun i _ _ => up1_n (by omega))
theorem Wf.up {a b : AS} (hw : Wf a) (h0 : b 0 ≤ 50) (h1 : b 1 ≤ 500) (h2 : 1 ≤ b 2 ∧ b 2 ≤ 5) (h3 : b 3 = a 3) (hp : ∀ p, p < 8 → b (4 + 4 * p) ≤ 20 ∧ b (5 + 4 * p) ≤ 20 ∧ (1 ≤ b (6 + 4 * p) ∧ b (6 + 4 * p) ≤ 15) ∧ b (7 + 4 * p) ≤ 1) (ht : ∀ t, t < a 3 → ∀ i, 36 + 12 * t ≤ i → i < 48 + 12 * t → b i = a i) : Wf b := by
  refine ⟨h0, h1, h2, h3 ▸ hw.t6, hp, fun t g => ?_⟩
  rw [h3] at g
  have q := hw.tm g
  have e := ht t g
  refine ⟨by rw [e _ (by omega) (by omega)]; exact q.1, by rw [e _ (by omega) (by omega)]; exact q.2.1, by rw [e _ (by omega) (by omega)]; exact q.2.2.1, by rw [e _ (by omega) (by omega)]; exact q.2.2.2.1, fun k hk => ?_⟩
  rw [e _ (by omega) (by omega)] at hk
  rw [e _ (by omega) (by omega)]
  exact q.2.2.2.2 k hk
/-- an Int32's number, where it has one -/
def iN (v : Int32) : Nat := v.toInt.toNat
theorem iN_nI {n : Nat} (h : n < 2 ^ 31) : iN (nI n) = n := by
  unfold iN
  rw [nI_toInt h]
  rfl
def loS (j : Nat) : Nat := if j = 2 then 1 else 0
def hiS (j : Nat) : Nat := if j = 0 then 50 else if j = 1 then 500 else 5
def fiS (j : Nat) : Nat := if j = 0 then 10 else if j = 1 then 200 else 2
/-- the tables -/
def ES (E : EY) : Prop := E.1.2.2.1 0 = 3 ∧ E.1.2.2.1 1 = 3 ∧ E.1.2.2.1 2 = 3 ∧ ∀ j, j < 3 → E.1.2.2.2 0 j = nI (fiS j) ∧ E.1.2.2.2 1 j = nI (loS j) ∧ E.1.2.2.2 2 j = nI (hiS j)
/-- v is one of 0 .. m -/
abbrev inR (v : Int32) (m : Nat) : Prop := ¬ v < nI 0 ∧ ¬ nI m < v
/-- v is one of 0 .. n - 1 -/
abbrev inT (v : Int32) (n : Nat) : Prop := ¬ v < nI 0 ∧ ¬ nI n - nI 1 < v
theorem kb_ne0 {p : Prop} [Decidable p] : (kb p ≠ 0) ↔ p := by
  by_cases h : p
  · rw [kb_t h]; exact ⟨fun _ => h, fun _ => by decide⟩
  · rw [kb_f h]; exact ⟨fun q => absurd (by decide) q, fun q => absurd q h⟩
theorem kb_eq0 {p : Prop} [Decidable p] : (kb p = 0) ↔ ¬ p := by
  by_cases h : p
  · rw [kb_t h]; exact ⟨fun q => absurd q (by decide), fun q => absurd h q⟩
  · rw [kb_f h]; exact ⟨fun _ => h, fun _ => by decide⟩
