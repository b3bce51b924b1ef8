/-! what comes of the game: a team, two teams -/
def smN (f : Nat → Nat) : Nat → Nat
  | 0 => 0
  | n + 1 => smN f n + f n
def cntN (p : Nat → Bool) : Nat → Nat
  | 0 => 0
  | n + 1 => cntN p n + (if p n = true then 1 else 0)
def anyN (p : Nat → Bool) : Nat → Bool
  | 0 => false
  | n + 1 => anyN p n || p n
def fstN (p : Nat → Bool) : Nat → Option Nat
  | 0 => none
  | n + 1 => match fstN p n with
    | some i => some i
    | none => if p n = true then some n else none
theorem smN_le {f : Nat → Nat} {c : Nat} : ∀ {n : Nat}, (∀ i, i < n → f i ≤ c) → smN f n ≤ n * c
  | 0, _ => by simp [smN]
  | n + 1, h => by
    have h1 := smN_le (f := f) (c := c) (n := n) (fun i hi => h i (by omega))
    have h2 := h n (Nat.lt_succ_self _)
    show smN f n + f n ≤ _
    rw [Nat.add_mul]
    omega
theorem cntN_le {p : Nat → Bool} : ∀ n, cntN p n ≤ n
  | 0 => Nat.le_refl _
  | n + 1 => by
    have h1 := cntN_le (p := p) n
    show cntN p n + _ ≤ _
    split <;> omega
theorem anyN_iff {p : Nat → Bool} : ∀ {n : Nat}, anyN p n = true ↔ ∃ i, i < n ∧ p i = true
  | 0 => ⟨fun h => (by cases h), fun ⟨i, h, _⟩ => absurd h (Nat.not_lt_zero _)⟩
  | n + 1 => by
    show (anyN p n || p n) = true ↔ _
    rw [Bool.or_eq_true, anyN_iff]
    constructor
    · rintro (⟨i, h1, h2⟩ | h)
      · exact ⟨i, by omega, h2⟩
      · exact ⟨n, by omega, h⟩
    · rintro ⟨i, h1, h2⟩
      rcases Nat.lt_or_eq_of_le (Nat.le_of_lt_succ h1) with h | rfl
      · exact Or.inl ⟨i, h, h2⟩
      · exact Or.inr h2
theorem fstN_none {p : Nat → Bool} : ∀ {n : Nat}, fstN p n = none ↔ ∀ i, i < n → ¬ p i = true
  | 0 => ⟨fun _ i h => absurd h (Nat.not_lt_zero _), fun _ => rfl⟩
  | n + 1 => by
    unfold fstN
    have ih := fstN_none (p := p) (n := n)
    cases h : fstN p n with
    | some i =>
      refine ⟨fun q => by simp at q, fun q => ?_⟩
      exfalso
      have : fstN p n = none := ih.mpr (fun i hi => q i (by omega))
      rw [h] at this
      cases this
    | none =>
      have h1 := ih.mp h
      by_cases hp : p n = true
      · simp only [hp, if_true]
        exact ⟨fun q => (by cases q), fun q => absurd hp (q n (Nat.lt_succ_self _))⟩
      · simp only [if_neg hp, true_iff]
        intro i hi
        rcases Nat.lt_or_eq_of_le (Nat.le_of_lt_succ hi) with h2 | rfl
        · exact h1 i h2
        · exact hp
theorem fstN_some {p : Nat → Bool} : ∀ {n i : Nat}, fstN p n = some i ↔ i < n ∧ p i = true ∧ ∀ j, j < i → ¬ p j = true
  | 0, i => ⟨fun h => (by cases h), fun h => absurd h.1 (Nat.not_lt_zero _)⟩
  | n + 1, i => by
    unfold fstN
    cases h : fstN p n with
    | some k =>
      have ih := (fstN_some (p := p) (n := n) (i := k)).mp h
      constructor
      · intro q
        cases q
        exact ⟨by omega, ih.2⟩
      · rintro ⟨h1, h2, h3⟩
        have : k = i := by
          rcases Nat.lt_trichotomy k i with q | q | q
          · exact absurd ih.2.1 (h3 k q)
          · exact q
          · exact absurd h2 (ih.2.2 i q)
        rw [this]
    | none =>
      have h1 := fstN_none.mp h
      by_cases hp : p n = true
      · simp only [hp, if_true]
        constructor
        · intro q
          cases q
          exact ⟨Nat.lt_succ_self _, hp, h1⟩
        · rintro ⟨g1, g2, g3⟩
          rcases Nat.lt_or_eq_of_le (Nat.le_of_lt_succ g1) with q | rfl
          · exact absurd g2 (h1 i q)
          · rfl
      · simp only [if_neg hp]
        constructor
        · intro q; cases q
        · rintro ⟨g1, g2, g3⟩
          rcases Nat.lt_or_eq_of_le (Nat.le_of_lt_succ g1) with q | rfl
          · exact absurd g2 (h1 i q)
          · exact absurd g2 hp
abbrev CM (a : AS) (n t v : Nat) : Nat := cm (gf a n) t v
abbrev BG (a : AS) (n t v : Nat) : Nat := bg (gf a n) t v
abbrev EN (a : AS) (n t v : Nat) : Nat := en (gf a n) t v
abbrev OV (a : AS) (n t : Nat) : Nat := ov (gf a n) t
def vis (a : AS) (t p : Nat) : Option Nat := fstN (fun v => trv a t v == p) (tl a t)
def qd (a : AS) (n t i : Nat) : Nat := smN (fun v => BG a n t v - CM a n t v) i
def wd (a : AS) (t i : Nat) : Nat := smN (fun v => wk a t v) i
def hnt (a : AS) (t p : Nat) : Bool := a (37 + 12 * t) / 2 ^ p % 2 == 1
def hd (a : AS) (t i : Nat) : Nat := cntN (fun v => hnt a t (trv a t v)) i
/-- the points, as the machine reckons them -/
def pt (a : AS) (n t : Nat) : Int32 := nI (a 1 * tl a t) - nI (a 0 * hd a t (tl a t)) - nI (OV a n t)
def pz (a : AS) (n t : Nat) : Int := (a 1 * tl a t : Nat) - (a 0 * hd a t (tl a t) : Nat) - (OV a n t : Nat)
def mtp (a : AS) (n t u p : Nat) : Bool := match vis a t p, vis a u p with
  | some v, some w => decide (CM a n t v ≤ EN a n u w) && decide (CM a n u w ≤ EN a n t v)
  | _, _ => false
def mt (a : AS) (n t u : Nat) : Bool := anyN (fun p => mtp a n t u p) 8
theorem mtp_sym (a : AS) (n t u p : Nat) : mtp a n t u p = mtp a n u t p := by
  unfold mtp
  cases vis a t p <;> cases vis a u p <;> simp [Bool.and_comm]
theorem mt_sym (a : AS) (n t u : Nat) : mt a n t u = mt a n u t := by
  unfold mt
  congr 1
  funext p
  exact mtp_sym a n t u p
theorem vis_some {a : AS} {t p v : Nat} (h : vis a t p = some v) : v < tl a t ∧ trv a t v = p := by
  have := fstN_some.mp h
  exact ⟨this.1, by simpa using this.2.1⟩
theorem mt_cls {a : AS} (hw : Wf a) {n t u : Nat} (ht : t < a 3) : anyN (fun v => mtp a n t u (trv a t v)) (tl a t) = mt a n t u := by
  rw [Bool.eq_iff_iff, mt, anyN_iff, anyN_iff]
  constructor
  · rintro ⟨v, h1, h2⟩
    exact ⟨_, trv_lt hw ht h1, h2⟩
  · rintro ⟨p, h1, h2⟩
    cases hv : vis a t p with
    | none => unfold mtp at h2; rw [hv] at h2; cases h2
    | some v =>
      obtain ⟨h3, h4⟩ := vis_some hv
      exact ⟨v, h3, by rw [h4]; exact h2⟩
theorem PX.t {μ : Mu} {a : AS} {n : Nat} (hP : PX μ a n) (hw : Wf a) (hna : n ≤ a 3) {t : Nat} (ht : t < n) : μ 38 t = nI (tl a t) ∧ tl a t ≤ 8 ∧ μ 75 t = nI (OV a n t) ∧ OV a n t ≤ 10520 ∧ t < 6 := by
  have h1 := hP.1.1 t ht
  have hE := (gf_end hw hna).2.1.1 t ht
  have := hw.2.2.2.1
  exact ⟨h1.1, tl_le hw (by omega), h1.2.2.1, hE.2, by omega⟩
theorem PX.v {μ : Mu} {a : AS} {n : Nat} (hP : PX μ a n) (hw : Wf a) (hna : n ≤ a 3) {t v : Nat} (ht : t < n) (hv : v < tl a t) : (μ (40 + t) v = nI (trv a t v) ∧ trv a t v < 8) ∧ (μ (47 + t) v = nI (wk a t v) ∧ wk a t v ≤ 200) ∧ μ (54 + t) v = nI (CM a n t v) ∧ μ (61 + t) v = nI (BG a n t v) ∧ μ (68 + t) v = nI (EN a n t v) ∧ CM a n t v ≤ BG a n t v ∧ BG a n t v ≤ EN a n t v ∧ EN a n t v ≤ 10520 := by
  have h1 := hP.1.1 t ht
  have hE := gf_end hw hna
  have hd : v < dn (gf a n) t := by rw [hE.2.2 t ht]; exact hv
  have h2 := hE.2.1.2.2 t v ht hd
  have h3 := h1.2.2.2.2 v hd
  exact ⟨⟨(h1.2.2.2.1 v hv).1, trv_lt hw (by omega) hv⟩, ⟨(h1.2.2.2.1 v hv).2, wk_le hw (by omega) hv⟩, h3.1, h3.2.1, h3.2.2, h2.1, h2.2.1, h2.2.2⟩
theorem hd_le (a : AS) (t i : Nat) : hd a t i ≤ i := cntN_le i
section TEAM
variable {l : Launch} {E : EY} {D : va_G} {cA : Nat → ClassId} {fin : Option Value → Mu → Prop} {μ : Mu} {d : Nat}
set_option maxRecDepth 100000 in
set_option maxHeartbeats 4000000 in
theorem c_visitAt {n t : Nat} {a : AS} (hw : Wf a) (hna : n ≤ a 3) (hP : PX μ a n) (ht : t < n) {p : Nat} (hp : p < 8) (hf : fin (some (.int (eN (vis a t p)))) μ) : PS l E D cA mX0_visitAt d fin 0 [some (.ref 37), some (.int (nI t)), some (.int (nI p)), none] [] μ := by
  have hPt := hP.t hw hna ht
  refine pw_iconst_ (v := nI 0) dX0_visitAt_0 (by decide) ?_
  refine px_istore_n (ls' := [some (.ref 37), some (.int (nI t)), some (.int (nI p)), some (.int (nI 0))]) dX0_visitAt_1 rfl rfl (by decide) ?_
  have lp : ∀ i : Nat, i ≤ tl a t → ((∀ v, v < i → trv a t v ≠ p) → PS l E D cA mX0_visitAt d fin 2 [some (.ref 37), some (.int (nI t)), some (.int (nI p)), some (.int (nI i))] [] μ) := by
    refine ps_for _ ?_ ?_
    · intro hN
      refine pw_iload_n dX0_visitAt_2 rfl ?_
      refine pw_aload_n dX0_visitAt_3 rfl ?_
      refine ps_getr (r := 38) dX0_visitAt_4 kf_X0_9 (by decide) (by decide +kernel) ?_
      refine pw_iload_n dX0_visitAt_7 rfl ?_
      refine ps_iald (j := t) (x := nI (tl a t)) dX0_visitAt_8 rfl (ok_ar (n := 6) (by decide +kernel) (by omega)) (hPt.1) ?_
      refine pn_ge (tgt := 32) dX0_visitAt_9 (by decide) (by omega) (by omega) (fun _ => ?_) (fun h9 => absurd h9 (by omega))
      refine pw_iconst_ (v := (-1)) dX0_visitAt_32 (by decide) ?_
      exact ps_iret dX0_visitAt_33 rfl (rfl) (by rw [show vis a t p = none from fstN_none.mpr (fun v hv => by simpa using hN v hv)] at hf; exact hf)
    · intro i hv ih hN
      have hpl := (hP.v hw hna ht hv).1.2
      refine pw_iload_n dX0_visitAt_2 rfl ?_
      refine pw_aload_n dX0_visitAt_3 rfl ?_
      refine ps_getr (r := 38) dX0_visitAt_4 kf_X0_9 (by decide) (by decide +kernel) ?_
      refine pw_iload_n dX0_visitAt_7 rfl ?_
      refine ps_iald (j := t) (x := nI (tl a t)) dX0_visitAt_8 rfl (ok_ar (n := 6) (by decide +kernel) (by omega)) (hPt.1) ?_
      refine pn_ge (tgt := 32) dX0_visitAt_9 (by decide) (by omega) (by omega) (fun h9 => absurd h9 (by omega)) (fun _ => ?_)
      refine pw_aload_n dX0_visitAt_12 rfl ?_
      refine ps_getr (r := 39) dX0_visitAt_13 kf_X0_17 (by decide) (by decide +kernel) ?_
      refine pw_iload_n dX0_visitAt_16 rfl ?_
      refine ps_aald (t := 3) (j := t) (r := 40 + t) dX0_visitAt_17 rfl (ok_g (b := 39) (by decide) (by omega)) (by decide) ?_
      refine pw_iload_n dX0_visitAt_18 rfl ?_
      refine ps_iald (j := i) (x := nI (trv a t i)) dX0_visitAt_19 rfl (ok_ar (n := 8) (ok_gr (b := 39) (by decide) (by omega)) (by omega)) (hP.v hw hna ht hv).1.1 ?_
      refine pw_iload_n dX0_visitAt_20 rfl ?_
      refine pn_ne (tgt := 26) dX0_visitAt_21 (by decide) (by omega) (by omega) (fun hc => ?_) (fun hc => ?_)
      · refine px_iincn (n := 1) (a := i) (b := i + 1) (ls' := [some (.ref 37), some (.int (nI t)), some (.int (nI p)), some (.int (nI (i + 1)))]) dX0_visitAt_26 rfl rfl rfl (by omega) ?_
        refine pw_goto (tgt := 2) dX0_visitAt_29 (by decide) ?_
        exact ih (fun v h9 => by
          rcases Nat.lt_or_eq_of_le (Nat.le_of_lt_succ h9) with h | rfl
          · exact hN v h
          · exact hc)
      · refine pw_iload_n dX0_visitAt_24 rfl ?_
        exact ps_iret dX0_visitAt_25 rfl (rfl) (by rw [show vis a t p = some i from fstN_some.mpr ⟨hv, by simpa using hc, fun v h9 => by simpa using hN v h9⟩] at hf; exact hf)
  exact lp 0 (Nat.zero_le _) (fun v hv => absurd hv (Nat.not_lt_zero _))
set_option maxRecDepth 100000 in
set_option maxHeartbeats 4000000 in
theorem c_queueingOf {n t : Nat} {a : AS} (hw : Wf a) (hna : n ≤ a 3) (hP : PX μ a n) (ht : t < n) (hf : fin (some (.int (nI (qd a n t (tl a t))))) μ) : PS l E D cA mX0_queueingOf d fin 0 [some (.ref 37), some (.int (nI t)), none, none] [] μ := by
  have hPt := hP.t hw hna ht
  refine pw_iconst_ (v := nI 0) dX0_queueingOf_0 (by decide) ?_
  refine px_istore_n (ls' := [some (.ref 37), some (.int (nI t)), some (.int (nI 0)), none]) dX0_queueingOf_1 rfl rfl (by decide) ?_
  refine pw_iconst_ (v := nI 0) dX0_queueingOf_2 (by decide) ?_
  refine px_istore_n (ls' := [some (.ref 37), some (.int (nI t)), some (.int (nI 0)), some (.int (nI 0))]) dX0_queueingOf_3 rfl rfl (by decide) ?_
  have lp : ∀ i : Nat, i ≤ tl a t → PS l E D cA mX0_queueingOf d fin 4 [some (.ref 37), some (.int (nI t)), some (.int (nI (qd a n t i))), some (.int (nI i))] [] μ := by
    refine ps_for _ ?_ ?_
    · skip
      refine pw_iload_n dX0_queueingOf_4 rfl ?_
      refine pw_aload_n dX0_queueingOf_5 rfl ?_
      refine ps_getr (r := 38) dX0_queueingOf_6 kf_X0_9 (by decide) (by decide +kernel) ?_
      refine pw_iload_n dX0_queueingOf_9 rfl ?_
      refine ps_iald (j := t) (x := nI (tl a t)) dX0_queueingOf_10 rfl (ok_ar (n := 6) (by decide +kernel) (by omega)) (hPt.1) ?_
      refine pn_ge (tgt := 40) dX0_queueingOf_11 (by decide) (by omega) (by omega) (fun _ => ?_) (fun h9 => absurd h9 (by omega))
      refine pw_iload_n dX0_queueingOf_40 rfl ?_
      exact ps_iret dX0_queueingOf_41 rfl (rfl) hf
    · intro i hv ih
      have hV := hP.v hw hna ht hv
      refine pw_iload_n dX0_queueingOf_4 rfl ?_
      refine pw_aload_n dX0_queueingOf_5 rfl ?_
      refine ps_getr (r := 38) dX0_queueingOf_6 kf_X0_9 (by decide) (by decide +kernel) ?_
      refine pw_iload_n dX0_queueingOf_9 rfl ?_
      refine ps_iald (j := t) (x := nI (tl a t)) dX0_queueingOf_10 rfl (ok_ar (n := 6) (by decide +kernel) (by omega)) (hPt.1) ?_
      refine pn_ge (tgt := 40) dX0_queueingOf_11 (by decide) (by omega) (by omega) (fun h9 => absurd h9 (by omega)) (fun _ => ?_)
      refine pw_iload_n dX0_queueingOf_14 rfl ?_
      refine pw_aload_n dX0_queueingOf_15 rfl ?_
      refine ps_getr (r := 60) dX0_queueingOf_16 kf_X0_26 (by decide) (by decide +kernel) ?_
      refine pw_iload_n dX0_queueingOf_19 rfl ?_
      refine ps_aald (t := 3) (j := t) (r := 61 + t) dX0_queueingOf_20 rfl (ok_g (b := 60) (by decide) (by omega)) (by decide) ?_
      refine pw_iload_n dX0_queueingOf_21 rfl ?_
      refine ps_iald (j := i) (x := nI (BG a n t i)) dX0_queueingOf_22 rfl (ok_ar (n := 8) (ok_gr (b := 60) (by decide) (by omega)) (by omega)) (hP.v hw hna ht hv).2.2.2.1 ?_
      refine pw_aload_n dX0_queueingOf_23 rfl ?_
      refine ps_getr (r := 53) dX0_queueingOf_24 kf_X0_23 (by decide) (by decide +kernel) ?_
      refine pw_iload_n dX0_queueingOf_27 rfl ?_
      refine ps_aald (t := 3) (j := t) (r := 54 + t) dX0_queueingOf_28 rfl (ok_g (b := 53) (by decide) (by omega)) (by decide) ?_
      refine pw_iload_n dX0_queueingOf_29 rfl ?_
      refine ps_iald (j := i) (x := nI (CM a n t i)) dX0_queueingOf_30 rfl (ok_ar (n := 8) (ok_gr (b := 53) (by decide) (by omega)) (by omega)) (hP.v hw hna ht hv).2.2.1 ?_
      refine pn_isub hV.2.2.2.2.2.1 dX0_queueingOf_31 ?_
      refine px_iaddn (c := qd a n t (i + 1)) dX0_queueingOf_32 rfl ?_
      refine px_istore_n (ls' := [some (.ref 37), some (.int (nI t)), some (.int (nI (qd a n t (i + 1)))), some (.int (nI i))]) dX0_queueingOf_33 rfl rfl (by decide) ?_
      refine px_iincn (n := 1) (a := i) (b := i + 1) (ls' := [some (.ref 37), some (.int (nI t)), some (.int (nI (qd a n t (i + 1)))), some (.int (nI (i + 1)))]) dX0_queueingOf_34 rfl rfl rfl (by omega) ?_
      refine pw_goto (tgt := 4) dX0_queueingOf_37 (by decide) ?_
      exact ih
  exact lp 0 (Nat.zero_le _)
set_option maxRecDepth 100000 in
set_option maxHeartbeats 4000000 in
theorem c_walkingOf {n t : Nat} {a : AS} (hw : Wf a) (hna : n ≤ a 3) (hP : PX μ a n) (ht : t < n) (hf : fin (some (.int (nI (wd a t (tl a t))))) μ) : PS l E D cA mX0_walkingOf d fin 0 [some (.ref 37), some (.int (nI t)), none, none] [] μ := by
  have hPt := hP.t hw hna ht
  refine pw_iconst_ (v := nI 0) dX0_walkingOf_0 (by decide) ?_
  refine px_istore_n (ls' := [some (.ref 37), some (.int (nI t)), some (.int (nI 0)), none]) dX0_walkingOf_1 rfl rfl (by decide) ?_
  refine pw_iconst_ (v := nI 0) dX0_walkingOf_2 (by decide) ?_
  refine px_istore_n (ls' := [some (.ref 37), some (.int (nI t)), some (.int (nI 0)), some (.int (nI 0))]) dX0_walkingOf_3 rfl rfl (by decide) ?_
  have lp : ∀ i : Nat, i ≤ tl a t → PS l E D cA mX0_walkingOf d fin 4 [some (.ref 37), some (.int (nI t)), some (.int (nI (wd a t i))), some (.int (nI i))] [] μ := by
    refine ps_for _ ?_ ?_
    · skip
      refine pw_iload_n dX0_walkingOf_4 rfl ?_
      refine pw_aload_n dX0_walkingOf_5 rfl ?_
      refine ps_getr (r := 38) dX0_walkingOf_6 kf_X0_9 (by decide) (by decide +kernel) ?_
      refine pw_iload_n dX0_walkingOf_9 rfl ?_
      refine ps_iald (j := t) (x := nI (tl a t)) dX0_walkingOf_10 rfl (ok_ar (n := 6) (by decide +kernel) (by omega)) (hPt.1) ?_
      refine pn_ge (tgt := 31) dX0_walkingOf_11 (by decide) (by omega) (by omega) (fun _ => ?_) (fun h9 => absurd h9 (by omega))
      refine pw_iload_n dX0_walkingOf_31 rfl ?_
      exact ps_iret dX0_walkingOf_32 rfl (rfl) hf
    · intro i hv ih
      have hV := hP.v hw hna ht hv
      refine pw_iload_n dX0_walkingOf_4 rfl ?_
      refine pw_aload_n dX0_walkingOf_5 rfl ?_
      refine ps_getr (r := 38) dX0_walkingOf_6 kf_X0_9 (by decide) (by decide +kernel) ?_
      refine pw_iload_n dX0_walkingOf_9 rfl ?_
      refine ps_iald (j := t) (x := nI (tl a t)) dX0_walkingOf_10 rfl (ok_ar (n := 6) (by decide +kernel) (by omega)) (hPt.1) ?_
      refine pn_ge (tgt := 31) dX0_walkingOf_11 (by decide) (by omega) (by omega) (fun h9 => absurd h9 (by omega)) (fun _ => ?_)
      refine pw_iload_n dX0_walkingOf_14 rfl ?_
      refine pw_aload_n dX0_walkingOf_15 rfl ?_
      refine ps_getr (r := 46) dX0_walkingOf_16 kf_X0_20 (by decide) (by decide +kernel) ?_
      refine pw_iload_n dX0_walkingOf_19 rfl ?_
      refine ps_aald (t := 3) (j := t) (r := 47 + t) dX0_walkingOf_20 rfl (ok_g (b := 46) (by decide) (by omega)) (by decide) ?_
      refine pw_iload_n dX0_walkingOf_21 rfl ?_
      refine ps_iald (j := i) (x := nI (wk a t i)) dX0_walkingOf_22 rfl (ok_ar (n := 8) (ok_gr (b := 46) (by decide) (by omega)) (by omega)) (hP.v hw hna ht hv).2.1.1 ?_
      refine px_iaddn (c := wd a t (i + 1)) dX0_walkingOf_23 rfl ?_
      refine px_istore_n (ls' := [some (.ref 37), some (.int (nI t)), some (.int (nI (wd a t (i + 1)))), some (.int (nI i))]) dX0_walkingOf_24 rfl rfl (by decide) ?_
      refine px_iincn (n := 1) (a := i) (b := i + 1) (ls' := [some (.ref 37), some (.int (nI t)), some (.int (nI (wd a t (i + 1)))), some (.int (nI (i + 1)))]) dX0_walkingOf_25 rfl rfl rfl (by omega) ?_
      refine pw_goto (tgt := 4) dX0_walkingOf_28 (by decide) ?_
      exact ih
  exact lp 0 (Nat.zero_le _)
set_option maxRecDepth 100000 in
set_option maxHeartbeats 4000000 in
theorem c_hintsOf {n t : Nat} {a : AS} (hw : Wf a) (hna : n ≤ a 3) (hP : PX μ a n) (ht : t < n) {s : Nat} (hs : isS s) (hst : μ 37 0 = nI s) (hR : RS μ s a) (hf : fin (some (.int (nI (hd a t (tl a t))))) μ) : PS l E D cA mX0_hintsOf (d + 1) fin 0 [some (.ref 37), some (.int (nI t)), none, none] [] μ := by
  have hPt := hP.t hw hna ht
  have hs9 := isS_odd hs
  have hs31 : s < 2 ^ 31 := by omega
  have hT := hR.2.2.2.2 t (by omega)
  have hwt := hw.2.2.2.2.2 t (by omega)
  refine pw_iconst_ (v := nI 0) dX0_hintsOf_0 (by decide) ?_
  refine px_istore_n (ls' := [some (.ref 37), some (.int (nI t)), some (.int (nI 0)), none]) dX0_hintsOf_1 rfl rfl (by decide) ?_
  refine pw_iconst_ (v := nI 0) dX0_hintsOf_2 (by decide) ?_
  refine px_istore_n (ls' := [some (.ref 37), some (.int (nI t)), some (.int (nI 0)), some (.int (nI 0))]) dX0_hintsOf_3 rfl rfl (by decide) ?_
  have lp : ∀ i : Nat, i ≤ tl a t → PS l E D cA mX0_hintsOf (d + 1) fin 4 [some (.ref 37), some (.int (nI t)), some (.int (nI (hd a t i))), some (.int (nI i))] [] μ := by
    refine ps_for _ ?_ ?_
    · skip
      refine pw_iload_n dX0_hintsOf_4 rfl ?_
      refine pw_aload_n dX0_hintsOf_5 rfl ?_
      refine ps_getr (r := 38) dX0_hintsOf_6 kf_X0_9 (by decide) (by decide +kernel) ?_
      refine pw_iload_n dX0_hintsOf_9 rfl ?_
      refine ps_iald (j := t) (x := nI (tl a t)) dX0_hintsOf_10 rfl (ok_ar (n := 6) (by decide +kernel) (by omega)) (hPt.1) ?_
      refine pn_ge (tgt := 46) dX0_hintsOf_11 (by decide) (by omega) (by omega) (fun _ => ?_) (fun h9 => absurd h9 (by omega))
      refine pw_iload_n dX0_hintsOf_46 rfl ?_
      exact ps_iret dX0_hintsOf_47 rfl (rfl) hf
    · intro i hv ih
      have hV := hP.v hw hna ht hv
      refine pw_iload_n dX0_hintsOf_4 rfl ?_
      refine pw_aload_n dX0_hintsOf_5 rfl ?_
      refine ps_getr (r := 38) dX0_hintsOf_6 kf_X0_9 (by decide) (by decide +kernel) ?_
      refine pw_iload_n dX0_hintsOf_9 rfl ?_
      refine ps_iald (j := t) (x := nI (tl a t)) dX0_hintsOf_10 rfl (ok_ar (n := 6) (by decide +kernel) (by omega)) (hPt.1) ?_
      refine pn_ge (tgt := 46) dX0_hintsOf_11 (by decide) (by omega) (by omega) (fun h9 => absurd h9 (by omega)) (fun _ => ?_)
      refine pw_aload_n dX0_hintsOf_14 rfl ?_
      refine ps_getd (r := s) dX0_hintsOf_15 kf_X0_41 (by decide) (by decide +kernel) hs31 hst ?_
      refine ps_getr (r := s + 5) dX0_hintsOf_18 kf_X0_59 (by decide) ((ok_S hs).2.2.2.2.2.1) ?_
      refine pw_iload_n dX0_hintsOf_21 rfl ?_
      refine ps_aald (t := 5) (j := t) (r := s + 6 + 2 * t) dX0_hintsOf_22 rfl (ok_T hs (by omega)).1 (by decide) ?_
      refine pw_aload_n dX0_hintsOf_23 rfl ?_
      refine ps_getr (r := 39) dX0_hintsOf_24 kf_X0_17 (by decide) (by decide +kernel) ?_
      refine pw_iload_n dX0_hintsOf_27 rfl ?_
      refine ps_aald (t := 3) (j := t) (r := 40 + t) dX0_hintsOf_28 rfl (ok_g (b := 39) (by decide) (by omega)) (by decide) ?_
      refine pw_iload_n dX0_hintsOf_29 rfl ?_
      refine ps_iald (j := i) (x := nI (trv a t i)) dX0_hintsOf_30 rfl (ok_ar (n := 8) (ok_gr (b := 39) (by decide) (by omega)) (by omega)) (hP.v hw hna ht hv).1.1 ?_
      refine ps_callV (b := s + 6 + 2 * t) (As := [.int (nI (trv a t i))]) (st := []) dX0_hintsOf_31 cv_X0_112 rfl ⟨(okk_of (ok_T hs (by omega)).2.1).1, (okk_of (ok_T hs (by omega)).2.1).2.1⟩ (Nat.le_of_ble_eq_true rfl) (Nat.le_of_ble_eq_true rfl) ?_
      refine c_T_hasHint hs (by omega) hwt.2.1 hV.1.2 hT.2.2.1 ?_
      show PS l E D cA mX0_hintsOf (d + 1) fin 34 [some (.ref 37), some (.int (nI t)), some (.int (nI (hd a t i))), some (.int (nI i))] [.int (kb (a (37 + 12 * t) / 2 ^ trv a t i % 2 = 1))] μ
      have hl9 := hd_le a t i
      by_cases hc : a (37 + 12 * t) / 2 ^ trv a t i % 2 = 1
      · rw [kb_t hc]
        refine pw_if_eq (tgt := 40) dX0_hintsOf_34 (by decide) (fun h9 => absurd h9 nI1_ne) (fun _ => ?_)
        refine px_iincn (n := 1) (a := hd a t i) (b := hd a t i + 1) (ls' := [some (.ref 37), some (.int (nI t)), some (.int (nI (hd a t i + 1))), some (.int (nI i))]) dX0_hintsOf_37 rfl rfl rfl (by omega) ?_
        refine px_iincn (n := 1) (a := i) (b := i + 1) (ls' := [some (.ref 37), some (.int (nI t)), some (.int (nI (hd a t i + 1))), some (.int (nI (i + 1)))]) dX0_hintsOf_40 rfl rfl rfl (by omega) ?_
        refine pw_goto (tgt := 4) dX0_hintsOf_43 (by decide) ?_
        rw [show hd a t i + 1 = hd a t (i + 1) by show _ = hd a t i + _; rw [if_pos (by simp [hnt, hc])]]
        exact ih
      · rw [kb_f hc]
        refine pw_if_eq (tgt := 40) dX0_hintsOf_34 (by decide) (fun _ => ?_) (fun h9 => absurd h9 (fun q => q nI_0))
        refine px_iincn (n := 1) (a := i) (b := i + 1) (ls' := [some (.ref 37), some (.int (nI t)), some (.int (nI (hd a t i))), some (.int (nI (i + 1)))]) dX0_hintsOf_40 rfl rfl rfl (by omega) ?_
        refine pw_goto (tgt := 4) dX0_hintsOf_43 (by decide) ?_
        rw [show hd a t i = hd a t (i + 1) by show _ = hd a t i + _; rw [if_neg (by simp [hnt, hc])]; rfl]
        exact ih
  exact lp 0 (Nat.zero_le _)
set_option maxRecDepth 100000 in
set_option maxHeartbeats 4000000 in
theorem c_pointsOf {n t : Nat} {a : AS} (hw : Wf a) (hna : n ≤ a 3) (hP : PX μ a n) (ht : t < n) {s : Nat} (hs : isS s) (hst : μ 37 0 = nI s) (hR : RS μ s a) (hf : fin (some (.int (pt a n t))) μ) : PS l E D cA mX0_pointsOf (d + 2) fin 0 [some (.ref 37), some (.int (nI t))] [] μ := by
  have hPt := hP.t hw hna ht
  have hs9 := isS_odd hs
  have hs31 : s < 2 ^ 31 := by omega
  have hT := hR.2.2.2.2 t (by omega)
  have hwt := hw.2.2.2.2.2 t (by omega)
  refine pw_aload_n dX0_pointsOf_0 rfl ?_
  refine ps_getd (r := s) dX0_pointsOf_1 kf_X0_41 (by decide) (by decide +kernel) hs31 hst ?_
  refine ps_getr (r := s + 1) dX0_pointsOf_4 kf_X0_102 (by decide) ((ok_S hs).1) ?_
  refine pw_iconst_ (v := nI 1) dX0_pointsOf_7 (by decide) ?_
  refine ps_iald (j := 1) (x := nI (a 1)) dX0_pointsOf_8 rfl (ok_ar (n := 3) ((ok_S hs).2.2.2.2.2.2.2.1) (by decide)) (hR.1 1 (by decide)) ?_
  refine pw_aload_n dX0_pointsOf_9 rfl ?_
  refine ps_getr (r := 38) dX0_pointsOf_10 kf_X0_9 (by decide) (by decide +kernel) ?_
  refine pw_iload_n dX0_pointsOf_13 rfl ?_
  refine ps_iald (j := t) (x := nI (tl a t)) dX0_pointsOf_14 rfl (ok_ar (n := 6) (by decide +kernel) (by omega)) (hPt.1) ?_
  refine px_imuln (c := a 1 * tl a t) dX0_pointsOf_15 rfl ?_
  refine pw_aload_n dX0_pointsOf_16 rfl ?_
  refine ps_getd (r := s) dX0_pointsOf_17 kf_X0_41 (by decide) (by decide +kernel) hs31 hst ?_
  refine ps_getr (r := s + 1) dX0_pointsOf_20 kf_X0_102 (by decide) ((ok_S hs).1) ?_
  refine pw_iconst_ (v := nI 0) dX0_pointsOf_23 (by decide) ?_
  refine ps_iald (j := 0) (x := nI (a 0)) dX0_pointsOf_24 rfl (ok_ar (n := 3) ((ok_S hs).2.2.2.2.2.2.2.1) (by decide)) (hR.1 0 (by decide)) ?_
  refine pw_aload_n dX0_pointsOf_25 rfl ?_
  refine pw_iload_n dX0_pointsOf_26 rfl ?_
  refine ps_callV (b := 37) (As := [.int (nI t)]) (st := [.int (nI (a 0)), .int (nI (a 1 * tl a t))]) dX0_pointsOf_27 cv_X0_115 rfl ⟨by decide, by decide +kernel⟩ (Nat.le_of_ble_eq_true rfl) (Nat.le_of_ble_eq_true rfl) ?_
  refine c_hintsOf hw hna hP ht hs hst hR ?_
  show PS l E D cA mX0_pointsOf (d + 2) fin 30 [some (.ref 37), some (.int (nI t))] [.int (nI (hd a t (tl a t))), .int (nI (a 0)), .int (nI (a 1 * tl a t))] μ
  refine px_imuln (c := a 0 * hd a t (tl a t)) dX0_pointsOf_30 rfl ?_
  refine pw_isub dX0_pointsOf_31 ?_
  refine pw_aload_n dX0_pointsOf_32 rfl ?_
  refine ps_getr (r := 75) dX0_pointsOf_33 kf_X0_35 (by decide) (by decide +kernel) ?_
  refine pw_iload_n dX0_pointsOf_36 rfl ?_
  refine ps_iald (j := t) (x := nI (OV a n t)) dX0_pointsOf_37 rfl (ok_ar (n := 6) (by decide +kernel) (by omega)) (hPt.2.2.1) ?_
  refine pw_isub dX0_pointsOf_38 ?_
  exact ps_iret dX0_pointsOf_39 rfl (rfl) hf
set_option maxRecDepth 100000 in
set_option maxHeartbeats 4000000 in
theorem c_isThere {n t : Nat} {a : AS} (hw : Wf a) (hna : n ≤ a 3) (hP : PX μ a n) (ht : t < n) {v m : Nat} (hv : v < tl a t) (hm : m < 2 ^ 31) (hf : fin (some (.int (kb (CM a n t v ≤ m ∧ m < EN a n t v)))) μ) : PS l E D cA mX0_isThere d fin 0 [some (.ref 37), some (.int (nI t)), some (.int (nI v)), some (.int (nI m))] [] μ := by
  have hPt := hP.t hw hna ht
  have hV := hP.v hw hna ht hv
  refine pw_aload_n dX0_isThere_0 rfl ?_
  refine ps_getr (r := 53) dX0_isThere_1 kf_X0_23 (by decide) (by decide +kernel) ?_
  refine pw_iload_n dX0_isThere_4 rfl ?_
  refine ps_aald (t := 3) (j := t) (r := 54 + t) dX0_isThere_5 rfl (ok_g (b := 53) (by decide) (by omega)) (by decide) ?_
  refine pw_iload_n dX0_isThere_6 rfl ?_
  refine ps_iald (j := v) (x := nI (CM a n t v)) dX0_isThere_7 rfl (ok_ar (n := 8) (ok_gr (b := 53) (by decide) (by omega)) (by omega)) (hP.v hw hna ht hv).2.2.1 ?_
  refine pw_iload_n dX0_isThere_8 rfl ?_
  refine pn_gt (tgt := 28) dX0_isThere_9 (by decide) (by omega) (by omega) (fun h1 => ?_) (fun h1 => ?_)
  · refine pw_iconst_ (v := nI 0) dX0_isThere_28 (by decide) ?_
    exact ps_iret dX0_isThere_29 rfl (by decide) (by rw [kb_f (by omega)] at hf; exact hf)
  · refine pw_iload_n dX0_isThere_12 rfl ?_
    refine pw_aload_n dX0_isThere_13 rfl ?_
    refine ps_getr (r := 67) dX0_isThere_14 kf_X0_29 (by decide) (by decide +kernel) ?_
    refine pw_iload_n dX0_isThere_17 rfl ?_
    refine ps_aald (t := 3) (j := t) (r := 68 + t) dX0_isThere_18 rfl (ok_g (b := 67) (by decide) (by omega)) (by decide) ?_
    refine pw_iload_n dX0_isThere_19 rfl ?_
    refine ps_iald (j := v) (x := nI (EN a n t v)) dX0_isThere_20 rfl (ok_ar (n := 8) (ok_gr (b := 67) (by decide) (by omega)) (by omega)) (hP.v hw hna ht hv).2.2.2.2.1 ?_
    refine pn_ge (tgt := 28) dX0_isThere_21 (by decide) (by omega) (by omega) (fun h2 => ?_) (fun h2 => ?_)
    · refine pw_iconst_ (v := nI 0) dX0_isThere_28 (by decide) ?_
      exact ps_iret dX0_isThere_29 rfl (by decide) (by rw [kb_f (by omega)] at hf; exact hf)
    · refine pw_iconst_ (v := nI 1) dX0_isThere_24 (by decide) ?_
      refine pw_goto (tgt := 29) dX0_isThere_25 (by decide) ?_
      exact ps_iret dX0_isThere_29 rfl (by decide) (by rw [kb_t ⟨h1, h2⟩] at hf; exact hf)
set_option maxRecDepth 100000 in
set_option maxHeartbeats 4000000 in
theorem c_meetAt {n t : Nat} {a : AS} (hw : Wf a) (hna : n ≤ a 3) (hP : PX μ a n) (ht : t < n) {u p : Nat} (hu : u < n) (hp : p < 8) (hf : fin (some (.int (kb (mtp a n t u p = true)))) μ) : PS l E D cA mX0_meetAt (d + 1) fin 0 [some (.ref 37), some (.int (nI t)), some (.int (nI u)), some (.int (nI p)), none, none] [] μ := by
  have hPt := hP.t hw hna ht
  have hPu := hP.t hw hna hu
  refine pw_aload_n dX0_meetAt_0 rfl ?_
  refine pw_iload_n dX0_meetAt_1 rfl ?_
  refine pw_iload_n dX0_meetAt_2 rfl ?_
  refine ps_callV (b := 37) (As := [.int (nI t), .int (nI p)]) (st := []) dX0_meetAt_3 cv_X0_130 rfl ⟨by decide, by decide +kernel⟩ (Nat.le_of_ble_eq_true rfl) (Nat.le_of_ble_eq_true rfl) ?_
  refine c_visitAt hw hna hP ht hp ?_
  show PS l E D cA mX0_meetAt (d + 1) fin 6 [some (.ref 37), some (.int (nI t)), some (.int (nI u)), some (.int (nI p)), none, none] [.int (eN (vis a t p))] μ
  refine px_istore (ls' := [some (.ref 37), some (.int (nI t)), some (.int (nI u)), some (.int (nI p)), some (.int (eN (vis a t p))), none]) dX0_meetAt_6 rfl rfl (by decide) ?_
  refine pw_aload_n dX0_meetAt_8 rfl ?_
  refine pw_iload_n dX0_meetAt_9 rfl ?_
  refine pw_iload_n dX0_meetAt_10 rfl ?_
  refine ps_callV (b := 37) (As := [.int (nI u), .int (nI p)]) (st := []) dX0_meetAt_11 cv_X0_130 rfl ⟨by decide, by decide +kernel⟩ (Nat.le_of_ble_eq_true rfl) (Nat.le_of_ble_eq_true rfl) ?_
  refine c_visitAt hw hna hP hu hp ?_
  show PS l E D cA mX0_meetAt (d + 1) fin 14 [some (.ref 37), some (.int (nI t)), some (.int (nI u)), some (.int (nI p)), some (.int (eN (vis a t p))), none] [.int (eN (vis a u p))] μ
  refine px_istore (ls' := [some (.ref 37), some (.int (nI t)), some (.int (nI u)), some (.int (nI p)), some (.int (eN (vis a t p))), some (.int (eN (vis a u p)))]) dX0_meetAt_14 rfl rfl (by decide) ?_
  cases hv0 : vis a t p with
  | none =>
    show PS l E D cA mX0_meetAt (d + 1) fin 16 [some (.ref 37), some (.int (nI t)), some (.int (nI u)), some (.int (nI p)), some (.int (-1)), some (.int (eN (vis a u p)))] [] μ
    refine pw_iload dX0_meetAt_16 rfl ?_
    refine pw_iconst_ (v := (-1)) dX0_meetAt_18 (by decide) ?_
    refine pw_icmp_eq (tgt := 28) dX0_meetAt_19 (by decide) (fun _ => ?_) (fun h9 => absurd rfl h9)
    refine pw_iconst_ (v := nI 0) dX0_meetAt_28 (by decide) ?_
    exact ps_iret dX0_meetAt_29 rfl (by decide) (by rw [show mtp a n t u p = false by unfold mtp; rw [hv0], kb_f (by decide)] at hf; exact hf)
  | some v =>
    obtain ⟨hv, hvp⟩ := vis_some hv0
    have hV := hP.v hw hna ht hv
    show PS l E D cA mX0_meetAt (d + 1) fin 16 [some (.ref 37), some (.int (nI t)), some (.int (nI u)), some (.int (nI p)), some (.int (nI v)), some (.int (eN (vis a u p)))] [] μ
    refine pw_iload dX0_meetAt_16 rfl ?_
    refine pw_iconst_ (v := (-1)) dX0_meetAt_18 (by decide) ?_
    refine pw_icmp_eq (tgt := 28) dX0_meetAt_19 (by decide) (fun h9 => absurd h9 (nI_nm1 (by omega))) (fun _ => ?_)
    cases hw0 : vis a u p with
    | none =>
      show PS l E D cA mX0_meetAt (d + 1) fin 22 [some (.ref 37), some (.int (nI t)), some (.int (nI u)), some (.int (nI p)), some (.int (nI v)), some (.int (-1))] [] μ
      refine pw_iload dX0_meetAt_22 rfl ?_
      refine pw_iconst_ (v := (-1)) dX0_meetAt_24 (by decide) ?_
      refine pw_icmp_ne (tgt := 30) dX0_meetAt_25 (by decide) (fun h9 => absurd rfl h9) (fun _ => ?_)
      refine pw_iconst_ (v := nI 0) dX0_meetAt_28 (by decide) ?_
      exact ps_iret dX0_meetAt_29 rfl (by decide) (by rw [show mtp a n t u p = false by unfold mtp; rw [hv0, hw0], kb_f (by decide)] at hf; exact hf)
    | some w =>
      obtain ⟨hw2, hwp⟩ := vis_some hw0
      have hW := hP.v hw hna hu hw2
      have hmt : mtp a n t u p = (decide (CM a n t v ≤ EN a n u w) && decide (CM a n u w ≤ EN a n t v)) := by unfold mtp; rw [hv0, hw0]
      show PS l E D cA mX0_meetAt (d + 1) fin 22 [some (.ref 37), some (.int (nI t)), some (.int (nI u)), some (.int (nI p)), some (.int (nI v)), some (.int (nI w))] [] μ
      refine pw_iload dX0_meetAt_22 rfl ?_
      refine pw_iconst_ (v := (-1)) dX0_meetAt_24 (by decide) ?_
      refine pw_icmp_ne (tgt := 30) dX0_meetAt_25 (by decide) (fun _ => ?_) (fun h9 => absurd h9 (nI_nm1 (by omega)))
      refine pw_aload_n dX0_meetAt_30 rfl ?_
      refine ps_getr (r := 53) dX0_meetAt_31 kf_X0_23 (by decide) (by decide +kernel) ?_
      refine pw_iload_n dX0_meetAt_34 rfl ?_
      refine ps_aald (t := 3) (j := t) (r := 54 + t) dX0_meetAt_35 rfl (ok_g (b := 53) (by decide) (by omega)) (by decide) ?_
      refine pw_iload dX0_meetAt_36 rfl ?_
      refine ps_iald (j := v) (x := nI (CM a n t v)) dX0_meetAt_38 rfl (ok_ar (n := 8) (ok_gr (b := 53) (by decide) (by omega)) (by omega)) (hP.v hw hna ht hv).2.2.1 ?_
      refine pw_aload_n dX0_meetAt_39 rfl ?_
      refine ps_getr (r := 67) dX0_meetAt_40 kf_X0_29 (by decide) (by decide +kernel) ?_
      refine pw_iload_n dX0_meetAt_43 rfl ?_
      refine ps_aald (t := 3) (j := u) (r := 68 + u) dX0_meetAt_44 rfl (ok_g (b := 67) (by decide) (by omega)) (by decide) ?_
      refine pw_iload dX0_meetAt_45 rfl ?_
      refine ps_iald (j := w) (x := nI (EN a n u w)) dX0_meetAt_47 rfl (ok_ar (n := 8) (ok_gr (b := 67) (by decide) (by omega)) (by omega)) (hP.v hw hna hu hw2).2.2.2.2.1 ?_
      refine pn_gt (tgt := 76) dX0_meetAt_48 (by decide) (by omega) (by omega) (fun h1 => ?_) (fun h1 => ?_)
      · refine pw_iconst_ (v := nI 0) dX0_meetAt_76 (by decide) ?_
        exact ps_iret dX0_meetAt_77 rfl (by decide) (by rw [kb_f (fun q => by rw [hmt] at q; simp at q; omega)] at hf; exact hf)
      · refine pw_aload_n dX0_meetAt_51 rfl ?_
        refine ps_getr (r := 53) dX0_meetAt_52 kf_X0_23 (by decide) (by decide +kernel) ?_
        refine pw_iload_n dX0_meetAt_55 rfl ?_
        refine ps_aald (t := 3) (j := u) (r := 54 + u) dX0_meetAt_56 rfl (ok_g (b := 53) (by decide) (by omega)) (by decide) ?_
        refine pw_iload dX0_meetAt_57 rfl ?_
        refine ps_iald (j := w) (x := nI (CM a n u w)) dX0_meetAt_59 rfl (ok_ar (n := 8) (ok_gr (b := 53) (by decide) (by omega)) (by omega)) (hP.v hw hna hu hw2).2.2.1 ?_
        refine pw_aload_n dX0_meetAt_60 rfl ?_
        refine ps_getr (r := 67) dX0_meetAt_61 kf_X0_29 (by decide) (by decide +kernel) ?_
        refine pw_iload_n dX0_meetAt_64 rfl ?_
        refine ps_aald (t := 3) (j := t) (r := 68 + t) dX0_meetAt_65 rfl (ok_g (b := 67) (by decide) (by omega)) (by decide) ?_
        refine pw_iload dX0_meetAt_66 rfl ?_
        refine ps_iald (j := v) (x := nI (EN a n t v)) dX0_meetAt_68 rfl (ok_ar (n := 8) (ok_gr (b := 67) (by decide) (by omega)) (by omega)) (hP.v hw hna ht hv).2.2.2.2.1 ?_
        refine pn_gt (tgt := 76) dX0_meetAt_69 (by decide) (by omega) (by omega) (fun h2 => ?_) (fun h2 => ?_)
        · refine pw_iconst_ (v := nI 0) dX0_meetAt_76 (by decide) ?_
          exact ps_iret dX0_meetAt_77 rfl (by decide) (by rw [kb_f (fun q => by rw [hmt] at q; simp at q; omega)] at hf; exact hf)
        · refine pw_iconst_ (v := nI 1) dX0_meetAt_72 (by decide) ?_
          refine pw_goto (tgt := 77) dX0_meetAt_73 (by decide) ?_
          exact ps_iret dX0_meetAt_77 rfl (by decide) (by rw [kb_t (by rw [hmt]; simp; omega)] at hf; exact hf)
set_option maxRecDepth 100000 in
set_option maxHeartbeats 4000000 in
theorem c_meet {n t : Nat} {a : AS} (hw : Wf a) (hna : n ≤ a 3) (hP : PX μ a n) (ht : t < n) {u : Nat} (hu : u < n) (hf : fin (some (.int (kb (mt a n t u = true)))) μ) : PS l E D cA mX0_meet (d + 2) fin 0 [some (.ref 37), some (.int (nI t)), some (.int (nI u)), none] [] μ := by
  have hPt := hP.t hw hna ht
  have hcl := mt_cls hw (n := n) (t := t) (u := u) (by omega)
  refine pw_iconst_ (v := nI 0) dX0_meet_0 (by decide) ?_
  refine px_istore_n (ls' := [some (.ref 37), some (.int (nI t)), some (.int (nI u)), some (.int (nI 0))]) dX0_meet_1 rfl rfl (by decide) ?_
  have lp : ∀ i : Nat, i ≤ tl a t → ((∀ v, v < i → ¬ mtp a n t u (trv a t v) = true) → PS l E D cA mX0_meet (d + 2) fin 2 [some (.ref 37), some (.int (nI t)), some (.int (nI u)), some (.int (nI i))] [] μ) := by
    refine ps_for _ ?_ ?_
    · intro hN
      refine pw_iload_n dX0_meet_2 rfl ?_
      refine pw_aload_n dX0_meet_3 rfl ?_
      refine ps_getr (r := 38) dX0_meet_4 kf_X0_9 (by decide) (by decide +kernel) ?_
      refine pw_iload_n dX0_meet_7 rfl ?_
      refine ps_iald (j := t) (x := nI (tl a t)) dX0_meet_8 rfl (ok_ar (n := 6) (by decide +kernel) (by omega)) (hPt.1) ?_
      refine pn_ge (tgt := 37) dX0_meet_9 (by decide) (by omega) (by omega) (fun _ => ?_) (fun h9 => absurd h9 (by omega))
      refine pw_iconst_ (v := nI 0) dX0_meet_37 (by decide) ?_
      exact ps_iret dX0_meet_38 rfl (by decide) (by rw [kb_f (fun q => by rw [← hcl] at q; obtain ⟨v, h1, h2⟩ := anyN_iff.mp q; exact hN v h1 h2)] at hf; exact hf)
    · intro i hv ih hN
      have hpl := (hP.v hw hna ht hv).1.2
      refine pw_iload_n dX0_meet_2 rfl ?_
      refine pw_aload_n dX0_meet_3 rfl ?_
      refine ps_getr (r := 38) dX0_meet_4 kf_X0_9 (by decide) (by decide +kernel) ?_
      refine pw_iload_n dX0_meet_7 rfl ?_
      refine ps_iald (j := t) (x := nI (tl a t)) dX0_meet_8 rfl (ok_ar (n := 6) (by decide +kernel) (by omega)) (hPt.1) ?_
      refine pn_ge (tgt := 37) dX0_meet_9 (by decide) (by omega) (by omega) (fun h9 => absurd h9 (by omega)) (fun _ => ?_)
      refine pw_aload_n dX0_meet_12 rfl ?_
      refine pw_iload_n dX0_meet_13 rfl ?_
      refine pw_iload_n dX0_meet_14 rfl ?_
      refine pw_aload_n dX0_meet_15 rfl ?_
      refine ps_getr (r := 39) dX0_meet_16 kf_X0_17 (by decide) (by decide +kernel) ?_
      refine pw_iload_n dX0_meet_19 rfl ?_
      refine ps_aald (t := 3) (j := t) (r := 40 + t) dX0_meet_20 rfl (ok_g (b := 39) (by decide) (by omega)) (by decide) ?_
      refine pw_iload_n dX0_meet_21 rfl ?_
      refine ps_iald (j := i) (x := nI (trv a t i)) dX0_meet_22 rfl (ok_ar (n := 8) (ok_gr (b := 39) (by decide) (by omega)) (by omega)) (hP.v hw hna ht hv).1.1 ?_
      refine ps_callV (b := 37) (As := [.int (nI t), .int (nI u), .int (nI (trv a t i))]) (st := []) dX0_meet_23 cv_X0_133 rfl ⟨by decide, by decide +kernel⟩ (Nat.le_of_ble_eq_true rfl) (Nat.le_of_ble_eq_true rfl) ?_
      refine c_meetAt hw hna hP ht hu hpl ?_
      show PS l E D cA mX0_meet (d + 2) fin 26 [some (.ref 37), some (.int (nI t)), some (.int (nI u)), some (.int (nI i))] [.int (kb (mtp a n t u (trv a t i) = true))] μ
      by_cases hc : mtp a n t u (trv a t i) = true
      · rw [kb_t hc]
        refine pw_if_eq (tgt := 31) dX0_meet_26 (by decide) (fun h9 => absurd h9 nI1_ne) (fun _ => ?_)
        refine pw_iconst_ (v := nI 1) dX0_meet_29 (by decide) ?_
        exact ps_iret dX0_meet_30 rfl (by decide) (by rw [kb_t (by rw [← hcl]; exact anyN_iff.mpr ⟨i, hv, hc⟩)] at hf; exact hf)
      · rw [kb_f hc]
        refine pw_if_eq (tgt := 31) dX0_meet_26 (by decide) (fun _ => ?_) (fun h9 => absurd h9 (fun q => q nI_0))
        refine px_iincn (n := 1) (a := i) (b := i + 1) (ls' := [some (.ref 37), some (.int (nI t)), some (.int (nI u)), some (.int (nI (i + 1)))]) dX0_meet_31 rfl rfl rfl (by omega) ?_
        refine pw_goto (tgt := 2) dX0_meet_34 (by decide) ?_
        exact ih (fun v h9 => by
          rcases Nat.lt_or_eq_of_le (Nat.le_of_lt_succ h9) with h | rfl
          · exact hN v h
          · exact hc)
  exact lp 0 (Nat.zero_le _) (fun v hv => absurd hv (Nat.not_lt_zero _))
end TEAM
