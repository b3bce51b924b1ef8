/-! one place, pure: who comes, in which order they look -/
/-- each route has each place once at most -/
def DR (a : AS) : Prop := ∀ t, t < a 3 → ∀ i j, i < a (39 + 12 * t) → j < a (39 + 12 * t) → a (40 + 12 * t + i) = a (40 + 12 * t + j) → i = j
theorem trv_inj {a : AS} (hD : DR a) {t v w : Nat} (ht : t < a 3) (hv : v < tl a t) (hw : w < tl a t) (h : trv a t v = trv a t w) : v = w := by
  have nd : (tr a t).Pairwise (fun x y => x ≠ y) := by
    unfold tr trp
    refine List.Pairwise.filter _ (List.pairwise_map.mpr ?_)
    refine List.Pairwise.imp_of_mem (fun {i j} hi hj hne => ?_) (List.nodup_range (n := a (39 + 12 * t)))
    exact fun e => hne (hD t ht i j (List.mem_range.mp hi) (List.mem_range.mp hj) e)
  have key := List.pairwise_iff_getElem.mp nd
  unfold tl at hv hw
  unfold trv at h
  rw [List.getD_eq_getElem?_getD, List.getD_eq_getElem?_getD, List.getElem?_eq_getElem hv, List.getElem?_eq_getElem hw] at h
  rcases Nat.lt_trichotomy v w with q | q | q
  · exact absurd h (key v w hv hw q)
  · exact q
  · exact absurd h.symm (key w v hw hv q)
theorem vis_of {a : AS} (hD : DR a) {t v p : Nat} (ht : t < a 3) (hv : v < tl a t) (h : trv a t v = p) : vis a t p = some v := by
  refine fstN_some.mpr ⟨hv, by simpa using h, fun j hj q => ?_⟩
  have q2 : trv a t j = p := by simpa using q
  have := trv_inj hD ht (v := j) (w := v) (by omega) hv (by rw [q2, h])
  omega
def vs (a : AS) (p u : Nat) : Bool := (vis a u p).isSome
def CQ (a : AS) (n p u : Nat) : Nat := match vis a u p with
  | some v => CM a n u v
  | none => 0
def BQ (a : AS) (n p u : Nat) : Nat := match vis a u p with
  | some v => BG a n u v
  | none => 0
def EQ (a : AS) (n p u : Nat) : Nat := match vis a u p with
  | some v => EN a n u v
  | none => 0
theorem vs_t {a : AS} {p u : Nat} (h : vs a p u = true) : ∃ v, vis a u p = some v ∧ v < tl a u ∧ trv a u v = p := by
  unfold vs at h
  cases hv : vis a u p with
  | none => rw [hv] at h; cases h
  | some v => exact ⟨v, rfl, vis_some hv⟩
theorem vs_f {a : AS} {p u : Nat} (h : ¬ vs a p u = true) : vis a u p = none := by
  unfold vs at h
  cases hv : vis a u p with
  | none => rfl
  | some v => rw [hv] at h; exact absurd rfl h
theorem vs_s {a : AS} {p u v : Nat} (h : vis a u p = some v) : vs a p u = true := by
  unfold vs
  rw [h]
  rfl
theorem Q_s {a : AS} {n p u v : Nat} (h : vis a u p = some v) : CQ a n p u = CM a n u v ∧ BQ a n p u = BG a n u v ∧ EQ a n p u = EN a n u v := by
  unfold CQ BQ EQ
  rw [h]
  exact ⟨rfl, rfl, rfl⟩
theorem mtp_Q {a : AS} {n t u p : Nat} : mtp a n t u p = ((vs a p t && vs a p u) && (decide (CQ a n p t ≤ EQ a n p u) && decide (CQ a n p u ≤ EQ a n p t))) := by
  unfold mtp vs CQ EQ
  cases vis a t p <;> cases vis a u p <;> simp
theorem thr_Q {a : AS} {n p m u : Nat} : thr a n p m u = (vs a p u && decide (CQ a n p u ≤ m ∧ m < EQ a n p u)) := by
  unfold thr vs CQ EQ
  cases vis a u p <;> simp
theorem qat_Q {a : AS} {n p u : Nat} : qat a n p u = if vs a p u = true then BQ a n p u - CQ a n p u else 0 := by
  unfold qat vs CQ BQ
  cases vis a u p <;> simp
theorem mo_t {a : AS} {n p t : Nat} (h : vs a p t = true) : mo a n p (t + 1) = if mo a n p t < cntN (thr a n p (CQ a n p t)) n then cntN (thr a n p (CQ a n p t)) n else mo a n p t := by
  obtain ⟨v, hv, -, -⟩ := vs_t h
  rw [(Q_s hv).1]
  show (match vis a t p with | some v => _ | none => _) = _
  rw [hv]
theorem mo_f {a : AS} {n p t : Nat} (h : ¬ vs a p t = true) : mo a n p (t + 1) = mo a n p t := by
  show (match vis a t p with | some v => _ | none => _) = _
  rw [vs_f h]
theorem Q_b {a : AS} (hw : Wf a) {n : Nat} (hn : n ≤ a 3) {p u : Nat} (hu : u < n) (h : vs a p u = true) : CQ a n p u ≤ BQ a n p u ∧ BQ a n p u ≤ EQ a n p u ∧ CQ a n p u < EQ a n p u ∧ EQ a n p u ≤ 10520 := by
  obtain ⟨v, hv, h1, h2⟩ := vs_t h
  obtain ⟨e1, e2, e3⟩ := Q_s (n := n) hv
  rw [e1, e2, e3]
  obtain ⟨v1, v2, v3, v4, v5⟩ := V_eq hw hn hu h1
  exact ⟨v3, by omega, v4, v5⟩
theorem Q_q {a : AS} (hw : Wf a) (hD : DR a) {n : Nat} (hn : n ≤ a 3) {t p : Nat} (ht : t < n) (h : vs a p t = true) :
    (∀ u, u < n → vs a p u = true → lx (CQ a n p u) u (CQ a n p t) t → EQ a n p u ≤ BQ a n p t) ∧
    (BQ a n p t = CQ a n p t ∨ ∃ u, u < n ∧ vs a p u = true ∧ lx (CQ a n p u) u (CQ a n p t) t ∧ EQ a n p u = BQ a n p t) := by
  obtain ⟨v, hv, h1, h2⟩ := vs_t h
  obtain ⟨e1, e2, e3⟩ := Q_s (n := n) hv
  obtain ⟨g1, g2⟩ := Q_ord hw hn ht h1
  rw [e1, e2]
  refine ⟨fun u hu hvu hl => ?_, ?_⟩
  · obtain ⟨w, hv2, k1, k2⟩ := vs_t hvu
    obtain ⟨f1, f2, f3⟩ := Q_s (n := n) hv2
    rw [f1] at hl
    rw [f3]
    exact g1 u w hu k1 (by rw [k2, h2]) hl
  · rcases g2 with g2 | ⟨u, w, hu, k1, k2, k3, k4⟩
    · exact Or.inl g2
    · right
      have hv2 := vis_of hD (p := p) (by omega) k1 (by rw [k2, h2])
      obtain ⟨f1, f2, f3⟩ := Q_s (n := n) hv2
      exact ⟨u, hu, vs_s hv2, by rw [f1]; exact k3, by rw [f3]; exact k4⟩
/-! sets of teams as numbers -/
theorem msk_tb {q : Nat → Bool} : ∀ {n u : Nat}, u < n → (msk q n).testBit u = q u
  | 0, u, h => absurd h (Nat.not_lt_zero _)
  | n + 1, u, h => by
    have hl := msk_lt (p := q) n
    rw [msk_s]
    by_cases e : u = n
    · subst e
      by_cases hq : q u = true
      · rw [if_pos hq, Nat.add_comm, Nat.testBit_two_pow_add_eq, Nat.testBit_lt_two_pow hl, hq]
        rfl
      · rw [if_neg hq, Nat.add_zero, Nat.testBit_lt_two_pow hl]
        simpa using hq
    · by_cases hq : q n = true
      · rw [if_pos hq, Nat.add_comm, Nat.testBit_two_pow_add_gt (by omega)]
        exact msk_tb (by omega)
      · rw [if_neg hq, Nat.add_zero]
        exact msk_tb (by omega)
theorem msk_bit {q : Nat → Bool} {n u : Nat} (h : u < n) : msk q n / 2 ^ u % 2 = if q u = true then 1 else 0 := by
  have h1 := msk_tb (q := q) h
  rw [Nat.testBit_eq_decide_div_mod_eq] at h1
  by_cases hq : q u = true
  · rw [if_pos hq]
    rw [hq] at h1
    simpa using h1
  · rw [if_neg hq]
    have h2 : ¬ msk q n / 2 ^ u % 2 = 1 := fun e => hq (by rw [← h1]; simp [e])
    omega
theorem msk_out {q : Nat → Bool} {n u : Nat} (h : n ≤ u) : (msk q n).testBit u = false := Nat.testBit_lt_two_pow (Nat.lt_of_lt_of_le (msk_lt n) (Nat.pow_le_pow_right (by decide) h))
theorem msk_cg {p q : Nat → Bool} : ∀ {n : Nat}, (∀ u, u < n → p u = q u) → msk p n = msk q n
  | 0, _ => rfl
  | n + 1, h => by
    rw [msk_s, msk_s, msk_cg (n := n) (fun u hu => h u (by omega)), h n (Nat.lt_succ_self _)]
theorem msk_rem {q : Nat → Bool} : ∀ {n b : Nat}, b < n → q b = true → msk q n = msk (fun u => q u && !(u == b)) n + 2 ^ b
  | 0, b, h, _ => absurd h (Nat.not_lt_zero _)
  | n + 1, b, h, hq => by
    rw [msk_s, msk_s]
    by_cases e : b = n
    · subst e
      have e1 : msk (fun u => q u && !(u == b)) b = msk q b := msk_cg (fun u hu => by simp [show ¬ u = b by omega])
      rw [e1, if_pos hq]
      simp
    · have ih := msk_rem (q := q) (n := n) (b := b) (by omega) hq
      have e2 : (q n && !(n == b)) = q n := by simp [show ¬ n = b by omega]
      rw [ih]
      simp only [e2]
      omega
theorem msk_add {q : Nat → Bool} {n b : Nat} (hb : b < n) : msk q n ||| 2 ^ b = msk (fun u => q u || (u == b)) n := by
  apply Nat.eq_of_testBit_eq
  intro i
  rw [Nat.testBit_or, Nat.testBit_two_pow]
  by_cases hi : i < n
  · rw [msk_tb hi, msk_tb hi]
    congr 1
    by_cases e : b = i
    · simp [e]
    · simp [e, show ¬ i = b from fun q => e q.symm]
  · rw [msk_out (by omega), msk_out (by omega), decide_eq_false (by omega)]
    rfl
theorem msk_0 {q : Nat → Bool} {n : Nat} (h : msk q n = 0) {u : Nat} (hu : u < n) : ¬ q u = true := by
  have h1 := msk_tb (q := q) hu
  rw [h, Nat.zero_testBit] at h1
  rw [← h1]
  decide
theorem bit_rem : ∀ m, m < 64 → ∀ b, b < 6 → nI m &&& ((nI 1 <<< (nI b &&& 31)) ^^^ (-1)) = nI (m - m / 2 ^ b % 2 * 2 ^ b) := by decide +kernel
theorem bit_or2 : ∀ m, m < 64 → ∀ b, b < 6 → nI m ||| (nI 1 <<< (nI b &&& 31)) = nI (m ||| 2 ^ b) := by decide +kernel
theorem bit_or0 : ∀ m, m < 64 → nI m ||| nI 0 = nI m := by decide +kernel
theorem bit_two : ∀ m, m < 64 → ∀ t, t < 6 → ∀ k, k < 6 → ((nI m >>> (nI t &&& 31)) &&& (nI m >>> (nI k &&& 31))) &&& nI 1 = nI (m / 2 ^ t % 2 * (m / 2 ^ k % 2)) := by decide +kernel
theorem msk_64 {q : Nat → Bool} {n : Nat} (hn : n ≤ 6) : msk q n < 64 := Nat.lt_of_lt_of_le (msk_lt n) (Nat.le_trans (Nat.pow_le_pow_right (by decide) hn) (by decide))
theorem or_add {q : Nat → Bool} {n b : Nat} (hn : n ≤ 6) (hb : b < n) : nI (msk q n) ||| (nI 1 <<< (nI b &&& 31)) = nI (msk (fun u => q u || (u == b)) n) := by rw [bit_or2 _ (msk_64 hn) b (by omega), msk_add hb]
theorem and_rem {q : Nat → Bool} {n b : Nat} (hn : n ≤ 6) (hb : b < n) (hq : q b = true) : nI (msk q n) &&& ((nI 1 <<< (nI b &&& 31)) ^^^ (-1)) = nI (msk (fun u => q u && !(u == b)) n) := by
  rw [bit_rem _ (msk_64 hn) b (by omega), msk_bit hb, if_pos hq, Nat.one_mul]
  have := msk_rem (q := q) hb hq
  congr 1
  omega
theorem two_bits {q : Nat → Bool} {n t k : Nat} (hn : n ≤ 6) (ht : t < n) (hk : k < n) : ((nI (msk q n) >>> (nI t &&& 31)) &&& (nI (msk q n) >>> (nI k &&& 31))) &&& nI 1 = nI (if (q t && q k) = true then 1 else 0) := by
  rw [bit_two _ (msk_64 hn) t (by omega) k (by omega), msk_bit ht, msk_bit hk]
  cases q t <;> cases q k <;> rfl
theorem one_bit {q : Nat → Bool} {n t : Nat} (hn : n ≤ 6) (ht : t < n) : (nI (msk q n) >>> (nI t &&& 31)) &&& nI 1 = nI (if q t = true then 1 else 0) := by
  rw [bit_shr _ (by have := msk_64 (q := q) hn; omega) t (by omega), msk_bit ht]
/-! sums -/
theorem smN_cg {f g : Nat → Nat} : ∀ {n : Nat}, (∀ u, u < n → f u = g u) → smN f n = smN g n
  | 0, _ => rfl
  | n + 1, h => by
    show smN f n + f n = smN g n + g n
    rw [smN_cg (n := n) (fun u hu => h u (by omega)), h n (Nat.lt_succ_self _)]
theorem cntN_cg {f g : Nat → Bool} : ∀ {n : Nat}, (∀ u, u < n → f u = g u) → cntN f n = cntN g n
  | 0, _ => rfl
  | n + 1, h => by
    show cntN f n + _ = cntN g n + _
    rw [cntN_cg (n := n) (fun u hu => h u (by omega)), h n (Nat.lt_succ_self _)]
theorem smN_up {f g : Nat → Nat} {b x : Nat} : ∀ {n : Nat}, b < n → (∀ u, u < n → u ≠ b → g u = f u) → g b = f b + x → smN g n = smN f n + x
  | 0, h, _, _ => absurd h (Nat.not_lt_zero _)
  | n + 1, h, h1, h2 => by
    show smN g n + g n = smN f n + f n + x
    by_cases e : b = n
    · subst e
      rw [smN_cg (n := b) (fun u hu => h1 u (by omega) (by omega)), h2]
      omega
    · rw [smN_up (n := n) (by omega) (fun u hu => h1 u (by omega)) h2, h1 n (Nat.lt_succ_self _) (fun q => e q.symm)]
      omega
/-! who looks next -/
def WI (a : AS) (n p : Nat) (q : Nat → Bool) (free : Nat) : Prop :=
  (∀ u, q u = true → u < n ∧ vs a p u = true) ∧ (∀ u w, u < n → vs a p u = true → ¬ q u = true → q w = true → lx (CQ a n p u) u (CQ a n p w) w) ∧
  (∀ u, u < n → vs a p u = true → ¬ q u = true → EQ a n p u ≤ free) ∧ (free = 0 ∨ ∃ u, u < n ∧ vs a p u = true ∧ ¬ q u = true ∧ EQ a n p u = free)
theorem WI.first {a : AS} {n p : Nat} : WI a n p (fun u => decide (u < n) && vs a p u) 0 := by
  refine ⟨fun u h => by simpa using h, fun u w hu hv hq => ?_, fun u hu hv hq => ?_, Or.inl rfl⟩
  · exact absurd (by simp [hu, hv]) hq
  · exact absurd (by simp [hu, hv]) hq
theorem WI.begin {a : AS} (hw : Wf a) (hD : DR a) {n : Nat} (hn : n ≤ a 3) {p free b : Nat} {q : Nat → Bool} (h : WI a n p q free) (hb : q b = true) (hmin : ∀ w, q w = true → w = b ∨ lx (CQ a n p b) b (CQ a n p w) w) : BQ a n p b = if CQ a n p b ≤ free then free else CQ a n p b := by
  obtain ⟨h1, h2, h3, h4⟩ := h
  obtain ⟨hbn, hbv⟩ := h1 b hb
  obtain ⟨g1, g2⟩ := Q_q hw hD hn hbn hbv
  have g3 := (Q_b hw hn hbn hbv).1
  have k1 : free ≤ BQ a n p b := by
    rcases h4 with h4 | ⟨u, hu, hv, hq, he⟩
    · omega
    · rw [← he]
      exact g1 u hu hv (h2 u b hu hv hq hb)
  have k2 : BQ a n p b = CQ a n p b ∨ BQ a n p b ≤ free := by
    rcases g2 with g2 | ⟨u, hu, hv, hl, he⟩
    · exact Or.inl g2
    · right
      rw [← he]
      refine h3 u hu hv (fun hq => ?_)
      rcases hmin u hq with e | e
      · subst e
        unfold lx at hl
        omega
      · unfold lx at hl e
        omega
  split <;> omega
theorem WI.next {a : AS} (hw : Wf a) (hD : DR a) {n : Nat} (hn : n ≤ a 3) {p free b : Nat} {q : Nat → Bool} (h : WI a n p q free) (hb : q b = true) (hmin : ∀ w, q w = true → w = b ∨ lx (CQ a n p b) b (CQ a n p w) w) : WI a n p (fun u => q u && !(u == b)) (EQ a n p b) := by
  have hbg := h.begin hw hD hn hb hmin
  obtain ⟨h1, h2, h3, h4⟩ := h
  obtain ⟨hbn, hbv⟩ := h1 b hb
  have g3 := Q_b hw hn hbn hbv
  have no : ∀ u, ¬ (q u && !(u == b)) = true → ¬ q u = true ∨ u = b := by
    intro u hu
    by_cases e : u = b
    · exact Or.inr e
    · left
      intro hq
      exact hu (by simp [hq, e])
  refine ⟨fun u hu => h1 u (by simp at hu; exact hu.1), fun u w hu hv hq hqw => ?_, fun u hu hv hq => ?_, Or.inr ⟨b, hbn, hbv, by simp, rfl⟩⟩
  · simp at hqw
    rcases no u hq with e | e
    · exact h2 u w hu hv e hqw.1
    · rw [e]
      rcases hmin w hqw.1 with e2 | e2
      · exact absurd e2 hqw.2
      · exact e2
  · rcases no u hq with e | e
    · have := h3 u hu hv e
      split at hbg <;> omega
    · rw [e]
      exact Nat.le_refl _
/-- the minutes that those have waited who are gone -/
def QS (a : AS) (n p : Nat) (q : Nat → Bool) : Nat := smN (fun u => if (vs a p u && !q u) = true then BQ a n p u - CQ a n p u else 0) n
theorem QS_first {a : AS} {n p : Nat} : QS a n p (fun u => decide (u < n) && vs a p u) = 0 := by
  have : QS a n p (fun u => decide (u < n) && vs a p u) = smN (fun _ => 0) n := smN_cg (fun u hu => by
    cases h : vs a p u <;> simp [hu, h])
  rw [this]
  have : ∀ m, smN (fun _ => 0) m = 0 := by
    intro m
    induction m with
    | zero => rfl
    | succ m ih => show smN (fun _ => 0) m + 0 = 0; rw [ih]
  exact this n
theorem QS_next {a : AS} {n p b : Nat} {q : Nat → Bool} (hb : b < n) (hv : vs a p b = true) (hq : q b = true) : QS a n p (fun u => q u && !(u == b)) = QS a n p q + (BQ a n p b - CQ a n p b) := by
  refine smN_up hb (fun u hu hne => ?_) ?_
  · simp [hne]
  · simp [hv, hq]
theorem QS_end {a : AS} {n p : Nat} {q : Nat → Bool} (h : ∀ u, u < n → ¬ q u = true) : QS a n p q = smN (qat a n p) n := by
  refine smN_cg (fun u hu => ?_)
  have : q u = false := by simpa using h u hu
  rw [qat_Q, this]
  simp
theorem QS_le {a : AS} (hw : Wf a) {n : Nat} (hn : n ≤ a 3) {p : Nat} {q : Nat → Bool} : QS a n p q ≤ 6 * 10520 := by
  have h6 := hw.t6
  refine Nat.le_trans (smN_le (c := 10520) (fun u hu => ?_)) (Nat.mul_le_mul_right _ (by omega))
  split
  · next h =>
    have hv : vs a p u = true := by
      cases hv : vs a p u with
      | true => rfl
      | false => rw [hv] at h; simp at h
    have := Q_b hw hn hu hv
    omega
  · omega
/-- the least among those from i on, by minutes and numbers -/
def NB (a : AS) (n p : Nat) (q : Nat → Bool) (i : Nat) : Option Nat → Prop
  | none => ∀ u, i ≤ u → u < n → ¬ q u = true
  | some b => i ≤ b ∧ b < n ∧ q b = true ∧ ∀ u, i ≤ u → u < n → q u = true → u = b ∨ lx (CQ a n p b) b (CQ a n p u) u
theorem NB.no {a : AS} {n p i : Nat} {q : Nat → Bool} {o : Option Nat} (h : NB a n p q (i + 1) o) (hq : ¬ q i = true) : NB a n p q i o := by
  cases o with
  | none =>
    intro u hu hn
    by_cases e : u = i
    · rw [e]
      exact hq
    · exact h u (by omega) hn
  | some b =>
    obtain ⟨h1, h2, h3, h4⟩ := h
    refine ⟨by omega, h2, h3, fun u hu hn hqu => ?_⟩
    by_cases e : u = i
    · rw [e] at hqu
      exact absurd hqu hq
    · exact h4 u (by omega) hn hqu
theorem NB.fst {a : AS} {n p i : Nat} {q : Nat → Bool} (hi : i < n) (h : NB a n p q (i + 1) none) (hq : q i = true) : NB a n p q i (some i) := by
  refine ⟨Nat.le_refl _, hi, hq, fun u hu hn hqu => ?_⟩
  by_cases e : u = i
  · exact Or.inl e
  · exact absurd hqu (h u (by omega) hn)
theorem NB.yes {a : AS} {n p i b : Nat} {q : Nat → Bool} (hi : i < n) (h : NB a n p q (i + 1) (some b)) (hq : q i = true) (hc : CQ a n p i ≤ CQ a n p b) : NB a n p q i (some i) := by
  obtain ⟨h1, h2, h3, h4⟩ := h
  refine ⟨Nat.le_refl _, hi, hq, fun u hu hn hqu => ?_⟩
  by_cases e : u = i
  · exact Or.inl e
  · right
    rcases h4 u (by omega) hn hqu with e2 | e2
    · rw [e2]
      unfold lx
      omega
    · unfold lx at e2 ⊢
      omega
theorem NB.keep {a : AS} {n p i b : Nat} {q : Nat → Bool} (h : NB a n p q (i + 1) (some b)) (hc : ¬ CQ a n p i ≤ CQ a n p b) : NB a n p q i (some b) := by
  obtain ⟨h1, h2, h3, h4⟩ := h
  refine ⟨by omega, h2, h3, fun u hu hn hqu => ?_⟩
  by_cases e : u = i
  · right
    rw [e]
    unfold lx
    omega
  · exact h4 u (by omega) hn hqu
