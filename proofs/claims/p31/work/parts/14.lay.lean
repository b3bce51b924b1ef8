/-! the standing world: which slot is what, also at numbers that are not written out -/
def oka (i c n : Nat) : Bool := decide (i < 227) && (ly_k i == c) && (ly_n i == n) && (List.range n).all (fun k => ly_s i k == 0)
theorem ok_ar {i c n k : Nat} (h : oka i c n = true) (hk : k < n) : okk i k c 0 = true := by
  unfold oka at h
  simp only [Bool.and_eq_true, decide_eq_true_eq, beq_iff_eq, List.all_eq_true, List.mem_range] at h
  obtain ⟨⟨⟨h1, h2⟩, h3⟩, h4⟩ := h
  unfold okk
  simp [h1, h2, h3, hk, h4 k hk]
theorem oka_of {i c n : Nat} (h : oka i c n = true) : i < 227 ∧ ly_k i = c ∧ ly_n i = n ∧ ∀ k, k < n → ly_s i k = 0 := by
  unfold oka at h
  simp only [Bool.and_eq_true, decide_eq_true_eq, beq_iff_eq, List.all_eq_true, List.mem_range] at h
  exact ⟨h.1.1.1, h.1.1.2, h.1.2, h.2⟩
theorem ok_g {b t : Nat} (hb : b = 39 ∨ b = 46 ∨ b = 53 ∨ b = 60 ∨ b = 67) (ht : t < 6) : okk b t 103 (b + 1 + t + 2) = true := by
  have h : ∀ t, t < 6 → okk 39 t 103 (39 + 1 + t + 2) = true ∧ okk 46 t 103 (46 + 1 + t + 2) = true ∧ okk 53 t 103 (53 + 1 + t + 2) = true ∧ okk 60 t 103 (60 + 1 + t + 2) = true ∧ okk 67 t 103 (67 + 1 + t + 2) = true := by decide +kernel
  obtain ⟨h1, h2, h3, h4, h5⟩ := h t ht
  rcases hb with rfl | rfl | rfl | rfl | rfl <;> assumption
theorem ok_gr {b t : Nat} (hb : b = 39 ∨ b = 46 ∨ b = 53 ∨ b = 60 ∨ b = 67) (ht : t < 6) : oka (b + 1 + t) 100 8 = true := by
  have h : ∀ t, t < 6 → oka (39 + 1 + t) 100 8 = true ∧ oka (46 + 1 + t) 100 8 = true ∧ oka (53 + 1 + t) 100 8 = true ∧ oka (60 + 1 + t) 100 8 = true ∧ oka (67 + 1 + t) 100 8 = true := by decide +kernel
  obtain ⟨h1, h2, h3, h4, h5⟩ := h t ht
  rcases hb with rfl | rfl | rfl | rfl | rfl <;> assumption
/-- the places where a State stands -/
def isS (s : Nat) : Prop := s ∈ [1, 19, 81, 99, 117, 135, 153, 171, 191, 209]
theorem isS_le {s : Nat} (h : isS s) : 1 ≤ s ∧ s ≤ 209 := by
  have : ∀ s, s ∈ [1, 19, 81, 99, 117, 135, 153, 171, 191, 209] → 1 ≤ s ∧ s ≤ 209 := by decide
  exact this s h
theorem ok_S {s : Nat} (h : isS s) : okk s 0 3 (s + 1 + 2) = true ∧ okk s 1 3 (s + 2 + 2) = true ∧ okk s 2 3 (s + 3 + 2) = true ∧ okk s 3 3 (s + 4 + 2) = true ∧ okk s 4 3 0 = true ∧ okk s 5 3 (s + 5 + 2) = true ∧ okk s 6 3 0 = true ∧ oka (s + 1) 100 3 = true ∧ oka (s + 2) 100 8 = true ∧ oka (s + 3) 100 8 = true ∧ oka (s + 4) 100 8 = true := by
  have : ∀ s, s ∈ [1, 19, 81, 99, 117, 135, 153, 171, 191, 209] → okk s 0 3 (s + 1 + 2) = true ∧ okk s 1 3 (s + 2 + 2) = true ∧ okk s 2 3 (s + 3 + 2) = true ∧ okk s 3 3 (s + 4 + 2) = true ∧ okk s 4 3 0 = true ∧ okk s 5 3 (s + 5 + 2) = true ∧ okk s 6 3 0 = true ∧ oka (s + 1) 100 3 = true ∧ oka (s + 2) 100 8 = true ∧ oka (s + 3) 100 8 = true ∧ oka (s + 4) 100 8 = true := by decide +kernel
  exact this s h
theorem ok_T {s t : Nat} (h : isS s) (ht : t < 6) : okk (s + 5) t 105 (s + 6 + 2 * t + 2) = true ∧ okk (s + 6 + 2 * t) 0 4 (s + 7 + 2 * t + 2) = true ∧ okk (s + 6 + 2 * t) 1 4 0 = true ∧ okk (s + 6 + 2 * t) 2 4 0 = true ∧ okk (s + 6 + 2 * t) 3 4 0 = true ∧ okk (s + 6 + 2 * t) 4 4 0 = true ∧ oka (s + 7 + 2 * t) 100 8 = true := by
  have : ∀ s, s ∈ [1, 19, 81, 99, 117, 135, 153, 171, 191, 209] → ∀ t, t < 6 → okk (s + 5) t 105 (s + 6 + 2 * t + 2) = true ∧ okk (s + 6 + 2 * t) 0 4 (s + 7 + 2 * t + 2) = true ∧ okk (s + 6 + 2 * t) 1 4 0 = true ∧ okk (s + 6 + 2 * t) 2 4 0 = true ∧ okk (s + 6 + 2 * t) 3 4 0 = true ∧ okk (s + 6 + 2 * t) 4 4 0 = true ∧ oka (s + 7 + 2 * t) 100 8 = true := by decide +kernel
  exact this s h t ht
theorem ok_H {h : Nat} (hh : h < 6) : okk 80 h 104 (81 + 18 * h + 2) = true ∧ isS (81 + 18 * h) := by
  have : ∀ h, h < 6 → okk 80 h 104 (81 + 18 * h + 2) = true ∧ (81 + 18 * h) ∈ [1, 19, 81, 99, 117, 135, 153, 171, 191, 209] := by decide +kernel
  exact this h hh
theorem ok_L {j : Nat} (hj : j < 2) : okk 189 j 104 (191 + 18 * j + 2) = true ∧ isS (191 + 18 * j) := by
  have : ∀ h, h < 2 → okk 189 h 104 (191 + 18 * h + 2) = true ∧ (191 + 18 * h) ∈ [1, 19, 81, 99, 117, 135, 153, 171, 191, 209] := by decide +kernel
  exact this j hj
/-! memory: reads behind writes -/
theorem u2_s {μ : Mu} {i k : Nat} {x : Int32} : u2 μ i k x i k = x := by simp [u2]
theorem u2_a {μ : Mu} {i k a b : Nat} {x : Int32} (h : a ≠ i) : u2 μ i k x a b = μ a b := by simp [u2, h]
theorem u2_b {μ : Mu} {i k a b : Nat} {x : Int32} (h : b ≠ k) : u2 μ i k x a b = μ a b := by simp [u2, h]
theorem u2c_a {μ : Mu} {i j a b : Nat} (h : a ≠ j) : u2c μ j i a b = μ a b := by simp [u2c, h]
theorem u2c_s {μ : Mu} {i j b : Nat} : u2c μ j i j b = μ i b := by simp [u2c]
/-! loops over numbers -/
theorem ps_for {P : Nat → Prop} (b : Nat) (hend : P b) (hstep : ∀ i, i < b → P (i + 1) → P i) : ∀ i, i ≤ b → P i := by
  intro i hi
  obtain ⟨k, rfl⟩ : ∃ k, b = i + k := ⟨b - i, by omega⟩
  induction k generalizing i with
  | zero => exact hend
  | succ k ih =>
    refine hstep i (by omega) ?_
    refine ih (i + 1) ?_ (fun j hj => hstep j (by omega)) (by omega)
    rw [show i + 1 + k = i + (k + 1) by omega]
    exact hend
/-! branches over numbers -/
section PSB
variable {l : Launch} {E : EV} {D : va_G} {cA : Nat → ClassId} {N Z : Nat} {X : MT} {d : Nat} {fin : Option Value → List PE → Prop} {pc : Nat} {ls : List (Option Value)} {st : List Value} {M : List PE} {off : Int} {tgt : Nat}
theorem pn_eq {a b : Nat} (hd : decode X.2.2.1 pc = .ok (.if_icmp .eq off, 3)) (ht : (pc : Int) + off = (tgt : Int)) (ha : a < 2 ^ 31) (hb : b < 2 ^ 31) (k1 : a = b → PW l E D cA N Z X d fin tgt ls st M) (k2 : a ≠ b → PW l E D cA N Z X d fin (pc + 3) ls st M) : PW l E D cA N Z X d fin pc ls (.int (nI b) :: .int (nI a) :: st) M :=
  pw_icmp_eq hd ht (fun h => k1 ((nI_eq ha hb).mp h)) (fun h => k2 (fun q => h ((nI_eq ha hb).mpr q)))
theorem pn_ne {a b : Nat} (hd : decode X.2.2.1 pc = .ok (.if_icmp .ne off, 3)) (ht : (pc : Int) + off = (tgt : Int)) (ha : a < 2 ^ 31) (hb : b < 2 ^ 31) (k1 : a ≠ b → PW l E D cA N Z X d fin tgt ls st M) (k2 : a = b → PW l E D cA N Z X d fin (pc + 3) ls st M) : PW l E D cA N Z X d fin pc ls (.int (nI b) :: .int (nI a) :: st) M :=
  pw_icmp_ne hd ht (fun h => k1 (fun q => h ((nI_eq ha hb).mpr q))) (fun h => k2 ((nI_eq ha hb).mp h))
theorem pn_ge {a b : Nat} (hd : decode X.2.2.1 pc = .ok (.if_icmp .ge off, 3)) (ht : (pc : Int) + off = (tgt : Int)) (ha : a < 2 ^ 31) (hb : b < 2 ^ 31) (k1 : b ≤ a → PW l E D cA N Z X d fin tgt ls st M) (k2 : a < b → PW l E D cA N Z X d fin (pc + 3) ls st M) : PW l E D cA N Z X d fin pc ls (.int (nI b) :: .int (nI a) :: st) M :=
  pw_icmp_ge hd ht (fun h => k1 ((nI_leI hb ha).mp h)) (fun h => k2 (Nat.lt_of_not_le (fun q => h ((nI_leI hb ha).mpr q))))
theorem pn_lt {a b : Nat} (hd : decode X.2.2.1 pc = .ok (.if_icmp .lt off, 3)) (ht : (pc : Int) + off = (tgt : Int)) (ha : a < 2 ^ 31) (hb : b < 2 ^ 31) (k1 : a < b → PW l E D cA N Z X d fin tgt ls st M) (k2 : b ≤ a → PW l E D cA N Z X d fin (pc + 3) ls st M) : PW l E D cA N Z X d fin pc ls (.int (nI b) :: .int (nI a) :: st) M :=
  pw_icmp_lt hd ht (fun h => k1 ((nI_ltI ha hb).mp h)) (fun h => k2 (Nat.le_of_not_lt (fun q => h ((nI_ltI ha hb).mpr q))))
theorem pn_gt {a b : Nat} (hd : decode X.2.2.1 pc = .ok (.if_icmp .gt off, 3)) (ht : (pc : Int) + off = (tgt : Int)) (ha : a < 2 ^ 31) (hb : b < 2 ^ 31) (k1 : b < a → PW l E D cA N Z X d fin tgt ls st M) (k2 : a ≤ b → PW l E D cA N Z X d fin (pc + 3) ls st M) : PW l E D cA N Z X d fin pc ls (.int (nI b) :: .int (nI a) :: st) M :=
  pw_icmp_gt hd ht (fun h => k1 ((nI_ltI hb ha).mp h)) (fun h => k2 (Nat.le_of_not_lt (fun q => h ((nI_ltI hb ha).mpr q))))
theorem pn_le {a b : Nat} (hd : decode X.2.2.1 pc = .ok (.if_icmp .le off, 3)) (ht : (pc : Int) + off = (tgt : Int)) (ha : a < 2 ^ 31) (hb : b < 2 ^ 31) (k1 : a ≤ b → PW l E D cA N Z X d fin tgt ls st M) (k2 : b < a → PW l E D cA N Z X d fin (pc + 3) ls st M) : PW l E D cA N Z X d fin pc ls (.int (nI b) :: .int (nI a) :: st) M :=
  pw_icmp_le hd ht (fun h => k1 ((nI_leI ha hb).mp h)) (fun h => k2 (Nat.lt_of_not_le (fun q => h ((nI_leI ha hb).mpr q))))
theorem pn_iadd {a b : Nat} (hd : decode X.2.2.1 pc = .ok (.iadd, 1)) (kk : PW l E D cA N Z X d fin (pc + 1) ls (.int (nI (a + b)) :: st) M) : PW l E D cA N Z X d fin pc ls (.int (nI b) :: .int (nI a) :: st) M :=
  pw_iadd hd (by rw [nI_add]; exact kk)
theorem pn_imul {a b : Nat} (hd : decode X.2.2.1 pc = .ok (.imul, 1)) (kk : PW l E D cA N Z X d fin (pc + 1) ls (.int (nI (a * b)) :: st) M) : PW l E D cA N Z X d fin pc ls (.int (nI b) :: .int (nI a) :: st) M :=
  pw_imul hd (by rw [pk_mul]; exact kk)
theorem pn_isub {a b : Nat} (hab : b ≤ a) (hd : decode X.2.2.1 pc = .ok (.isub, 1)) (kk : PW l E D cA N Z X d fin (pc + 1) ls (.int (nI (a - b)) :: st) M) : PW l E D cA N Z X d fin pc ls (.int (nI b) :: .int (nI a) :: st) M :=
  pw_isub hd (by rw [pk_sub hab]; exact kk)
theorem pn_iinc {i a : Nat} {n : Nat} (hd : decode X.2.2.1 pc = .ok (.iinc i (n : Int), 3)) (hl : ls[i]? = some (some (.int (nI a)))) (hok : kv_ok ls i = true) (kk : PW l E D cA N Z X d fin (pc + 3) (ls.set i (some (.int (nI (a + n))))) st M) : PW l E D cA N Z X d fin pc ls st M :=
  pw_iinc hd hl (show nI a + Int32.ofInt (n : Int) = nI (a + n) from nI_add a n) hok kk
end PSB
section PSC
variable {l : Launch} {E : EV} {D : va_G} {cA : Nat → ClassId} {N Z : Nat} {X : MT} {d : Nat} {fin : Option Value → List PE → Prop} {pc : Nat} {ls ls' : List (Option Value)} {st : List Value} {M : List PE}
theorem px_istore_n {k : Fin 4} {x : Int32} (hd : decode X.2.2.1 pc = .ok (.istore_n k, 1)) (hs : ls.set (k : Nat) (some (.int x)) = ls') (hok : kv_ok ls (k : Nat) = true) (hi : (k : Nat) < X.2.2.2.1) (kk : PW l E D cA N Z X d fin (pc + 1) ls' st M) : PW l E D cA N Z X d fin pc ls (.int x :: st) M := by
  subst hs; exact pw_istore_n hd hok hi kk
theorem px_astore_n {k : Fin 4} {x : Nat} (hd : decode X.2.2.1 pc = .ok (.astore_n k, 1)) (hs : ls.set (k : Nat) (some (.ref x)) = ls') (hok : kv_ok ls (k : Nat) = true) (hi : (k : Nat) < X.2.2.2.1) (kk : PW l E D cA N Z X d fin (pc + 1) ls' st M) : PW l E D cA N Z X d fin pc ls (.ref x :: st) M := by
  subst hs; exact pw_astore_n hd hok hi kk
theorem px_istore {i : Nat} {x : Int32} (hd : decode X.2.2.1 pc = .ok (.istore i, 2)) (hs : ls.set i (some (.int x)) = ls') (hok : kv_ok ls i = true) (hi : i < X.2.2.2.1) (kk : PW l E D cA N Z X d fin (pc + 2) ls' st M) : PW l E D cA N Z X d fin pc ls (.int x :: st) M := by
  subst hs; exact pw_istore hd hok hi kk
theorem px_lstore_n {k : Fin 4} {x : Int64} (hd : decode X.2.2.1 pc = .ok (.lstore_n k, 1)) (hs : (ls.set (k : Nat) (some (.long x))).set ((k : Nat) + 1) none = ls') (hok : kv_ok ls (k : Nat) = true) (hi : (k : Nat) + 1 < X.2.2.2.1) (kk : PW l E D cA N Z X d fin (pc + 1) ls' st M) : PW l E D cA N Z X d fin pc ls (.long x :: st) M := by
  subst hs; exact pw_lstore_n hd hok hi kk
theorem px_iinc {i : Nat} {n : Int} {x v : Int32} (hd : decode X.2.2.1 pc = .ok (.iinc i n, 3)) (hl : ls[i]? = some (some (.int x))) (hv : x + Int32.ofInt n = v) (hs : ls.set i (some (.int v)) = ls') (hok : kv_ok ls i = true) (kk : PW l E D cA N Z X d fin (pc + 3) ls' st M) : PW l E D cA N Z X d fin pc ls st M := by
  subst hs; exact pw_iinc hd hl hv hok kk
theorem px_iincn {i a b n : Nat} (hd : decode X.2.2.1 pc = .ok (.iinc i (n : Int), 3)) (hl : ls[i]? = some (some (.int (nI a)))) (hs : ls.set i (some (.int (nI b))) = ls') (hok : kv_ok ls i = true) (hb : a + n = b) (kk : PW l E D cA N Z X d fin (pc + 3) ls' st M) : PW l E D cA N Z X d fin pc ls st M := by
  subst hs; subst hb; exact pn_iinc hd hl hok kk
theorem px_iaddn {a b c : Nat} (hd : decode X.2.2.1 pc = .ok (.iadd, 1)) (hc : a + b = c) (kk : PW l E D cA N Z X d fin (pc + 1) ls (.int (nI c) :: st) M) : PW l E D cA N Z X d fin pc ls (.int (nI b) :: .int (nI a) :: st) M := by
  subst hc; exact pn_iadd hd kk
theorem px_imuln {a b c : Nat} (hd : decode X.2.2.1 pc = .ok (.imul, 1)) (hc : a * b = c) (kk : PW l E D cA N Z X d fin (pc + 1) ls (.int (nI c) :: st) M) : PW l E D cA N Z X d fin pc ls (.int (nI b) :: .int (nI a) :: st) M := by
  subst hc; exact pn_imul hd kk
end PSC
