/-! what if: exchanges, places, turns -/
theorem ov_le {a : AS} (hw : Wf a) {n t : Nat} (hn : n ≤ a 3) (ht : t < n) : OV a n t ≤ 10520 := ((gf_end hw hn).2.1.1 t ht).2
theorem tl_le8 {a : AS} (hw : Wf a) {t : Nat} (ht : t < a 3) : tl a t ≤ 8 := by
  have h : tl a t ≤ a (39 + 12 * t) := by
    unfold tl tr trp
    exact Nat.le_trans (List.length_filter_le _ _) (by simp)
  exact Nat.le_trans h (hw.tm ht).2.2.2.1.2
def qal (a : AS) (n : Nat) : Nat := smN (fun t => qd a n t (tl a t)) n
theorem qd_le {a : AS} (hw : Wf a) {n t : Nat} (hn : n ≤ a 3) (ht : t < n) : qd a n t (tl a t) ≤ 8 * 10520 := by
  obtain ⟨-, hg, hd⟩ := gf_end hw hn
  refine Nat.le_trans (smN_le (c := 10520) (fun v hv => ?_)) (Nat.mul_le_mul_right _ (tl_le8 hw (by omega)))
  have := hg.2.2 t v ht (by rw [hd t ht]; exact hv)
  have e1 : BG a n t v = bg (gf a n) t v := rfl
  have e2 : CM a n t v = cm (gf a n) t v := rfl
  omega
theorem qal_le {a : AS} (hw : Wf a) {n : Nat} (hn : n ≤ a 3) : qal a n ≤ 504960 := by
  have h6 := hw.t6
  have : qal a n ≤ n * (8 * 10520) := smN_le (fun t ht => qd_le hw hn ht)
  have : n * (8 * 10520) ≤ 6 * (8 * 10520) := Nat.mul_le_mul_right _ (by omega)
  omega
abbrev T3 : Type := Nat × Nat × Nat
/-- one pair more, with its end -/
def bx1 (x : Option T3) (i j e : Nat) : Option T3 := match x with
  | none => some (i, j, e)
  | some y => if e < y.2.2 then some (i, j, e) else some y
/-- the best of the first pairs, in their order -/
def bxk (f : Nat → Nat → Nat) (n : Nat) : Nat → Option T3
  | 0 => none
  | k + 1 => if k / n < k % n then bx1 (bxk f n k) (k / n) (k % n) (f (k / n) (k % n)) else bxk f n k
theorem bxk_skip {f : Nat → Nat → Nat} {n i : Nat} (hi : i < n) : ∀ j, j ≤ i + 1 → bxk f n (i * n + j) = bxk f n (i * n)
  | 0, _ => rfl
  | j + 1, hj => by
    have e1 : (i * n + j) / n = i := by
      rw [Nat.mul_comm, Nat.mul_add_div (by omega), Nat.div_eq_of_lt (by omega)]
      rfl
    have e2 : (i * n + j) % n = j := by
      rw [Nat.mul_comm, Nat.mul_add_mod, Nat.mod_eq_of_lt (by omega)]
    show (if (i * n + j) / n < (i * n + j) % n then _ else _) = _
    rw [e1, e2, if_neg (by omega)]
    exact bxk_skip hi j (by omega)
theorem bxk_step {f : Nat → Nat → Nat} {n i j : Nat} (hij : i < j) (hj : j < n) : bxk f n (i * n + (j + 1)) = bx1 (bxk f n (i * n + j)) i j (f i j) := by
  have e1 : (i * n + j) / n = i := by
    rw [Nat.mul_comm, Nat.mul_add_div (by omega), Nat.div_eq_of_lt (by omega)]
    rfl
  have e2 : (i * n + j) % n = j := by
    rw [Nat.mul_comm, Nat.mul_add_mod, Nat.mod_eq_of_lt (by omega)]
  show (if (i * n + j) / n < (i * n + j) % n then bx1 (bxk f n (i * n + j)) ((i * n + j) / n) ((i * n + j) % n) (f ((i * n + j) / n) ((i * n + j) % n)) else bxk f n (i * n + j)) = _
  rw [e1, e2, if_pos hij]
def x1 : Option T3 → Int32
  | none => -100006
  | some y => nI y.1
def x2 : Option T3 → Int32
  | none => -100006
  | some y => nI y.2.1
def x3 : Option T3 → Int32
  | none => -100006
  | some y => nI y.2.2
theorem bxk_le {f : Nat → Nat → Nat} {n c : Nat} (h : ∀ i j, i < j → j < n → f i j ≤ c) : ∀ k, k ≤ n * n → ∀ y, bxk f n k = some y → y.2.2 ≤ c
  | 0, _, y, e => by cases e
  | k + 1, hk, y, e => by
    have ih := bxk_le h k (by omega)
    simp only [bxk] at e
    split at e
    · next hlt =>
      have hf := h _ _ hlt (Nat.mod_lt _ (by
        rcases Nat.eq_zero_or_pos n with z | z
        · subst z; omega
        · exact z))
      unfold bx1 at e
      split at e
      · cases e; exact hf
      · next z hz =>
        split at e
        · cases e; exact hf
        · cases e; exact ih _ hz
    · exact ih y e
/-- the end of team t with two of its places exchanged -/
def xed (a : AS) (t i j : Nat) : Nat := edA (xch a t i j) t
def o_bestExchange (c : CS) (v w : Int32) : Int32 × CS := if inT v (na c 3) then (if inR w 2 then ((fun r => if w = nI 0 then x1 r else if w = nI 1 then x2 r else x3 r) (bxk (xed (na c) (iN v)) (na c (39 + 12 * iN v)) (na c (39 + 12 * iN v) * na c (39 + 12 * iN v))), c) else (-100002, c)) else (-100001, c)
theorem wf_xch {a : AS} {t i j : Nat} (hw : Wf a) (ht : t < a 3) (hi : i < a (39 + 12 * t)) (hj : j < a (39 + 12 * t)) : Wf (xch a t i j) := wf_rt hw ht (fun k hk => by
  have q := (hw.tm ht).2.2.2.2
  simp only [up1]
  split
  · exact q i hi
  · split
    · exact q j hj
    · exact q k hk)
theorem xch_3 {a : AS} {t i j : Nat} (n8 : a (39 + 12 * t) ≤ 8) : xch a t i j 3 = a 3 := by unfold xch; rw [rt_n (by omega)]
theorem xed_le {a : AS} {t i j : Nat} (hw : Wf a) (ht : t < a 3) (hi : i < a (39 + 12 * t)) (hj : j < a (39 + 12 * t)) : xed a t i j ≤ 10520 :=
  ov_le (wf_xch hw ht hi hj) (Nat.le_refl _) (by rw [xch_3 (hw.tm ht).2.2.2.1.2]; exact ht)
/-- the place that is best closed, of the first p -/
def wpk (a : AS) : Nat → Option (Nat × Nat)
  | 0 => none
  | p + 1 => if a (7 + 4 * p) = 0 then (match wpk a p with
    | none => some (p, qal (up1 a (7 + 4 * p) 1) (a 3))
    | some y => if qal (up1 a (7 + 4 * p) 1) (a 3) < y.2 then some (p, qal (up1 a (7 + 4 * p) 1) (a 3)) else some y) else wpk a p
def y1 : Option (Nat × Nat) → Int32
  | none => -100006
  | some y => nI y.1
def y2 : Option (Nat × Nat) → Int32
  | none => -100006
  | some y => nI y.2
def o_worstPlace (c : CS) (w : Int32) : Int32 × CS := if inR w 1 then (if w = nI 0 then y1 (wpk (na c) 8) else y2 (wpk (na c) 8), c) else (-100002, c)
theorem wpk_le {a : AS} (hw : Wf a) : ∀ p, p ≤ 8 → ∀ y, wpk a p = some y → y.2 ≤ 504960
  | 0, _, y, e => by cases e
  | p + 1, hp, y, e => by
    have ih := wpk_le hw p (by omega)
    have hq : qal (up1 a (7 + 4 * p) 1) (a 3) ≤ 504960 := qal_le (wf_place hw (Or.inr (Or.inr (Or.inr ⟨p, by omega, Nat.le_refl _, rfl⟩)))) (by rw [up1_n (by omega)]; exact Nat.le_refl _)
    simp only [wpk] at e
    split at e
    · split at e
      · cases e; exact hq
      · next z hz =>
        split at e
        · cases e; exact hq
        · cases e; exact ih _ hz
    · exact ih y e
def o_ifTurned (c : CS) (v w : Int32) : Int32 × CS := if inT v (na c 3) then (if ¬ w < 0 ∧ (w ≤ 0 ∨ w < nI (na c (39 + 12 * iN v))) then (nI (prs (mt (trn (na c) (iN v) (iN w)) (na c 3)) (na c 3) (na c 3)), c) else (-100002, c)) else (-100001, c)
section WHATIF
variable {l : Launch} {E : EY} {D : va_G} {cA : Nat → ClassId} {fin : Option Value → Mu → Prop} {μ : Mu} {d : Nat}
end WHATIF
