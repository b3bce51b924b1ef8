/-! what if: exchanges, places, turns -/
theorem ov_le {a : AS} (hw : Wf a) {n t : Nat} (hn : n ≤ a 3) (ht : t < n) : OV a n t ≤ 10520 := ((gf_end hw hn).2.1.1 t ht).2
theorem tl_le8 {a : AS} (hw : Wf a) {t : Nat} (ht : t < a 3) : tl a t ≤ 8 := by
  have h : tl a t ≤ a (39 + 12 * t) := by
    unfold tl tr trp
    exact Nat.le_trans (List.length_filter_le _ _) (by simp)
  exact Nat.le_trans h (hw.tm ht).2.2.2.1.2
def qal (a : AS) (n : Nat) : Nat := smN (fun t => qd a n t (tl a t)) n
theorem qd_le {a : AS} (hw : Wf a) {n t : Nat} (hn : n ≤ a 3) (ht : t < n) : qd a n t (tl a t) ≤ 8 * 10520 := by
  obtain ⟨-, hg, hd⟩ := gf_end hw hn
  refine Nat.le_trans (smN_le (c := 10520) (fun v hv => ?_)) (Nat.mul_le_mul_right _ (tl_le8 hw (by omega)))
  have := hg.2.2 t v ht (by rw [hd t ht]; exact hv)
  have e1 : BG a n t v = bg (gf a n) t v := rfl
  have e2 : CM a n t v = cm (gf a n) t v := rfl
  omega
theorem qal_le {a : AS} (hw : Wf a) {n : Nat} (hn : n ≤ a 3) : qal a n ≤ 504960 := by
  have h6 := hw.t6
  have : qal a n ≤ n * (8 * 10520) := smN_le (fun t ht => qd_le hw hn ht)
  have : n * (8 * 10520) ≤ 6 * (8 * 10520) := Nat.mul_le_mul_right _ (by omega)
  omega
abbrev T3 : Type := Nat × Nat × Nat
/-- one pair more, with its end -/
def bx1 (x : Option T3) (i j e : Nat) : Option T3 := match x with
  | none => some (i, j, e)
  | some y => if e < y.2.2 then some (i, j, e) else some y
/-- the best of the first pairs, in their order -/
def bxk (f : Nat → Nat → Nat) (n : Nat) : Nat → Option T3
  | 0 => none
  | k + 1 => if k / n < k % n then bx1 (bxk f n k) (k / n) (k % n) (f (k / n) (k % n)) else bxk f n k
theorem bxk_skip {f : Nat → Nat → Nat} {n i : Nat} (hi : i < n) : ∀ j, j ≤ i + 1 → bxk f n (i * n + j) = bxk f n (i * n)
  | 0, _ => rfl
  | j + 1, hj => by
    have e1 : (i * n + j) / n = i := by
      rw [Nat.mul_comm, Nat.mul_add_div (by omega), Nat.div_eq_of_lt (by omega)]
      rfl
    have e2 : (i * n + j) % n = j := by
      rw [Nat.mul_comm, Nat.mul_add_mod, Nat.mod_eq_of_lt (by omega)]
    show (if (i * n + j) / n < (i * n + j) % n then _ else _) = _
    rw [e1, e2, if_neg (by omega)]
    exact bxk_skip hi j (by omega)
theorem bxk_step {f : Nat → Nat → Nat} {n i j : Nat} (hij : i < j) (hj : j < n) : bxk f n (i * n + (j + 1)) = bx1 (bxk f n (i * n + j)) i j (f i j) := by
  have e1 : (i * n + j) / n = i := by
    rw [Nat.mul_comm, Nat.mul_add_div (by omega), Nat.div_eq_of_lt (by omega)]
    rfl
  have e2 : (i * n + j) % n = j := by
    rw [Nat.mul_comm, Nat.mul_add_mod, Nat.mod_eq_of_lt (by omega)]
  show (if (i * n + j) / n < (i * n + j) % n then bx1 (bxk f n (i * n + j)) ((i * n + j) / n) ((i * n + j) % n) (f ((i * n + j) / n) ((i * n + j) % n)) else bxk f n (i * n + j)) = _
  rw [e1, e2, if_pos hij]
def x1 : Option T3 → Int32
  | none => -100006
  | some y => nI y.1
def x2 : Option T3 → Int32
  | none => -100006
  | some y => nI y.2.1
def x3 : Option T3 → Int32
  | none => -100006
  | some y => nI y.2.2
theorem bxk_le {f : Nat → Nat → Nat} {n c : Nat} (h : ∀ i j, i < j → j < n → f i j ≤ c) : ∀ k, k ≤ n * n → ∀ y, bxk f n k = some y → y.2.2 ≤ c
  | 0, _, y, e => by cases e
  | k + 1, hk, y, e => by
    have ih := bxk_le h k (by omega)
    simp only [bxk] at e
    split at e
    · next hlt =>
      have hf := h _ _ hlt (Nat.mod_lt _ (by
        rcases Nat.eq_zero_or_pos n with z | z
        · subst z; omega
        · exact z))
      unfold bx1 at e
      split at e
      · cases e; exact hf
      · next z hz =>
        split at e
        · cases e; exact hf
        · cases e; exact ih _ hz
    · exact ih y e
/-- the end of team t with two of its places exchanged -/
def xed (a : AS) (t i j : Nat) : Nat := edA (xch a t i j) t
def o_bestExchange (c : CS) (v w : Int32) : Int32 × CS := if inT v (na c 3) then (if inR w 2 then ((fun r => if w = nI 0 then x1 r else if w = nI 1 then x2 r else x3 r) (bxk (xed (na c) (iN v)) (na c (39 + 12 * iN v)) (na c (39 + 12 * iN v) * na c (39 + 12 * iN v))), c) else (-100002, c)) else (-100001, c)
theorem wf_xch {a : AS} {t i j : Nat} (hw : Wf a) (ht : t < a 3) (hi : i < a (39 + 12 * t)) (hj : j < a (39 + 12 * t)) : Wf (xch a t i j) := wf_rt hw ht (fun k hk => by
  have q := (hw.tm ht).2.2.2.2
  simp only [up1]
  split
  · exact q i hi
  · split
    · exact q j hj
    · exact q k hk)
theorem xch_3 {a : AS} {t i j : Nat} (n8 : a (39 + 12 * t) ≤ 8) : xch a t i j 3 = a 3 := by unfold xch; rw [rt_n (by omega)]
theorem xed_le {a : AS} {t i j : Nat} (hw : Wf a) (ht : t < a 3) (hi : i < a (39 + 12 * t)) (hj : j < a (39 + 12 * t)) : xed a t i j ≤ 10520 :=
  ov_le (wf_xch hw ht hi hj) (Nat.le_refl _) (by rw [xch_3 (hw.tm ht).2.2.2.1.2]; exact ht)
/-- the place that is best closed, of the first p -/
def wpk (a : AS) : Nat → Option (Nat × Nat)
  | 0 => none
  | p + 1 => if a (7 + 4 * p) = 0 then (match wpk a p with
    | none => some (p, qal (up1 a (7 + 4 * p) 1) (a 3))
    | some y => if qal (up1 a (7 + 4 * p) 1) (a 3) < y.2 then some (p, qal (up1 a (7 + 4 * p) 1) (a 3)) else some y) else wpk a p
def y1 : Option (Nat × Nat) → Int32
  | none => -100006
  | some y => nI y.1
def y2 : Option (Nat × Nat) → Int32
  | none => -100006
  | some y => nI y.2
def o_worstPlace (c : CS) (w : Int32) : Int32 × CS := if inR w 1 then (if w = nI 0 then y1 (wpk (na c) 8) else y2 (wpk (na c) 8), c) else (-100002, c)
theorem wpk_le {a : AS} (hw : Wf a) : ∀ p, p ≤ 8 → ∀ y, wpk a p = some y → y.2 ≤ 504960
  | 0, _, y, e => by cases e
  | p + 1, hp, y, e => by
    have ih := wpk_le hw p (by omega)
    have hq : qal (up1 a (7 + 4 * p) 1) (a 3) ≤ 504960 := qal_le (wf_place hw (Or.inr (Or.inr (Or.inr ⟨p, by omega, Nat.le_refl _, rfl⟩)))) (by rw [up1_n (by omega)]; exact Nat.le_refl _)
    simp only [wpk] at e
    split at e
    · split at e
      · cases e; exact hq
      · next z hz =>
        split at e
        · cases e; exact hq
        · cases e; exact ih _ hz
    · exact ih y e
def o_ifTurned (c : CS) (v w : Int32) : Int32 × CS := if inT v (na c 3) then (if ¬ w < 0 ∧ (w ≤ 0 ∨ w < nI (na c (39 + 12 * iN v))) then (nI (prs (mt (trn (na c) (iN v) (iN w)) (na c 3)) (na c 3) (na c 3)), c) else (-100002, c)) else (-100001, c)
section WHATIF
variable {l : Launch} {E : EV} {D : va_G} {cA : Nat → ClassId} {fin : Option Value → Mu → Prop} {μ : Mu} {d : Nat}
set_option maxRecDepth 100000 in
set_option maxHeartbeats 4000000 in
theorem c_endIfExchanged {a : AS} {t i j : Nat} (hw : Wf a) (ht : t < a 3) (hi : i < a (39 + 12 * t)) (hj : j < a (39 + 12 * t)) (hij : i ≠ j) (hR : RS μ 19 a) (hf : ∀ κ : Mu, (∀ q k, ¬ (37 ≤ q ∧ q < 77) → κ q k = μ q k) → fin (some (.int (nI (edA (xch a t i j) t)))) κ) : PS l E D cA mX5_endIfExchanged (d + 4) fin 0 [some (.ref 0), some (.int (nI t)), some (.int (nI i)), some (.int (nI j))] [] μ := by
  have t6 : t < 6 := by have := hw.t6; omega
  have hW := (hw.tm ht).2.2.2.1
  have hT := hR.2.2.2.2 t ht
  refine pw_aload_n dX5_endIfExchanged_0 rfl ?_
  refine ps_getr (r := 19) dX5_endIfExchanged_1 kf_X5_16 (by decide) (by decide +kernel) ?_
  refine ps_getr (r := 24) dX5_endIfExchanged_4 kf_X5_102 (by decide) (by decide +kernel) ?_
  refine pw_iload_n dX5_endIfExchanged_7 rfl ?_
  refine ps_aald (t := 5) (j := t) (r := 25 + 2 * t) dX5_endIfExchanged_8 rfl (ok_T (by unfold isS; decide : isS 19) t6).1 (by decide) ?_
  refine pw_iload_n dX5_endIfExchanged_9 rfl ?_
  refine pw_iload_n dX5_endIfExchanged_10 rfl ?_
  refine ps_callV (b := 25 + 2 * t) (As := [.int (nI i), .int (nI j)]) (st := []) dX5_endIfExchanged_11 cv_X5_151 rfl ⟨(okk_of (ok_T (by unfold isS; decide : isS 19) t6).2.1).1, (okk_of (ok_T (by unfold isS; decide : isS 19) t6).2.1).2.1⟩ (Nat.le_of_ble_eq_true rfl) (Nat.le_of_ble_eq_true rfl) ?_
  refine c_T_exchange (s := 19) isS_19 t6 (by omega) (by omega) (hT.2.2.2.2 i hi) (hT.2.2.2.2 j hj) ?_
  show PS l E D cA mX5_endIfExchanged (d + 4) fin 14 [some (.ref 0), some (.int (nI t)), some (.int (nI i)), some (.int (nI j))] [] (u2 (u2 μ (19 + 7 + 2 * t) i (nI (a (40 + 12 * t + j)))) (19 + 7 + 2 * t) j (nI (a (40 + 12 * t + i))))
  have wfb := wf_xch hw ht hi hj
  have h3 : xch a t i j 3 = a 3 := xch_3 hW.2
  have hrs : RS (u2 (u2 μ (19 + 7 + 2 * t) i (nI (a (40 + 12 * t + j)))) (19 + 7 + 2 * t) j (nI (a (40 + 12 * t + i)))) 19 (xch a t i j) := RS.route ht hw hR (fun q k g => by rw [u2_a g, u2_a g]) (fun k hk => by
    simp only [up1]
    by_cases e : k = j
    · subst e
      rw [u2_s, if_pos rfl]
    · rw [u2_b e, if_neg e]
      by_cases e2 : k = i
      · subst e2
        rw [u2_s, if_pos rfl]
      · rw [u2_b e2, if_neg e2]
        exact hT.2.2.2.2 k hk)
  refine pw_aload_n dX5_endIfExchanged_14 rfl ?_
  refine ps_getr (r := 37) dX5_endIfExchanged_15 kf_X5_22 (by decide) (by decide +kernel) ?_
  refine pw_aload_n dX5_endIfExchanged_18 rfl ?_
  refine ps_getr (r := 19) dX5_endIfExchanged_19 kf_X5_16 (by decide) (by decide +kernel) ?_
  refine pw_aload_n dX5_endIfExchanged_22 rfl ?_
  refine ps_getr (r := 19) dX5_endIfExchanged_23 kf_X5_16 (by decide) (by decide +kernel) ?_
  refine ps_geti (x := nI (a 3)) dX5_endIfExchanged_26 kf_X5_98 (by decide) (by decide +kernel) (hrs.2.1.trans (by rw [h3])) ?_
  refine ps_callV (b := 37) (As := [.ref 19, .int (nI (a 3))]) (st := []) dX5_endIfExchanged_29 cv_X5_247 rfl ⟨by decide, by decide +kernel⟩ (Nat.le_of_ble_eq_true rfl) (Nat.le_of_ble_eq_true rfl) ?_
  refine c_play (a := xch a t i j) isS_19 wfb (Nat.le_of_eq h3.symm) hrs ?_
  intro ρ p1 p2 p3
  have ht3 : t < xch a t i j 3 := by rw [h3]; exact ht
  show PS l E D cA mX5_endIfExchanged (d + 4) fin 32 [some (.ref 0), some (.int (nI t)), some (.int (nI i)), some (.int (nI j))] [] ρ
  refine pw_aload_n dX5_endIfExchanged_32 rfl ?_
  refine ps_getr (r := 19) dX5_endIfExchanged_33 kf_X5_16 (by decide) (by decide +kernel) ?_
  refine ps_getr (r := 24) dX5_endIfExchanged_36 kf_X5_102 (by decide) (by decide +kernel) ?_
  refine pw_iload_n dX5_endIfExchanged_39 rfl ?_
  refine ps_aald (t := 5) (j := t) (r := 25 + 2 * t) dX5_endIfExchanged_40 rfl (ok_T (by unfold isS; decide : isS 19) t6).1 (by decide) ?_
  refine pw_iload_n dX5_endIfExchanged_41 rfl ?_
  refine pw_iload_n dX5_endIfExchanged_42 rfl ?_
  refine ps_callV (b := 25 + 2 * t) (As := [.int (nI i), .int (nI j)]) (st := []) dX5_endIfExchanged_43 cv_X5_151 rfl ⟨(okk_of (ok_T (by unfold isS; decide : isS 19) t6).2.1).1, (okk_of (ok_T (by unfold isS; decide : isS 19) t6).2.1).2.1⟩ (Nat.le_of_ble_eq_true rfl) (Nat.le_of_ble_eq_true rfl) ?_
  refine c_T_exchange (s := 19) (x := a (40 + 12 * t + j)) (y := a (40 + 12 * t + i)) isS_19 t6 (by omega) (by omega) (by rw [p3 _ _ (by omega), u2_b hij, u2_s]) (by rw [p3 _ _ (by omega), u2_s]) ?_
  show PS l E D cA mX5_endIfExchanged (d + 4) fin 46 [some (.ref 0), some (.int (nI t)), some (.int (nI i)), some (.int (nI j))] [] (u2 (u2 ρ (19 + 7 + 2 * t) i (nI (a (40 + 12 * t + i)))) (19 + 7 + 2 * t) j (nI (a (40 + 12 * t + j))))
  refine pw_aload_n dX5_endIfExchanged_46 rfl ?_
  refine ps_getr (r := 37) dX5_endIfExchanged_47 kf_X5_22 (by decide) (by decide +kernel) ?_
  refine ps_getr (r := 75) dX5_endIfExchanged_50 kf_X5_184 (by decide) (by decide +kernel) ?_
  refine pw_iload_n dX5_endIfExchanged_53 rfl ?_
  refine ps_iald (j := t) (x := nI (edA (xch a t i j) t)) dX5_endIfExchanged_54 rfl (ok_ar (n := 6) (by decide +kernel) (by omega)) (by rw [u2_a (by omega), u2_a (by omega), (p1.t wfb (Nat.le_of_eq h3.symm) ht).2.2.1]; unfold edA; rw [h3]) ?_
  exact ps_iret dX5_endIfExchanged_55 rfl rfl (hf _ (fun q k g => by
    by_cases e1 : q = 19 + 7 + 2 * t
    · subst e1
      by_cases e2 : k = j
      · subst e2
        rw [u2_s, hT.2.2.2.2 k hj]
      · rw [u2_b e2]
        by_cases e3 : k = i
        · subst e3
          rw [u2_s, hT.2.2.2.2 k hi]
        · rw [u2_b e3, p3 _ _ g, u2_b e2, u2_b e3]
    · rw [u2_a e1, u2_a e1, p3 _ _ g, u2_a e1, u2_a e1]))
set_option maxRecDepth 100000 in
set_option maxHeartbeats 4000000 in
theorem x_ifTurned {c : CS} (hw : CW c) (hx : CX μ c) {v w : Int32} (hf : ∀ ν : Mu, CX ν (o_ifTurned c v w).2 → SM ν μ → fin (some (.int (o_ifTurned c v w).1)) ν) : PS l E D cA mX5_ifTurned (d + 5) fin 0 [some (.ref 0), some (.int v), some (.int w)] [] μ := by
  have hq := hx
  refine pw_aload_n dX5_ifTurned_0 rfl ?_
  refine pw_iload_n dX5_ifTurned_1 rfl ?_
  refine ps_callV (b := 0) (As := [.int v]) (st := []) dX5_ifTurned_2 cv_X5_121 rfl ⟨by decide, by decide +kernel⟩ (Nat.le_of_ble_eq_true rfl) (Nat.le_of_ble_eq_true rfl) ?_
  refine c_isTeam hx.1.2.1 ?_
  refine pw_if_ne (tgt := 11) dX5_ifTurned_5 (by decide) (fun h9 => ?_) (fun h9 => ?_)
  · have h1 := kb_ne0.mp h9
    obtain ⟨t, ht, rfl⟩ := (rg_nat (by have := hw.1.t6; omega)).mp h1
    have t6 : t < 6 := Nat.lt_of_lt_of_le ht hw.1.t6
    have htn : iN (nI t) = t := iN_nI (by omega)
    have hT := hx.1.2.2.2.2 t ht
    have hW := hw.1.tm ht
    refine pw_iload_n dX5_ifTurned_11 rfl ?_
    refine pw_if_lt (tgt := 35) dX5_ifTurned_12 (by decide) (fun h2 => ?_) (fun h2 => ?_)
    · refine pw_ldc dX5_ifTurned_35 kc_X5_52 ?_
      have e9 : o_ifTurned c (nI t) w = ((-100002), c) := by
        unfold o_ifTurned
        rw [if_pos h1, if_neg (fun q => q.1 h2)]
      rw [e9] at hf
      exact ps_iret dX5_ifTurned_37 rfl (rfl) (hf _ hx SM.rfl)
    · refine pw_iload_n dX5_ifTurned_15 rfl ?_
      refine pw_if_le (tgt := 38) dX5_ifTurned_16 (by decide) (fun h4 => ?_) (fun h4 => ?_)
      · have h3 : ¬ w < 0 ∧ (w ≤ 0 ∨ w < nI (na c (39 + 12 * t))) := ⟨h2, Or.inl h4⟩
        obtain ⟨b, hb8, rfl⟩ : ∃ b, b ≤ 8 ∧ w = nI b := ⟨0, by decide, by have : w = 0 := Int32.le_antisymm h4 (Int32.not_lt.mp h2); rw [this, nI_0]⟩
        have hbn : iN (nI b) = b := iN_nI (by omega)
        refine pw_aload_n dX5_ifTurned_38 rfl ?_
        refine ps_getr (r := 19) dX5_ifTurned_39 kf_X5_16 (by decide) (by decide +kernel) ?_
        refine pw_aload_n dX5_ifTurned_42 rfl ?_
        refine ps_getr (r := 1) dX5_ifTurned_43 kf_X5_10 (by decide) (by decide +kernel) ?_
        refine ps_callV (b := 19) (As := [.ref 1]) (st := []) dX5_ifTurned_46 cv_X5_241 rfl ⟨by decide, by decide +kernel⟩ (Nat.le_of_ble_eq_true rfl) (Nat.le_of_ble_eq_true rfl) ?_
        refine c_S_copyFrom (s := 19) (o := 1) isS_19 isS_1 (by decide) ?_
        intro ν hν
        have hrs : RS ν 19 (na c) := hν.RS hw.1.t6 hx.1
        have hT2 := hrs.2.2.2.2 t ht
        show PS l E D cA mX5_ifTurned (d + 5) fin 49 [some (.ref 0), some (.int (nI t)), some (.int (nI b))] [] ν
        refine pw_aload_n dX5_ifTurned_49 rfl ?_
        refine ps_getr (r := 19) dX5_ifTurned_50 kf_X5_16 (by decide) (by decide +kernel) ?_
        refine ps_getr (r := 24) dX5_ifTurned_53 kf_X5_102 (by decide) (by decide +kernel) ?_
        refine pw_iload_n dX5_ifTurned_56 rfl ?_
        refine ps_aald (t := 5) (j := t) (r := 25 + 2 * t) dX5_ifTurned_57 rfl (ok_T (by unfold isS; decide : isS 19) (by omega)).1 (by decide) ?_
        refine pw_iload_n dX5_ifTurned_58 rfl ?_
        refine ps_callV (b := 25 + 2 * t) (As := [.int (nI b)]) (st := []) dX5_ifTurned_59 cv_X5_140 rfl ⟨(okk_of (ok_T (by unfold isS; decide : isS 19) (by omega)).2.1).1, (okk_of (ok_T (by unfold isS; decide : isS 19) (by omega)).2.1).2.1⟩ (Nat.le_of_ble_eq_true rfl) (Nat.le_of_ble_eq_true rfl) ?_
        refine c_T_turn (s := 19) (f := fun k => na c (40 + 12 * t + k)) isS_19 t6 hb8 hT2.1 hW.2.2.2.1 hT2.2.2.2.2 ?_
        intro κ k1 k2
        have wfb : Wf (trn (na c) t b) := wf_rt hw.1 ht (fun k hk => hW.2.2.2.2 _ (Nat.mod_lt _ (by omega)))
        have h3' : trn (na c) t b 3 = na c 3 := by unfold trn; rw [rt_n (by omega)]
        have hrs2 : RS κ 19 (trn (na c) t b) := RS.route ht hw.1 hrs k1 k2
        show PS l E D cA mX5_ifTurned (d + 5) fin 62 [some (.ref 0), some (.int (nI t)), some (.int (nI b))] [] κ
        refine pw_aload_n dX5_ifTurned_62 rfl ?_
        refine ps_getr (r := 37) dX5_ifTurned_63 kf_X5_22 (by decide) (by decide +kernel) ?_
        refine pw_aload_n dX5_ifTurned_66 rfl ?_
        refine ps_getr (r := 19) dX5_ifTurned_67 kf_X5_16 (by decide) (by decide +kernel) ?_
        refine pw_aload_n dX5_ifTurned_70 rfl ?_
        refine ps_getr (r := 19) dX5_ifTurned_71 kf_X5_16 (by decide) (by decide +kernel) ?_
        refine ps_geti (x := nI (na c 3)) dX5_ifTurned_74 kf_X5_98 (by decide) (by decide +kernel) (hrs2.2.1.trans (by rw [h3'])) ?_
        refine ps_callV (b := 37) (As := [.ref 19, .int (nI (na c 3))]) (st := []) dX5_ifTurned_77 cv_X5_247 rfl ⟨by decide, by decide +kernel⟩ (Nat.le_of_ble_eq_true rfl) (Nat.le_of_ble_eq_true rfl) ?_
        refine c_play (a := trn (na c) t b) isS_19 wfb (Nat.le_of_eq h3'.symm) hrs2 ?_
        intro ρ p1 p2 p3
        show PS l E D cA mX5_ifTurned (d + 5) fin 80 [some (.ref 0), some (.int (nI t)), some (.int (nI b))] [] ρ
        refine pw_aload_n dX5_ifTurned_80 rfl ?_
        refine ps_getr (r := 37) dX5_ifTurned_81 kf_X5_22 (by decide) (by decide +kernel) ?_
        refine ps_callV (b := 37) (As := []) (st := []) dX5_ifTurned_84 cv_X5_162 rfl ⟨by decide, by decide +kernel⟩ (Nat.le_of_ble_eq_true rfl) (Nat.le_of_ble_eq_true rfl) ?_
        refine c_pairs wfb (Nat.le_of_eq h3'.symm) p1 ?_
        have e9 : o_ifTurned c (nI t) (nI b) = (nI (prs (mt (trn (na c) t b) (na c 3)) (na c 3) (na c 3)), c) := by
          unfold o_ifTurned
          rw [if_pos h1, htn, if_pos h3, hbn]
        rw [e9] at hf
        have fr : ∀ q k, ¬ (19 ≤ q ∧ q < 77) → ρ q k = μ q k := fun q k g => by
          rw [p3 q k (by omega), k1 q k (by omega)]
          exact hν.1 q k (by omega)
        exact ps_iret dX5_ifTurned_87 rfl (rfl) (hf ρ (hx.off hw (fun q k g1 g2 => fr q k g1)) (fun q k g => fr q k (by omega)))
      · refine pw_iload_n dX5_ifTurned_19 rfl ?_
        refine pw_aload_n dX5_ifTurned_20 rfl ?_
        refine ps_getr (r := 1) dX5_ifTurned_21 kf_X5_10 (by decide) (by decide +kernel) ?_
        refine ps_getr (r := 6) dX5_ifTurned_24 kf_X5_102 (by decide) (by decide +kernel) ?_
        refine pw_iload_n dX5_ifTurned_27 rfl ?_
        refine ps_aald (t := 5) (j := t) (r := 7 + 2 * t) dX5_ifTurned_28 rfl (ok_T (by unfold isS; decide : isS 1) (by omega)).1 (by decide) ?_
        refine ps_geti (x := nI (na c (39 + 12 * t))) dX5_ifTurned_29 kf_X5_137 (by decide) ((ok_T (by unfold isS; decide : isS 1) (by omega)).2.2.1) (hT.1) ?_
        refine pw_icmp_lt (tgt := 38) dX5_ifTurned_32 (by decide) (fun h5 => ?_) (fun h5 => ?_)
        · have h3 : ¬ w < 0 ∧ (w ≤ 0 ∨ w < nI (na c (39 + 12 * t))) := ⟨h2, Or.inr h5⟩
          obtain ⟨b, hb8, rfl⟩ : ∃ b, b ≤ 8 ∧ w = nI b := by
            obtain ⟨b, -, hb2, e⟩ := rg_lt (lo := 0) (by decide) (by omega) (by rw [nI_0]; exact h2) h5
            exact ⟨b, by omega, e⟩
          have hbn : iN (nI b) = b := iN_nI (by omega)
          refine pw_aload_n dX5_ifTurned_38 rfl ?_
          refine ps_getr (r := 19) dX5_ifTurned_39 kf_X5_16 (by decide) (by decide +kernel) ?_
          refine pw_aload_n dX5_ifTurned_42 rfl ?_
          refine ps_getr (r := 1) dX5_ifTurned_43 kf_X5_10 (by decide) (by decide +kernel) ?_
          refine ps_callV (b := 19) (As := [.ref 1]) (st := []) dX5_ifTurned_46 cv_X5_241 rfl ⟨by decide, by decide +kernel⟩ (Nat.le_of_ble_eq_true rfl) (Nat.le_of_ble_eq_true rfl) ?_
          refine c_S_copyFrom (s := 19) (o := 1) isS_19 isS_1 (by decide) ?_
          intro ν hν
          have hrs : RS ν 19 (na c) := hν.RS hw.1.t6 hx.1
          have hT2 := hrs.2.2.2.2 t ht
          show PS l E D cA mX5_ifTurned (d + 5) fin 49 [some (.ref 0), some (.int (nI t)), some (.int (nI b))] [] ν
          refine pw_aload_n dX5_ifTurned_49 rfl ?_
          refine ps_getr (r := 19) dX5_ifTurned_50 kf_X5_16 (by decide) (by decide +kernel) ?_
          refine ps_getr (r := 24) dX5_ifTurned_53 kf_X5_102 (by decide) (by decide +kernel) ?_
          refine pw_iload_n dX5_ifTurned_56 rfl ?_
          refine ps_aald (t := 5) (j := t) (r := 25 + 2 * t) dX5_ifTurned_57 rfl (ok_T (by unfold isS; decide : isS 19) (by omega)).1 (by decide) ?_
          refine pw_iload_n dX5_ifTurned_58 rfl ?_
          refine ps_callV (b := 25 + 2 * t) (As := [.int (nI b)]) (st := []) dX5_ifTurned_59 cv_X5_140 rfl ⟨(okk_of (ok_T (by unfold isS; decide : isS 19) (by omega)).2.1).1, (okk_of (ok_T (by unfold isS; decide : isS 19) (by omega)).2.1).2.1⟩ (Nat.le_of_ble_eq_true rfl) (Nat.le_of_ble_eq_true rfl) ?_
          refine c_T_turn (s := 19) (f := fun k => na c (40 + 12 * t + k)) isS_19 t6 hb8 hT2.1 hW.2.2.2.1 hT2.2.2.2.2 ?_
          intro κ k1 k2
          have wfb : Wf (trn (na c) t b) := wf_rt hw.1 ht (fun k hk => hW.2.2.2.2 _ (Nat.mod_lt _ (by omega)))
          have h3' : trn (na c) t b 3 = na c 3 := by unfold trn; rw [rt_n (by omega)]
          have hrs2 : RS κ 19 (trn (na c) t b) := RS.route ht hw.1 hrs k1 k2
          show PS l E D cA mX5_ifTurned (d + 5) fin 62 [some (.ref 0), some (.int (nI t)), some (.int (nI b))] [] κ
          refine pw_aload_n dX5_ifTurned_62 rfl ?_
          refine ps_getr (r := 37) dX5_ifTurned_63 kf_X5_22 (by decide) (by decide +kernel) ?_
          refine pw_aload_n dX5_ifTurned_66 rfl ?_
          refine ps_getr (r := 19) dX5_ifTurned_67 kf_X5_16 (by decide) (by decide +kernel) ?_
          refine pw_aload_n dX5_ifTurned_70 rfl ?_
          refine ps_getr (r := 19) dX5_ifTurned_71 kf_X5_16 (by decide) (by decide +kernel) ?_
          refine ps_geti (x := nI (na c 3)) dX5_ifTurned_74 kf_X5_98 (by decide) (by decide +kernel) (hrs2.2.1.trans (by rw [h3'])) ?_
          refine ps_callV (b := 37) (As := [.ref 19, .int (nI (na c 3))]) (st := []) dX5_ifTurned_77 cv_X5_247 rfl ⟨by decide, by decide +kernel⟩ (Nat.le_of_ble_eq_true rfl) (Nat.le_of_ble_eq_true rfl) ?_
          refine c_play (a := trn (na c) t b) isS_19 wfb (Nat.le_of_eq h3'.symm) hrs2 ?_
          intro ρ p1 p2 p3
          show PS l E D cA mX5_ifTurned (d + 5) fin 80 [some (.ref 0), some (.int (nI t)), some (.int (nI b))] [] ρ
          refine pw_aload_n dX5_ifTurned_80 rfl ?_
          refine ps_getr (r := 37) dX5_ifTurned_81 kf_X5_22 (by decide) (by decide +kernel) ?_
          refine ps_callV (b := 37) (As := []) (st := []) dX5_ifTurned_84 cv_X5_162 rfl ⟨by decide, by decide +kernel⟩ (Nat.le_of_ble_eq_true rfl) (Nat.le_of_ble_eq_true rfl) ?_
          refine c_pairs wfb (Nat.le_of_eq h3'.symm) p1 ?_
          have e9 : o_ifTurned c (nI t) (nI b) = (nI (prs (mt (trn (na c) t b) (na c 3)) (na c 3) (na c 3)), c) := by
            unfold o_ifTurned
            rw [if_pos h1, htn, if_pos h3, hbn]
          rw [e9] at hf
          have fr : ∀ q k, ¬ (19 ≤ q ∧ q < 77) → ρ q k = μ q k := fun q k g => by
            rw [p3 q k (by omega), k1 q k (by omega)]
            exact hν.1 q k (by omega)
          exact ps_iret dX5_ifTurned_87 rfl (rfl) (hf ρ (hx.off hw (fun q k g1 g2 => fr q k g1)) (fun q k g => fr q k (by omega)))
        · refine pw_ldc dX5_ifTurned_35 kc_X5_52 ?_
          have e9 : o_ifTurned c (nI t) w = ((-100002), c) := by
            unfold o_ifTurned
            rw [if_pos h1, htn, if_neg (fun q => q.2.elim h4 h5)]
          rw [e9] at hf
          exact ps_iret dX5_ifTurned_37 rfl (rfl) (hf _ hx SM.rfl)
  · have h1 := kb_eq0.mp h9
    refine pw_ldc dX5_ifTurned_8 kc_X5_71 ?_
    have e9 : o_ifTurned c v w = ((-100001), c) := by
      unfold o_ifTurned
      rw [if_neg h1]
    rw [e9] at hf
    exact ps_iret dX5_ifTurned_10 rfl (rfl) (hf _ hx SM.rfl)
end WHATIF
