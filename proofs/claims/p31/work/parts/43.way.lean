/-! the law: one team, its way -/
/-- the law's rows and the state: routes, hints, lost maps -/
def LI (c : CS) (r h lo : Nat → Int32) : Prop := ∀ t, t < na c 3 → (∀ k, k < 8 → r (8 * t + k) = if k < na c (39 + 12 * t) then nI (na c (40 + 12 * t + k)) else -1) ∧ h t = nI (na c (37 + 12 * t)) ∧ lo t = nI (na c (38 + 12 * t)) - nI 1
def tn (a : AS) (t i : Nat) : Nat := (trp a t i).length
theorem tn_end {a : AS} {t : Nat} : tn a t (a (39 + 12 * t)) = tl a t := rfl
theorem tn_0 {a : AS} {t : Nat} : tn a t 0 = 0 := rfl
theorem tn_o {a : AS} {t i : Nat} (h : a (7 + 4 * a (40 + 12 * t + i)) = 0) : tn a t (i + 1) = tn a t i + 1 := by
  unfold tn
  rw [trp_s, if_pos h, List.length_append]
  rfl
theorem tn_c {a : AS} {t i : Nat} (h : ¬ a (7 + 4 * a (40 + 12 * t + i)) = 0) : tn a t (i + 1) = tn a t i := by
  unfold tn
  rw [trp_s, if_neg h, List.append_nil]
theorem wk_mul {a : AS} {t n : Nat} : (dist (px a (trv a t n)) (pvx a t n) + dist (py a (trv a t n)) (pvy a t n)) * slo a t n = wk a t n := Nat.mul_comm _ _
theorem lost_is : ∀ m, m < 9 → ∀ p, p < 8 → (nI m - nI 1 = nI p ↔ p + 1 = m) := by decide +kernel
theorem hnt_is {a : AS} {t p : Nat} : hnt a t p = true ↔ a (37 + 12 * t) / 2 ^ p % 2 = 1 := by
  unfold hnt
  simp
theorem lk_y {a : AS} {t p : Nat} (h : hnt a t p = true) : a (6 + 4 * p) / 2 + a (6 + 4 * p) % 2 = lk a t p := by
  unfold lk
  rw [if_pos (hnt_is.mp h)]
  omega
theorem lk_n {a : AS} {t p : Nat} (h : ¬ hnt a t p = true) : a (6 + 4 * p) = lk a t p := by
  unfold lk
  rw [if_neg (fun q => h (hnt_is.mpr q))]
section WAY
variable {l : Launch} {E : EV} {D : va_G} {cA : Nat → ClassId} {fin : Option Value → Mu → List PE → Prop} {μ : Mu} {Y : List PE} {d : Nat}
set_option maxRecDepth 100000 in
set_option maxHeartbeats 4000000 in
theorem w_way_o {c : CS} (hw : CW c) (hx : CX μ c) {r h lo : Nat → Int32} (h0 : Y[0]? = some (yr r 48)) (h1 : Y[1]? = some (yr h 6)) (h2 : Y[2]? = some (yr lo 6)) (hL : LI c r h lo) {t : Nat} (ht : t < na c 3) {i n : Nat} (hi : i < na c (39 + 12 * t)) (hn : n < tl (na c) t) {l16 l17 l18 l19 l20 l21 : Option Value} (ih : ∀ (ν : Mu) (l15 l16 l17 l18 l19 l20 l21 : Option Value), CX ν c → PL l E D cA Y.length (kv_sum Y) mL_way (d + 6) fin 36 [some (.ref 0), some (.ref (227 + 0)), some (.ref (227 + 1)), some (.ref (227 + 2)), some (.int (nI t)), some (.int (nI (ato (na c) (na c 3) t (n + 1)))), some (.int (nI (n + 1))), some (.int (nI (i + 1))), some (.int (nI (pvx (na c) t (n + 1)))), some (.int (nI (pvy (na c) t (n + 1)))), some (.int (nI (wd (na c) t (n + 1)))), some (.int (nI (qd (na c) (na c 3) t (n + 1)))), some (.int (nI (hd (na c) t (n + 1)))), some (.int (kb (lob (na c) t (n + 1) = true))), some (.int (nI (i + 1))), l15, l16, l17, l18, l19, l20, l21] [] ν Y) : PL l E D cA Y.length (kv_sum Y) mL_way (d + 6) fin 84 [some (.ref 0), some (.ref (227 + 0)), some (.ref (227 + 1)), some (.ref (227 + 2)), some (.int (nI t)), some (.int (nI (ato (na c) (na c 3) t n))), some (.int (nI n)), some (.int (nI (i + 1))), some (.int (nI (pvx (na c) t n))), some (.int (nI (pvy (na c) t n))), some (.int (nI (wd (na c) t n))), some (.int (nI (qd (na c) (na c 3) t n))), some (.int (nI (hd (na c) t n))), some (.int (kb (lob (na c) t n = true))), some (.int (nI i)), some (.int (nI (trv (na c) t n))), l16, l17, l18, l19, l20, l21] [] μ Y := by
  have h6 := hw.1.t6
  obtain ⟨g1, g2, g3, g4, g5⟩ := hw.1.tm ht
  have hp8 := trv_lt hw.1 ht hn
  have h8 := tl_le hw.1 ht
  obtain ⟨p1, p2, p3, p4⟩ := hw.1.pl hp8
  have hwk := wk_le hw.1 ht hn
  obtain ⟨v1, v2, v3, v4, v5⟩ := V_eq hw.1 (Nat.le_refl _) ht hn
  have hat := ato_mx hw.1 (Nat.le_refl _) ht (v := n) (by omega)
  have hwd : wd (na c) t n ≤ 2000 := Nat.le_trans (smN_le (c := 200) (fun i hi => wk_le hw.1 ht (by omega))) (by omega)
  have hqd : qd (na c) (na c 3) t n ≤ 100000 := Nat.le_trans (smN_le (c := 10520) (fun i hi => by have := (V_eq hw.1 (Nat.le_refl _) ht (v := i) (by omega)); have h9 := this.2.2.2.2; have h10 := this.2.1; omega)) (by omega)
  have hhd : hd (na c) t n ≤ 8 := Nat.le_trans (cntN_le n) (by omega)
  have hpv : pvx (na c) t n ≤ 20 ∧ pvy (na c) t n ≤ 20 := by
    unfold pvx pvy
    split
    · exact ⟨Nat.zero_le _, Nat.zero_le _⟩
    · have q := hw.1.pl (trv_lt hw.1 ht (v := n - 1) (by omega))
      exact ⟨q.1, q.2.1⟩
  have hds : dist (px (na c) (trv (na c) t n)) (pvx (na c) t n) + dist (py (na c) (trv (na c) t n)) (pvy (na c) t n) ≤ 40 := by
    simp only [dist, px, py]
    omega
  have hsl : slo (na c) t n ≤ 5 := by
    unfold slo
    split
    · exact hw.1.2.2.1.2
    · decide
  have hset := hw.1.2.2.1
  have k392 : ∀ ν : Mu, CX ν c → PL l E D cA Y.length (kv_sum Y) mL_way (d + 6) fin 392 [some (.ref 0), some (.ref (227 + 0)), some (.ref (227 + 1)), some (.ref (227 + 2)), some (.int (nI t)), some (.int (nI (ato (na c) (na c 3) t n))), some (.int (nI n)), some (.int (nI (i + 1))), some (.int (nI (pvx (na c) t n))), some (.int (nI (pvy (na c) t n))), some (.int (nI (wd (na c) t n + (wk (na c) t n)))), some (.int (nI (qd (na c) (na c 3) t n + (BG (na c) (na c 3) t n - CM (na c) (na c 3) t n)))), some (.int (nI (hd (na c) t n))), some (.int (kb (lob (na c) t (n + 1) = true))), some (.int (nI i)), some (.int (nI (trv (na c) t n))), some (.int (nI (wk (na c) t n))), some (.int (nI (na c (6 + 4 * (trv (na c) t n))))), some (.int (kb (hnt (na c) t (trv (na c) t n) = true))), some (.int (nI (CM (na c) (na c 3) t n))), some (.int (nI (BG (na c) (na c 3) t n))), some (.int (nI (EN (na c) (na c 3) t n)))] [.int (nI (if hnt (na c) t (trv (na c) t n) = true then 1 else 0)), .int (nI (hd (na c) t n))] ν Y := by
    intro ν hν
    refine px_iaddn (c := hd (na c) t (n + 1)) dL_way_392 rfl ?_
    refine px_istore (ls' := [some (.ref 0), some (.ref (227 + 0)), some (.ref (227 + 1)), some (.ref (227 + 2)), some (.int (nI t)), some (.int (nI (ato (na c) (na c 3) t n))), some (.int (nI n)), some (.int (nI (i + 1))), some (.int (nI (pvx (na c) t n))), some (.int (nI (pvy (na c) t n))), some (.int (nI (wd (na c) t n + (wk (na c) t n)))), some (.int (nI (qd (na c) (na c 3) t n + (BG (na c) (na c 3) t n - CM (na c) (na c 3) t n)))), some (.int (nI (hd (na c) t (n + 1)))), some (.int (kb (lob (na c) t (n + 1) = true))), some (.int (nI i)), some (.int (nI (trv (na c) t n))), some (.int (nI (wk (na c) t n))), some (.int (nI (na c (6 + 4 * (trv (na c) t n))))), some (.int (kb (hnt (na c) t (trv (na c) t n) = true))), some (.int (nI (CM (na c) (na c 3) t n))), some (.int (nI (BG (na c) (na c 3) t n))), some (.int (nI (EN (na c) (na c 3) t n)))]) dL_way_393 rfl rfl (by decide) ?_
    refine pw_iload dL_way_395 rfl ?_
    refine px_istore (ls' := [some (.ref 0), some (.ref (227 + 0)), some (.ref (227 + 1)), some (.ref (227 + 2)), some (.int (nI t)), some (.int (nI (EN (na c) (na c 3) t n))), some (.int (nI n)), some (.int (nI (i + 1))), some (.int (nI (pvx (na c) t n))), some (.int (nI (pvy (na c) t n))), some (.int (nI (wd (na c) t n + (wk (na c) t n)))), some (.int (nI (qd (na c) (na c 3) t n + (BG (na c) (na c 3) t n - CM (na c) (na c 3) t n)))), some (.int (nI (hd (na c) t (n + 1)))), some (.int (kb (lob (na c) t (n + 1) = true))), some (.int (nI i)), some (.int (nI (trv (na c) t n))), some (.int (nI (wk (na c) t n))), some (.int (nI (na c (6 + 4 * (trv (na c) t n))))), some (.int (kb (hnt (na c) t (trv (na c) t n) = true))), some (.int (nI (CM (na c) (na c 3) t n))), some (.int (nI (BG (na c) (na c 3) t n))), some (.int (nI (EN (na c) (na c 3) t n)))]) dL_way_397 rfl rfl (by decide) ?_
    refine pw_aload_n dL_way_399 rfl ?_
    refine pw_iload dL_way_400 rfl ?_
    refine pw_iconst_ (v := nI 0) dL_way_402 (by decide) ?_
    refine pl_callV (b := 0) (As := [.int (nI (trv (na c) t n)), .int (nI 0)]) (st := []) dL_way_403 cv_L_15 rfl ⟨by decide, by decide +kernel⟩ (Nat.le_of_ble_eq_true rfl) (Nat.le_of_ble_eq_true rfl) (Nat.le_refl _) (Nat.le_refl _) ?_
    refine l_placeOf (x := nI (px (na c) (trv (na c) t n))) hw hν hp8 (by decide) rfl (fun ν1 hx1 => ?_)
    show PL l E D cA Y.length (kv_sum Y) mL_way (d + 6) fin 406 [some (.ref 0), some (.ref (227 + 0)), some (.ref (227 + 1)), some (.ref (227 + 2)), some (.int (nI t)), some (.int (nI (EN (na c) (na c 3) t n))), some (.int (nI n)), some (.int (nI (i + 1))), some (.int (nI (pvx (na c) t n))), some (.int (nI (pvy (na c) t n))), some (.int (nI (wd (na c) t n + (wk (na c) t n)))), some (.int (nI (qd (na c) (na c 3) t n + (BG (na c) (na c 3) t n - CM (na c) (na c 3) t n)))), some (.int (nI (hd (na c) t (n + 1)))), some (.int (kb (lob (na c) t (n + 1) = true))), some (.int (nI i)), some (.int (nI (trv (na c) t n))), some (.int (nI (wk (na c) t n))), some (.int (nI (na c (6 + 4 * (trv (na c) t n))))), some (.int (kb (hnt (na c) t (trv (na c) t n) = true))), some (.int (nI (CM (na c) (na c 3) t n))), some (.int (nI (BG (na c) (na c 3) t n))), some (.int (nI (EN (na c) (na c 3) t n)))] [.int (nI (px (na c) (trv (na c) t n)))] ν1 Y
    refine px_istore (ls' := [some (.ref 0), some (.ref (227 + 0)), some (.ref (227 + 1)), some (.ref (227 + 2)), some (.int (nI t)), some (.int (nI (EN (na c) (na c 3) t n))), some (.int (nI n)), some (.int (nI (i + 1))), some (.int (nI (px (na c) (trv (na c) t n)))), some (.int (nI (pvy (na c) t n))), some (.int (nI (wd (na c) t n + (wk (na c) t n)))), some (.int (nI (qd (na c) (na c 3) t n + (BG (na c) (na c 3) t n - CM (na c) (na c 3) t n)))), some (.int (nI (hd (na c) t (n + 1)))), some (.int (kb (lob (na c) t (n + 1) = true))), some (.int (nI i)), some (.int (nI (trv (na c) t n))), some (.int (nI (wk (na c) t n))), some (.int (nI (na c (6 + 4 * (trv (na c) t n))))), some (.int (kb (hnt (na c) t (trv (na c) t n) = true))), some (.int (nI (CM (na c) (na c 3) t n))), some (.int (nI (BG (na c) (na c 3) t n))), some (.int (nI (EN (na c) (na c 3) t n)))]) dL_way_406 rfl rfl (by decide) ?_
    refine pw_aload_n dL_way_408 rfl ?_
    refine pw_iload dL_way_409 rfl ?_
    refine pw_iconst_ (v := nI 1) dL_way_411 (by decide) ?_
    refine pl_callV (b := 0) (As := [.int (nI (trv (na c) t n)), .int (nI 1)]) (st := []) dL_way_412 cv_L_15 rfl ⟨by decide, by decide +kernel⟩ (Nat.le_of_ble_eq_true rfl) (Nat.le_of_ble_eq_true rfl) (Nat.le_refl _) (Nat.le_refl _) ?_
    refine l_placeOf (x := nI (py (na c) (trv (na c) t n))) hw hx1 hp8 (by decide) rfl (fun ν2 hx2 => ?_)
    show PL l E D cA Y.length (kv_sum Y) mL_way (d + 6) fin 415 [some (.ref 0), some (.ref (227 + 0)), some (.ref (227 + 1)), some (.ref (227 + 2)), some (.int (nI t)), some (.int (nI (EN (na c) (na c 3) t n))), some (.int (nI n)), some (.int (nI (i + 1))), some (.int (nI (px (na c) (trv (na c) t n)))), some (.int (nI (pvy (na c) t n))), some (.int (nI (wd (na c) t n + (wk (na c) t n)))), some (.int (nI (qd (na c) (na c 3) t n + (BG (na c) (na c 3) t n - CM (na c) (na c 3) t n)))), some (.int (nI (hd (na c) t (n + 1)))), some (.int (kb (lob (na c) t (n + 1) = true))), some (.int (nI i)), some (.int (nI (trv (na c) t n))), some (.int (nI (wk (na c) t n))), some (.int (nI (na c (6 + 4 * (trv (na c) t n))))), some (.int (kb (hnt (na c) t (trv (na c) t n) = true))), some (.int (nI (CM (na c) (na c 3) t n))), some (.int (nI (BG (na c) (na c 3) t n))), some (.int (nI (EN (na c) (na c 3) t n)))] [.int (nI (py (na c) (trv (na c) t n)))] ν2 Y
    refine px_istore (ls' := [some (.ref 0), some (.ref (227 + 0)), some (.ref (227 + 1)), some (.ref (227 + 2)), some (.int (nI t)), some (.int (nI (EN (na c) (na c 3) t n))), some (.int (nI n)), some (.int (nI (i + 1))), some (.int (nI (px (na c) (trv (na c) t n)))), some (.int (nI (py (na c) (trv (na c) t n)))), some (.int (nI (wd (na c) t n + (wk (na c) t n)))), some (.int (nI (qd (na c) (na c 3) t n + (BG (na c) (na c 3) t n - CM (na c) (na c 3) t n)))), some (.int (nI (hd (na c) t (n + 1)))), some (.int (kb (lob (na c) t (n + 1) = true))), some (.int (nI i)), some (.int (nI (trv (na c) t n))), some (.int (nI (wk (na c) t n))), some (.int (nI (na c (6 + 4 * (trv (na c) t n))))), some (.int (kb (hnt (na c) t (trv (na c) t n) = true))), some (.int (nI (CM (na c) (na c 3) t n))), some (.int (nI (BG (na c) (na c 3) t n))), some (.int (nI (EN (na c) (na c 3) t n)))]) dL_way_415 rfl rfl (by decide) ?_
    refine px_iincn (n := 1) (a := n) (b := n + 1) (ls' := [some (.ref 0), some (.ref (227 + 0)), some (.ref (227 + 1)), some (.ref (227 + 2)), some (.int (nI t)), some (.int (nI (EN (na c) (na c 3) t n))), some (.int (nI (n + 1))), some (.int (nI (i + 1))), some (.int (nI (px (na c) (trv (na c) t n)))), some (.int (nI (py (na c) (trv (na c) t n)))), some (.int (nI (wd (na c) t n + (wk (na c) t n)))), some (.int (nI (qd (na c) (na c 3) t n + (BG (na c) (na c 3) t n - CM (na c) (na c 3) t n)))), some (.int (nI (hd (na c) t (n + 1)))), some (.int (kb (lob (na c) t (n + 1) = true))), some (.int (nI i)), some (.int (nI (trv (na c) t n))), some (.int (nI (wk (na c) t n))), some (.int (nI (na c (6 + 4 * (trv (na c) t n))))), some (.int (kb (hnt (na c) t (trv (na c) t n) = true))), some (.int (nI (CM (na c) (na c 3) t n))), some (.int (nI (BG (na c) (na c 3) t n))), some (.int (nI (EN (na c) (na c 3) t n)))]) dL_way_417 rfl rfl rfl (by omega) ?_
    refine px_iincn (n := 1) (a := i) (b := i + 1) (ls' := [some (.ref 0), some (.ref (227 + 0)), some (.ref (227 + 1)), some (.ref (227 + 2)), some (.int (nI t)), some (.int (nI (EN (na c) (na c 3) t n))), some (.int (nI (n + 1))), some (.int (nI (i + 1))), some (.int (nI (px (na c) (trv (na c) t n)))), some (.int (nI (py (na c) (trv (na c) t n)))), some (.int (nI (wd (na c) t n + (wk (na c) t n)))), some (.int (nI (qd (na c) (na c 3) t n + (BG (na c) (na c 3) t n - CM (na c) (na c 3) t n)))), some (.int (nI (hd (na c) t (n + 1)))), some (.int (kb (lob (na c) t (n + 1) = true))), some (.int (nI (i + 1))), some (.int (nI (trv (na c) t n))), some (.int (nI (wk (na c) t n))), some (.int (nI (na c (6 + 4 * (trv (na c) t n))))), some (.int (kb (hnt (na c) t (trv (na c) t n) = true))), some (.int (nI (CM (na c) (na c 3) t n))), some (.int (nI (BG (na c) (na c 3) t n))), some (.int (nI (EN (na c) (na c 3) t n)))]) dL_way_420 rfl rfl rfl (by omega) ?_
    refine pw_goto (tgt := 36) dL_way_423 (by decide) ?_
    exact ih _ _ _ _ _ _ _ _ hx2
  have k361 : ∀ ν : Mu, CX ν c → PL l E D cA Y.length (kv_sum Y) mL_way (d + 6) fin 361 [some (.ref 0), some (.ref (227 + 0)), some (.ref (227 + 1)), some (.ref (227 + 2)), some (.int (nI t)), some (.int (nI (ato (na c) (na c 3) t n))), some (.int (nI n)), some (.int (nI (i + 1))), some (.int (nI (pvx (na c) t n))), some (.int (nI (pvy (na c) t n))), some (.int (nI (wd (na c) t n))), some (.int (nI (qd (na c) (na c 3) t n))), some (.int (nI (hd (na c) t n))), some (.int (kb (lob (na c) t n = true))), some (.int (nI i)), some (.int (nI (trv (na c) t n))), some (.int (nI (wk (na c) t n))), some (.int (nI (na c (6 + 4 * (trv (na c) t n))))), some (.int (kb (hnt (na c) t (trv (na c) t n) = true))), some (.int (nI (CM (na c) (na c 3) t n))), some (.int (nI (BG (na c) (na c 3) t n))), some (.int (nI (EN (na c) (na c 3) t n)))] [.int (kb (lob (na c) t (n + 1) = true))] ν Y := by
    intro ν hν
    refine px_istore (ls' := [some (.ref 0), some (.ref (227 + 0)), some (.ref (227 + 1)), some (.ref (227 + 2)), some (.int (nI t)), some (.int (nI (ato (na c) (na c 3) t n))), some (.int (nI n)), some (.int (nI (i + 1))), some (.int (nI (pvx (na c) t n))), some (.int (nI (pvy (na c) t n))), some (.int (nI (wd (na c) t n))), some (.int (nI (qd (na c) (na c 3) t n))), some (.int (nI (hd (na c) t n))), some (.int (kb (lob (na c) t (n + 1) = true))), some (.int (nI i)), some (.int (nI (trv (na c) t n))), some (.int (nI (wk (na c) t n))), some (.int (nI (na c (6 + 4 * (trv (na c) t n))))), some (.int (kb (hnt (na c) t (trv (na c) t n) = true))), some (.int (nI (CM (na c) (na c 3) t n))), some (.int (nI (BG (na c) (na c 3) t n))), some (.int (nI (EN (na c) (na c 3) t n)))]) dL_way_361 rfl rfl (by decide) ?_
    refine pw_iload dL_way_363 rfl ?_
    refine pw_iload dL_way_365 rfl ?_
    refine px_iaddn (c := wd (na c) t n + (wk (na c) t n)) dL_way_367 (by omega) ?_
    refine px_istore (ls' := [some (.ref 0), some (.ref (227 + 0)), some (.ref (227 + 1)), some (.ref (227 + 2)), some (.int (nI t)), some (.int (nI (ato (na c) (na c 3) t n))), some (.int (nI n)), some (.int (nI (i + 1))), some (.int (nI (pvx (na c) t n))), some (.int (nI (pvy (na c) t n))), some (.int (nI (wd (na c) t n + (wk (na c) t n)))), some (.int (nI (qd (na c) (na c 3) t n))), some (.int (nI (hd (na c) t n))), some (.int (kb (lob (na c) t (n + 1) = true))), some (.int (nI i)), some (.int (nI (trv (na c) t n))), some (.int (nI (wk (na c) t n))), some (.int (nI (na c (6 + 4 * (trv (na c) t n))))), some (.int (kb (hnt (na c) t (trv (na c) t n) = true))), some (.int (nI (CM (na c) (na c 3) t n))), some (.int (nI (BG (na c) (na c 3) t n))), some (.int (nI (EN (na c) (na c 3) t n)))]) dL_way_368 rfl rfl (by decide) ?_
    refine pw_iload dL_way_370 rfl ?_
    refine pw_iload dL_way_372 rfl ?_
    refine pw_iload dL_way_374 rfl ?_
    refine pn_isub (by omega) dL_way_376 ?_
    refine px_iaddn (c := qd (na c) (na c 3) t n + (BG (na c) (na c 3) t n - (CM (na c) (na c 3) t n))) dL_way_377 (by omega) ?_
    refine px_istore (ls' := [some (.ref 0), some (.ref (227 + 0)), some (.ref (227 + 1)), some (.ref (227 + 2)), some (.int (nI t)), some (.int (nI (ato (na c) (na c 3) t n))), some (.int (nI n)), some (.int (nI (i + 1))), some (.int (nI (pvx (na c) t n))), some (.int (nI (pvy (na c) t n))), some (.int (nI (wd (na c) t n + (wk (na c) t n)))), some (.int (nI (qd (na c) (na c 3) t n + (BG (na c) (na c 3) t n - (CM (na c) (na c 3) t n))))), some (.int (nI (hd (na c) t n))), some (.int (kb (lob (na c) t (n + 1) = true))), some (.int (nI i)), some (.int (nI (trv (na c) t n))), some (.int (nI (wk (na c) t n))), some (.int (nI (na c (6 + 4 * (trv (na c) t n))))), some (.int (kb (hnt (na c) t (trv (na c) t n) = true))), some (.int (nI (CM (na c) (na c 3) t n))), some (.int (nI (BG (na c) (na c 3) t n))), some (.int (nI (EN (na c) (na c 3) t n)))]) dL_way_378 rfl rfl (by decide) ?_
    refine pw_iload dL_way_380 rfl ?_
    refine pw_iload dL_way_382 rfl ?_
    refine pw_if_eq (tgt := 391) dL_way_384 (by decide) (fun hc => ?_) (fun hc => ?_)
    · have hc2 := kb_eq0.mp hc
      refine pw_iconst_ (v := nI 0) dL_way_391 (by decide) ?_
      have e9 : (if hnt (na c) t (trv (na c) t n) = true then 1 else 0) = 0 := if_neg hc2
      rw [e9] at k392
      exact k392 ν hν
    · have hc2 := kb_ne0.mp hc
      refine pw_iconst_ (v := nI 1) dL_way_387 (by decide) ?_
      refine pw_goto (tgt := 392) dL_way_388 (by decide) ?_
      have e9 : (if hnt (na c) t (trv (na c) t n) = true then 1 else 0) = 1 := if_pos hc2
      rw [e9] at k392
      exact k392 ν hν
  have k342 : ∀ ν : Mu, CX ν c → PL l E D cA Y.length (kv_sum Y) mL_way (d + 6) fin 342 [some (.ref 0), some (.ref (227 + 0)), some (.ref (227 + 1)), some (.ref (227 + 2)), some (.int (nI t)), some (.int (nI (ato (na c) (na c 3) t n))), some (.int (nI n)), some (.int (nI (i + 1))), some (.int (nI (pvx (na c) t n))), some (.int (nI (pvy (na c) t n))), some (.int (nI (wd (na c) t n))), some (.int (nI (qd (na c) (na c 3) t n))), some (.int (nI (hd (na c) t n))), some (.int (kb (lob (na c) t n = true))), some (.int (nI i)), some (.int (nI (trv (na c) t n))), some (.int (nI (wk (na c) t n))), some (.int (nI (na c (6 + 4 * (trv (na c) t n))))), some (.int (kb (hnt (na c) t (trv (na c) t n) = true))), some (.int (nI (CM (na c) (na c 3) t n))), some (.int (nI (BG (na c) (na c 3) t n))), some (.int (nI (EN (na c) (na c 3) t n)))] [] ν Y := by
    intro ν hν
    refine pw_iload dL_way_342 rfl ?_
    refine pw_if_ne (tgt := 356) dL_way_344 (by decide) (fun hc => ?_) (fun hc => ?_)
    · have hc2 := kb_ne0.mp hc
      refine pw_iconst_ (v := nI 1) dL_way_356 (by decide) ?_
      refine pw_goto (tgt := 361) dL_way_357 (by decide) ?_
      have e9 : kb (lob (na c) t (n + 1) = true) = nI 1 := kb_t (by show (lob _ _ _ || _) = true; rw [hc2]; rfl)
      rw [e9] at k361
      exact k361 ν hν
    · have hc2 := kb_eq0.mp hc
      have hl := lost_is _ (show na c (38 + 12 * t) < 9 by omega) _ hp8
      refine pw_aload_n dL_way_347 rfl ?_
      refine pw_iload dL_way_348 rfl ?_
      refine pl_iald (i := 2) (j := t) (n := 6) (f := lo) (x := (nI (na c (38 + 12 * t)) - nI 1)) dL_way_350 rfl (by omega) (by decide) h2 (hL t ht).2.2 ?_
      refine pw_iload dL_way_351 rfl ?_
      refine pw_icmp_ne (tgt := 360) dL_way_353 (by decide) (fun hd => ?_) (fun hd => ?_)
      · refine pw_iconst_ (v := nI 0) dL_way_360 (by decide) ?_
        have e9 : kb (lob (na c) t (n + 1) = true) = nI 0 := kb_f (by show ¬ (lob _ _ _ || _) = true; rw [Bool.or_eq_true]; rintro (q | q); exact hc2 q; exact hd (hl.mpr (by simpa using q)))
        rw [e9] at k361
        exact k361 ν hν
      · refine pw_iconst_ (v := nI 1) dL_way_356 (by decide) ?_
        refine pw_goto (tgt := 361) dL_way_357 (by decide) ?_
        have e9 : kb (lob (na c) t (n + 1) = true) = nI 1 := kb_t (by show (lob _ _ _ || _) = true; rw [Bool.or_eq_true]; right; simp; exact hl.mp hd)
        rw [e9] at k361
        exact k361 ν hν
  have k258 : ∀ ν : Mu, CX ν c → PL l E D cA Y.length (kv_sum Y) mL_way (d + 6) fin 258 [some (.ref 0), some (.ref (227 + 0)), some (.ref (227 + 1)), some (.ref (227 + 2)), some (.int (nI t)), some (.int (nI (ato (na c) (na c 3) t n))), some (.int (nI n)), some (.int (nI (i + 1))), some (.int (nI (pvx (na c) t n))), some (.int (nI (pvy (na c) t n))), some (.int (nI (wd (na c) t n))), some (.int (nI (qd (na c) (na c 3) t n))), some (.int (nI (hd (na c) t n))), some (.int (kb (lob (na c) t n = true))), some (.int (nI i)), some (.int (nI (trv (na c) t n))), some (.int (nI (wk (na c) t n))), some (.int (nI (na c (6 + 4 * (trv (na c) t n))))), some (.int (kb (hnt (na c) t (trv (na c) t n) = true))), some (.int (nI (CM (na c) (na c 3) t n))), some (.int (nI (BG (na c) (na c 3) t n))), some (.int (nI (EN (na c) (na c 3) t n)))] [.int (nI (lk (na c) t (trv (na c) t n))), .int (nI (BG (na c) (na c 3) t n)), .int (nI (EN (na c) (na c 3) t n))] ν Y := by
    intro ν hν
    refine px_iaddn (c := EN (na c) (na c 3) t n) dL_way_258 v2.symm ?_
    refine pn_eq (tgt := 264) dL_way_259 (by decide) (by omega) (by omega) (fun _ => ?_) (fun h9 => absurd rfl h9)
    refine pw_aload_n dL_way_264 rfl ?_
    refine pw_iload dL_way_265 rfl ?_
    refine pw_iload dL_way_267 rfl ?_
    refine pl_callV (b := 0) (As := [.int (nI t), .int (nI (ato (na c) (na c 3) t n))]) (st := []) dL_way_269 cv_L_31 rfl ⟨by decide, by decide +kernel⟩ (Nat.le_of_ble_eq_true rfl) (Nat.le_of_ble_eq_true rfl) (Nat.le_refl _) (Nat.le_refl _) ?_
    refine l_told (x := nI (trv (na c) t n)) hw hν ht (by omega) (by rw [tld_at hw.1 (Nat.le_refl _) ht hn (Nat.le_refl _) (by omega)]; rfl) (fun ν1 hx1 => ?_)
    show PL l E D cA Y.length (kv_sum Y) mL_way (d + 6) fin 272 [some (.ref 0), some (.ref (227 + 0)), some (.ref (227 + 1)), some (.ref (227 + 2)), some (.int (nI t)), some (.int (nI (ato (na c) (na c 3) t n))), some (.int (nI n)), some (.int (nI (i + 1))), some (.int (nI (pvx (na c) t n))), some (.int (nI (pvy (na c) t n))), some (.int (nI (wd (na c) t n))), some (.int (nI (qd (na c) (na c 3) t n))), some (.int (nI (hd (na c) t n))), some (.int (kb (lob (na c) t n = true))), some (.int (nI i)), some (.int (nI (trv (na c) t n))), some (.int (nI (wk (na c) t n))), some (.int (nI (na c (6 + 4 * (trv (na c) t n))))), some (.int (kb (hnt (na c) t (trv (na c) t n) = true))), some (.int (nI (CM (na c) (na c 3) t n))), some (.int (nI (BG (na c) (na c 3) t n))), some (.int (nI (EN (na c) (na c 3) t n)))] [.int (nI (trv (na c) t n))] ν1 Y
    refine pw_iload dL_way_272 rfl ?_
    refine pn_ne (tgt := 340) dL_way_274 (by decide) (by omega) (by omega) (fun h9 => absurd rfl h9) (fun _ => ?_)
    refine pw_aload_n dL_way_277 rfl ?_
    refine pw_iload dL_way_278 rfl ?_
    refine pw_iload dL_way_280 rfl ?_
    refine pl_callV (b := 0) (As := [.int (nI t), .int (nI (CM (na c) (na c 3) t n))]) (st := []) dL_way_282 cv_L_34 rfl ⟨by decide, by decide +kernel⟩ (Nat.le_of_ble_eq_true rfl) (Nat.le_of_ble_eq_true rfl) (Nat.le_refl _) (Nat.le_refl _) ?_
    refine l_where (x := nI (trv (na c) t n)) hw hx1 ht (by omega) (by rw [whr_at hw.1 (Nat.le_refl _) ht hn (Nat.le_refl _) (by omega)]; rfl) (fun ν2 hx2 => ?_)
    show PL l E D cA Y.length (kv_sum Y) mL_way (d + 6) fin 285 [some (.ref 0), some (.ref (227 + 0)), some (.ref (227 + 1)), some (.ref (227 + 2)), some (.int (nI t)), some (.int (nI (ato (na c) (na c 3) t n))), some (.int (nI n)), some (.int (nI (i + 1))), some (.int (nI (pvx (na c) t n))), some (.int (nI (pvy (na c) t n))), some (.int (nI (wd (na c) t n))), some (.int (nI (qd (na c) (na c 3) t n))), some (.int (nI (hd (na c) t n))), some (.int (kb (lob (na c) t n = true))), some (.int (nI i)), some (.int (nI (trv (na c) t n))), some (.int (nI (wk (na c) t n))), some (.int (nI (na c (6 + 4 * (trv (na c) t n))))), some (.int (kb (hnt (na c) t (trv (na c) t n) = true))), some (.int (nI (CM (na c) (na c 3) t n))), some (.int (nI (BG (na c) (na c 3) t n))), some (.int (nI (EN (na c) (na c 3) t n)))] [.int (nI (trv (na c) t n))] ν2 Y
    refine pw_iload dL_way_285 rfl ?_
    refine pn_ne (tgt := 340) dL_way_287 (by decide) (by omega) (by omega) (fun h9 => absurd rfl h9) (fun _ => ?_)
    refine pw_aload_n dL_way_290 rfl ?_
    refine pw_iload dL_way_291 rfl ?_
    refine pw_iload dL_way_293 rfl ?_
    refine pw_iconst_ (v := nI 1) dL_way_295 (by decide) ?_
    refine pn_isub (by omega) dL_way_296 ?_
    refine pl_callV (b := 0) (As := [.int (nI t), .int (nI (EN (na c) (na c 3) t n - 1))]) (st := []) dL_way_297 cv_L_34 rfl ⟨by decide, by decide +kernel⟩ (Nat.le_of_ble_eq_true rfl) (Nat.le_of_ble_eq_true rfl) (Nat.le_refl _) (Nat.le_refl _) ?_
    refine l_where (x := nI (trv (na c) t n)) hw hx2 ht (by omega) (by rw [whr_at hw.1 (Nat.le_refl _) ht hn (by omega) (by omega)]; rfl) (fun ν3 hx3 => ?_)
    show PL l E D cA Y.length (kv_sum Y) mL_way (d + 6) fin 300 [some (.ref 0), some (.ref (227 + 0)), some (.ref (227 + 1)), some (.ref (227 + 2)), some (.int (nI t)), some (.int (nI (ato (na c) (na c 3) t n))), some (.int (nI n)), some (.int (nI (i + 1))), some (.int (nI (pvx (na c) t n))), some (.int (nI (pvy (na c) t n))), some (.int (nI (wd (na c) t n))), some (.int (nI (qd (na c) (na c 3) t n))), some (.int (nI (hd (na c) t n))), some (.int (kb (lob (na c) t n = true))), some (.int (nI i)), some (.int (nI (trv (na c) t n))), some (.int (nI (wk (na c) t n))), some (.int (nI (na c (6 + 4 * (trv (na c) t n))))), some (.int (kb (hnt (na c) t (trv (na c) t n) = true))), some (.int (nI (CM (na c) (na c 3) t n))), some (.int (nI (BG (na c) (na c 3) t n))), some (.int (nI (EN (na c) (na c 3) t n)))] [.int (nI (trv (na c) t n))] ν3 Y
    refine pw_iload dL_way_300 rfl ?_
    refine pn_ne (tgt := 340) dL_way_302 (by decide) (by omega) (by omega) (fun h9 => absurd rfl h9) (fun _ => ?_)
    refine pw_aload_n dL_way_305 rfl ?_
    refine pw_iload dL_way_306 rfl ?_
    refine pw_iload dL_way_308 rfl ?_
    refine pw_iconst_ (v := nI 1) dL_way_310 (by decide) ?_
    refine pn_isub (by omega) dL_way_311 ?_
    refine pl_callV (b := 0) (As := [.int (nI t), .int (nI (EN (na c) (na c 3) t n - 1))]) (st := []) dL_way_312 cv_L_31 rfl ⟨by decide, by decide +kernel⟩ (Nat.le_of_ble_eq_true rfl) (Nat.le_of_ble_eq_true rfl) (Nat.le_refl _) (Nat.le_refl _) ?_
    refine l_told (x := nI (trv (na c) t n)) hw hx3 ht (by omega) (by rw [tld_at hw.1 (Nat.le_refl _) ht hn (by omega) (by omega)]; rfl) (fun ν4 hx4 => ?_)
    show PL l E D cA Y.length (kv_sum Y) mL_way (d + 6) fin 315 [some (.ref 0), some (.ref (227 + 0)), some (.ref (227 + 1)), some (.ref (227 + 2)), some (.int (nI t)), some (.int (nI (ato (na c) (na c 3) t n))), some (.int (nI n)), some (.int (nI (i + 1))), some (.int (nI (pvx (na c) t n))), some (.int (nI (pvy (na c) t n))), some (.int (nI (wd (na c) t n))), some (.int (nI (qd (na c) (na c 3) t n))), some (.int (nI (hd (na c) t n))), some (.int (kb (lob (na c) t n = true))), some (.int (nI i)), some (.int (nI (trv (na c) t n))), some (.int (nI (wk (na c) t n))), some (.int (nI (na c (6 + 4 * (trv (na c) t n))))), some (.int (kb (hnt (na c) t (trv (na c) t n) = true))), some (.int (nI (CM (na c) (na c 3) t n))), some (.int (nI (BG (na c) (na c 3) t n))), some (.int (nI (EN (na c) (na c 3) t n)))] [.int (nI (trv (na c) t n))] ν4 Y
    refine pw_iload dL_way_315 rfl ?_
    refine pn_ne (tgt := 340) dL_way_317 (by decide) (by omega) (by omega) (fun h9 => absurd rfl h9) (fun _ => ?_)
    refine pw_iload dL_way_320 rfl ?_
    refine pw_if_le (tgt := 342) dL_way_322 (by decide) (fun hc => ?_) (fun hc => ?_)
    · exact k342 _ hx4
    · have hpos : 0 < (wk (na c) t n) := Nat.pos_of_ne_zero (fun q => hc (by rw [q]; decide))
      refine pw_aload_n dL_way_325 rfl ?_
      refine pw_iload dL_way_326 rfl ?_
      refine pw_iload dL_way_328 rfl ?_
      refine pw_iconst_ (v := nI 1) dL_way_330 (by decide) ?_
      refine pn_isub (by omega) dL_way_331 ?_
      refine pl_callV (b := 0) (As := [.int (nI t), .int (nI (CM (na c) (na c 3) t n - 1))]) (st := []) dL_way_332 cv_L_34 rfl ⟨by decide, by decide +kernel⟩ (Nat.le_of_ble_eq_true rfl) (Nat.le_of_ble_eq_true rfl) (Nat.le_refl _) (Nat.le_refl _) ?_
      refine l_where (x := (-100006)) hw hx4 ht (by omega) (by rw [whr_walk hw.1 (Nat.le_refl _) ht (v := n) (by omega) (by omega) (fun _ => by omega)]; rfl) (fun ν5 hx5 => ?_)
      show PL l E D cA Y.length (kv_sum Y) mL_way (d + 6) fin 335 [some (.ref 0), some (.ref (227 + 0)), some (.ref (227 + 1)), some (.ref (227 + 2)), some (.int (nI t)), some (.int (nI (ato (na c) (na c 3) t n))), some (.int (nI n)), some (.int (nI (i + 1))), some (.int (nI (pvx (na c) t n))), some (.int (nI (pvy (na c) t n))), some (.int (nI (wd (na c) t n))), some (.int (nI (qd (na c) (na c 3) t n))), some (.int (nI (hd (na c) t n))), some (.int (kb (lob (na c) t n = true))), some (.int (nI i)), some (.int (nI (trv (na c) t n))), some (.int (nI (wk (na c) t n))), some (.int (nI (na c (6 + 4 * (trv (na c) t n))))), some (.int (kb (hnt (na c) t (trv (na c) t n) = true))), some (.int (nI (CM (na c) (na c 3) t n))), some (.int (nI (BG (na c) (na c 3) t n))), some (.int (nI (EN (na c) (na c 3) t n)))] [.int (-100006)] ν5 Y
      refine pw_ldc dL_way_335 kc_L_37 ?_
      refine pw_icmp_eq (tgt := 342) dL_way_337 (by decide) (fun _ => ?_) (fun h9 => absurd rfl h9)
      exact k342 _ hx5
  have k155 : ∀ ν : Mu, CX ν c → PL l E D cA Y.length (kv_sum Y) mL_way (d + 6) fin 155 [some (.ref 0), some (.ref (227 + 0)), some (.ref (227 + 1)), some (.ref (227 + 2)), some (.int (nI t)), some (.int (nI (ato (na c) (na c 3) t n))), some (.int (nI n)), some (.int (nI (i + 1))), some (.int (nI (pvx (na c) t n))), some (.int (nI (pvy (na c) t n))), some (.int (nI (wd (na c) t n))), some (.int (nI (qd (na c) (na c 3) t n))), some (.int (nI (hd (na c) t n))), some (.int (kb (lob (na c) t n = true))), some (.int (nI i)), some (.int (nI (trv (na c) t n))), some (.int (nI (wk (na c) t n))), some (.int (nI (na c (6 + 4 * (trv (na c) t n))))), l18, l19, l20, l21] [.int (kb (hnt (na c) t (trv (na c) t n) = true))] ν Y := by
    intro ν hν
    refine px_istore (ls' := [some (.ref 0), some (.ref (227 + 0)), some (.ref (227 + 1)), some (.ref (227 + 2)), some (.int (nI t)), some (.int (nI (ato (na c) (na c 3) t n))), some (.int (nI n)), some (.int (nI (i + 1))), some (.int (nI (pvx (na c) t n))), some (.int (nI (pvy (na c) t n))), some (.int (nI (wd (na c) t n))), some (.int (nI (qd (na c) (na c 3) t n))), some (.int (nI (hd (na c) t n))), some (.int (kb (lob (na c) t n = true))), some (.int (nI i)), some (.int (nI (trv (na c) t n))), some (.int (nI (wk (na c) t n))), some (.int (nI (na c (6 + 4 * (trv (na c) t n))))), some (.int (kb (hnt (na c) t (trv (na c) t n) = true))), l19, l20, l21]) dL_way_155 rfl rfl (by decide) ?_
    refine pw_aload_n dL_way_157 rfl ?_
    refine pw_iload dL_way_158 rfl ?_
    refine pw_iload dL_way_160 rfl ?_
    refine pw_iconst_ (v := nI 1) dL_way_162 (by decide) ?_
    refine pl_callV (b := 0) (As := [.int (nI t), .int (nI n), .int (nI 1)]) (st := []) dL_way_163 cv_L_27 rfl ⟨by decide, by decide +kernel⟩ (Nat.le_of_ble_eq_true rfl) (Nat.le_of_ble_eq_true rfl) (Nat.le_refl _) (Nat.le_refl _) ?_
    refine l_visit (x := nI (CM (na c) (na c 3) t n)) hw hν ht hn (by decide) rfl (fun ν1 hx1 => ?_)
    show PL l E D cA Y.length (kv_sum Y) mL_way (d + 6) fin 166 [some (.ref 0), some (.ref (227 + 0)), some (.ref (227 + 1)), some (.ref (227 + 2)), some (.int (nI t)), some (.int (nI (ato (na c) (na c 3) t n))), some (.int (nI n)), some (.int (nI (i + 1))), some (.int (nI (pvx (na c) t n))), some (.int (nI (pvy (na c) t n))), some (.int (nI (wd (na c) t n))), some (.int (nI (qd (na c) (na c 3) t n))), some (.int (nI (hd (na c) t n))), some (.int (kb (lob (na c) t n = true))), some (.int (nI i)), some (.int (nI (trv (na c) t n))), some (.int (nI (wk (na c) t n))), some (.int (nI (na c (6 + 4 * (trv (na c) t n))))), some (.int (kb (hnt (na c) t (trv (na c) t n) = true))), l19, l20, l21] [.int (nI (CM (na c) (na c 3) t n))] ν1 Y
    refine px_istore (ls' := [some (.ref 0), some (.ref (227 + 0)), some (.ref (227 + 1)), some (.ref (227 + 2)), some (.int (nI t)), some (.int (nI (ato (na c) (na c 3) t n))), some (.int (nI n)), some (.int (nI (i + 1))), some (.int (nI (pvx (na c) t n))), some (.int (nI (pvy (na c) t n))), some (.int (nI (wd (na c) t n))), some (.int (nI (qd (na c) (na c 3) t n))), some (.int (nI (hd (na c) t n))), some (.int (kb (lob (na c) t n = true))), some (.int (nI i)), some (.int (nI (trv (na c) t n))), some (.int (nI (wk (na c) t n))), some (.int (nI (na c (6 + 4 * (trv (na c) t n))))), some (.int (kb (hnt (na c) t (trv (na c) t n) = true))), some (.int (nI (CM (na c) (na c 3) t n))), l20, l21]) dL_way_166 rfl rfl (by decide) ?_
    refine pw_aload_n dL_way_168 rfl ?_
    refine pw_iload dL_way_169 rfl ?_
    refine pw_iload dL_way_171 rfl ?_
    refine pw_iconst_ (v := nI 2) dL_way_173 (by decide) ?_
    refine pl_callV (b := 0) (As := [.int (nI t), .int (nI n), .int (nI 2)]) (st := []) dL_way_174 cv_L_27 rfl ⟨by decide, by decide +kernel⟩ (Nat.le_of_ble_eq_true rfl) (Nat.le_of_ble_eq_true rfl) (Nat.le_refl _) (Nat.le_refl _) ?_
    refine l_visit (x := nI (BG (na c) (na c 3) t n)) hw hx1 ht hn (by decide) rfl (fun ν2 hx2 => ?_)
    show PL l E D cA Y.length (kv_sum Y) mL_way (d + 6) fin 177 [some (.ref 0), some (.ref (227 + 0)), some (.ref (227 + 1)), some (.ref (227 + 2)), some (.int (nI t)), some (.int (nI (ato (na c) (na c 3) t n))), some (.int (nI n)), some (.int (nI (i + 1))), some (.int (nI (pvx (na c) t n))), some (.int (nI (pvy (na c) t n))), some (.int (nI (wd (na c) t n))), some (.int (nI (qd (na c) (na c 3) t n))), some (.int (nI (hd (na c) t n))), some (.int (kb (lob (na c) t n = true))), some (.int (nI i)), some (.int (nI (trv (na c) t n))), some (.int (nI (wk (na c) t n))), some (.int (nI (na c (6 + 4 * (trv (na c) t n))))), some (.int (kb (hnt (na c) t (trv (na c) t n) = true))), some (.int (nI (CM (na c) (na c 3) t n))), l20, l21] [.int (nI (BG (na c) (na c 3) t n))] ν2 Y
    refine px_istore (ls' := [some (.ref 0), some (.ref (227 + 0)), some (.ref (227 + 1)), some (.ref (227 + 2)), some (.int (nI t)), some (.int (nI (ato (na c) (na c 3) t n))), some (.int (nI n)), some (.int (nI (i + 1))), some (.int (nI (pvx (na c) t n))), some (.int (nI (pvy (na c) t n))), some (.int (nI (wd (na c) t n))), some (.int (nI (qd (na c) (na c 3) t n))), some (.int (nI (hd (na c) t n))), some (.int (kb (lob (na c) t n = true))), some (.int (nI i)), some (.int (nI (trv (na c) t n))), some (.int (nI (wk (na c) t n))), some (.int (nI (na c (6 + 4 * (trv (na c) t n))))), some (.int (kb (hnt (na c) t (trv (na c) t n) = true))), some (.int (nI (CM (na c) (na c 3) t n))), some (.int (nI (BG (na c) (na c 3) t n))), l21]) dL_way_177 rfl rfl (by decide) ?_
    refine pw_aload_n dL_way_179 rfl ?_
    refine pw_iload dL_way_180 rfl ?_
    refine pw_iload dL_way_182 rfl ?_
    refine pw_iconst_ (v := nI 3) dL_way_184 (by decide) ?_
    refine pl_callV (b := 0) (As := [.int (nI t), .int (nI n), .int (nI 3)]) (st := []) dL_way_185 cv_L_27 rfl ⟨by decide, by decide +kernel⟩ (Nat.le_of_ble_eq_true rfl) (Nat.le_of_ble_eq_true rfl) (Nat.le_refl _) (Nat.le_refl _) ?_
    refine l_visit (x := nI (EN (na c) (na c 3) t n)) hw hx2 ht hn (by decide) rfl (fun ν3 hx3 => ?_)
    show PL l E D cA Y.length (kv_sum Y) mL_way (d + 6) fin 188 [some (.ref 0), some (.ref (227 + 0)), some (.ref (227 + 1)), some (.ref (227 + 2)), some (.int (nI t)), some (.int (nI (ato (na c) (na c 3) t n))), some (.int (nI n)), some (.int (nI (i + 1))), some (.int (nI (pvx (na c) t n))), some (.int (nI (pvy (na c) t n))), some (.int (nI (wd (na c) t n))), some (.int (nI (qd (na c) (na c 3) t n))), some (.int (nI (hd (na c) t n))), some (.int (kb (lob (na c) t n = true))), some (.int (nI i)), some (.int (nI (trv (na c) t n))), some (.int (nI (wk (na c) t n))), some (.int (nI (na c (6 + 4 * (trv (na c) t n))))), some (.int (kb (hnt (na c) t (trv (na c) t n) = true))), some (.int (nI (CM (na c) (na c 3) t n))), some (.int (nI (BG (na c) (na c 3) t n))), l21] [.int (nI (EN (na c) (na c 3) t n))] ν3 Y
    refine px_istore (ls' := [some (.ref 0), some (.ref (227 + 0)), some (.ref (227 + 1)), some (.ref (227 + 2)), some (.int (nI t)), some (.int (nI (ato (na c) (na c 3) t n))), some (.int (nI n)), some (.int (nI (i + 1))), some (.int (nI (pvx (na c) t n))), some (.int (nI (pvy (na c) t n))), some (.int (nI (wd (na c) t n))), some (.int (nI (qd (na c) (na c 3) t n))), some (.int (nI (hd (na c) t n))), some (.int (kb (lob (na c) t n = true))), some (.int (nI i)), some (.int (nI (trv (na c) t n))), some (.int (nI (wk (na c) t n))), some (.int (nI (na c (6 + 4 * (trv (na c) t n))))), some (.int (kb (hnt (na c) t (trv (na c) t n) = true))), some (.int (nI (CM (na c) (na c 3) t n))), some (.int (nI (BG (na c) (na c 3) t n))), some (.int (nI (EN (na c) (na c 3) t n)))]) dL_way_188 rfl rfl (by decide) ?_
    refine pw_aload_n dL_way_190 rfl ?_
    refine pw_iload dL_way_191 rfl ?_
    refine pw_iload dL_way_193 rfl ?_
    refine pw_iconst_ (v := nI 0) dL_way_195 (by decide) ?_
    refine pl_callV (b := 0) (As := [.int (nI t), .int (nI n), .int (nI 0)]) (st := []) dL_way_196 cv_L_27 rfl ⟨by decide, by decide +kernel⟩ (Nat.le_of_ble_eq_true rfl) (Nat.le_of_ble_eq_true rfl) (Nat.le_refl _) (Nat.le_refl _) ?_
    refine l_visit (x := nI (trv (na c) t n)) hw hx3 ht hn (by decide) rfl (fun ν4 hx4 => ?_)
    show PL l E D cA Y.length (kv_sum Y) mL_way (d + 6) fin 199 [some (.ref 0), some (.ref (227 + 0)), some (.ref (227 + 1)), some (.ref (227 + 2)), some (.int (nI t)), some (.int (nI (ato (na c) (na c 3) t n))), some (.int (nI n)), some (.int (nI (i + 1))), some (.int (nI (pvx (na c) t n))), some (.int (nI (pvy (na c) t n))), some (.int (nI (wd (na c) t n))), some (.int (nI (qd (na c) (na c 3) t n))), some (.int (nI (hd (na c) t n))), some (.int (kb (lob (na c) t n = true))), some (.int (nI i)), some (.int (nI (trv (na c) t n))), some (.int (nI (wk (na c) t n))), some (.int (nI (na c (6 + 4 * (trv (na c) t n))))), some (.int (kb (hnt (na c) t (trv (na c) t n) = true))), some (.int (nI (CM (na c) (na c 3) t n))), some (.int (nI (BG (na c) (na c 3) t n))), some (.int (nI (EN (na c) (na c 3) t n)))] [.int (nI (trv (na c) t n))] ν4 Y
    refine pw_iload dL_way_199 rfl ?_
    refine pn_ne (tgt := 262) dL_way_201 (by decide) (by omega) (by omega) (fun h9 => absurd rfl h9) (fun _ => ?_)
    refine pw_aload_n dL_way_204 rfl ?_
    refine pw_iload dL_way_205 rfl ?_
    refine pw_iload dL_way_207 rfl ?_
    refine pw_iconst_ (v := nI 4) dL_way_209 (by decide) ?_
    refine pl_callV (b := 0) (As := [.int (nI t), .int (nI n), .int (nI 4)]) (st := []) dL_way_210 cv_L_27 rfl ⟨by decide, by decide +kernel⟩ (Nat.le_of_ble_eq_true rfl) (Nat.le_of_ble_eq_true rfl) (Nat.le_refl _) (Nat.le_refl _) ?_
    refine l_visit (x := nI (wk (na c) t n)) hw hx4 ht hn (by decide) rfl (fun ν5 hx5 => ?_)
    show PL l E D cA Y.length (kv_sum Y) mL_way (d + 6) fin 213 [some (.ref 0), some (.ref (227 + 0)), some (.ref (227 + 1)), some (.ref (227 + 2)), some (.int (nI t)), some (.int (nI (ato (na c) (na c 3) t n))), some (.int (nI n)), some (.int (nI (i + 1))), some (.int (nI (pvx (na c) t n))), some (.int (nI (pvy (na c) t n))), some (.int (nI (wd (na c) t n))), some (.int (nI (qd (na c) (na c 3) t n))), some (.int (nI (hd (na c) t n))), some (.int (kb (lob (na c) t n = true))), some (.int (nI i)), some (.int (nI (trv (na c) t n))), some (.int (nI (wk (na c) t n))), some (.int (nI (na c (6 + 4 * (trv (na c) t n))))), some (.int (kb (hnt (na c) t (trv (na c) t n) = true))), some (.int (nI (CM (na c) (na c 3) t n))), some (.int (nI (BG (na c) (na c 3) t n))), some (.int (nI (EN (na c) (na c 3) t n)))] [.int (nI (wk (na c) t n))] ν5 Y
    refine pw_iload dL_way_213 rfl ?_
    refine pn_ne (tgt := 262) dL_way_215 (by decide) (by omega) (by omega) (fun h9 => absurd rfl h9) (fun _ => ?_)
    refine pw_iload dL_way_218 rfl ?_
    refine pw_iload dL_way_220 rfl ?_
    refine pw_iload dL_way_222 rfl ?_
    refine px_iaddn (c := CM (na c) (na c 3) t n) dL_way_224 v1.symm ?_
    refine pn_ne (tgt := 262) dL_way_225 (by decide) (by omega) (by omega) (fun h9 => absurd rfl h9) (fun _ => ?_)
    refine pw_iload dL_way_228 rfl ?_
    refine pw_iload dL_way_230 rfl ?_
    refine pn_lt (tgt := 262) dL_way_232 (by decide) (by omega) (by omega) (fun h9 => absurd h9 (by omega)) (fun _ => ?_)
    refine pw_iload dL_way_235 rfl ?_
    refine pw_iload dL_way_237 rfl ?_
    refine pw_iload dL_way_239 rfl ?_
    refine pw_if_eq (tgt := 256) dL_way_241 (by decide) (fun hc => ?_) (fun hc => ?_)
    · have hc2 := kb_eq0.mp hc
      refine pw_iload dL_way_256 rfl ?_
      have e9 := lk_n hc2
      rw [← e9] at k258
      exact k258 _ hx5
    · have hc2 := kb_ne0.mp hc
      refine pw_iload dL_way_244 rfl ?_
      refine pw_iconst_ (v := nI 2) dL_way_246 (by decide) ?_
      refine px_idivn dL_way_247 (by omega) (by omega) (by omega) ?_
      refine pw_iload dL_way_248 rfl ?_
      refine pw_iconst_ (v := nI 2) dL_way_250 (by decide) ?_
      refine px_iremn dL_way_251 (by omega) (by decide) (by decide) ?_
      refine px_iaddn (c := (na c (6 + 4 * (trv (na c) t n))) / 2 + (na c (6 + 4 * (trv (na c) t n)) % 2)) dL_way_252 (by omega) ?_
      refine pw_goto (tgt := 258) dL_way_253 (by decide) ?_
      have e9 := lk_y hc2
      rw [← e9] at k258
      exact k258 _ hx5
  have k125 : ∀ ν : Mu, CX ν c → PL l E D cA Y.length (kv_sum Y) mL_way (d + 6) fin 125 [some (.ref 0), some (.ref (227 + 0)), some (.ref (227 + 1)), some (.ref (227 + 2)), some (.int (nI t)), some (.int (nI (ato (na c) (na c 3) t n))), some (.int (nI n)), some (.int (nI (i + 1))), some (.int (nI (pvx (na c) t n))), some (.int (nI (pvy (na c) t n))), some (.int (nI (wd (na c) t n))), some (.int (nI (qd (na c) (na c 3) t n))), some (.int (nI (hd (na c) t n))), some (.int (kb (lob (na c) t n = true))), some (.int (nI i)), some (.int (nI (trv (na c) t n))), l16, l17, l18, l19, l20, l21] [.int (nI (slo (na c) t n)), .int (nI (dist (px (na c) (trv (na c) t n)) (pvx (na c) t n) + dist (py (na c) (trv (na c) t n)) (pvy (na c) t n)))] ν Y := by
    intro ν hν
    refine px_imuln (c := (wk (na c) t n)) dL_way_125 wk_mul ?_
    refine px_istore (ls' := [some (.ref 0), some (.ref (227 + 0)), some (.ref (227 + 1)), some (.ref (227 + 2)), some (.int (nI t)), some (.int (nI (ato (na c) (na c 3) t n))), some (.int (nI n)), some (.int (nI (i + 1))), some (.int (nI (pvx (na c) t n))), some (.int (nI (pvy (na c) t n))), some (.int (nI (wd (na c) t n))), some (.int (nI (qd (na c) (na c 3) t n))), some (.int (nI (hd (na c) t n))), some (.int (kb (lob (na c) t n = true))), some (.int (nI i)), some (.int (nI (trv (na c) t n))), some (.int (nI (wk (na c) t n))), l17, l18, l19, l20, l21]) dL_way_126 rfl rfl (by decide) ?_
    refine pw_aload_n dL_way_128 rfl ?_
    refine pw_iload dL_way_129 rfl ?_
    refine pw_iconst_ (v := nI 2) dL_way_131 (by decide) ?_
    refine pl_callV (b := 0) (As := [.int (nI (trv (na c) t n)), .int (nI 2)]) (st := []) dL_way_132 cv_L_15 rfl ⟨by decide, by decide +kernel⟩ (Nat.le_of_ble_eq_true rfl) (Nat.le_of_ble_eq_true rfl) (Nat.le_refl _) (Nat.le_refl _) ?_
    refine l_placeOf (x := nI (na c (6 + 4 * (trv (na c) t n)))) hw hν hp8 (by decide) rfl (fun ν1 hx1 => ?_)
    show PL l E D cA Y.length (kv_sum Y) mL_way (d + 6) fin 135 [some (.ref 0), some (.ref (227 + 0)), some (.ref (227 + 1)), some (.ref (227 + 2)), some (.int (nI t)), some (.int (nI (ato (na c) (na c 3) t n))), some (.int (nI n)), some (.int (nI (i + 1))), some (.int (nI (pvx (na c) t n))), some (.int (nI (pvy (na c) t n))), some (.int (nI (wd (na c) t n))), some (.int (nI (qd (na c) (na c 3) t n))), some (.int (nI (hd (na c) t n))), some (.int (kb (lob (na c) t n = true))), some (.int (nI i)), some (.int (nI (trv (na c) t n))), some (.int (nI (wk (na c) t n))), l17, l18, l19, l20, l21] [.int (nI (na c (6 + 4 * (trv (na c) t n))))] ν1 Y
    refine px_istore (ls' := [some (.ref 0), some (.ref (227 + 0)), some (.ref (227 + 1)), some (.ref (227 + 2)), some (.int (nI t)), some (.int (nI (ato (na c) (na c 3) t n))), some (.int (nI n)), some (.int (nI (i + 1))), some (.int (nI (pvx (na c) t n))), some (.int (nI (pvy (na c) t n))), some (.int (nI (wd (na c) t n))), some (.int (nI (qd (na c) (na c 3) t n))), some (.int (nI (hd (na c) t n))), some (.int (kb (lob (na c) t n = true))), some (.int (nI i)), some (.int (nI (trv (na c) t n))), some (.int (nI (wk (na c) t n))), some (.int (nI (na c (6 + 4 * (trv (na c) t n))))), l18, l19, l20, l21]) dL_way_135 rfl rfl (by decide) ?_
    refine pw_aload_n dL_way_137 rfl ?_
    refine pw_iload dL_way_138 rfl ?_
    refine pl_iald (i := 1) (j := t) (n := 6) (f := h) (x := (nI (na c (37 + 12 * t)))) dL_way_140 rfl (by omega) (by decide) h1 (hL t ht).2.1 ?_
    refine pw_iload dL_way_141 rfl ?_
    refine pw_ishr dL_way_143 ?_
    refine pw_iconst_ (v := nI 1) dL_way_144 (by decide) ?_
    refine pw_iand dL_way_145 ?_
    rw [bit_shr _ g2 _ hp8]
    refine pw_iconst_ (v := nI 1) dL_way_146 (by decide) ?_
    refine pn_ne (tgt := 154) dL_way_147 (by decide) (by omega) (by omega) (fun hc => ?_) (fun hc => ?_)
    · refine pw_iconst_ (v := nI 0) dL_way_154 (by decide) ?_
      have e9 : kb (hnt (na c) t (trv (na c) t n) = true) = nI 0 := kb_f (fun q => hc (hnt_is.mp q))
      rw [e9] at k155
      exact k155 _ hx1
    · refine pw_iconst_ (v := nI 1) dL_way_150 (by decide) ?_
      refine pw_goto (tgt := 155) dL_way_151 (by decide) ?_
      have e9 : kb (hnt (na c) t (trv (na c) t n) = true) = nI 1 := kb_t (hnt_is.mpr hc)
      rw [e9] at k155
      exact k155 _ hx1
  refine pw_aload_n dL_way_84 rfl ?_
  refine pw_iload dL_way_85 rfl ?_
  refine pw_iconst_ (v := nI 0) dL_way_87 (by decide) ?_
  refine pl_callV (b := 0) (As := [.int (nI (trv (na c) t n)), .int (nI 0)]) (st := []) dL_way_88 cv_L_15 rfl ⟨by decide, by decide +kernel⟩ (Nat.le_of_ble_eq_true rfl) (Nat.le_of_ble_eq_true rfl) (Nat.le_refl _) (Nat.le_refl _) ?_
  refine l_placeOf (x := nI (px (na c) (trv (na c) t n))) hw hx hp8 (by decide) rfl (fun ν1 hx1 => ?_)
  show PL l E D cA Y.length (kv_sum Y) mL_way (d + 6) fin 91 [some (.ref 0), some (.ref (227 + 0)), some (.ref (227 + 1)), some (.ref (227 + 2)), some (.int (nI t)), some (.int (nI (ato (na c) (na c 3) t n))), some (.int (nI n)), some (.int (nI (i + 1))), some (.int (nI (pvx (na c) t n))), some (.int (nI (pvy (na c) t n))), some (.int (nI (wd (na c) t n))), some (.int (nI (qd (na c) (na c 3) t n))), some (.int (nI (hd (na c) t n))), some (.int (kb (lob (na c) t n = true))), some (.int (nI i)), some (.int (nI (trv (na c) t n))), l16, l17, l18, l19, l20, l21] [.int (nI (px (na c) (trv (na c) t n)))] ν1 Y
  refine pw_iload dL_way_91 rfl ?_
  refine pw_isub dL_way_93 ?_
  refine pl_callS (k' := Y.length) (z' := kv_sum Y) (As := [.int ((nI (px (na c) (trv (na c) t n))) - (nI (pvx (na c) t n)))]) (st := []) dL_way_94 cs_L_18 rfl (Nat.le_of_ble_eq_true rfl) (Nat.le_of_ble_eq_true rfl) ⟨Nat.le_refl _, (Nat.le_refl _)⟩ ⟨Nat.le_refl _, (Nat.le_refl _)⟩ ?_
  refine l_size (by simp only [px]; omega) (by omega) ?_
  show PL l E D cA Y.length (kv_sum Y) mL_way (d + 6) fin 97 [some (.ref 0), some (.ref (227 + 0)), some (.ref (227 + 1)), some (.ref (227 + 2)), some (.int (nI t)), some (.int (nI (ato (na c) (na c 3) t n))), some (.int (nI n)), some (.int (nI (i + 1))), some (.int (nI (pvx (na c) t n))), some (.int (nI (pvy (na c) t n))), some (.int (nI (wd (na c) t n))), some (.int (nI (qd (na c) (na c 3) t n))), some (.int (nI (hd (na c) t n))), some (.int (kb (lob (na c) t n = true))), some (.int (nI i)), some (.int (nI (trv (na c) t n))), l16, l17, l18, l19, l20, l21] [.int (nI (dist (px (na c) (trv (na c) t n)) (pvx (na c) t n)))] ν1 Y
  refine pw_aload_n dL_way_97 rfl ?_
  refine pw_iload dL_way_98 rfl ?_
  refine pw_iconst_ (v := nI 1) dL_way_100 (by decide) ?_
  refine pl_callV (b := 0) (As := [.int (nI (trv (na c) t n)), .int (nI 1)]) (st := [.int (nI (dist (px (na c) (trv (na c) t n)) (pvx (na c) t n)))]) dL_way_101 cv_L_15 rfl ⟨by decide, by decide +kernel⟩ (Nat.le_of_ble_eq_true rfl) (Nat.le_of_ble_eq_true rfl) (Nat.le_refl _) (Nat.le_refl _) ?_
  refine l_placeOf (x := nI (py (na c) (trv (na c) t n))) hw hx1 hp8 (by decide) rfl (fun ν2 hx2 => ?_)
  show PL l E D cA Y.length (kv_sum Y) mL_way (d + 6) fin 104 [some (.ref 0), some (.ref (227 + 0)), some (.ref (227 + 1)), some (.ref (227 + 2)), some (.int (nI t)), some (.int (nI (ato (na c) (na c 3) t n))), some (.int (nI n)), some (.int (nI (i + 1))), some (.int (nI (pvx (na c) t n))), some (.int (nI (pvy (na c) t n))), some (.int (nI (wd (na c) t n))), some (.int (nI (qd (na c) (na c 3) t n))), some (.int (nI (hd (na c) t n))), some (.int (kb (lob (na c) t n = true))), some (.int (nI i)), some (.int (nI (trv (na c) t n))), l16, l17, l18, l19, l20, l21] [.int (nI (py (na c) (trv (na c) t n))), .int (nI (dist (px (na c) (trv (na c) t n)) (pvx (na c) t n)))] ν2 Y
  refine pw_iload dL_way_104 rfl ?_
  refine pw_isub dL_way_106 ?_
  refine pl_callS (k' := Y.length) (z' := kv_sum Y) (As := [.int ((nI (py (na c) (trv (na c) t n))) - (nI (pvy (na c) t n)))]) (st := [.int (nI (dist (px (na c) (trv (na c) t n)) (pvx (na c) t n)))]) dL_way_107 cs_L_18 rfl (Nat.le_of_ble_eq_true rfl) (Nat.le_of_ble_eq_true rfl) ⟨Nat.le_refl _, (Nat.le_refl _)⟩ ⟨Nat.le_refl _, (Nat.le_refl _)⟩ ?_
  refine l_size (by simp only [py]; omega) (by omega) ?_
  show PL l E D cA Y.length (kv_sum Y) mL_way (d + 6) fin 110 [some (.ref 0), some (.ref (227 + 0)), some (.ref (227 + 1)), some (.ref (227 + 2)), some (.int (nI t)), some (.int (nI (ato (na c) (na c 3) t n))), some (.int (nI n)), some (.int (nI (i + 1))), some (.int (nI (pvx (na c) t n))), some (.int (nI (pvy (na c) t n))), some (.int (nI (wd (na c) t n))), some (.int (nI (qd (na c) (na c 3) t n))), some (.int (nI (hd (na c) t n))), some (.int (kb (lob (na c) t n = true))), some (.int (nI i)), some (.int (nI (trv (na c) t n))), l16, l17, l18, l19, l20, l21] [.int (nI (dist (py (na c) (trv (na c) t n)) (pvy (na c) t n))), .int (nI (dist (px (na c) (trv (na c) t n)) (pvx (na c) t n)))] ν2 Y
  refine px_iaddn (c := dist (px (na c) (trv (na c) t n)) (pvx (na c) t n) + dist (py (na c) (trv (na c) t n)) (pvy (na c) t n)) dL_way_110 (by omega) ?_
  refine pw_iload dL_way_111 rfl ?_
  refine pw_if_eq (tgt := 124) dL_way_113 (by decide) (fun hc => ?_) (fun hc => ?_)
  · have hc2 := kb_eq0.mp hc
    refine pw_iconst_ (v := nI 1) dL_way_124 (by decide) ?_
    have e9 : slo (na c) t n = 1 := if_neg hc2
    rw [e9] at k125
    exact k125 _ hx2
  · have hc2 := kb_ne0.mp hc
    refine pw_aload_n dL_way_116 rfl ?_
    refine pw_iconst_ (v := nI 2) dL_way_117 (by decide) ?_
    refine pl_callV (b := 0) (As := [.int (nI 2)]) (st := [.int (nI (dist (px (na c) (trv (na c) t n)) (pvx (na c) t n) + dist (py (na c) (trv (na c) t n)) (pvy (na c) t n)))]) dL_way_118 cv_L_24 rfl ⟨by decide, by decide +kernel⟩ (Nat.le_of_ble_eq_true rfl) (Nat.le_of_ble_eq_true rfl) (Nat.le_refl _) (Nat.le_refl _) ?_
    refine l_count (x := nI (na c 2)) hw hx2 (by decide) rfl (fun ν3 hx3 => ?_)
    show PL l E D cA Y.length (kv_sum Y) mL_way (d + 6) fin 121 [some (.ref 0), some (.ref (227 + 0)), some (.ref (227 + 1)), some (.ref (227 + 2)), some (.int (nI t)), some (.int (nI (ato (na c) (na c 3) t n))), some (.int (nI n)), some (.int (nI (i + 1))), some (.int (nI (pvx (na c) t n))), some (.int (nI (pvy (na c) t n))), some (.int (nI (wd (na c) t n))), some (.int (nI (qd (na c) (na c 3) t n))), some (.int (nI (hd (na c) t n))), some (.int (kb (lob (na c) t n = true))), some (.int (nI i)), some (.int (nI (trv (na c) t n))), l16, l17, l18, l19, l20, l21] [.int (nI (na c 2)), .int (nI (dist (px (na c) (trv (na c) t n)) (pvx (na c) t n) + dist (py (na c) (trv (na c) t n)) (pvy (na c) t n)))] ν3 Y
    refine pw_goto (tgt := 125) dL_way_121 (by decide) ?_
    have e9 : slo (na c) t n = na c 2 := if_pos hc2
    rw [e9] at k125
    exact k125 _ hx3
set_option maxRecDepth 100000 in
set_option maxHeartbeats 4000000 in
theorem w_way_e {c : CS} (hw : CW c) (hx : CX μ c) {r h lo : Nat → Int32} (h0 : Y[0]? = some (yr r 48)) (h1 : Y[1]? = some (yr h 6)) (h2 : Y[2]? = some (yr lo 6)) (hL : LI c r h lo) {t : Nat} (ht : t < na c 3) {l15 l16 l17 l18 l19 l20 l21 : Option Value} (hf : ∀ ν : Mu, CX ν c → fin (some (.int (nI 1))) ν Y) : PL l E D cA Y.length (kv_sum Y) mL_way (d + 6) fin 426 [some (.ref 0), some (.ref (227 + 0)), some (.ref (227 + 1)), some (.ref (227 + 2)), some (.int (nI t)), some (.int (nI (ato (na c) (na c 3) t (tl (na c) t)))), some (.int (nI (tl (na c) t))), some (.int (nI (na c (39 + 12 * t)))), some (.int (nI (pvx (na c) t (tl (na c) t)))), some (.int (nI (pvy (na c) t (tl (na c) t)))), some (.int (nI (wd (na c) t (tl (na c) t)))), some (.int (nI (qd (na c) (na c 3) t (tl (na c) t)))), some (.int (nI (hd (na c) t (tl (na c) t)))), some (.int (kb (lob (na c) t (tl (na c) t) = true))), some (.int (nI (na c (39 + 12 * t)))), l15, l16, l17, l18, l19, l20, l21] [] μ Y := by
  have h6 := hw.1.t6
  obtain ⟨g1, g2, g3, g4, g5⟩ := hw.1.tm ht
  have h8 := tl_le hw.1 ht
  have hov := ov_le hw.1 (Nat.le_refl _) ht
  have eov := OV_ato hw.1 (Nat.le_refl _) ht
  rw [← eov]
  show PL l E D cA Y.length (kv_sum Y) mL_way (d + 6) fin 426 [some (.ref 0), some (.ref (227 + 0)), some (.ref (227 + 1)), some (.ref (227 + 2)), some (.int (nI t)), some (.int (nI (OV (na c) (na c 3) t))), some (.int (nI (tl (na c) t))), some (.int (nI (na c (39 + 12 * t)))), some (.int (nI (pvx (na c) t (tl (na c) t)))), some (.int (nI (pvy (na c) t (tl (na c) t)))), some (.int (nI (wd (na c) t (tl (na c) t)))), some (.int (nI (qd (na c) (na c 3) t (tl (na c) t)))), some (.int (nI (hd (na c) t (tl (na c) t)))), some (.int (kb (lob (na c) t (tl (na c) t) = true))), some (.int (nI (na c (39 + 12 * t)))), l15, l16, l17, l18, l19, l20, l21] [] μ Y
  refine pw_aload_n dL_way_426 rfl ?_
  refine pw_iconst_ (v := nI 1) dL_way_427 (by decide) ?_
  refine pl_callV (b := 0) (As := [.int (nI 1)]) (st := []) dL_way_428 cv_L_24 rfl ⟨by decide, by decide +kernel⟩ (Nat.le_of_ble_eq_true rfl) (Nat.le_of_ble_eq_true rfl) (Nat.le_refl _) (Nat.le_refl _) ?_
  refine l_count (x := nI (na c 1)) hw hx (by decide) rfl (fun ν1 hx1 => ?_)
  show PL l E D cA Y.length (kv_sum Y) mL_way (d + 6) fin 431 [some (.ref 0), some (.ref (227 + 0)), some (.ref (227 + 1)), some (.ref (227 + 2)), some (.int (nI t)), some (.int (nI (OV (na c) (na c 3) t))), some (.int (nI (tl (na c) t))), some (.int (nI (na c (39 + 12 * t)))), some (.int (nI (pvx (na c) t (tl (na c) t)))), some (.int (nI (pvy (na c) t (tl (na c) t)))), some (.int (nI (wd (na c) t (tl (na c) t)))), some (.int (nI (qd (na c) (na c 3) t (tl (na c) t)))), some (.int (nI (hd (na c) t (tl (na c) t)))), some (.int (kb (lob (na c) t (tl (na c) t) = true))), some (.int (nI (na c (39 + 12 * t)))), l15, l16, l17, l18, l19, l20, l21] [.int (nI (na c 1))] ν1 Y
  refine pw_iload dL_way_431 rfl ?_
  refine px_imuln (c := na c 1 * tl (na c) t) dL_way_433 rfl ?_
  refine pw_aload_n dL_way_434 rfl ?_
  refine pw_iconst_ (v := nI 0) dL_way_435 (by decide) ?_
  refine pl_callV (b := 0) (As := [.int (nI 0)]) (st := [.int (nI (na c 1 * tl (na c) t))]) dL_way_436 cv_L_24 rfl ⟨by decide, by decide +kernel⟩ (Nat.le_of_ble_eq_true rfl) (Nat.le_of_ble_eq_true rfl) (Nat.le_refl _) (Nat.le_refl _) ?_
  refine l_count (x := nI (na c 0)) hw hx1 (by decide) rfl (fun ν2 hx2 => ?_)
  show PL l E D cA Y.length (kv_sum Y) mL_way (d + 6) fin 439 [some (.ref 0), some (.ref (227 + 0)), some (.ref (227 + 1)), some (.ref (227 + 2)), some (.int (nI t)), some (.int (nI (OV (na c) (na c 3) t))), some (.int (nI (tl (na c) t))), some (.int (nI (na c (39 + 12 * t)))), some (.int (nI (pvx (na c) t (tl (na c) t)))), some (.int (nI (pvy (na c) t (tl (na c) t)))), some (.int (nI (wd (na c) t (tl (na c) t)))), some (.int (nI (qd (na c) (na c 3) t (tl (na c) t)))), some (.int (nI (hd (na c) t (tl (na c) t)))), some (.int (kb (lob (na c) t (tl (na c) t) = true))), some (.int (nI (na c (39 + 12 * t)))), l15, l16, l17, l18, l19, l20, l21] [.int (nI (na c 0)), .int (nI (na c 1 * tl (na c) t))] ν2 Y
  refine pw_iload dL_way_439 rfl ?_
  refine px_imuln (c := na c 0 * hd (na c) t (tl (na c) t)) dL_way_441 rfl ?_
  refine pw_isub dL_way_442 ?_
  refine pw_iload dL_way_443 rfl ?_
  refine pw_isub dL_way_445 ?_
  show PL l E D cA Y.length (kv_sum Y) mL_way (d + 6) fin 446 [some (.ref 0), some (.ref (227 + 0)), some (.ref (227 + 1)), some (.ref (227 + 2)), some (.int (nI t)), some (.int (nI (OV (na c) (na c 3) t))), some (.int (nI (tl (na c) t))), some (.int (nI (na c (39 + 12 * t)))), some (.int (nI (pvx (na c) t (tl (na c) t)))), some (.int (nI (pvy (na c) t (tl (na c) t)))), some (.int (nI (wd (na c) t (tl (na c) t)))), some (.int (nI (qd (na c) (na c 3) t (tl (na c) t)))), some (.int (nI (hd (na c) t (tl (na c) t)))), some (.int (kb (lob (na c) t (tl (na c) t) = true))), some (.int (nI (na c (39 + 12 * t)))), l15, l16, l17, l18, l19, l20, l21] [.int (((nI (na c 1 * tl (na c) t)) - (nI (na c 0 * hd (na c) t (tl (na c) t)))) - (nI (OV (na c) (na c 3) t)))] ν2 Y
  show PL l E D cA Y.length (kv_sum Y) mL_way (d + 6) fin 446 [some (.ref 0), some (.ref (227 + 0)), some (.ref (227 + 1)), some (.ref (227 + 2)), some (.int (nI t)), some (.int (nI (OV (na c) (na c 3) t))), some (.int (nI (tl (na c) t))), some (.int (nI (na c (39 + 12 * t)))), some (.int (nI (pvx (na c) t (tl (na c) t)))), some (.int (nI (pvy (na c) t (tl (na c) t)))), some (.int (nI (wd (na c) t (tl (na c) t)))), some (.int (nI (qd (na c) (na c 3) t (tl (na c) t)))), some (.int (nI (hd (na c) t (tl (na c) t)))), some (.int (kb (lob (na c) t (tl (na c) t) = true))), some (.int (nI (na c (39 + 12 * t)))), l15, l16, l17, l18, l19, l20, l21] [.int (pt (na c) (na c 3) t)] ν2 Y
  refine px_istore (ls' := [some (.ref 0), some (.ref (227 + 0)), some (.ref (227 + 1)), some (.ref (227 + 2)), some (.int (nI t)), some (.int (nI (OV (na c) (na c 3) t))), some (.int (nI (tl (na c) t))), some (.int (nI (na c (39 + 12 * t)))), some (.int (nI (pvx (na c) t (tl (na c) t)))), some (.int (nI (pvy (na c) t (tl (na c) t)))), some (.int (nI (wd (na c) t (tl (na c) t)))), some (.int (nI (qd (na c) (na c 3) t (tl (na c) t)))), some (.int (nI (hd (na c) t (tl (na c) t)))), some (.int (kb (lob (na c) t (tl (na c) t) = true))), some (.int (pt (na c) (na c 3) t)), l15, l16, l17, l18, l19, l20, l21]) dL_way_446 rfl rfl (by decide) ?_
  refine pw_aload_n dL_way_448 rfl ?_
  refine pw_iload dL_way_449 rfl ?_
  refine pw_iconst_ (v := nI 1) dL_way_451 (by decide) ?_
  refine pl_callV (b := 0) (As := [.int (nI t), .int (nI 1)]) (st := []) dL_way_452 cv_L_9 rfl ⟨by decide, by decide +kernel⟩ (Nat.le_of_ble_eq_true rfl) (Nat.le_of_ble_eq_true rfl) (Nat.le_refl _) (Nat.le_refl _) ?_
  refine l_teamOf (x := nI (OV (na c) (na c 3) t)) hw hx2 ht (by decide) rfl (fun ν3 hx3 => ?_)
  show PL l E D cA Y.length (kv_sum Y) mL_way (d + 6) fin 455 [some (.ref 0), some (.ref (227 + 0)), some (.ref (227 + 1)), some (.ref (227 + 2)), some (.int (nI t)), some (.int (nI (OV (na c) (na c 3) t))), some (.int (nI (tl (na c) t))), some (.int (nI (na c (39 + 12 * t)))), some (.int (nI (pvx (na c) t (tl (na c) t)))), some (.int (nI (pvy (na c) t (tl (na c) t)))), some (.int (nI (wd (na c) t (tl (na c) t)))), some (.int (nI (qd (na c) (na c 3) t (tl (na c) t)))), some (.int (nI (hd (na c) t (tl (na c) t)))), some (.int (kb (lob (na c) t (tl (na c) t) = true))), some (.int (pt (na c) (na c 3) t)), l15, l16, l17, l18, l19, l20, l21] [.int (nI (OV (na c) (na c 3) t))] ν3 Y
  refine pw_iload dL_way_455 rfl ?_
  refine pw_icmp_ne (tgt := 538) dL_way_457 (by decide) (fun h9 => absurd rfl h9) (fun _ => ?_)
  refine pw_aload_n dL_way_460 rfl ?_
  refine pw_iload dL_way_461 rfl ?_
  refine pw_iconst_ (v := nI 2) dL_way_463 (by decide) ?_
  refine pl_callV (b := 0) (As := [.int (nI t), .int (nI 2)]) (st := []) dL_way_464 cv_L_9 rfl ⟨by decide, by decide +kernel⟩ (Nat.le_of_ble_eq_true rfl) (Nat.le_of_ble_eq_true rfl) (Nat.le_refl _) (Nat.le_refl _) ?_
  refine l_teamOf (x := nI (na c (39 + 12 * t))) hw hx3 ht (by decide) rfl (fun ν4 hx4 => ?_)
  show PL l E D cA Y.length (kv_sum Y) mL_way (d + 6) fin 467 [some (.ref 0), some (.ref (227 + 0)), some (.ref (227 + 1)), some (.ref (227 + 2)), some (.int (nI t)), some (.int (nI (OV (na c) (na c 3) t))), some (.int (nI (tl (na c) t))), some (.int (nI (na c (39 + 12 * t)))), some (.int (nI (pvx (na c) t (tl (na c) t)))), some (.int (nI (pvy (na c) t (tl (na c) t)))), some (.int (nI (wd (na c) t (tl (na c) t)))), some (.int (nI (qd (na c) (na c 3) t (tl (na c) t)))), some (.int (nI (hd (na c) t (tl (na c) t)))), some (.int (kb (lob (na c) t (tl (na c) t) = true))), some (.int (pt (na c) (na c 3) t)), l15, l16, l17, l18, l19, l20, l21] [.int (nI (na c (39 + 12 * t)))] ν4 Y
  refine pw_iload dL_way_467 rfl ?_
  refine pw_icmp_ne (tgt := 538) dL_way_469 (by decide) (fun h9 => absurd rfl h9) (fun _ => ?_)
  refine pw_aload_n dL_way_472 rfl ?_
  refine pw_iload dL_way_473 rfl ?_
  refine pw_iconst_ (v := nI 3) dL_way_475 (by decide) ?_
  refine pl_callV (b := 0) (As := [.int (nI t), .int (nI 3)]) (st := []) dL_way_476 cv_L_9 rfl ⟨by decide, by decide +kernel⟩ (Nat.le_of_ble_eq_true rfl) (Nat.le_of_ble_eq_true rfl) (Nat.le_refl _) (Nat.le_refl _) ?_
  refine l_teamOf (x := nI (tl (na c) t)) hw hx4 ht (by decide) rfl (fun ν5 hx5 => ?_)
  show PL l E D cA Y.length (kv_sum Y) mL_way (d + 6) fin 479 [some (.ref 0), some (.ref (227 + 0)), some (.ref (227 + 1)), some (.ref (227 + 2)), some (.int (nI t)), some (.int (nI (OV (na c) (na c 3) t))), some (.int (nI (tl (na c) t))), some (.int (nI (na c (39 + 12 * t)))), some (.int (nI (pvx (na c) t (tl (na c) t)))), some (.int (nI (pvy (na c) t (tl (na c) t)))), some (.int (nI (wd (na c) t (tl (na c) t)))), some (.int (nI (qd (na c) (na c 3) t (tl (na c) t)))), some (.int (nI (hd (na c) t (tl (na c) t)))), some (.int (kb (lob (na c) t (tl (na c) t) = true))), some (.int (pt (na c) (na c 3) t)), l15, l16, l17, l18, l19, l20, l21] [.int (nI (tl (na c) t))] ν5 Y
  refine pw_iload dL_way_479 rfl ?_
  refine pw_icmp_ne (tgt := 538) dL_way_481 (by decide) (fun h9 => absurd rfl h9) (fun _ => ?_)
  refine pw_aload_n dL_way_484 rfl ?_
  refine pw_iload dL_way_485 rfl ?_
  refine pw_iconst_ (v := nI 4) dL_way_487 (by decide) ?_
  refine pl_callV (b := 0) (As := [.int (nI t), .int (nI 4)]) (st := []) dL_way_488 cv_L_9 rfl ⟨by decide, by decide +kernel⟩ (Nat.le_of_ble_eq_true rfl) (Nat.le_of_ble_eq_true rfl) (Nat.le_refl _) (Nat.le_refl _) ?_
  refine l_teamOf (x := nI (qd (na c) (na c 3) t (tl (na c) t))) hw hx5 ht (by decide) rfl (fun ν6 hx6 => ?_)
  show PL l E D cA Y.length (kv_sum Y) mL_way (d + 6) fin 491 [some (.ref 0), some (.ref (227 + 0)), some (.ref (227 + 1)), some (.ref (227 + 2)), some (.int (nI t)), some (.int (nI (OV (na c) (na c 3) t))), some (.int (nI (tl (na c) t))), some (.int (nI (na c (39 + 12 * t)))), some (.int (nI (pvx (na c) t (tl (na c) t)))), some (.int (nI (pvy (na c) t (tl (na c) t)))), some (.int (nI (wd (na c) t (tl (na c) t)))), some (.int (nI (qd (na c) (na c 3) t (tl (na c) t)))), some (.int (nI (hd (na c) t (tl (na c) t)))), some (.int (kb (lob (na c) t (tl (na c) t) = true))), some (.int (pt (na c) (na c 3) t)), l15, l16, l17, l18, l19, l20, l21] [.int (nI (qd (na c) (na c 3) t (tl (na c) t)))] ν6 Y
  refine pw_iload dL_way_491 rfl ?_
  refine pw_icmp_ne (tgt := 538) dL_way_493 (by decide) (fun h9 => absurd rfl h9) (fun _ => ?_)
  refine pw_aload_n dL_way_496 rfl ?_
  refine pw_iload dL_way_497 rfl ?_
  refine pw_iconst_ (v := nI 5) dL_way_499 (by decide) ?_
  refine pl_callV (b := 0) (As := [.int (nI t), .int (nI 5)]) (st := []) dL_way_500 cv_L_9 rfl ⟨by decide, by decide +kernel⟩ (Nat.le_of_ble_eq_true rfl) (Nat.le_of_ble_eq_true rfl) (Nat.le_refl _) (Nat.le_refl _) ?_
  refine l_teamOf (x := nI (wd (na c) t (tl (na c) t))) hw hx6 ht (by decide) rfl (fun ν7 hx7 => ?_)
  show PL l E D cA Y.length (kv_sum Y) mL_way (d + 6) fin 503 [some (.ref 0), some (.ref (227 + 0)), some (.ref (227 + 1)), some (.ref (227 + 2)), some (.int (nI t)), some (.int (nI (OV (na c) (na c 3) t))), some (.int (nI (tl (na c) t))), some (.int (nI (na c (39 + 12 * t)))), some (.int (nI (pvx (na c) t (tl (na c) t)))), some (.int (nI (pvy (na c) t (tl (na c) t)))), some (.int (nI (wd (na c) t (tl (na c) t)))), some (.int (nI (qd (na c) (na c 3) t (tl (na c) t)))), some (.int (nI (hd (na c) t (tl (na c) t)))), some (.int (kb (lob (na c) t (tl (na c) t) = true))), some (.int (pt (na c) (na c 3) t)), l15, l16, l17, l18, l19, l20, l21] [.int (nI (wd (na c) t (tl (na c) t)))] ν7 Y
  refine pw_iload dL_way_503 rfl ?_
  refine pw_icmp_ne (tgt := 538) dL_way_505 (by decide) (fun h9 => absurd rfl h9) (fun _ => ?_)
  refine pw_aload_n dL_way_508 rfl ?_
  refine pw_iload dL_way_509 rfl ?_
  refine pw_bipush (v := nI 6) dL_way_511 (by decide) ?_
  refine pl_callV (b := 0) (As := [.int (nI t), .int (nI 6)]) (st := []) dL_way_513 cv_L_9 rfl ⟨by decide, by decide +kernel⟩ (Nat.le_of_ble_eq_true rfl) (Nat.le_of_ble_eq_true rfl) (Nat.le_refl _) (Nat.le_refl _) ?_
  refine l_teamOf (x := (pt (na c) (na c 3) t)) hw hx7 ht (by decide) rfl (fun ν8 hx8 => ?_)
  show PL l E D cA Y.length (kv_sum Y) mL_way (d + 6) fin 516 [some (.ref 0), some (.ref (227 + 0)), some (.ref (227 + 1)), some (.ref (227 + 2)), some (.int (nI t)), some (.int (nI (OV (na c) (na c 3) t))), some (.int (nI (tl (na c) t))), some (.int (nI (na c (39 + 12 * t)))), some (.int (nI (pvx (na c) t (tl (na c) t)))), some (.int (nI (pvy (na c) t (tl (na c) t)))), some (.int (nI (wd (na c) t (tl (na c) t)))), some (.int (nI (qd (na c) (na c 3) t (tl (na c) t)))), some (.int (nI (hd (na c) t (tl (na c) t)))), some (.int (kb (lob (na c) t (tl (na c) t) = true))), some (.int (pt (na c) (na c 3) t)), l15, l16, l17, l18, l19, l20, l21] [.int (pt (na c) (na c 3) t)] ν8 Y
  refine pw_iload dL_way_516 rfl ?_
  refine pw_icmp_ne (tgt := 538) dL_way_518 (by decide) (fun h9 => absurd rfl h9) (fun _ => ?_)
  refine pw_aload_n dL_way_521 rfl ?_
  refine pw_iload dL_way_522 rfl ?_
  refine pw_bipush (v := nI 8) dL_way_524 (by decide) ?_
  refine pl_callV (b := 0) (As := [.int (nI t), .int (nI 8)]) (st := []) dL_way_526 cv_L_9 rfl ⟨by decide, by decide +kernel⟩ (Nat.le_of_ble_eq_true rfl) (Nat.le_of_ble_eq_true rfl) (Nat.le_refl _) (Nat.le_refl _) ?_
  refine l_teamOf (x := nI (hd (na c) t (tl (na c) t))) hw hx8 ht (by decide) rfl (fun ν9 hx9 => ?_)
  show PL l E D cA Y.length (kv_sum Y) mL_way (d + 6) fin 529 [some (.ref 0), some (.ref (227 + 0)), some (.ref (227 + 1)), some (.ref (227 + 2)), some (.int (nI t)), some (.int (nI (OV (na c) (na c 3) t))), some (.int (nI (tl (na c) t))), some (.int (nI (na c (39 + 12 * t)))), some (.int (nI (pvx (na c) t (tl (na c) t)))), some (.int (nI (pvy (na c) t (tl (na c) t)))), some (.int (nI (wd (na c) t (tl (na c) t)))), some (.int (nI (qd (na c) (na c 3) t (tl (na c) t)))), some (.int (nI (hd (na c) t (tl (na c) t)))), some (.int (kb (lob (na c) t (tl (na c) t) = true))), some (.int (pt (na c) (na c 3) t)), l15, l16, l17, l18, l19, l20, l21] [.int (nI (hd (na c) t (tl (na c) t)))] ν9 Y
  refine pw_iload dL_way_529 rfl ?_
  refine pw_icmp_ne (tgt := 538) dL_way_531 (by decide) (fun h9 => absurd rfl h9) (fun _ => ?_)
  refine pw_iconst_ (v := nI 1) dL_way_534 (by decide) ?_
  refine pw_goto (tgt := 539) dL_way_535 (by decide) ?_
  refine px_istore (ls' := [some (.ref 0), some (.ref (227 + 0)), some (.ref (227 + 1)), some (.ref (227 + 2)), some (.int (nI t)), some (.int (nI (OV (na c) (na c 3) t))), some (.int (nI (tl (na c) t))), some (.int (nI (na c (39 + 12 * t)))), some (.int (nI (pvx (na c) t (tl (na c) t)))), some (.int (nI (pvy (na c) t (tl (na c) t)))), some (.int (nI (wd (na c) t (tl (na c) t)))), some (.int (nI (qd (na c) (na c 3) t (tl (na c) t)))), some (.int (nI (hd (na c) t (tl (na c) t)))), some (.int (kb (lob (na c) t (tl (na c) t) = true))), some (.int (pt (na c) (na c 3) t)), some (.int (nI 1)), l16, l17, l18, l19, l20, l21]) dL_way_539 rfl rfl (by decide) ?_
  refine pw_iload dL_way_541 rfl ?_
  skip
  refine pw_if_eq (tgt := 603) dL_way_543 (by decide) (fun h9 => absurd h9 (by decide)) (fun _ => ?_)
  refine pw_aload_n dL_way_546 rfl ?_
  refine pw_iload dL_way_547 rfl ?_
  refine pw_iload dL_way_549 rfl ?_
  refine pw_iconst_ (v := nI 0) dL_way_551 (by decide) ?_
  refine pl_callV (b := 0) (As := [.int (nI t), .int (nI (tl (na c) t)), .int (nI 0)]) (st := []) dL_way_552 cv_L_27 rfl ⟨by decide, by decide +kernel⟩ (Nat.le_of_ble_eq_true rfl) (Nat.le_of_ble_eq_true rfl) (Nat.le_refl _) (Nat.le_refl _) ?_
  refine l_visitN (x := (-100006)) hw hx9 ht (inT_no (Nat.le_refl _) (by omega)) (by decide) rfl (fun ν10 hx10 => ?_)
  show PL l E D cA Y.length (kv_sum Y) mL_way (d + 6) fin 555 [some (.ref 0), some (.ref (227 + 0)), some (.ref (227 + 1)), some (.ref (227 + 2)), some (.int (nI t)), some (.int (nI (OV (na c) (na c 3) t))), some (.int (nI (tl (na c) t))), some (.int (nI (na c (39 + 12 * t)))), some (.int (nI (pvx (na c) t (tl (na c) t)))), some (.int (nI (pvy (na c) t (tl (na c) t)))), some (.int (nI (wd (na c) t (tl (na c) t)))), some (.int (nI (qd (na c) (na c 3) t (tl (na c) t)))), some (.int (nI (hd (na c) t (tl (na c) t)))), some (.int (kb (lob (na c) t (tl (na c) t) = true))), some (.int (pt (na c) (na c 3) t)), some (.int (nI 1)), l16, l17, l18, l19, l20, l21] [.int (-100006)] ν10 Y
  refine pw_ldc dL_way_555 kc_L_37 ?_
  refine pw_icmp_ne (tgt := 603) dL_way_557 (by decide) (fun h9 => absurd rfl h9) (fun _ => ?_)
  refine pw_aload_n dL_way_560 rfl ?_
  refine pw_iload dL_way_561 rfl ?_
  refine pw_iconst_ (v := (-1)) dL_way_563 (by decide) ?_
  refine pw_iconst_ (v := nI 0) dL_way_564 (by decide) ?_
  refine pl_callV (b := 0) (As := [.int (nI t), .int (-1), .int (nI 0)]) (st := []) dL_way_565 cv_L_27 rfl ⟨by decide, by decide +kernel⟩ (Nat.le_of_ble_eq_true rfl) (Nat.le_of_ble_eq_true rfl) (Nat.le_refl _) (Nat.le_refl _) ?_
  refine l_visitN (x := (-100006)) hw hx10 ht (inT_neg (by omega)) (by decide) rfl (fun ν11 hx11 => ?_)
  show PL l E D cA Y.length (kv_sum Y) mL_way (d + 6) fin 568 [some (.ref 0), some (.ref (227 + 0)), some (.ref (227 + 1)), some (.ref (227 + 2)), some (.int (nI t)), some (.int (nI (OV (na c) (na c 3) t))), some (.int (nI (tl (na c) t))), some (.int (nI (na c (39 + 12 * t)))), some (.int (nI (pvx (na c) t (tl (na c) t)))), some (.int (nI (pvy (na c) t (tl (na c) t)))), some (.int (nI (wd (na c) t (tl (na c) t)))), some (.int (nI (qd (na c) (na c 3) t (tl (na c) t)))), some (.int (nI (hd (na c) t (tl (na c) t)))), some (.int (kb (lob (na c) t (tl (na c) t) = true))), some (.int (pt (na c) (na c 3) t)), some (.int (nI 1)), l16, l17, l18, l19, l20, l21] [.int (-100006)] ν11 Y
  refine pw_ldc dL_way_568 kc_L_37 ?_
  refine pw_icmp_ne (tgt := 603) dL_way_570 (by decide) (fun h9 => absurd rfl h9) (fun _ => ?_)
  refine pw_aload_n dL_way_573 rfl ?_
  refine pw_iload dL_way_574 rfl ?_
  refine pw_iload dL_way_576 rfl ?_
  refine pl_callV (b := 0) (As := [.int (nI t), .int (nI (OV (na c) (na c 3) t))]) (st := []) dL_way_578 cv_L_31 rfl ⟨by decide, by decide +kernel⟩ (Nat.le_of_ble_eq_true rfl) (Nat.le_of_ble_eq_true rfl) (Nat.le_refl _) (Nat.le_refl _) ?_
  refine l_told (x := (-100006)) hw hx11 ht (by omega) (by rw [tld_end hw.1 (Nat.le_refl _) ht (by omega)]; rfl) (fun ν12 hx12 => ?_)
  show PL l E D cA Y.length (kv_sum Y) mL_way (d + 6) fin 581 [some (.ref 0), some (.ref (227 + 0)), some (.ref (227 + 1)), some (.ref (227 + 2)), some (.int (nI t)), some (.int (nI (OV (na c) (na c 3) t))), some (.int (nI (tl (na c) t))), some (.int (nI (na c (39 + 12 * t)))), some (.int (nI (pvx (na c) t (tl (na c) t)))), some (.int (nI (pvy (na c) t (tl (na c) t)))), some (.int (nI (wd (na c) t (tl (na c) t)))), some (.int (nI (qd (na c) (na c 3) t (tl (na c) t)))), some (.int (nI (hd (na c) t (tl (na c) t)))), some (.int (kb (lob (na c) t (tl (na c) t) = true))), some (.int (pt (na c) (na c 3) t)), some (.int (nI 1)), l16, l17, l18, l19, l20, l21] [.int (-100006)] ν12 Y
  refine pw_ldc dL_way_581 kc_L_37 ?_
  refine pw_icmp_ne (tgt := 603) dL_way_583 (by decide) (fun h9 => absurd rfl h9) (fun _ => ?_)
  refine pw_aload_n dL_way_586 rfl ?_
  refine pw_iload dL_way_587 rfl ?_
  refine pw_iload dL_way_589 rfl ?_
  refine pl_callV (b := 0) (As := [.int (nI t), .int (nI (OV (na c) (na c 3) t))]) (st := []) dL_way_591 cv_L_34 rfl ⟨by decide, by decide +kernel⟩ (Nat.le_of_ble_eq_true rfl) (Nat.le_of_ble_eq_true rfl) (Nat.le_refl _) (Nat.le_refl _) ?_
  refine l_where (x := (-100006)) hw hx12 ht (by omega) (by rw [whr_walk hw.1 (Nat.le_refl _) ht (v := tl (na c) t) (Nat.le_refl _) (by omega) (fun q => absurd q (Nat.lt_irrefl _))]; rfl) (fun ν13 hx13 => ?_)
  show PL l E D cA Y.length (kv_sum Y) mL_way (d + 6) fin 594 [some (.ref 0), some (.ref (227 + 0)), some (.ref (227 + 1)), some (.ref (227 + 2)), some (.int (nI t)), some (.int (nI (OV (na c) (na c 3) t))), some (.int (nI (tl (na c) t))), some (.int (nI (na c (39 + 12 * t)))), some (.int (nI (pvx (na c) t (tl (na c) t)))), some (.int (nI (pvy (na c) t (tl (na c) t)))), some (.int (nI (wd (na c) t (tl (na c) t)))), some (.int (nI (qd (na c) (na c 3) t (tl (na c) t)))), some (.int (nI (hd (na c) t (tl (na c) t)))), some (.int (kb (lob (na c) t (tl (na c) t) = true))), some (.int (pt (na c) (na c 3) t)), some (.int (nI 1)), l16, l17, l18, l19, l20, l21] [.int (-100006)] ν13 Y
  refine pw_ldc dL_way_594 kc_L_37 ?_
  refine pw_icmp_ne (tgt := 603) dL_way_596 (by decide) (fun h9 => absurd rfl h9) (fun _ => ?_)
  refine pw_iconst_ (v := nI 1) dL_way_599 (by decide) ?_
  refine pw_goto (tgt := 604) dL_way_600 (by decide) ?_
  exact pl_iret dL_way_604 rfl (by decide) rfl rfl (hf _ hx13)
set_option maxRecDepth 100000 in
set_option maxHeartbeats 4000000 in
theorem w_way {c : CS} (hw : CW c) (hx : CX μ c) {r h lo : Nat → Int32} (h0 : Y[0]? = some (yr r 48)) (h1 : Y[1]? = some (yr h 6)) (h2 : Y[2]? = some (yr lo 6)) (hL : LI c r h lo) {t : Nat} (ht : t < na c 3) (hf : ∀ ν : Mu, CX ν c → fin (some (.int (nI 1))) ν Y) : PL l E D cA Y.length (kv_sum Y) mL_way (d + 6) fin 0 [some (.ref 0), some (.ref (227 + 0)), some (.ref (227 + 1)), some (.ref (227 + 2)), some (.int (nI t)), none, none, none, none, none, none, none, none, none, none, none, none, none, none, none, none, none] [] μ Y := by
  have h6 := hw.1.t6
  obtain ⟨g1, g2, g3, g4, g5⟩ := hw.1.tm ht
  refine pw_aload_n dL_way_0 rfl ?_
  refine pw_iload dL_way_1 rfl ?_
  refine pw_iconst_ (v := nI 0) dL_way_3 (by decide) ?_
  refine pl_callV (b := 0) (As := [.int (nI t), .int (nI 0)]) (st := []) dL_way_4 cv_L_9 rfl ⟨by decide, by decide +kernel⟩ (Nat.le_of_ble_eq_true rfl) (Nat.le_of_ble_eq_true rfl) (Nat.le_refl _) (Nat.le_refl _) ?_
  refine l_teamOf (x := nI (na c (36 + 12 * t))) hw hx ht (by decide) rfl (fun ν1 hx1 => ?_)
  show PL l E D cA Y.length (kv_sum Y) mL_way (d + 6) fin 7 [some (.ref 0), some (.ref (227 + 0)), some (.ref (227 + 1)), some (.ref (227 + 2)), some (.int (nI t)), none, none, none, none, none, none, none, none, none, none, none, none, none, none, none, none, none] [.int (nI (na c (36 + 12 * t)))] ν1 Y
  refine px_istore (ls' := [some (.ref 0), some (.ref (227 + 0)), some (.ref (227 + 1)), some (.ref (227 + 2)), some (.int (nI t)), some (.int (nI (na c (36 + 12 * t)))), none, none, none, none, none, none, none, none, none, none, none, none, none, none, none, none]) dL_way_7 rfl rfl (by decide) ?_
  refine pw_iconst_ (v := nI 0) dL_way_9 (by decide) ?_
  refine px_istore (ls' := [some (.ref 0), some (.ref (227 + 0)), some (.ref (227 + 1)), some (.ref (227 + 2)), some (.int (nI t)), some (.int (nI (na c (36 + 12 * t)))), some (.int (nI 0)), none, none, none, none, none, none, none, none, none, none, none, none, none, none, none]) dL_way_10 rfl rfl (by decide) ?_
  refine pw_iconst_ (v := nI 0) dL_way_12 (by decide) ?_
  refine px_istore (ls' := [some (.ref 0), some (.ref (227 + 0)), some (.ref (227 + 1)), some (.ref (227 + 2)), some (.int (nI t)), some (.int (nI (na c (36 + 12 * t)))), some (.int (nI 0)), some (.int (nI 0)), none, none, none, none, none, none, none, none, none, none, none, none, none, none]) dL_way_13 rfl rfl (by decide) ?_
  refine pw_iconst_ (v := nI 0) dL_way_15 (by decide) ?_
  refine px_istore (ls' := [some (.ref 0), some (.ref (227 + 0)), some (.ref (227 + 1)), some (.ref (227 + 2)), some (.int (nI t)), some (.int (nI (na c (36 + 12 * t)))), some (.int (nI 0)), some (.int (nI 0)), some (.int (nI 0)), none, none, none, none, none, none, none, none, none, none, none, none, none]) dL_way_16 rfl rfl (by decide) ?_
  refine pw_iconst_ (v := nI 0) dL_way_18 (by decide) ?_
  refine px_istore (ls' := [some (.ref 0), some (.ref (227 + 0)), some (.ref (227 + 1)), some (.ref (227 + 2)), some (.int (nI t)), some (.int (nI (na c (36 + 12 * t)))), some (.int (nI 0)), some (.int (nI 0)), some (.int (nI 0)), some (.int (nI 0)), none, none, none, none, none, none, none, none, none, none, none, none]) dL_way_19 rfl rfl (by decide) ?_
  refine pw_iconst_ (v := nI 0) dL_way_21 (by decide) ?_
  refine px_istore (ls' := [some (.ref 0), some (.ref (227 + 0)), some (.ref (227 + 1)), some (.ref (227 + 2)), some (.int (nI t)), some (.int (nI (na c (36 + 12 * t)))), some (.int (nI 0)), some (.int (nI 0)), some (.int (nI 0)), some (.int (nI 0)), some (.int (nI 0)), none, none, none, none, none, none, none, none, none, none, none]) dL_way_22 rfl rfl (by decide) ?_
  refine pw_iconst_ (v := nI 0) dL_way_24 (by decide) ?_
  refine px_istore (ls' := [some (.ref 0), some (.ref (227 + 0)), some (.ref (227 + 1)), some (.ref (227 + 2)), some (.int (nI t)), some (.int (nI (na c (36 + 12 * t)))), some (.int (nI 0)), some (.int (nI 0)), some (.int (nI 0)), some (.int (nI 0)), some (.int (nI 0)), some (.int (nI 0)), none, none, none, none, none, none, none, none, none, none]) dL_way_25 rfl rfl (by decide) ?_
  refine pw_iconst_ (v := nI 0) dL_way_27 (by decide) ?_
  refine px_istore (ls' := [some (.ref 0), some (.ref (227 + 0)), some (.ref (227 + 1)), some (.ref (227 + 2)), some (.int (nI t)), some (.int (nI (na c (36 + 12 * t)))), some (.int (nI 0)), some (.int (nI 0)), some (.int (nI 0)), some (.int (nI 0)), some (.int (nI 0)), some (.int (nI 0)), some (.int (nI 0)), none, none, none, none, none, none, none, none, none]) dL_way_28 rfl rfl (by decide) ?_
  refine pw_iconst_ (v := nI 0) dL_way_30 (by decide) ?_
  refine px_istore (ls' := [some (.ref 0), some (.ref (227 + 0)), some (.ref (227 + 1)), some (.ref (227 + 2)), some (.int (nI t)), some (.int (nI (na c (36 + 12 * t)))), some (.int (nI 0)), some (.int (nI 0)), some (.int (nI 0)), some (.int (nI 0)), some (.int (nI 0)), some (.int (nI 0)), some (.int (nI 0)), some (.int (nI 0)), none, none, none, none, none, none, none, none]) dL_way_31 rfl rfl (by decide) ?_
  refine pw_iconst_ (v := nI 0) dL_way_33 (by decide) ?_
  refine px_istore (ls' := [some (.ref 0), some (.ref (227 + 0)), some (.ref (227 + 1)), some (.ref (227 + 2)), some (.int (nI t)), some (.int (nI (na c (36 + 12 * t)))), some (.int (nI 0)), some (.int (nI 0)), some (.int (nI 0)), some (.int (nI 0)), some (.int (nI 0)), some (.int (nI 0)), some (.int (nI 0)), some (.int (nI 0)), some (.int (nI 0)), none, none, none, none, none, none, none]) dL_way_34 rfl rfl (by decide) ?_
  have lp : ∀ i : Nat, i ≤ na c (39 + 12 * t) → ∀ (ν : Mu) (l15 l16 l17 l18 l19 l20 l21 : Option Value), CX ν c → PL l E D cA Y.length (kv_sum Y) mL_way (d + 6) fin 36 [some (.ref 0), some (.ref (227 + 0)), some (.ref (227 + 1)), some (.ref (227 + 2)), some (.int (nI t)), some (.int (nI (ato (na c) (na c 3) t (tn (na c) t i)))), some (.int (nI (tn (na c) t i))), some (.int (nI i)), some (.int (nI (pvx (na c) t (tn (na c) t i)))), some (.int (nI (pvy (na c) t (tn (na c) t i)))), some (.int (nI (wd (na c) t (tn (na c) t i)))), some (.int (nI (qd (na c) (na c 3) t (tn (na c) t i)))), some (.int (nI (hd (na c) t (tn (na c) t i)))), some (.int (kb (lob (na c) t (tn (na c) t i) = true))), some (.int (nI i)), l15, l16, l17, l18, l19, l20, l21] [] ν Y := by
    refine ps_for _ ?_ ?_
    · intro ν l15 l16 l17 l18 l19 l20 l21 hν
      refine pw_iload dL_way_36 rfl ?_
      refine pw_bipush (v := nI 8) dL_way_38 (by decide) ?_
      refine pn_ge (tgt := 426) dL_way_40 (by decide) (by omega) (by omega) (fun hc => ?_) (fun hc => ?_)
      · exact w_way_e hw hν h0 h1 h2 hL ht hf
      · refine pw_aload_n dL_way_43 rfl ?_
        refine pw_bipush (v := nI 8) dL_way_44 (by decide) ?_
        refine pw_iload dL_way_46 rfl ?_
        refine px_imuln (c := 8 * t) dL_way_48 (by omega) ?_
        refine pw_iload dL_way_49 rfl ?_
        refine px_iaddn (c := 8 * t + (na c (39 + 12 * t))) dL_way_51 (by omega) ?_
        refine pl_iald (i := 0) (j := 8 * t + (na c (39 + 12 * t))) (n := 48) (f := r) (x := (-1)) dL_way_52 rfl (by omega) (by decide) h0 (by rw [(hL t ht).1 _ (by omega), if_neg (Nat.lt_irrefl _)]) ?_
        refine pw_if_lt (tgt := 426) dL_way_53 (by decide) (fun _ => ?_) (fun h9 => absurd (show (-1 : Int32) < 0 by decide) h9)
        exact w_way_e hw hν h0 h1 h2 hL ht hf
    · intro i hi ih ν l15 l16 l17 l18 l19 l20 l21 hν
      have hp8 := g5 i hi
      have hr : r (8 * t + i) = nI (na c (40 + 12 * t + i)) := by rw [(hL t ht).1 _ (by omega), if_pos hi]
      obtain ⟨p1, p2, p3, p4⟩ := hw.1.pl hp8
      refine pw_iload dL_way_36 rfl ?_
      refine pw_bipush (v := nI 8) dL_way_38 (by decide) ?_
      refine pn_ge (tgt := 426) dL_way_40 (by decide) (by omega) (by omega) (fun h9 => absurd h9 (by omega)) (fun _ => ?_)
      refine pw_aload_n dL_way_43 rfl ?_
      refine pw_bipush (v := nI 8) dL_way_44 (by decide) ?_
      refine pw_iload dL_way_46 rfl ?_
      refine px_imuln (c := 8 * t) dL_way_48 (by omega) ?_
      refine pw_iload dL_way_49 rfl ?_
      refine px_iaddn (c := 8 * t + i) dL_way_51 (by omega) ?_
      refine pl_iald (i := 0) (j := 8 * t + i) (n := 48) (f := r) (x := (nI (na c (40 + 12 * t + i)))) dL_way_52 rfl (by omega) (by decide) h0 hr ?_
      refine pw_if_lt (tgt := 426) dL_way_53 (by decide) (fun h9 => absurd h9 (nI_pos (by omega))) (fun _ => ?_)
      refine pw_aload_n dL_way_56 rfl ?_
      refine pw_bipush (v := nI 8) dL_way_57 (by decide) ?_
      refine pw_iload dL_way_59 rfl ?_
      refine px_imuln (c := 8 * t) dL_way_61 (by omega) ?_
      refine pw_iload dL_way_62 rfl ?_
      refine px_iaddn (c := 8 * t + i) dL_way_64 (by omega) ?_
      refine pl_iald (i := 0) (j := 8 * t + i) (n := 48) (f := r) (x := (nI (na c (40 + 12 * t + i)))) dL_way_65 rfl (by omega) (by decide) h0 hr ?_
      refine px_istore (ls' := [some (.ref 0), some (.ref (227 + 0)), some (.ref (227 + 1)), some (.ref (227 + 2)), some (.int (nI t)), some (.int (nI (ato (na c) (na c 3) t (tn (na c) t i)))), some (.int (nI (tn (na c) t i))), some (.int (nI i)), some (.int (nI (pvx (na c) t (tn (na c) t i)))), some (.int (nI (pvy (na c) t (tn (na c) t i)))), some (.int (nI (wd (na c) t (tn (na c) t i)))), some (.int (nI (qd (na c) (na c 3) t (tn (na c) t i)))), some (.int (nI (hd (na c) t (tn (na c) t i)))), some (.int (kb (lob (na c) t (tn (na c) t i) = true))), some (.int (nI i)), some (.int (nI (na c (40 + 12 * t + i)))), l16, l17, l18, l19, l20, l21]) dL_way_66 rfl rfl (by decide) ?_
      refine px_iincn (n := 1) (a := i) (b := i + 1) (ls' := [some (.ref 0), some (.ref (227 + 0)), some (.ref (227 + 1)), some (.ref (227 + 2)), some (.int (nI t)), some (.int (nI (ato (na c) (na c 3) t (tn (na c) t i)))), some (.int (nI (tn (na c) t i))), some (.int (nI (i + 1))), some (.int (nI (pvx (na c) t (tn (na c) t i)))), some (.int (nI (pvy (na c) t (tn (na c) t i)))), some (.int (nI (wd (na c) t (tn (na c) t i)))), some (.int (nI (qd (na c) (na c 3) t (tn (na c) t i)))), some (.int (nI (hd (na c) t (tn (na c) t i)))), some (.int (kb (lob (na c) t (tn (na c) t i) = true))), some (.int (nI i)), some (.int (nI (na c (40 + 12 * t + i)))), l16, l17, l18, l19, l20, l21]) dL_way_68 rfl rfl rfl (by omega) ?_
      refine pw_aload_n dL_way_71 rfl ?_
      refine pw_iload dL_way_72 rfl ?_
      refine pw_iconst_ (v := nI 3) dL_way_74 (by decide) ?_
      refine pl_callV (b := 0) (As := [.int (nI (na c (40 + 12 * t + i))), .int (nI 3)]) (st := []) dL_way_75 cv_L_15 rfl ⟨by decide, by decide +kernel⟩ (Nat.le_of_ble_eq_true rfl) (Nat.le_of_ble_eq_true rfl) (Nat.le_refl _) (Nat.le_refl _) ?_
      refine l_placeOf (x := (nI (1 - na c (7 + 4 * na c (40 + 12 * t + i))))) hw hν hp8 (by decide) rfl (fun ν1 hx1 => ?_)
      show PL l E D cA Y.length (kv_sum Y) mL_way (d + 6) fin 78 [some (.ref 0), some (.ref (227 + 0)), some (.ref (227 + 1)), some (.ref (227 + 2)), some (.int (nI t)), some (.int (nI (ato (na c) (na c 3) t (tn (na c) t i)))), some (.int (nI (tn (na c) t i))), some (.int (nI (i + 1))), some (.int (nI (pvx (na c) t (tn (na c) t i)))), some (.int (nI (pvy (na c) t (tn (na c) t i)))), some (.int (nI (wd (na c) t (tn (na c) t i)))), some (.int (nI (qd (na c) (na c 3) t (tn (na c) t i)))), some (.int (nI (hd (na c) t (tn (na c) t i)))), some (.int (kb (lob (na c) t (tn (na c) t i) = true))), some (.int (nI i)), some (.int (nI (na c (40 + 12 * t + i)))), l16, l17, l18, l19, l20, l21] [.int (nI (1 - na c (7 + 4 * na c (40 + 12 * t + i))))] ν1 Y
      by_cases ho : na c (7 + 4 * na c (40 + 12 * t + i)) = 0
      · refine pw_if_ne (tgt := 84) dL_way_78 (by decide) (fun _ => ?_) (fun h9 => absurd h9 (by rw [ho]; decide))
        obtain ⟨hv, hn⟩ := trv_at hi ho
        have hv2 : trv (na c) t (tn (na c) t i) = na c (40 + 12 * t + i) := hv
        rw [tn_o ho] at ih
        rw [← hv2]
        exact w_way_o hw hx1 h0 h1 h2 hL ht hi hn ih
      · refine pw_if_ne (tgt := 84) dL_way_78 (by decide) (fun h9 => absurd h9 (fun q => q (by rw [show na c (7 + 4 * na c (40 + 12 * t + i)) = 1 by omega]; rfl))) (fun _ => ?_)
        refine pw_goto (tgt := 420) dL_way_81 (by decide) ?_
        refine px_iincn (n := 1) (a := i) (b := i + 1) (ls' := [some (.ref 0), some (.ref (227 + 0)), some (.ref (227 + 1)), some (.ref (227 + 2)), some (.int (nI t)), some (.int (nI (ato (na c) (na c 3) t (tn (na c) t i)))), some (.int (nI (tn (na c) t i))), some (.int (nI (i + 1))), some (.int (nI (pvx (na c) t (tn (na c) t i)))), some (.int (nI (pvy (na c) t (tn (na c) t i)))), some (.int (nI (wd (na c) t (tn (na c) t i)))), some (.int (nI (qd (na c) (na c 3) t (tn (na c) t i)))), some (.int (nI (hd (na c) t (tn (na c) t i)))), some (.int (kb (lob (na c) t (tn (na c) t i) = true))), some (.int (nI (i + 1))), some (.int (nI (na c (40 + 12 * t + i)))), l16, l17, l18, l19, l20, l21]) dL_way_420 rfl rfl rfl (by omega) ?_
        refine pw_goto (tgt := 36) dL_way_423 (by decide) ?_
        rw [tn_c ho] at ih
        exact ih _ _ _ _ _ _ _ _ hx1
  exact lp 0 (Nat.zero_le _) _ none none none none none none none hx1
end WAY
