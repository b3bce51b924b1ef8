/-! the law: one place, its walk -/
def vI : Option Nat → Int32
  | none => -1
  | some v => nI v
section PLACE
variable {l : Launch} {E : EV} {D : va_G} {cA : Nat → ClassId} {fin : Option Value → Mu → List PE → Prop} {μ : Mu} {Y : List PE} {d : Nat}
set_option maxRecDepth 100000 in
set_option maxHeartbeats 4000000 in
theorem y_visit {c : CS} (hw : CW c) (hx : CX μ c) {t p : Nat} (ht : t < na c 3) (hp : p < 8) (hf : ∀ ν : Mu, CX ν c → fin (some (.int (vI (vis (na c) t p)))) ν Y) : PL l E D cA Y.length (kv_sum Y) mL_visit (d + 6) fin 0 [some (.ref 0), some (.int (nI t)), some (.int (nI p)), none] [] μ Y := by
  have h6 := hw.1.t6
  have h8 := tl_le hw.1 ht
  refine pw_iconst_ (v := nI 0) dL_visit_0 (by decide) ?_
  refine px_istore_n (ls' := [some (.ref 0), some (.int (nI t)), some (.int (nI p)), some (.int (nI 0))]) dL_visit_1 rfl rfl (by decide) ?_
  have lp : ∀ i : Nat, i ≤ tl (na c) t → ∀ ν : Mu, CX ν c → (∀ j, j < i → ¬ trv (na c) t j = p) → PL l E D cA Y.length (kv_sum Y) mL_visit (d + 6) fin 2 [some (.ref 0), some (.int (nI t)), some (.int (nI p)), some (.int (nI i))] [] ν Y := by
    refine ps_for _ ?_ ?_
    · intro ν hν hno
      refine pw_iload_n dL_visit_2 rfl ?_
      refine pw_aload_n dL_visit_3 rfl ?_
      refine pw_iload_n dL_visit_4 rfl ?_
      refine pw_iconst_ (v := nI 3) dL_visit_5 (by decide) ?_
      refine pl_callV (b := 0) (As := [.int (nI t), .int (nI 3)]) (st := [.int (nI (tl (na c) t))]) dL_visit_6 cv_L_9 rfl ⟨by decide, by decide +kernel⟩ (Nat.le_of_ble_eq_true rfl) (Nat.le_of_ble_eq_true rfl) (Nat.le_refl _) (Nat.le_refl _) ?_
      refine l_teamOf (x := nI (tl (na c) t)) hw hν ht (by decide) rfl (fun ν1 hx1 => ?_)
      show PL l E D cA Y.length (kv_sum Y) mL_visit (d + 6) fin 9 [some (.ref 0), some (.int (nI t)), some (.int (nI p)), some (.int (nI (tl (na c) t)))] [.int (nI (tl (na c) t)), .int (nI (tl (na c) t))] ν1 Y
      refine pn_ge (tgt := 31) dL_visit_9 (by decide) (by omega) (by omega) (fun _ => ?_) (fun h9 => absurd h9 (Nat.lt_irrefl _))
      refine pw_iconst_ (v := (-1)) dL_visit_31 (by decide) ?_
      have e9 : vis (na c) t p = none := fstN_none.mpr (fun j hj q => hno j hj (by simpa using q))
      rw [e9] at hf
      exact pl_iret dL_visit_32 rfl (rfl) rfl rfl (hf _ hx1)
    · intro i hi ih ν hν hno
      refine pw_iload_n dL_visit_2 rfl ?_
      refine pw_aload_n dL_visit_3 rfl ?_
      refine pw_iload_n dL_visit_4 rfl ?_
      refine pw_iconst_ (v := nI 3) dL_visit_5 (by decide) ?_
      refine pl_callV (b := 0) (As := [.int (nI t), .int (nI 3)]) (st := [.int (nI i)]) dL_visit_6 cv_L_9 rfl ⟨by decide, by decide +kernel⟩ (Nat.le_of_ble_eq_true rfl) (Nat.le_of_ble_eq_true rfl) (Nat.le_refl _) (Nat.le_refl _) ?_
      refine l_teamOf (x := nI (tl (na c) t)) hw hν ht (by decide) rfl (fun ν1 hx1 => ?_)
      show PL l E D cA Y.length (kv_sum Y) mL_visit (d + 6) fin 9 [some (.ref 0), some (.int (nI t)), some (.int (nI p)), some (.int (nI i))] [.int (nI (tl (na c) t)), .int (nI i)] ν1 Y
      refine pn_ge (tgt := 31) dL_visit_9 (by decide) (by omega) (by omega) (fun h9 => absurd h9 (by omega)) (fun _ => ?_)
      refine pw_aload_n dL_visit_12 rfl ?_
      refine pw_iload_n dL_visit_13 rfl ?_
      refine pw_iload_n dL_visit_14 rfl ?_
      refine pw_iconst_ (v := nI 0) dL_visit_15 (by decide) ?_
      refine pl_callV (b := 0) (As := [.int (nI t), .int (nI i), .int (nI 0)]) (st := []) dL_visit_16 cv_L_27 rfl ⟨by decide, by decide +kernel⟩ (Nat.le_of_ble_eq_true rfl) (Nat.le_of_ble_eq_true rfl) (Nat.le_refl _) (Nat.le_refl _) ?_
      refine l_visit (x := nI (trv (na c) t i)) hw hx1 ht hi (by decide) rfl (fun ν2 hx2 => ?_)
      show PL l E D cA Y.length (kv_sum Y) mL_visit (d + 6) fin 19 [some (.ref 0), some (.int (nI t)), some (.int (nI p)), some (.int (nI i))] [.int (nI (trv (na c) t i))] ν2 Y
      have htp := trv_lt hw.1 ht hi
      refine pw_iload_n dL_visit_19 rfl ?_
      refine pn_ne (tgt := 25) dL_visit_20 (by decide) (by omega) (by omega) (fun hc => ?_) (fun hc => ?_)
      · refine px_iincn (n := 1) (a := i) (b := i + 1) (ls' := [some (.ref 0), some (.int (nI t)), some (.int (nI p)), some (.int (nI (i + 1)))]) dL_visit_25 rfl rfl rfl (by omega) ?_
        refine pw_goto (tgt := 2) dL_visit_28 (by decide) ?_
        exact ih _ hx2 (fun j hj => (Nat.lt_succ_iff_lt_or_eq.mp hj).elim (fun h => hno j h) (fun h => by rw [h]; exact hc))
      · refine pw_iload_n dL_visit_23 rfl ?_
        have e9 : vis (na c) t p = some i := fstN_some.mpr ⟨hi, by simpa using hc, fun j hj q => hno j hj (by simpa using q)⟩
        rw [e9] at hf
        exact pl_iret dL_visit_24 rfl (rfl) rfl rfl (hf _ hx2)
  exact lp 0 (Nat.zero_le _) _ hx (fun j hj => absurd hj (Nat.not_lt_zero _))
set_option maxRecDepth 100000 in
set_option maxHeartbeats 4000000 in
theorem w_pl_i2 {k z : Nat} {c : CS} (hw : CW c) {p mi ci : Nat} {g g2 : Nat → Int32} (hc : Y[ci]? = some (yr g 6)) (he : Y[ci + 1]? = some (yr g2 6)) (hg : ∀ u, u < na c 3 → g u = if vs (na c) p u = true then nI (CQ (na c) (na c 3) p u) else -1) (hg2 : ∀ u, u < na c 3 → g2 u = if vs (na c) p u = true then nI (EQ (na c) (na c 3) p u) else -1) {t j : Nat} (ht : t < na c 3) (hj : j < na c 3) {x5 x8 x9 x11 : Int32} (kk : PL l E D cA k z mL_place (d + 7) fin 282 [some (.ref 0), some (.ref (227 + mi)), some (.int (nI p)), some (.int (nI (na c 3))), some (.int (nI (msk (vs (na c) p) (na c 3)))), some (.int x5), some (.ref (227 + ci)), some (.ref (227 + (ci + 1))), some (.int x8), some (.int x9), some (.int (nI (smN (fun t => cntN (fun k => mtp (na c) (na c 3) t k p) t) t + cntN (fun k => decide (k < t) && mtp (na c) (na c 3) t k p) (j + 1)))), some (.int x11), some (.int (nI t)), some (.int (nI (cntN (fun u => vs (na c) p t && thr (na c) (na c 3) p (CQ (na c) (na c 3) p t) u) (j + 1)))), some (.int (nI (j + 1))), some (.int (kb ((vs (na c) p t && vs (na c) p j) = true))), some (.int (kb ((!(j == t) && mtp (na c) (na c 3) t j p) = true)))] [] μ Y) : PL l E D cA k z mL_place (d + 7) fin 377 [some (.ref 0), some (.ref (227 + mi)), some (.int (nI p)), some (.int (nI (na c 3))), some (.int (nI (msk (vs (na c) p) (na c 3)))), some (.int x5), some (.ref (227 + ci)), some (.ref (227 + (ci + 1))), some (.int x8), some (.int x9), some (.int (nI (smN (fun t => cntN (fun k => mtp (na c) (na c 3) t k p) t) t + cntN (fun k => decide (k < t) && mtp (na c) (na c 3) t k p) j))), some (.int x11), some (.int (nI t)), some (.int (nI (cntN (fun u => vs (na c) p t && thr (na c) (na c 3) p (CQ (na c) (na c 3) p t) u) j))), some (.int (nI j)), some (.int (kb ((vs (na c) p t && vs (na c) p j) = true))), some (.int (kb ((!(j == t) && mtp (na c) (na c 3) t j p) = true)))] [] μ Y := by
  have h6 := hw.1.t6
  have hPJ : cntN (fun k => decide (k < t) && mtp (na c) (na c 3) t k p) j ≤ 6 := Nat.le_trans (cntN_le j) (by omega)
  have hHJ : cntN (fun u => vs (na c) p t && thr (na c) (na c 3) p (CQ (na c) (na c 3) p t) u) j ≤ 6 := Nat.le_trans (cntN_le j) (by omega)
  have hPT : smN (fun t => cntN (fun k => mtp (na c) (na c 3) t k p) t) t ≤ 36 := Nat.le_trans (smN_le (c := 6) (fun u hu => Nat.le_trans (cntN_le u) (by omega))) (by omega)
  have k437 : PL l E D cA k z mL_place (d + 7) fin 437 [some (.ref 0), some (.ref (227 + mi)), some (.int (nI p)), some (.int (nI (na c 3))), some (.int (nI (msk (vs (na c) p) (na c 3)))), some (.int x5), some (.ref (227 + ci)), some (.ref (227 + (ci + 1))), some (.int x8), some (.int x9), some (.int (nI (smN (fun t => cntN (fun k => mtp (na c) (na c 3) t k p) t) t + cntN (fun k => decide (k < t) && mtp (na c) (na c 3) t k p) (j + 1)))), some (.int x11), some (.int (nI t)), some (.int (nI (cntN (fun u => vs (na c) p t && thr (na c) (na c 3) p (CQ (na c) (na c 3) p t) u) j))), some (.int (nI j)), some (.int (kb ((vs (na c) p t && vs (na c) p j) = true))), some (.int (kb ((!(j == t) && mtp (na c) (na c 3) t j p) = true)))] [.int (nI (if (vs (na c) p t && thr (na c) (na c 3) p (CQ (na c) (na c 3) p t) j) = true then 1 else 0)), .int (nI (cntN (fun u => vs (na c) p t && thr (na c) (na c 3) p (CQ (na c) (na c 3) p t) u) j))] μ Y := by
    refine px_iaddn (c := cntN (fun u => vs (na c) p t && thr (na c) (na c 3) p (CQ (na c) (na c 3) p t) u) (j + 1)) dL_place_437 rfl ?_
    refine px_istore (ls' := [some (.ref 0), some (.ref (227 + mi)), some (.int (nI p)), some (.int (nI (na c 3))), some (.int (nI (msk (vs (na c) p) (na c 3)))), some (.int x5), some (.ref (227 + ci)), some (.ref (227 + (ci + 1))), some (.int x8), some (.int x9), some (.int (nI (smN (fun t => cntN (fun k => mtp (na c) (na c 3) t k p) t) t + cntN (fun k => decide (k < t) && mtp (na c) (na c 3) t k p) (j + 1)))), some (.int x11), some (.int (nI t)), some (.int (nI (cntN (fun u => vs (na c) p t && thr (na c) (na c 3) p (CQ (na c) (na c 3) p t) u) (j + 1)))), some (.int (nI j)), some (.int (kb ((vs (na c) p t && vs (na c) p j) = true))), some (.int (kb ((!(j == t) && mtp (na c) (na c 3) t j p) = true)))]) dL_place_438 rfl rfl (by decide) ?_
    refine px_iincn (n := 1) (a := j) (b := j + 1) (ls' := [some (.ref 0), some (.ref (227 + mi)), some (.int (nI p)), some (.int (nI (na c 3))), some (.int (nI (msk (vs (na c) p) (na c 3)))), some (.int x5), some (.ref (227 + ci)), some (.ref (227 + (ci + 1))), some (.int x8), some (.int x9), some (.int (nI (smN (fun t => cntN (fun k => mtp (na c) (na c 3) t k p) t) t + cntN (fun k => decide (k < t) && mtp (na c) (na c 3) t k p) (j + 1)))), some (.int x11), some (.int (nI t)), some (.int (nI (cntN (fun u => vs (na c) p t && thr (na c) (na c 3) p (CQ (na c) (na c 3) p t) u) (j + 1)))), some (.int (nI (j + 1))), some (.int (kb ((vs (na c) p t && vs (na c) p j) = true))), some (.int (kb ((!(j == t) && mtp (na c) (na c 3) t j p) = true)))]) dL_place_440 rfl rfl rfl (by omega) ?_
    refine pw_goto (tgt := 282) dL_place_443 (by decide) ?_
    exact kk
  have k396 : PL l E D cA k z mL_place (d + 7) fin 396 [some (.ref 0), some (.ref (227 + mi)), some (.int (nI p)), some (.int (nI (na c 3))), some (.int (nI (msk (vs (na c) p) (na c 3)))), some (.int x5), some (.ref (227 + ci)), some (.ref (227 + (ci + 1))), some (.int x8), some (.int x9), some (.int (nI (smN (fun t => cntN (fun k => mtp (na c) (na c 3) t k p) t) t + cntN (fun k => decide (k < t) && mtp (na c) (na c 3) t k p) j))), some (.int x11), some (.int (nI t)), some (.int (nI (cntN (fun u => vs (na c) p t && thr (na c) (na c 3) p (CQ (na c) (na c 3) p t) u) j))), some (.int (nI j)), some (.int (kb ((vs (na c) p t && vs (na c) p j) = true))), some (.int (kb ((!(j == t) && mtp (na c) (na c 3) t j p) = true)))] [.int (nI (if (decide (j < t) && mtp (na c) (na c 3) t j p) = true then 1 else 0)), .int (nI (smN (fun t => cntN (fun k => mtp (na c) (na c 3) t k p) t) t + cntN (fun k => decide (k < t) && mtp (na c) (na c 3) t k p) j))] μ Y := by
    refine px_iaddn (c := smN (fun t => cntN (fun k => mtp (na c) (na c 3) t k p) t) t + cntN (fun k => decide (k < t) && mtp (na c) (na c 3) t k p) (j + 1)) dL_place_396 (Nat.add_assoc _ _ _) ?_
    refine px_istore (ls' := [some (.ref 0), some (.ref (227 + mi)), some (.int (nI p)), some (.int (nI (na c 3))), some (.int (nI (msk (vs (na c) p) (na c 3)))), some (.int x5), some (.ref (227 + ci)), some (.ref (227 + (ci + 1))), some (.int x8), some (.int x9), some (.int (nI (smN (fun t => cntN (fun k => mtp (na c) (na c 3) t k p) t) t + cntN (fun k => decide (k < t) && mtp (na c) (na c 3) t k p) (j + 1)))), some (.int x11), some (.int (nI t)), some (.int (nI (cntN (fun u => vs (na c) p t && thr (na c) (na c 3) p (CQ (na c) (na c 3) p t) u) j))), some (.int (nI j)), some (.int (kb ((vs (na c) p t && vs (na c) p j) = true))), some (.int (kb ((!(j == t) && mtp (na c) (na c 3) t j p) = true)))]) dL_place_397 rfl rfl (by decide) ?_
    refine pw_iload dL_place_399 rfl ?_
    refine pw_iload dL_place_401 rfl ?_
    refine pw_if_eq (tgt := 436) dL_place_403 (by decide) (fun hd => ?_) (fun hd => ?_)
    · have hd2 := kb_eq0.mp hd
      refine pw_iconst_ (v := nI 0) dL_place_436 (by decide) ?_
      have e9 : (if (vs (na c) p t && thr (na c) (na c 3) p (CQ (na c) (na c 3) p t) j) = true then 1 else 0) = 0 := if_neg (fun q => hd2 (by rw [thr_Q] at q; simp at q ⊢; exact ⟨q.1, q.2.1⟩))
      rw [e9] at k437
      exact k437
    · have hd2 := kb_ne0.mp hd
      have hvt : vs (na c) p t = true := by simp at hd2; exact hd2.1
      have hvj : vs (na c) p j = true := by simp at hd2; exact hd2.2
      have bt := Q_b hw.1 (Nat.le_refl _) ht hvt
      have bj := Q_b hw.1 (Nat.le_refl _) hj hvj
      refine pw_aload dL_place_406 rfl ?_
      refine pw_iload dL_place_408 rfl ?_
      refine pl_iald (i := ci) (j := j) (n := 6) (f := g) (x := nI (CQ (na c) (na c 3) p j)) dL_place_410 rfl (by omega) (by decide) hc (by rw [hg j hj, if_pos hvj]) ?_
      refine pw_aload dL_place_411 rfl ?_
      refine pw_iload dL_place_413 rfl ?_
      refine pl_iald (i := ci) (j := t) (n := 6) (f := g) (x := nI (CQ (na c) (na c 3) p t)) dL_place_415 rfl (by omega) (by decide) hc (by rw [hg t ht, if_pos hvt]) ?_
      refine pn_gt (tgt := 436) dL_place_416 (by decide) (by omega) (by omega) (fun h1 => ?_) (fun h1 => ?_)
      · refine pw_iconst_ (v := nI 0) dL_place_436 (by decide) ?_
        have e9 : (if (vs (na c) p t && thr (na c) (na c 3) p (CQ (na c) (na c 3) p t) j) = true then 1 else 0) = 0 := if_neg (fun q => by rw [thr_Q] at q; simp at q; omega)
        rw [e9] at k437
        exact k437
      · refine pw_aload dL_place_419 rfl ?_
        refine pw_iload dL_place_421 rfl ?_
        refine pl_iald (i := ci) (j := t) (n := 6) (f := g) (x := nI (CQ (na c) (na c 3) p t)) dL_place_423 rfl (by omega) (by decide) hc (by rw [hg t ht, if_pos hvt]) ?_
        refine pw_aload dL_place_424 rfl ?_
        refine pw_iload dL_place_426 rfl ?_
        refine pl_iald (i := (ci + 1)) (j := j) (n := 6) (f := g2) (x := nI (EQ (na c) (na c 3) p j)) dL_place_428 rfl (by omega) (by decide) he (by rw [hg2 j hj, if_pos hvj]) ?_
        refine pn_ge (tgt := 436) dL_place_429 (by decide) (by omega) (by omega) (fun h2 => ?_) (fun h2 => ?_)
        · refine pw_iconst_ (v := nI 0) dL_place_436 (by decide) ?_
          have e9 : (if (vs (na c) p t && thr (na c) (na c 3) p (CQ (na c) (na c 3) p t) j) = true then 1 else 0) = 0 := if_neg (fun q => by rw [thr_Q] at q; simp at q; omega)
          rw [e9] at k437
          exact k437
        · refine pw_iconst_ (v := nI 1) dL_place_432 (by decide) ?_
          refine pw_goto (tgt := 437) dL_place_433 (by decide) ?_
          have e9 : (if (vs (na c) p t && thr (na c) (na c 3) p (CQ (na c) (na c 3) p t) j) = true then 1 else 0) = 1 := if_pos (by rw [thr_Q]; simp; exact ⟨hvt, hvj, h1, h2⟩)
          rw [e9] at k437
          exact k437
  refine pw_iload dL_place_377 rfl ?_
  refine pw_iload dL_place_379 rfl ?_
  refine pw_if_eq (tgt := 395) dL_place_381 (by decide) (fun hd => ?_) (fun hd => ?_)
  · have hd2 := kb_eq0.mp hd
    refine pw_iconst_ (v := nI 0) dL_place_395 (by decide) ?_
    have e9 : (if (decide (j < t) && mtp (na c) (na c 3) t j p) = true then 1 else 0) = 0 := if_neg (fun q => hd2 (by simp at q ⊢; exact ⟨by omega, q.2⟩))
    rw [e9] at k396
    exact k396
  · have hd2 := kb_ne0.mp hd
    refine pw_iload dL_place_384 rfl ?_
    refine pw_iload dL_place_386 rfl ?_
    refine pn_ge (tgt := 395) dL_place_388 (by decide) (by omega) (by omega) (fun h1 => ?_) (fun h1 => ?_)
    · refine pw_iconst_ (v := nI 0) dL_place_395 (by decide) ?_
      have e9 : (if (decide (j < t) && mtp (na c) (na c 3) t j p) = true then 1 else 0) = 0 := if_neg (fun q => by simp at q; omega)
      rw [e9] at k396
      exact k396
    · refine pw_iconst_ (v := nI 1) dL_place_391 (by decide) ?_
      refine pw_goto (tgt := 396) dL_place_392 (by decide) ?_
      have e9 : (if (decide (j < t) && mtp (na c) (na c 3) t j p) = true then 1 else 0) = 1 := if_pos (by simp at hd2 ⊢; exact ⟨h1, hd2.2⟩)
      rw [e9] at k396
      exact k396
set_option maxRecDepth 100000 in
set_option maxHeartbeats 4000000 in
theorem w_pl_i1 {k z : Nat} {c : CS} (hw : CW c) {p mi ci : Nat} {g g2 : Nat → Int32} (hc : Y[ci]? = some (yr g 6)) (he : Y[ci + 1]? = some (yr g2 6)) (hg : ∀ u, u < na c 3 → g u = if vs (na c) p u = true then nI (CQ (na c) (na c 3) p u) else -1) (hg2 : ∀ u, u < na c 3 → g2 u = if vs (na c) p u = true then nI (EQ (na c) (na c 3) p u) else -1) {t j : Nat} (ht : t < na c 3) (hj : j < na c 3) {f : Nat → Int32} (hm : Y[mi]? = some (yr f 6)) {M : Nat → Bool} (hft : f t = nI (msk M (na c 3))) {x5 x8 x9 x11 : Int32} {l15 l16 : Option Value} (kk : ∀ (Y' : List PE) (f' : Nat → Int32), Y'.length = Y.length → kv_sum Y' = kv_sum Y → (∀ q, q ≠ mi → Y'[q]? = Y[q]?) → Y'[mi]? = some (yr f' 6) → f' t = nI (msk (fun k => M k || ((k == j) && (!(j == t) && mtp (na c) (na c 3) t j p))) (na c 3)) → (∀ u, u ≠ t → f' u = f u) → PL l E D cA k z mL_place (d + 7) fin 377 [some (.ref 0), some (.ref (227 + mi)), some (.int (nI p)), some (.int (nI (na c 3))), some (.int (nI (msk (vs (na c) p) (na c 3)))), some (.int x5), some (.ref (227 + ci)), some (.ref (227 + (ci + 1))), some (.int x8), some (.int x9), some (.int (nI (smN (fun t => cntN (fun k => mtp (na c) (na c 3) t k p) t) t + cntN (fun k => decide (k < t) && mtp (na c) (na c 3) t k p) j))), some (.int x11), some (.int (nI t)), some (.int (nI (cntN (fun u => vs (na c) p t && thr (na c) (na c 3) p (CQ (na c) (na c 3) p t) u) j))), some (.int (nI j)), some (.int (kb ((vs (na c) p t && vs (na c) p j) = true))), some (.int (kb ((!(j == t) && mtp (na c) (na c 3) t j p) = true)))] [] μ Y') : PL l E D cA k z mL_place (d + 7) fin 288 [some (.ref 0), some (.ref (227 + mi)), some (.int (nI p)), some (.int (nI (na c 3))), some (.int (nI (msk (vs (na c) p) (na c 3)))), some (.int x5), some (.ref (227 + ci)), some (.ref (227 + (ci + 1))), some (.int x8), some (.int x9), some (.int (nI (smN (fun t => cntN (fun k => mtp (na c) (na c 3) t k p) t) t + cntN (fun k => decide (k < t) && mtp (na c) (na c 3) t k p) j))), some (.int x11), some (.int (nI t)), some (.int (nI (cntN (fun u => vs (na c) p t && thr (na c) (na c 3) p (CQ (na c) (na c 3) p t) u) j))), some (.int (nI j)), l15, l16] [] μ Y := by
  have h6 := hw.1.t6
  have k355 : PL l E D cA k z mL_place (d + 7) fin 355 [some (.ref 0), some (.ref (227 + mi)), some (.int (nI p)), some (.int (nI (na c 3))), some (.int (nI (msk (vs (na c) p) (na c 3)))), some (.int x5), some (.ref (227 + ci)), some (.ref (227 + (ci + 1))), some (.int x8), some (.int x9), some (.int (nI (smN (fun t => cntN (fun k => mtp (na c) (na c 3) t k p) t) t + cntN (fun k => decide (k < t) && mtp (na c) (na c 3) t k p) j))), some (.int x11), some (.int (nI t)), some (.int (nI (cntN (fun u => vs (na c) p t && thr (na c) (na c 3) p (CQ (na c) (na c 3) p t) u) j))), some (.int (nI j)), some (.int (kb ((vs (na c) p t && vs (na c) p j) = true))), l16] [.int (kb ((!(j == t) && mtp (na c) (na c 3) t j p) = true))] μ Y := by
    refine px_istore (ls' := [some (.ref 0), some (.ref (227 + mi)), some (.int (nI p)), some (.int (nI (na c 3))), some (.int (nI (msk (vs (na c) p) (na c 3)))), some (.int x5), some (.ref (227 + ci)), some (.ref (227 + (ci + 1))), some (.int x8), some (.int x9), some (.int (nI (smN (fun t => cntN (fun k => mtp (na c) (na c 3) t k p) t) t + cntN (fun k => decide (k < t) && mtp (na c) (na c 3) t k p) j))), some (.int x11), some (.int (nI t)), some (.int (nI (cntN (fun u => vs (na c) p t && thr (na c) (na c 3) p (CQ (na c) (na c 3) p t) u) j))), some (.int (nI j)), some (.int (kb ((vs (na c) p t && vs (na c) p j) = true))), some (.int (kb ((!(j == t) && mtp (na c) (na c 3) t j p) = true)))]) dL_place_355 rfl rfl (by decide) ?_
    refine pw_aload_n dL_place_357 rfl ?_
    refine pw_iload dL_place_358 rfl ?_
    refine pw_dup2 dL_place_360 rfl rfl ?_
    refine pl_iald (i := mi) (j := t) (n := 6) (f := f) (x := nI (msk M (na c 3))) dL_place_361 rfl (by omega) (by decide) hm hft ?_
    refine pw_iload dL_place_362 rfl ?_
    refine pw_if_eq (tgt := 374) dL_place_364 (by decide) (fun hd => ?_) (fun hd => ?_)
    · have hd2 := kb_eq0.mp hd
      refine pw_iconst_ (v := nI 0) dL_place_374 (by decide) ?_
      refine pw_ior dL_place_375 ?_
      rw [bit_or0 _ (msk_64 h6)]
      refine pl_iast (i := mi) (j := t) (n := 6) (f := f) dL_place_376 rfl (by omega) (by decide) hm (fun Y' sa sb sc sd => ?_)
      refine kk Y' _ sa sb sd sc ?_ (fun u hu => upi_n hu)
      rw [upi_s]
      exact congrArg nI (msk_cg (fun u hu => by cases e : (!(j == t) && mtp (na c) (na c 3) t j p) <;> simp_all))
    · have hd2 := kb_ne0.mp hd
      refine pw_iconst_ (v := nI 1) dL_place_367 (by decide) ?_
      refine pw_iload dL_place_368 rfl ?_
      refine pw_ishl dL_place_370 ?_
      refine pw_goto (tgt := 375) dL_place_371 (by decide) ?_
      refine pw_ior dL_place_375 ?_
      rw [or_add h6 hj]
      refine pl_iast (i := mi) (j := t) (n := 6) (f := f) dL_place_376 rfl (by omega) (by decide) hm (fun Y' sa sb sc sd => ?_)
      refine kk Y' _ sa sb sd sc ?_ (fun u hu => upi_n hu)
      rw [upi_s]
      exact congrArg nI (msk_cg (fun u hu => by rw [hd2, Bool.and_true]))
  have k310 : PL l E D cA k z mL_place (d + 7) fin 310 [some (.ref 0), some (.ref (227 + mi)), some (.int (nI p)), some (.int (nI (na c 3))), some (.int (nI (msk (vs (na c) p) (na c 3)))), some (.int x5), some (.ref (227 + ci)), some (.ref (227 + (ci + 1))), some (.int x8), some (.int x9), some (.int (nI (smN (fun t => cntN (fun k => mtp (na c) (na c 3) t k p) t) t + cntN (fun k => decide (k < t) && mtp (na c) (na c 3) t k p) j))), some (.int x11), some (.int (nI t)), some (.int (nI (cntN (fun u => vs (na c) p t && thr (na c) (na c 3) p (CQ (na c) (na c 3) p t) u) j))), some (.int (nI j)), l15, l16] [.int (kb ((vs (na c) p t && vs (na c) p j) = true))] μ Y := by
    refine px_istore (ls' := [some (.ref 0), some (.ref (227 + mi)), some (.int (nI p)), some (.int (nI (na c 3))), some (.int (nI (msk (vs (na c) p) (na c 3)))), some (.int x5), some (.ref (227 + ci)), some (.ref (227 + (ci + 1))), some (.int x8), some (.int x9), some (.int (nI (smN (fun t => cntN (fun k => mtp (na c) (na c 3) t k p) t) t + cntN (fun k => decide (k < t) && mtp (na c) (na c 3) t k p) j))), some (.int x11), some (.int (nI t)), some (.int (nI (cntN (fun u => vs (na c) p t && thr (na c) (na c 3) p (CQ (na c) (na c 3) p t) u) j))), some (.int (nI j)), some (.int (kb ((vs (na c) p t && vs (na c) p j) = true))), l16]) dL_place_310 rfl rfl (by decide) ?_
    refine pw_iload dL_place_312 rfl ?_
    refine pw_if_eq (tgt := 354) dL_place_314 (by decide) (fun hd => ?_) (fun hd => ?_)
    · have hd2 := kb_eq0.mp hd
      refine pw_iconst_ (v := nI 0) dL_place_354 (by decide) ?_
      have e9 : kb ((!(j == t) && mtp (na c) (na c 3) t j p) = true) = nI 0 := kb_f (fun q => hd2 (by rw [mtp_Q] at q; simp at q ⊢; exact ⟨q.2.1.1, q.2.1.2⟩))
      rw [e9] at k355
      exact k355
    · have hd2 := kb_ne0.mp hd
      have hvt : vs (na c) p t = true := by simp at hd2; exact hd2.1
      have hvj : vs (na c) p j = true := by simp at hd2; exact hd2.2
      have bt := Q_b hw.1 (Nat.le_refl _) ht hvt
      have bj := Q_b hw.1 (Nat.le_refl _) hj hvj
      refine pw_iload dL_place_317 rfl ?_
      refine pw_iload dL_place_319 rfl ?_
      refine pn_eq (tgt := 354) dL_place_321 (by decide) (by omega) (by omega) (fun h1 => ?_) (fun h1 => ?_)
      · refine pw_iconst_ (v := nI 0) dL_place_354 (by decide) ?_
        have e9 : kb ((!(j == t) && mtp (na c) (na c 3) t j p) = true) = nI 0 := kb_f (fun q => by simp at q; omega)
        rw [e9] at k355
        exact k355
      · refine pw_aload dL_place_324 rfl ?_
        refine pw_iload dL_place_326 rfl ?_
        refine pl_iald (i := ci) (j := t) (n := 6) (f := g) (x := nI (CQ (na c) (na c 3) p t)) dL_place_328 rfl (by omega) (by decide) hc (by rw [hg t ht, if_pos hvt]) ?_
        refine pw_aload dL_place_329 rfl ?_
        refine pw_iload dL_place_331 rfl ?_
        refine pl_iald (i := (ci + 1)) (j := j) (n := 6) (f := g2) (x := nI (EQ (na c) (na c 3) p j)) dL_place_333 rfl (by omega) (by decide) he (by rw [hg2 j hj, if_pos hvj]) ?_
        refine pn_gt (tgt := 354) dL_place_334 (by decide) (by omega) (by omega) (fun h2 => ?_) (fun h2 => ?_)
        · refine pw_iconst_ (v := nI 0) dL_place_354 (by decide) ?_
          have e9 : kb ((!(j == t) && mtp (na c) (na c 3) t j p) = true) = nI 0 := kb_f (fun q => by rw [mtp_Q] at q; simp at q; omega)
          rw [e9] at k355
          exact k355
        · refine pw_aload dL_place_337 rfl ?_
          refine pw_iload dL_place_339 rfl ?_
          refine pl_iald (i := ci) (j := j) (n := 6) (f := g) (x := nI (CQ (na c) (na c 3) p j)) dL_place_341 rfl (by omega) (by decide) hc (by rw [hg j hj, if_pos hvj]) ?_
          refine pw_aload dL_place_342 rfl ?_
          refine pw_iload dL_place_344 rfl ?_
          refine pl_iald (i := (ci + 1)) (j := t) (n := 6) (f := g2) (x := nI (EQ (na c) (na c 3) p t)) dL_place_346 rfl (by omega) (by decide) he (by rw [hg2 t ht, if_pos hvt]) ?_
          refine pn_gt (tgt := 354) dL_place_347 (by decide) (by omega) (by omega) (fun h3 => ?_) (fun h3 => ?_)
          · refine pw_iconst_ (v := nI 0) dL_place_354 (by decide) ?_
            have e9 : kb ((!(j == t) && mtp (na c) (na c 3) t j p) = true) = nI 0 := kb_f (fun q => by rw [mtp_Q] at q; simp at q; omega)
            rw [e9] at k355
            exact k355
          · refine pw_iconst_ (v := nI 1) dL_place_350 (by decide) ?_
            refine pw_goto (tgt := 355) dL_place_351 (by decide) ?_
            have e9 : kb ((!(j == t) && mtp (na c) (na c 3) t j p) = true) = nI 1 := kb_t (by rw [mtp_Q]; simp; exact ⟨h1, ⟨hvt, hvj⟩, h2, h3⟩)
            rw [e9] at k355
            exact k355
  refine pw_iload dL_place_288 rfl ?_
  refine pw_iload dL_place_290 rfl ?_
  refine pw_ishr dL_place_292 ?_
  refine pw_iload dL_place_293 rfl ?_
  refine pw_iload dL_place_295 rfl ?_
  refine pw_ishr dL_place_297 ?_
  refine pw_iand dL_place_298 ?_
  refine pw_iconst_ (v := nI 1) dL_place_299 (by decide) ?_
  refine pw_iand dL_place_300 ?_
  rw [two_bits h6 ht hj]
  refine pw_iconst_ (v := nI 1) dL_place_301 (by decide) ?_
  refine pn_ne (tgt := 309) dL_place_302 (by decide) (by split <;> decide) (by decide) (fun hd => ?_) (fun hd => ?_)
  · refine pw_iconst_ (v := nI 0) dL_place_309 (by decide) ?_
    have e9 : kb ((vs (na c) p t && vs (na c) p j) = true) = nI 0 := kb_f (fun q => hd (if_pos q))
    rw [e9] at k310
    exact k310
  · refine pw_iconst_ (v := nI 1) dL_place_305 (by decide) ?_
    refine pw_goto (tgt := 310) dL_place_306 (by decide) ?_
    have e9 : kb ((vs (na c) p t && vs (na c) p j) = true) = nI 1 := kb_t (by cases q : (vs (na c) p t && vs (na c) p j) with | true => rfl | false => rw [q] at hd; cases hd)
    rw [e9] at k310
    exact k310
end PLACE
