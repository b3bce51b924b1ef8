/-! the law: one place, all of it -/
section PLACE2
variable {l : Launch} {E : EV} {D : va_G} {cA : Nat → ClassId} {fin : Option Value → Mu → List PE → Prop} {μ : Mu} {Y : List PE} {d : Nat}
theorem cnt_cut {p : Nat → Bool} {t n : Nat} (h : t ≤ n) : cntN (fun k => decide (k < t) && p k) n = cntN p t := by
  obtain ⟨m, rfl⟩ : ∃ m, n = t + m := ⟨n - t, by omega⟩
  induction m with
  | zero => exact cntN_cg (fun u hu => by simp [show u < t by omega])
  | succ m ih =>
    show cntN _ (t + m) + (if (decide (t + m < t) && p (t + m)) = true then 1 else 0) = _
    rw [ih (by omega), if_neg (by simp; intro h; omega)]
    rfl
theorem cnt_no {p : Nat → Bool} : ∀ {n : Nat}, (∀ u, u < n → ¬ p u = true) → cntN p n = 0
  | 0, _ => rfl
  | n + 1, h => by
    show cntN p n + (if p n = true then 1 else 0) = 0
    rw [cnt_no (n := n) (fun u hu => h u (by omega)), if_neg (h n (Nat.lt_succ_self _))]
theorem row_step {m : Bool} {x : Nat → Bool} {u k j : Nat} : ((m || ((decide (u < u) || (decide (u = u) && decide (k < j))) && (!(k == u) && x k))) || ((k == j) && (!(j == u) && x j))) = (m || ((decide (u < u) || (decide (u = u) && decide (k < j + 1))) && (!(k == u) && x k))) := by
  by_cases e : k = j
  · subst e
    simp
  · have e2 : (k < j + 1) ↔ k < j := by omega
    have e3 : (k == j) = false := by simpa using e
    simp only [e2, e3, Bool.false_and, Bool.or_false]
set_option maxRecDepth 100000 in
set_option maxHeartbeats 4000000 in
theorem w_pl_c {c : CS} (hw : CW c) (hx : CX μ c) {p mi ci : Nat} {g g2 : Nat → Int32} (hc : Y[ci]? = some (yr g 6)) (he : Y[ci + 1]? = some (yr g2 6)) (hg : ∀ u, u < na c 3 → g u = if vs (na c) p u = true then nI (CQ (na c) (na c 3) p u) else -1) (hg2 : ∀ u, u < na c 3 → g2 u = if vs (na c) p u = true then nI (EQ (na c) (na c 3) p u) else -1) (hp : p < 8) (hci : ci ≠ mi) (hce : ci + 1 ≠ mi) {f : Nat → Int32} (hm : Y[mi]? = some (yr f 6)) {M : Nat → Nat → Bool} (hM : ∀ u, u < na c 3 → f u = nI (msk (M u) (na c 3))) {x5 x8 : Int32} {l10 l11 l12 l13 l14 l15 l16 : Option Value} (hf : ∀ (ν : Mu) (Y' : List PE) (f' : Nat → Int32), CX ν c → Y'.length = Y.length → kv_sum Y' = kv_sum Y → (∀ q, q ≠ mi → Y'[q]? = Y[q]?) → Y'[mi]? = some (yr f' 6) → (∀ u, u < na c 3 → f' u = nI (msk (fun k => M u k || (!(k == u) && mtp (na c) (na c 3) u k p)) (na c 3))) → fin (some (.int (nI 1))) ν Y') : PL l E D cA Y.length (kv_sum Y) mL_place (d + 7) fin 261 [some (.ref 0), some (.ref (227 + mi)), some (.int (nI p)), some (.int (nI (na c 3))), some (.int (nI (msk (vs (na c) p) (na c 3)))), some (.int x5), some (.ref (227 + ci)), some (.ref (227 + (ci + 1))), some (.int x8), some (.int (nI (smN (qat (na c) (na c 3) p) (na c 3)))), l10, l11, l12, l13, l14, l15, l16] [] μ Y := by
  have h6 := hw.1.t6
  have hPT : ∀ t, t ≤ na c 3 → smN (fun t => cntN (fun k => mtp (na c) (na c 3) t k p) t) t ≤ 36 := fun t ht => Nat.le_trans (smN_le (c := 6) (fun u hu => Nat.le_trans (cntN_le u) (by omega))) (by omega)
  have hmo : ∀ t, t ≤ na c 3 → mo (na c) (na c 3) p t ≤ 6 := fun t ht => by
    induction t with
    | zero => exact Nat.zero_le _
    | succ t ih =>
      have h1 := ih (by omega)
      by_cases hv : vs (na c) p t = true
      · rw [mo_t hv]
        have := cntN_le (p := thr (na c) (na c 3) p (CQ (na c) (na c 3) p t)) (na c 3)
        split <;> omega
      · rw [mo_f hv]
        exact h1
  refine pw_iconst_ (v := nI 0) dL_place_261 (by decide) ?_
  refine px_istore (ls' := [some (.ref 0), some (.ref (227 + mi)), some (.int (nI p)), some (.int (nI (na c 3))), some (.int (nI (msk (vs (na c) p) (na c 3)))), some (.int x5), some (.ref (227 + ci)), some (.ref (227 + (ci + 1))), some (.int x8), some (.int (nI (smN (qat (na c) (na c 3) p) (na c 3)))), some (.int (nI 0)), l11, l12, l13, l14, l15, l16]) dL_place_262 rfl rfl (by decide) ?_
  refine pw_iconst_ (v := nI 0) dL_place_264 (by decide) ?_
  refine px_istore (ls' := [some (.ref 0), some (.ref (227 + mi)), some (.int (nI p)), some (.int (nI (na c 3))), some (.int (nI (msk (vs (na c) p) (na c 3)))), some (.int x5), some (.ref (227 + ci)), some (.ref (227 + (ci + 1))), some (.int x8), some (.int (nI (smN (qat (na c) (na c 3) p) (na c 3)))), some (.int (nI 0)), some (.int (nI 0)), l12, l13, l14, l15, l16]) dL_place_265 rfl rfl (by decide) ?_
  refine pw_iconst_ (v := nI 0) dL_place_267 (by decide) ?_
  refine px_istore (ls' := [some (.ref 0), some (.ref (227 + mi)), some (.int (nI p)), some (.int (nI (na c 3))), some (.int (nI (msk (vs (na c) p) (na c 3)))), some (.int x5), some (.ref (227 + ci)), some (.ref (227 + (ci + 1))), some (.int x8), some (.int (nI (smN (qat (na c) (na c 3) p) (na c 3)))), some (.int (nI 0)), some (.int (nI 0)), some (.int (nI 0)), l13, l14, l15, l16]) dL_place_268 rfl rfl (by decide) ?_
  have lp : ∀ t : Nat, t ≤ na c 3 → ∀ (Y' : List PE) (f' : Nat → Int32) (l13 l14 l15 l16 : Option Value), Y'.length = Y.length → kv_sum Y' = kv_sum Y → (∀ q, q ≠ mi → Y'[q]? = Y[q]?) → Y'[mi]? = some (yr f' 6) → (∀ u, u < na c 3 → f' u = nI (msk (fun k => M u k || (decide (u < t) && (!(k == u) && mtp (na c) (na c 3) u k p))) (na c 3))) → PL l E D cA Y.length (kv_sum Y) mL_place (d + 7) fin 270 [some (.ref 0), some (.ref (227 + mi)), some (.int (nI p)), some (.int (nI (na c 3))), some (.int (nI (msk (vs (na c) p) (na c 3)))), some (.int x5), some (.ref (227 + ci)), some (.ref (227 + (ci + 1))), some (.int x8), some (.int (nI (smN (qat (na c) (na c 3) p) (na c 3)))), some (.int (nI (smN (fun t => cntN (fun k => mtp (na c) (na c 3) t k p) t) t))), some (.int (nI (mo (na c) (na c 3) p t))), some (.int (nI t)), l13, l14, l15, l16] [] μ Y' := by
    refine ps_for _ ?_ ?_
    · intro Y' f' l13 l14 l15 l16 ya yb yd yc hI
      refine pw_iload dL_place_270 rfl ?_
      refine pw_iload_n dL_place_272 rfl ?_
      refine pn_ge (tgt := 468) dL_place_273 (by decide) (by omega) (by omega) (fun _ => ?_) (fun h9 => absurd h9 (Nat.lt_irrefl _))
      refine pw_aload_n dL_place_468 rfl ?_
      refine pw_iload_n dL_place_469 rfl ?_
      refine pw_iconst_ (v := nI 4) dL_place_470 (by decide) ?_
      refine pl_callV (b := 0) (As := [.int (nI p), .int (nI 4)]) (st := []) dL_place_471 cv_L_15 rfl ⟨by decide, by decide +kernel⟩ (Nat.le_of_ble_eq_true rfl) (Nat.le_of_ble_eq_true rfl) (by omega) (by omega) ?_
      refine l_placeOf (x := nI (msk (vs (na c) p) (na c 3))) hw hx hp (by decide) rfl (fun ν1 hx1 => ?_)
      show PL l E D cA Y.length (kv_sum Y) mL_place (d + 7) fin 474 [some (.ref 0), some (.ref (227 + mi)), some (.int (nI p)), some (.int (nI (na c 3))), some (.int (nI (msk (vs (na c) p) (na c 3)))), some (.int x5), some (.ref (227 + ci)), some (.ref (227 + (ci + 1))), some (.int x8), some (.int (nI (smN (qat (na c) (na c 3) p) (na c 3)))), some (.int (nI (smN (fun t => cntN (fun k => mtp (na c) (na c 3) t k p) t) (na c 3)))), some (.int (nI (mo (na c) (na c 3) p (na c 3)))), some (.int (nI (na c 3))), l13, l14, l15, l16] [.int (nI (msk (vs (na c) p) (na c 3)))] ν1 Y'
      refine pw_iload dL_place_474 rfl ?_
      refine pw_icmp_ne (tgt := 518) dL_place_476 (by decide) (fun h9 => absurd rfl h9) (fun _ => ?_)
      refine pw_aload_n dL_place_479 rfl ?_
      refine pw_iload_n dL_place_480 rfl ?_
      refine pw_iconst_ (v := nI 5) dL_place_481 (by decide) ?_
      refine pl_callV (b := 0) (As := [.int (nI p), .int (nI 5)]) (st := []) dL_place_482 cv_L_15 rfl ⟨by decide, by decide +kernel⟩ (Nat.le_of_ble_eq_true rfl) (Nat.le_of_ble_eq_true rfl) (by omega) (by omega) ?_
      refine l_placeOf (x := nI (smN (qat (na c) (na c 3) p) (na c 3))) hw hx1 hp (by decide) rfl (fun ν2 hx2 => ?_)
      show PL l E D cA Y.length (kv_sum Y) mL_place (d + 7) fin 485 [some (.ref 0), some (.ref (227 + mi)), some (.int (nI p)), some (.int (nI (na c 3))), some (.int (nI (msk (vs (na c) p) (na c 3)))), some (.int x5), some (.ref (227 + ci)), some (.ref (227 + (ci + 1))), some (.int x8), some (.int (nI (smN (qat (na c) (na c 3) p) (na c 3)))), some (.int (nI (smN (fun t => cntN (fun k => mtp (na c) (na c 3) t k p) t) (na c 3)))), some (.int (nI (mo (na c) (na c 3) p (na c 3)))), some (.int (nI (na c 3))), l13, l14, l15, l16] [.int (nI (smN (qat (na c) (na c 3) p) (na c 3)))] ν2 Y'
      refine pw_iload dL_place_485 rfl ?_
      refine pw_icmp_ne (tgt := 518) dL_place_487 (by decide) (fun h9 => absurd rfl h9) (fun _ => ?_)
      refine pw_aload_n dL_place_490 rfl ?_
      refine pw_iload_n dL_place_491 rfl ?_
      refine pw_bipush (v := nI 6) dL_place_492 (by decide) ?_
      refine pl_callV (b := 0) (As := [.int (nI p), .int (nI 6)]) (st := []) dL_place_494 cv_L_15 rfl ⟨by decide, by decide +kernel⟩ (Nat.le_of_ble_eq_true rfl) (Nat.le_of_ble_eq_true rfl) (by omega) (by omega) ?_
      refine l_placeOf (x := nI (mo (na c) (na c 3) p (na c 3))) hw hx2 hp (by decide) rfl (fun ν3 hx3 => ?_)
      show PL l E D cA Y.length (kv_sum Y) mL_place (d + 7) fin 497 [some (.ref 0), some (.ref (227 + mi)), some (.int (nI p)), some (.int (nI (na c 3))), some (.int (nI (msk (vs (na c) p) (na c 3)))), some (.int x5), some (.ref (227 + ci)), some (.ref (227 + (ci + 1))), some (.int x8), some (.int (nI (smN (qat (na c) (na c 3) p) (na c 3)))), some (.int (nI (smN (fun t => cntN (fun k => mtp (na c) (na c 3) t k p) t) (na c 3)))), some (.int (nI (mo (na c) (na c 3) p (na c 3)))), some (.int (nI (na c 3))), l13, l14, l15, l16] [.int (nI (mo (na c) (na c 3) p (na c 3)))] ν3 Y'
      refine pw_iload dL_place_497 rfl ?_
      refine pw_icmp_ne (tgt := 518) dL_place_499 (by decide) (fun h9 => absurd rfl h9) (fun _ => ?_)
      refine pw_aload_n dL_place_502 rfl ?_
      refine pw_iload_n dL_place_503 rfl ?_
      refine pw_bipush (v := nI 7) dL_place_504 (by decide) ?_
      refine pl_callV (b := 0) (As := [.int (nI p), .int (nI 7)]) (st := []) dL_place_506 cv_L_15 rfl ⟨by decide, by decide +kernel⟩ (Nat.le_of_ble_eq_true rfl) (Nat.le_of_ble_eq_true rfl) (by omega) (by omega) ?_
      refine l_placeOf (x := nI (smN (fun t => cntN (fun k => mtp (na c) (na c 3) t k p) t) (na c 3))) hw hx3 hp (by decide) (congrArg nI (prs_sym (fun t u => mtp_sym _ _ _ _ _) _)) (fun ν4 hx4 => ?_)
      show PL l E D cA Y.length (kv_sum Y) mL_place (d + 7) fin 509 [some (.ref 0), some (.ref (227 + mi)), some (.int (nI p)), some (.int (nI (na c 3))), some (.int (nI (msk (vs (na c) p) (na c 3)))), some (.int x5), some (.ref (227 + ci)), some (.ref (227 + (ci + 1))), some (.int x8), some (.int (nI (smN (qat (na c) (na c 3) p) (na c 3)))), some (.int (nI (smN (fun t => cntN (fun k => mtp (na c) (na c 3) t k p) t) (na c 3)))), some (.int (nI (mo (na c) (na c 3) p (na c 3)))), some (.int (nI (na c 3))), l13, l14, l15, l16] [.int (nI (smN (fun t => cntN (fun k => mtp (na c) (na c 3) t k p) t) (na c 3)))] ν4 Y'
      refine pw_iload dL_place_509 rfl ?_
      refine pw_icmp_ne (tgt := 518) dL_place_511 (by decide) (fun h9 => absurd rfl h9) (fun _ => ?_)
      refine pw_iconst_ (v := nI 1) dL_place_514 (by decide) ?_
      refine pw_goto (tgt := 519) dL_place_515 (by decide) ?_
      exact pl_iret dL_place_519 rfl (by decide) ya yb (hf _ Y' f' hx4 ya yb yd yc (fun u hu => by rw [hI u hu]; exact congrArg nI (msk_cg (fun k hk => by simp [hu]))))
    · intro t ht ih Y' f' l13 l14 l15 l16 ya yb yd yc hI
      have hPt := hPT t (by omega)
      have hmt := hmo t (by omega)
      refine pw_iload dL_place_270 rfl ?_
      refine pw_iload_n dL_place_272 rfl ?_
      refine pn_ge (tgt := 468) dL_place_273 (by decide) (by omega) (by omega) (fun h9 => absurd h9 (by omega)) (fun _ => ?_)
      refine pw_iconst_ (v := nI 0) dL_place_276 (by decide) ?_
      refine px_istore (ls' := [some (.ref 0), some (.ref (227 + mi)), some (.int (nI p)), some (.int (nI (na c 3))), some (.int (nI (msk (vs (na c) p) (na c 3)))), some (.int x5), some (.ref (227 + ci)), some (.ref (227 + (ci + 1))), some (.int x8), some (.int (nI (smN (qat (na c) (na c 3) p) (na c 3)))), some (.int (nI (smN (fun t => cntN (fun k => mtp (na c) (na c 3) t k p) t) t))), some (.int (nI (mo (na c) (na c 3) p t))), some (.int (nI t)), some (.int (nI 0)), l14, l15, l16]) dL_place_277 rfl rfl (by decide) ?_
      refine pw_iconst_ (v := nI 0) dL_place_279 (by decide) ?_
      refine px_istore (ls' := [some (.ref 0), some (.ref (227 + mi)), some (.int (nI p)), some (.int (nI (na c 3))), some (.int (nI (msk (vs (na c) p) (na c 3)))), some (.int x5), some (.ref (227 + ci)), some (.ref (227 + (ci + 1))), some (.int x8), some (.int (nI (smN (qat (na c) (na c 3) p) (na c 3)))), some (.int (nI (smN (fun t => cntN (fun k => mtp (na c) (na c 3) t k p) t) t))), some (.int (nI (mo (na c) (na c 3) p t))), some (.int (nI t)), some (.int (nI 0)), some (.int (nI 0)), l15, l16]) dL_place_280 rfl rfl (by decide) ?_
      have lq : ∀ j : Nat, j ≤ na c 3 → ∀ (Y2 : List PE) (f2 : Nat → Int32) (l15 l16 : Option Value), Y2.length = Y.length → kv_sum Y2 = kv_sum Y → (∀ q, q ≠ mi → Y2[q]? = Y[q]?) → Y2[mi]? = some (yr f2 6) → (∀ u, u < na c 3 → f2 u = nI (msk (fun k => M u k || ((decide (u < t) || (decide (u = t) && decide (k < j))) && (!(k == u) && mtp (na c) (na c 3) u k p))) (na c 3))) → PL l E D cA Y.length (kv_sum Y) mL_place (d + 7) fin 282 [some (.ref 0), some (.ref (227 + mi)), some (.int (nI p)), some (.int (nI (na c 3))), some (.int (nI (msk (vs (na c) p) (na c 3)))), some (.int x5), some (.ref (227 + ci)), some (.ref (227 + (ci + 1))), some (.int x8), some (.int (nI (smN (qat (na c) (na c 3) p) (na c 3)))), some (.int (nI (smN (fun t => cntN (fun k => mtp (na c) (na c 3) t k p) t) t + cntN (fun k => decide (k < t) && mtp (na c) (na c 3) t k p) j))), some (.int (nI (mo (na c) (na c 3) p t))), some (.int (nI t)), some (.int (nI (cntN (fun u => vs (na c) p t && thr (na c) (na c 3) p (CQ (na c) (na c 3) p t) u) j))), some (.int (nI j)), l15, l16] [] μ Y2 := by
        refine ps_for _ ?_ ?_
        · intro Y2 f2 l15 l16 za zb zd zc hJ
          have hcn : cntN (fun u => vs (na c) p t && thr (na c) (na c 3) p (CQ (na c) (na c 3) p t) u) (na c 3) ≤ 6 := Nat.le_trans (cntN_le _) h6
          have ep : smN (fun t => cntN (fun k => mtp (na c) (na c 3) t k p) t) t + cntN (fun k => decide (k < t) && mtp (na c) (na c 3) t k p) (na c 3) = smN (fun t => cntN (fun k => mtp (na c) (na c 3) t k p) t) (t + 1) := by
            show _ = smN (fun t => cntN (fun k => mtp (na c) (na c 3) t k p) t) t + cntN (fun k => mtp (na c) (na c 3) t k p) t
            congr 1
            exact cnt_cut (by omega)
          refine pw_iload dL_place_282 rfl ?_
          refine pw_iload_n dL_place_284 rfl ?_
          refine pn_ge (tgt := 446) dL_place_285 (by decide) (by omega) (by omega) (fun _ => ?_) (fun h9 => absurd h9 (Nat.lt_irrefl _))
          refine pw_iload dL_place_446 rfl ?_
          refine pw_iload dL_place_448 rfl ?_
          refine pn_le (tgt := 458) dL_place_450 (by decide) (by omega) (by omega) (fun hc => ?_) (fun hc => ?_)
          · refine pw_iload dL_place_458 rfl ?_
            refine px_istore (ls' := [some (.ref 0), some (.ref (227 + mi)), some (.int (nI p)), some (.int (nI (na c 3))), some (.int (nI (msk (vs (na c) p) (na c 3)))), some (.int x5), some (.ref (227 + ci)), some (.ref (227 + (ci + 1))), some (.int x8), some (.int (nI (smN (qat (na c) (na c 3) p) (na c 3)))), some (.int (nI (smN (fun t => cntN (fun k => mtp (na c) (na c 3) t k p) t) t + cntN (fun k => decide (k < t) && mtp (na c) (na c 3) t k p) (na c 3)))), some (.int (nI (mo (na c) (na c 3) p t))), some (.int (nI t)), some (.int (nI (cntN (fun u => vs (na c) p t && thr (na c) (na c 3) p (CQ (na c) (na c 3) p t) u) (na c 3)))), some (.int (nI (na c 3))), l15, l16]) dL_place_460 rfl rfl (by decide) ?_
            refine px_iincn (n := 1) (a := t) (b := t + 1) (ls' := [some (.ref 0), some (.ref (227 + mi)), some (.int (nI p)), some (.int (nI (na c 3))), some (.int (nI (msk (vs (na c) p) (na c 3)))), some (.int x5), some (.ref (227 + ci)), some (.ref (227 + (ci + 1))), some (.int x8), some (.int (nI (smN (qat (na c) (na c 3) p) (na c 3)))), some (.int (nI (smN (fun t => cntN (fun k => mtp (na c) (na c 3) t k p) t) t + cntN (fun k => decide (k < t) && mtp (na c) (na c 3) t k p) (na c 3)))), some (.int (nI (mo (na c) (na c 3) p t))), some (.int (nI (t + 1))), some (.int (nI (cntN (fun u => vs (na c) p t && thr (na c) (na c 3) p (CQ (na c) (na c 3) p t) u) (na c 3)))), some (.int (nI (na c 3))), l15, l16]) dL_place_462 rfl rfl rfl (by omega) ?_
            refine pw_goto (tgt := 270) dL_place_465 (by decide) ?_
            have em : mo (na c) (na c 3) p (t + 1) = mo (na c) (na c 3) p t := by
              by_cases hv : vs (na c) p t = true
              · rw [mo_t hv]
                have e3 : cntN (fun u => vs (na c) p t && thr (na c) (na c 3) p (CQ (na c) (na c 3) p t) u) (na c 3) = cntN (thr (na c) (na c 3) p (CQ (na c) (na c 3) p t)) (na c 3) := cntN_cg (fun u hu => by rw [hv, Bool.true_and])
                rw [e3] at hc
                split <;> omega
              · rw [mo_f hv]
            rw [ep, ← em]
            exact ih Y2 f2 _ _ _ _ za zb zd zc (fun u hu => by rw [hJ u hu]; exact congrArg nI (msk_cg (fun k hk => by simp [hk, Nat.lt_succ_iff_lt_or_eq, Bool.decide_or])))
          · refine pw_iload dL_place_453 rfl ?_
            refine pw_goto (tgt := 460) dL_place_455 (by decide) ?_
            refine px_istore (ls' := [some (.ref 0), some (.ref (227 + mi)), some (.int (nI p)), some (.int (nI (na c 3))), some (.int (nI (msk (vs (na c) p) (na c 3)))), some (.int x5), some (.ref (227 + ci)), some (.ref (227 + (ci + 1))), some (.int x8), some (.int (nI (smN (qat (na c) (na c 3) p) (na c 3)))), some (.int (nI (smN (fun t => cntN (fun k => mtp (na c) (na c 3) t k p) t) t + cntN (fun k => decide (k < t) && mtp (na c) (na c 3) t k p) (na c 3)))), some (.int (nI (cntN (fun u => vs (na c) p t && thr (na c) (na c 3) p (CQ (na c) (na c 3) p t) u) (na c 3)))), some (.int (nI t)), some (.int (nI (cntN (fun u => vs (na c) p t && thr (na c) (na c 3) p (CQ (na c) (na c 3) p t) u) (na c 3)))), some (.int (nI (na c 3))), l15, l16]) dL_place_460 rfl rfl (by decide) ?_
            refine px_iincn (n := 1) (a := t) (b := t + 1) (ls' := [some (.ref 0), some (.ref (227 + mi)), some (.int (nI p)), some (.int (nI (na c 3))), some (.int (nI (msk (vs (na c) p) (na c 3)))), some (.int x5), some (.ref (227 + ci)), some (.ref (227 + (ci + 1))), some (.int x8), some (.int (nI (smN (qat (na c) (na c 3) p) (na c 3)))), some (.int (nI (smN (fun t => cntN (fun k => mtp (na c) (na c 3) t k p) t) t + cntN (fun k => decide (k < t) && mtp (na c) (na c 3) t k p) (na c 3)))), some (.int (nI (cntN (fun u => vs (na c) p t && thr (na c) (na c 3) p (CQ (na c) (na c 3) p t) u) (na c 3)))), some (.int (nI (t + 1))), some (.int (nI (cntN (fun u => vs (na c) p t && thr (na c) (na c 3) p (CQ (na c) (na c 3) p t) u) (na c 3)))), some (.int (nI (na c 3))), l15, l16]) dL_place_462 rfl rfl rfl (by omega) ?_
            refine pw_goto (tgt := 270) dL_place_465 (by decide) ?_
            have em : mo (na c) (na c 3) p (t + 1) = cntN (fun u => vs (na c) p t && thr (na c) (na c 3) p (CQ (na c) (na c 3) p t) u) (na c 3) := by
              by_cases hv : vs (na c) p t = true
              · rw [mo_t hv]
                have e3 : cntN (fun u => vs (na c) p t && thr (na c) (na c 3) p (CQ (na c) (na c 3) p t) u) (na c 3) = cntN (thr (na c) (na c 3) p (CQ (na c) (na c 3) p t)) (na c 3) := cntN_cg (fun u hu => by rw [hv, Bool.true_and])
                rw [e3] at hc ⊢
                split <;> omega
              · rw [mo_f hv]
                have e3 : cntN (fun u => vs (na c) p t && thr (na c) (na c 3) p (CQ (na c) (na c 3) p t) u) (na c 3) = 0 := cnt_no (fun u hu => by simp [hv])
                omega
            rw [ep, ← em]
            exact ih Y2 f2 _ _ _ _ za zb zd zc (fun u hu => by rw [hJ u hu]; exact congrArg nI (msk_cg (fun k hk => by simp [hk, Nat.lt_succ_iff_lt_or_eq, Bool.decide_or])))
        · intro j hj ih2 Y2 f2 l15 l16 za zb zd zc hJ
          have hcj := cntN_le (p := fun u => vs (na c) p t && thr (na c) (na c 3) p (CQ (na c) (na c 3) p t) u) j
          refine pw_iload dL_place_282 rfl ?_
          refine pw_iload_n dL_place_284 rfl ?_
          refine pn_ge (tgt := 446) dL_place_285 (by decide) (by omega) (by omega) (fun h9 => absurd h9 (by omega)) (fun _ => ?_)
          refine w_pl_i1 hw ((zd _ hci).trans hc) ((zd _ hce).trans he) hg hg2 ht hj zc (hJ t ht) (fun Y3 f3 ta tb td tc hft hfu => ?_)
          refine w_pl_i2 hw ((td _ hci).trans ((zd _ hci).trans hc)) ((td _ hce).trans ((zd _ hce).trans he)) hg hg2 ht hj ?_
          refine ih2 Y3 f3 _ _ (ta.trans za) (tb.trans zb) (fun q hq => (td q hq).trans (zd q hq)) tc (fun u hu => ?_)
          by_cases e : u = t
          · subst e
            rw [hft]
            exact congrArg nI (msk_cg (fun k hk => row_step (x := fun k => mtp (na c) (na c 3) u k p)))
          · rw [hfu u e, hJ u hu]
            exact congrArg nI (msk_cg (fun k hk => by simp [e]))
      exact lq 0 (Nat.zero_le _) Y' f' _ _ ya yb yd yc (fun u hu => by rw [hI u hu]; exact congrArg nI (msk_cg (fun k hk => by simp)))
  exact lp 0 (Nat.zero_le _) Y f _ _ _ _ rfl rfl (fun _ _ => rfl) hm (fun u hu => by rw [hM u hu]; exact congrArg nI (msk_cg (fun k hk => by simp)))
set_option maxRecDepth 100000 in
set_option maxHeartbeats 4000000 in
theorem w_pl_b {k z : Nat} {c : CS} (hw : CW c) (hD : DR (na c)) (hk9 : Y.length ≤ k) (hz9 : kv_sum Y ≤ z) {p mi ci : Nat} {g g2 : Nat → Int32} (hc : Y[ci]? = some (yr g 6)) (he : Y[ci + 1]? = some (yr g2 6)) (hg : ∀ u, u < na c 3 → g u = if vs (na c) p u = true then nI (CQ (na c) (na c 3) p u) else -1) (hg2 : ∀ u, u < na c 3 → g2 u = if vs (na c) p u = true then nI (EQ (na c) (na c 3) p u) else -1) (hp : p < 8) (hk : ∀ (ν : Mu) (x5 x8 : Int32) (l10 l11 : Option Value), CX ν c → PL l E D cA k z mL_place (d + 7) fin 261 [some (.ref 0), some (.ref (227 + mi)), some (.int (nI p)), some (.int (nI (na c 3))), some (.int (nI (msk (vs (na c) p) (na c 3)))), some (.int x5), some (.ref (227 + ci)), some (.ref (227 + (ci + 1))), some (.int x8), some (.int (nI (smN (qat (na c) (na c 3) p) (na c 3)))), l10, l11, none, none, none, none, none] [] ν Y) : ∀ B : Nat, ∀ (q : Nat → Bool) (free : Nat) (ν : Mu) (l10 l11 : Option Value), CX ν c → WI (na c) (na c 3) p q free → free ≤ 10520 → msk q (na c 3) < B → PL l E D cA k z mL_place (d + 7) fin 122 [some (.ref 0), some (.ref (227 + mi)), some (.int (nI p)), some (.int (nI (na c 3))), some (.int (nI (msk (vs (na c) p) (na c 3)))), some (.int (nI (msk q (na c 3)))), some (.ref (227 + ci)), some (.ref (227 + (ci + 1))), some (.int (nI free)), some (.int (nI (QS (na c) (na c 3) p q))), l10, l11, none, none, none, none, none] [] ν Y := by
  have h6 := hw.1.t6
  intro B
  induction B with
  | zero => exact fun _ _ _ _ _ _ _ _ h => absurd h (Nat.not_lt_zero _)
  | succ B ih =>
    intro q free ν l10 l11 hν hW hfr hB
    have hQS := QS_le hw.1 (Nat.le_refl _) (p := p) (q := q)
    have hm64 := msk_64 (q := q) h6
    refine pw_iload dL_place_122 rfl ?_
    refine pw_if_eq (tgt := 261) dL_place_124 (by decide) (fun h0 => ?_) (fun h0 => ?_)
    · have hz : msk q (na c 3) = 0 := Nat.eq_zero_of_not_pos (fun hpos => nI_ne0 hpos (by omega) h0)
      rw [QS_end (fun u hu => msk_0 hz hu)]
      exact hk ν _ _ _ _ hν
    · have hz : msk q (na c 3) ≠ 0 := fun q => h0 (by rw [q]; rfl)
      refine pw_iconst_ (v := (-1)) dL_place_127 (by decide) ?_
      refine px_istore (ls' := [some (.ref 0), some (.ref (227 + mi)), some (.int (nI p)), some (.int (nI (na c 3))), some (.int (nI (msk (vs (na c) p) (na c 3)))), some (.int (nI (msk q (na c 3)))), some (.ref (227 + ci)), some (.ref (227 + (ci + 1))), some (.int (nI free)), some (.int (nI (QS (na c) (na c 3) p q))), some (.int (-1)), l11, none, none, none, none, none]) dL_place_128 rfl rfl (by decide) ?_
      refine pw_iload_n dL_place_130 rfl ?_
      refine pw_iconst_ (v := nI 1) dL_place_131 (by decide) ?_
      refine pw_isub dL_place_132 ?_
      refine px_istore (ls' := [some (.ref 0), some (.ref (227 + mi)), some (.int (nI p)), some (.int (nI (na c 3))), some (.int (nI (msk (vs (na c) p) (na c 3)))), some (.int (nI (msk q (na c 3)))), some (.ref (227 + ci)), some (.ref (227 + (ci + 1))), some (.int (nI free)), some (.int (nI (QS (na c) (na c 3) p q))), some (.int (-1)), some (.int ((nI (na c 3)) - (nI 1))), none, none, none, none, none]) dL_place_133 rfl rfl (by decide) ?_
      have k184 : ∀ (b : Nat) (l11 : Option Value), NB (na c) (na c 3) p q 0 (some b) → PL l E D cA k z mL_place (d + 7) fin 184 [some (.ref 0), some (.ref (227 + mi)), some (.int (nI p)), some (.int (nI (na c 3))), some (.int (nI (msk (vs (na c) p) (na c 3)))), some (.int (nI (msk q (na c 3)))), some (.ref (227 + ci)), some (.ref (227 + (ci + 1))), some (.int (nI free)), some (.int (nI (QS (na c) (na c 3) p q))), some (.int (nI b)), l11, none, none, none, none, none] [] ν Y := by
        intro b l11 hNB
        obtain ⟨-, hbn, hbq, hbm⟩ := hNB
        have hbv := (hW.1 b hbq).2
        have hmin : ∀ w, q w = true → w = b ∨ lx (CQ (na c) (na c 3) p b) b (CQ (na c) (na c 3) p w) w := fun w hq => hbm w (Nat.zero_le _) (hW.1 w hq).1 hq
        have hbg := hW.begin hw.1 hD (Nat.le_refl _) hbq hmin
        have hnx := hW.next hw.1 hD (Nat.le_refl _) hbq hmin
        have hqb := Q_b hw.1 (Nat.le_refl _) hbn hbv
        have hrm := msk_rem (q := q) hbn hbq
        have hp2 : 0 < 2 ^ b := Nat.two_pow_pos b
        obtain ⟨v, hvis, hvt, hvp⟩ := vs_t hbv
        obtain ⟨e1, e2, e3⟩ := Q_s (n := na c 3) hvis
        refine pw_iload dL_place_184 rfl ?_
        refine pw_iconst_ (v := nI 1) dL_place_186 (by decide) ?_
        refine pw_iload dL_place_187 rfl ?_
        refine pw_ishl dL_place_189 ?_
        refine pw_iconst_ (v := (-1)) dL_place_190 (by decide) ?_
        refine pw_ixor dL_place_191 ?_
        refine pw_iand dL_place_192 ?_
        rw [and_rem h6 hbn hbq]
        refine px_istore (ls' := [some (.ref 0), some (.ref (227 + mi)), some (.int (nI p)), some (.int (nI (na c 3))), some (.int (nI (msk (vs (na c) p) (na c 3)))), some (.int (nI (msk (fun u => q u && !(u == b)) (na c 3)))), some (.ref (227 + ci)), some (.ref (227 + (ci + 1))), some (.int (nI free)), some (.int (nI (QS (na c) (na c 3) p q))), some (.int (nI b)), l11, none, none, none, none, none]) dL_place_193 rfl rfl (by decide) ?_
        refine pw_aload_n dL_place_195 rfl ?_
        refine pw_iload dL_place_196 rfl ?_
        refine pw_aload_n dL_place_198 rfl ?_
        refine pw_iload dL_place_199 rfl ?_
        refine pw_iload_n dL_place_201 rfl ?_
        refine pl_callS (k' := Y.length) (z' := kv_sum Y) (As := [.ref 0, .int (nI b), .int (nI p)]) (st := [.int (nI b), .ref 0]) dL_place_202 cs_L_38 rfl (Nat.le_of_ble_eq_true rfl) (Nat.le_of_ble_eq_true rfl) ⟨Nat.le_refl _, (by omega)⟩ ⟨Nat.le_refl _, (by omega)⟩ ?_
        refine y_visit hw hν hbn hp (fun ν1 hx1 => ?_)
        rw [hvis]
        show PL l E D cA k z mL_place (d + 7) fin 205 [some (.ref 0), some (.ref (227 + mi)), some (.int (nI p)), some (.int (nI (na c 3))), some (.int (nI (msk (vs (na c) p) (na c 3)))), some (.int (nI (msk (fun u => q u && !(u == b)) (na c 3)))), some (.ref (227 + ci)), some (.ref (227 + (ci + 1))), some (.int (nI free)), some (.int (nI (QS (na c) (na c 3) p q))), some (.int (nI b)), l11, none, none, none, none, none] [.int (nI v), .int (nI b), .ref 0] ν1 Y
        refine pw_iconst_ (v := nI 2) dL_place_205 (by decide) ?_
        refine pl_callV (b := 0) (As := [.int (nI b), .int (nI v), .int (nI 2)]) (st := []) dL_place_206 cv_L_27 rfl ⟨by decide, by decide +kernel⟩ (Nat.le_of_ble_eq_true rfl) (Nat.le_of_ble_eq_true rfl) (by omega) (by omega) ?_
        refine l_visit (x := nI (BQ (na c) (na c 3) p b)) hw hx1 hbn hvt (by decide) (congrArg nI e2.symm) (fun ν1 hx1 => ?_)
        show PL l E D cA k z mL_place (d + 7) fin 209 [some (.ref 0), some (.ref (227 + mi)), some (.int (nI p)), some (.int (nI (na c 3))), some (.int (nI (msk (vs (na c) p) (na c 3)))), some (.int (nI (msk (fun u => q u && !(u == b)) (na c 3)))), some (.ref (227 + ci)), some (.ref (227 + (ci + 1))), some (.int (nI free)), some (.int (nI (QS (na c) (na c 3) p q))), some (.int (nI b)), l11, none, none, none, none, none] [.int (nI (BQ (na c) (na c 3) p b))] ν1 Y
        refine px_istore (ls' := [some (.ref 0), some (.ref (227 + mi)), some (.int (nI p)), some (.int (nI (na c 3))), some (.int (nI (msk (vs (na c) p) (na c 3)))), some (.int (nI (msk (fun u => q u && !(u == b)) (na c 3)))), some (.ref (227 + ci)), some (.ref (227 + (ci + 1))), some (.int (nI free)), some (.int (nI (QS (na c) (na c 3) p q))), some (.int (nI b)), some (.int (nI (BQ (na c) (na c 3) p b))), none, none, none, none, none]) dL_place_209 rfl rfl (by decide) ?_
        refine pw_iload dL_place_211 rfl ?_
        refine pw_aload dL_place_213 rfl ?_
        refine pw_iload dL_place_215 rfl ?_
        refine pl_iald (i := ci) (j := b) (n := 6) (f := g) (x := nI (CQ (na c) (na c 3) p b)) dL_place_217 rfl (by omega) (by decide) hc (by rw [hg b hbn, if_pos hbv]) ?_
        refine pw_iload dL_place_218 rfl ?_
        have k238 : PL l E D cA k z mL_place (d + 7) fin 238 [some (.ref 0), some (.ref (227 + mi)), some (.int (nI p)), some (.int (nI (na c 3))), some (.int (nI (msk (vs (na c) p) (na c 3)))), some (.int (nI (msk (fun u => q u && !(u == b)) (na c 3)))), some (.ref (227 + ci)), some (.ref (227 + (ci + 1))), some (.int (nI free)), some (.int (nI (QS (na c) (na c 3) p q))), some (.int (nI b)), some (.int (nI (BQ (na c) (na c 3) p b))), none, none, none, none, none] [] ν1 Y := by
          refine pw_iload dL_place_238 rfl ?_
          refine pw_iload dL_place_240 rfl ?_
          refine pw_aload dL_place_242 rfl ?_
          refine pw_iload dL_place_244 rfl ?_
          refine pl_iald (i := ci) (j := b) (n := 6) (f := g) (x := nI (CQ (na c) (na c 3) p b)) dL_place_246 rfl (by omega) (by decide) hc (by rw [hg b hbn, if_pos hbv]) ?_
          refine pn_isub hqb.1 dL_place_247 ?_
          refine px_iaddn (c := QS (na c) (na c 3) p (fun u => q u && !(u == b))) dL_place_248 (QS_next hbn hbv hbq).symm ?_
          refine px_istore (ls' := [some (.ref 0), some (.ref (227 + mi)), some (.int (nI p)), some (.int (nI (na c 3))), some (.int (nI (msk (vs (na c) p) (na c 3)))), some (.int (nI (msk (fun u => q u && !(u == b)) (na c 3)))), some (.ref (227 + ci)), some (.ref (227 + (ci + 1))), some (.int (nI free)), some (.int (nI (QS (na c) (na c 3) p (fun u => q u && !(u == b))))), some (.int (nI b)), some (.int (nI (BQ (na c) (na c 3) p b))), none, none, none, none, none]) dL_place_249 rfl rfl (by decide) ?_
          refine pw_aload dL_place_251 rfl ?_
          refine pw_iload dL_place_253 rfl ?_
          refine pl_iald (i := (ci + 1)) (j := b) (n := 6) (f := g2) (x := nI (EQ (na c) (na c 3) p b)) dL_place_255 rfl (by omega) (by decide) he (by rw [hg2 b hbn, if_pos hbv]) ?_
          refine px_istore (ls' := [some (.ref 0), some (.ref (227 + mi)), some (.int (nI p)), some (.int (nI (na c 3))), some (.int (nI (msk (vs (na c) p) (na c 3)))), some (.int (nI (msk (fun u => q u && !(u == b)) (na c 3)))), some (.ref (227 + ci)), some (.ref (227 + (ci + 1))), some (.int (nI (EQ (na c) (na c 3) p b))), some (.int (nI (QS (na c) (na c 3) p (fun u => q u && !(u == b))))), some (.int (nI b)), some (.int (nI (BQ (na c) (na c 3) p b))), none, none, none, none, none]) dL_place_256 rfl rfl (by decide) ?_
          refine pw_goto (tgt := 122) dL_place_258 (by decide) ?_
          exact ih _ _ _ _ _ hx1 hnx (by omega) (by omega)
        refine pn_le (tgt := 231) dL_place_220 (by decide) (by omega) (by omega) (fun hcc => ?_) (fun hcc => ?_)
        · refine pw_iload dL_place_231 rfl ?_
          refine pn_eq (tgt := 238) dL_place_233 (by decide) (by omega) (by omega) (fun _ => ?_) (fun h9 => absurd (by rw [hbg, if_pos hcc]) h9)
          exact k238
        · refine pw_aload dL_place_223 rfl ?_
          refine pw_iload dL_place_225 rfl ?_
          refine pl_iald (i := ci) (j := b) (n := 6) (f := g) (x := nI (CQ (na c) (na c 3) p b)) dL_place_227 rfl (by omega) (by decide) hc (by rw [hg b hbn, if_pos hbv]) ?_
          refine pw_goto (tgt := 233) dL_place_228 (by decide) ?_
          refine pn_eq (tgt := 238) dL_place_233 (by decide) (by omega) (by omega) (fun _ => ?_) (fun h9 => absurd (by rw [hbg, if_neg (by omega)]) h9)
          exact k238
      have ls : ∀ i : Nat, i ≤ (na c 3) → ∀ o : Option Nat, NB (na c) (na c 3) p q i o → PL l E D cA k z mL_place (d + 7) fin 135 [some (.ref 0), some (.ref (227 + mi)), some (.int (nI p)), some (.int (nI (na c 3))), some (.int (nI (msk (vs (na c) p) (na c 3)))), some (.int (nI (msk q (na c 3)))), some (.ref (227 + ci)), some (.ref (227 + (ci + 1))), some (.int (nI free)), some (.int (nI (QS (na c) (na c 3) p q))), some (.int (vI o)), some (.int (nI i - nI 1)), none, none, none, none, none] [] ν Y := by
        intro i
        induction i with
        | zero =>
          intro _ o hNB
          refine pw_iload dL_place_135 rfl ?_
          refine pw_if_lt (tgt := 184) dL_place_137 (by decide) (fun _ => ?_) (fun h9 => absurd (by decide) h9)
          match o, hNB with
          | none, hNB =>
            exfalso
            refine hz ?_
            have e : ∀ m, m ≤ na c 3 → msk q m = 0 := by
              intro m
              induction m with
              | zero => exact fun _ => rfl
              | succ m ih => exact fun hm => by rw [msk_f (hNB m (Nat.zero_le _) (by omega)), ih (by omega)]
            exact e _ (Nat.le_refl _)
          | some b, hNB => exact k184 b _ hNB
        | succ i ihi =>
          intro hi o hNB
          rw [pk_sub (show 1 ≤ i + 1 by omega), Nat.add_sub_cancel]
          show PL l E D cA k z mL_place (d + 7) fin 135 [some (.ref 0), some (.ref (227 + mi)), some (.int (nI p)), some (.int (nI (na c 3))), some (.int (nI (msk (vs (na c) p) (na c 3)))), some (.int (nI (msk q (na c 3)))), some (.ref (227 + ci)), some (.ref (227 + (ci + 1))), some (.int (nI free)), some (.int (nI (QS (na c) (na c 3) p q))), some (.int (vI o)), some (.int (nI i)), none, none, none, none, none] [] ν Y
          refine pw_iload dL_place_135 rfl ?_
          refine pw_if_lt (tgt := 184) dL_place_137 (by decide) (fun h9 => absurd h9 (nI_pos (by omega))) (fun _ => ?_)
          refine pw_iload dL_place_140 rfl ?_
          refine pw_iload dL_place_142 rfl ?_
          refine pw_ishr dL_place_144 ?_
          refine pw_iconst_ (v := nI 1) dL_place_145 (by decide) ?_
          refine pw_iand dL_place_146 ?_
          rw [one_bit h6 (show i < na c 3 by omega)]
          show PL l E D cA k z mL_place (d + 7) fin 147 [some (.ref 0), some (.ref (227 + mi)), some (.int (nI p)), some (.int (nI (na c 3))), some (.int (nI (msk (vs (na c) p) (na c 3)))), some (.int (nI (msk q (na c 3)))), some (.ref (227 + ci)), some (.ref (227 + (ci + 1))), some (.int (nI free)), some (.int (nI (QS (na c) (na c 3) p q))), some (.int (vI o)), some (.int (nI i)), none, none, none, none, none] [.int (nI (if q i = true then 1 else 0))] ν Y
          refine pw_iconst_ (v := nI 1) dL_place_147 (by decide) ?_
          refine pn_ne (tgt := 174) dL_place_148 (by decide) (by split <;> decide) (by decide) (fun hd => ?_) (fun hd => ?_)
          · refine pw_iload dL_place_174 rfl ?_
            refine px_istore (ls' := [some (.ref 0), some (.ref (227 + mi)), some (.int (nI p)), some (.int (nI (na c 3))), some (.int (nI (msk (vs (na c) p) (na c 3)))), some (.int (nI (msk q (na c 3)))), some (.ref (227 + ci)), some (.ref (227 + (ci + 1))), some (.int (nI free)), some (.int (nI (QS (na c) (na c 3) p q))), some (.int (vI o)), some (.int (nI i)), none, none, none, none, none]) dL_place_176 rfl rfl (by decide) ?_
            refine px_iinc (v := nI i - nI 1) (ls' := [some (.ref 0), some (.ref (227 + mi)), some (.int (nI p)), some (.int (nI (na c 3))), some (.int (nI (msk (vs (na c) p) (na c 3)))), some (.int (nI (msk q (na c 3)))), some (.ref (227 + ci)), some (.ref (227 + (ci + 1))), some (.int (nI free)), some (.int (nI (QS (na c) (na c 3) p q))), some (.int (vI o)), some (.int (nI i - nI 1)), none, none, none, none, none]) dL_place_178 rfl (by rw [Int32.sub_eq_add_neg]; rfl) rfl rfl ?_
            refine pw_goto (tgt := 135) dL_place_181 (by decide) ?_
            exact ihi (by omega) o (hNB.no (fun q => hd (if_pos q)))
          · have hqi : q i = true := by
              by_cases e : q i = true
              · exact e
              · rw [if_neg e] at hd
                cases hd
            match o, hNB with
            | none, hNB =>
              show PL l E D cA k z mL_place (d + 7) fin 151 [some (.ref 0), some (.ref (227 + mi)), some (.int (nI p)), some (.int (nI (na c 3))), some (.int (nI (msk (vs (na c) p) (na c 3)))), some (.int (nI (msk q (na c 3)))), some (.ref (227 + ci)), some (.ref (227 + (ci + 1))), some (.int (nI free)), some (.int (nI (QS (na c) (na c 3) p q))), some (.int (-1)), some (.int (nI i)), none, none, none, none, none] [] ν Y
              refine pw_iload dL_place_151 rfl ?_
              refine pw_if_lt (tgt := 169) dL_place_153 (by decide) (fun _ => ?_) (fun h9 => absurd (by decide) h9)
              refine pw_iload dL_place_169 rfl ?_
              refine pw_goto (tgt := 176) dL_place_171 (by decide) ?_
              refine px_istore (ls' := [some (.ref 0), some (.ref (227 + mi)), some (.int (nI p)), some (.int (nI (na c 3))), some (.int (nI (msk (vs (na c) p) (na c 3)))), some (.int (nI (msk q (na c 3)))), some (.ref (227 + ci)), some (.ref (227 + (ci + 1))), some (.int (nI free)), some (.int (nI (QS (na c) (na c 3) p q))), some (.int (nI i)), some (.int (nI i)), none, none, none, none, none]) dL_place_176 rfl rfl (by decide) ?_
              refine px_iinc (v := nI i - nI 1) (ls' := [some (.ref 0), some (.ref (227 + mi)), some (.int (nI p)), some (.int (nI (na c 3))), some (.int (nI (msk (vs (na c) p) (na c 3)))), some (.int (nI (msk q (na c 3)))), some (.ref (227 + ci)), some (.ref (227 + (ci + 1))), some (.int (nI free)), some (.int (nI (QS (na c) (na c 3) p q))), some (.int (nI i)), some (.int (nI i - nI 1)), none, none, none, none, none]) dL_place_178 rfl (by rw [Int32.sub_eq_add_neg]; rfl) rfl rfl ?_
              refine pw_goto (tgt := 135) dL_place_181 (by decide) ?_
              exact ihi (by omega) (some i) (hNB.fst (by omega) hqi)
            | some b, hNB =>
              have hb6 := hNB.2.1
              have hbv := (hW.1 b hNB.2.2.1).2
              have hiv := (hW.1 i hqi).2
              have qb := Q_b hw.1 (Nat.le_refl _) hb6 hbv
              have qi := Q_b hw.1 (Nat.le_refl _) (show i < na c 3 by omega) hiv
              show PL l E D cA k z mL_place (d + 7) fin 151 [some (.ref 0), some (.ref (227 + mi)), some (.int (nI p)), some (.int (nI (na c 3))), some (.int (nI (msk (vs (na c) p) (na c 3)))), some (.int (nI (msk q (na c 3)))), some (.ref (227 + ci)), some (.ref (227 + (ci + 1))), some (.int (nI free)), some (.int (nI (QS (na c) (na c 3) p q))), some (.int (nI b)), some (.int (nI i)), none, none, none, none, none] [] ν Y
              refine pw_iload dL_place_151 rfl ?_
              refine pw_if_lt (tgt := 169) dL_place_153 (by decide) (fun h9 => absurd h9 (nI_pos (by omega))) (fun _ => ?_)
              refine pw_aload dL_place_156 rfl ?_
              refine pw_iload dL_place_158 rfl ?_
              refine pl_iald (i := ci) (j := i) (n := 6) (f := g) (x := nI (CQ (na c) (na c 3) p i)) dL_place_160 rfl (by omega) (by decide) hc (by rw [hg i (by omega), if_pos hiv]) ?_
              refine pw_aload dL_place_161 rfl ?_
              refine pw_iload dL_place_163 rfl ?_
              refine pl_iald (i := ci) (j := b) (n := 6) (f := g) (x := nI (CQ (na c) (na c 3) p b)) dL_place_165 rfl (by omega) (by decide) hc (by rw [hg b hb6, if_pos hbv]) ?_
              refine pn_gt (tgt := 174) dL_place_166 (by decide) (by omega) (by omega) (fun hc => ?_) (fun hc => ?_)
              · refine pw_iload dL_place_174 rfl ?_
                refine px_istore (ls' := [some (.ref 0), some (.ref (227 + mi)), some (.int (nI p)), some (.int (nI (na c 3))), some (.int (nI (msk (vs (na c) p) (na c 3)))), some (.int (nI (msk q (na c 3)))), some (.ref (227 + ci)), some (.ref (227 + (ci + 1))), some (.int (nI free)), some (.int (nI (QS (na c) (na c 3) p q))), some (.int (nI b)), some (.int (nI i)), none, none, none, none, none]) dL_place_176 rfl rfl (by decide) ?_
                refine px_iinc (v := nI i - nI 1) (ls' := [some (.ref 0), some (.ref (227 + mi)), some (.int (nI p)), some (.int (nI (na c 3))), some (.int (nI (msk (vs (na c) p) (na c 3)))), some (.int (nI (msk q (na c 3)))), some (.ref (227 + ci)), some (.ref (227 + (ci + 1))), some (.int (nI free)), some (.int (nI (QS (na c) (na c 3) p q))), some (.int (nI b)), some (.int (nI i - nI 1)), none, none, none, none, none]) dL_place_178 rfl (by rw [Int32.sub_eq_add_neg]; rfl) rfl rfl ?_
                refine pw_goto (tgt := 135) dL_place_181 (by decide) ?_
                exact ihi (by omega) (some b) (hNB.keep (by omega))
              · refine pw_iload dL_place_169 rfl ?_
                refine pw_goto (tgt := 176) dL_place_171 (by decide) ?_
                refine px_istore (ls' := [some (.ref 0), some (.ref (227 + mi)), some (.int (nI p)), some (.int (nI (na c 3))), some (.int (nI (msk (vs (na c) p) (na c 3)))), some (.int (nI (msk q (na c 3)))), some (.ref (227 + ci)), some (.ref (227 + (ci + 1))), some (.int (nI free)), some (.int (nI (QS (na c) (na c 3) p q))), some (.int (nI i)), some (.int (nI i)), none, none, none, none, none]) dL_place_176 rfl rfl (by decide) ?_
                refine px_iinc (v := nI i - nI 1) (ls' := [some (.ref 0), some (.ref (227 + mi)), some (.int (nI p)), some (.int (nI (na c 3))), some (.int (nI (msk (vs (na c) p) (na c 3)))), some (.int (nI (msk q (na c 3)))), some (.ref (227 + ci)), some (.ref (227 + (ci + 1))), some (.int (nI free)), some (.int (nI (QS (na c) (na c 3) p q))), some (.int (nI i)), some (.int (nI i - nI 1)), none, none, none, none, none]) dL_place_178 rfl (by rw [Int32.sub_eq_add_neg]; rfl) rfl rfl ?_
                refine pw_goto (tgt := 135) dL_place_181 (by decide) ?_
                exact ihi (by omega) (some i) (hNB.yes (by omega) hqi hc)
      exact ls (na c 3) (Nat.le_refl _) none (fun u h1 h2 => absurd h1 (by omega))
end PLACE2
