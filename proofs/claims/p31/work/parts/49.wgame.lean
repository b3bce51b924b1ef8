/-! the law: the whole game -/
theorem psm_s {a : AS} {n t : Nat} : psm a n (t + 1) = psm a n t + pt a n t := rfl
theorem opn_s {a : AS} {p : Nat} (h : a (7 + 4 * p) ≤ 1) : cntN (fun p => a (7 + 4 * p) == 0) p + (1 - a (7 + 4 * p)) = cntN (fun p => a (7 + 4 * p) == 0) (p + 1) := by
  show _ = cntN (fun p => a (7 + 4 * p) == 0) p + (if (a (7 + 4 * p) == 0) = true then 1 else 0)
  congr 1
  by_cases e : a (7 + 4 * p) = 0
  · rw [if_pos (by simpa using e), e]
  · rw [if_neg (by simpa using e)]
    omega
theorem rank_more {x y : Int32} {a b : Int} (h : (x - y).toInt = a - b) : (0 < x - y ↔ b < a) ∧ (x - y = 0 ↔ a = b) := by
  constructor
  · rw [Int32.lt_iff_toInt_lt, h, show (0 : Int32).toInt = 0 from rfl]
    omega
  · rw [← Int32.toInt_inj, h, show (0 : Int32).toInt = 0 from rfl]
    omega
section GAME
variable {l : Launch} {E : EV} {D : va_G} {cA : Nat → ClassId} {fin : Option Value → Mu → List PE → Prop} {μ : Mu} {Y : List PE} {d : Nat}
set_option maxRecDepth 100000 in
set_option maxHeartbeats 4000000 in
theorem y_game_c {c : CS} (hw : CW c) (hx : CX μ c) {mi : Nat} {f : Nat → Int32} (hm : Y[mi]? = some (yr f 6)) (hf1 : ∀ u, u < na c 3 → f u = nI (msk (metp (na c) (na c 3) u) (na c 3))) {l13 l14 l15 l16 : Option Value} (hf : ∀ ν : Mu, CX ν c → fin (some (.int (nI 1))) ν Y) : PL l E D cA Y.length (kv_sum Y) mL_game (d + 8) fin 117 [some (.ref 0), some (.ref (227 + 0)), some (.ref (227 + 1)), some (.ref (227 + 2)), some (.int (nI (na c 3))), some (.ref (227 + mi)), some (.int (nI (opn (na c)))), some (.int (nI (qal (na c) (na c 3)))), some (.int (nI 0)), some (.int (nI 0)), some (.int (nI 0)), some (.int (nI 0)), some (.int (nI 0)), l13, l14, l15, l16] [] μ Y := by
  have h6 := hw.1.t6
  have hmt : ∀ t, t ≤ na c 3 → smN (fun t => cntN (mt (na c) (na c 3) t) t) t ≤ 36 := fun t ht => Nat.le_trans (smN_le (c := 6) (fun u hu => Nat.le_trans (cntN_le u) (by omega))) (by omega)
  have htl : ∀ t, t ≤ na c 3 → smN (tl (na c)) t ≤ 48 := fun t ht => Nat.le_trans (smN_le (c := 8) (fun u hu => tl_le hw.1 (by omega))) (by omega)
  have hls : ∀ t, t ≤ na c 3 → lse (na c) (na c 3) t ≤ 10520 := fun t ht => by
    induction t with
    | zero => exact Nat.zero_le _
    | succ t ih =>
      have h1 := ih (by omega)
      have h2 := ov_le hw.1 (Nat.le_refl _) (show t < na c 3 by omega)
      show (if lse (na c) (na c 3) t < OV (na c) (na c 3) t then OV (na c) (na c 3) t else lse (na c) (na c 3) t) ≤ _
      split <;> omega
  have lp : ∀ t : Nat, t ≤ na c 3 → ∀ (ν : Mu) (l13 l14 l15 l16 : Option Value), CX ν c → PL l E D cA Y.length (kv_sum Y) mL_game (d + 8) fin 117 [some (.ref 0), some (.ref (227 + 0)), some (.ref (227 + 1)), some (.ref (227 + 2)), some (.int (nI (na c 3))), some (.ref (227 + mi)), some (.int (nI (opn (na c)))), some (.int (nI (qal (na c) (na c 3)))), some (.int (nI (smN (fun t => cntN (mt (na c) (na c 3) t) t) t))), some (.int (nI (lse (na c) (na c 3) t))), some (.int (psm (na c) (na c 3) t)), some (.int (nI (smN (tl (na c)) t))), some (.int (nI t)), l13, l14, l15, l16] [] ν Y := by
    refine ps_for _ ?_ ?_
    · intro ν l13 l14 l15 l16 hν
      refine pw_iload dL_game_117 rfl ?_
      refine pw_iload dL_game_119 rfl ?_
      refine pn_ge (tgt := 346) dL_game_121 (by decide) (by omega) (by omega) (fun _ => ?_) (fun h9 => absurd h9 (Nat.lt_irrefl _))
      refine pw_aload_n dL_game_346 rfl ?_
      refine pw_iconst_ (v := nI 4) dL_game_347 (by decide) ?_
      refine pl_callV (b := 0) (As := [.int (nI 4)]) (st := []) dL_game_348 cv_L_24 rfl ⟨by decide, by decide +kernel⟩ (Nat.le_of_ble_eq_true rfl) (Nat.le_of_ble_eq_true rfl) (by omega) (by omega) ?_
      refine l_count (x := nI (opn (na c))) hw hν (by decide) rfl (fun ν1 hx1 => ?_)
      show PL l E D cA Y.length (kv_sum Y) mL_game (d + 8) fin 351 [some (.ref 0), some (.ref (227 + 0)), some (.ref (227 + 1)), some (.ref (227 + 2)), some (.int (nI (na c 3))), some (.ref (227 + mi)), some (.int (nI (opn (na c)))), some (.int (nI (qal (na c) (na c 3)))), some (.int (nI (smN (fun t => cntN (mt (na c) (na c 3) t) t) (na c 3)))), some (.int (nI (lse (na c) (na c 3) (na c 3)))), some (.int (psm (na c) (na c 3) (na c 3))), some (.int (nI (smN (tl (na c)) (na c 3)))), some (.int (nI (na c 3))), l13, l14, l15, l16] [.int (nI (opn (na c)))] ν1 Y
      refine pw_iload dL_game_351 rfl ?_
      refine pw_icmp_ne (tgt := 430) dL_game_353 (by decide) (fun h9 => absurd rfl h9) (fun _ => ?_)
      refine pw_aload_n dL_game_356 rfl ?_
      refine pw_iconst_ (v := nI 5) dL_game_357 (by decide) ?_
      refine pl_callV (b := 0) (As := [.int (nI 5)]) (st := []) dL_game_358 cv_L_24 rfl ⟨by decide, by decide +kernel⟩ (Nat.le_of_ble_eq_true rfl) (Nat.le_of_ble_eq_true rfl) (by omega) (by omega) ?_
      refine l_count (x := nI (smN (fun t => cntN (mt (na c) (na c 3) t) t) (na c 3))) hw hx1 (by decide) (congrArg nI (prs_sym (mt_sym _ _) _)) (fun ν2 hx2 => ?_)
      show PL l E D cA Y.length (kv_sum Y) mL_game (d + 8) fin 361 [some (.ref 0), some (.ref (227 + 0)), some (.ref (227 + 1)), some (.ref (227 + 2)), some (.int (nI (na c 3))), some (.ref (227 + mi)), some (.int (nI (opn (na c)))), some (.int (nI (qal (na c) (na c 3)))), some (.int (nI (smN (fun t => cntN (mt (na c) (na c 3) t) t) (na c 3)))), some (.int (nI (lse (na c) (na c 3) (na c 3)))), some (.int (psm (na c) (na c 3) (na c 3))), some (.int (nI (smN (tl (na c)) (na c 3)))), some (.int (nI (na c 3))), l13, l14, l15, l16] [.int (nI (smN (fun t => cntN (mt (na c) (na c 3) t) t) (na c 3)))] ν2 Y
      refine pw_iload dL_game_361 rfl ?_
      refine pw_icmp_ne (tgt := 430) dL_game_363 (by decide) (fun h9 => absurd rfl h9) (fun _ => ?_)
      refine pw_aload_n dL_game_366 rfl ?_
      refine pw_bipush (v := nI 6) dL_game_367 (by decide) ?_
      refine pl_callV (b := 0) (As := [.int (nI 6)]) (st := []) dL_game_369 cv_L_24 rfl ⟨by decide, by decide +kernel⟩ (Nat.le_of_ble_eq_true rfl) (Nat.le_of_ble_eq_true rfl) (by omega) (by omega) ?_
      refine l_count (x := nI (lse (na c) (na c 3) (na c 3))) hw hx2 (by decide) rfl (fun ν3 hx3 => ?_)
      show PL l E D cA Y.length (kv_sum Y) mL_game (d + 8) fin 372 [some (.ref 0), some (.ref (227 + 0)), some (.ref (227 + 1)), some (.ref (227 + 2)), some (.int (nI (na c 3))), some (.ref (227 + mi)), some (.int (nI (opn (na c)))), some (.int (nI (qal (na c) (na c 3)))), some (.int (nI (smN (fun t => cntN (mt (na c) (na c 3) t) t) (na c 3)))), some (.int (nI (lse (na c) (na c 3) (na c 3)))), some (.int (psm (na c) (na c 3) (na c 3))), some (.int (nI (smN (tl (na c)) (na c 3)))), some (.int (nI (na c 3))), l13, l14, l15, l16] [.int (nI (lse (na c) (na c 3) (na c 3)))] ν3 Y
      refine pw_iload dL_game_372 rfl ?_
      refine pw_icmp_ne (tgt := 430) dL_game_374 (by decide) (fun h9 => absurd rfl h9) (fun _ => ?_)
      refine pw_aload_n dL_game_377 rfl ?_
      refine pw_bipush (v := nI 7) dL_game_378 (by decide) ?_
      refine pl_callV (b := 0) (As := [.int (nI 7)]) (st := []) dL_game_380 cv_L_24 rfl ⟨by decide, by decide +kernel⟩ (Nat.le_of_ble_eq_true rfl) (Nat.le_of_ble_eq_true rfl) (by omega) (by omega) ?_
      refine l_count (x := nI (qal (na c) (na c 3))) hw hx3 (by decide) rfl (fun ν4 hx4 => ?_)
      show PL l E D cA Y.length (kv_sum Y) mL_game (d + 8) fin 383 [some (.ref 0), some (.ref (227 + 0)), some (.ref (227 + 1)), some (.ref (227 + 2)), some (.int (nI (na c 3))), some (.ref (227 + mi)), some (.int (nI (opn (na c)))), some (.int (nI (qal (na c) (na c 3)))), some (.int (nI (smN (fun t => cntN (mt (na c) (na c 3) t) t) (na c 3)))), some (.int (nI (lse (na c) (na c 3) (na c 3)))), some (.int (psm (na c) (na c 3) (na c 3))), some (.int (nI (smN (tl (na c)) (na c 3)))), some (.int (nI (na c 3))), l13, l14, l15, l16] [.int (nI (qal (na c) (na c 3)))] ν4 Y
      refine pw_iload dL_game_383 rfl ?_
      refine pw_icmp_ne (tgt := 430) dL_game_385 (by decide) (fun h9 => absurd rfl h9) (fun _ => ?_)
      refine pw_iload dL_game_388 rfl ?_
      have k404 : ∀ κ : Mu, CX κ c → PL l E D cA Y.length (kv_sum Y) mL_game (d + 8) fin 404 [some (.ref 0), some (.ref (227 + 0)), some (.ref (227 + 1)), some (.ref (227 + 2)), some (.int (nI (na c 3))), some (.ref (227 + mi)), some (.int (nI (opn (na c)))), some (.int (nI (qal (na c) (na c 3)))), some (.int (nI (smN (fun t => cntN (mt (na c) (na c 3) t) t) (na c 3)))), some (.int (nI (lse (na c) (na c 3) (na c 3)))), some (.int (psm (na c) (na c 3) (na c 3))), some (.int (nI (smN (tl (na c)) (na c 3)))), some (.int (nI (na c 3))), l13, l14, l15, l16] [] κ Y := by
        intro κ hκ
        refine pw_aload_n dL_game_404 rfl ?_
        refine pw_bipush (v := nI 9) dL_game_405 (by decide) ?_
        refine pl_callV (b := 0) (As := [.int (nI 9)]) (st := []) dL_game_407 cv_L_24 rfl ⟨by decide, by decide +kernel⟩ (Nat.le_of_ble_eq_true rfl) (Nat.le_of_ble_eq_true rfl) (by omega) (by omega) ?_
        refine l_count (x := (psm (na c) (na c 3) (na c 3))) hw hκ (by decide) rfl (fun ν5 hx5 => ?_)
        show PL l E D cA Y.length (kv_sum Y) mL_game (d + 8) fin 410 [some (.ref 0), some (.ref (227 + 0)), some (.ref (227 + 1)), some (.ref (227 + 2)), some (.int (nI (na c 3))), some (.ref (227 + mi)), some (.int (nI (opn (na c)))), some (.int (nI (qal (na c) (na c 3)))), some (.int (nI (smN (fun t => cntN (mt (na c) (na c 3) t) t) (na c 3)))), some (.int (nI (lse (na c) (na c 3) (na c 3)))), some (.int (psm (na c) (na c 3) (na c 3))), some (.int (nI (smN (tl (na c)) (na c 3)))), some (.int (nI (na c 3))), l13, l14, l15, l16] [.int (psm (na c) (na c 3) (na c 3))] ν5 Y
        refine pw_iload dL_game_410 rfl ?_
        refine pw_icmp_ne (tgt := 430) dL_game_412 (by decide) (fun h9 => absurd rfl h9) (fun _ => ?_)
        refine pw_aload_n dL_game_415 rfl ?_
        refine pw_bipush (v := nI 10) dL_game_416 (by decide) ?_
        refine pl_callV (b := 0) (As := [.int (nI 10)]) (st := []) dL_game_418 cv_L_24 rfl ⟨by decide, by decide +kernel⟩ (Nat.le_of_ble_eq_true rfl) (Nat.le_of_ble_eq_true rfl) (by omega) (by omega) ?_
        refine l_count (x := nI (smN (tl (na c)) (na c 3))) hw hx5 (by decide) rfl (fun ν6 hx6 => ?_)
        show PL l E D cA Y.length (kv_sum Y) mL_game (d + 8) fin 421 [some (.ref 0), some (.ref (227 + 0)), some (.ref (227 + 1)), some (.ref (227 + 2)), some (.int (nI (na c 3))), some (.ref (227 + mi)), some (.int (nI (opn (na c)))), some (.int (nI (qal (na c) (na c 3)))), some (.int (nI (smN (fun t => cntN (mt (na c) (na c 3) t) t) (na c 3)))), some (.int (nI (lse (na c) (na c 3) (na c 3)))), some (.int (psm (na c) (na c 3) (na c 3))), some (.int (nI (smN (tl (na c)) (na c 3)))), some (.int (nI (na c 3))), l13, l14, l15, l16] [.int (nI (smN (tl (na c)) (na c 3)))] ν6 Y
        refine pw_iload dL_game_421 rfl ?_
        refine pw_icmp_ne (tgt := 430) dL_game_423 (by decide) (fun h9 => absurd rfl h9) (fun _ => ?_)
        refine pw_iconst_ (v := nI 1) dL_game_426 (by decide) ?_
        refine pw_goto (tgt := 431) dL_game_427 (by decide) ?_
        exact pl_iret dL_game_431 rfl (by decide) rfl rfl (hf _ hx6)
      refine pw_if_gt (tgt := 404) dL_game_390 (by decide) (fun hc => ?_) (fun hc => ?_)
      · exact k404 _ hx4
      · have hn0 : na c 3 = 0 := Nat.eq_zero_of_not_pos (fun hp => hc ((nI_ltI (a := 0) (by decide) (by omega)).mpr hp))
        refine pw_aload_n dL_game_393 rfl ?_
        refine pw_bipush (v := nI 8) dL_game_394 (by decide) ?_
        refine pl_callV (b := 0) (As := [.int (nI 8)]) (st := []) dL_game_396 cv_L_24 rfl ⟨by decide, by decide +kernel⟩ (Nat.le_of_ble_eq_true rfl) (Nat.le_of_ble_eq_true rfl) (by omega) (by omega) ?_
        refine l_count (x := (-100006)) hw hx4 (by decide) (by show eF (wnp (na c) (na c 3) (na c 3)) = _; rw [hn0]; rfl) (fun ν5 hx5 => ?_)
        show PL l E D cA Y.length (kv_sum Y) mL_game (d + 8) fin 399 [some (.ref 0), some (.ref (227 + 0)), some (.ref (227 + 1)), some (.ref (227 + 2)), some (.int (nI (na c 3))), some (.ref (227 + mi)), some (.int (nI (opn (na c)))), some (.int (nI (qal (na c) (na c 3)))), some (.int (nI (smN (fun t => cntN (mt (na c) (na c 3) t) t) (na c 3)))), some (.int (nI (lse (na c) (na c 3) (na c 3)))), some (.int (psm (na c) (na c 3) (na c 3))), some (.int (nI (smN (tl (na c)) (na c 3)))), some (.int (nI (na c 3))), l13, l14, l15, l16] [.int (-100006)] ν5 Y
        refine pw_ldc dL_game_399 kc_L_37 ?_
        refine pw_icmp_ne (tgt := 430) dL_game_401 (by decide) (fun h9 => absurd rfl h9) (fun _ => ?_)
        exact k404 _ hx5
    · intro t ht ih ν l13 l14 l15 l16 hν
      have hmtt := hmt t (by omega)
      have htlt := htl t (by omega)
      have hlst := hls t (by omega)
      have hovt := ov_le hw.1 (Nat.le_refl _) ht
      have htlT := tl_le hw.1 ht
      refine pw_iload dL_game_117 rfl ?_
      refine pw_iload dL_game_119 rfl ?_
      refine pn_ge (tgt := 346) dL_game_121 (by decide) (by omega) (by omega) (fun h9 => absurd h9 (by omega)) (fun _ => ?_)
      refine pw_iconst_ (v := nI 0) dL_game_124 (by decide) ?_
      refine px_istore (ls' := [some (.ref 0), some (.ref (227 + 0)), some (.ref (227 + 1)), some (.ref (227 + 2)), some (.int (nI (na c 3))), some (.ref (227 + mi)), some (.int (nI (opn (na c)))), some (.int (nI (qal (na c) (na c 3)))), some (.int (nI (smN (fun t => cntN (mt (na c) (na c 3) t) t) t))), some (.int (nI (lse (na c) (na c 3) t))), some (.int (psm (na c) (na c 3) t)), some (.int (nI (smN (tl (na c)) t))), some (.int (nI t)), some (.int (nI 0)), l14, l15, l16]) dL_game_125 rfl rfl (by decide) ?_
      refine pw_iconst_ (v := nI 0) dL_game_127 (by decide) ?_
      refine px_istore (ls' := [some (.ref 0), some (.ref (227 + 0)), some (.ref (227 + 1)), some (.ref (227 + 2)), some (.int (nI (na c 3))), some (.ref (227 + mi)), some (.int (nI (opn (na c)))), some (.int (nI (qal (na c) (na c 3)))), some (.int (nI (smN (fun t => cntN (mt (na c) (na c 3) t) t) t))), some (.int (nI (lse (na c) (na c 3) t))), some (.int (psm (na c) (na c 3) t)), some (.int (nI (smN (tl (na c)) t))), some (.int (nI t)), some (.int (nI 0)), some (.int (nI 0)), l15, l16]) dL_game_128 rfl rfl (by decide) ?_
      have lq : ∀ k : Nat, k ≤ na c 3 → ∀ (κ : Mu) (l15 l16 : Option Value), CX κ c → PL l E D cA Y.length (kv_sum Y) mL_game (d + 8) fin 130 [some (.ref 0), some (.ref (227 + 0)), some (.ref (227 + 1)), some (.ref (227 + 2)), some (.int (nI (na c 3))), some (.ref (227 + mi)), some (.int (nI (opn (na c)))), some (.int (nI (qal (na c) (na c 3)))), some (.int (nI (smN (fun t => cntN (mt (na c) (na c 3) t) t) t + cntN (fun k => decide (k < t) && mt (na c) (na c 3) t k) k))), some (.int (nI (lse (na c) (na c 3) t))), some (.int (psm (na c) (na c 3) t)), some (.int (nI (smN (tl (na c)) t))), some (.int (nI t)), some (.int (nI (cntN (fun u => ah (na c) (na c 3) u t) k))), some (.int (nI k)), l15, l16] [] κ Y := by
        refine ps_for _ ?_ ?_
        · intro κ l15 l16 hκ
          have ep : smN (fun t => cntN (mt (na c) (na c 3) t) t) t + cntN (fun k => decide (k < t) && mt (na c) (na c 3) t k) (na c 3) = smN (fun t => cntN (mt (na c) (na c 3) t) t) (t + 1) := by
            show _ = smN (fun t => cntN (mt (na c) (na c 3) t) t) t + cntN (mt (na c) (na c 3) t) t
            congr 1
            exact cnt_cut (by omega)
          have hrk : cntN (fun u => ah (na c) (na c 3) u t) (na c 3) ≤ 6 := Nat.le_trans (cntN_le _) h6
          rw [ep]
          refine pw_iload dL_game_130 rfl ?_
          refine pw_iload dL_game_132 rfl ?_
          refine pn_ge (tgt := 242) dL_game_134 (by decide) (by omega) (by omega) (fun _ => ?_) (fun h9 => absurd h9 (Nat.lt_irrefl _))
          have k266 : ∀ κ1 : Mu, CX κ1 c → PL l E D cA Y.length (kv_sum Y) mL_game (d + 8) fin 266 [some (.ref 0), some (.ref (227 + 0)), some (.ref (227 + 1)), some (.ref (227 + 2)), some (.int (nI (na c 3))), some (.ref (227 + mi)), some (.int (nI (opn (na c)))), some (.int (nI (qal (na c) (na c 3)))), some (.int (nI (smN (fun t => cntN (mt (na c) (na c 3) t) t) (t + 1)))), some (.int (nI (lse (na c) (na c 3) t))), some (.int (psm (na c) (na c 3) t)), some (.int (nI (smN (tl (na c)) t))), some (.int (nI t)), some (.int (nI (cntN (fun u => ah (na c) (na c 3) u t) (na c 3)))), some (.int (nI (na c 3))), l15, l16] [.int (nI (lse (na c) (na c 3) (t + 1)))] κ1 Y := by
            intro κ1 hκ1
            refine px_istore (ls' := [some (.ref 0), some (.ref (227 + 0)), some (.ref (227 + 1)), some (.ref (227 + 2)), some (.int (nI (na c 3))), some (.ref (227 + mi)), some (.int (nI (opn (na c)))), some (.int (nI (qal (na c) (na c 3)))), some (.int (nI (smN (fun t => cntN (mt (na c) (na c 3) t) t) (t + 1)))), some (.int (nI (lse (na c) (na c 3) (t + 1)))), some (.int (psm (na c) (na c 3) t)), some (.int (nI (smN (tl (na c)) t))), some (.int (nI t)), some (.int (nI (cntN (fun u => ah (na c) (na c 3) u t) (na c 3)))), some (.int (nI (na c 3))), l15, l16]) dL_game_266 rfl rfl (by decide) ?_
            refine pw_iload dL_game_268 rfl ?_
            refine pw_aload_n dL_game_270 rfl ?_
            refine pw_iload dL_game_271 rfl ?_
            refine pw_bipush (v := nI 6) dL_game_273 (by decide) ?_
            refine pl_callV (b := 0) (As := [.int (nI t), .int (nI 6)]) (st := [.int (psm (na c) (na c 3) t)]) dL_game_275 cv_L_9 rfl ⟨by decide, by decide +kernel⟩ (Nat.le_of_ble_eq_true rfl) (Nat.le_of_ble_eq_true rfl) (by omega) (by omega) ?_
            refine l_teamOf (x := (pt (na c) (na c 3) t)) hw hκ1 ht (by decide) rfl (fun ν1 hx1 => ?_)
            show PL l E D cA Y.length (kv_sum Y) mL_game (d + 8) fin 278 [some (.ref 0), some (.ref (227 + 0)), some (.ref (227 + 1)), some (.ref (227 + 2)), some (.int (nI (na c 3))), some (.ref (227 + mi)), some (.int (nI (opn (na c)))), some (.int (nI (qal (na c) (na c 3)))), some (.int (nI (smN (fun t => cntN (mt (na c) (na c 3) t) t) (t + 1)))), some (.int (nI (lse (na c) (na c 3) (t + 1)))), some (.int (psm (na c) (na c 3) t)), some (.int (nI (smN (tl (na c)) t))), some (.int (nI t)), some (.int (nI (cntN (fun u => ah (na c) (na c 3) u t) (na c 3)))), some (.int (nI (na c 3))), l15, l16] [.int (pt (na c) (na c 3) t), .int (psm (na c) (na c 3) t)] ν1 Y
            refine pw_iadd dL_game_278 ?_
            rw [← psm_s]
            refine px_istore (ls' := [some (.ref 0), some (.ref (227 + 0)), some (.ref (227 + 1)), some (.ref (227 + 2)), some (.int (nI (na c 3))), some (.ref (227 + mi)), some (.int (nI (opn (na c)))), some (.int (nI (qal (na c) (na c 3)))), some (.int (nI (smN (fun t => cntN (mt (na c) (na c 3) t) t) (t + 1)))), some (.int (nI (lse (na c) (na c 3) (t + 1)))), some (.int (psm (na c) (na c 3) (t + 1))), some (.int (nI (smN (tl (na c)) t))), some (.int (nI t)), some (.int (nI (cntN (fun u => ah (na c) (na c 3) u t) (na c 3)))), some (.int (nI (na c 3))), l15, l16]) dL_game_279 rfl rfl (by decide) ?_
            refine pw_iload dL_game_281 rfl ?_
            refine pw_aload_n dL_game_283 rfl ?_
            refine pw_iload dL_game_284 rfl ?_
            refine pw_iconst_ (v := nI 3) dL_game_286 (by decide) ?_
            refine pl_callV (b := 0) (As := [.int (nI t), .int (nI 3)]) (st := [.int (nI (smN (tl (na c)) t))]) dL_game_287 cv_L_9 rfl ⟨by decide, by decide +kernel⟩ (Nat.le_of_ble_eq_true rfl) (Nat.le_of_ble_eq_true rfl) (by omega) (by omega) ?_
            refine l_teamOf (x := nI (tl (na c) t)) hw hx1 ht (by decide) rfl (fun ν2 hx2 => ?_)
            show PL l E D cA Y.length (kv_sum Y) mL_game (d + 8) fin 290 [some (.ref 0), some (.ref (227 + 0)), some (.ref (227 + 1)), some (.ref (227 + 2)), some (.int (nI (na c 3))), some (.ref (227 + mi)), some (.int (nI (opn (na c)))), some (.int (nI (qal (na c) (na c 3)))), some (.int (nI (smN (fun t => cntN (mt (na c) (na c 3) t) t) (t + 1)))), some (.int (nI (lse (na c) (na c 3) (t + 1)))), some (.int (psm (na c) (na c 3) (t + 1))), some (.int (nI (smN (tl (na c)) t))), some (.int (nI t)), some (.int (nI (cntN (fun u => ah (na c) (na c 3) u t) (na c 3)))), some (.int (nI (na c 3))), l15, l16] [.int (nI (tl (na c) t)), .int (nI (smN (tl (na c)) t))] ν2 Y
            refine px_iaddn (c := smN (tl (na c)) (t + 1)) dL_game_290 rfl ?_
            refine px_istore (ls' := [some (.ref 0), some (.ref (227 + 0)), some (.ref (227 + 1)), some (.ref (227 + 2)), some (.int (nI (na c 3))), some (.ref (227 + mi)), some (.int (nI (opn (na c)))), some (.int (nI (qal (na c) (na c 3)))), some (.int (nI (smN (fun t => cntN (mt (na c) (na c 3) t) t) (t + 1)))), some (.int (nI (lse (na c) (na c 3) (t + 1)))), some (.int (psm (na c) (na c 3) (t + 1))), some (.int (nI (smN (tl (na c)) (t + 1)))), some (.int (nI t)), some (.int (nI (cntN (fun u => ah (na c) (na c 3) u t) (na c 3)))), some (.int (nI (na c 3))), l15, l16]) dL_game_291 rfl rfl (by decide) ?_
            refine pw_aload_n dL_game_293 rfl ?_
            refine pw_iload dL_game_294 rfl ?_
            refine pw_bipush (v := nI 9) dL_game_296 (by decide) ?_
            refine pl_callV (b := 0) (As := [.int (nI t), .int (nI 9)]) (st := []) dL_game_298 cv_L_9 rfl ⟨by decide, by decide +kernel⟩ (Nat.le_of_ble_eq_true rfl) (Nat.le_of_ble_eq_true rfl) (by omega) (by omega) ?_
            refine l_teamOf (x := nI (msk (metp (na c) (na c 3) t) (na c 3))) hw hx2 ht (by decide) rfl (fun ν3 hx3 => ?_)
            show PL l E D cA Y.length (kv_sum Y) mL_game (d + 8) fin 301 [some (.ref 0), some (.ref (227 + 0)), some (.ref (227 + 1)), some (.ref (227 + 2)), some (.int (nI (na c 3))), some (.ref (227 + mi)), some (.int (nI (opn (na c)))), some (.int (nI (qal (na c) (na c 3)))), some (.int (nI (smN (fun t => cntN (mt (na c) (na c 3) t) t) (t + 1)))), some (.int (nI (lse (na c) (na c 3) (t + 1)))), some (.int (psm (na c) (na c 3) (t + 1))), some (.int (nI (smN (tl (na c)) (t + 1)))), some (.int (nI t)), some (.int (nI (cntN (fun u => ah (na c) (na c 3) u t) (na c 3)))), some (.int (nI (na c 3))), l15, l16] [.int (nI (msk (metp (na c) (na c 3) t) (na c 3)))] ν3 Y
            refine pw_aload dL_game_301 rfl ?_
            refine pw_iload dL_game_303 rfl ?_
            refine pl_iald (i := mi) (j := t) (n := 6) (f := f) (x := (nI (msk (metp (na c) (na c 3) t) (na c 3)))) dL_game_305 rfl (by omega) (by decide) hm (hf1 t ht) ?_
            refine pw_icmp_ne (tgt := 338) dL_game_306 (by decide) (fun h9 => absurd rfl h9) (fun _ => ?_)
            refine pw_aload_n dL_game_309 rfl ?_
            refine pw_iload dL_game_310 rfl ?_
            refine pw_bipush (v := nI 7) dL_game_312 (by decide) ?_
            refine pl_callV (b := 0) (As := [.int (nI t), .int (nI 7)]) (st := []) dL_game_314 cv_L_9 rfl ⟨by decide, by decide +kernel⟩ (Nat.le_of_ble_eq_true rfl) (Nat.le_of_ble_eq_true rfl) (by omega) (by omega) ?_
            refine l_teamOf (x := nI (cntN (fun u => ah (na c) (na c 3) u t) (na c 3))) hw hx3 ht (by decide) rfl (fun ν4 hx4 => ?_)
            show PL l E D cA Y.length (kv_sum Y) mL_game (d + 8) fin 317 [some (.ref 0), some (.ref (227 + 0)), some (.ref (227 + 1)), some (.ref (227 + 2)), some (.int (nI (na c 3))), some (.ref (227 + mi)), some (.int (nI (opn (na c)))), some (.int (nI (qal (na c) (na c 3)))), some (.int (nI (smN (fun t => cntN (mt (na c) (na c 3) t) t) (t + 1)))), some (.int (nI (lse (na c) (na c 3) (t + 1)))), some (.int (psm (na c) (na c 3) (t + 1))), some (.int (nI (smN (tl (na c)) (t + 1)))), some (.int (nI t)), some (.int (nI (cntN (fun u => ah (na c) (na c 3) u t) (na c 3)))), some (.int (nI (na c 3))), l15, l16] [.int (nI (cntN (fun u => ah (na c) (na c 3) u t) (na c 3)))] ν4 Y
            refine pw_iload dL_game_317 rfl ?_
            refine pw_icmp_ne (tgt := 338) dL_game_319 (by decide) (fun h9 => absurd rfl h9) (fun _ => ?_)
            refine pw_iload dL_game_322 rfl ?_
            refine pw_if_ne (tgt := 340) dL_game_324 (by decide) (fun hc => ?_) (fun hc => ?_)
            · refine px_iincn (n := 1) (a := t) (b := t + 1) (ls' := [some (.ref 0), some (.ref (227 + 0)), some (.ref (227 + 1)), some (.ref (227 + 2)), some (.int (nI (na c 3))), some (.ref (227 + mi)), some (.int (nI (opn (na c)))), some (.int (nI (qal (na c) (na c 3)))), some (.int (nI (smN (fun t => cntN (mt (na c) (na c 3) t) t) (t + 1)))), some (.int (nI (lse (na c) (na c 3) (t + 1)))), some (.int (psm (na c) (na c 3) (t + 1))), some (.int (nI (smN (tl (na c)) (t + 1)))), some (.int (nI (t + 1))), some (.int (nI (cntN (fun u => ah (na c) (na c 3) u t) (na c 3)))), some (.int (nI (na c 3))), l15, l16]) dL_game_340 rfl rfl rfl (by omega) ?_
              refine pw_goto (tgt := 117) dL_game_343 (by decide) ?_
              exact ih _ _ _ _ _ hx4
            · have hr0 : rk (na c) (na c 3) t = 0 := Nat.eq_zero_of_not_pos (fun hp => nI_ne0 hp (by show cntN (fun u => ah (na c) (na c 3) u t) (na c 3) < _; omega) hc)
              have hwn : wnp (na c) (na c 3) (na c 3) = some t := by
                cases hb : wnp (na c) (na c 3) (na c 3) with
                | none => exact absurd (wnp_0 hb) (by omega)
                | some b => rw [(rk_0 hb ht).mp hr0]
              refine pw_aload_n dL_game_327 rfl ?_
              refine pw_bipush (v := nI 8) dL_game_328 (by decide) ?_
              refine pl_callV (b := 0) (As := [.int (nI 8)]) (st := []) dL_game_330 cv_L_24 rfl ⟨by decide, by decide +kernel⟩ (Nat.le_of_ble_eq_true rfl) (Nat.le_of_ble_eq_true rfl) (by omega) (by omega) ?_
              refine l_count (x := nI t) hw hx4 (by decide) (by show eF (wnp (na c) (na c 3) (na c 3)) = _; rw [hwn]; rfl) (fun ν5 hx5 => ?_)
              show PL l E D cA Y.length (kv_sum Y) mL_game (d + 8) fin 333 [some (.ref 0), some (.ref (227 + 0)), some (.ref (227 + 1)), some (.ref (227 + 2)), some (.int (nI (na c 3))), some (.ref (227 + mi)), some (.int (nI (opn (na c)))), some (.int (nI (qal (na c) (na c 3)))), some (.int (nI (smN (fun t => cntN (mt (na c) (na c 3) t) t) (t + 1)))), some (.int (nI (lse (na c) (na c 3) (t + 1)))), some (.int (psm (na c) (na c 3) (t + 1))), some (.int (nI (smN (tl (na c)) (t + 1)))), some (.int (nI t)), some (.int (nI (cntN (fun u => ah (na c) (na c 3) u t) (na c 3)))), some (.int (nI (na c 3))), l15, l16] [.int (nI t)] ν5 Y
              refine pw_iload dL_game_333 rfl ?_
              refine pn_eq (tgt := 340) dL_game_335 (by decide) (by omega) (by omega) (fun _ => ?_) (fun h9 => absurd rfl h9)
              refine px_iincn (n := 1) (a := t) (b := t + 1) (ls' := [some (.ref 0), some (.ref (227 + 0)), some (.ref (227 + 1)), some (.ref (227 + 2)), some (.int (nI (na c 3))), some (.ref (227 + mi)), some (.int (nI (opn (na c)))), some (.int (nI (qal (na c) (na c 3)))), some (.int (nI (smN (fun t => cntN (mt (na c) (na c 3) t) t) (t + 1)))), some (.int (nI (lse (na c) (na c 3) (t + 1)))), some (.int (psm (na c) (na c 3) (t + 1))), some (.int (nI (smN (tl (na c)) (t + 1)))), some (.int (nI (t + 1))), some (.int (nI (cntN (fun u => ah (na c) (na c 3) u t) (na c 3)))), some (.int (nI (na c 3))), l15, l16]) dL_game_340 rfl rfl rfl (by omega) ?_
              refine pw_goto (tgt := 117) dL_game_343 (by decide) ?_
              exact ih _ _ _ _ _ hx5
          refine pw_aload_n dL_game_242 rfl ?_
          refine pw_iload dL_game_243 rfl ?_
          refine pw_iconst_ (v := nI 1) dL_game_245 (by decide) ?_
          refine pl_callV (b := 0) (As := [.int (nI t), .int (nI 1)]) (st := []) dL_game_246 cv_L_9 rfl ⟨by decide, by decide +kernel⟩ (Nat.le_of_ble_eq_true rfl) (Nat.le_of_ble_eq_true rfl) (by omega) (by omega) ?_
          refine l_teamOf (x := nI (OV (na c) (na c 3) t)) hw hκ ht (by decide) rfl (fun ν1 hx1 => ?_)
          show PL l E D cA Y.length (kv_sum Y) mL_game (d + 8) fin 249 [some (.ref 0), some (.ref (227 + 0)), some (.ref (227 + 1)), some (.ref (227 + 2)), some (.int (nI (na c 3))), some (.ref (227 + mi)), some (.int (nI (opn (na c)))), some (.int (nI (qal (na c) (na c 3)))), some (.int (nI (smN (fun t => cntN (mt (na c) (na c 3) t) t) (t + 1)))), some (.int (nI (lse (na c) (na c 3) t))), some (.int (psm (na c) (na c 3) t)), some (.int (nI (smN (tl (na c)) t))), some (.int (nI t)), some (.int (nI (cntN (fun u => ah (na c) (na c 3) u t) (na c 3)))), some (.int (nI (na c 3))), l15, l16] [.int (nI (OV (na c) (na c 3) t))] ν1 Y
          refine pw_iload dL_game_249 rfl ?_
          refine pn_le (tgt := 264) dL_game_251 (by decide) (by omega) (by omega) (fun hc => ?_) (fun hc => ?_)
          · refine pw_iload dL_game_264 rfl ?_
            have e9 : lse (na c) (na c 3) (t + 1) = lse (na c) (na c 3) t := if_neg (by omega)
            rw [e9] at k266
            exact k266 _ hx1
          · refine pw_aload_n dL_game_254 rfl ?_
            refine pw_iload dL_game_255 rfl ?_
            refine pw_iconst_ (v := nI 1) dL_game_257 (by decide) ?_
            refine pl_callV (b := 0) (As := [.int (nI t), .int (nI 1)]) (st := []) dL_game_258 cv_L_9 rfl ⟨by decide, by decide +kernel⟩ (Nat.le_of_ble_eq_true rfl) (Nat.le_of_ble_eq_true rfl) (by omega) (by omega) ?_
            refine l_teamOf (x := nI (OV (na c) (na c 3) t)) hw hx1 ht (by decide) rfl (fun ν2 hx2 => ?_)
            show PL l E D cA Y.length (kv_sum Y) mL_game (d + 8) fin 261 [some (.ref 0), some (.ref (227 + 0)), some (.ref (227 + 1)), some (.ref (227 + 2)), some (.int (nI (na c 3))), some (.ref (227 + mi)), some (.int (nI (opn (na c)))), some (.int (nI (qal (na c) (na c 3)))), some (.int (nI (smN (fun t => cntN (mt (na c) (na c 3) t) t) (t + 1)))), some (.int (nI (lse (na c) (na c 3) t))), some (.int (psm (na c) (na c 3) t)), some (.int (nI (smN (tl (na c)) t))), some (.int (nI t)), some (.int (nI (cntN (fun u => ah (na c) (na c 3) u t) (na c 3)))), some (.int (nI (na c 3))), l15, l16] [.int (nI (OV (na c) (na c 3) t))] ν2 Y
            refine pw_goto (tgt := 266) dL_game_261 (by decide) ?_
            have e9 : lse (na c) (na c 3) (t + 1) = OV (na c) (na c 3) t := if_pos hc
            rw [e9] at k266
            exact k266 _ hx2
        · intro k hk ih2 κ l15 l16 hκ
          have hck := cntN_le (p := fun u => ah (na c) (na c 3) u t) k
          have hcp := cntN_le (p := fun k => decide (k < t) && mt (na c) (na c 3) t k) k
          have hovk := ov_le hw.1 (Nat.le_refl _) hk
          have em := rank_more (ptd_int hw.1 (n := na c 3) hk ht hovk hovt)
          have es := rank_more (x := nI (OV (na c) (na c 3) t)) (y := nI (OV (na c) (na c 3) k)) (a := (OV (na c) (na c 3) t : Nat)) (b := (OV (na c) (na c 3) k : Nat)) (pk_sub_toInt (by omega) (by omega))
          have k233 : ∀ κ1 : Mu, CX κ1 c → PL l E D cA Y.length (kv_sum Y) mL_game (d + 8) fin 233 [some (.ref 0), some (.ref (227 + 0)), some (.ref (227 + 1)), some (.ref (227 + 2)), some (.int (nI (na c 3))), some (.ref (227 + mi)), some (.int (nI (opn (na c)))), some (.int (nI (qal (na c) (na c 3)))), some (.int (nI (smN (fun t => cntN (mt (na c) (na c 3) t) t) t + cntN (fun k => decide (k < t) && mt (na c) (na c 3) t k) (k + 1)))), some (.int (nI (lse (na c) (na c 3) t))), some (.int (psm (na c) (na c 3) t)), some (.int (nI (smN (tl (na c)) t))), some (.int (nI t)), some (.int (nI (cntN (fun u => ah (na c) (na c 3) u t) k))), some (.int (nI k)), some (.int (pt (na c) (na c 3) k - pt (na c) (na c 3) t)), some (.int (nI (OV (na c) (na c 3) t) - nI (OV (na c) (na c 3) k)))] [.int (nI (if ah (na c) (na c 3) k t = true then 1 else 0)), .int (nI (cntN (fun u => ah (na c) (na c 3) u t) k))] κ1 Y := by
            intro κ1 hκ1
            refine px_iaddn (c := cntN (fun u => ah (na c) (na c 3) u t) (k + 1)) dL_game_233 rfl ?_
            refine px_istore (ls' := [some (.ref 0), some (.ref (227 + 0)), some (.ref (227 + 1)), some (.ref (227 + 2)), some (.int (nI (na c 3))), some (.ref (227 + mi)), some (.int (nI (opn (na c)))), some (.int (nI (qal (na c) (na c 3)))), some (.int (nI (smN (fun t => cntN (mt (na c) (na c 3) t) t) t + cntN (fun k => decide (k < t) && mt (na c) (na c 3) t k) (k + 1)))), some (.int (nI (lse (na c) (na c 3) t))), some (.int (psm (na c) (na c 3) t)), some (.int (nI (smN (tl (na c)) t))), some (.int (nI t)), some (.int (nI (cntN (fun u => ah (na c) (na c 3) u t) (k + 1)))), some (.int (nI k)), some (.int (pt (na c) (na c 3) k - pt (na c) (na c 3) t)), some (.int (nI (OV (na c) (na c 3) t) - nI (OV (na c) (na c 3) k)))]) dL_game_234 rfl rfl (by decide) ?_
            refine px_iincn (n := 1) (a := k) (b := k + 1) (ls' := [some (.ref 0), some (.ref (227 + 0)), some (.ref (227 + 1)), some (.ref (227 + 2)), some (.int (nI (na c 3))), some (.ref (227 + mi)), some (.int (nI (opn (na c)))), some (.int (nI (qal (na c) (na c 3)))), some (.int (nI (smN (fun t => cntN (mt (na c) (na c 3) t) t) t + cntN (fun k => decide (k < t) && mt (na c) (na c 3) t k) (k + 1)))), some (.int (nI (lse (na c) (na c 3) t))), some (.int (psm (na c) (na c 3) t)), some (.int (nI (smN (tl (na c)) t))), some (.int (nI t)), some (.int (nI (cntN (fun u => ah (na c) (na c 3) u t) (k + 1)))), some (.int (nI (k + 1))), some (.int (pt (na c) (na c 3) k - pt (na c) (na c 3) t)), some (.int (nI (OV (na c) (na c 3) t) - nI (OV (na c) (na c 3) k)))]) dL_game_236 rfl rfl rfl (by omega) ?_
            refine pw_goto (tgt := 130) dL_game_239 (by decide) ?_
            exact ih2 _ _ _ hκ1
          have k160 : ∀ κ1 : Mu, CX κ1 c → PL l E D cA Y.length (kv_sum Y) mL_game (d + 8) fin 160 [some (.ref 0), some (.ref (227 + 0)), some (.ref (227 + 1)), some (.ref (227 + 2)), some (.int (nI (na c 3))), some (.ref (227 + mi)), some (.int (nI (opn (na c)))), some (.int (nI (qal (na c) (na c 3)))), some (.int (nI (smN (fun t => cntN (mt (na c) (na c 3) t) t) t + cntN (fun k => decide (k < t) && mt (na c) (na c 3) t k) k))), some (.int (nI (lse (na c) (na c 3) t))), some (.int (psm (na c) (na c 3) t)), some (.int (nI (smN (tl (na c)) t))), some (.int (nI t)), some (.int (nI (cntN (fun u => ah (na c) (na c 3) u t) k))), some (.int (nI k)), l15, l16] [.int (nI (if (decide (k < t) && mt (na c) (na c 3) t k) = true then 1 else 0)), .int (nI (smN (fun t => cntN (mt (na c) (na c 3) t) t) t + cntN (fun k => decide (k < t) && mt (na c) (na c 3) t k) k))] κ1 Y := by
            intro κ1 hκ1
            refine px_iaddn (c := smN (fun t => cntN (mt (na c) (na c 3) t) t) t + cntN (fun k => decide (k < t) && mt (na c) (na c 3) t k) (k + 1)) dL_game_160 (Nat.add_assoc _ _ _) ?_
            refine px_istore (ls' := [some (.ref 0), some (.ref (227 + 0)), some (.ref (227 + 1)), some (.ref (227 + 2)), some (.int (nI (na c 3))), some (.ref (227 + mi)), some (.int (nI (opn (na c)))), some (.int (nI (qal (na c) (na c 3)))), some (.int (nI (smN (fun t => cntN (mt (na c) (na c 3) t) t) t + cntN (fun k => decide (k < t) && mt (na c) (na c 3) t k) (k + 1)))), some (.int (nI (lse (na c) (na c 3) t))), some (.int (psm (na c) (na c 3) t)), some (.int (nI (smN (tl (na c)) t))), some (.int (nI t)), some (.int (nI (cntN (fun u => ah (na c) (na c 3) u t) k))), some (.int (nI k)), l15, l16]) dL_game_161 rfl rfl (by decide) ?_
            refine pw_aload_n dL_game_163 rfl ?_
            refine pw_iload dL_game_164 rfl ?_
            refine pw_bipush (v := nI 6) dL_game_166 (by decide) ?_
            refine pl_callV (b := 0) (As := [.int (nI k), .int (nI 6)]) (st := []) dL_game_168 cv_L_9 rfl ⟨by decide, by decide +kernel⟩ (Nat.le_of_ble_eq_true rfl) (Nat.le_of_ble_eq_true rfl) (by omega) (by omega) ?_
            refine l_teamOf (x := (pt (na c) (na c 3) k)) hw hκ1 hk (by decide) rfl (fun ν1 hx1 => ?_)
            show PL l E D cA Y.length (kv_sum Y) mL_game (d + 8) fin 171 [some (.ref 0), some (.ref (227 + 0)), some (.ref (227 + 1)), some (.ref (227 + 2)), some (.int (nI (na c 3))), some (.ref (227 + mi)), some (.int (nI (opn (na c)))), some (.int (nI (qal (na c) (na c 3)))), some (.int (nI (smN (fun t => cntN (mt (na c) (na c 3) t) t) t + cntN (fun k => decide (k < t) && mt (na c) (na c 3) t k) (k + 1)))), some (.int (nI (lse (na c) (na c 3) t))), some (.int (psm (na c) (na c 3) t)), some (.int (nI (smN (tl (na c)) t))), some (.int (nI t)), some (.int (nI (cntN (fun u => ah (na c) (na c 3) u t) k))), some (.int (nI k)), l15, l16] [.int (pt (na c) (na c 3) k)] ν1 Y
            refine pw_aload_n dL_game_171 rfl ?_
            refine pw_iload dL_game_172 rfl ?_
            refine pw_bipush (v := nI 6) dL_game_174 (by decide) ?_
            refine pl_callV (b := 0) (As := [.int (nI t), .int (nI 6)]) (st := [.int (pt (na c) (na c 3) k)]) dL_game_176 cv_L_9 rfl ⟨by decide, by decide +kernel⟩ (Nat.le_of_ble_eq_true rfl) (Nat.le_of_ble_eq_true rfl) (by omega) (by omega) ?_
            refine l_teamOf (x := (pt (na c) (na c 3) t)) hw hx1 ht (by decide) rfl (fun ν2 hx2 => ?_)
            show PL l E D cA Y.length (kv_sum Y) mL_game (d + 8) fin 179 [some (.ref 0), some (.ref (227 + 0)), some (.ref (227 + 1)), some (.ref (227 + 2)), some (.int (nI (na c 3))), some (.ref (227 + mi)), some (.int (nI (opn (na c)))), some (.int (nI (qal (na c) (na c 3)))), some (.int (nI (smN (fun t => cntN (mt (na c) (na c 3) t) t) t + cntN (fun k => decide (k < t) && mt (na c) (na c 3) t k) (k + 1)))), some (.int (nI (lse (na c) (na c 3) t))), some (.int (psm (na c) (na c 3) t)), some (.int (nI (smN (tl (na c)) t))), some (.int (nI t)), some (.int (nI (cntN (fun u => ah (na c) (na c 3) u t) k))), some (.int (nI k)), l15, l16] [.int (pt (na c) (na c 3) t), .int (pt (na c) (na c 3) k)] ν2 Y
            refine pw_isub dL_game_179 ?_
            refine px_istore (ls' := [some (.ref 0), some (.ref (227 + 0)), some (.ref (227 + 1)), some (.ref (227 + 2)), some (.int (nI (na c 3))), some (.ref (227 + mi)), some (.int (nI (opn (na c)))), some (.int (nI (qal (na c) (na c 3)))), some (.int (nI (smN (fun t => cntN (mt (na c) (na c 3) t) t) t + cntN (fun k => decide (k < t) && mt (na c) (na c 3) t k) (k + 1)))), some (.int (nI (lse (na c) (na c 3) t))), some (.int (psm (na c) (na c 3) t)), some (.int (nI (smN (tl (na c)) t))), some (.int (nI t)), some (.int (nI (cntN (fun u => ah (na c) (na c 3) u t) k))), some (.int (nI k)), some (.int ((pt (na c) (na c 3) k) - (pt (na c) (na c 3) t))), l16]) dL_game_180 rfl rfl (by decide) ?_
            refine pw_aload_n dL_game_182 rfl ?_
            refine pw_iload dL_game_183 rfl ?_
            refine pw_iconst_ (v := nI 1) dL_game_185 (by decide) ?_
            refine pl_callV (b := 0) (As := [.int (nI t), .int (nI 1)]) (st := []) dL_game_186 cv_L_9 rfl ⟨by decide, by decide +kernel⟩ (Nat.le_of_ble_eq_true rfl) (Nat.le_of_ble_eq_true rfl) (by omega) (by omega) ?_
            refine l_teamOf (x := nI (OV (na c) (na c 3) t)) hw hx2 ht (by decide) rfl (fun ν3 hx3 => ?_)
            show PL l E D cA Y.length (kv_sum Y) mL_game (d + 8) fin 189 [some (.ref 0), some (.ref (227 + 0)), some (.ref (227 + 1)), some (.ref (227 + 2)), some (.int (nI (na c 3))), some (.ref (227 + mi)), some (.int (nI (opn (na c)))), some (.int (nI (qal (na c) (na c 3)))), some (.int (nI (smN (fun t => cntN (mt (na c) (na c 3) t) t) t + cntN (fun k => decide (k < t) && mt (na c) (na c 3) t k) (k + 1)))), some (.int (nI (lse (na c) (na c 3) t))), some (.int (psm (na c) (na c 3) t)), some (.int (nI (smN (tl (na c)) t))), some (.int (nI t)), some (.int (nI (cntN (fun u => ah (na c) (na c 3) u t) k))), some (.int (nI k)), some (.int ((pt (na c) (na c 3) k) - (pt (na c) (na c 3) t))), l16] [.int (nI (OV (na c) (na c 3) t))] ν3 Y
            refine pw_aload_n dL_game_189 rfl ?_
            refine pw_iload dL_game_190 rfl ?_
            refine pw_iconst_ (v := nI 1) dL_game_192 (by decide) ?_
            refine pl_callV (b := 0) (As := [.int (nI k), .int (nI 1)]) (st := [.int (nI (OV (na c) (na c 3) t))]) dL_game_193 cv_L_9 rfl ⟨by decide, by decide +kernel⟩ (Nat.le_of_ble_eq_true rfl) (Nat.le_of_ble_eq_true rfl) (by omega) (by omega) ?_
            refine l_teamOf (x := nI (OV (na c) (na c 3) k)) hw hx3 hk (by decide) rfl (fun ν4 hx4 => ?_)
            show PL l E D cA Y.length (kv_sum Y) mL_game (d + 8) fin 196 [some (.ref 0), some (.ref (227 + 0)), some (.ref (227 + 1)), some (.ref (227 + 2)), some (.int (nI (na c 3))), some (.ref (227 + mi)), some (.int (nI (opn (na c)))), some (.int (nI (qal (na c) (na c 3)))), some (.int (nI (smN (fun t => cntN (mt (na c) (na c 3) t) t) t + cntN (fun k => decide (k < t) && mt (na c) (na c 3) t k) (k + 1)))), some (.int (nI (lse (na c) (na c 3) t))), some (.int (psm (na c) (na c 3) t)), some (.int (nI (smN (tl (na c)) t))), some (.int (nI t)), some (.int (nI (cntN (fun u => ah (na c) (na c 3) u t) k))), some (.int (nI k)), some (.int ((pt (na c) (na c 3) k) - (pt (na c) (na c 3) t))), l16] [.int (nI (OV (na c) (na c 3) k)), .int (nI (OV (na c) (na c 3) t))] ν4 Y
            refine pw_isub dL_game_196 ?_
            refine px_istore (ls' := [some (.ref 0), some (.ref (227 + 0)), some (.ref (227 + 1)), some (.ref (227 + 2)), some (.int (nI (na c 3))), some (.ref (227 + mi)), some (.int (nI (opn (na c)))), some (.int (nI (qal (na c) (na c 3)))), some (.int (nI (smN (fun t => cntN (mt (na c) (na c 3) t) t) t + cntN (fun k => decide (k < t) && mt (na c) (na c 3) t k) (k + 1)))), some (.int (nI (lse (na c) (na c 3) t))), some (.int (psm (na c) (na c 3) t)), some (.int (nI (smN (tl (na c)) t))), some (.int (nI t)), some (.int (nI (cntN (fun u => ah (na c) (na c 3) u t) k))), some (.int (nI k)), some (.int ((pt (na c) (na c 3) k) - (pt (na c) (na c 3) t))), some (.int ((nI (OV (na c) (na c 3) t)) - (nI (OV (na c) (na c 3) k))))]) dL_game_197 rfl rfl (by decide) ?_
            refine pw_iload dL_game_199 rfl ?_
            refine pw_iload dL_game_201 rfl ?_
            refine pw_if_gt (tgt := 228) dL_game_203 (by decide) (fun m1 => ?_) (fun m1 => ?_)
            · refine pw_iconst_ (v := nI 1) dL_game_228 (by decide) ?_
              refine pw_goto (tgt := 233) dL_game_229 (by decide) ?_
              have e9 : (if ah (na c) (na c 3) k t = true then 1 else 0) = 1 := if_pos (by simp only [ah, decide_eq_true_eq]; have q := em.1.mp m1; omega)
              rw [e9] at k233
              exact k233 _ hx4
            · refine pw_iload dL_game_206 rfl ?_
              refine pw_if_ne (tgt := 232) dL_game_208 (by decide) (fun m2 => ?_) (fun m2 => ?_)
              · refine pw_iconst_ (v := nI 0) dL_game_232 (by decide) ?_
                have e9 : (if ah (na c) (na c 3) k t = true then 1 else 0) = 0 := if_neg (by simp only [ah, decide_eq_true_eq]; have q1 := (not_congr em.1).mp m1; have q2 := (not_congr em.2).mp m2; omega)
                rw [e9] at k233
                exact k233 _ hx4
              · refine pw_iload dL_game_211 rfl ?_
                refine pw_if_gt (tgt := 228) dL_game_213 (by decide) (fun m3 => ?_) (fun m3 => ?_)
                · refine pw_iconst_ (v := nI 1) dL_game_228 (by decide) ?_
                  refine pw_goto (tgt := 233) dL_game_229 (by decide) ?_
                  have e9 : (if ah (na c) (na c 3) k t = true then 1 else 0) = 1 := if_pos (by simp only [ah, decide_eq_true_eq]; have q1 := em.2.mp m2; have q2 := es.1.mp m3; omega)
                  rw [e9] at k233
                  exact k233 _ hx4
                · refine pw_iload dL_game_216 rfl ?_
                  refine pw_if_ne (tgt := 232) dL_game_218 (by decide) (fun m4 => ?_) (fun m4 => ?_)
                  · refine pw_iconst_ (v := nI 0) dL_game_232 (by decide) ?_
                    have e9 : (if ah (na c) (na c 3) k t = true then 1 else 0) = 0 := if_neg (by simp only [ah, decide_eq_true_eq]; have q1 := em.2.mp m2; have q2 := (not_congr es.1).mp m3; have q3 := (not_congr es.2).mp m4; omega)
                    rw [e9] at k233
                    exact k233 _ hx4
                  · refine pw_iload dL_game_221 rfl ?_
                    refine pw_iload dL_game_223 rfl ?_
                    refine pn_ge (tgt := 232) dL_game_225 (by decide) (by omega) (by omega) (fun m5 => ?_) (fun m5 => ?_)
                    · refine pw_iconst_ (v := nI 0) dL_game_232 (by decide) ?_
                      have e9 : (if ah (na c) (na c 3) k t = true then 1 else 0) = 0 := if_neg (by simp only [ah, decide_eq_true_eq]; have q1 := em.2.mp m2; have q2 := es.2.mp m4; omega)
                      rw [e9] at k233
                      exact k233 _ hx4
                    · refine pw_iconst_ (v := nI 1) dL_game_228 (by decide) ?_
                      refine pw_goto (tgt := 233) dL_game_229 (by decide) ?_
                      have e9 : (if ah (na c) (na c 3) k t = true then 1 else 0) = 1 := if_pos (by simp only [ah, decide_eq_true_eq]; have q1 := em.2.mp m2; have q2 := es.2.mp m4; omega)
                      rw [e9] at k233
                      exact k233 _ hx4
          refine pw_iload dL_game_130 rfl ?_
          refine pw_iload dL_game_132 rfl ?_
          refine pn_ge (tgt := 242) dL_game_134 (by decide) (by omega) (by omega) (fun h9 => absurd h9 (by omega)) (fun _ => ?_)
          refine pw_iload dL_game_137 rfl ?_
          refine pw_iload dL_game_139 rfl ?_
          refine pw_iload dL_game_141 rfl ?_
          refine pn_ge (tgt := 159) dL_game_143 (by decide) (by omega) (by omega) (fun hkt => ?_) (fun hkt => ?_)
          · refine pw_iconst_ (v := nI 0) dL_game_159 (by decide) ?_
            have e9 : (if (decide (k < t) && mt (na c) (na c 3) t k) = true then 1 else 0) = 0 := if_neg (by simp; omega)
            rw [e9] at k160
            exact k160 _ hκ
          · refine pw_aload dL_game_146 rfl ?_
            refine pw_iload dL_game_148 rfl ?_
            refine pl_iald (i := mi) (j := t) (n := 6) (f := f) (x := (nI (msk (metp (na c) (na c 3) t) (na c 3)))) dL_game_150 rfl (by omega) (by decide) hm (hf1 t ht) ?_
            refine pw_iload dL_game_151 rfl ?_
            refine pw_ishr dL_game_153 ?_
            refine pw_iconst_ (v := nI 1) dL_game_154 (by decide) ?_
            refine pw_iand dL_game_155 ?_
            rw [one_bit h6 hk]
            refine pw_goto (tgt := 160) dL_game_156 (by decide) ?_
            have e9 : (if (decide (k < t) && mt (na c) (na c 3) t k) = true then 1 else 0) = (if metp (na c) (na c 3) t k = true then 1 else 0) := by simp [metp, hkt, show ¬ k = t by omega]
            rw [e9] at k160
            exact k160 _ hκ
      exact lq 0 (Nat.zero_le _) _ _ _ hν
  exact lp 0 (Nat.zero_le _) _ _ _ _ _ hx
theorem msk_no : ∀ {n : Nat}, msk (fun _ => false) n = 0
  | 0 => rfl
  | n + 1 => by
    rw [msk_s, msk_no]
    rfl
set_option maxRecDepth 100000 in
set_option maxHeartbeats 4000000 in
theorem y_game {c : CS} (hw : CW c) (hx : CX μ c) {r h lo : Nat → Int32} (h0 : Y[0]? = some (yr r 48)) (h1 : Y[1]? = some (yr h 6)) (h2 : Y[2]? = some (yr lo 6)) (hL : LI c r h lo) (hD : DR (na c)) (hlen : Y.length + 17 ≤ 700) (hf : ∀ (ν : Mu) (Y' : List PE), CX ν c → Y'.length = Y.length + 17 → kv_sum Y' = kv_sum Y + 102 → (∀ q, q < Y.length → Y'[q]? = Y[q]?) → fin (some (.int (nI 1))) ν Y') : PL l E D cA (Y.length + 17) (kv_sum Y + 102) mL_game (d + 8) fin 0 [some (.ref 0), some (.ref (227 + 0)), some (.ref (227 + 1)), some (.ref (227 + 2)), none, none, none, none, none, none, none, none, none, none, none, none, none] [] μ Y := by
  have h6 := hw.1.t6
  refine pw_aload_n dL_game_0 rfl ?_
  refine pw_iconst_ (v := nI 3) dL_game_1 (by decide) ?_
  refine pl_callV (b := 0) (As := [.int (nI 3)]) (st := []) dL_game_2 cv_L_24 rfl ⟨by decide, by decide +kernel⟩ (Nat.le_of_ble_eq_true rfl) (Nat.le_of_ble_eq_true rfl) (by omega) (by omega) ?_
  refine l_count (x := nI (na c 3)) hw hx (by decide) rfl (fun ν1 hx1 => ?_)
  show PL l E D cA (Y.length + 17) (kv_sum Y + 102) mL_game (d + 8) fin 5 [some (.ref 0), some (.ref (227 + 0)), some (.ref (227 + 1)), some (.ref (227 + 2)), none, none, none, none, none, none, none, none, none, none, none, none, none] [.int (nI (na c 3))] ν1 Y
  refine px_istore (ls' := [some (.ref 0), some (.ref (227 + 0)), some (.ref (227 + 1)), some (.ref (227 + 2)), some (.int (nI (na c 3))), none, none, none, none, none, none, none, none, none, none, none, none]) dL_game_5 rfl rfl (by decide) ?_
  refine pw_bipush (v := nI 6) dL_game_7 (by decide) ?_
  refine pl_new (n := 6) dL_game_9 tb_ai rfl (by decide) (by omega) (by omega) (by omega) (fun Y1 a1 a2 a3 a4 => ?_)
  refine px_astore (ls' := [some (.ref 0), some (.ref (227 + 0)), some (.ref (227 + 1)), some (.ref (227 + 2)), some (.int (nI (na c 3))), some (.ref (227 + Y.length)), none, none, none, none, none, none, none, none, none, none, none]) dL_game_11 rfl rfl (by decide) ?_
  refine pw_iconst_ (v := nI 0) dL_game_13 (by decide) ?_
  refine px_istore (ls' := [some (.ref 0), some (.ref (227 + 0)), some (.ref (227 + 1)), some (.ref (227 + 2)), some (.int (nI (na c 3))), some (.ref (227 + Y.length)), some (.int (nI 0)), none, none, none, none, none, none, none, none, none, none]) dL_game_14 rfl rfl (by decide) ?_
  refine pw_iconst_ (v := nI 0) dL_game_16 (by decide) ?_
  refine px_istore (ls' := [some (.ref 0), some (.ref (227 + 0)), some (.ref (227 + 1)), some (.ref (227 + 2)), some (.int (nI (na c 3))), some (.ref (227 + Y.length)), some (.int (nI 0)), some (.int (nI 0)), none, none, none, none, none, none, none, none, none]) dL_game_17 rfl rfl (by decide) ?_
  refine pw_iconst_ (v := nI 0) dL_game_19 (by decide) ?_
  refine px_istore (ls' := [some (.ref 0), some (.ref (227 + 0)), some (.ref (227 + 1)), some (.ref (227 + 2)), some (.int (nI (na c 3))), some (.ref (227 + Y.length)), some (.int (nI 0)), some (.int (nI 0)), some (.int (nI 0)), none, none, none, none, none, none, none, none]) dL_game_20 rfl rfl (by decide) ?_
  have g0 := (a4 0 (List.getElem?_eq_some_iff.mp h0).1).trans h0
  have g1 := (a4 1 (List.getElem?_eq_some_iff.mp h1).1).trans h1
  have g2 := (a4 2 (List.getElem?_eq_some_iff.mp h2).1).trans h2
  have hqs : ∀ t, t ≤ na c 3 → smN (fun t => qd (na c) (na c 3) t (tl (na c) t)) t ≤ 600000 := fun t ht => Nat.le_trans (smN_le (c := 100000) (fun u hu => Nat.le_trans (qd_le hw.1 (Nat.le_refl _) (show u < na c 3 by omega)) (by decide))) (by omega)
  have lq : ∀ p : Nat, p ≤ 8 → ∀ (ν : Mu) (Y' : List PE) (f : Nat → Int32), CX ν c → Y'.length = Y.length + 1 + 2 * p → kv_sum Y' = kv_sum Y + 6 + 12 * p → (∀ q, q < Y.length → Y'[q]? = Y[q]?) → Y'[Y.length]? = some (yr f 6) → (∀ u, u < na c 3 → f u = nI (msk ((fun u k => (!(k == u)) && anyN (fun p => mtp (na c) (na c 3) u k p) p) u) (na c 3))) → PL l E D cA (Y.length + 17) (kv_sum Y + 102) mL_game (d + 8) fin 64 [some (.ref 0), some (.ref (227 + 0)), some (.ref (227 + 1)), some (.ref (227 + 2)), some (.int (nI (na c 3))), some (.ref (227 + Y.length)), some (.int (nI (cntN (fun p => (na c) (7 + 4 * p) == 0) p))), some (.int (nI (smN (fun t => qd (na c) (na c 3) t (tl (na c) t)) (na c 3)))), some (.int (nI p)), none, none, none, none, none, none, none, none] [] ν Y' := by
    refine ps_for _ ?_ ?_
    · intro ν Y' f hν y1 y2 y3 hm hM
      refine pw_iload dL_game_64 rfl ?_
      refine pw_bipush (v := nI 8) dL_game_66 (by decide) ?_
      refine pn_ge (tgt := 102) dL_game_68 (by decide) (by omega) (by omega) (fun _ => ?_) (fun h9 => absurd h9 (by decide))
      refine pw_iconst_ (v := nI 0) dL_game_102 (by decide) ?_
      refine px_istore (ls' := [some (.ref 0), some (.ref (227 + 0)), some (.ref (227 + 1)), some (.ref (227 + 2)), some (.int (nI (na c 3))), some (.ref (227 + Y.length)), some (.int (nI (cntN (fun p => (na c) (7 + 4 * p) == 0) 8))), some (.int (nI (smN (fun t => qd (na c) (na c 3) t (tl (na c) t)) (na c 3)))), some (.int (nI 0)), none, none, none, none, none, none, none, none]) dL_game_103 rfl rfl (by decide) ?_
      refine pw_iconst_ (v := nI 0) dL_game_105 (by decide) ?_
      refine px_istore (ls' := [some (.ref 0), some (.ref (227 + 0)), some (.ref (227 + 1)), some (.ref (227 + 2)), some (.int (nI (na c 3))), some (.ref (227 + Y.length)), some (.int (nI (cntN (fun p => (na c) (7 + 4 * p) == 0) 8))), some (.int (nI (smN (fun t => qd (na c) (na c 3) t (tl (na c) t)) (na c 3)))), some (.int (nI 0)), some (.int (nI 0)), none, none, none, none, none, none, none]) dL_game_106 rfl rfl (by decide) ?_
      refine pw_iconst_ (v := nI 0) dL_game_108 (by decide) ?_
      refine px_istore (ls' := [some (.ref 0), some (.ref (227 + 0)), some (.ref (227 + 1)), some (.ref (227 + 2)), some (.int (nI (na c 3))), some (.ref (227 + Y.length)), some (.int (nI (cntN (fun p => (na c) (7 + 4 * p) == 0) 8))), some (.int (nI (smN (fun t => qd (na c) (na c 3) t (tl (na c) t)) (na c 3)))), some (.int (nI 0)), some (.int (nI 0)), some (.int (nI 0)), none, none, none, none, none, none]) dL_game_109 rfl rfl (by decide) ?_
      refine pw_iconst_ (v := nI 0) dL_game_111 (by decide) ?_
      refine px_istore (ls' := [some (.ref 0), some (.ref (227 + 0)), some (.ref (227 + 1)), some (.ref (227 + 2)), some (.int (nI (na c 3))), some (.ref (227 + Y.length)), some (.int (nI (cntN (fun p => (na c) (7 + 4 * p) == 0) 8))), some (.int (nI (smN (fun t => qd (na c) (na c 3) t (tl (na c) t)) (na c 3)))), some (.int (nI 0)), some (.int (nI 0)), some (.int (nI 0)), some (.int (nI 0)), none, none, none, none, none]) dL_game_112 rfl rfl (by decide) ?_
      refine pw_iconst_ (v := nI 0) dL_game_114 (by decide) ?_
      refine px_istore (ls' := [some (.ref 0), some (.ref (227 + 0)), some (.ref (227 + 1)), some (.ref (227 + 2)), some (.int (nI (na c 3))), some (.ref (227 + Y.length)), some (.int (nI (cntN (fun p => (na c) (7 + 4 * p) == 0) 8))), some (.int (nI (smN (fun t => qd (na c) (na c 3) t (tl (na c) t)) (na c 3)))), some (.int (nI 0)), some (.int (nI 0)), some (.int (nI 0)), some (.int (nI 0)), some (.int (nI 0)), none, none, none, none]) dL_game_115 rfl rfl (by decide) ?_
      rw [show Y.length + 17 = Y'.length by omega, show kv_sum Y + 102 = kv_sum Y' by omega]
      exact y_game_c hw hν hm (fun u hu => hM u hu) (fun κ h9 => hf κ Y' h9 (by omega) (by omega) y3)
    · intro p hp ih ν Y' f hν y1 y2 y3 hm hM
      have hcp := cntN_le (p := fun p => (na c) (7 + 4 * p) == 0) p
      obtain ⟨p1, p2, p3, p4⟩ := hw.1.pl hp
      refine pw_iload dL_game_64 rfl ?_
      refine pw_bipush (v := nI 8) dL_game_66 (by decide) ?_
      refine pn_ge (tgt := 102) dL_game_68 (by decide) (by omega) (by omega) (fun h9 => absurd h9 (by omega)) (fun _ => ?_)
      refine pw_iload dL_game_71 rfl ?_
      refine pw_aload_n dL_game_73 rfl ?_
      refine pw_iload dL_game_74 rfl ?_
      refine pw_iconst_ (v := nI 3) dL_game_76 (by decide) ?_
      refine pl_callV (b := 0) (As := [.int (nI p), .int (nI 3)]) (st := [.int (nI (cntN (fun p => (na c) (7 + 4 * p) == 0) p))]) dL_game_77 cv_L_15 rfl ⟨by decide, by decide +kernel⟩ (Nat.le_of_ble_eq_true rfl) (Nat.le_of_ble_eq_true rfl) (by omega) (by omega) ?_
      refine l_placeOf (x := nI (1 - (na c) (7 + 4 * p))) hw hν hp (by decide) rfl (fun ν2 hx2 => ?_)
      show PL l E D cA (Y.length + 17) (kv_sum Y + 102) mL_game (d + 8) fin 80 [some (.ref 0), some (.ref (227 + 0)), some (.ref (227 + 1)), some (.ref (227 + 2)), some (.int (nI (na c 3))), some (.ref (227 + Y.length)), some (.int (nI (cntN (fun p => (na c) (7 + 4 * p) == 0) p))), some (.int (nI (smN (fun t => qd (na c) (na c 3) t (tl (na c) t)) (na c 3)))), some (.int (nI p)), none, none, none, none, none, none, none, none] [.int (nI (1 - (na c) (7 + 4 * p))), .int (nI (cntN (fun p => (na c) (7 + 4 * p) == 0) p))] ν2 Y'
      refine px_iaddn (c := cntN (fun p => (na c) (7 + 4 * p) == 0) (p + 1)) dL_game_80 (opn_s p4) ?_
      refine px_istore (ls' := [some (.ref 0), some (.ref (227 + 0)), some (.ref (227 + 1)), some (.ref (227 + 2)), some (.int (nI (na c 3))), some (.ref (227 + Y.length)), some (.int (nI (cntN (fun p => (na c) (7 + 4 * p) == 0) (p + 1)))), some (.int (nI (smN (fun t => qd (na c) (na c 3) t (tl (na c) t)) (na c 3)))), some (.int (nI p)), none, none, none, none, none, none, none, none]) dL_game_81 rfl rfl (by decide) ?_
      refine pw_aload_n dL_game_83 rfl ?_
      refine pw_aload dL_game_84 rfl ?_
      refine pw_iload dL_game_86 rfl ?_
      refine pl_callS (k' := Y'.length + 2) (z' := kv_sum Y' + 12) (As := [.ref 0, .ref (227 + Y.length), .int (nI p)]) (st := []) dL_game_88 cs_L_45 rfl (Nat.le_of_ble_eq_true rfl) (Nat.le_of_ble_eq_true rfl) ⟨by omega, by omega⟩ ⟨by omega, by omega⟩ ?_
      refine y_place hw hx2 hD hp hm (M := (fun u k => (!(k == u)) && anyN (fun p => mtp (na c) (na c 3) u k p) p)) hM (by omega) (fun κ Y3 f3 h9 k1 k2 k3 k4 k5 => ?_)
      show PL l E D cA (Y.length + 17) (kv_sum Y + 102) mL_game (d + 8) fin 91 [some (.ref 0), some (.ref (227 + 0)), some (.ref (227 + 1)), some (.ref (227 + 2)), some (.int (nI (na c 3))), some (.ref (227 + Y.length)), some (.int (nI (cntN (fun p => (na c) (7 + 4 * p) == 0) (p + 1)))), some (.int (nI (smN (fun t => qd (na c) (na c 3) t (tl (na c) t)) (na c 3)))), some (.int (nI p)), none, none, none, none, none, none, none, none] [.int (nI 1)] κ Y3
      refine pw_if_ne (tgt := 96) dL_game_91 (by decide) (fun _ => ?_) (fun h9 => absurd h9 (by decide))
      refine px_iincn (n := 1) (a := p) (b := p + 1) (ls' := [some (.ref 0), some (.ref (227 + 0)), some (.ref (227 + 1)), some (.ref (227 + 2)), some (.int (nI (na c 3))), some (.ref (227 + Y.length)), some (.int (nI (cntN (fun p => (na c) (7 + 4 * p) == 0) (p + 1)))), some (.int (nI (smN (fun t => qd (na c) (na c 3) t (tl (na c) t)) (na c 3)))), some (.int (nI (p + 1))), none, none, none, none, none, none, none, none]) dL_game_96 rfl rfl rfl (by omega) ?_
      refine pw_goto (tgt := 64) dL_game_99 (by decide) ?_
      exact ih κ Y3 f3 h9 (by omega) (by omega) (fun q hq => (k3 q (by omega) (by omega)).trans (y3 q hq)) k4 (fun u hu => by rw [k5 u hu]; exact congrArg nI (msk_cg (fun k hk => (Bool.and_or_distrib_left _ _ _).symm)))
  have lp : ∀ t : Nat, t ≤ na c 3 → ∀ ν : Mu, CX ν c → PL l E D cA (Y.length + 17) (kv_sum Y + 102) mL_game (d + 8) fin 22 [some (.ref 0), some (.ref (227 + 0)), some (.ref (227 + 1)), some (.ref (227 + 2)), some (.int (nI (na c 3))), some (.ref (227 + Y.length)), some (.int (nI 0)), some (.int (nI (smN (fun t => qd (na c) (na c 3) t (tl (na c) t)) t))), some (.int (nI t)), none, none, none, none, none, none, none, none] [] ν Y1 := by
    refine ps_for _ ?_ ?_
    · intro ν hν
      refine pw_iload dL_game_22 rfl ?_
      refine pw_iload dL_game_24 rfl ?_
      refine pn_ge (tgt := 61) dL_game_26 (by decide) (by omega) (by omega) (fun _ => ?_) (fun h9 => absurd h9 (Nat.lt_irrefl _))
      refine pw_iconst_ (v := nI 0) dL_game_61 (by decide) ?_
      refine px_istore (ls' := [some (.ref 0), some (.ref (227 + 0)), some (.ref (227 + 1)), some (.ref (227 + 2)), some (.int (nI (na c 3))), some (.ref (227 + Y.length)), some (.int (nI 0)), some (.int (nI (smN (fun t => qd (na c) (na c 3) t (tl (na c) t)) (na c 3)))), some (.int (nI 0)), none, none, none, none, none, none, none, none]) dL_game_62 rfl rfl (by decide) ?_
      exact lq 0 (Nat.zero_le _) ν Y1 _ hν (by omega) (by omega) a4 a3 (fun u hu => by rw [show msk ((fun u k => (!(k == u)) && anyN (fun p => mtp (na c) (na c 3) u k p) 0) u) (na c 3) = msk (fun _ => false) (na c 3) from msk_cg (fun k hk => Bool.and_false _), msk_no]; rfl)
    · intro t ht ih ν hν
      have hqt := hqs t (by omega)
      have hqd := qd_le hw.1 (Nat.le_refl _) ht
      refine pw_iload dL_game_22 rfl ?_
      refine pw_iload dL_game_24 rfl ?_
      refine pn_ge (tgt := 61) dL_game_26 (by decide) (by omega) (by omega) (fun h9 => absurd h9 (by omega)) (fun _ => ?_)
      refine pw_aload_n dL_game_29 rfl ?_
      refine pw_aload_n dL_game_30 rfl ?_
      refine pw_aload_n dL_game_31 rfl ?_
      refine pw_aload_n dL_game_32 rfl ?_
      refine pw_iload dL_game_33 rfl ?_
      refine pl_callS (k' := Y1.length) (z' := kv_sum Y1) (As := [.ref 0, .ref (227 + 0), .ref (227 + 1), .ref (227 + 2), .int (nI t)]) (st := []) dL_game_35 cs_L_41 rfl (Nat.le_of_ble_eq_true rfl) (Nat.le_of_ble_eq_true rfl) ⟨Nat.le_refl _, (by omega)⟩ ⟨Nat.le_refl _, (by omega)⟩ ?_
      refine w_way hw hν g0 g1 g2 hL ht (fun ν1 hx1 => ?_)
      show PL l E D cA (Y.length + 17) (kv_sum Y + 102) mL_game (d + 8) fin 38 [some (.ref 0), some (.ref (227 + 0)), some (.ref (227 + 1)), some (.ref (227 + 2)), some (.int (nI (na c 3))), some (.ref (227 + Y.length)), some (.int (nI 0)), some (.int (nI (smN (fun t => qd (na c) (na c 3) t (tl (na c) t)) t))), some (.int (nI t)), none, none, none, none, none, none, none, none] [.int (nI 1)] ν1 Y1
      refine pw_if_ne (tgt := 43) dL_game_38 (by decide) (fun _ => ?_) (fun h9 => absurd h9 (by decide))
      refine pw_iload dL_game_43 rfl ?_
      refine pw_aload_n dL_game_45 rfl ?_
      refine pw_iload dL_game_46 rfl ?_
      refine pw_iconst_ (v := nI 4) dL_game_48 (by decide) ?_
      refine pl_callV (b := 0) (As := [.int (nI t), .int (nI 4)]) (st := [.int (nI (smN (fun t => qd (na c) (na c 3) t (tl (na c) t)) t))]) dL_game_49 cv_L_9 rfl ⟨by decide, by decide +kernel⟩ (Nat.le_of_ble_eq_true rfl) (Nat.le_of_ble_eq_true rfl) (by omega) (by omega) ?_
      refine l_teamOf (x := nI (qd (na c) (na c 3) t (tl (na c) t))) hw hx1 ht (by decide) rfl (fun ν2 hx2 => ?_)
      show PL l E D cA (Y.length + 17) (kv_sum Y + 102) mL_game (d + 8) fin 52 [some (.ref 0), some (.ref (227 + 0)), some (.ref (227 + 1)), some (.ref (227 + 2)), some (.int (nI (na c 3))), some (.ref (227 + Y.length)), some (.int (nI 0)), some (.int (nI (smN (fun t => qd (na c) (na c 3) t (tl (na c) t)) t))), some (.int (nI t)), none, none, none, none, none, none, none, none] [.int (nI (qd (na c) (na c 3) t (tl (na c) t))), .int (nI (smN (fun t => qd (na c) (na c 3) t (tl (na c) t)) t))] ν2 Y1
      refine px_iaddn (c := smN (fun t => qd (na c) (na c 3) t (tl (na c) t)) (t + 1)) dL_game_52 rfl ?_
      refine px_istore (ls' := [some (.ref 0), some (.ref (227 + 0)), some (.ref (227 + 1)), some (.ref (227 + 2)), some (.int (nI (na c 3))), some (.ref (227 + Y.length)), some (.int (nI 0)), some (.int (nI (smN (fun t => qd (na c) (na c 3) t (tl (na c) t)) (t + 1)))), some (.int (nI t)), none, none, none, none, none, none, none, none]) dL_game_53 rfl rfl (by decide) ?_
      refine px_iincn (n := 1) (a := t) (b := t + 1) (ls' := [some (.ref 0), some (.ref (227 + 0)), some (.ref (227 + 1)), some (.ref (227 + 2)), some (.int (nI (na c 3))), some (.ref (227 + Y.length)), some (.int (nI 0)), some (.int (nI (smN (fun t => qd (na c) (na c 3) t (tl (na c) t)) (t + 1)))), some (.int (nI (t + 1))), none, none, none, none, none, none, none, none]) dL_game_55 rfl rfl rfl (by omega) ?_
      refine pw_goto (tgt := 22) dL_game_58 (by decide) ?_
      exact ih _ hx2
  exact lp 0 (Nat.zero_le _) _ hx1
end GAME
