/-! the law: one act, case by case -/
theorem opn_up {a : AS} {p : Nat} (hp : p < 8) (h : a (7 + 4 * p) = 0) : opn a = opn (up1 a (7 + 4 * p) 1) + 1 := by
  unfold opn
  rw [← cnt_up (q := fun q => up1 a (7 + 4 * p) 1 (7 + 4 * q) == 0) hp (by simp [up1])]
  refine cntN_cg (fun u hu => ?_)
  by_cases e : u = p
  · subst e
    simp [up1, h]
  · have e2 : (p == u) = false := by simpa using fun q => e q.symm
    rw [up1_n (by omega), e2, Bool.or_false]
theorem opn_dn {a : AS} {p : Nat} (hp : p < 8) (h : ¬ a (7 + 4 * p) = 0) : opn (up1 a (7 + 4 * p) 0) = opn a + 1 := by
  rw [opn_up (a := up1 a (7 + 4 * p) 0) hp up1_s]
  congr 1
  unfold opn
  refine cntN_cg (fun u hu => ?_)
  by_cases e : u = p
  · subst e
    rw [up1_s]
    simpa using h
  · rw [up1_n (by omega), up1_n (by omega)]
theorem opn_8 (a : AS) : opn a ≤ 8 := cntN_le 8
theorem lose_ok : ∀ q, q < 9 → (nI q - nI 1 = -1 ∨ inR (nI q - nI 1) 7) ∧ iN (nI q - nI 1 + nI 1) = q := by decide +kernel
theorem nI_inj2 {i j : Nat} (hi : i < 2 ^ 31) (hj : j < 2 ^ 31) (h : i ≠ j) : ¬ nI i = nI j := fun e => h ((nI_eq hi hj).mp e)
theorem set_ok {k x : Nat} (h1 : loS k ≤ x) (h2 : x ≤ hiS k) (hk : k < 3) : ¬ nI x < nI (loS k) ∧ ¬ nI (hiS k) < nI x := by
  have hh : hiS k ≤ 500 := by unfold hiS; split <;> (try split) <;> omega
  rw [nI_ltI (by omega) (by omega), nI_ltI (by omega) (by omega)]
  omega
theorem iN_1 : iN (nI 1) = 1 := by decide
theorem kb_1 {p : Prop} [Decidable p] (h : p) : kb p = nI 1 := kb_t h
section ACT
variable {l : Launch} {E : EV} {D : va_G} {cA : Nat → ClassId} {fin : Option Value → Mu → List PE → Prop} {μ : Mu} {Y : List PE} {d : Nat}
set_option maxRecDepth 100000 in
set_option maxHeartbeats 4000000 in
theorem a_start {c : CS} (hw : CW c) (hx : CX μ c) {r h lo : Nat → Int32} (h0 : Y[0]? = some (yr r 48)) (h1 : Y[1]? = some (yr h 6)) (h2 : Y[2]? = some (yr lo 6)) (hG : GI (na c) r h lo) {g v : Int32} {t : Nat} (ht : t < na c 3) {what : Nat} (hf : ∀ (ν : Mu) (Y' : List PE) (c2 : CS) (r2 hh2 lo2 : Nat → Int32), CX ν c2 → CW c2 → GI (na c2) r2 hh2 lo2 → na c2 3 = na c 3 → Y'.length = Y.length → kv_sum Y' = kv_sum Y → Y'[0]? = some (yr r2 48) → Y'[1]? = some (yr hh2 6) → Y'[2]? = some (yr lo2 6) → (∀ q, 3 ≤ q → Y'[q]? = Y[q]?) → fin (some (.int (nI 1))) ν Y') : PL l E D cA Y.length (kv_sum Y) mL_act (d + 8) fin 335 [some (.ref 0), some (.ref (227 + 0)), some (.ref (227 + 1)), some (.ref (227 + 2)), some (.int g), some (.int v), some (.int (nI (na c 3))), some (.int (nI what)), some (.int (nI t)), none, none, none, none] [] μ Y := by
  have h6 := hw.1.t6
  refine pw_aload_n dL_act_335 rfl ?_
  refine pw_iload dL_act_336 rfl ?_
  refine pw_iconst_ (v := nI 0) dL_act_338 (by decide) ?_
  refine pl_callV (b := 0) (As := [.int (nI t), .int (nI 0)]) (st := []) dL_act_339 cv_L_9 rfl ⟨by decide, by decide +kernel⟩ (Nat.le_of_ble_eq_true rfl) (Nat.le_of_ble_eq_true rfl) (by omega) (by omega) ?_
  refine l_teamOf (x := nI (na c (36 + 12 * t))) hw hx ht (by decide) rfl (fun ν1 hx1 => ?_)
  show PL l E D cA Y.length (kv_sum Y) mL_act (d + 8) fin 342 [some (.ref 0), some (.ref (227 + 0)), some (.ref (227 + 1)), some (.ref (227 + 2)), some (.int g), some (.int v), some (.int (nI (na c 3))), some (.int (nI what)), some (.int (nI t)), none, none, none, none] [.int (nI (na c (36 + 12 * t)))] ν1 Y
  refine px_istore (ls' := [some (.ref 0), some (.ref (227 + 0)), some (.ref (227 + 1)), some (.ref (227 + 2)), some (.int g), some (.int v), some (.int (nI (na c 3))), some (.int (nI what)), some (.int (nI t)), some (.int (nI (na c (36 + 12 * t)))), none, none, none]) dL_act_342 rfl rfl (by decide) ?_
  refine pw_aload_n dL_act_344 rfl ?_
  refine pw_iload dL_act_345 rfl ?_
  refine pw_iload dL_act_347 rfl ?_
  refine pw_bipush (v := nI 80) dL_act_349 (by decide) ?_
  refine pl_callS (k' := Y.length) (z' := kv_sum Y) (As := [.int v, .int (nI 80)]) (st := [.int (nI t), .ref 0]) dL_act_351 cs_L_49 rfl (Nat.le_of_ble_eq_true rfl) (Nat.le_of_ble_eq_true rfl) ⟨Nat.le_refl _, (by omega)⟩ ⟨Nat.le_refl _, (by omega)⟩ ?_
  refine l_low (by decide) (by decide) ?_
  have hlm := lwN_lt (x := v) (n := 80) (by decide)
  obtain ⟨m, hem⟩ : ∃ m, m = lwN v 80 := ⟨_, rfl⟩
  rw [← hem] at hlm ⊢
  show PL l E D cA Y.length (kv_sum Y) mL_act (d + 8) fin 354 [some (.ref 0), some (.ref (227 + 0)), some (.ref (227 + 1)), some (.ref (227 + 2)), some (.int g), some (.int v), some (.int (nI (na c 3))), some (.int (nI what)), some (.int (nI t)), some (.int (nI (na c (36 + 12 * t)))), none, none, none] [.int (nI m), .int (nI t), .ref 0] ν1 Y
  have eν1 : o_start c (nI t) (nI m) = (nI (na c (36 + 12 * t)), cnow (crec c) (up1 (na c) (36 + 12 * t) m)) := by unfold o_start; rw [if_pos (inT_nI ht (by omega)), if_pos (inR_nI (by omega) (by decide)), iN_nI (show t < 2 ^ 31 by omega), iN_nI (by omega)]
  refine pl_callV (b := 0) (As := [.int (nI t), .int (nI m)]) (st := []) dL_act_354 cv_L_80 rfl ⟨by decide, by decide +kernel⟩ (Nat.le_of_ble_eq_true rfl) (Nat.le_of_ble_eq_true rfl) (by omega) (by omega) ?_
  refine x_start hw hx1 (fun ν1 hν1 _ => ?_)
  rw [eν1] at hν1 ⊢
  replace hν1 : CX ν1 (cnow (crec c) (up1 (na c) (36 + 12 * t) m)) := hν1
  have wν1 : CW (o_start c (nI t) (nI m)).2 := w_start hw
  rw [eν1] at wν1
  replace wν1 : CW (cnow (crec c) (up1 (na c) (36 + 12 * t) m)) := wν1
  show PL l E D cA Y.length (kv_sum Y) mL_act (d + 8) fin 357 [some (.ref 0), some (.ref (227 + 0)), some (.ref (227 + 1)), some (.ref (227 + 2)), some (.int g), some (.int v), some (.int (nI (na c 3))), some (.int (nI what)), some (.int (nI t)), some (.int (nI (na c (36 + 12 * t)))), none, none, none] [.int (nI (na c (36 + 12 * t)))] ν1 Y
  generalize hcν1 : cnow (crec c) (up1 (na c) (36 + 12 * t) m) = cν1 at hν1 wν1
  have haν1 : na cν1 = up1 (na c) (36 + 12 * t) m := by rw [← hcν1]; rfl
  refine pw_iload dL_act_357 rfl ?_
  refine pw_icmp_ne (tgt := 383) dL_act_359 (by decide) (fun h9 => absurd rfl h9) (fun _ => ?_)
  refine pw_aload_n dL_act_362 rfl ?_
  refine pw_iload dL_act_363 rfl ?_
  refine pw_iconst_ (v := nI 0) dL_act_365 (by decide) ?_
  refine pl_callV (b := 0) (As := [.int (nI t), .int (nI 0)]) (st := []) dL_act_366 cv_L_9 rfl ⟨by decide, by decide +kernel⟩ (Nat.le_of_ble_eq_true rfl) (Nat.le_of_ble_eq_true rfl) (by omega) (by omega) ?_
  refine l_teamOf (x := nI m) wν1 hν1 (by rw [haν1, up1_n (by omega)]; exact ht) (by decide) (by show nI (na cν1 (36 + 12 * t)) = _; rw [haν1, up1_s]) (fun ν2 hx2 => ?_)
  show PL l E D cA Y.length (kv_sum Y) mL_act (d + 8) fin 369 [some (.ref 0), some (.ref (227 + 0)), some (.ref (227 + 1)), some (.ref (227 + 2)), some (.int g), some (.int v), some (.int (nI (na c 3))), some (.int (nI what)), some (.int (nI t)), some (.int (nI (na c (36 + 12 * t)))), none, none, none] [.int (nI m)] ν2 Y
  refine pw_iload dL_act_369 rfl ?_
  refine pw_bipush (v := nI 80) dL_act_371 (by decide) ?_
  refine pl_callS (k' := Y.length) (z' := kv_sum Y) (As := [.int v, .int (nI 80)]) (st := [.int (nI m)]) dL_act_373 cs_L_49 rfl (Nat.le_of_ble_eq_true rfl) (Nat.le_of_ble_eq_true rfl) ⟨Nat.le_refl _, (by omega)⟩ ⟨Nat.le_refl _, (by omega)⟩ ?_
  refine l_low (by decide) (by decide) ?_
  rw [← hem]
  show PL l E D cA Y.length (kv_sum Y) mL_act (d + 8) fin 376 [some (.ref 0), some (.ref (227 + 0)), some (.ref (227 + 1)), some (.ref (227 + 2)), some (.int g), some (.int v), some (.int (nI (na c 3))), some (.int (nI what)), some (.int (nI t)), some (.int (nI (na c (36 + 12 * t)))), none, none, none] [.int (nI m), .int (nI m)] ν2 Y
  refine pw_icmp_ne (tgt := 383) dL_act_376 (by decide) (fun h9 => absurd rfl h9) (fun _ => ?_)
  refine pw_iconst_ (v := nI 1) dL_act_379 (by decide) ?_
  refine pw_goto (tgt := 384) dL_act_380 (by decide) ?_
  exact pl_iret dL_act_384 rfl (by decide) rfl rfl (hf _ Y cν1 r h lo hx2 wν1 (by rw [haν1]; exact g_start hw.1 hG) (by rw [haν1, up1_n (by omega)]) rfl rfl h0 h1 h2 (fun _ _ => rfl))
set_option maxRecDepth 100000 in
set_option maxHeartbeats 4000000 in
theorem a_hint {c : CS} (hw : CW c) (hx : CX μ c) {r h lo : Nat → Int32} (h0 : Y[0]? = some (yr r 48)) (h1 : Y[1]? = some (yr h 6)) (h2 : Y[2]? = some (yr lo 6)) (hG : GI (na c) r h lo) {g v : Int32} {t : Nat} (ht : t < na c 3) {what : Nat} (hf : ∀ (ν : Mu) (Y' : List PE) (c2 : CS) (r2 hh2 lo2 : Nat → Int32), CX ν c2 → CW c2 → GI (na c2) r2 hh2 lo2 → na c2 3 = na c 3 → Y'.length = Y.length → kv_sum Y' = kv_sum Y → Y'[0]? = some (yr r2 48) → Y'[1]? = some (yr hh2 6) → Y'[2]? = some (yr lo2 6) → (∀ q, 3 ≤ q → Y'[q]? = Y[q]?) → fin (some (.int (nI 1))) ν Y') : PL l E D cA Y.length (kv_sum Y) mL_act (d + 8) fin 392 [some (.ref 0), some (.ref (227 + 0)), some (.ref (227 + 1)), some (.ref (227 + 2)), some (.int g), some (.int v), some (.int (nI (na c 3))), some (.int (nI what)), some (.int (nI t)), none, none, none, none] [] μ Y := by
  have h6 := hw.1.t6
  refine pw_iload dL_act_392 rfl ?_
  refine pw_bipush (v := nI 8) dL_act_394 (by decide) ?_
  refine pl_callS (k' := Y.length) (z' := kv_sum Y) (As := [.int v, .int (nI 8)]) (st := []) dL_act_396 cs_L_49 rfl (Nat.le_of_ble_eq_true rfl) (Nat.le_of_ble_eq_true rfl) ⟨Nat.le_refl _, (by omega)⟩ ⟨Nat.le_refl _, (by omega)⟩ ?_
  refine l_low (by decide) (by decide) ?_
  have hlp := lwN_lt (x := v) (n := 8) (by decide)
  obtain ⟨p, hep⟩ : ∃ p, p = lwN v 8 := ⟨_, rfl⟩
  rw [← hep] at hlp ⊢
  show PL l E D cA Y.length (kv_sum Y) mL_act (d + 8) fin 399 [some (.ref 0), some (.ref (227 + 0)), some (.ref (227 + 1)), some (.ref (227 + 2)), some (.int g), some (.int v), some (.int (nI (na c 3))), some (.int (nI what)), some (.int (nI t)), none, none, none, none] [.int (nI p)] μ Y
  obtain ⟨g1, g2, g3, g4, g5⟩ := hw.1.tm ht
  refine px_istore (ls' := [some (.ref 0), some (.ref (227 + 0)), some (.ref (227 + 1)), some (.ref (227 + 2)), some (.int g), some (.int v), some (.int (nI (na c 3))), some (.int (nI what)), some (.int (nI t)), some (.int (nI p)), none, none, none]) dL_act_399 rfl rfl (by decide) ?_
  refine pw_aload_n dL_act_401 rfl ?_
  refine pw_iload dL_act_402 rfl ?_
  refine pl_iald (i := 1) (j := t) (n := 6) (f := h) (x := (nI (na c (37 + 12 * t)))) dL_act_404 rfl (by omega) (by decide) h1 (hG t ht).1.2.1 ?_
  refine pw_iload dL_act_405 rfl ?_
  refine pw_ishr dL_act_407 ?_
  refine pw_iconst_ (v := nI 1) dL_act_408 (by decide) ?_
  refine pw_iand dL_act_409 ?_
  rw [bit_shr _ g2 _ hlp]
  by_cases hb : na c (37 + 12 * t) / 2 ^ p % 2 = 1
  · refine pw_if_ne (tgt := 417) dL_act_410 (by decide) (fun _ => ?_) (fun h9 => absurd h9 (by rw [hb]; decide))
    refine pw_iconst_ (v := nI 0) dL_act_417 (by decide) ?_
    refine px_istore (ls' := [some (.ref 0), some (.ref (227 + 0)), some (.ref (227 + 1)), some (.ref (227 + 2)), some (.int g), some (.int v), some (.int (nI (na c 3))), some (.int (nI what)), some (.int (nI t)), some (.int (nI p)), some (.int (nI 0)), none, none]) dL_act_418 rfl rfl (by decide) ?_
    refine pw_aload_n dL_act_420 rfl ?_
    refine pw_iload dL_act_421 rfl ?_
    refine pw_dup2 dL_act_423 rfl rfl ?_
    refine pl_iald (i := 1) (j := t) (n := 6) (f := h) (x := (nI (na c (37 + 12 * t)))) dL_act_424 rfl (by omega) (by decide) h1 (hG t ht).1.2.1 ?_
    refine pw_iconst_ (v := nI 1) dL_act_425 (by decide) ?_
    refine pw_iload dL_act_426 rfl ?_
    refine pw_ishl dL_act_428 ?_
    refine pw_ixor dL_act_429 ?_
    rw [bit_x8 _ g2 _ hlp]
    show PL l E D cA Y.length (kv_sum Y) mL_act (d + 8) fin 430 [some (.ref 0), some (.ref (227 + 0)), some (.ref (227 + 1)), some (.ref (227 + 2)), some (.int g), some (.int v), some (.int (nI (na c 3))), some (.int (nI what)), some (.int (nI t)), some (.int (nI p)), some (.int (nI 0)), none, none] [.int (nI (na c (37 + 12 * t) ^^^ 2 ^ p)), .int (nI t), .ref (227 + 1)] μ Y
    refine pl_iast (i := 1) (j := t) (n := 6) (f := h) dL_act_430 rfl (by omega) (by decide) h1 (fun Y' sa sb sc sd => ?_)
    refine pw_aload_n dL_act_431 rfl ?_
    refine pw_iload dL_act_432 rfl ?_
    refine pw_iload dL_act_434 rfl ?_
    refine pw_iload dL_act_436 rfl ?_
    refine pw_if_ne (tgt := 445) dL_act_438 (by decide) (fun h9 => absurd rfl h9) (fun _ => ?_)
    refine pw_iconst_ (v := nI 1) dL_act_441 (by decide) ?_
    refine pw_goto (tgt := 446) dL_act_442 (by decide) ?_
    have eν1 : o_hint c (nI t) (nI p) (nI 1) = ((-100005), c) := by unfold o_hint; rw [if_pos (inT_nI ht (by omega)), if_pos (inR_nI (by omega) (by decide)), iN_nI (show t < 2 ^ 31 by omega), iN_nI (show p < 2 ^ 31 by omega), kb_t hb, if_pos rfl]
    refine pl_callV (b := 0) (As := [.int (nI t), .int (nI p), .int (nI 1)]) (st := []) dL_act_446 cv_L_83 rfl ⟨by decide, by decide +kernel⟩ (Nat.le_of_ble_eq_true rfl) (Nat.le_of_ble_eq_true rfl) (by omega) (by omega) ?_
    refine x_hint hw hx (fun ν1 hν1 _ => ?_)
    rw [eν1] at hν1 ⊢
    replace hν1 : CX ν1 c := hν1
    show PL l E D cA Y.length (kv_sum Y) mL_act (d + 8) fin 449 [some (.ref 0), some (.ref (227 + 0)), some (.ref (227 + 1)), some (.ref (227 + 2)), some (.int g), some (.int v), some (.int (nI (na c 3))), some (.int (nI what)), some (.int (nI t)), some (.int (nI p)), some (.int (nI 0)), none, none] [.int (-100005)] ν1 Y'
    refine pw_ldc dL_act_449 kc_L_87 ?_
    refine pw_icmp_ne (tgt := 478) dL_act_451 (by decide) (fun h9 => absurd rfl h9) (fun _ => ?_)
    refine pw_aload_n dL_act_454 rfl ?_
    refine pw_iload dL_act_455 rfl ?_
    refine pw_iload dL_act_457 rfl ?_
    refine pw_iload dL_act_459 rfl ?_
    have eν2 : o_hint c (nI t) (nI p) (nI 0) = (nI (edA (up1 (na c) (37 + 12 * t) (na c (37 + 12 * t) ^^^ 2 ^ p)) t), cnow (crec c) (up1 (na c) (37 + 12 * t) (na c (37 + 12 * t) ^^^ 2 ^ p))) := by unfold o_hint; rw [if_pos (inT_nI ht (by omega)), if_pos (inR_nI (by omega) (by decide)), iN_nI (show t < 2 ^ 31 by omega), iN_nI (show p < 2 ^ 31 by omega), kb_t hb, if_neg (by decide)]
    refine pl_callV (b := 0) (As := [.int (nI t), .int (nI p), .int (nI 0)]) (st := []) dL_act_461 cv_L_83 rfl ⟨by decide, by decide +kernel⟩ (Nat.le_of_ble_eq_true rfl) (Nat.le_of_ble_eq_true rfl) (by omega) (by omega) ?_
    refine x_hint hw hν1 (fun ν2 hν2 _ => ?_)
    rw [eν2] at hν2 ⊢
    replace hν2 : CX ν2 (cnow (crec c) (up1 (na c) (37 + 12 * t) (na c (37 + 12 * t) ^^^ 2 ^ p))) := hν2
    have wν2 : CW (o_hint c (nI t) (nI p) (nI 0)).2 := w_hint hw
    rw [eν2] at wν2
    replace wν2 : CW (cnow (crec c) (up1 (na c) (37 + 12 * t) (na c (37 + 12 * t) ^^^ 2 ^ p))) := wν2
    show PL l E D cA Y.length (kv_sum Y) mL_act (d + 8) fin 464 [some (.ref 0), some (.ref (227 + 0)), some (.ref (227 + 1)), some (.ref (227 + 2)), some (.int g), some (.int v), some (.int (nI (na c 3))), some (.int (nI what)), some (.int (nI t)), some (.int (nI p)), some (.int (nI 0)), none, none] [.int (nI (edA (up1 (na c) (37 + 12 * t) (na c (37 + 12 * t) ^^^ 2 ^ p)) t))] ν2 Y'
    generalize hcν2 : cnow (crec c) (up1 (na c) (37 + 12 * t) (na c (37 + 12 * t) ^^^ 2 ^ p)) = cν2 at hν2 wν2
    have haν2 : na cν2 = up1 (na c) (37 + 12 * t) (na c (37 + 12 * t) ^^^ 2 ^ p) := by rw [← hcν2]; rfl
    refine pw_aload_n dL_act_464 rfl ?_
    refine pw_iload dL_act_465 rfl ?_
    refine pw_iconst_ (v := nI 1) dL_act_467 (by decide) ?_
    refine pl_callV (b := 0) (As := [.int (nI t), .int (nI 1)]) (st := [.int (nI (edA (up1 (na c) (37 + 12 * t) (na c (37 + 12 * t) ^^^ 2 ^ p)) t))]) dL_act_468 cv_L_9 rfl ⟨by decide, by decide +kernel⟩ (Nat.le_of_ble_eq_true rfl) (Nat.le_of_ble_eq_true rfl) (by omega) (by omega) ?_
    refine l_teamOf (x := nI (edA (up1 (na c) (37 + 12 * t) (na c (37 + 12 * t) ^^^ 2 ^ p)) t)) wν2 hν2 (by rw [haν2, up1_n (by omega)]; exact ht) (by decide) (by show nI (OV (na cν2) (na cν2 3) t) = _; rw [haν2]; rfl) (fun ν1 hx1 => ?_)
    show PL l E D cA Y.length (kv_sum Y) mL_act (d + 8) fin 471 [some (.ref 0), some (.ref (227 + 0)), some (.ref (227 + 1)), some (.ref (227 + 2)), some (.int g), some (.int v), some (.int (nI (na c 3))), some (.int (nI what)), some (.int (nI t)), some (.int (nI p)), some (.int (nI 0)), none, none] [.int (nI (edA (up1 (na c) (37 + 12 * t) (na c (37 + 12 * t) ^^^ 2 ^ p)) t)), .int (nI (edA (up1 (na c) (37 + 12 * t) (na c (37 + 12 * t) ^^^ 2 ^ p)) t))] ν1 Y'
    refine pw_icmp_ne (tgt := 478) dL_act_471 (by decide) (fun h9 => absurd rfl h9) (fun _ => ?_)
    refine pw_iconst_ (v := nI 1) dL_act_474 (by decide) ?_
    refine pw_goto (tgt := 479) dL_act_475 (by decide) ?_
    exact pl_iret dL_act_479 rfl (by decide) sa sb (hf _ Y' cν2 r (upi h t (nI (na c (37 + 12 * t) ^^^ 2 ^ p))) lo hx1 wν2 (by rw [haν2]; exact g_hint hw.1 hG) (by rw [haν2, up1_n (by omega)]) sa sb ((sd _ (by decide)).trans h0) sc ((sd _ (by decide)).trans h2) (fun q hq => sd q (by omega)))
  · refine pw_if_ne (tgt := 417) dL_act_410 (by decide) (fun h9 => absurd (by rw [show na c (37 + 12 * t) / 2 ^ p % 2 = 0 by omega]; rfl) h9) (fun _ => ?_)
    refine pw_iconst_ (v := nI 1) dL_act_413 (by decide) ?_
    refine pw_goto (tgt := 418) dL_act_414 (by decide) ?_
    refine px_istore (ls' := [some (.ref 0), some (.ref (227 + 0)), some (.ref (227 + 1)), some (.ref (227 + 2)), some (.int g), some (.int v), some (.int (nI (na c 3))), some (.int (nI what)), some (.int (nI t)), some (.int (nI p)), some (.int (nI 1)), none, none]) dL_act_418 rfl rfl (by decide) ?_
    refine pw_aload_n dL_act_420 rfl ?_
    refine pw_iload dL_act_421 rfl ?_
    refine pw_dup2 dL_act_423 rfl rfl ?_
    refine pl_iald (i := 1) (j := t) (n := 6) (f := h) (x := (nI (na c (37 + 12 * t)))) dL_act_424 rfl (by omega) (by decide) h1 (hG t ht).1.2.1 ?_
    refine pw_iconst_ (v := nI 1) dL_act_425 (by decide) ?_
    refine pw_iload dL_act_426 rfl ?_
    refine pw_ishl dL_act_428 ?_
    refine pw_ixor dL_act_429 ?_
    rw [bit_x8 _ g2 _ hlp]
    show PL l E D cA Y.length (kv_sum Y) mL_act (d + 8) fin 430 [some (.ref 0), some (.ref (227 + 0)), some (.ref (227 + 1)), some (.ref (227 + 2)), some (.int g), some (.int v), some (.int (nI (na c 3))), some (.int (nI what)), some (.int (nI t)), some (.int (nI p)), some (.int (nI 1)), none, none] [.int (nI (na c (37 + 12 * t) ^^^ 2 ^ p)), .int (nI t), .ref (227 + 1)] μ Y
    refine pl_iast (i := 1) (j := t) (n := 6) (f := h) dL_act_430 rfl (by omega) (by decide) h1 (fun Y' sa sb sc sd => ?_)
    refine pw_aload_n dL_act_431 rfl ?_
    refine pw_iload dL_act_432 rfl ?_
    refine pw_iload dL_act_434 rfl ?_
    refine pw_iload dL_act_436 rfl ?_
    refine pw_if_ne (tgt := 445) dL_act_438 (by decide) (fun _ => ?_) (fun h9 => absurd h9 (by decide))
    refine pw_iconst_ (v := nI 0) dL_act_445 (by decide) ?_
    have eν1 : o_hint c (nI t) (nI p) (nI 0) = ((-100005), c) := by unfold o_hint; rw [if_pos (inT_nI ht (by omega)), if_pos (inR_nI (by omega) (by decide)), iN_nI (show t < 2 ^ 31 by omega), iN_nI (show p < 2 ^ 31 by omega), kb_f hb, if_pos rfl]
    refine pl_callV (b := 0) (As := [.int (nI t), .int (nI p), .int (nI 0)]) (st := []) dL_act_446 cv_L_83 rfl ⟨by decide, by decide +kernel⟩ (Nat.le_of_ble_eq_true rfl) (Nat.le_of_ble_eq_true rfl) (by omega) (by omega) ?_
    refine x_hint hw hx (fun ν1 hν1 _ => ?_)
    rw [eν1] at hν1 ⊢
    replace hν1 : CX ν1 c := hν1
    show PL l E D cA Y.length (kv_sum Y) mL_act (d + 8) fin 449 [some (.ref 0), some (.ref (227 + 0)), some (.ref (227 + 1)), some (.ref (227 + 2)), some (.int g), some (.int v), some (.int (nI (na c 3))), some (.int (nI what)), some (.int (nI t)), some (.int (nI p)), some (.int (nI 1)), none, none] [.int (-100005)] ν1 Y'
    refine pw_ldc dL_act_449 kc_L_87 ?_
    refine pw_icmp_ne (tgt := 478) dL_act_451 (by decide) (fun h9 => absurd rfl h9) (fun _ => ?_)
    refine pw_aload_n dL_act_454 rfl ?_
    refine pw_iload dL_act_455 rfl ?_
    refine pw_iload dL_act_457 rfl ?_
    refine pw_iload dL_act_459 rfl ?_
    have eν2 : o_hint c (nI t) (nI p) (nI 1) = (nI (edA (up1 (na c) (37 + 12 * t) (na c (37 + 12 * t) ^^^ 2 ^ p)) t), cnow (crec c) (up1 (na c) (37 + 12 * t) (na c (37 + 12 * t) ^^^ 2 ^ p))) := by unfold o_hint; rw [if_pos (inT_nI ht (by omega)), if_pos (inR_nI (by omega) (by decide)), iN_nI (show t < 2 ^ 31 by omega), iN_nI (show p < 2 ^ 31 by omega), kb_f hb, if_neg (by decide)]
    refine pl_callV (b := 0) (As := [.int (nI t), .int (nI p), .int (nI 1)]) (st := []) dL_act_461 cv_L_83 rfl ⟨by decide, by decide +kernel⟩ (Nat.le_of_ble_eq_true rfl) (Nat.le_of_ble_eq_true rfl) (by omega) (by omega) ?_
    refine x_hint hw hν1 (fun ν2 hν2 _ => ?_)
    rw [eν2] at hν2 ⊢
    replace hν2 : CX ν2 (cnow (crec c) (up1 (na c) (37 + 12 * t) (na c (37 + 12 * t) ^^^ 2 ^ p))) := hν2
    have wν2 : CW (o_hint c (nI t) (nI p) (nI 1)).2 := w_hint hw
    rw [eν2] at wν2
    replace wν2 : CW (cnow (crec c) (up1 (na c) (37 + 12 * t) (na c (37 + 12 * t) ^^^ 2 ^ p))) := wν2
    show PL l E D cA Y.length (kv_sum Y) mL_act (d + 8) fin 464 [some (.ref 0), some (.ref (227 + 0)), some (.ref (227 + 1)), some (.ref (227 + 2)), some (.int g), some (.int v), some (.int (nI (na c 3))), some (.int (nI what)), some (.int (nI t)), some (.int (nI p)), some (.int (nI 1)), none, none] [.int (nI (edA (up1 (na c) (37 + 12 * t) (na c (37 + 12 * t) ^^^ 2 ^ p)) t))] ν2 Y'
    generalize hcν2 : cnow (crec c) (up1 (na c) (37 + 12 * t) (na c (37 + 12 * t) ^^^ 2 ^ p)) = cν2 at hν2 wν2
    have haν2 : na cν2 = up1 (na c) (37 + 12 * t) (na c (37 + 12 * t) ^^^ 2 ^ p) := by rw [← hcν2]; rfl
    refine pw_aload_n dL_act_464 rfl ?_
    refine pw_iload dL_act_465 rfl ?_
    refine pw_iconst_ (v := nI 1) dL_act_467 (by decide) ?_
    refine pl_callV (b := 0) (As := [.int (nI t), .int (nI 1)]) (st := [.int (nI (edA (up1 (na c) (37 + 12 * t) (na c (37 + 12 * t) ^^^ 2 ^ p)) t))]) dL_act_468 cv_L_9 rfl ⟨by decide, by decide +kernel⟩ (Nat.le_of_ble_eq_true rfl) (Nat.le_of_ble_eq_true rfl) (by omega) (by omega) ?_
    refine l_teamOf (x := nI (edA (up1 (na c) (37 + 12 * t) (na c (37 + 12 * t) ^^^ 2 ^ p)) t)) wν2 hν2 (by rw [haν2, up1_n (by omega)]; exact ht) (by decide) (by show nI (OV (na cν2) (na cν2 3) t) = _; rw [haν2]; rfl) (fun ν1 hx1 => ?_)
    show PL l E D cA Y.length (kv_sum Y) mL_act (d + 8) fin 471 [some (.ref 0), some (.ref (227 + 0)), some (.ref (227 + 1)), some (.ref (227 + 2)), some (.int g), some (.int v), some (.int (nI (na c 3))), some (.int (nI what)), some (.int (nI t)), some (.int (nI p)), some (.int (nI 1)), none, none] [.int (nI (edA (up1 (na c) (37 + 12 * t) (na c (37 + 12 * t) ^^^ 2 ^ p)) t)), .int (nI (edA (up1 (na c) (37 + 12 * t) (na c (37 + 12 * t) ^^^ 2 ^ p)) t))] ν1 Y'
    refine pw_icmp_ne (tgt := 478) dL_act_471 (by decide) (fun h9 => absurd rfl h9) (fun _ => ?_)
    refine pw_iconst_ (v := nI 1) dL_act_474 (by decide) ?_
    refine pw_goto (tgt := 479) dL_act_475 (by decide) ?_
    exact pl_iret dL_act_479 rfl (by decide) sa sb (hf _ Y' cν2 r (upi h t (nI (na c (37 + 12 * t) ^^^ 2 ^ p))) lo hx1 wν2 (by rw [haν2]; exact g_hint hw.1 hG) (by rw [haν2, up1_n (by omega)]) sa sb ((sd _ (by decide)).trans h0) sc ((sd _ (by decide)).trans h2) (fun q hq => sd q (by omega)))
set_option maxRecDepth 100000 in
set_option maxHeartbeats 4000000 in
theorem a_lose {c : CS} (hw : CW c) (hx : CX μ c) {r h lo : Nat → Int32} (h0 : Y[0]? = some (yr r 48)) (h1 : Y[1]? = some (yr h 6)) (h2 : Y[2]? = some (yr lo 6)) (hG : GI (na c) r h lo) {g v : Int32} {t : Nat} (ht : t < na c 3) {what : Nat} (hf : ∀ (ν : Mu) (Y' : List PE) (c2 : CS) (r2 hh2 lo2 : Nat → Int32), CX ν c2 → CW c2 → GI (na c2) r2 hh2 lo2 → na c2 3 = na c 3 → Y'.length = Y.length → kv_sum Y' = kv_sum Y → Y'[0]? = some (yr r2 48) → Y'[1]? = some (yr hh2 6) → Y'[2]? = some (yr lo2 6) → (∀ q, 3 ≤ q → Y'[q]? = Y[q]?) → fin (some (.int (nI 1))) ν Y') : PL l E D cA Y.length (kv_sum Y) mL_act (d + 8) fin 487 [some (.ref 0), some (.ref (227 + 0)), some (.ref (227 + 1)), some (.ref (227 + 2)), some (.int g), some (.int v), some (.int (nI (na c 3))), some (.int (nI what)), some (.int (nI t)), none, none, none, none] [] μ Y := by
  have h6 := hw.1.t6
  refine pw_aload_n dL_act_487 rfl ?_
  refine pw_iload dL_act_488 rfl ?_
  refine pw_iload dL_act_490 rfl ?_
  refine pw_bipush (v := nI 9) dL_act_492 (by decide) ?_
  refine pl_callS (k' := Y.length) (z' := kv_sum Y) (As := [.int v, .int (nI 9)]) (st := [.int (nI t), .ref (227 + 2)]) dL_act_494 cs_L_49 rfl (Nat.le_of_ble_eq_true rfl) (Nat.le_of_ble_eq_true rfl) ⟨Nat.le_refl _, (by omega)⟩ ⟨Nat.le_refl _, (by omega)⟩ ?_
  refine l_low (by decide) (by decide) ?_
  have hlp := lwN_lt (x := v) (n := 9) (by decide)
  obtain ⟨p, hep⟩ : ∃ p, p = lwN v 9 := ⟨_, rfl⟩
  rw [← hep] at hlp ⊢
  show PL l E D cA Y.length (kv_sum Y) mL_act (d + 8) fin 497 [some (.ref 0), some (.ref (227 + 0)), some (.ref (227 + 1)), some (.ref (227 + 2)), some (.int g), some (.int v), some (.int (nI (na c 3))), some (.int (nI what)), some (.int (nI t)), none, none, none, none] [.int (nI p), .int (nI t), .ref (227 + 2)] μ Y
  refine pw_iconst_ (v := nI 1) dL_act_497 (by decide) ?_
  refine pw_isub dL_act_498 ?_
  obtain ⟨k1, k2⟩ := lose_ok p hlp
  refine pl_iast (i := 2) (j := t) (n := 6) (f := lo) dL_act_499 rfl (by omega) (by decide) h2 (fun Y' sa sb sc sd => ?_)
  refine pw_aload_n dL_act_500 rfl ?_
  refine pw_iload dL_act_501 rfl ?_
  refine pw_aload_n dL_act_503 rfl ?_
  refine pw_iload dL_act_504 rfl ?_
  refine pl_iald (i := 2) (j := t) (n := 6) (f := (upi lo t (nI p - nI 1))) (x := (nI p - nI 1)) dL_act_506 rfl (by omega) (by decide) sc upi_s ?_
  have eν2 : o_lose c (nI t) (nI p - nI 1) = (nI (edA (up1 (na c) (38 + 12 * t) p) t), cnow (crec c) (up1 (na c) (38 + 12 * t) p)) := by unfold o_lose; rw [if_pos (inT_nI ht (by omega)), if_pos k1, iN_nI (show t < 2 ^ 31 by omega), k2]
  refine pl_callV (b := 0) (As := [.int (nI t), .int (nI p - nI 1)]) (st := []) dL_act_507 cv_L_88 rfl ⟨by decide, by decide +kernel⟩ (Nat.le_of_ble_eq_true rfl) (Nat.le_of_ble_eq_true rfl) (by omega) (by omega) ?_
  refine x_lose hw hx (fun ν2 hν2 _ => ?_)
  rw [eν2] at hν2 ⊢
  replace hν2 : CX ν2 (cnow (crec c) (up1 (na c) (38 + 12 * t) p)) := hν2
  have wν2 : CW (o_lose c (nI t) (nI p - nI 1)).2 := w_lose hw
  rw [eν2] at wν2
  replace wν2 : CW (cnow (crec c) (up1 (na c) (38 + 12 * t) p)) := wν2
  show PL l E D cA Y.length (kv_sum Y) mL_act (d + 8) fin 510 [some (.ref 0), some (.ref (227 + 0)), some (.ref (227 + 1)), some (.ref (227 + 2)), some (.int g), some (.int v), some (.int (nI (na c 3))), some (.int (nI what)), some (.int (nI t)), none, none, none, none] [.int (nI (edA (up1 (na c) (38 + 12 * t) p) t))] ν2 Y'
  generalize hcν2 : cnow (crec c) (up1 (na c) (38 + 12 * t) p) = cν2 at hν2 wν2
  have haν2 : na cν2 = up1 (na c) (38 + 12 * t) p := by rw [← hcν2]; rfl
  refine pw_aload_n dL_act_510 rfl ?_
  refine pw_iload dL_act_511 rfl ?_
  refine pw_iconst_ (v := nI 1) dL_act_513 (by decide) ?_
  refine pl_callV (b := 0) (As := [.int (nI t), .int (nI 1)]) (st := [.int (nI (edA (up1 (na c) (38 + 12 * t) p) t))]) dL_act_514 cv_L_9 rfl ⟨by decide, by decide +kernel⟩ (Nat.le_of_ble_eq_true rfl) (Nat.le_of_ble_eq_true rfl) (by omega) (by omega) ?_
  refine l_teamOf (x := nI (edA (up1 (na c) (38 + 12 * t) p) t)) wν2 hν2 (by rw [haν2, up1_n (by omega)]; exact ht) (by decide) (by show nI (OV (na cν2) (na cν2 3) t) = _; rw [haν2]; rfl) (fun ν1 hx1 => ?_)
  show PL l E D cA Y.length (kv_sum Y) mL_act (d + 8) fin 517 [some (.ref 0), some (.ref (227 + 0)), some (.ref (227 + 1)), some (.ref (227 + 2)), some (.int g), some (.int v), some (.int (nI (na c 3))), some (.int (nI what)), some (.int (nI t)), none, none, none, none] [.int (nI (edA (up1 (na c) (38 + 12 * t) p) t)), .int (nI (edA (up1 (na c) (38 + 12 * t) p) t))] ν1 Y'
  refine pw_icmp_ne (tgt := 524) dL_act_517 (by decide) (fun h9 => absurd rfl h9) (fun _ => ?_)
  refine pw_iconst_ (v := nI 1) dL_act_520 (by decide) ?_
  refine pw_goto (tgt := 525) dL_act_521 (by decide) ?_
  exact pl_iret dL_act_525 rfl (by decide) sa sb (hf _ Y' cν2 r h (upi lo t (nI p - nI 1)) hx1 wν2 (by rw [haν2]; exact g_lose hw.1 hG) (by rw [haν2, up1_n (by omega)]) sa sb ((sd _ (by decide)).trans h0) ((sd _ (by decide)).trans h1) sc (fun q hq => sd q (by omega)))
set_option maxRecDepth 100000 in
set_option maxHeartbeats 4000000 in
theorem a_exchange {c : CS} (hw : CW c) (hx : CX μ c) {r h lo : Nat → Int32} (h0 : Y[0]? = some (yr r 48)) (h1 : Y[1]? = some (yr h 6)) (h2 : Y[2]? = some (yr lo 6)) (hG : GI (na c) r h lo) {g v : Int32} {t : Nat} (ht : t < na c 3) {what : Nat} (hlen : 1 < na c (39 + 12 * t)) (hf : ∀ (ν : Mu) (Y' : List PE) (c2 : CS) (r2 hh2 lo2 : Nat → Int32), CX ν c2 → CW c2 → GI (na c2) r2 hh2 lo2 → na c2 3 = na c 3 → Y'.length = Y.length → kv_sum Y' = kv_sum Y → Y'[0]? = some (yr r2 48) → Y'[1]? = some (yr hh2 6) → Y'[2]? = some (yr lo2 6) → (∀ q, 3 ≤ q → Y'[q]? = Y[q]?) → fin (some (.int (nI 1))) ν Y') : PL l E D cA Y.length (kv_sum Y) mL_act (d + 8) fin 548 [some (.ref 0), some (.ref (227 + 0)), some (.ref (227 + 1)), some (.ref (227 + 2)), some (.int g), some (.int v), some (.int (nI (na c 3))), some (.int (nI what)), some (.int (nI t)), some (.int (nI (na c (39 + 12 * t)))), none, none, none] [] μ Y := by
  have h6 := hw.1.t6
  obtain ⟨g1, g2, g3, g4, g5⟩ := hw.1.tm ht
  refine pw_iload dL_act_548 rfl ?_
  refine pw_iload dL_act_550 rfl ?_
  refine pl_callS (k' := Y.length) (z' := kv_sum Y) (As := [.int v, .int (nI (na c (39 + 12 * t)))]) (st := []) dL_act_552 cs_L_49 rfl (Nat.le_of_ble_eq_true rfl) (Nat.le_of_ble_eq_true rfl) ⟨Nat.le_refl _, (by omega)⟩ ⟨Nat.le_refl _, (by omega)⟩ ?_
  refine l_low (by omega) (by omega) ?_
  have hli := lwN_lt (x := v) (n := na c (39 + 12 * t)) (by omega)
  obtain ⟨i, hei⟩ : ∃ i, i = lwN v (na c (39 + 12 * t)) := ⟨_, rfl⟩
  rw [← hei] at hli ⊢
  show PL l E D cA Y.length (kv_sum Y) mL_act (d + 8) fin 555 [some (.ref 0), some (.ref (227 + 0)), some (.ref (227 + 1)), some (.ref (227 + 2)), some (.int g), some (.int v), some (.int (nI (na c 3))), some (.int (nI what)), some (.int (nI t)), some (.int (nI (na c (39 + 12 * t)))), none, none, none] [.int (nI i)] μ Y
  refine px_istore (ls' := [some (.ref 0), some (.ref (227 + 0)), some (.ref (227 + 1)), some (.ref (227 + 2)), some (.int g), some (.int v), some (.int (nI (na c 3))), some (.int (nI what)), some (.int (nI t)), some (.int (nI (na c (39 + 12 * t)))), some (.int (nI i)), none, none]) dL_act_555 rfl rfl (by decide) ?_
  refine pw_iload dL_act_557 rfl ?_
  refine pw_iconst_ (v := nI 4) dL_act_559 (by decide) ?_
  refine pw_ishr dL_act_560 ?_
  refine pw_iload dL_act_561 rfl ?_
  refine pl_callS (k' := Y.length) (z' := kv_sum Y) (As := [.int (v >>> ((nI 4) &&& 31)), .int (nI (na c (39 + 12 * t)))]) (st := []) dL_act_563 cs_L_49 rfl (Nat.le_of_ble_eq_true rfl) (Nat.le_of_ble_eq_true rfl) ⟨Nat.le_refl _, (by omega)⟩ ⟨Nat.le_refl _, (by omega)⟩ ?_
  refine l_low (by omega) (by omega) ?_
  have hlj := lwN_lt (x := v >>> (nI 4 &&& 31)) (n := na c (39 + 12 * t)) (by omega)
  obtain ⟨j, hej⟩ : ∃ j, j = lwN (v >>> (nI 4 &&& 31)) (na c (39 + 12 * t)) := ⟨_, rfl⟩
  rw [← hej] at hlj ⊢
  show PL l E D cA Y.length (kv_sum Y) mL_act (d + 8) fin 566 [some (.ref 0), some (.ref (227 + 0)), some (.ref (227 + 1)), some (.ref (227 + 2)), some (.int g), some (.int v), some (.int (nI (na c 3))), some (.int (nI what)), some (.int (nI t)), some (.int (nI (na c (39 + 12 * t)))), some (.int (nI i)), none, none] [.int (nI j)] μ Y
  refine px_istore (ls' := [some (.ref 0), some (.ref (227 + 0)), some (.ref (227 + 1)), some (.ref (227 + 2)), some (.int g), some (.int v), some (.int (nI (na c 3))), some (.int (nI what)), some (.int (nI t)), some (.int (nI (na c (39 + 12 * t)))), some (.int (nI i)), some (.int (nI j)), none]) dL_act_566 rfl rfl (by decide) ?_
  refine pw_iload dL_act_568 rfl ?_
  refine pw_iload dL_act_570 rfl ?_
  refine pn_ne (tgt := 596) dL_act_572 (by decide) (by omega) (by omega) (fun hij => ?_) (fun hij => ?_)
  · refine pw_aload_n dL_act_596 rfl ?_
    refine pw_bipush (v := nI 8) dL_act_597 (by decide) ?_
    refine pw_iload dL_act_599 rfl ?_
    refine px_imuln (c := 8 * t) dL_act_601 (by omega) ?_
    refine pw_iload dL_act_602 rfl ?_
    refine px_iaddn (c := 8 * t + i) dL_act_604 (by omega) ?_
    refine pl_iald (i := 0) (j := 8 * t + i) (n := 48) (f := r) (x := (r (8 * t + i))) dL_act_605 rfl (by omega) (by decide) h0 rfl ?_
    refine px_istore (ls' := [some (.ref 0), some (.ref (227 + 0)), some (.ref (227 + 1)), some (.ref (227 + 2)), some (.int g), some (.int v), some (.int (nI (na c 3))), some (.int (nI what)), some (.int (nI t)), some (.int (nI (na c (39 + 12 * t)))), some (.int (nI i)), some (.int (nI j)), some (.int (r (8 * t + i)))]) dL_act_606 rfl rfl (by decide) ?_
    refine pw_aload_n dL_act_608 rfl ?_
    refine pw_bipush (v := nI 8) dL_act_609 (by decide) ?_
    refine pw_iload dL_act_611 rfl ?_
    refine px_imuln (c := 8 * t) dL_act_613 (by omega) ?_
    refine pw_iload dL_act_614 rfl ?_
    refine px_iaddn (c := 8 * t + i) dL_act_616 (by omega) ?_
    refine pw_aload_n dL_act_617 rfl ?_
    refine pw_bipush (v := nI 8) dL_act_618 (by decide) ?_
    refine pw_iload dL_act_620 rfl ?_
    refine px_imuln (c := 8 * t) dL_act_622 (by omega) ?_
    refine pw_iload dL_act_623 rfl ?_
    refine px_iaddn (c := 8 * t + j) dL_act_625 (by omega) ?_
    refine pl_iald (i := 0) (j := 8 * t + j) (n := 48) (f := r) (x := (r (8 * t + j))) dL_act_626 rfl (by omega) (by decide) h0 rfl ?_
    refine pl_iast (i := 0) (j := 8 * t + i) (n := 48) (f := r) dL_act_627 rfl (by omega) (by decide) h0 (fun Y1 sa sb sc sd => ?_)
    refine pw_aload_n dL_act_628 rfl ?_
    refine pw_bipush (v := nI 8) dL_act_629 (by decide) ?_
    refine pw_iload dL_act_631 rfl ?_
    refine px_imuln (c := 8 * t) dL_act_633 (by omega) ?_
    refine pw_iload dL_act_634 rfl ?_
    refine px_iaddn (c := 8 * t + j) dL_act_636 (by omega) ?_
    refine pw_iload dL_act_637 rfl ?_
    refine pl_iast (i := 0) (j := 8 * t + j) (n := 48) (f := (upi r (8 * t + i) (r (8 * t + j)))) dL_act_639 rfl (by omega) (by decide) sc (fun Y2 ua ub uc ud => ?_)
    refine pw_aload_n dL_act_640 rfl ?_
    refine pw_iload dL_act_641 rfl ?_
    refine pw_iload dL_act_643 rfl ?_
    refine pw_iload dL_act_645 rfl ?_
    have eν2 : o_exchange c (nI t) (nI i) (nI j) = (nI (edA (xch (na c) t i j) t), cnow (crec c) (xch (na c) t i j)) := by unfold o_exchange; rw [if_pos (inT_nI ht (by omega)), iN_nI (show t < 2 ^ 31 by omega), if_pos (inT_nI hli (by omega)), if_pos (inT_nI hlj (by omega)), if_neg (nI_inj2 (by omega) (by omega) hij), iN_nI (show i < 2 ^ 31 by omega), iN_nI (show j < 2 ^ 31 by omega)]
    refine pl_callV (b := 0) (As := [.int (nI t), .int (nI i), .int (nI j)]) (st := []) dL_act_647 cv_L_91 rfl ⟨by decide, by decide +kernel⟩ (Nat.le_of_ble_eq_true rfl) (Nat.le_of_ble_eq_true rfl) (by omega) (by omega) ?_
    refine x_exchange hw hx (fun ν2 hν2 _ => ?_)
    rw [eν2] at hν2 ⊢
    replace hν2 : CX ν2 (cnow (crec c) (xch (na c) t i j)) := hν2
    have wν2 : CW (o_exchange c (nI t) (nI i) (nI j)).2 := w_exchange hw
    rw [eν2] at wν2
    replace wν2 : CW (cnow (crec c) (xch (na c) t i j)) := wν2
    show PL l E D cA Y.length (kv_sum Y) mL_act (d + 8) fin 650 [some (.ref 0), some (.ref (227 + 0)), some (.ref (227 + 1)), some (.ref (227 + 2)), some (.int g), some (.int v), some (.int (nI (na c 3))), some (.int (nI what)), some (.int (nI t)), some (.int (nI (na c (39 + 12 * t)))), some (.int (nI i)), some (.int (nI j)), some (.int (r (8 * t + i)))] [.int (nI (edA (xch (na c) t i j) t))] ν2 Y2
    generalize hcν2 : cnow (crec c) (xch (na c) t i j) = cν2 at hν2 wν2
    have haν2 : na cν2 = xch (na c) t i j := by rw [← hcν2]; rfl
    have hx3 : na cν2 3 = na c 3 := by rw [haν2, xch_3 (by omega)]
    have hx39 : na cν2 (39 + 12 * t) = na c (39 + 12 * t) := by rw [haν2, xch_off (by omega)]
    refine pw_aload_n dL_act_650 rfl ?_
    refine pw_iload dL_act_651 rfl ?_
    refine pw_iconst_ (v := nI 1) dL_act_653 (by decide) ?_
    refine pl_callV (b := 0) (As := [.int (nI t), .int (nI 1)]) (st := [.int (nI (edA (xch (na c) t i j) t))]) dL_act_654 cv_L_9 rfl ⟨by decide, by decide +kernel⟩ (Nat.le_of_ble_eq_true rfl) (Nat.le_of_ble_eq_true rfl) (by omega) (by omega) ?_
    refine l_teamOf (x := nI (edA (xch (na c) t i j) t)) wν2 hν2 (by rw [hx3]; exact ht) (by decide) (by show nI (OV (na cν2) (na cν2 3) t) = _; rw [haν2]; rfl) (fun ν1 hx1 => ?_)
    show PL l E D cA Y.length (kv_sum Y) mL_act (d + 8) fin 657 [some (.ref 0), some (.ref (227 + 0)), some (.ref (227 + 1)), some (.ref (227 + 2)), some (.int g), some (.int v), some (.int (nI (na c 3))), some (.int (nI what)), some (.int (nI t)), some (.int (nI (na c (39 + 12 * t)))), some (.int (nI i)), some (.int (nI j)), some (.int (r (8 * t + i)))] [.int (nI (edA (xch (na c) t i j) t)), .int (nI (edA (xch (na c) t i j) t))] ν1 Y2
    refine pw_icmp_ne (tgt := 679) dL_act_657 (by decide) (fun h9 => absurd rfl h9) (fun _ => ?_)
    refine pw_aload_n dL_act_660 rfl ?_
    refine pw_iload dL_act_661 rfl ?_
    refine pw_iload dL_act_663 rfl ?_
    refine pw_iload dL_act_665 rfl ?_
    have eν3 : o_exchange cν2 (nI t) (nI i) (nI (na c (39 + 12 * t))) = ((-100001), cν2) := by unfold o_exchange; rw [hx3, if_pos (inT_nI ht (by omega)), iN_nI (show t < 2 ^ 31 by omega), hx39, if_pos (inT_nI hli (by omega)), if_neg (inT_no (Nat.le_refl _) (by omega))]
    refine pl_callV (b := 0) (As := [.int (nI t), .int (nI i), .int (nI (na c (39 + 12 * t)))]) (st := []) dL_act_667 cv_L_91 rfl ⟨by decide, by decide +kernel⟩ (Nat.le_of_ble_eq_true rfl) (Nat.le_of_ble_eq_true rfl) (by omega) (by omega) ?_
    refine x_exchange wν2 hx1 (fun ν3 hν3 _ => ?_)
    rw [eν3] at hν3 ⊢
    replace hν3 : CX ν3 cν2 := hν3
    show PL l E D cA Y.length (kv_sum Y) mL_act (d + 8) fin 670 [some (.ref 0), some (.ref (227 + 0)), some (.ref (227 + 1)), some (.ref (227 + 2)), some (.int g), some (.int v), some (.int (nI (na c 3))), some (.int (nI what)), some (.int (nI t)), some (.int (nI (na c (39 + 12 * t)))), some (.int (nI i)), some (.int (nI j)), some (.int (r (8 * t + i)))] [.int (-100001)] ν3 Y2
    refine pw_ldc dL_act_670 kc_L_79 ?_
    refine pw_icmp_ne (tgt := 679) dL_act_672 (by decide) (fun h9 => absurd rfl h9) (fun _ => ?_)
    refine pw_iconst_ (v := nI 1) dL_act_675 (by decide) ?_
    refine pw_goto (tgt := 680) dL_act_676 (by decide) ?_
    exact pl_iret dL_act_680 rfl (by decide) (ua.trans sa) (ub.trans sb) (hf _ Y2 cν2 (upi (upi r (8 * t + i) (r (8 * t + j))) (8 * t + j) (r (8 * t + i))) h lo hν3 wν2 (by rw [haν2]; exact g_xch hw.1 ht hli hlj hij hG) hx3 (ua.trans sa) (ub.trans sb) uc ((ud _ (by decide)).trans ((sd _ (by decide)).trans h1)) ((ud _ (by decide)).trans ((sd _ (by decide)).trans h2)) (fun q hq => (ud q (by omega)).trans (sd q (by omega))))
  · refine pw_aload_n dL_act_575 rfl ?_
    refine pw_iload dL_act_576 rfl ?_
    refine pw_iload dL_act_578 rfl ?_
    refine pw_iload dL_act_580 rfl ?_
    have eν1 : o_exchange c (nI t) (nI i) (nI j) = ((-100002), c) := by unfold o_exchange; rw [if_pos (inT_nI ht (by omega)), iN_nI (show t < 2 ^ 31 by omega), if_pos (inT_nI hli (by omega)), if_pos (inT_nI hlj (by omega)), if_pos (congrArg nI hij)]
    refine pl_callV (b := 0) (As := [.int (nI t), .int (nI i), .int (nI j)]) (st := []) dL_act_582 cv_L_91 rfl ⟨by decide, by decide +kernel⟩ (Nat.le_of_ble_eq_true rfl) (Nat.le_of_ble_eq_true rfl) (by omega) (by omega) ?_
    refine x_exchange hw hx (fun ν1 hν1 _ => ?_)
    rw [eν1] at hν1 ⊢
    replace hν1 : CX ν1 c := hν1
    show PL l E D cA Y.length (kv_sum Y) mL_act (d + 8) fin 585 [some (.ref 0), some (.ref (227 + 0)), some (.ref (227 + 1)), some (.ref (227 + 2)), some (.int g), some (.int v), some (.int (nI (na c 3))), some (.int (nI what)), some (.int (nI t)), some (.int (nI (na c (39 + 12 * t)))), some (.int (nI i)), some (.int (nI j)), none] [.int (-100002)] ν1 Y
    refine pw_ldc dL_act_585 kc_L_68 ?_
    refine pw_icmp_ne (tgt := 594) dL_act_587 (by decide) (fun h9 => absurd rfl h9) (fun _ => ?_)
    refine pw_iconst_ (v := nI 1) dL_act_590 (by decide) ?_
    refine pw_goto (tgt := 595) dL_act_591 (by decide) ?_
    exact pl_iret dL_act_595 rfl (by decide) rfl rfl (hf _ Y c r h lo hν1 hw hG rfl rfl rfl h0 h1 h2 (fun _ _ => rfl))
set_option maxRecDepth 100000 in
set_option maxHeartbeats 4000000 in
theorem a_close {c : CS} (hw : CW c) (hx : CX μ c) {r h lo : Nat → Int32} (h0 : Y[0]? = some (yr r 48)) (h1 : Y[1]? = some (yr h 6)) (h2 : Y[2]? = some (yr lo 6)) (hG : GI (na c) r h lo) {g v : Int32} {t : Nat} (ht : t < na c 3) {what : Nat} (hf : ∀ (ν : Mu) (Y' : List PE) (c2 : CS) (r2 hh2 lo2 : Nat → Int32), CX ν c2 → CW c2 → GI (na c2) r2 hh2 lo2 → na c2 3 = na c 3 → Y'.length = Y.length → kv_sum Y' = kv_sum Y → Y'[0]? = some (yr r2 48) → Y'[1]? = some (yr hh2 6) → Y'[2]? = some (yr lo2 6) → (∀ q, 3 ≤ q → Y'[q]? = Y[q]?) → fin (some (.int (nI 1))) ν Y') : PL l E D cA Y.length (kv_sum Y) mL_act (d + 8) fin 688 [some (.ref 0), some (.ref (227 + 0)), some (.ref (227 + 1)), some (.ref (227 + 2)), some (.int g), some (.int v), some (.int (nI (na c 3))), some (.int (nI what)), some (.int (nI t)), some (.int (nI (na c (39 + 12 * t)))), none, none, none] [] μ Y := by
  have h6 := hw.1.t6
  refine pw_iload dL_act_688 rfl ?_
  refine pw_bipush (v := nI 8) dL_act_690 (by decide) ?_
  refine pl_callS (k' := Y.length) (z' := kv_sum Y) (As := [.int v, .int (nI 8)]) (st := []) dL_act_692 cs_L_49 rfl (Nat.le_of_ble_eq_true rfl) (Nat.le_of_ble_eq_true rfl) ⟨Nat.le_refl _, (by omega)⟩ ⟨Nat.le_refl _, (by omega)⟩ ?_
  refine l_low (by decide) (by decide) ?_
  have hlp := lwN_lt (x := v) (n := 8) (by decide)
  obtain ⟨p, hep⟩ : ∃ p, p = lwN v 8 := ⟨_, rfl⟩
  rw [← hep] at hlp ⊢
  show PL l E D cA Y.length (kv_sum Y) mL_act (d + 8) fin 695 [some (.ref 0), some (.ref (227 + 0)), some (.ref (227 + 1)), some (.ref (227 + 2)), some (.int g), some (.int v), some (.int (nI (na c 3))), some (.int (nI what)), some (.int (nI t)), some (.int (nI (na c (39 + 12 * t)))), none, none, none] [.int (nI p)] μ Y
  obtain ⟨p1, p2, p3, p4⟩ := hw.1.pl hlp
  have h8 := opn_8 (na c)
  refine px_istore (ls' := [some (.ref 0), some (.ref (227 + 0)), some (.ref (227 + 1)), some (.ref (227 + 2)), some (.int g), some (.int v), some (.int (nI (na c 3))), some (.int (nI what)), some (.int (nI t)), some (.int (nI (na c (39 + 12 * t)))), some (.int (nI p)), none, none]) dL_act_695 rfl rfl (by decide) ?_
  refine pw_aload_n dL_act_697 rfl ?_
  refine pw_iload dL_act_698 rfl ?_
  refine pw_iconst_ (v := nI 3) dL_act_700 (by decide) ?_
  by_cases hb : na c (7 + 4 * p) = 0
  · refine pl_callV (b := 0) (As := [.int (nI p), .int (nI 3)]) (st := []) dL_act_701 cv_L_15 rfl ⟨by decide, by decide +kernel⟩ (Nat.le_of_ble_eq_true rfl) (Nat.le_of_ble_eq_true rfl) (by omega) (by omega) ?_
    refine l_placeOf (x := nI 1) hw hx hlp (by decide) (by show nI (1 - na c (7 + 4 * p)) = _; rw [hb]) (fun ν1 hx1 => ?_)
    show PL l E D cA Y.length (kv_sum Y) mL_act (d + 8) fin 704 [some (.ref 0), some (.ref (227 + 0)), some (.ref (227 + 1)), some (.ref (227 + 2)), some (.int g), some (.int v), some (.int (nI (na c 3))), some (.int (nI what)), some (.int (nI t)), some (.int (nI (na c (39 + 12 * t)))), some (.int (nI p)), none, none] [.int (nI 1)] ν1 Y
    refine pw_iconst_ (v := nI 1) dL_act_704 (by decide) ?_
    refine pn_ne (tgt := 712) dL_act_705 (by decide) (by omega) (by omega) (fun h9 => absurd rfl h9) (fun _ => ?_)
    refine pw_iconst_ (v := nI 1) dL_act_708 (by decide) ?_
    refine pw_goto (tgt := 713) dL_act_709 (by decide) ?_
    refine px_istore (ls' := [some (.ref 0), some (.ref (227 + 0)), some (.ref (227 + 1)), some (.ref (227 + 2)), some (.int g), some (.int v), some (.int (nI (na c 3))), some (.int (nI what)), some (.int (nI t)), some (.int (nI (na c (39 + 12 * t)))), some (.int (nI p)), some (.int (nI 1)), none]) dL_act_713 rfl rfl (by decide) ?_
    refine pw_aload_n dL_act_715 rfl ?_
    refine pw_iconst_ (v := nI 4) dL_act_716 (by decide) ?_
    refine pl_callV (b := 0) (As := [.int (nI 4)]) (st := []) dL_act_717 cv_L_24 rfl ⟨by decide, by decide +kernel⟩ (Nat.le_of_ble_eq_true rfl) (Nat.le_of_ble_eq_true rfl) (by omega) (by omega) ?_
    refine l_count (x := nI (opn (na c))) hw hx1 (by decide) rfl (fun ν2 hx2 => ?_)
    show PL l E D cA Y.length (kv_sum Y) mL_act (d + 8) fin 720 [some (.ref 0), some (.ref (227 + 0)), some (.ref (227 + 1)), some (.ref (227 + 2)), some (.int g), some (.int v), some (.int (nI (na c 3))), some (.int (nI what)), some (.int (nI t)), some (.int (nI (na c (39 + 12 * t)))), some (.int (nI p)), some (.int (nI 1)), none] [.int (nI (opn (na c)))] ν2 Y
    refine px_istore (ls' := [some (.ref 0), some (.ref (227 + 0)), some (.ref (227 + 1)), some (.ref (227 + 2)), some (.int g), some (.int v), some (.int (nI (na c 3))), some (.int (nI what)), some (.int (nI t)), some (.int (nI (na c (39 + 12 * t)))), some (.int (nI p)), some (.int (nI 1)), some (.int (nI (opn (na c))))]) dL_act_720 rfl rfl (by decide) ?_
    refine pw_aload_n dL_act_722 rfl ?_
    refine pw_iload dL_act_723 rfl ?_
    refine pw_iload dL_act_725 rfl ?_
    refine pw_if_ne (tgt := 734) dL_act_727 (by decide) (fun _ => ?_) (fun h9 => absurd h9 (by decide))
    refine pw_iconst_ (v := nI 0) dL_act_734 (by decide) ?_
    have eν1 : o_close c (nI p) (nI 0) = ((-100005), c) := by unfold o_close; rw [if_pos (inR_nI (by omega) (by decide)), iN_nI (show p < 2 ^ 31 by omega), kb_f (by rw [hb]; decide), if_pos rfl]
    refine pl_callV (b := 0) (As := [.int (nI p), .int (nI 0)]) (st := []) dL_act_735 cv_L_94 rfl ⟨by decide, by decide +kernel⟩ (Nat.le_of_ble_eq_true rfl) (Nat.le_of_ble_eq_true rfl) (by omega) (by omega) ?_
    refine x_close hw hx2 (fun ν1 hν1 _ => ?_)
    rw [eν1] at hν1 ⊢
    replace hν1 : CX ν1 c := hν1
    show PL l E D cA Y.length (kv_sum Y) mL_act (d + 8) fin 738 [some (.ref 0), some (.ref (227 + 0)), some (.ref (227 + 1)), some (.ref (227 + 2)), some (.int g), some (.int v), some (.int (nI (na c 3))), some (.int (nI what)), some (.int (nI t)), some (.int (nI (na c (39 + 12 * t)))), some (.int (nI p)), some (.int (nI 1)), some (.int (nI (opn (na c))))] [.int (-100005)] ν1 Y
    refine pw_ldc dL_act_738 kc_L_87 ?_
    refine pw_icmp_ne (tgt := 794) dL_act_740 (by decide) (fun h9 => absurd rfl h9) (fun _ => ?_)
    refine pw_aload_n dL_act_743 rfl ?_
    refine pw_iload dL_act_744 rfl ?_
    refine pw_iload dL_act_746 rfl ?_
    have eν2 : o_close c (nI p) (nI 1) = (nI (opn (up1 (na c) (7 + 4 * p) 1)), cnow (crec c) (up1 (na c) (7 + 4 * p) 1)) := by unfold o_close; rw [if_pos (inR_nI (by omega) (by decide)), iN_nI (show p < 2 ^ 31 by omega), kb_f (by rw [hb]; decide), if_neg (by decide), hb]
    refine pl_callV (b := 0) (As := [.int (nI p), .int (nI 1)]) (st := []) dL_act_748 cv_L_94 rfl ⟨by decide, by decide +kernel⟩ (Nat.le_of_ble_eq_true rfl) (Nat.le_of_ble_eq_true rfl) (by omega) (by omega) ?_
    refine x_close hw hν1 (fun ν2 hν2 _ => ?_)
    rw [eν2] at hν2 ⊢
    replace hν2 : CX ν2 (cnow (crec c) (up1 (na c) (7 + 4 * p) 1)) := hν2
    have wν2 : CW (o_close c (nI p) (nI 1)).2 := w_close hw
    rw [eν2] at wν2
    replace wν2 : CW (cnow (crec c) (up1 (na c) (7 + 4 * p) 1)) := wν2
    show PL l E D cA Y.length (kv_sum Y) mL_act (d + 8) fin 751 [some (.ref 0), some (.ref (227 + 0)), some (.ref (227 + 1)), some (.ref (227 + 2)), some (.int g), some (.int v), some (.int (nI (na c 3))), some (.int (nI what)), some (.int (nI t)), some (.int (nI (na c (39 + 12 * t)))), some (.int (nI p)), some (.int (nI 1)), some (.int (nI (opn (na c))))] [.int (nI (opn (up1 (na c) (7 + 4 * p) 1)))] ν2 Y
    generalize hcν2 : cnow (crec c) (up1 (na c) (7 + 4 * p) 1) = cν2 at hν2 wν2
    have haν2 : na cν2 = up1 (na c) (7 + 4 * p) 1 := by rw [← hcν2]; rfl
    refine pw_iload dL_act_751 rfl ?_
    refine pw_if_eq (tgt := 763) dL_act_753 (by decide) (fun h9 => absurd h9 (by decide)) (fun _ => ?_)
    have ho := opn_up hlp hb
    refine pw_iload dL_act_756 rfl ?_
    refine pw_iconst_ (v := nI 1) dL_act_758 (by decide) ?_
    refine pn_isub (by omega) dL_act_759 ?_
    have e9 : opn (na c) - 1 = opn (up1 (na c) (7 + 4 * p) 1) := by omega
    rw [e9]
    show PL l E D cA Y.length (kv_sum Y) mL_act (d + 8) fin 760 [some (.ref 0), some (.ref (227 + 0)), some (.ref (227 + 1)), some (.ref (227 + 2)), some (.int g), some (.int v), some (.int (nI (na c 3))), some (.int (nI what)), some (.int (nI t)), some (.int (nI (na c (39 + 12 * t)))), some (.int (nI p)), some (.int (nI 1)), some (.int (nI (opn (na c))))] [.int (nI (opn (up1 (na c) (7 + 4 * p) 1))), .int (nI (opn (up1 (na c) (7 + 4 * p) 1)))] ν2 Y
    refine pw_goto (tgt := 767) dL_act_760 (by decide) ?_
    refine pw_icmp_ne (tgt := 794) dL_act_767 (by decide) (fun h9 => absurd rfl h9) (fun _ => ?_)
    refine pw_aload_n dL_act_770 rfl ?_
    refine pw_iload dL_act_771 rfl ?_
    refine pw_iconst_ (v := nI 3) dL_act_773 (by decide) ?_
    refine pl_callV (b := 0) (As := [.int (nI p), .int (nI 3)]) (st := []) dL_act_774 cv_L_15 rfl ⟨by decide, by decide +kernel⟩ (Nat.le_of_ble_eq_true rfl) (Nat.le_of_ble_eq_true rfl) (by omega) (by omega) ?_
    refine l_placeOf (x := nI 0) wν2 hν2 hlp (by decide) (by show nI (1 - na cν2 (7 + 4 * p)) = _; rw [haν2, up1_s]) (fun ν3 hx3 => ?_)
    show PL l E D cA Y.length (kv_sum Y) mL_act (d + 8) fin 777 [some (.ref 0), some (.ref (227 + 0)), some (.ref (227 + 1)), some (.ref (227 + 2)), some (.int g), some (.int v), some (.int (nI (na c 3))), some (.int (nI what)), some (.int (nI t)), some (.int (nI (na c (39 + 12 * t)))), some (.int (nI p)), some (.int (nI 1)), some (.int (nI (opn (na c))))] [.int (nI 0)] ν3 Y
    refine pw_iload dL_act_777 rfl ?_
    refine pw_if_eq (tgt := 786) dL_act_779 (by decide) (fun h9 => absurd h9 (by decide)) (fun _ => ?_)
    refine pw_iconst_ (v := nI 0) dL_act_782 (by decide) ?_
    refine pw_goto (tgt := 787) dL_act_783 (by decide) ?_
    refine pw_icmp_ne (tgt := 794) dL_act_787 (by decide) (fun h9 => absurd rfl h9) (fun _ => ?_)
    refine pw_iconst_ (v := nI 1) dL_act_790 (by decide) ?_
    refine pw_goto (tgt := 795) dL_act_791 (by decide) ?_
    exact pl_iret dL_act_795 rfl (by decide) rfl rfl (hf _ Y cν2 r h lo hx3 wν2 (by rw [haν2]; exact hG.cg hw.1 (up1_n (by omega)) (fun j hj => up1_n (by omega))) (by rw [haν2, up1_n (by omega)]) rfl rfl h0 h1 h2 (fun _ _ => rfl))
  · have hb1 : na c (7 + 4 * p) = 1 := by omega
    refine pl_callV (b := 0) (As := [.int (nI p), .int (nI 3)]) (st := []) dL_act_701 cv_L_15 rfl ⟨by decide, by decide +kernel⟩ (Nat.le_of_ble_eq_true rfl) (Nat.le_of_ble_eq_true rfl) (by omega) (by omega) ?_
    refine l_placeOf (x := nI 0) hw hx hlp (by decide) (by show nI (1 - na c (7 + 4 * p)) = _; rw [hb1]) (fun ν1 hx1 => ?_)
    show PL l E D cA Y.length (kv_sum Y) mL_act (d + 8) fin 704 [some (.ref 0), some (.ref (227 + 0)), some (.ref (227 + 1)), some (.ref (227 + 2)), some (.int g), some (.int v), some (.int (nI (na c 3))), some (.int (nI what)), some (.int (nI t)), some (.int (nI (na c (39 + 12 * t)))), some (.int (nI p)), none, none] [.int (nI 0)] ν1 Y
    refine pw_iconst_ (v := nI 1) dL_act_704 (by decide) ?_
    refine pn_ne (tgt := 712) dL_act_705 (by decide) (by omega) (by omega) (fun _ => ?_) (fun h9 => absurd h9 (by decide))
    refine pw_iconst_ (v := nI 0) dL_act_712 (by decide) ?_
    refine px_istore (ls' := [some (.ref 0), some (.ref (227 + 0)), some (.ref (227 + 1)), some (.ref (227 + 2)), some (.int g), some (.int v), some (.int (nI (na c 3))), some (.int (nI what)), some (.int (nI t)), some (.int (nI (na c (39 + 12 * t)))), some (.int (nI p)), some (.int (nI 0)), none]) dL_act_713 rfl rfl (by decide) ?_
    refine pw_aload_n dL_act_715 rfl ?_
    refine pw_iconst_ (v := nI 4) dL_act_716 (by decide) ?_
    refine pl_callV (b := 0) (As := [.int (nI 4)]) (st := []) dL_act_717 cv_L_24 rfl ⟨by decide, by decide +kernel⟩ (Nat.le_of_ble_eq_true rfl) (Nat.le_of_ble_eq_true rfl) (by omega) (by omega) ?_
    refine l_count (x := nI (opn (na c))) hw hx1 (by decide) rfl (fun ν2 hx2 => ?_)
    show PL l E D cA Y.length (kv_sum Y) mL_act (d + 8) fin 720 [some (.ref 0), some (.ref (227 + 0)), some (.ref (227 + 1)), some (.ref (227 + 2)), some (.int g), some (.int v), some (.int (nI (na c 3))), some (.int (nI what)), some (.int (nI t)), some (.int (nI (na c (39 + 12 * t)))), some (.int (nI p)), some (.int (nI 0)), none] [.int (nI (opn (na c)))] ν2 Y
    refine px_istore (ls' := [some (.ref 0), some (.ref (227 + 0)), some (.ref (227 + 1)), some (.ref (227 + 2)), some (.int g), some (.int v), some (.int (nI (na c 3))), some (.int (nI what)), some (.int (nI t)), some (.int (nI (na c (39 + 12 * t)))), some (.int (nI p)), some (.int (nI 0)), some (.int (nI (opn (na c))))]) dL_act_720 rfl rfl (by decide) ?_
    refine pw_aload_n dL_act_722 rfl ?_
    refine pw_iload dL_act_723 rfl ?_
    refine pw_iload dL_act_725 rfl ?_
    refine pw_if_ne (tgt := 734) dL_act_727 (by decide) (fun h9 => absurd rfl h9) (fun _ => ?_)
    refine pw_iconst_ (v := nI 1) dL_act_730 (by decide) ?_
    refine pw_goto (tgt := 735) dL_act_731 (by decide) ?_
    have eν1 : o_close c (nI p) (nI 1) = ((-100005), c) := by unfold o_close; rw [if_pos (inR_nI (by omega) (by decide)), iN_nI (show p < 2 ^ 31 by omega), kb_t hb1, if_pos rfl]
    refine pl_callV (b := 0) (As := [.int (nI p), .int (nI 1)]) (st := []) dL_act_735 cv_L_94 rfl ⟨by decide, by decide +kernel⟩ (Nat.le_of_ble_eq_true rfl) (Nat.le_of_ble_eq_true rfl) (by omega) (by omega) ?_
    refine x_close hw hx2 (fun ν1 hν1 _ => ?_)
    rw [eν1] at hν1 ⊢
    replace hν1 : CX ν1 c := hν1
    show PL l E D cA Y.length (kv_sum Y) mL_act (d + 8) fin 738 [some (.ref 0), some (.ref (227 + 0)), some (.ref (227 + 1)), some (.ref (227 + 2)), some (.int g), some (.int v), some (.int (nI (na c 3))), some (.int (nI what)), some (.int (nI t)), some (.int (nI (na c (39 + 12 * t)))), some (.int (nI p)), some (.int (nI 0)), some (.int (nI (opn (na c))))] [.int (-100005)] ν1 Y
    refine pw_ldc dL_act_738 kc_L_87 ?_
    refine pw_icmp_ne (tgt := 794) dL_act_740 (by decide) (fun h9 => absurd rfl h9) (fun _ => ?_)
    refine pw_aload_n dL_act_743 rfl ?_
    refine pw_iload dL_act_744 rfl ?_
    refine pw_iload dL_act_746 rfl ?_
    have eν2 : o_close c (nI p) (nI 0) = (nI (opn (up1 (na c) (7 + 4 * p) 0)), cnow (crec c) (up1 (na c) (7 + 4 * p) 0)) := by unfold o_close; rw [if_pos (inR_nI (by omega) (by decide)), iN_nI (show p < 2 ^ 31 by omega), kb_t hb1, if_neg (by decide), hb1]
    refine pl_callV (b := 0) (As := [.int (nI p), .int (nI 0)]) (st := []) dL_act_748 cv_L_94 rfl ⟨by decide, by decide +kernel⟩ (Nat.le_of_ble_eq_true rfl) (Nat.le_of_ble_eq_true rfl) (by omega) (by omega) ?_
    refine x_close hw hν1 (fun ν2 hν2 _ => ?_)
    rw [eν2] at hν2 ⊢
    replace hν2 : CX ν2 (cnow (crec c) (up1 (na c) (7 + 4 * p) 0)) := hν2
    have wν2 : CW (o_close c (nI p) (nI 0)).2 := w_close hw
    rw [eν2] at wν2
    replace wν2 : CW (cnow (crec c) (up1 (na c) (7 + 4 * p) 0)) := wν2
    show PL l E D cA Y.length (kv_sum Y) mL_act (d + 8) fin 751 [some (.ref 0), some (.ref (227 + 0)), some (.ref (227 + 1)), some (.ref (227 + 2)), some (.int g), some (.int v), some (.int (nI (na c 3))), some (.int (nI what)), some (.int (nI t)), some (.int (nI (na c (39 + 12 * t)))), some (.int (nI p)), some (.int (nI 0)), some (.int (nI (opn (na c))))] [.int (nI (opn (up1 (na c) (7 + 4 * p) 0)))] ν2 Y
    generalize hcν2 : cnow (crec c) (up1 (na c) (7 + 4 * p) 0) = cν2 at hν2 wν2
    have haν2 : na cν2 = up1 (na c) (7 + 4 * p) 0 := by rw [← hcν2]; rfl
    refine pw_iload dL_act_751 rfl ?_
    refine pw_if_eq (tgt := 763) dL_act_753 (by decide) (fun _ => ?_) (fun h9 => absurd rfl h9)
    have ho := opn_dn hlp hb
    refine pw_iload dL_act_763 rfl ?_
    refine pw_iconst_ (v := nI 1) dL_act_765 (by decide) ?_
    refine px_iaddn (c := opn (up1 (na c) (7 + 4 * p) 0)) dL_act_766 ho.symm ?_
    refine pw_icmp_ne (tgt := 794) dL_act_767 (by decide) (fun h9 => absurd rfl h9) (fun _ => ?_)
    refine pw_aload_n dL_act_770 rfl ?_
    refine pw_iload dL_act_771 rfl ?_
    refine pw_iconst_ (v := nI 3) dL_act_773 (by decide) ?_
    refine pl_callV (b := 0) (As := [.int (nI p), .int (nI 3)]) (st := []) dL_act_774 cv_L_15 rfl ⟨by decide, by decide +kernel⟩ (Nat.le_of_ble_eq_true rfl) (Nat.le_of_ble_eq_true rfl) (by omega) (by omega) ?_
    refine l_placeOf (x := nI 1) wν2 hν2 hlp (by decide) (by show nI (1 - na cν2 (7 + 4 * p)) = _; rw [haν2, up1_s]) (fun ν3 hx3 => ?_)
    show PL l E D cA Y.length (kv_sum Y) mL_act (d + 8) fin 777 [some (.ref 0), some (.ref (227 + 0)), some (.ref (227 + 1)), some (.ref (227 + 2)), some (.int g), some (.int v), some (.int (nI (na c 3))), some (.int (nI what)), some (.int (nI t)), some (.int (nI (na c (39 + 12 * t)))), some (.int (nI p)), some (.int (nI 0)), some (.int (nI (opn (na c))))] [.int (nI 1)] ν3 Y
    refine pw_iload dL_act_777 rfl ?_
    refine pw_if_eq (tgt := 786) dL_act_779 (by decide) (fun _ => ?_) (fun h9 => absurd rfl h9)
    refine pw_iconst_ (v := nI 1) dL_act_786 (by decide) ?_
    refine pw_icmp_ne (tgt := 794) dL_act_787 (by decide) (fun h9 => absurd rfl h9) (fun _ => ?_)
    refine pw_iconst_ (v := nI 1) dL_act_790 (by decide) ?_
    refine pw_goto (tgt := 795) dL_act_791 (by decide) ?_
    exact pl_iret dL_act_795 rfl (by decide) rfl rfl (hf _ Y cν2 r h lo hx3 wν2 (by rw [haν2]; exact hG.cg hw.1 (up1_n (by omega)) (fun j hj => up1_n (by omega))) (by rw [haν2, up1_n (by omega)]) rfl rfl h0 h1 h2 (fun _ _ => rfl))
set_option maxRecDepth 100000 in
set_option maxHeartbeats 4000000 in
theorem a_set {c : CS} (hw : CW c) (hx : CX μ c) {r h lo : Nat → Int32} (h0 : Y[0]? = some (yr r 48)) (h1 : Y[1]? = some (yr h 6)) (h2 : Y[2]? = some (yr lo 6)) (hG : GI (na c) r h lo) {g v : Int32} (hE : ES (E, Y)) {t : Nat} (ht : t < na c 3) {what : Nat} (hf : ∀ (ν : Mu) (Y' : List PE) (c2 : CS) (r2 hh2 lo2 : Nat → Int32), CX ν c2 → CW c2 → GI (na c2) r2 hh2 lo2 → na c2 3 = na c 3 → Y'.length = Y.length → kv_sum Y' = kv_sum Y → Y'[0]? = some (yr r2 48) → Y'[1]? = some (yr hh2 6) → Y'[2]? = some (yr lo2 6) → (∀ q, 3 ≤ q → Y'[q]? = Y[q]?) → fin (some (.int (nI 1))) ν Y') : PL l E D cA Y.length (kv_sum Y) mL_act (d + 8) fin 803 [some (.ref 0), some (.ref (227 + 0)), some (.ref (227 + 1)), some (.ref (227 + 2)), some (.int g), some (.int v), some (.int (nI (na c 3))), some (.int (nI what)), some (.int (nI t)), some (.int (nI (na c (39 + 12 * t)))), none, none, none] [] μ Y := by
  have h6 := hw.1.t6
  refine pw_iload dL_act_803 rfl ?_
  refine pw_iconst_ (v := nI 3) dL_act_805 (by decide) ?_
  refine pl_callS (k' := Y.length) (z' := kv_sum Y) (As := [.int v, .int (nI 3)]) (st := []) dL_act_806 cs_L_49 rfl (Nat.le_of_ble_eq_true rfl) (Nat.le_of_ble_eq_true rfl) ⟨Nat.le_refl _, (by omega)⟩ ⟨Nat.le_refl _, (by omega)⟩ ?_
  refine l_low (by decide) (by decide) ?_
  have hlw := lwN_lt (x := v) (n := 3) (by decide)
  obtain ⟨w, hew⟩ : ∃ w, w = lwN v 3 := ⟨_, rfl⟩
  rw [← hew] at hlw ⊢
  show PL l E D cA Y.length (kv_sum Y) mL_act (d + 8) fin 809 [some (.ref 0), some (.ref (227 + 0)), some (.ref (227 + 1)), some (.ref (227 + 2)), some (.int g), some (.int v), some (.int (nI (na c 3))), some (.int (nI what)), some (.int (nI t)), some (.int (nI (na c (39 + 12 * t)))), none, none, none] [.int (nI w)] μ Y
  rcases (show w = 0 ∨ w = 1 ∨ w = 2 by omega) with hw0 | hw0 | hw0
  · rw [hw0]
    show PL l E D cA Y.length (kv_sum Y) mL_act (d + 8) fin 809 [some (.ref 0), some (.ref (227 + 0)), some (.ref (227 + 1)), some (.ref (227 + 2)), some (.int g), some (.int v), some (.int (nI (na c 3))), some (.int (nI what)), some (.int (nI t)), some (.int (nI (na c (39 + 12 * t)))), none, none, none] [.int (nI 0)] μ Y
    refine px_istore (ls' := [some (.ref 0), some (.ref (227 + 0)), some (.ref (227 + 1)), some (.ref (227 + 2)), some (.int g), some (.int v), some (.int (nI (na c 3))), some (.int (nI what)), some (.int (nI t)), some (.int (nI (na c (39 + 12 * t)))), some (.int (nI 0)), none, none]) dL_act_809 rfl rfl (by decide) ?_
    refine pw_iload dL_act_811 rfl ?_
    refine pw_iconst_ (v := nI 2) dL_act_813 (by decide) ?_
    refine pn_ne (tgt := 830) dL_act_814 (by decide) (by omega) (by omega) (fun _ => ?_) (fun h9 => absurd h9 (by decide))
    refine pw_iload dL_act_830 rfl ?_
    refine pw_iconst_ (v := nI 2) dL_act_832 (by decide) ?_
    refine pw_ishr dL_act_833 ?_
    refine pw_iload dL_act_834 rfl ?_
    refine pw_if_ne (tgt := 844) dL_act_836 (by decide) (fun h9 => absurd rfl h9) (fun _ => ?_)
    refine pw_bipush (v := nI 51) dL_act_839 (by decide) ?_
    refine pw_goto (tgt := 847) dL_act_841 (by decide) ?_
    refine pl_callS (k' := Y.length) (z' := kv_sum Y) (As := [.int (v >>> ((nI 2) &&& 31)), .int (nI 51)]) (st := []) dL_act_847 cs_L_49 rfl (Nat.le_of_ble_eq_true rfl) (Nat.le_of_ble_eq_true rfl) ⟨Nat.le_refl _, (by omega)⟩ ⟨Nat.le_refl _, (by omega)⟩ ?_
    refine l_low (by decide) (by decide) ?_
    have hlq := lwN_lt (x := v >>> (nI 2 &&& 31)) (n := 51) (by decide)
    obtain ⟨q, heq⟩ : ∃ q, q = lwN (v >>> (nI 2 &&& 31)) 51 := ⟨_, rfl⟩
    rw [← heq] at hlq ⊢
    show PL l E D cA Y.length (kv_sum Y) mL_act (d + 8) fin 850 [some (.ref 0), some (.ref (227 + 0)), some (.ref (227 + 1)), some (.ref (227 + 2)), some (.int g), some (.int v), some (.int (nI (na c 3))), some (.int (nI what)), some (.int (nI t)), some (.int (nI (na c (39 + 12 * t)))), some (.int (nI 0)), none, none] [.int (nI q)] μ Y
    refine px_istore (ls' := [some (.ref 0), some (.ref (227 + 0)), some (.ref (227 + 1)), some (.ref (227 + 2)), some (.int g), some (.int v), some (.int (nI (na c 3))), some (.int (nI what)), some (.int (nI t)), some (.int (nI (na c (39 + 12 * t)))), some (.int (nI 0)), some (.int (nI q)), none]) dL_act_850 rfl rfl (by decide) ?_
    refine pw_aload_n dL_act_852 rfl ?_
    refine pw_iload dL_act_853 rfl ?_
    refine pl_callV (b := 0) (As := [.int (nI 0)]) (st := []) dL_act_855 cv_L_24 rfl ⟨by decide, by decide +kernel⟩ (Nat.le_of_ble_eq_true rfl) (Nat.le_of_ble_eq_true rfl) (by omega) (by omega) ?_
    refine l_count (x := nI (na c 0)) hw hx (by decide) rfl (fun ν1 hx1 => ?_)
    show PL l E D cA Y.length (kv_sum Y) mL_act (d + 8) fin 858 [some (.ref 0), some (.ref (227 + 0)), some (.ref (227 + 1)), some (.ref (227 + 2)), some (.int g), some (.int v), some (.int (nI (na c 3))), some (.int (nI what)), some (.int (nI t)), some (.int (nI (na c (39 + 12 * t)))), some (.int (nI 0)), some (.int (nI q)), none] [.int (nI (na c 0))] ν1 Y
    refine px_istore (ls' := [some (.ref 0), some (.ref (227 + 0)), some (.ref (227 + 1)), some (.ref (227 + 2)), some (.int g), some (.int v), some (.int (nI (na c 3))), some (.int (nI what)), some (.int (nI t)), some (.int (nI (na c (39 + 12 * t)))), some (.int (nI 0)), some (.int (nI q)), some (.int (nI (na c 0)))]) dL_act_858 rfl rfl (by decide) ?_
    refine pw_aload_n dL_act_860 rfl ?_
    refine pw_iload dL_act_861 rfl ?_
    refine pw_iload dL_act_863 rfl ?_
    have eν2 : o_set c (nI 0) (nI q) = (nI (na c 0), cnow (crec c) (up1 (na c) 0 q)) := by unfold o_set; rw [if_pos (inR_nI (by omega) (by decide)), iN_nI (by decide), if_pos (set_ok (by show 0 ≤ q; omega) (by show q ≤ 50; omega) (by decide)), iN_nI (show q < 2 ^ 31 by omega)]
    refine pl_callV (b := 0) (As := [.int (nI 0), .int (nI q)]) (st := []) dL_act_865 cv_L_98 rfl ⟨by decide, by decide +kernel⟩ (Nat.le_of_ble_eq_true rfl) (Nat.le_of_ble_eq_true rfl) (by omega) (by omega) ?_
    refine x_set hw hx1 hE (fun ν2 hν2 _ => ?_)
    rw [eν2] at hν2 ⊢
    replace hν2 : CX ν2 (cnow (crec c) (up1 (na c) 0 q)) := hν2
    have wν2 : CW (o_set c (nI 0) (nI q)).2 := w_set hw
    rw [eν2] at wν2
    replace wν2 : CW (cnow (crec c) (up1 (na c) 0 q)) := wν2
    show PL l E D cA Y.length (kv_sum Y) mL_act (d + 8) fin 868 [some (.ref 0), some (.ref (227 + 0)), some (.ref (227 + 1)), some (.ref (227 + 2)), some (.int g), some (.int v), some (.int (nI (na c 3))), some (.int (nI what)), some (.int (nI t)), some (.int (nI (na c (39 + 12 * t)))), some (.int (nI 0)), some (.int (nI q)), some (.int (nI (na c 0)))] [.int (nI (na c 0))] ν2 Y
    generalize hcν2 : cnow (crec c) (up1 (na c) 0 q) = cν2 at hν2 wν2
    have haν2 : na cν2 = up1 (na c) 0 q := by rw [← hcν2]; rfl
    refine pw_iload dL_act_868 rfl ?_
    refine pw_icmp_ne (tgt := 888) dL_act_870 (by decide) (fun h9 => absurd rfl h9) (fun _ => ?_)
    refine pw_aload_n dL_act_873 rfl ?_
    refine pw_iload dL_act_874 rfl ?_
    refine pl_callV (b := 0) (As := [.int (nI 0)]) (st := []) dL_act_876 cv_L_24 rfl ⟨by decide, by decide +kernel⟩ (Nat.le_of_ble_eq_true rfl) (Nat.le_of_ble_eq_true rfl) (by omega) (by omega) ?_
    refine l_count (x := nI q) wν2 hν2 (by decide) (by show nI (na cν2 0) = _; rw [haν2, up1_s]) (fun ν2 hx2 => ?_)
    show PL l E D cA Y.length (kv_sum Y) mL_act (d + 8) fin 879 [some (.ref 0), some (.ref (227 + 0)), some (.ref (227 + 1)), some (.ref (227 + 2)), some (.int g), some (.int v), some (.int (nI (na c 3))), some (.int (nI what)), some (.int (nI t)), some (.int (nI (na c (39 + 12 * t)))), some (.int (nI 0)), some (.int (nI q)), some (.int (nI (na c 0)))] [.int (nI q)] ν2 Y
    refine pw_iload dL_act_879 rfl ?_
    refine pw_icmp_ne (tgt := 888) dL_act_881 (by decide) (fun h9 => absurd rfl h9) (fun _ => ?_)
    refine pw_iconst_ (v := nI 1) dL_act_884 (by decide) ?_
    refine pw_goto (tgt := 889) dL_act_885 (by decide) ?_
    exact pl_iret dL_act_889 rfl (by decide) rfl rfl (hf _ Y cν2 r h lo hx2 wν2 (by rw [haν2]; exact hG.cg hw.1 (up1_n (by omega)) (fun j hj => up1_n (by omega))) (by rw [haν2, up1_n (by omega)]) rfl rfl h0 h1 h2 (fun _ _ => rfl))
  · rw [hw0]
    show PL l E D cA Y.length (kv_sum Y) mL_act (d + 8) fin 809 [some (.ref 0), some (.ref (227 + 0)), some (.ref (227 + 1)), some (.ref (227 + 2)), some (.int g), some (.int v), some (.int (nI (na c 3))), some (.int (nI what)), some (.int (nI t)), some (.int (nI (na c (39 + 12 * t)))), none, none, none] [.int (nI 1)] μ Y
    refine px_istore (ls' := [some (.ref 0), some (.ref (227 + 0)), some (.ref (227 + 1)), some (.ref (227 + 2)), some (.int g), some (.int v), some (.int (nI (na c 3))), some (.int (nI what)), some (.int (nI t)), some (.int (nI (na c (39 + 12 * t)))), some (.int (nI 1)), none, none]) dL_act_809 rfl rfl (by decide) ?_
    refine pw_iload dL_act_811 rfl ?_
    refine pw_iconst_ (v := nI 2) dL_act_813 (by decide) ?_
    refine pn_ne (tgt := 830) dL_act_814 (by decide) (by omega) (by omega) (fun _ => ?_) (fun h9 => absurd h9 (by decide))
    refine pw_iload dL_act_830 rfl ?_
    refine pw_iconst_ (v := nI 2) dL_act_832 (by decide) ?_
    refine pw_ishr dL_act_833 ?_
    refine pw_iload dL_act_834 rfl ?_
    refine pw_if_ne (tgt := 844) dL_act_836 (by decide) (fun _ => ?_) (fun h9 => absurd h9 (by decide))
    refine pw_sipush (v := nI 501) dL_act_844 (by decide) ?_
    refine pl_callS (k' := Y.length) (z' := kv_sum Y) (As := [.int (v >>> ((nI 2) &&& 31)), .int (nI 501)]) (st := []) dL_act_847 cs_L_49 rfl (Nat.le_of_ble_eq_true rfl) (Nat.le_of_ble_eq_true rfl) ⟨Nat.le_refl _, (by omega)⟩ ⟨Nat.le_refl _, (by omega)⟩ ?_
    refine l_low (by decide) (by decide) ?_
    have hlq := lwN_lt (x := v >>> (nI 2 &&& 31)) (n := 501) (by decide)
    obtain ⟨q, heq⟩ : ∃ q, q = lwN (v >>> (nI 2 &&& 31)) 501 := ⟨_, rfl⟩
    rw [← heq] at hlq ⊢
    show PL l E D cA Y.length (kv_sum Y) mL_act (d + 8) fin 850 [some (.ref 0), some (.ref (227 + 0)), some (.ref (227 + 1)), some (.ref (227 + 2)), some (.int g), some (.int v), some (.int (nI (na c 3))), some (.int (nI what)), some (.int (nI t)), some (.int (nI (na c (39 + 12 * t)))), some (.int (nI 1)), none, none] [.int (nI q)] μ Y
    refine px_istore (ls' := [some (.ref 0), some (.ref (227 + 0)), some (.ref (227 + 1)), some (.ref (227 + 2)), some (.int g), some (.int v), some (.int (nI (na c 3))), some (.int (nI what)), some (.int (nI t)), some (.int (nI (na c (39 + 12 * t)))), some (.int (nI 1)), some (.int (nI q)), none]) dL_act_850 rfl rfl (by decide) ?_
    refine pw_aload_n dL_act_852 rfl ?_
    refine pw_iload dL_act_853 rfl ?_
    refine pl_callV (b := 0) (As := [.int (nI 1)]) (st := []) dL_act_855 cv_L_24 rfl ⟨by decide, by decide +kernel⟩ (Nat.le_of_ble_eq_true rfl) (Nat.le_of_ble_eq_true rfl) (by omega) (by omega) ?_
    refine l_count (x := nI (na c 1)) hw hx (by decide) rfl (fun ν1 hx1 => ?_)
    show PL l E D cA Y.length (kv_sum Y) mL_act (d + 8) fin 858 [some (.ref 0), some (.ref (227 + 0)), some (.ref (227 + 1)), some (.ref (227 + 2)), some (.int g), some (.int v), some (.int (nI (na c 3))), some (.int (nI what)), some (.int (nI t)), some (.int (nI (na c (39 + 12 * t)))), some (.int (nI 1)), some (.int (nI q)), none] [.int (nI (na c 1))] ν1 Y
    refine px_istore (ls' := [some (.ref 0), some (.ref (227 + 0)), some (.ref (227 + 1)), some (.ref (227 + 2)), some (.int g), some (.int v), some (.int (nI (na c 3))), some (.int (nI what)), some (.int (nI t)), some (.int (nI (na c (39 + 12 * t)))), some (.int (nI 1)), some (.int (nI q)), some (.int (nI (na c 1)))]) dL_act_858 rfl rfl (by decide) ?_
    refine pw_aload_n dL_act_860 rfl ?_
    refine pw_iload dL_act_861 rfl ?_
    refine pw_iload dL_act_863 rfl ?_
    have eν2 : o_set c (nI 1) (nI q) = (nI (na c 1), cnow (crec c) (up1 (na c) 1 q)) := by unfold o_set; rw [if_pos (inR_nI (by omega) (by decide)), iN_nI (by decide), if_pos (set_ok (by show 0 ≤ q; omega) (by show q ≤ 500; omega) (by decide)), iN_nI (show q < 2 ^ 31 by omega)]
    refine pl_callV (b := 0) (As := [.int (nI 1), .int (nI q)]) (st := []) dL_act_865 cv_L_98 rfl ⟨by decide, by decide +kernel⟩ (Nat.le_of_ble_eq_true rfl) (Nat.le_of_ble_eq_true rfl) (by omega) (by omega) ?_
    refine x_set hw hx1 hE (fun ν2 hν2 _ => ?_)
    rw [eν2] at hν2 ⊢
    replace hν2 : CX ν2 (cnow (crec c) (up1 (na c) 1 q)) := hν2
    have wν2 : CW (o_set c (nI 1) (nI q)).2 := w_set hw
    rw [eν2] at wν2
    replace wν2 : CW (cnow (crec c) (up1 (na c) 1 q)) := wν2
    show PL l E D cA Y.length (kv_sum Y) mL_act (d + 8) fin 868 [some (.ref 0), some (.ref (227 + 0)), some (.ref (227 + 1)), some (.ref (227 + 2)), some (.int g), some (.int v), some (.int (nI (na c 3))), some (.int (nI what)), some (.int (nI t)), some (.int (nI (na c (39 + 12 * t)))), some (.int (nI 1)), some (.int (nI q)), some (.int (nI (na c 1)))] [.int (nI (na c 1))] ν2 Y
    generalize hcν2 : cnow (crec c) (up1 (na c) 1 q) = cν2 at hν2 wν2
    have haν2 : na cν2 = up1 (na c) 1 q := by rw [← hcν2]; rfl
    refine pw_iload dL_act_868 rfl ?_
    refine pw_icmp_ne (tgt := 888) dL_act_870 (by decide) (fun h9 => absurd rfl h9) (fun _ => ?_)
    refine pw_aload_n dL_act_873 rfl ?_
    refine pw_iload dL_act_874 rfl ?_
    refine pl_callV (b := 0) (As := [.int (nI 1)]) (st := []) dL_act_876 cv_L_24 rfl ⟨by decide, by decide +kernel⟩ (Nat.le_of_ble_eq_true rfl) (Nat.le_of_ble_eq_true rfl) (by omega) (by omega) ?_
    refine l_count (x := nI q) wν2 hν2 (by decide) (by show nI (na cν2 1) = _; rw [haν2, up1_s]) (fun ν2 hx2 => ?_)
    show PL l E D cA Y.length (kv_sum Y) mL_act (d + 8) fin 879 [some (.ref 0), some (.ref (227 + 0)), some (.ref (227 + 1)), some (.ref (227 + 2)), some (.int g), some (.int v), some (.int (nI (na c 3))), some (.int (nI what)), some (.int (nI t)), some (.int (nI (na c (39 + 12 * t)))), some (.int (nI 1)), some (.int (nI q)), some (.int (nI (na c 1)))] [.int (nI q)] ν2 Y
    refine pw_iload dL_act_879 rfl ?_
    refine pw_icmp_ne (tgt := 888) dL_act_881 (by decide) (fun h9 => absurd rfl h9) (fun _ => ?_)
    refine pw_iconst_ (v := nI 1) dL_act_884 (by decide) ?_
    refine pw_goto (tgt := 889) dL_act_885 (by decide) ?_
    exact pl_iret dL_act_889 rfl (by decide) rfl rfl (hf _ Y cν2 r h lo hx2 wν2 (by rw [haν2]; exact hG.cg hw.1 (up1_n (by omega)) (fun j hj => up1_n (by omega))) (by rw [haν2, up1_n (by omega)]) rfl rfl h0 h1 h2 (fun _ _ => rfl))
  · rw [hw0]
    show PL l E D cA Y.length (kv_sum Y) mL_act (d + 8) fin 809 [some (.ref 0), some (.ref (227 + 0)), some (.ref (227 + 1)), some (.ref (227 + 2)), some (.int g), some (.int v), some (.int (nI (na c 3))), some (.int (nI what)), some (.int (nI t)), some (.int (nI (na c (39 + 12 * t)))), none, none, none] [.int (nI 2)] μ Y
    refine px_istore (ls' := [some (.ref 0), some (.ref (227 + 0)), some (.ref (227 + 1)), some (.ref (227 + 2)), some (.int g), some (.int v), some (.int (nI (na c 3))), some (.int (nI what)), some (.int (nI t)), some (.int (nI (na c (39 + 12 * t)))), some (.int (nI 2)), none, none]) dL_act_809 rfl rfl (by decide) ?_
    refine pw_iload dL_act_811 rfl ?_
    refine pw_iconst_ (v := nI 2) dL_act_813 (by decide) ?_
    refine pn_ne (tgt := 830) dL_act_814 (by decide) (by omega) (by omega) (fun h9 => absurd rfl h9) (fun _ => ?_)
    refine pw_iconst_ (v := nI 1) dL_act_817 (by decide) ?_
    refine pw_iload dL_act_818 rfl ?_
    refine pw_iconst_ (v := nI 2) dL_act_820 (by decide) ?_
    refine pw_ishr dL_act_821 ?_
    refine pw_iconst_ (v := nI 5) dL_act_822 (by decide) ?_
    refine pl_callS (k' := Y.length) (z' := kv_sum Y) (As := [.int (v >>> ((nI 2) &&& 31)), .int (nI 5)]) (st := [.int (nI 1)]) dL_act_823 cs_L_49 rfl (Nat.le_of_ble_eq_true rfl) (Nat.le_of_ble_eq_true rfl) ⟨Nat.le_refl _, (by omega)⟩ ⟨Nat.le_refl _, (by omega)⟩ ?_
    refine l_low (by decide) (by decide) ?_
    have hlm := lwN_lt (x := v >>> (nI 2 &&& 31)) (n := 5) (by decide)
    obtain ⟨m, hem⟩ : ∃ m, m = lwN (v >>> (nI 2 &&& 31)) 5 := ⟨_, rfl⟩
    rw [← hem] at hlm ⊢
    show PL l E D cA Y.length (kv_sum Y) mL_act (d + 8) fin 826 [some (.ref 0), some (.ref (227 + 0)), some (.ref (227 + 1)), some (.ref (227 + 2)), some (.int g), some (.int v), some (.int (nI (na c 3))), some (.int (nI what)), some (.int (nI t)), some (.int (nI (na c (39 + 12 * t)))), some (.int (nI 2)), none, none] [.int (nI m), .int (nI 1)] μ Y
    obtain ⟨q, hq, hq1, hq2⟩ : ∃ q, q = 1 + m ∧ 1 ≤ q ∧ q ≤ 5 := ⟨_, rfl, by omega, by omega⟩
    refine px_iaddn (c := q) dL_act_826 hq.symm ?_
    refine pw_goto (tgt := 850) dL_act_827 (by decide) ?_
    refine px_istore (ls' := [some (.ref 0), some (.ref (227 + 0)), some (.ref (227 + 1)), some (.ref (227 + 2)), some (.int g), some (.int v), some (.int (nI (na c 3))), some (.int (nI what)), some (.int (nI t)), some (.int (nI (na c (39 + 12 * t)))), some (.int (nI 2)), some (.int (nI q)), none]) dL_act_850 rfl rfl (by decide) ?_
    refine pw_aload_n dL_act_852 rfl ?_
    refine pw_iload dL_act_853 rfl ?_
    refine pl_callV (b := 0) (As := [.int (nI 2)]) (st := []) dL_act_855 cv_L_24 rfl ⟨by decide, by decide +kernel⟩ (Nat.le_of_ble_eq_true rfl) (Nat.le_of_ble_eq_true rfl) (by omega) (by omega) ?_
    refine l_count (x := nI (na c 2)) hw hx (by decide) rfl (fun ν1 hx1 => ?_)
    show PL l E D cA Y.length (kv_sum Y) mL_act (d + 8) fin 858 [some (.ref 0), some (.ref (227 + 0)), some (.ref (227 + 1)), some (.ref (227 + 2)), some (.int g), some (.int v), some (.int (nI (na c 3))), some (.int (nI what)), some (.int (nI t)), some (.int (nI (na c (39 + 12 * t)))), some (.int (nI 2)), some (.int (nI q)), none] [.int (nI (na c 2))] ν1 Y
    refine px_istore (ls' := [some (.ref 0), some (.ref (227 + 0)), some (.ref (227 + 1)), some (.ref (227 + 2)), some (.int g), some (.int v), some (.int (nI (na c 3))), some (.int (nI what)), some (.int (nI t)), some (.int (nI (na c (39 + 12 * t)))), some (.int (nI 2)), some (.int (nI q)), some (.int (nI (na c 2)))]) dL_act_858 rfl rfl (by decide) ?_
    refine pw_aload_n dL_act_860 rfl ?_
    refine pw_iload dL_act_861 rfl ?_
    refine pw_iload dL_act_863 rfl ?_
    have eν2 : o_set c (nI 2) (nI q) = (nI (na c 2), cnow (crec c) (up1 (na c) 2 q)) := by unfold o_set; rw [if_pos (inR_nI (by omega) (by decide)), iN_nI (by decide), if_pos (set_ok (by show 1 ≤ q; omega) (by show q ≤ 5; omega) (by decide)), iN_nI (show q < 2 ^ 31 by omega)]
    refine pl_callV (b := 0) (As := [.int (nI 2), .int (nI q)]) (st := []) dL_act_865 cv_L_98 rfl ⟨by decide, by decide +kernel⟩ (Nat.le_of_ble_eq_true rfl) (Nat.le_of_ble_eq_true rfl) (by omega) (by omega) ?_
    refine x_set hw hx1 hE (fun ν2 hν2 _ => ?_)
    rw [eν2] at hν2 ⊢
    replace hν2 : CX ν2 (cnow (crec c) (up1 (na c) 2 q)) := hν2
    have wν2 : CW (o_set c (nI 2) (nI q)).2 := w_set hw
    rw [eν2] at wν2
    replace wν2 : CW (cnow (crec c) (up1 (na c) 2 q)) := wν2
    show PL l E D cA Y.length (kv_sum Y) mL_act (d + 8) fin 868 [some (.ref 0), some (.ref (227 + 0)), some (.ref (227 + 1)), some (.ref (227 + 2)), some (.int g), some (.int v), some (.int (nI (na c 3))), some (.int (nI what)), some (.int (nI t)), some (.int (nI (na c (39 + 12 * t)))), some (.int (nI 2)), some (.int (nI q)), some (.int (nI (na c 2)))] [.int (nI (na c 2))] ν2 Y
    generalize hcν2 : cnow (crec c) (up1 (na c) 2 q) = cν2 at hν2 wν2
    have haν2 : na cν2 = up1 (na c) 2 q := by rw [← hcν2]; rfl
    refine pw_iload dL_act_868 rfl ?_
    refine pw_icmp_ne (tgt := 888) dL_act_870 (by decide) (fun h9 => absurd rfl h9) (fun _ => ?_)
    refine pw_aload_n dL_act_873 rfl ?_
    refine pw_iload dL_act_874 rfl ?_
    refine pl_callV (b := 0) (As := [.int (nI 2)]) (st := []) dL_act_876 cv_L_24 rfl ⟨by decide, by decide +kernel⟩ (Nat.le_of_ble_eq_true rfl) (Nat.le_of_ble_eq_true rfl) (by omega) (by omega) ?_
    refine l_count (x := nI q) wν2 hν2 (by decide) (by show nI (na cν2 2) = _; rw [haν2, up1_s]) (fun ν2 hx2 => ?_)
    show PL l E D cA Y.length (kv_sum Y) mL_act (d + 8) fin 879 [some (.ref 0), some (.ref (227 + 0)), some (.ref (227 + 1)), some (.ref (227 + 2)), some (.int g), some (.int v), some (.int (nI (na c 3))), some (.int (nI what)), some (.int (nI t)), some (.int (nI (na c (39 + 12 * t)))), some (.int (nI 2)), some (.int (nI q)), some (.int (nI (na c 2)))] [.int (nI q)] ν2 Y
    refine pw_iload dL_act_879 rfl ?_
    refine pw_icmp_ne (tgt := 888) dL_act_881 (by decide) (fun h9 => absurd rfl h9) (fun _ => ?_)
    refine pw_iconst_ (v := nI 1) dL_act_884 (by decide) ?_
    refine pw_goto (tgt := 889) dL_act_885 (by decide) ?_
    exact pl_iret dL_act_889 rfl (by decide) rfl rfl (hf _ Y cν2 r h lo hx2 wν2 (by rw [haν2]; exact hG.cg hw.1 (up1_n (by omega)) (fun j hj => up1_n (by omega))) (by rw [haν2, up1_n (by omega)]) rfl rfl h0 h1 h2 (fun _ _ => rfl))
set_option maxRecDepth 100000 in
set_option maxHeartbeats 4000000 in
theorem a_place {c : CS} (hw : CW c) (hx : CX μ c) {r h lo : Nat → Int32} (h0 : Y[0]? = some (yr r 48)) (h1 : Y[1]? = some (yr h 6)) (h2 : Y[2]? = some (yr lo 6)) (hG : GI (na c) r h lo) {g v : Int32} {t : Nat} (ht : t < na c 3) {what : Nat} (hf : ∀ (ν : Mu) (Y' : List PE) (c2 : CS) (r2 hh2 lo2 : Nat → Int32), CX ν c2 → CW c2 → GI (na c2) r2 hh2 lo2 → na c2 3 = na c 3 → Y'.length = Y.length → kv_sum Y' = kv_sum Y → Y'[0]? = some (yr r2 48) → Y'[1]? = some (yr hh2 6) → Y'[2]? = some (yr lo2 6) → (∀ q, 3 ≤ q → Y'[q]? = Y[q]?) → fin (some (.int (nI 1))) ν Y') : PL l E D cA Y.length (kv_sum Y) mL_act (d + 8) fin 890 [some (.ref 0), some (.ref (227 + 0)), some (.ref (227 + 1)), some (.ref (227 + 2)), some (.int g), some (.int v), some (.int (nI (na c 3))), some (.int (nI what)), some (.int (nI t)), some (.int (nI (na c (39 + 12 * t)))), none, none, none] [] μ Y := by
  have h6 := hw.1.t6
  refine pw_iload dL_act_890 rfl ?_
  refine pw_bipush (v := nI 8) dL_act_892 (by decide) ?_
  refine pl_callS (k' := Y.length) (z' := kv_sum Y) (As := [.int v, .int (nI 8)]) (st := []) dL_act_894 cs_L_49 rfl (Nat.le_of_ble_eq_true rfl) (Nat.le_of_ble_eq_true rfl) ⟨Nat.le_refl _, (by omega)⟩ ⟨Nat.le_refl _, (by omega)⟩ ?_
  refine l_low (by decide) (by decide) ?_
  have hlp := lwN_lt (x := v) (n := 8) (by decide)
  obtain ⟨p, hep⟩ : ∃ p, p = lwN v 8 := ⟨_, rfl⟩
  rw [← hep] at hlp ⊢
  show PL l E D cA Y.length (kv_sum Y) mL_act (d + 8) fin 897 [some (.ref 0), some (.ref (227 + 0)), some (.ref (227 + 1)), some (.ref (227 + 2)), some (.int g), some (.int v), some (.int (nI (na c 3))), some (.int (nI what)), some (.int (nI t)), some (.int (nI (na c (39 + 12 * t)))), none, none, none] [.int (nI p)] μ Y
  refine px_istore (ls' := [some (.ref 0), some (.ref (227 + 0)), some (.ref (227 + 1)), some (.ref (227 + 2)), some (.int g), some (.int v), some (.int (nI (na c 3))), some (.int (nI what)), some (.int (nI t)), some (.int (nI (na c (39 + 12 * t)))), some (.int (nI p)), none, none]) dL_act_897 rfl rfl (by decide) ?_
  refine pw_aload_n dL_act_899 rfl ?_
  refine pw_iload dL_act_900 rfl ?_
  refine pw_iconst_ (v := nI 2) dL_act_902 (by decide) ?_
  refine pl_callV (b := 0) (As := [.int (nI p), .int (nI 2)]) (st := []) dL_act_903 cv_L_15 rfl ⟨by decide, by decide +kernel⟩ (Nat.le_of_ble_eq_true rfl) (Nat.le_of_ble_eq_true rfl) (by omega) (by omega) ?_
  refine l_placeOf (x := nI (na c (6 + 4 * p))) hw hx hlp (by decide) rfl (fun ν1 hx1 => ?_)
  show PL l E D cA Y.length (kv_sum Y) mL_act (d + 8) fin 906 [some (.ref 0), some (.ref (227 + 0)), some (.ref (227 + 1)), some (.ref (227 + 2)), some (.int g), some (.int v), some (.int (nI (na c 3))), some (.int (nI what)), some (.int (nI t)), some (.int (nI (na c (39 + 12 * t)))), some (.int (nI p)), none, none] [.int (nI (na c (6 + 4 * p)))] ν1 Y
  refine px_istore (ls' := [some (.ref 0), some (.ref (227 + 0)), some (.ref (227 + 1)), some (.ref (227 + 2)), some (.int g), some (.int v), some (.int (nI (na c 3))), some (.int (nI what)), some (.int (nI t)), some (.int (nI (na c (39 + 12 * t)))), some (.int (nI p)), some (.int (nI (na c (6 + 4 * p)))), none]) dL_act_906 rfl rfl (by decide) ?_
  refine pw_iconst_ (v := nI 1) dL_act_908 (by decide) ?_
  refine pw_iload dL_act_909 rfl ?_
  refine pw_bipush (v := nI 13) dL_act_911 (by decide) ?_
  refine pw_ishr dL_act_913 ?_
  refine pw_bipush (v := nI 15) dL_act_914 (by decide) ?_
  refine pl_callS (k' := Y.length) (z' := kv_sum Y) (As := [.int (v >>> ((nI 13) &&& 31)), .int (nI 15)]) (st := [.int (nI 1)]) dL_act_916 cs_L_49 rfl (Nat.le_of_ble_eq_true rfl) (Nat.le_of_ble_eq_true rfl) ⟨Nat.le_refl _, (by omega)⟩ ⟨Nat.le_refl _, (by omega)⟩ ?_
  refine l_low (by decide) (by decide) ?_
  have hlk := lwN_lt (x := v >>> (nI 13 &&& 31)) (n := 15) (by decide)
  obtain ⟨k, hek⟩ : ∃ k, k = lwN (v >>> (nI 13 &&& 31)) 15 := ⟨_, rfl⟩
  rw [← hek] at hlk ⊢
  show PL l E D cA Y.length (kv_sum Y) mL_act (d + 8) fin 919 [some (.ref 0), some (.ref (227 + 0)), some (.ref (227 + 1)), some (.ref (227 + 2)), some (.int g), some (.int v), some (.int (nI (na c 3))), some (.int (nI what)), some (.int (nI t)), some (.int (nI (na c (39 + 12 * t)))), some (.int (nI p)), some (.int (nI (na c (6 + 4 * p)))), none] [.int (nI k), .int (nI 1)] ν1 Y
  obtain ⟨q, hq, hq1, hq2⟩ : ∃ q, q = 1 + k ∧ 1 ≤ q ∧ q ≤ 15 := ⟨_, rfl, by omega, by omega⟩
  refine px_iaddn (c := q) dL_act_919 hq.symm ?_
  refine px_istore (ls' := [some (.ref 0), some (.ref (227 + 0)), some (.ref (227 + 1)), some (.ref (227 + 2)), some (.int g), some (.int v), some (.int (nI (na c 3))), some (.int (nI what)), some (.int (nI t)), some (.int (nI (na c (39 + 12 * t)))), some (.int (nI p)), some (.int (nI (na c (6 + 4 * p)))), some (.int (nI q))]) dL_act_920 rfl rfl (by decide) ?_
  refine pw_aload_n dL_act_922 rfl ?_
  refine pw_iload dL_act_923 rfl ?_
  refine pw_iload dL_act_925 rfl ?_
  refine pw_iconst_ (v := nI 3) dL_act_927 (by decide) ?_
  refine pw_ishr dL_act_928 ?_
  refine pw_bipush (v := nI 21) dL_act_929 (by decide) ?_
  refine pl_callS (k' := Y.length) (z' := kv_sum Y) (As := [.int (v >>> ((nI 3) &&& 31)), .int (nI 21)]) (st := [.int (nI p), .ref 0]) dL_act_931 cs_L_49 rfl (Nat.le_of_ble_eq_true rfl) (Nat.le_of_ble_eq_true rfl) ⟨Nat.le_refl _, (by omega)⟩ ⟨Nat.le_refl _, (by omega)⟩ ?_
  refine l_low (by decide) (by decide) ?_
  have hlx := lwN_lt (x := v >>> (nI 3 &&& 31)) (n := 21) (by decide)
  obtain ⟨x, hex⟩ : ∃ x, x = lwN (v >>> (nI 3 &&& 31)) 21 := ⟨_, rfl⟩
  rw [← hex] at hlx ⊢
  show PL l E D cA Y.length (kv_sum Y) mL_act (d + 8) fin 934 [some (.ref 0), some (.ref (227 + 0)), some (.ref (227 + 1)), some (.ref (227 + 2)), some (.int g), some (.int v), some (.int (nI (na c 3))), some (.int (nI what)), some (.int (nI t)), some (.int (nI (na c (39 + 12 * t)))), some (.int (nI p)), some (.int (nI (na c (6 + 4 * p)))), some (.int (nI q))] [.int (nI x), .int (nI p), .ref 0] ν1 Y
  refine pw_iload dL_act_934 rfl ?_
  refine pw_bipush (v := nI 8) dL_act_936 (by decide) ?_
  refine pw_ishr dL_act_938 ?_
  refine pw_bipush (v := nI 21) dL_act_939 (by decide) ?_
  refine pl_callS (k' := Y.length) (z' := kv_sum Y) (As := [.int (v >>> ((nI 8) &&& 31)), .int (nI 21)]) (st := [.int (nI x), .int (nI p), .ref 0]) dL_act_941 cs_L_49 rfl (Nat.le_of_ble_eq_true rfl) (Nat.le_of_ble_eq_true rfl) ⟨Nat.le_refl _, (by omega)⟩ ⟨Nat.le_refl _, (by omega)⟩ ?_
  refine l_low (by decide) (by decide) ?_
  have hly := lwN_lt (x := v >>> (nI 8 &&& 31)) (n := 21) (by decide)
  obtain ⟨y, hey⟩ : ∃ y, y = lwN (v >>> (nI 8 &&& 31)) 21 := ⟨_, rfl⟩
  rw [← hey] at hly ⊢
  show PL l E D cA Y.length (kv_sum Y) mL_act (d + 8) fin 944 [some (.ref 0), some (.ref (227 + 0)), some (.ref (227 + 1)), some (.ref (227 + 2)), some (.int g), some (.int v), some (.int (nI (na c 3))), some (.int (nI what)), some (.int (nI t)), some (.int (nI (na c (39 + 12 * t)))), some (.int (nI p)), some (.int (nI (na c (6 + 4 * p)))), some (.int (nI q))] [.int (nI y), .int (nI x), .int (nI p), .ref 0] ν1 Y
  refine pw_iload dL_act_944 rfl ?_
  have eν2 : o_place c (nI p) (nI x) (nI y) (nI q) = (nI (na c (6 + 4 * p)), cnow (crec c) (up1 (up1 (up1 (na c) (4 + 4 * p) x) (5 + 4 * p) y) (6 + 4 * p) q)) := by unfold o_place; rw [if_pos (inR_nI (show p ≤ 7 by omega) (by decide)), if_pos (inR_nI (show x ≤ 20 by omega) (by decide)), if_pos (inR_nI (show y ≤ 20 by omega) (by decide)), if_pos (by rw [nI_ltI (by omega) (by decide), nI_ltI (by decide) (by omega)]; omega), iN_nI (show p < 2 ^ 31 by omega), iN_nI (show x < 2 ^ 31 by omega), iN_nI (show y < 2 ^ 31 by omega), iN_nI (show q < 2 ^ 31 by omega)]
  refine pl_callV (b := 0) (As := [.int (nI p), .int (nI x), .int (nI y), .int (nI q)]) (st := []) dL_act_946 cv_L_101 rfl ⟨by decide, by decide +kernel⟩ (Nat.le_of_ble_eq_true rfl) (Nat.le_of_ble_eq_true rfl) (by omega) (by omega) ?_
  refine x_place hw hx1 (fun ν2 hν2 _ => ?_)
  rw [eν2] at hν2 ⊢
  replace hν2 : CX ν2 (cnow (crec c) (up1 (up1 (up1 (na c) (4 + 4 * p) x) (5 + 4 * p) y) (6 + 4 * p) q)) := hν2
  have wν2 : CW (o_place c (nI p) (nI x) (nI y) (nI q)).2 := w_place hw
  rw [eν2] at wν2
  replace wν2 : CW (cnow (crec c) (up1 (up1 (up1 (na c) (4 + 4 * p) x) (5 + 4 * p) y) (6 + 4 * p) q)) := wν2
  show PL l E D cA Y.length (kv_sum Y) mL_act (d + 8) fin 949 [some (.ref 0), some (.ref (227 + 0)), some (.ref (227 + 1)), some (.ref (227 + 2)), some (.int g), some (.int v), some (.int (nI (na c 3))), some (.int (nI what)), some (.int (nI t)), some (.int (nI (na c (39 + 12 * t)))), some (.int (nI p)), some (.int (nI (na c (6 + 4 * p)))), some (.int (nI q))] [.int (nI (na c (6 + 4 * p)))] ν2 Y
  generalize hcν2 : cnow (crec c) (up1 (up1 (up1 (na c) (4 + 4 * p) x) (5 + 4 * p) y) (6 + 4 * p) q) = cν2 at hν2 wν2
  have haν2 : na cν2 = up1 (up1 (up1 (na c) (4 + 4 * p) x) (5 + 4 * p) y) (6 + 4 * p) q := by rw [← hcν2]; rfl
  refine pw_iload dL_act_949 rfl ?_
  refine pw_icmp_ne (tgt := 970) dL_act_951 (by decide) (fun h9 => absurd rfl h9) (fun _ => ?_)
  refine pw_aload_n dL_act_954 rfl ?_
  refine pw_iload dL_act_955 rfl ?_
  refine pw_iconst_ (v := nI 2) dL_act_957 (by decide) ?_
  refine pl_callV (b := 0) (As := [.int (nI p), .int (nI 2)]) (st := []) dL_act_958 cv_L_15 rfl ⟨by decide, by decide +kernel⟩ (Nat.le_of_ble_eq_true rfl) (Nat.le_of_ble_eq_true rfl) (by omega) (by omega) ?_
  refine l_placeOf (x := nI q) wν2 hν2 hlp (by decide) (by show nI (na cν2 (6 + 4 * p)) = _; rw [haν2, up1_s]) (fun ν2 hx2 => ?_)
  show PL l E D cA Y.length (kv_sum Y) mL_act (d + 8) fin 961 [some (.ref 0), some (.ref (227 + 0)), some (.ref (227 + 1)), some (.ref (227 + 2)), some (.int g), some (.int v), some (.int (nI (na c 3))), some (.int (nI what)), some (.int (nI t)), some (.int (nI (na c (39 + 12 * t)))), some (.int (nI p)), some (.int (nI (na c (6 + 4 * p)))), some (.int (nI q))] [.int (nI q)] ν2 Y
  refine pw_iload dL_act_961 rfl ?_
  refine pw_icmp_ne (tgt := 970) dL_act_963 (by decide) (fun h9 => absurd rfl h9) (fun _ => ?_)
  refine pw_iconst_ (v := nI 1) dL_act_966 (by decide) ?_
  refine pw_goto (tgt := 971) dL_act_967 (by decide) ?_
  exact pl_iret dL_act_971 rfl (by decide) rfl rfl (hf _ Y cν2 r h lo hx2 wν2 (by rw [haν2]; exact hG.cg hw.1 (by rw [up1_n (by omega), up1_n (by omega), up1_n (by omega)]) (fun j hj => by rw [up1_n (by omega), up1_n (by omega), up1_n (by omega)])) (by rw [haν2, up1_n (by omega), up1_n (by omega), up1_n (by omega)]) rfl rfl h0 h1 h2 (fun _ _ => rfl))
end ACT
