/-! the law: an act -/
section ACT2
variable {l : Launch} {E : EV} {D : va_G} {cA : Nat → ClassId} {fin : Option Value → Mu → List PE → Prop} {μ : Mu} {Y : List PE} {d : Nat}
set_option maxRecDepth 100000 in
set_option maxHeartbeats 4000000 in
theorem a_team {c : CS} (hw : CW c) (hx : CX μ c) {r h lo : Nat → Int32} (h0 : Y[0]? = some (yr r 48)) (h1 : Y[1]? = some (yr h 6)) (h2 : Y[2]? = some (yr lo 6)) (hG : GI (na c) r h lo) {g v : Int32} {what : Nat} (hf : ∀ (ν : Mu) (Y' : List PE) (c2 : CS) (r2 hh2 lo2 : Nat → Int32), CX ν c2 → CW c2 → GI (na c2) r2 hh2 lo2 → na c2 3 = (if na c 3 = 6 then 6 else na c 3 + 1) → Y'.length = Y.length → kv_sum Y' = kv_sum Y → Y'[0]? = some (yr r2 48) → Y'[1]? = some (yr hh2 6) → Y'[2]? = some (yr lo2 6) → (∀ q, 3 ≤ q → Y'[q]? = Y[q]?) → fin (some (.int (nI 1))) ν Y') : PL l E D cA Y.length (kv_sum Y) mL_act (d + 8) fin 27 [some (.ref 0), some (.ref (227 + 0)), some (.ref (227 + 1)), some (.ref (227 + 2)), some (.int g), some (.int v), some (.int (nI (na c 3))), some (.int (nI what)), none, none, none, none, none] [] μ Y := by
  have h6 := hw.1.t6
  refine pw_iload dL_act_27 rfl ?_
  refine pw_iconst_ (v := nI 4) dL_act_29 (by decide) ?_
  refine pw_ishr dL_act_30 ?_
  refine pw_bipush (v := nI 60) dL_act_31 (by decide) ?_
  refine pl_callS (k' := Y.length) (z' := kv_sum Y) (As := [.int (g >>> ((nI 4) &&& 31)), .int (nI 60)]) (st := []) dL_act_33 cs_L_49 rfl (Nat.le_of_ble_eq_true rfl) (Nat.le_of_ble_eq_true rfl) ⟨Nat.le_refl _, (by omega)⟩ ⟨Nat.le_refl _, (by omega)⟩ ?_
  refine l_low (by decide) (by decide) ?_
  have hls := lwN_lt (x := g >>> (nI 4 &&& 31)) (n := 60) (by decide)
  obtain ⟨s, hes⟩ : ∃ s, s = lwN (g >>> (nI 4 &&& 31)) 60 := ⟨_, rfl⟩
  rw [← hes] at hls ⊢
  show PL l E D cA Y.length (kv_sum Y) mL_act (d + 8) fin 36 [some (.ref 0), some (.ref (227 + 0)), some (.ref (227 + 1)), some (.ref (227 + 2)), some (.int g), some (.int v), some (.int (nI (na c 3))), some (.int (nI what)), none, none, none, none, none] [.int (nI s)] μ Y
  refine px_istore (ls' := [some (.ref 0), some (.ref (227 + 0)), some (.ref (227 + 1)), some (.ref (227 + 2)), some (.int g), some (.int v), some (.int (nI (na c 3))), some (.int (nI what)), some (.int (nI s)), none, none, none, none]) dL_act_36 rfl rfl (by decide) ?_
  refine pw_iload dL_act_38 rfl ?_
  refine pw_bipush (v := nI 6) dL_act_40 (by decide) ?_
  refine pn_ne (tgt := 95) dL_act_42 (by decide) (by omega) (by omega) (fun hn => ?_) (fun hn => ?_)
  · have hn6 : na c 3 < 6 := by omega
    refine pw_aload_n dL_act_95 rfl ?_
    refine pw_aload_n dL_act_96 rfl ?_
    refine pw_bipush (v := nI 8) dL_act_97 (by decide) ?_
    refine pw_iload dL_act_99 rfl ?_
    refine px_imuln (c := 8 * (na c 3)) dL_act_101 (by omega) ?_
    refine pw_iload dL_act_102 rfl ?_
    refine pl_callS (k' := Y.length) (z' := kv_sum Y) (As := [.ref 0, .ref (227 + 0), .int (nI (8 * (na c 3))), .int v]) (st := []) dL_act_104 cs_L_69 rfl (Nat.le_of_ble_eq_true rfl) (Nat.le_of_ble_eq_true rfl) ⟨Nat.le_refl _, (by omega)⟩ ⟨Nat.le_refl _, (by omega)⟩ ?_
    refine y_write (m := 8 * (na c 3)) hw hx h0 (by omega) (fun ν1 c2 Y1 r2 n pl h3 w3 ya yb yd yc hWR => ?_)
    show PL l E D cA Y.length (kv_sum Y) mL_act (d + 8) fin 107 [some (.ref 0), some (.ref (227 + 0)), some (.ref (227 + 1)), some (.ref (227 + 2)), some (.int g), some (.int v), some (.int (nI (na c 3))), some (.int (nI what)), some (.int (nI s)), none, none, none, none] [] ν1 Y1
    obtain ⟨k1, k2, k3, k4, k5, k6, k7⟩ := hWR
    have hff := k2.ok k3 k4 k5
    refine pw_aload_n dL_act_107 rfl ?_
    refine pw_iload dL_act_108 rfl ?_
    refine pw_iconst_ (v := nI 0) dL_act_110 (by decide) ?_
    refine pl_iast (i := 1) (j := (na c 3)) (n := 6) (f := h) dL_act_111 rfl (by omega) (by decide) ((yd _ (by decide)).trans h1) (fun Y2 sa sb sc sd => ?_)
    refine pw_aload_n dL_act_112 rfl ?_
    refine pw_iload dL_act_113 rfl ?_
    refine pw_iconst_ (v := (-1)) dL_act_115 (by decide) ?_
    refine pl_iast (i := 2) (j := (na c 3)) (n := 6) (f := lo) dL_act_116 rfl (by omega) (by decide) ((sd _ (by decide)).trans ((yd _ (by decide)).trans h2)) (fun Y3 ua ub uc ud => ?_)
    refine pw_aload_n dL_act_117 rfl ?_
    refine pw_iload dL_act_118 rfl ?_
    have eκ1 : o_team c2 (nI s) = (nI (na c2 3), pad0 (cnow (crec c2) (newt (na c2) s (pD c2) (pL c2)))) := by unfold o_team; rw [if_pos (inR_nI (show s ≤ 200 by omega) (by decide)), if_pos hff, if_neg (by rw [k1]; omega), iN_nI (by omega)]
    refine pl_callV (b := 0) (As := [.int (nI s)]) (st := []) dL_act_120 cv_L_64 rfl ⟨by decide, by decide +kernel⟩ (Nat.le_of_ble_eq_true rfl) (Nat.le_of_ble_eq_true rfl) (by omega) (by omega) ?_
    refine x_team w3 h3 (fun κ1 hκ1 _ => ?_)
    rw [eκ1] at hκ1 ⊢
    replace hκ1 : CX κ1 (pad0 (cnow (crec c2) (newt (na c2) s (pD c2) (pL c2)))) := hκ1
    have wκ1 : CW (o_team c2 (nI s)).2 := w_team w3
    rw [eκ1] at wκ1
    replace wκ1 : CW (pad0 (cnow (crec c2) (newt (na c2) s (pD c2) (pL c2)))) := wκ1
    show PL l E D cA Y.length (kv_sum Y) mL_act (d + 8) fin 123 [some (.ref 0), some (.ref (227 + 0)), some (.ref (227 + 1)), some (.ref (227 + 2)), some (.int g), some (.int v), some (.int (nI (na c 3))), some (.int (nI what)), some (.int (nI s)), none, none, none, none] [.int (nI (na c2 3))] κ1 Y3
    generalize hcκ1 : pad0 (cnow (crec c2) (newt (na c2) s (pD c2) (pL c2))) = cκ1 at hκ1 wκ1
    have haκ1 : na cκ1 = newt (na c2) s (pD c2) (pL c2) := by rw [← hcκ1]; rfl
    have hpl : pL cκ1 = 0 := by rw [← hcκ1]; rfl
    rw [k1]
    show PL l E D cA Y.length (kv_sum Y) mL_act (d + 8) fin 123 [some (.ref 0), some (.ref (227 + 0)), some (.ref (227 + 1)), some (.ref (227 + 2)), some (.int g), some (.int v), some (.int (nI (na c 3))), some (.int (nI what)), some (.int (nI s)), none, none, none, none] [.int (nI (na c 3))] κ1 Y3
    refine pw_iload dL_act_123 rfl ?_
    refine pw_icmp_ne (tgt := 153) dL_act_125 (by decide) (fun h9 => absurd rfl h9) (fun _ => ?_)
    refine pw_aload_n dL_act_128 rfl ?_
    refine pw_bipush (v := nI 11) dL_act_129 (by decide) ?_
    refine pl_callV (b := 0) (As := [.int (nI 11)]) (st := []) dL_act_131 cv_L_24 rfl ⟨by decide, by decide +kernel⟩ (Nat.le_of_ble_eq_true rfl) (Nat.le_of_ble_eq_true rfl) (by omega) (by omega) ?_
    refine l_count (x := nI 0) wκ1 hκ1 (by decide) (by show nI (pL cκ1) = _; rw [hpl]) (fun ν1 hx1 => ?_)
    show PL l E D cA Y.length (kv_sum Y) mL_act (d + 8) fin 134 [some (.ref 0), some (.ref (227 + 0)), some (.ref (227 + 1)), some (.ref (227 + 2)), some (.int g), some (.int v), some (.int (nI (na c 3))), some (.int (nI what)), some (.int (nI s)), none, none, none, none] [.int (nI 0)] ν1 Y3
    refine pw_if_ne (tgt := 153) dL_act_134 (by decide) (fun h9 => absurd rfl h9) (fun _ => ?_)
    refine pw_aload_n dL_act_137 rfl ?_
    refine pw_iload dL_act_138 rfl ?_
    refine pw_iconst_ (v := nI 0) dL_act_140 (by decide) ?_
    refine pl_callV (b := 0) (As := [.int (nI (na c 3)), .int (nI 0)]) (st := []) dL_act_141 cv_L_9 rfl ⟨by decide, by decide +kernel⟩ (Nat.le_of_ble_eq_true rfl) (Nat.le_of_ble_eq_true rfl) (by omega) (by omega) ?_
    refine l_teamOf (x := nI s) wκ1 hx1 (by rw [haκ1, newt_3, k1]; exact Nat.lt_succ_self _) (by decide) (by show nI (na cκ1 (36 + 12 * na c 3)) = _; rw [haκ1, ← k1, newt_start]) (fun ν2 hx2 => ?_)
    show PL l E D cA Y.length (kv_sum Y) mL_act (d + 8) fin 144 [some (.ref 0), some (.ref (227 + 0)), some (.ref (227 + 1)), some (.ref (227 + 2)), some (.int g), some (.int v), some (.int (nI (na c 3))), some (.int (nI what)), some (.int (nI s)), none, none, none, none] [.int (nI s)] ν2 Y3
    refine pw_iload dL_act_144 rfl ?_
    refine pw_icmp_ne (tgt := 153) dL_act_146 (by decide) (fun h9 => absurd rfl h9) (fun _ => ?_)
    refine pw_iconst_ (v := nI 1) dL_act_149 (by decide) ?_
    refine pw_goto (tgt := 154) dL_act_150 (by decide) ?_
    exact pl_iret dL_act_154 rfl (by decide) (ua.trans (sa.trans ya)) (ub.trans (sb.trans yb)) (hf _ Y3 cκ1 r2 (upi h (na c 3) 0) (upi lo (na c 3) (-1)) hx2 wκ1 (by rw [haκ1, k1]; exact g_team hw.1 hG k2 k3 k4 k5 k6 k7) (by rw [haκ1, newt_3, k1, if_neg hn]) (ua.trans (sa.trans ya)) (ub.trans (sb.trans yb)) ((ud _ (by decide)).trans ((sd _ (by decide)).trans yc)) ((ud _ (by decide)).trans sc) uc (fun q hq => (ud q (by omega)).trans ((sd q (by omega)).trans (yd q (by omega)))))
  · refine pw_aload_n dL_act_45 rfl ?_
    refine pl_callV (b := 0) (As := []) (st := []) dL_act_46 cv_L_52 rfl ⟨by decide, by decide +kernel⟩ (Nat.le_of_ble_eq_true rfl) (Nat.le_of_ble_eq_true rfl) (by omega) (by omega) ?_
    refine x_wipe hw hx (fun ν1 hν1 _ => ?_)
    show PL l E D cA Y.length (kv_sum Y) mL_act (d + 8) fin 49 [some (.ref 0), some (.ref (227 + 0)), some (.ref (227 + 1)), some (.ref (227 + 2)), some (.int g), some (.int v), some (.int (nI (na c 3))), some (.int (nI what)), some (.int (nI s)), none, none, none, none] [.int (nI (pL c))] ν1 Y
    have wν1 : CW (pad0 c) := w_wipe hw
    replace hν1 : CX ν1 (pad0 c) := hν1
    generalize hcν1 : pad0 c = cν1 at hν1 wν1
    have haν1 : na cν1 = na c ∧ pL cν1 = 0 := by rw [← hcν1]; exact ⟨rfl, rfl⟩
    refine pw_pop dL_act_49 ?_
    refine pw_aload_n dL_act_50 rfl ?_
    refine pw_ldc2_w dL_act_51 kl_L_62 ?_
    show PL l E D cA Y.length (kv_sum Y) mL_act (d + 8) fin 54 [some (.ref 0), some (.ref (227 + 0)), some (.ref (227 + 1)), some (.ref (227 + 2)), some (.int g), some (.int v), some (.int (nI (na c 3))), some (.int (nI what)), some (.int (nI s)), none, none, none, none] [.long (lN 97), .ref 0] ν1 Y
    have ep := put_is (c := cν1) (U := 97) (loU_a 0 (by decide)) (by rw [haν1.2]; decide)
    rw [haν1.2] at ep
    refine pl_callV (b := 0) (As := [.long (lN 97)]) (st := []) dL_act_54 cv_L_58 rfl ⟨by decide, by decide +kernel⟩ (Nat.le_of_ble_eq_true rfl) (Nat.le_of_ble_eq_true rfl) (by omega) (by omega) ?_
    refine x_put (U := 97) wν1 hν1 (by decide) (fun ν2 h3 _ => ?_)
    have w3 : CW (o_put cν1 97).2 := w_put wν1
    rw [ep] at h3 w3 ⊢
    have hp3 : PP (app (pD cν1) 0 (97 + 0) 1) 1 1 (up1 (fun _ => 0) 0 0) := PP.one (pd := pD cν1) (pl := fun _ => 0) (by decide)
    have hI3 : PI (up1 (fun _ => 0) 0 0) 1 := ⟨fun i hi => by rw [show i = 0 by omega, up1_s]; decide, fun i j hi hj _ => by omega⟩
    have hff := hp3.ok hI3 (Nat.le_refl _) (by decide)
    show PL l E D cA Y.length (kv_sum Y) mL_act (d + 8) fin 57 [some (.ref 0), some (.ref (227 + 0)), some (.ref (227 + 1)), some (.ref (227 + 2)), some (.int g), some (.int v), some (.int (nI (na c 3))), some (.int (nI what)), some (.int (nI s)), none, none, none, none] [.int (nI (0 + 1))] ν2 Y
    replace h3 : CX ν2 (na cν1, hH cν1, hN cν1, sS cν1, sV cν1, app (pD cν1) 0 97 1, 0 + 1) := h3
    replace w3 : CW (na cν1, hH cν1, hN cν1, sS cν1, sV cν1, app (pD cν1) 0 97 1, 0 + 1) := w3
    obtain ⟨c3, hc3⟩ : ∃ c3 : CS, c3 = (na cν1, hH cν1, hN cν1, sS cν1, sV cν1, app (pD cν1) 0 97 1, 0 + 1) := ⟨_, rfl⟩
    rw [← hc3] at h3 w3
    have ha3 : na c3 = na c ∧ pL c3 = 1 ∧ ffp (pD c3) (pL c3) = none := by
      rw [hc3]
      exact ⟨haν1.1, rfl, hff⟩
    refine pw_pop dL_act_57 ?_
    refine pw_aload_n dL_act_58 rfl ?_
    refine pw_iload dL_act_59 rfl ?_
    have eκ1 : o_team c3 (nI s) = ((-100004), c3) := by unfold o_team; rw [if_pos (inR_nI (show s ≤ 200 by omega) (by decide)), if_pos ha3.2.2, if_pos (by rw [ha3.1]; omega)]
    refine pl_callV (b := 0) (As := [.int (nI s)]) (st := []) dL_act_61 cv_L_64 rfl ⟨by decide, by decide +kernel⟩ (Nat.le_of_ble_eq_true rfl) (Nat.le_of_ble_eq_true rfl) (by omega) (by omega) ?_
    refine x_team w3 h3 (fun κ1 hκ1 _ => ?_)
    rw [eκ1] at hκ1 ⊢
    replace hκ1 : CX κ1 c3 := hκ1
    show PL l E D cA Y.length (kv_sum Y) mL_act (d + 8) fin 64 [some (.ref 0), some (.ref (227 + 0)), some (.ref (227 + 1)), some (.ref (227 + 2)), some (.int g), some (.int v), some (.int (nI (na c 3))), some (.int (nI what)), some (.int (nI s)), none, none, none, none] [.int (-100004)] κ1 Y
    refine pw_ldc dL_act_64 kc_L_67 ?_
    refine pw_icmp_ne (tgt := 93) dL_act_66 (by decide) (fun h9 => absurd rfl h9) (fun _ => ?_)
    refine pw_aload_n dL_act_69 rfl ?_
    refine pw_sipush (v := nI 201) dL_act_70 (by decide) ?_
    have eκ2 : o_team c3 (nI 201) = ((-100002), c3) := by unfold o_team; rw [if_neg (inR_no (by decide) (by decide))]
    refine pl_callV (b := 0) (As := [.int (nI 201)]) (st := []) dL_act_73 cv_L_64 rfl ⟨by decide, by decide +kernel⟩ (Nat.le_of_ble_eq_true rfl) (Nat.le_of_ble_eq_true rfl) (by omega) (by omega) ?_
    refine x_team w3 hκ1 (fun κ2 hκ2 _ => ?_)
    rw [eκ2] at hκ2 ⊢
    replace hκ2 : CX κ2 c3 := hκ2
    show PL l E D cA Y.length (kv_sum Y) mL_act (d + 8) fin 76 [some (.ref 0), some (.ref (227 + 0)), some (.ref (227 + 1)), some (.ref (227 + 2)), some (.int g), some (.int v), some (.int (nI (na c 3))), some (.int (nI what)), some (.int (nI s)), none, none, none, none] [.int (-100002)] κ2 Y
    refine pw_ldc dL_act_76 kc_L_68 ?_
    refine pw_icmp_ne (tgt := 93) dL_act_78 (by decide) (fun h9 => absurd rfl h9) (fun _ => ?_)
    refine pw_aload_n dL_act_81 rfl ?_
    refine pl_callV (b := 0) (As := []) (st := []) dL_act_82 cv_L_52 rfl ⟨by decide, by decide +kernel⟩ (Nat.le_of_ble_eq_true rfl) (Nat.le_of_ble_eq_true rfl) (by omega) (by omega) ?_
    refine x_wipe w3 hκ2 (fun κ3 hκ3 _ => ?_)
    show PL l E D cA Y.length (kv_sum Y) mL_act (d + 8) fin 85 [some (.ref 0), some (.ref (227 + 0)), some (.ref (227 + 1)), some (.ref (227 + 2)), some (.int g), some (.int v), some (.int (nI (na c 3))), some (.int (nI what)), some (.int (nI s)), none, none, none, none] [.int (nI (pL c3))] κ3 Y
    have wκ3 : CW (pad0 c3) := w_wipe w3
    replace hκ3 : CX κ3 (pad0 c3) := hκ3
    generalize hcκ3 : pad0 c3 = cκ3 at hκ3 wκ3
    have haκ3 : na cκ3 = na c3 ∧ pL cκ3 = 0 := by rw [← hcκ3]; exact ⟨rfl, rfl⟩
    rw [ha3.2.1]
    show PL l E D cA Y.length (kv_sum Y) mL_act (d + 8) fin 85 [some (.ref 0), some (.ref (227 + 0)), some (.ref (227 + 1)), some (.ref (227 + 2)), some (.int g), some (.int v), some (.int (nI (na c 3))), some (.int (nI what)), some (.int (nI s)), none, none, none, none] [.int (nI 1)] κ3 Y
    refine pw_iconst_ (v := nI 1) dL_act_85 (by decide) ?_
    refine pw_icmp_ne (tgt := 93) dL_act_86 (by decide) (fun h9 => absurd rfl h9) (fun _ => ?_)
    refine pw_iconst_ (v := nI 1) dL_act_89 (by decide) ?_
    refine pw_goto (tgt := 94) dL_act_90 (by decide) ?_
    exact pl_iret dL_act_94 rfl (by decide) rfl rfl (hf _ Y cκ3 r h lo hκ3 wκ3 (by rw [haκ3.1, ha3.1]; exact hG) (by rw [haκ3.1, ha3.1, if_pos hn]; exact hn) rfl rfl h0 h1 h2 (fun _ _ => rfl))
set_option maxRecDepth 100000 in
set_option maxHeartbeats 4000000 in
theorem a_route {c : CS} (hw : CW c) (hx : CX μ c) {r h lo : Nat → Int32} (h0 : Y[0]? = some (yr r 48)) (h1 : Y[1]? = some (yr h 6)) (h2 : Y[2]? = some (yr lo 6)) (hG : GI (na c) r h lo) {g v : Int32} {t : Nat} (ht : t < na c 3) {what : Nat} (hf : ∀ (ν : Mu) (Y' : List PE) (c2 : CS) (r2 hh2 lo2 : Nat → Int32), CX ν c2 → CW c2 → GI (na c2) r2 hh2 lo2 → na c2 3 = na c 3 → Y'.length = Y.length → kv_sum Y' = kv_sum Y → Y'[0]? = some (yr r2 48) → Y'[1]? = some (yr hh2 6) → Y'[2]? = some (yr lo2 6) → (∀ q, 3 ≤ q → Y'[q]? = Y[q]?) → fin (some (.int (nI 1))) ν Y') : PL l E D cA Y.length (kv_sum Y) mL_act (d + 8) fin 172 [some (.ref 0), some (.ref (227 + 0)), some (.ref (227 + 1)), some (.ref (227 + 2)), some (.int g), some (.int v), some (.int (nI (na c 3))), some (.int (nI what)), some (.int (nI t)), none, none, none, none] [] μ Y := by
  have h6 := hw.1.t6
  refine pw_aload_n dL_act_172 rfl ?_
  refine pw_aload_n dL_act_173 rfl ?_
  refine pw_bipush (v := nI 8) dL_act_174 (by decide) ?_
  refine pw_iload dL_act_176 rfl ?_
  refine px_imuln (c := 8 * t) dL_act_178 (by omega) ?_
  refine pw_iload dL_act_179 rfl ?_
  refine pl_callS (k' := Y.length) (z' := kv_sum Y) (As := [.ref 0, .ref (227 + 0), .int (nI (8 * t)), .int v]) (st := []) dL_act_181 cs_L_69 rfl (Nat.le_of_ble_eq_true rfl) (Nat.le_of_ble_eq_true rfl) ⟨Nat.le_refl _, (by omega)⟩ ⟨Nat.le_refl _, (by omega)⟩ ?_
  refine y_write (m := 8 * t) hw hx h0 (by omega) (fun ν1 c2 Y1 r2 n pl h3 w3 ya yb yd yc hWR => ?_)
  show PL l E D cA Y.length (kv_sum Y) mL_act (d + 8) fin 184 [some (.ref 0), some (.ref (227 + 0)), some (.ref (227 + 1)), some (.ref (227 + 2)), some (.int g), some (.int v), some (.int (nI (na c 3))), some (.int (nI what)), some (.int (nI t)), none, none, none, none] [] ν1 Y1
  obtain ⟨k1, k2, k3, k4, k5, k6, k7⟩ := hWR
  have hff := k2.ok k3 k4 k5
  refine pw_aload_n dL_act_184 rfl ?_
  refine pw_iload dL_act_185 rfl ?_
  have eκ1 : o_route c2 (nI t) = (nI (tl (tk (na c2) t (pD c2) (pL c2)) t), pad0 (cnow (crec c2) (tk (na c2) t (pD c2) (pL c2)))) := by unfold o_route; rw [if_pos (inT_nI (by rw [k1]; exact ht) (by rw [k1]; omega)), if_pos hff, iN_nI (by omega)]
  refine pl_callV (b := 0) (As := [.int (nI t)]) (st := []) dL_act_187 cv_L_73 rfl ⟨by decide, by decide +kernel⟩ (Nat.le_of_ble_eq_true rfl) (Nat.le_of_ble_eq_true rfl) (by omega) (by omega) ?_
  refine x_route w3 h3 (fun κ1 hκ1 _ => ?_)
  rw [eκ1] at hκ1 ⊢
  replace hκ1 : CX κ1 (pad0 (cnow (crec c2) (tk (na c2) t (pD c2) (pL c2)))) := hκ1
  have wκ1 : CW (o_route c2 (nI t)).2 := w_route w3
  rw [eκ1] at wκ1
  replace wκ1 : CW (pad0 (cnow (crec c2) (tk (na c2) t (pD c2) (pL c2)))) := wκ1
  show PL l E D cA Y.length (kv_sum Y) mL_act (d + 8) fin 190 [some (.ref 0), some (.ref (227 + 0)), some (.ref (227 + 1)), some (.ref (227 + 2)), some (.int g), some (.int v), some (.int (nI (na c 3))), some (.int (nI what)), some (.int (nI t)), none, none, none, none] [.int (nI (tl (tk (na c2) t (pD c2) (pL c2)) t))] κ1 Y1
  generalize hcκ1 : pad0 (cnow (crec c2) (tk (na c2) t (pD c2) (pL c2))) = cκ1 at hκ1 wκ1
  have haκ1 : na cκ1 = tk (na c2) t (pD c2) (pL c2) := by rw [← hcκ1]; rfl
  have hpl : pL cκ1 = 0 := by rw [← hcκ1]; rfl
  refine pw_aload_n dL_act_190 rfl ?_
  refine pw_iload dL_act_191 rfl ?_
  refine pw_iconst_ (v := nI 3) dL_act_193 (by decide) ?_
  refine pl_callV (b := 0) (As := [.int (nI t), .int (nI 3)]) (st := [.int (nI (tl (tk (na c2) t (pD c2) (pL c2)) t))]) dL_act_194 cv_L_9 rfl ⟨by decide, by decide +kernel⟩ (Nat.le_of_ble_eq_true rfl) (Nat.le_of_ble_eq_true rfl) (by omega) (by omega) ?_
  refine l_teamOf (x := nI (tl (tk (na c2) t (pD c2) (pL c2)) t)) wκ1 hκ1 (by rw [haκ1, tk_n (by omega), k1]; exact ht) (by decide) (by show nI (tl (na cκ1) t) = _; rw [haκ1]) (fun ν1 hx1 => ?_)
  show PL l E D cA Y.length (kv_sum Y) mL_act (d + 8) fin 197 [some (.ref 0), some (.ref (227 + 0)), some (.ref (227 + 1)), some (.ref (227 + 2)), some (.int g), some (.int v), some (.int (nI (na c 3))), some (.int (nI what)), some (.int (nI t)), none, none, none, none] [.int (nI (tl (tk (na c2) t (pD c2) (pL c2)) t)), .int (nI (tl (tk (na c2) t (pD c2) (pL c2)) t))] ν1 Y1
  refine pw_icmp_ne (tgt := 213) dL_act_197 (by decide) (fun h9 => absurd rfl h9) (fun _ => ?_)
  refine pw_aload_n dL_act_200 rfl ?_
  refine pw_bipush (v := nI 11) dL_act_201 (by decide) ?_
  refine pl_callV (b := 0) (As := [.int (nI 11)]) (st := []) dL_act_203 cv_L_24 rfl ⟨by decide, by decide +kernel⟩ (Nat.le_of_ble_eq_true rfl) (Nat.le_of_ble_eq_true rfl) (by omega) (by omega) ?_
  refine l_count (x := nI 0) wκ1 hx1 (by decide) (by show nI (pL cκ1) = _; rw [hpl]) (fun ν2 hx2 => ?_)
  show PL l E D cA Y.length (kv_sum Y) mL_act (d + 8) fin 206 [some (.ref 0), some (.ref (227 + 0)), some (.ref (227 + 1)), some (.ref (227 + 2)), some (.int g), some (.int v), some (.int (nI (na c 3))), some (.int (nI what)), some (.int (nI t)), none, none, none, none] [.int (nI 0)] ν2 Y1
  refine pw_if_ne (tgt := 213) dL_act_206 (by decide) (fun h9 => absurd rfl h9) (fun _ => ?_)
  refine pw_iconst_ (v := nI 1) dL_act_209 (by decide) ?_
  refine pw_goto (tgt := 214) dL_act_210 (by decide) ?_
  exact pl_iret dL_act_214 rfl (by decide) ya yb (hf _ Y1 cκ1 r2 h lo hx2 wκ1 (by rw [haκ1, k1]; exact g_route hw.1 ht hG k2 k3 k4 k5 k6 k7) (by rw [haκ1, tk_n (by omega), k1]) ya yb yc ((yd _ (by decide)).trans h1) ((yd _ (by decide)).trans h2) (fun q hq => yd q (by omega)))
set_option maxRecDepth 100000 in
set_option maxHeartbeats 4000000 in
theorem a_leave {c : CS} (hw : CW c) (hx : CX μ c) {r h lo : Nat → Int32} (h0 : Y[0]? = some (yr r 48)) (h1 : Y[1]? = some (yr h 6)) (h2 : Y[2]? = some (yr lo 6)) (hG : GI (na c) r h lo) {g v : Int32} {t : Nat} (ht : t < na c 3) {what : Nat} (hf : ∀ (ν : Mu) (Y' : List PE) (c2 : CS) (r2 hh2 lo2 : Nat → Int32), CX ν c2 → CW c2 → GI (na c2) r2 hh2 lo2 → na c2 3 = na c 3 - 1 → Y'.length = Y.length → kv_sum Y' = kv_sum Y → Y'[0]? = some (yr r2 48) → Y'[1]? = some (yr hh2 6) → Y'[2]? = some (yr lo2 6) → (∀ q, 3 ≤ q → Y'[q]? = Y[q]?) → fin (some (.int (nI 1))) ν Y') : PL l E D cA Y.length (kv_sum Y) mL_act (d + 8) fin 230 [some (.ref 0), some (.ref (227 + 0)), some (.ref (227 + 1)), some (.ref (227 + 2)), some (.int g), some (.int v), some (.int (nI (na c 3))), some (.int (nI what)), some (.int (nI t)), none, none, none, none] [] μ Y := by
  have h6 := hw.1.t6
  refine pw_bipush (v := nI 8) dL_act_230 (by decide) ?_
  refine pw_iload dL_act_232 rfl ?_
  refine px_imuln (c := 8 * t) dL_act_234 (by omega) ?_
  refine px_istore (ls' := [some (.ref 0), some (.ref (227 + 0)), some (.ref (227 + 1)), some (.ref (227 + 2)), some (.int g), some (.int v), some (.int (nI (na c 3))), some (.int (nI what)), some (.int (nI t)), some (.int (nI (8 * t))), none, none, none]) dL_act_235 rfl rfl (by decide) ?_
  have lq : ∀ r2 : Nat → Int32, (∀ j, r2 j = if 8 * t ≤ j ∧ j < 40 then r (j + 8) else r j) → ∀ k : Nat, k ≤ 5 → t ≤ k → ∀ (Y' : List PE) (hh2 lo2 : Nat → Int32), Y'.length = Y.length → kv_sum Y' = kv_sum Y → Y'[0]? = some (yr r2 48) → Y'[1]? = some (yr hh2 6) → Y'[2]? = some (yr lo2 6) → (∀ q, 3 ≤ q → Y'[q]? = Y[q]?) → (∀ j, hh2 j = if t ≤ j ∧ j < k then h (j + 1) else h j) → (∀ j, lo2 j = if t ≤ j ∧ j < k then lo (j + 1) else lo j) → PL l E D cA Y.length (kv_sum Y) mL_act (d + 8) fin 265 [some (.ref 0), some (.ref (227 + 0)), some (.ref (227 + 1)), some (.ref (227 + 2)), some (.int g), some (.int v), some (.int (nI (na c 3))), some (.int (nI what)), some (.int (nI t)), some (.int (nI k)), none, none, none] [] μ Y' := by
    intro r2 hr
    refine ps_for _ ?_ ?_
    · intro _ Y' hh2 lo2 ya yb yc yh yl yd hh hlo
      refine pw_iload dL_act_265 rfl ?_
      refine pw_iconst_ (v := nI 5) dL_act_267 (by decide) ?_
      refine pn_ge (tgt := 297) dL_act_268 (by decide) (by omega) (by omega) (fun _ => ?_) (fun h9 => absurd h9 (by decide))
      refine pw_aload_n dL_act_297 rfl ?_
      refine pw_iload dL_act_298 rfl ?_
      have eκ1 : o_leave c (nI t) = (nI ((na c 3) - 1), cnow (crec c) (lv (na c) t)) := by unfold o_leave; rw [if_pos (inT_nI ht (by omega)), iN_nI (by omega)]
      refine pl_callV (b := 0) (As := [.int (nI t)]) (st := []) dL_act_300 cv_L_76 rfl ⟨by decide, by decide +kernel⟩ (Nat.le_of_ble_eq_true rfl) (Nat.le_of_ble_eq_true rfl) (by omega) (by omega) ?_
      refine x_leave hw hx (fun κ1 hκ1 _ => ?_)
      rw [eκ1] at hκ1 ⊢
      replace hκ1 : CX κ1 (cnow (crec c) (lv (na c) t)) := hκ1
      have wκ1 : CW (o_leave c (nI t)).2 := w_leave hw
      rw [eκ1] at wκ1
      replace wκ1 : CW (cnow (crec c) (lv (na c) t)) := wκ1
      show PL l E D cA Y.length (kv_sum Y) mL_act (d + 8) fin 303 [some (.ref 0), some (.ref (227 + 0)), some (.ref (227 + 1)), some (.ref (227 + 2)), some (.int g), some (.int v), some (.int (nI (na c 3))), some (.int (nI what)), some (.int (nI t)), some (.int (nI 5)), none, none, none] [.int (nI ((na c 3) - 1))] κ1 Y'
      generalize hcκ1 : cnow (crec c) (lv (na c) t) = cκ1 at hκ1 wκ1
      have haκ1 : na cκ1 = lv (na c) t := by rw [← hcκ1]; rfl
      refine pw_iload dL_act_303 rfl ?_
      refine pw_iconst_ (v := nI 1) dL_act_305 (by decide) ?_
      refine pn_isub (by omega) dL_act_306 ?_
      refine pw_icmp_ne (tgt := 327) dL_act_307 (by decide) (fun h9 => absurd rfl h9) (fun _ => ?_)
      refine pw_aload_n dL_act_310 rfl ?_
      refine pw_iload dL_act_311 rfl ?_
      refine pw_iconst_ (v := nI 1) dL_act_313 (by decide) ?_
      refine pn_isub (by omega) dL_act_314 ?_
      have eκ2 : o_leave cκ1 (nI ((na c 3) - 1)) = ((-100001), cκ1) := by unfold o_leave; rw [haκ1, lv_3, if_neg (inT_no (Nat.le_refl _) (by omega))]
      refine pl_callV (b := 0) (As := [.int (nI ((na c 3) - 1))]) (st := []) dL_act_315 cv_L_76 rfl ⟨by decide, by decide +kernel⟩ (Nat.le_of_ble_eq_true rfl) (Nat.le_of_ble_eq_true rfl) (by omega) (by omega) ?_
      refine x_leave wκ1 hκ1 (fun κ2 hκ2 _ => ?_)
      rw [eκ2] at hκ2 ⊢
      replace hκ2 : CX κ2 cκ1 := hκ2
      show PL l E D cA Y.length (kv_sum Y) mL_act (d + 8) fin 318 [some (.ref 0), some (.ref (227 + 0)), some (.ref (227 + 1)), some (.ref (227 + 2)), some (.int g), some (.int v), some (.int (nI (na c 3))), some (.int (nI what)), some (.int (nI t)), some (.int (nI 5)), none, none, none] [.int (-100001)] κ2 Y'
      refine pw_ldc dL_act_318 kc_L_79 ?_
      refine pw_icmp_ne (tgt := 327) dL_act_320 (by decide) (fun h9 => absurd rfl h9) (fun _ => ?_)
      refine pw_iconst_ (v := nI 1) dL_act_323 (by decide) ?_
      refine pw_goto (tgt := 328) dL_act_324 (by decide) ?_
      exact pl_iret dL_act_328 rfl (by decide) ya yb (hf _ Y' cκ1 r2 hh2 lo2 hκ2 wκ1 (by rw [haκ1]; exact g_leave hw.1 ht hG hr hh hlo) (by rw [haκ1, lv_3]) ya yb yc yh yl yd)
    · intro k hk ih htk Y' hh2 lo2 ya yb yc yh yl yd hh hlo
      refine pw_iload dL_act_265 rfl ?_
      refine pw_iconst_ (v := nI 5) dL_act_267 (by decide) ?_
      refine pn_ge (tgt := 297) dL_act_268 (by decide) (by omega) (by omega) (fun h9 => absurd h9 (by omega)) (fun _ => ?_)
      refine pw_aload_n dL_act_271 rfl ?_
      refine pw_iload dL_act_272 rfl ?_
      refine pw_aload_n dL_act_274 rfl ?_
      refine pw_iload dL_act_275 rfl ?_
      refine pw_iconst_ (v := nI 1) dL_act_277 (by decide) ?_
      refine px_iaddn (c := k + 1) dL_act_278 (by omega) ?_
      refine pl_iald (i := 1) (j := k + 1) (n := 6) (f := hh2) (x := (h (k + 1))) dL_act_279 rfl (by omega) (by decide) yh (by rw [hh, if_neg (by omega)]) ?_
      refine pl_iast (i := 1) (j := k) (n := 6) (f := hh2) dL_act_280 rfl (by omega) (by decide) yh (fun Y2 sa sb sc sd => ?_)
      refine pw_aload_n dL_act_281 rfl ?_
      refine pw_iload dL_act_282 rfl ?_
      refine pw_aload_n dL_act_284 rfl ?_
      refine pw_iload dL_act_285 rfl ?_
      refine pw_iconst_ (v := nI 1) dL_act_287 (by decide) ?_
      refine px_iaddn (c := k + 1) dL_act_288 (by omega) ?_
      refine pl_iald (i := 2) (j := k + 1) (n := 6) (f := lo2) (x := (lo (k + 1))) dL_act_289 rfl (by omega) (by decide) ((sd _ (by decide)).trans yl) (by rw [hlo, if_neg (by omega)]) ?_
      refine pl_iast (i := 2) (j := k) (n := 6) (f := lo2) dL_act_290 rfl (by omega) (by decide) ((sd _ (by decide)).trans yl) (fun Y3 ua ub uc ud => ?_)
      refine px_iincn (n := 1) (a := k) (b := k + 1) (ls' := [some (.ref 0), some (.ref (227 + 0)), some (.ref (227 + 1)), some (.ref (227 + 2)), some (.int g), some (.int v), some (.int (nI (na c 3))), some (.int (nI what)), some (.int (nI t)), some (.int (nI (k + 1))), none, none, none]) dL_act_291 rfl rfl rfl (by omega) ?_
      refine pw_goto (tgt := 265) dL_act_294 (by decide) ?_
      exact ih (by omega) Y3 _ _ (ua.trans (sa.trans ya)) (ub.trans (sb.trans yb)) ((ud _ (by decide)).trans ((sd _ (by decide)).trans yc)) ((ud _ (by decide)).trans sc) uc (fun q hq => (ud q (by omega)).trans ((sd q (by omega)).trans (yd q hq))) (fun j => by
        by_cases e : j = k
        · rw [e, upi_s, if_pos (by omega)]
        · rw [upi_n e, hh j]
          by_cases e2 : t ≤ j ∧ j < k
          · rw [if_pos e2, if_pos (by omega)]
          · rw [if_neg e2, if_neg (by omega)]) (fun j => by
        by_cases e : j = k
        · rw [e, upi_s, if_pos (by omega)]
        · rw [upi_n e, hlo j]
          by_cases e2 : t ≤ j ∧ j < k
          · rw [if_pos e2, if_pos (by omega)]
          · rw [if_neg e2, if_neg (by omega)])
  have lp : ∀ k : Nat, k ≤ 40 → 8 * t ≤ k → ∀ (Y' : List PE) (r2 : Nat → Int32), Y'.length = Y.length → kv_sum Y' = kv_sum Y → Y'[0]? = some (yr r2 48) → (∀ q, q ≠ 0 → Y'[q]? = Y[q]?) → (∀ j, r2 j = if 8 * t ≤ j ∧ j < k then r (j + 8) else r j) → PL l E D cA Y.length (kv_sum Y) mL_act (d + 8) fin 237 [some (.ref 0), some (.ref (227 + 0)), some (.ref (227 + 1)), some (.ref (227 + 2)), some (.int g), some (.int v), some (.int (nI (na c 3))), some (.int (nI what)), some (.int (nI t)), some (.int (nI k)), none, none, none] [] μ Y' := by
    refine ps_for _ ?_ ?_
    · intro _ Y' r2 ya yb yc yd hr
      refine pw_iload dL_act_237 rfl ?_
      refine pw_bipush (v := nI 40) dL_act_239 (by decide) ?_
      refine pn_ge (tgt := 261) dL_act_241 (by decide) (by omega) (by omega) (fun _ => ?_) (fun h9 => absurd h9 (by decide))
      refine pw_iload dL_act_261 rfl ?_
      refine px_istore (ls' := [some (.ref 0), some (.ref (227 + 0)), some (.ref (227 + 1)), some (.ref (227 + 2)), some (.int g), some (.int v), some (.int (nI (na c 3))), some (.int (nI what)), some (.int (nI t)), some (.int (nI t)), none, none, none]) dL_act_263 rfl rfl (by decide) ?_
      exact lq r2 hr t (by omega) (Nat.le_refl _) Y' h lo ya yb yc ((yd _ (by decide)).trans h1) ((yd _ (by decide)).trans h2) (fun q hq => yd q (by omega)) (fun j => by rw [if_neg (by omega)]) (fun j => by rw [if_neg (by omega)])
    · intro k hk ih htk Y' r2 ya yb yc yd hr
      refine pw_iload dL_act_237 rfl ?_
      refine pw_bipush (v := nI 40) dL_act_239 (by decide) ?_
      refine pn_ge (tgt := 261) dL_act_241 (by decide) (by omega) (by omega) (fun h9 => absurd h9 (by omega)) (fun _ => ?_)
      refine pw_aload_n dL_act_244 rfl ?_
      refine pw_iload dL_act_245 rfl ?_
      refine pw_aload_n dL_act_247 rfl ?_
      refine pw_iload dL_act_248 rfl ?_
      refine pw_bipush (v := nI 8) dL_act_250 (by decide) ?_
      refine px_iaddn (c := k + 8) dL_act_252 (by omega) ?_
      refine pl_iald (i := 0) (j := k + 8) (n := 48) (f := r2) (x := (r (k + 8))) dL_act_253 rfl (by omega) (by decide) yc (by rw [hr, if_neg (by omega)]) ?_
      refine pl_iast (i := 0) (j := k) (n := 48) (f := r2) dL_act_254 rfl (by omega) (by decide) yc (fun Y2 sa sb sc sd => ?_)
      refine px_iincn (n := 1) (a := k) (b := k + 1) (ls' := [some (.ref 0), some (.ref (227 + 0)), some (.ref (227 + 1)), some (.ref (227 + 2)), some (.int g), some (.int v), some (.int (nI (na c 3))), some (.int (nI what)), some (.int (nI t)), some (.int (nI (k + 1))), none, none, none]) dL_act_255 rfl rfl rfl (by omega) ?_
      refine pw_goto (tgt := 237) dL_act_258 (by decide) ?_
      exact ih (by omega) Y2 _ (sa.trans ya) (sb.trans yb) sc (fun q hq => (sd q hq).trans (yd q hq)) (fun j => by
        by_cases e : j = k
        · rw [e, upi_s, if_pos (by omega)]
        · rw [upi_n e, hr j]
          by_cases e2 : 8 * t ≤ j ∧ j < k
          · rw [if_pos e2, if_pos (by omega)]
          · rw [if_neg e2, if_neg (by omega)])
  exact lp (8 * t) (by omega) (Nat.le_refl _) Y r rfl rfl h0 (fun _ _ => rfl) (fun j => by rw [if_neg (by omega)])
end ACT2
/-- how many teams there are behind an act by the two ints g and v, where there were n -/
def nt (n : Nat) (g v : Int32) : Nat := if lwN g 12 < 2 ∨ n = 0 then (if n = 6 then 6 else n + 1) else if lwN g 12 = 3 ∧ lwN v 3 = 0 then n - 1 else n
theorem nt_team {n : Nat} {g v : Int32} (h : lwN g 12 < 2 ∨ n = 0) : nt n g v = if n = 6 then 6 else n + 1 := if_pos h
theorem nt_leave {n : Nat} {g v : Int32} (h : ¬ lwN g 12 < 2) (h0 : 0 < n) (h3 : lwN g 12 = 3) (h4 : lwN v 3 = 0) : nt n g v = n - 1 := by
  unfold nt
  rw [if_neg (by omega), if_pos ⟨h3, h4⟩]
theorem nt_same {n : Nat} {g v : Int32} (h : ¬ lwN g 12 < 2) (h0 : 0 < n) (h3 : ¬ (lwN g 12 = 3 ∧ lwN v 3 = 0)) : nt n g v = n := by
  unfold nt
  rw [if_neg (by omega), if_neg h3]
section ACT3
variable {l : Launch} {E : EV} {D : va_G} {cA : Nat → ClassId} {fin : Option Value → Mu → List PE → Prop} {μ : Mu} {Y : List PE} {d : Nat}
set_option maxRecDepth 100000 in
set_option maxHeartbeats 4000000 in
theorem y_act {c : CS} (hw : CW c) (hx : CX μ c) {r h lo : Nat → Int32} (h0 : Y[0]? = some (yr r 48)) (h1 : Y[1]? = some (yr h 6)) (h2 : Y[2]? = some (yr lo 6)) (hG : GI (na c) r h lo) {g v : Int32} (hE : ES (E, Y))  (hf : ∀ (ν : Mu) (Y' : List PE) (c2 : CS) (r2 hh2 lo2 : Nat → Int32), CX ν c2 → CW c2 → GI (na c2) r2 hh2 lo2 → na c2 3 = nt (na c 3) g v → Y'.length = Y.length → kv_sum Y' = kv_sum Y → Y'[0]? = some (yr r2 48) → Y'[1]? = some (yr hh2 6) → Y'[2]? = some (yr lo2 6) → (∀ q, 3 ≤ q → Y'[q]? = Y[q]?) → fin (some (.int (nI 1))) ν Y') : PL l E D cA Y.length (kv_sum Y) mL_act (d + 8) fin 0 [some (.ref 0), some (.ref (227 + 0)), some (.ref (227 + 1)), some (.ref (227 + 2)), some (.int g), some (.int v), none, none, none, none, none, none, none] [] μ Y := by
  have h6 := hw.1.t6
  refine pw_aload_n dL_act_0 rfl ?_
  refine pw_iconst_ (v := nI 3) dL_act_1 (by decide) ?_
  refine pl_callV (b := 0) (As := [.int (nI 3)]) (st := []) dL_act_2 cv_L_24 rfl ⟨by decide, by decide +kernel⟩ (Nat.le_of_ble_eq_true rfl) (Nat.le_of_ble_eq_true rfl) (by omega) (by omega) ?_
  refine l_count (x := nI (na c 3)) hw hx (by decide) rfl (fun ν1 hx1 => ?_)
  show PL l E D cA Y.length (kv_sum Y) mL_act (d + 8) fin 5 [some (.ref 0), some (.ref (227 + 0)), some (.ref (227 + 1)), some (.ref (227 + 2)), some (.int g), some (.int v), none, none, none, none, none, none, none] [.int (nI (na c 3))] ν1 Y
  refine px_istore (ls' := [some (.ref 0), some (.ref (227 + 0)), some (.ref (227 + 1)), some (.ref (227 + 2)), some (.int g), some (.int v), some (.int (nI (na c 3))), none, none, none, none, none, none]) dL_act_5 rfl rfl (by decide) ?_
  refine pw_iload dL_act_7 rfl ?_
  refine pw_bipush (v := nI 12) dL_act_9 (by decide) ?_
  refine pl_callS (k' := Y.length) (z' := kv_sum Y) (As := [.int g, .int (nI 12)]) (st := []) dL_act_11 cs_L_49 rfl (Nat.le_of_ble_eq_true rfl) (Nat.le_of_ble_eq_true rfl) ⟨Nat.le_refl _, (by omega)⟩ ⟨Nat.le_refl _, (by omega)⟩ ?_
  refine l_low (by decide) (by decide) ?_
  have hlwhat := lwN_lt (x := g) (n := 12) (by decide)
  obtain ⟨what, hewhat⟩ : ∃ what, what = lwN g 12 := ⟨_, rfl⟩
  rw [← hewhat] at hlwhat ⊢
  show PL l E D cA Y.length (kv_sum Y) mL_act (d + 8) fin 14 [some (.ref 0), some (.ref (227 + 0)), some (.ref (227 + 1)), some (.ref (227 + 2)), some (.int g), some (.int v), some (.int (nI (na c 3))), none, none, none, none, none, none] [.int (nI what)] ν1 Y
  refine px_istore (ls' := [some (.ref 0), some (.ref (227 + 0)), some (.ref (227 + 1)), some (.ref (227 + 2)), some (.int g), some (.int v), some (.int (nI (na c 3))), some (.int (nI what)), none, none, none, none, none]) dL_act_14 rfl rfl (by decide) ?_
  refine pw_iload dL_act_16 rfl ?_
  refine pw_iconst_ (v := nI 2) dL_act_18 (by decide) ?_
  refine pn_lt (tgt := 27) dL_act_19 (by decide) (by omega) (by omega) (fun q1 => ?_) (fun q1 => ?_)
  · rw [nt_team (Or.inl (by omega))] at hf
    exact a_team hw hx1 h0 h1 h2 hG hf
  · refine pw_iload dL_act_22 rfl ?_
    refine pw_if_ne (tgt := 155) dL_act_24 (by decide) (fun q2 => ?_) (fun q2 => ?_)
    · have hn0 : 0 < na c 3 := Nat.pos_of_ne_zero (fun q => q2 (by rw [q]; rfl))
      refine pw_iload dL_act_155 rfl ?_
      refine pw_iconst_ (v := nI 4) dL_act_157 (by decide) ?_
      refine pw_ishr dL_act_158 ?_
      refine pw_iload dL_act_159 rfl ?_
      refine pl_callS (k' := Y.length) (z' := kv_sum Y) (As := [.int (g >>> ((nI 4) &&& 31)), .int (nI (na c 3))]) (st := []) dL_act_161 cs_L_49 rfl (Nat.le_of_ble_eq_true rfl) (Nat.le_of_ble_eq_true rfl) ⟨Nat.le_refl _, (by omega)⟩ ⟨Nat.le_refl _, (by omega)⟩ ?_
      refine l_low hn0 (by omega) ?_
      have hlt := lwN_lt (x := g >>> (nI 4 &&& 31)) (n := (na c 3)) hn0
      obtain ⟨t, het⟩ : ∃ t, t = lwN (g >>> (nI 4 &&& 31)) (na c 3) := ⟨_, rfl⟩
      rw [← het] at hlt ⊢
      show PL l E D cA Y.length (kv_sum Y) mL_act (d + 8) fin 164 [some (.ref 0), some (.ref (227 + 0)), some (.ref (227 + 1)), some (.ref (227 + 2)), some (.int g), some (.int v), some (.int (nI (na c 3))), some (.int (nI what)), none, none, none, none, none] [.int (nI t)] ν1 Y
      have ht : t < na c 3 := hlt
      refine px_istore (ls' := [some (.ref 0), some (.ref (227 + 0)), some (.ref (227 + 1)), some (.ref (227 + 2)), some (.int g), some (.int v), some (.int (nI (na c 3))), some (.int (nI what)), some (.int (nI t)), none, none, none, none]) dL_act_164 rfl rfl (by decide) ?_
      refine pw_iload dL_act_166 rfl ?_
      refine pw_iconst_ (v := nI 2) dL_act_168 (by decide) ?_
      have k329 : ¬ (lwN g 12 = 3 ∧ lwN v 3 = 0) → ∀ κ : Mu, CX κ c → PL l E D cA Y.length (kv_sum Y) mL_act (d + 8) fin 329 [some (.ref 0), some (.ref (227 + 0)), some (.ref (227 + 1)), some (.ref (227 + 2)), some (.int g), some (.int v), some (.int (nI (na c 3))), some (.int (nI what)), some (.int (nI t)), none, none, none, none] [] κ Y := by
        intro hnl κ hκ
        rw [nt_same (by omega) hn0 hnl] at hf
        refine pw_iload dL_act_329 rfl ?_
        refine pw_iconst_ (v := nI 4) dL_act_331 (by decide) ?_
        refine pn_ne (tgt := 385) dL_act_332 (by decide) (by omega) (by omega) (fun q5 => ?_) (fun q5 => ?_)
        · refine pw_iload dL_act_385 rfl ?_
          refine pw_bipush (v := nI 7) dL_act_387 (by decide) ?_
          refine pn_ge (tgt := 480) dL_act_389 (by decide) (by omega) (by omega) (fun q6 => ?_) (fun q6 => ?_)
          · refine pw_iload dL_act_480 rfl ?_
            refine pw_bipush (v := nI 7) dL_act_482 (by decide) ?_
            refine pn_ne (tgt := 526) dL_act_484 (by decide) (by omega) (by omega) (fun q7 => ?_) (fun q7 => ?_)
            · have hl8 := (hw.1.tm ht).2.2.2.1.2
              refine pw_aload_n dL_act_526 rfl ?_
              refine pw_iload dL_act_527 rfl ?_
              refine pw_iconst_ (v := nI 2) dL_act_529 (by decide) ?_
              refine pl_callV (b := 0) (As := [.int (nI t), .int (nI 2)]) (st := []) dL_act_530 cv_L_9 rfl ⟨by decide, by decide +kernel⟩ (Nat.le_of_ble_eq_true rfl) (Nat.le_of_ble_eq_true rfl) (by omega) (by omega) ?_
              refine l_teamOf (x := nI (na c (39 + 12 * t))) hw hκ ht (by decide) rfl (fun ν2 hx2 => ?_)
              show PL l E D cA Y.length (kv_sum Y) mL_act (d + 8) fin 533 [some (.ref 0), some (.ref (227 + 0)), some (.ref (227 + 1)), some (.ref (227 + 2)), some (.int g), some (.int v), some (.int (nI (na c 3))), some (.int (nI what)), some (.int (nI t)), none, none, none, none] [.int (nI (na c (39 + 12 * t)))] ν2 Y
              refine px_istore (ls' := [some (.ref 0), some (.ref (227 + 0)), some (.ref (227 + 1)), some (.ref (227 + 2)), some (.int g), some (.int v), some (.int (nI (na c 3))), some (.int (nI what)), some (.int (nI t)), some (.int (nI (na c (39 + 12 * t)))), none, none, none]) dL_act_533 rfl rfl (by decide) ?_
              refine pw_iload dL_act_535 rfl ?_
              refine pw_bipush (v := nI 8) dL_act_537 (by decide) ?_
              have k681 : ∀ κ2 : Mu, CX κ2 c → PL l E D cA Y.length (kv_sum Y) mL_act (d + 8) fin 681 [some (.ref 0), some (.ref (227 + 0)), some (.ref (227 + 1)), some (.ref (227 + 2)), some (.int g), some (.int v), some (.int (nI (na c 3))), some (.int (nI what)), some (.int (nI t)), some (.int (nI (na c (39 + 12 * t)))), none, none, none] [] κ2 Y := by
                intro κ2 hκ2
                refine pw_iload dL_act_681 rfl ?_
                refine pw_bipush (v := nI 9) dL_act_683 (by decide) ?_
                refine pn_ne (tgt := 796) dL_act_685 (by decide) (by omega) (by omega) (fun q8 => ?_) (fun q8 => ?_)
                · refine pw_iload dL_act_796 rfl ?_
                  refine pw_bipush (v := nI 10) dL_act_798 (by decide) ?_
                  refine pn_ne (tgt := 890) dL_act_800 (by decide) (by omega) (by omega) (fun q9 => ?_) (fun q9 => ?_)
                  · exact a_place hw hκ2 h0 h1 h2 hG ht hf
                  · exact a_set hw hκ2 h0 h1 h2 hG hE ht hf
                · exact a_close hw hκ2 h0 h1 h2 hG ht hf
              refine pn_ne (tgt := 681) dL_act_539 (by decide) (by omega) (by omega) (fun q10 => ?_) (fun q10 => ?_)
              · exact k681 _ hx2
              · refine pw_iload dL_act_542 rfl ?_
                refine pw_iconst_ (v := nI 1) dL_act_544 (by decide) ?_
                refine pn_le (tgt := 681) dL_act_545 (by decide) (by omega) (by omega) (fun q11 => ?_) (fun q11 => ?_)
                · exact k681 _ hx2
                · exact a_exchange hw hx2 h0 h1 h2 hG ht q11 hf
            · exact a_lose hw hκ h0 h1 h2 hG ht hf
          · exact a_hint hw hκ h0 h1 h2 hG ht hf
        · exact a_start hw hκ h0 h1 h2 hG ht hf
      refine pn_ne (tgt := 215) dL_act_169 (by decide) (by omega) (by omega) (fun q3 => ?_) (fun q3 => ?_)
      · refine pw_iload dL_act_215 rfl ?_
        refine pw_iconst_ (v := nI 3) dL_act_217 (by decide) ?_
        refine pn_ne (tgt := 329) dL_act_218 (by decide) (by omega) (by omega) (fun q4 => ?_) (fun q4 => ?_)
        · exact k329 (by omega) _ hx1
        · refine pw_iload dL_act_221 rfl ?_
          refine pw_iconst_ (v := nI 3) dL_act_223 (by decide) ?_
          refine pl_callS (k' := Y.length) (z' := kv_sum Y) (As := [.int v, .int (nI 3)]) (st := []) dL_act_224 cs_L_49 rfl (Nat.le_of_ble_eq_true rfl) (Nat.le_of_ble_eq_true rfl) ⟨Nat.le_refl _, (by omega)⟩ ⟨Nat.le_refl _, (by omega)⟩ ?_
          refine l_low (by decide) (by decide) ?_
          have hlz9 := lwN_lt (x := v) (n := 3) (by decide)
          obtain ⟨z9, hez9⟩ : ∃ z9, z9 = lwN v 3 := ⟨_, rfl⟩
          rw [← hez9] at hlz9 ⊢
          show PL l E D cA Y.length (kv_sum Y) mL_act (d + 8) fin 227 [some (.ref 0), some (.ref (227 + 0)), some (.ref (227 + 1)), some (.ref (227 + 2)), some (.int g), some (.int v), some (.int (nI (na c 3))), some (.int (nI what)), some (.int (nI t)), none, none, none, none] [.int (nI z9)] ν1 Y
          refine pw_if_ne (tgt := 329) dL_act_227 (by decide) (fun q12 => ?_) (fun q12 => ?_)
          · exact k329 (fun q9 => q12 (by rw [hez9, q9.2]; rfl)) _ hx1
          · rw [nt_leave (by omega) hn0 (by omega) (by rw [← hez9]; exact Classical.byContradiction (fun q9 => nI_ne0 (Nat.pos_of_ne_zero q9) (by omega) q12))] at hf
            exact a_leave hw hx1 h0 h1 h2 hG ht hf
      · rw [nt_same (by omega) hn0 (by omega)] at hf
        exact a_route hw hx1 h0 h1 h2 hG ht hf
    · rw [nt_team (Or.inr (Classical.byContradiction (fun q9 => nI_ne0 (Nat.pos_of_ne_zero q9) (by omega) q2)))] at hf
      exact a_team hw hx1 h0 h1 h2 hG hf
end ACT3
