/-! the law: one place, from its first row -/
section AST
variable {l : Launch} {E : EV} {D : va_G} {cA : Nat → ClassId} {N Z : Nat} {X : MT} {d : Nat} {fin : Option Value → List PE → Prop} {pc : Nat} {ls ls' : List (Option Value)} {st : List Value} {M : List PE}
theorem px_astore {i : Nat} {x : Nat} (hd : decode X.2.2.1 pc = .ok (.astore i, 2)) (hs : ls.set i (some (.ref x)) = ls') (hok : kv_ok ls i = true) (hi : i < X.2.2.2.1) (kk : PW l E D cA N Z X d fin (pc + 2) ls' st M) : PW l E D cA N Z X d fin pc ls (.ref x :: st) M := by
  subst hs
  exact fun _ _ _ _ _ _ _ _ _ _ _ _ _ _ _ _ _ B P => lv_astore B.1.1 B.1.2.1 hd P.2.2.1.has hi rfl (fun la' h' => kk B (P.lo (P.2.2.1.st1 (v := .ref x) hok hi rfl h')))
end AST
theorem tb_ai : Cond.arrayClass .int ∈ TB := tb_t 65 (by decide +kernel) rfl
section PLACE3
variable {l : Launch} {E : EV} {D : va_G} {cA : Nat → ClassId} {fin : Option Value → Mu → List PE → Prop} {μ : Mu} {Y : List PE} {d : Nat}
set_option maxRecDepth 100000 in
set_option maxHeartbeats 4000000 in
theorem y_place {c : CS} (hw : CW c) (hx : CX μ c) (hD : DR (na c)) {p mi : Nat} (hp : p < 8) {f : Nat → Int32} (hm : Y[mi]? = some (yr f 6)) {M : Nat → Nat → Bool} (hM : ∀ u, u < na c 3 → f u = nI (msk (M u) (na c 3))) (hlen : Y.length + 2 ≤ 700) (hf : ∀ (ν : Mu) (Y' : List PE) (f' : Nat → Int32), CX ν c → Y'.length = Y.length + 2 → kv_sum Y' = kv_sum Y + 12 → (∀ q, q < Y.length → q ≠ mi → Y'[q]? = Y[q]?) → Y'[mi]? = some (yr f' 6) → (∀ u, u < na c 3 → f' u = nI (msk (fun k => M u k || (!(k == u) && mtp (na c) (na c 3) u k p)) (na c 3))) → fin (some (.int (nI 1))) ν Y') : PL l E D cA (Y.length + 2) (kv_sum Y + 12) mL_place (d + 7) fin 0 [some (.ref 0), some (.ref (227 + mi)), some (.int (nI p)), none, none, none, none, none, none, none, none, none, none, none, none, none, none] [] μ Y := by
  have hml : mi < Y.length := (List.getElem?_eq_some_iff.mp hm).1
  have h6 := hw.1.t6
  refine pw_aload_n dL_place_0 rfl ?_
  refine pw_iconst_ (v := nI 3) dL_place_1 (by decide) ?_
  refine pl_callV (b := 0) (As := [.int (nI 3)]) (st := []) dL_place_2 cv_L_24 rfl ⟨by decide, by decide +kernel⟩ (Nat.le_of_ble_eq_true rfl) (Nat.le_of_ble_eq_true rfl) (by omega) (by omega) ?_
  refine l_count (x := nI (na c 3)) hw hx (by decide) rfl (fun ν1 hx1 => ?_)
  show PL l E D cA (Y.length + 2) (kv_sum Y + 12) mL_place (d + 7) fin 5 [some (.ref 0), some (.ref (227 + mi)), some (.int (nI p)), none, none, none, none, none, none, none, none, none, none, none, none, none, none] [.int (nI (na c 3))] ν1 Y
  refine px_istore_n (ls' := [some (.ref 0), some (.ref (227 + mi)), some (.int (nI p)), some (.int (nI (na c 3))), none, none, none, none, none, none, none, none, none, none, none, none, none]) dL_place_5 rfl rfl (by decide) ?_
  refine pw_iconst_ (v := nI 0) dL_place_6 (by decide) ?_
  refine px_istore (ls' := [some (.ref 0), some (.ref (227 + mi)), some (.int (nI p)), some (.int (nI (na c 3))), some (.int (nI 0)), none, none, none, none, none, none, none, none, none, none, none, none]) dL_place_7 rfl rfl (by decide) ?_
  refine pw_iconst_ (v := nI 0) dL_place_9 (by decide) ?_
  refine px_istore (ls' := [some (.ref 0), some (.ref (227 + mi)), some (.int (nI p)), some (.int (nI (na c 3))), some (.int (nI 0)), some (.int (nI 0)), none, none, none, none, none, none, none, none, none, none, none]) dL_place_10 rfl rfl (by decide) ?_
  refine pw_bipush (v := nI 6) dL_place_12 (by decide) ?_
  refine pl_new (n := 6) dL_place_14 tb_ai rfl (by decide) (by omega) (by omega) (by omega) (fun Y1 a1 a2 a3 a4 => ?_)
  refine px_astore (ls' := [some (.ref 0), some (.ref (227 + mi)), some (.int (nI p)), some (.int (nI (na c 3))), some (.int (nI 0)), some (.int (nI 0)), some (.ref (227 + Y.length)), none, none, none, none, none, none, none, none, none, none]) dL_place_16 rfl rfl (by decide) ?_
  refine pw_bipush (v := nI 6) dL_place_18 (by decide) ?_
  refine pl_new (n := 6) dL_place_20 tb_ai rfl (by decide) (by omega) (by omega) (by omega) (fun Y2 b1 b2 b3 b4 => ?_)
  rw [a1] at b3 b4 ⊢
  show PL l E D cA (Y.length + 2) (kv_sum Y + 12) mL_place (d + 7) fin 22 [some (.ref 0), some (.ref (227 + mi)), some (.int (nI p)), some (.int (nI (na c 3))), some (.int (nI 0)), some (.int (nI 0)), some (.ref (227 + Y.length)), none, none, none, none, none, none, none, none, none, none] [.ref (227 + (Y.length + 1))] ν1 Y2
  refine px_astore (ls' := [some (.ref 0), some (.ref (227 + mi)), some (.int (nI p)), some (.int (nI (na c 3))), some (.int (nI 0)), some (.int (nI 0)), some (.ref (227 + Y.length)), some (.ref (227 + (Y.length + 1))), none, none, none, none, none, none, none, none, none]) dL_place_22 rfl rfl (by decide) ?_
  refine pw_iconst_ (v := nI 0) dL_place_24 (by decide) ?_
  refine px_istore (ls' := [some (.ref 0), some (.ref (227 + mi)), some (.int (nI p)), some (.int (nI (na c 3))), some (.int (nI 0)), some (.int (nI 0)), some (.ref (227 + Y.length)), some (.ref (227 + (Y.length + 1))), some (.int (nI 0)), none, none, none, none, none, none, none, none]) dL_place_25 rfl rfl (by decide) ?_
  have lp : ∀ t : Nat, t ≤ na c 3 → ∀ (ν : Mu) (Y' : List PE) (g g2 : Nat → Int32) (l9 : Option Value), CX ν c → Y'.length = Y.length + 2 → kv_sum Y' = kv_sum Y + 12 → (∀ q, q < Y.length → Y'[q]? = Y[q]?) → Y'[Y.length]? = some (yr g 6) → Y'[Y.length + 1]? = some (yr g2 6) → (∀ u, u < t → g u = if vs (na c) p u = true then nI (CQ (na c) (na c 3) p u) else -1) → (∀ u, u < t → g2 u = if vs (na c) p u = true then nI (EQ (na c) (na c 3) p u) else -1) → PL l E D cA (Y.length + 2) (kv_sum Y + 12) mL_place (d + 7) fin 27 [some (.ref 0), some (.ref (227 + mi)), some (.int (nI p)), some (.int (nI (na c 3))), some (.int (nI (msk (vs (na c) p) t))), some (.int (nI 0)), some (.ref (227 + Y.length)), some (.ref (227 + (Y.length + 1))), some (.int (nI t)), l9, none, none, none, none, none, none, none] [] ν Y' := by
    refine ps_for _ ?_ ?_
    · intro ν Y' g g2 l9 hν y1 y2 y3 gc ge hg hg2
      refine pw_iload dL_place_27 rfl ?_
      refine pw_iload_n dL_place_29 rfl ?_
      refine pn_ge (tgt := 112) dL_place_30 (by decide) (by omega) (by omega) (fun _ => ?_) (fun h9 => absurd h9 (Nat.lt_irrefl _))
      refine pw_iconst_ (v := nI 0) dL_place_112 (by decide) ?_
      refine px_istore (ls' := [some (.ref 0), some (.ref (227 + mi)), some (.int (nI p)), some (.int (nI (na c 3))), some (.int (nI (msk (vs (na c) p) (na c 3)))), some (.int (nI 0)), some (.ref (227 + Y.length)), some (.ref (227 + (Y.length + 1))), some (.int (nI 0)), l9, none, none, none, none, none, none, none]) dL_place_113 rfl rfl (by decide) ?_
      refine pw_iconst_ (v := nI 0) dL_place_115 (by decide) ?_
      refine px_istore (ls' := [some (.ref 0), some (.ref (227 + mi)), some (.int (nI p)), some (.int (nI (na c 3))), some (.int (nI (msk (vs (na c) p) (na c 3)))), some (.int (nI 0)), some (.ref (227 + Y.length)), some (.ref (227 + (Y.length + 1))), some (.int (nI 0)), some (.int (nI 0)), none, none, none, none, none, none, none]) dL_place_116 rfl rfl (by decide) ?_
      refine pw_iload dL_place_118 rfl ?_
      refine px_istore (ls' := [some (.ref 0), some (.ref (227 + mi)), some (.int (nI p)), some (.int (nI (na c 3))), some (.int (nI (msk (vs (na c) p) (na c 3)))), some (.int (nI (msk (vs (na c) p) (na c 3)))), some (.ref (227 + Y.length)), some (.ref (227 + (Y.length + 1))), some (.int (nI 0)), some (.int (nI 0)), none, none, none, none, none, none, none]) dL_place_120 rfl rfl (by decide) ?_
      have K : PL l E D cA (Y.length + 2) (kv_sum Y + 12) mL_place (d + 7) fin 122 [some (.ref 0), some (.ref (227 + mi)), some (.int (nI p)), some (.int (nI (na c 3))), some (.int (nI (msk (vs (na c) p) (na c 3)))), some (.int (nI (msk (fun u => decide (u < na c 3) && vs (na c) p u) (na c 3)))), some (.ref (227 + Y.length)), some (.ref (227 + (Y.length + 1))), some (.int (nI 0)), some (.int (nI (QS (na c) (na c 3) p (fun u => decide (u < na c 3) && vs (na c) p u)))), none, none, none, none, none, none, none] [] ν Y' := by
        refine w_pl_b (mi := mi) (ci := Y.length) hw hD (by omega) (by omega) gc ge hg hg2 hp (fun ν2 x5 x8 l10 l11 h9 => ?_) (msk (fun u => decide (u < na c 3) && vs (na c) p u) (na c 3) + 1) (fun u => decide (u < na c 3) && vs (na c) p u) 0 ν none none hν WI.first (Nat.zero_le _) (Nat.lt_succ_self _)
        rw [← y1, ← y2]
        refine w_pl_c hw h9 gc ge hg hg2 hp (by omega) (by omega) ((y3 mi hml).trans hm) hM (fun ν3 Y3 f3 h10 k1 k2 k3 k4 k5 => ?_)
        exact hf ν3 Y3 f3 h10 (k1.trans y1) (k2.trans y2) (fun q h11 h12 => (k3 q h12).trans (y3 q h11)) k4 k5
      have e4 : msk (fun u => decide (u < na c 3) && vs (na c) p u) (na c 3) = msk (vs (na c) p) (na c 3) := msk_cg (fun u hu => by simp [hu])
      rw [QS_first, e4] at K
      exact K
    · intro t ht ih ν Y' g g2 l9 hν y1 y2 y3 gc ge hg hg2
      refine pw_iload dL_place_27 rfl ?_
      refine pw_iload_n dL_place_29 rfl ?_
      refine pn_ge (tgt := 112) dL_place_30 (by decide) (by omega) (by omega) (fun h9 => absurd h9 (by omega)) (fun _ => ?_)
      refine pw_aload_n dL_place_33 rfl ?_
      refine pw_iload dL_place_34 rfl ?_
      refine pw_iload_n dL_place_36 rfl ?_
      refine pl_callS (k' := Y'.length) (z' := kv_sum Y') (As := [.ref 0, .int (nI t), .int (nI p)]) (st := []) dL_place_37 cs_L_38 rfl (Nat.le_of_ble_eq_true rfl) (Nat.le_of_ble_eq_true rfl) ⟨Nat.le_refl _, (by omega)⟩ ⟨Nat.le_refl _, (by omega)⟩ ?_
      refine y_visit hw hν ht hp (fun ν1 hx1 => ?_)
      show PL l E D cA (Y.length + 2) (kv_sum Y + 12) mL_place (d + 7) fin 40 [some (.ref 0), some (.ref (227 + mi)), some (.int (nI p)), some (.int (nI (na c 3))), some (.int (nI (msk (vs (na c) p) t))), some (.int (nI 0)), some (.ref (227 + Y.length)), some (.ref (227 + (Y.length + 1))), some (.int (nI t)), l9, none, none, none, none, none, none, none] [.int (vI (vis (na c) t p))] ν1 Y'
      cases hv : vis (na c) t p with
      | none =>
        have hvs : ¬ vs (na c) p t = true := by unfold vs; rw [hv]; exact (by decide)
        show PL l E D cA (Y.length + 2) (kv_sum Y + 12) mL_place (d + 7) fin 40 [some (.ref 0), some (.ref (227 + mi)), some (.int (nI p)), some (.int (nI (na c 3))), some (.int (nI (msk (vs (na c) p) t))), some (.int (nI 0)), some (.ref (227 + Y.length)), some (.ref (227 + (Y.length + 1))), some (.int (nI t)), l9, none, none, none, none, none, none, none] [.int (-1)] ν1 Y'
        refine px_istore (ls' := [some (.ref 0), some (.ref (227 + mi)), some (.int (nI p)), some (.int (nI (na c 3))), some (.int (nI (msk (vs (na c) p) t))), some (.int (nI 0)), some (.ref (227 + Y.length)), some (.ref (227 + (Y.length + 1))), some (.int (nI t)), some (.int (-1)), none, none, none, none, none, none, none]) dL_place_40 rfl rfl (by decide) ?_
        refine pw_iload dL_place_42 rfl ?_
        refine pw_iload dL_place_44 rfl ?_
        refine pw_if_lt (tgt := 56) dL_place_46 (by decide) (fun _ => ?_) (fun h9 => absurd (by decide) h9)
        refine pw_iconst_ (v := nI 0) dL_place_56 (by decide) ?_
        refine pw_ior dL_place_57 ?_
        rw [bit_or0 _ (msk_64 (show t ≤ 6 by omega)), ← msk_f hvs]
        show PL l E D cA (Y.length + 2) (kv_sum Y + 12) mL_place (d + 7) fin 58 [some (.ref 0), some (.ref (227 + mi)), some (.int (nI p)), some (.int (nI (na c 3))), some (.int (nI (msk (vs (na c) p) (t + 1)))), some (.int (nI 0)), some (.ref (227 + Y.length)), some (.ref (227 + (Y.length + 1))), some (.int (nI t)), some (.int (-1)), none, none, none, none, none, none, none] [.int (nI (msk (vs (na c) p) (t + 1)))] ν1 Y'
        refine px_istore (ls' := [some (.ref 0), some (.ref (227 + mi)), some (.int (nI p)), some (.int (nI (na c 3))), some (.int (nI (msk (vs (na c) p) (t + 1)))), some (.int (nI 0)), some (.ref (227 + Y.length)), some (.ref (227 + (Y.length + 1))), some (.int (nI t)), some (.int (-1)), none, none, none, none, none, none, none]) dL_place_58 rfl rfl (by decide) ?_
        refine pw_aload dL_place_60 rfl ?_
        refine pw_iload dL_place_62 rfl ?_
        refine pw_iload dL_place_64 rfl ?_
        refine pw_if_ge (tgt := 73) dL_place_66 (by decide) (fun h9 => absurd h9 (by decide)) (fun _ => ?_)
        refine pw_iconst_ (v := (-1)) dL_place_69 (by decide) ?_
        refine pw_goto (tgt := 82) dL_place_70 (by decide) ?_
        refine pl_iast (i := Y.length) (j := t) (n := 6) (f := g) dL_place_82 rfl (by omega) (by decide) gc (fun Y3 ra rb rc rd => ?_)
        refine pw_aload dL_place_83 rfl ?_
        refine pw_iload dL_place_85 rfl ?_
        refine pw_iload dL_place_87 rfl ?_
        refine pw_if_ge (tgt := 96) dL_place_89 (by decide) (fun h9 => absurd h9 (by decide)) (fun _ => ?_)
        refine pw_iconst_ (v := (-1)) dL_place_92 (by decide) ?_
        refine pw_goto (tgt := 105) dL_place_93 (by decide) ?_
        refine pl_iast (i := (Y.length + 1)) (j := t) (n := 6) (f := g2) dL_place_105 rfl (by omega) (by decide) ((rd _ (by omega)).trans ge) (fun Y4 sa sb sc sd => ?_)
        refine px_iincn (n := 1) (a := t) (b := t + 1) (ls' := [some (.ref 0), some (.ref (227 + mi)), some (.int (nI p)), some (.int (nI (na c 3))), some (.int (nI (msk (vs (na c) p) (t + 1)))), some (.int (nI 0)), some (.ref (227 + Y.length)), some (.ref (227 + (Y.length + 1))), some (.int (nI (t + 1))), some (.int (-1)), none, none, none, none, none, none, none]) dL_place_106 rfl rfl rfl (by omega) ?_
        refine pw_goto (tgt := 27) dL_place_109 (by decide) ?_
        refine ih _ Y4 _ _ _ hx1 (sa.trans (ra.trans y1)) (sb.trans (rb.trans y2)) (fun q hq => (sd q (by omega)).trans ((rd q (by omega)).trans (y3 q hq))) ((sd _ (by omega)).trans rc) sc (fun u hu => ?_) (fun u hu => ?_)
        · by_cases e : u = t
          · rw [e, upi_s]
            rw [if_neg hvs]
          · rw [upi_n e]
            exact hg u (by omega)
        · by_cases e : u = t
          · rw [e, upi_s]
            rw [if_neg hvs]
          · rw [upi_n e]
            exact hg2 u (by omega)
      | some v =>
        have hvs := vs_s hv
        obtain ⟨hvt, hvp⟩ := vis_some hv
        obtain ⟨e1, e2, e3⟩ := Q_s (n := na c 3) hv
        have h8 := tl_le hw.1 ht
        show PL l E D cA (Y.length + 2) (kv_sum Y + 12) mL_place (d + 7) fin 40 [some (.ref 0), some (.ref (227 + mi)), some (.int (nI p)), some (.int (nI (na c 3))), some (.int (nI (msk (vs (na c) p) t))), some (.int (nI 0)), some (.ref (227 + Y.length)), some (.ref (227 + (Y.length + 1))), some (.int (nI t)), l9, none, none, none, none, none, none, none] [.int (nI v)] ν1 Y'
        refine px_istore (ls' := [some (.ref 0), some (.ref (227 + mi)), some (.int (nI p)), some (.int (nI (na c 3))), some (.int (nI (msk (vs (na c) p) t))), some (.int (nI 0)), some (.ref (227 + Y.length)), some (.ref (227 + (Y.length + 1))), some (.int (nI t)), some (.int (nI v)), none, none, none, none, none, none, none]) dL_place_40 rfl rfl (by decide) ?_
        refine pw_iload dL_place_42 rfl ?_
        refine pw_iload dL_place_44 rfl ?_
        refine pw_if_lt (tgt := 56) dL_place_46 (by decide) (fun h9 => absurd h9 (nI_pos (by omega))) (fun _ => ?_)
        refine pw_iconst_ (v := nI 1) dL_place_49 (by decide) ?_
        refine pw_iload dL_place_50 rfl ?_
        refine pw_ishl dL_place_52 ?_
        refine pw_goto (tgt := 57) dL_place_53 (by decide) ?_
        refine pw_ior dL_place_57 ?_
        rw [or_msk (show t < 6 by omega) hvs]
        show PL l E D cA (Y.length + 2) (kv_sum Y + 12) mL_place (d + 7) fin 58 [some (.ref 0), some (.ref (227 + mi)), some (.int (nI p)), some (.int (nI (na c 3))), some (.int (nI (msk (vs (na c) p) t))), some (.int (nI 0)), some (.ref (227 + Y.length)), some (.ref (227 + (Y.length + 1))), some (.int (nI t)), some (.int (nI v)), none, none, none, none, none, none, none] [.int (nI (msk (vs (na c) p) (t + 1)))] ν1 Y'
        refine px_istore (ls' := [some (.ref 0), some (.ref (227 + mi)), some (.int (nI p)), some (.int (nI (na c 3))), some (.int (nI (msk (vs (na c) p) (t + 1)))), some (.int (nI 0)), some (.ref (227 + Y.length)), some (.ref (227 + (Y.length + 1))), some (.int (nI t)), some (.int (nI v)), none, none, none, none, none, none, none]) dL_place_58 rfl rfl (by decide) ?_
        refine pw_aload dL_place_60 rfl ?_
        refine pw_iload dL_place_62 rfl ?_
        refine pw_iload dL_place_64 rfl ?_
        refine pw_if_ge (tgt := 73) dL_place_66 (by decide) (fun _ => ?_) (fun h9 => absurd (nI_pos' (by omega)) h9)
        refine pw_aload_n dL_place_73 rfl ?_
        refine pw_iload dL_place_74 rfl ?_
        refine pw_iload dL_place_76 rfl ?_
        refine pw_iconst_ (v := nI 1) dL_place_78 (by decide) ?_
        refine pl_callV (b := 0) (As := [.int (nI t), .int (nI v), .int (nI 1)]) (st := [.int (nI t), .ref (227 + Y.length)]) dL_place_79 cv_L_27 rfl ⟨by decide, by decide +kernel⟩ (Nat.le_of_ble_eq_true rfl) (Nat.le_of_ble_eq_true rfl) (by omega) (by omega) ?_
        refine l_visit (x := nI (CQ (na c) (na c 3) p t)) hw hx1 ht hvt (by decide) (congrArg nI e1.symm) (fun ν2 hx2 => ?_)
        show PL l E D cA (Y.length + 2) (kv_sum Y + 12) mL_place (d + 7) fin 82 [some (.ref 0), some (.ref (227 + mi)), some (.int (nI p)), some (.int (nI (na c 3))), some (.int (nI (msk (vs (na c) p) (t + 1)))), some (.int (nI 0)), some (.ref (227 + Y.length)), some (.ref (227 + (Y.length + 1))), some (.int (nI t)), some (.int (nI v)), none, none, none, none, none, none, none] [.int (nI (CQ (na c) (na c 3) p t)), .int (nI t), .ref (227 + Y.length)] ν2 Y'
        refine pl_iast (i := Y.length) (j := t) (n := 6) (f := g) dL_place_82 rfl (by omega) (by decide) gc (fun Y3 ra rb rc rd => ?_)
        refine pw_aload dL_place_83 rfl ?_
        refine pw_iload dL_place_85 rfl ?_
        refine pw_iload dL_place_87 rfl ?_
        refine pw_if_ge (tgt := 96) dL_place_89 (by decide) (fun _ => ?_) (fun h9 => absurd (nI_pos' (by omega)) h9)
        refine pw_aload_n dL_place_96 rfl ?_
        refine pw_iload dL_place_97 rfl ?_
        refine pw_iload dL_place_99 rfl ?_
        refine pw_iconst_ (v := nI 3) dL_place_101 (by decide) ?_
        refine pl_callV (b := 0) (As := [.int (nI t), .int (nI v), .int (nI 3)]) (st := [.int (nI t), .ref (227 + (Y.length + 1))]) dL_place_102 cv_L_27 rfl ⟨by decide, by decide +kernel⟩ (Nat.le_of_ble_eq_true rfl) (Nat.le_of_ble_eq_true rfl) (by omega) (by omega) ?_
        refine l_visit (x := nI (EQ (na c) (na c 3) p t)) hw hx2 ht hvt (by decide) (congrArg nI e3.symm) (fun ν3 hx3 => ?_)
        show PL l E D cA (Y.length + 2) (kv_sum Y + 12) mL_place (d + 7) fin 105 [some (.ref 0), some (.ref (227 + mi)), some (.int (nI p)), some (.int (nI (na c 3))), some (.int (nI (msk (vs (na c) p) (t + 1)))), some (.int (nI 0)), some (.ref (227 + Y.length)), some (.ref (227 + (Y.length + 1))), some (.int (nI t)), some (.int (nI v)), none, none, none, none, none, none, none] [.int (nI (EQ (na c) (na c 3) p t)), .int (nI t), .ref (227 + (Y.length + 1))] ν3 Y3
        refine pl_iast (i := (Y.length + 1)) (j := t) (n := 6) (f := g2) dL_place_105 rfl (by omega) (by decide) ((rd _ (by omega)).trans ge) (fun Y4 sa sb sc sd => ?_)
        refine px_iincn (n := 1) (a := t) (b := t + 1) (ls' := [some (.ref 0), some (.ref (227 + mi)), some (.int (nI p)), some (.int (nI (na c 3))), some (.int (nI (msk (vs (na c) p) (t + 1)))), some (.int (nI 0)), some (.ref (227 + Y.length)), some (.ref (227 + (Y.length + 1))), some (.int (nI (t + 1))), some (.int (nI v)), none, none, none, none, none, none, none]) dL_place_106 rfl rfl rfl (by omega) ?_
        refine pw_goto (tgt := 27) dL_place_109 (by decide) ?_
        refine ih _ Y4 _ _ _ hx3 (sa.trans (ra.trans y1)) (sb.trans (rb.trans y2)) (fun q hq => (sd q (by omega)).trans ((rd q (by omega)).trans (y3 q hq))) ((sd _ (by omega)).trans rc) sc (fun u hu => ?_) (fun u hu => ?_)
        · by_cases e : u = t
          · rw [e, upi_s]
            rw [if_pos hvs]
          · rw [upi_n e]
            exact hg u (by omega)
        · by_cases e : u = t
          · rw [e, upi_s]
            rw [if_pos hvs]
          · rw [upi_n e]
            exact hg2 u (by omega)
  exact lp 0 (Nat.zero_le _) _ Y2 _ _ none hx1 (b1.trans (by rw [a1])) (by omega) (fun q hq => (b4 q (by omega)).trans (a4 q hq)) ((b4 _ (by omega)).trans a3) b3 (fun u hu => absurd hu (Nat.not_lt_zero _)) (fun u hu => absurd hu (Nat.not_lt_zero _))
end PLACE3
