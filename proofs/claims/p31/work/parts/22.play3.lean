/-! Game.play, playNow -/
/-- the Game holds the whole game of a, n teams playing -/
def PX (μ : Mu) (a : AS) (n : Nat) : Prop := GX μ a n (gf a n) ∧ μ 37 1 = nI n
theorem GX.same {μ ν : Mu} {a : AS} {n : Nat} {g : GT} (hn : n ≤ 6) (h : ∀ q k, 38 ≤ q → q < 77 → ν q k = μ q k) (hX : GX μ a n g) : GX ν a n g := by
  refine ⟨fun t ht => ?_, fun p hp => (h _ _ (by omega) (by omega)).trans (hX.2 p hp)⟩
  obtain ⟨h1, h2, h3, h4, h5⟩ := hX.1 t ht
  exact ⟨(h _ _ (by omega) (by omega)).trans h1, (h _ _ (by omega) (by omega)).trans h2, (h _ _ (by omega) (by omega)).trans h3, fun v hv => ⟨(h _ _ (by omega) (by omega)).trans (h4 v hv).1, (h _ _ (by omega) (by omega)).trans (h4 v hv).2⟩, fun v hv => ⟨(h _ _ (by omega) (by omega)).trans (h5 v hv).1, (h _ _ (by omega) (by omega)).trans (h5 v hv).2.1, (h _ _ (by omega) (by omega)).trans (h5 v hv).2.2⟩⟩
section PLAY3
variable {l : Launch} {E : EY} {D : va_G} {cA : Nat → ClassId} {fin : Option Value → Mu → Prop} {μ : Mu} {d : Nat}
set_option maxRecDepth 100000 in
set_option maxHeartbeats 4000000 in
theorem c_play {s n : Nat} {a : AS} (hs : isS s) (hw : Wf a) (hna : n ≤ a 3) (hR : RS μ s a) (hf : ∀ ν : Mu, PX ν a n → ν 37 0 = nI s → (∀ q k, ¬ (37 ≤ q ∧ q < 77) → ν q k = μ q k) → fin none ν) : PS l E D cA mX0_play (d + 3) fin 0 [some (.ref 37), some (.ref s), some (.int (nI n)), none, none] [] μ := by
  have hsg := isS_g hs
  have hs9 := isS_odd hs
  have hs31 : s < 2 ^ 31 := by omega
  have h36 := hw.2.2.2.1
  have hn6 : n ≤ 6 := Nat.le_trans hna hw.2.2.2.1
  refine pw_aload_n dX0_play_0 rfl ?_
  refine pw_aload_n dX0_play_1 rfl ?_
  refine ps_putd dX0_play_2 kf_X0_41 (by decide) (fun q hq => by cases hq; exact ⟨rfl, rfl⟩) (by decide +kernel) hs31 ?_
  refine pw_aload_n dX0_play_5 rfl ?_
  refine pw_iload_n dX0_play_6 rfl ?_
  refine ps_puti dX0_play_7 kf_X0_45 (by decide) rfl (by decide +kernel) ?_
  refine pw_aload_n dX0_play_10 rfl ?_
  refine ps_getr (r := 76) dX0_play_11 kf_X0_38 (by decide) (by decide +kernel) ?_
  refine pw_iconst_ (v := nI 0) dX0_play_14 (by decide) ?_
  refine ps_callS (As := [.ref 76, .int (nI 0)]) (st := []) dX0_play_15 cs_X0_49 rfl (Nat.le_of_ble_eq_true rfl) (Nat.le_of_ble_eq_true rfl) ?_
  refine c_fill (n := 8) (by decide +kernel) ?_
  intro ν0 f1 f2
  show PS l E D cA mX0_play (d + 3) fin 18 [some (.ref 37), some (.ref s), some (.int (nI n)), none, none] [] ν0
  refine pw_iconst_ (v := nI 0) dX0_play_18 (by decide) ?_
  refine px_istore_n (ls' := [some (.ref 37), some (.ref s), some (.int (nI n)), some (.int (nI 0)), none]) dX0_play_19 rfl rfl (by decide) ?_
  have lq : ∀ k : Nat, k ≤ 48 → ∀ (l4 : Option Value) (ν : Mu), ((∀ q k, ¬ (37 ≤ q ∧ q < 77) → ν q k = μ q k) ∧ ν 37 0 = nI s ∧ ν 37 1 = nI n ∧ GX ν a n (gi a n k)) → PS l E D cA mX0_play (d + 3) fin 66 [some (.ref 37), some (.ref s), some (.int (nI n)), some (.int (nI k)), l4] [] ν := by
    refine ps_for 48 ?_ ?_
    · rintro l4 ν ⟨h1, h2, h3, h4⟩
      refine pw_iload_n dX0_play_66 rfl ?_
      refine pw_bipush (v := nI 48) dX0_play_67 (by decide) ?_
      refine pn_ge (tgt := 99) dX0_play_69 (by decide) (by omega) (by omega) (fun _ => ?_) (fun h9 => absurd h9 (by omega))
      exact ps_ret dX0_play_99 rfl (hf ν ⟨h4, h3⟩ h2 h1)
    · rintro k hk ih l4 ν ⟨h1, h2, h3, h4⟩
      have hB := gi_B hw hna k
      refine pw_iload_n dX0_play_66 rfl ?_
      refine pw_bipush (v := nI 48) dX0_play_67 (by decide) ?_
      refine pn_ge (tgt := 99) dX0_play_69 (by decide) (by omega) (by omega) (fun h9 => absurd h9 (by omega)) (fun _ => ?_)
      refine pw_aload_n dX0_play_72 rfl ?_
      refine ps_callV (b := 37) (As := []) (st := []) dX0_play_73 cv_X0_70 rfl ⟨by decide, by decide +kernel⟩ (Nat.le_of_ble_eq_true rfl) (Nat.le_of_ble_eq_true rfl) ?_
      refine c_nextToCome hw hna h3 h4 hB (by omega) ?_
      show PS l E D cA mX0_play (d + 3) fin 76 [some (.ref 37), some (.ref s), some (.int (nI n)), some (.int (nI k)), l4] [.int (eN (nxp a (gi a n k) n))] ν
      cases hN : nxp a (gi a n k) n with
      | none =>
        show PS l E D cA mX0_play (d + 3) fin 76 [some (.ref 37), some (.ref s), some (.int (nI n)), some (.int (nI k)), l4] [.int (-1)] ν
        refine px_istore (ls' := [some (.ref 37), some (.ref s), some (.int (nI n)), some (.int (nI k)), some (.int (-1))]) dX0_play_76 rfl rfl (by decide) ?_
        refine pw_iload dX0_play_78 rfl ?_
        refine pw_iconst_ (v := (-1)) dX0_play_80 (by decide) ?_
        refine pw_icmp_ne (tgt := 87) dX0_play_81 (by decide) (fun h9 => absurd rfl h9) (fun _ => ?_)
        refine pw_goto (tgt := 99) dX0_play_84 (by decide) ?_
        exact ps_ret dX0_play_99 rfl (hf ν ⟨by rw [gf_none hN (by omega)]; exact h4, h3⟩ h2 h1)
      | some t =>
        have hu := nxp_lt hN
        show PS l E D cA mX0_play (d + 3) fin 76 [some (.ref 37), some (.ref s), some (.int (nI n)), some (.int (nI k)), l4] [.int (nI t)] ν
        refine px_istore (ls' := [some (.ref 37), some (.ref s), some (.int (nI n)), some (.int (nI k)), some (.int (nI t))]) dX0_play_76 rfl rfl (by decide) ?_
        refine pw_iload dX0_play_78 rfl ?_
        refine pw_iconst_ (v := (-1)) dX0_play_80 (by decide) ?_
        refine pw_icmp_ne (tgt := 87) dX0_play_81 (by decide) (fun _ => ?_) (fun h9 => absurd h9 (nI_nm1 (by omega)))
        refine pw_aload_n dX0_play_87 rfl ?_
        refine pw_iload dX0_play_88 rfl ?_
        refine ps_callV (b := 37) (As := [.int (nI t)]) (st := []) dX0_play_90 cv_X0_74 rfl ⟨by decide, by decide +kernel⟩ (Nat.le_of_ble_eq_true rfl) (Nat.le_of_ble_eq_true rfl) ?_
        refine c_makeVisit hs hw hna h2 (RS.same (by omega) (fun i k g1 g2 => h1 i k (by omega)) hR) h4 hB (by omega) hu.1 hu.2 ?_
        intro η g1 g2
        show PS l E D cA mX0_play (d + 3) fin 93 [some (.ref 37), some (.ref s), some (.int (nI n)), some (.int (nI k)), some (.int (nI t))] [] η
        refine px_iincn (n := 1) (a := k) (b := k + 1) (ls' := [some (.ref 37), some (.ref s), some (.int (nI n)), some (.int (nI (k + 1))), some (.int (nI t))]) dX0_play_93 rfl rfl rfl (by omega) ?_
        refine pw_goto (tgt := 66) dX0_play_96 (by decide) ?_
        exact ih _ η ⟨fun q k hq => (g2 q k (by omega)).trans (h1 q k hq), (g2 _ _ (by omega)).trans h2, (g2 _ _ (by omega)).trans h3, by rw [gi_some hN]; exact g1⟩
  have lp : ∀ i : Nat, i ≤ n → ∀ ν : Mu, ((∀ q k, ¬ (37 ≤ q ∧ q < 77) → ν q k = μ q k) ∧ ν 37 0 = nI s ∧ ν 37 1 = nI n ∧ (∀ p, p < 8 → ν 76 p = nI 0) ∧ ∀ t, t < i → ν 38 t = nI (tl a t) ∧ ν 74 t = nI 0 ∧ ν 75 t = nI (a (36 + 12 * t)) ∧ ∀ v, v < tl a t → ν (40 + t) v = nI (trv a t v) ∧ ν (47 + t) v = nI (wk a t v)) → PS l E D cA mX0_play (d + 3) fin 20 [some (.ref 37), some (.ref s), some (.int (nI n)), some (.int (nI i)), none] [] ν := by
    refine ps_for n ?_ ?_
    · rintro ν ⟨h1, h2, h3, h4, h5⟩
      refine pw_iload_n dX0_play_20 rfl ?_
      refine pw_aload_n dX0_play_21 rfl ?_
      refine ps_geti (x := nI n) dX0_play_22 kf_X0_45 (by decide) (by decide +kernel) h3 ?_
      refine pn_ge (tgt := 64) dX0_play_25 (by decide) (by omega) (by omega) (fun _ => ?_) (fun h9 => absurd h9 (by omega))
      refine pw_iconst_ (v := nI 0) dX0_play_64 (by decide) ?_
      refine px_istore_n (ls' := [some (.ref 37), some (.ref s), some (.int (nI n)), some (.int (nI 0)), none]) dX0_play_65 rfl rfl (by decide) ?_
      refine lq 0 (Nat.zero_le _) _ ν ⟨h1, h2, h3, fun t ht => ?_, h4⟩
      obtain ⟨k1, k2, k3, k4⟩ := h5 t ht
      exact ⟨k1, k2, k3, k4, fun v hv => absurd hv (Nat.not_lt_zero _)⟩
    · rintro i hi ih ν ⟨h1, h2, h3, h4, h5⟩
      have hT := hR.2.2.2.2 i (by omega)
      refine pw_iload_n dX0_play_20 rfl ?_
      refine pw_aload_n dX0_play_21 rfl ?_
      refine ps_geti (x := nI n) dX0_play_22 kf_X0_45 (by decide) (by decide +kernel) h3 ?_
      refine pn_ge (tgt := 64) dX0_play_25 (by decide) (by omega) (by omega) (fun h9 => absurd h9 (by omega)) (fun _ => ?_)
      refine pw_aload_n dX0_play_28 rfl ?_
      refine pw_iload_n dX0_play_29 rfl ?_
      refine ps_callV (b := 37) (As := [.int (nI i)]) (st := []) dX0_play_30 cv_X0_55 rfl ⟨by decide, by decide +kernel⟩ (Nat.le_of_ble_eq_true rfl) (Nat.le_of_ble_eq_true rfl) ?_
      refine c_layTrail hs hw hna h2 h3 (RS.same (by omega) (fun i k g1 g2 => h1 i k (by omega)) hR) hi ?_
      intro η g1 g2 g3
      show PS l E D cA mX0_play (d + 3) fin 33 [some (.ref 37), some (.ref s), some (.int (nI n)), some (.int (nI i)), none] [] η
      refine pw_aload_n dX0_play_33 rfl ?_
      refine ps_getr (r := 74) dX0_play_34 kf_X0_32 (by decide) (by decide +kernel) ?_
      refine pw_iload_n dX0_play_37 rfl ?_
      refine pw_iconst_ (v := nI 0) dX0_play_38 (by decide) ?_
      refine ps_iast (j := i) dX0_play_39 rfl (ok_ar (n := 6) (by decide +kernel) (by omega)) ?_
      refine pw_aload_n dX0_play_40 rfl ?_
      refine ps_getr (r := 75) dX0_play_41 kf_X0_35 (by decide) (by decide +kernel) ?_
      refine pw_iload_n dX0_play_44 rfl ?_
      refine pw_aload_n dX0_play_45 rfl ?_
      refine ps_getd (r := s) dX0_play_46 kf_X0_41 (by decide) (by decide +kernel) hs31 ((u2_a (by omega)).trans ((g1 _ _ (by omega) (by omega) (by omega)).trans h2)) ?_
      refine ps_getr (r := s + 5) dX0_play_49 kf_X0_59 (by decide) ((ok_S hs).2.2.2.2.2.1) ?_
      refine pw_iload_n dX0_play_52 rfl ?_
      refine ps_aald (t := 5) (j := i) (r := s + 6 + 2 * i) dX0_play_53 rfl (ok_T hs (by omega)).1 (by decide) ?_
      refine ps_geti (x := nI (a (36 + 12 * i))) dX0_play_54 kf_X0_65 (by decide) ((ok_T hs (by omega)).2.2.2.1) ((u2_a (by omega)).trans ((g1 _ _ (by omega) (by omega) (by omega)).trans ((h1 _ _ (by omega)).trans hT.2.1))) ?_
      refine ps_iast (j := i) dX0_play_57 rfl (ok_ar (n := 6) (by decide +kernel) (by omega)) ?_
      refine px_iincn (n := 1) (a := i) (b := i + 1) (ls' := [some (.ref 37), some (.ref s), some (.int (nI n)), some (.int (nI (i + 1))), none]) dX0_play_58 rfl rfl rfl (by omega) ?_
      refine pw_goto (tgt := 20) dX0_play_61 (by decide) ?_
      refine ih _ ⟨fun q k hq => ?_, ?_, ?_, fun p hp => ?_, fun t ht => ?_⟩
      · rw [u2_a (by omega), u2_a (by omega), g1 q k (by omega) (by omega) (by omega)]
        exact h1 q k hq
      · rw [u2_a (by omega), u2_a (by omega), g1 _ _ (by omega) (by omega) (by omega)]
        exact h2
      · rw [u2_a (by omega), u2_a (by omega), g1 _ _ (by omega) (by omega) (by omega)]
        exact h3
      · rw [u2_a (by omega), u2_a (by omega), g1 _ _ (by omega) (by omega) (by omega)]
        exact h4 p hp
      · by_cases e : t = i
        · subst e
          refine ⟨?_, ?_, ?_, fun v hv => ⟨?_, ?_⟩⟩
          · rw [u2_a (by omega), u2_a (by omega)]
            exact g2
          · rw [u2_a (by omega), u2_s]
          · rw [u2_s]
          · rw [u2_a (by omega), u2_a (by omega)]
            exact (g3 v hv).1
          · rw [u2_a (by omega), u2_a (by omega)]
            exact (g3 v hv).2
        · obtain ⟨k1, k2, k3, k4⟩ := h5 t (by omega)
          refine ⟨?_, ?_, ?_, fun v hv => ⟨?_, ?_⟩⟩
          · rw [u2_a (by omega), u2_a (by omega), g1 _ _ (fun _ => e) (by omega) (by omega)]
            exact k1
          · rw [u2_a (by omega), u2_b e, g1 _ _ (by omega) (by omega) (by omega)]
            exact k2
          · rw [u2_b e, u2_a (by omega), g1 _ _ (by omega) (by omega) (by omega)]
            exact k3
          · rw [u2_a (by omega), u2_a (by omega), g1 _ _ (by omega) (by omega) (by omega)]
            exact (k4 v hv).1
          · rw [u2_a (by omega), u2_a (by omega), g1 _ _ (by omega) (by omega) (by omega)]
            exact (k4 v hv).2
  refine lp 0 (Nat.zero_le _) ν0 ⟨fun q k hq => ?_, ?_, ?_, f2, fun t ht => absurd ht (Nat.not_lt_zero _)⟩
  · rw [f1 q k (by omega), u2_a (by omega), u2_a (by omega)]
  · rw [f1 _ _ (by omega), u2_b (by decide), u2_s]
  · rw [f1 _ _ (by omega), u2_s]
set_option maxRecDepth 100000 in
set_option maxHeartbeats 4000000 in
theorem c_playNow {a : AS} (hw : Wf a) (hR : RS μ 1 a) (hf : ∀ ν : Mu, PX ν a (a 3) → ν 37 0 = nI 1 → (∀ q k, ¬ (37 ≤ q ∧ q < 77) → ν q k = μ q k) → fin none ν) : PS l E D cA mX5_playNow (d + 4) fin 0 [some (.ref 0)] [] μ := by
  refine pw_aload_n dX5_playNow_0 rfl ?_
  refine ps_getr (r := 37) dX5_playNow_1 kf_X5_22 (by decide) (by decide +kernel) ?_
  refine pw_aload_n dX5_playNow_4 rfl ?_
  refine ps_getr (r := 1) dX5_playNow_5 kf_X5_10 (by decide) (by decide +kernel) ?_
  refine pw_aload_n dX5_playNow_8 rfl ?_
  refine ps_getr (r := 1) dX5_playNow_9 kf_X5_10 (by decide) (by decide +kernel) ?_
  refine ps_geti (x := nI (a 3)) dX5_playNow_12 kf_X5_98 (by decide) (by decide +kernel) (hR.2.1) ?_
  refine ps_callV (b := 37) (As := [.ref 1, .int (nI (a 3))]) (st := []) dX5_playNow_15 cv_X5_247 rfl ⟨by decide, by decide +kernel⟩ (Nat.le_of_ble_eq_true rfl) (Nat.le_of_ble_eq_true rfl) ?_
  refine c_play (by unfold isS; decide) hw (Nat.le_refl _) hR ?_
  intro ν h1 h2 h3
  show PS l E D cA mX5_playNow (d + 4) fin 18 [some (.ref 0)] [] ν
  exact ps_ret dX5_playNow_18 rfl (hf ν h1 h2 h3)
set_option maxRecDepth 100000 in
set_option maxHeartbeats 4000000 in
theorem c_endNow {a : AS} {t : Nat} (hw : Wf a) (hR : RS μ 1 a) (ht : t < a 3) (hf : ∀ ν : Mu, PX ν a (a 3) → ν 37 0 = nI 1 → (∀ q k, ¬ (37 ≤ q ∧ q < 77) → ν q k = μ q k) → fin (some (.int (nI (ov (gf a (a 3)) t)))) ν) : PS l E D cA mX5_endNow (d + 5) fin 0 [some (.ref 0), some (.int (nI t))] [] μ := by
  refine pw_aload_n dX5_endNow_0 rfl ?_
  refine ps_callV (b := 0) (As := []) (st := []) dX5_endNow_1 cv_X5_159 rfl ⟨by decide, by decide +kernel⟩ (Nat.le_of_ble_eq_true rfl) (Nat.le_of_ble_eq_true rfl) ?_
  refine c_playNow hw hR ?_
  intro ν h1 h2 h3
  show PS l E D cA mX5_endNow (d + 5) fin 4 [some (.ref 0), some (.int (nI t))] [] ν
  refine pw_aload_n dX5_endNow_4 rfl ?_
  refine ps_getr (r := 37) dX5_endNow_5 kf_X5_22 (by decide) (by decide +kernel) ?_
  refine ps_getr (r := 75) dX5_endNow_8 kf_X5_184 (by decide) (by decide +kernel) ?_
  refine pw_iload_n dX5_endNow_11 rfl ?_
  refine ps_iald (j := t) (x := nI (ov (gf a (a 3)) t)) dX5_endNow_12 rfl (ok_ar (n := 6) (by decide +kernel) (by have := hw.2.2.2.1; omega)) (h1.1.1 t ht).2.2.1 ?_
  exact ps_iret dX5_endNow_13 rfl (rfl) (hf ν h1 h2 h3)
end PLAY3
