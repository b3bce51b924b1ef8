/-! Game: trails are laid, who comes next, visits -/
theorem isS_g {s : Nat} (h : isS s) : s + 18 ≤ 37 ∨ 81 ≤ s := by
  have : ∀ s, s ∈ [1, 19, 81, 99, 117, 135, 153, 171, 191, 209] → s + 18 ≤ 37 ∨ 81 ≤ s := by decide
  exact this s h
/-- what the Game's rows hold of a game g over the state a, n teams playing -/
def GX (μ : Mu) (a : AS) (n : Nat) (g : GT) : Prop := (∀ t, t < n → μ 38 t = nI (tl a t) ∧ μ 74 t = nI (dn g t) ∧ μ 75 t = nI (ov g t) ∧ (∀ v, v < tl a t → μ (40 + t) v = nI (trv a t v) ∧ μ (47 + t) v = nI (wk a t v)) ∧ ∀ v, v < dn g t → μ (54 + t) v = nI (cm g t v) ∧ μ (61 + t) v = nI (bg g t v) ∧ μ (68 + t) v = nI (en g t v)) ∧ ∀ p, p < 8 → μ 76 p = nI (fr g p)
theorem lost_iff {p q : Nat} (hp : p < 8) (hq : q ≤ 8) : nI p = nI q - nI 1 ↔ p + 1 = q := by
  have : ∀ p, p < 8 → ∀ q, q < 9 → (nI p = nI q - nI 1 ↔ p + 1 = q) := by decide +kernel
  exact this p hp q (by omega)
theorem pvx_0 (a : AS) (t : Nat) : pvx a t 0 = 0 := rfl
theorem pvy_0 (a : AS) (t : Nat) : pvy a t 0 = 0 := rfl
theorem slo_0 (a : AS) (t : Nat) : slo a t 0 = 1 := rfl
theorem pvx_s (a : AS) (t v : Nat) : pvx a t (v + 1) = px a (trv a t v) := rfl
theorem pvy_s (a : AS) (t v : Nat) : pvy a t (v + 1) = py a (trv a t v) := rfl
theorem slo_s {a : AS} {t v : Nat} : slo a t (v + 1) = if trv a t v + 1 = a (38 + 12 * t) then a 2 else slo a t v := by
  have hl : lob a t (v + 1) = (lob a t v || (trv a t v + 1 == a (38 + 12 * t))) := rfl
  unfold slo
  rw [hl]
  by_cases h : trv a t v + 1 = a (38 + 12 * t)
  · simp [h]
  · have h2 : (trv a t v + 1 == a (38 + 12 * t)) = false := by simp [h]
    rw [h2, Bool.or_false, if_neg h]
section PLAY
variable {l : Launch} {E : EY} {D : va_G} {cA : Nat → ClassId} {fin : Option Value → Mu → Prop} {μ : Mu} {d : Nat}
set_option maxRecDepth 100000 in
set_option maxHeartbeats 4000000 in
theorem c_layTrail {s n : Nat} {a : AS} (hs : isS s) (hw : Wf a) (hna : n ≤ a 3) (hst : μ 37 0 = nI s) (hn : μ 37 1 = nI n) (hR : RS μ s a) {t : Nat} (ht : t < n) (hf : ∀ ν : Mu, (∀ q k, (q = 38 → k ≠ t) → q ≠ 40 + t → q ≠ 47 + t → ν q k = μ q k) → ν 38 t = nI (tl a t) → (∀ v, v < tl a t → ν (40 + t) v = nI (trv a t v) ∧ ν (47 + t) v = nI (wk a t v)) → fin none ν) : PS l E D cA mX0_layTrail (d + 1) fin 0 [some (.ref 37), some (.int (nI t)), none, none, none, none, none, none, none] [] μ := by
  have hsg := isS_g hs
  have hs9 := isS_odd hs
  have hs31 : s < 2 ^ 31 := by omega
  have hn6 : n ≤ 6 := Nat.le_trans hna hw.2.2.2.1
  have htn : t < a 3 := by omega
  have hT := hR.2.2.2.2 t htn
  have hwt := hw.2.2.2.2.2 t htn
  obtain ⟨m, hm, hmv, hmb⟩ := hR.2.2.2.1
  refine pw_aload_n dX0_layTrail_0 rfl ?_
  refine ps_getd (r := s) dX0_layTrail_1 kf_X0_41 (by decide) (by decide +kernel) hs31 hst ?_
  refine ps_getr (r := s + 5) dX0_layTrail_4 kf_X0_59 (by decide) ((ok_S hs).2.2.2.2.2.1) ?_
  refine pw_iload_n dX0_layTrail_7 rfl ?_
  refine ps_aald (t := 5) (j := t) (r := s + 6 + 2 * t) dX0_layTrail_8 rfl (ok_T hs (by omega)).1 (by decide) ?_
  refine px_astore_n (ls' := [some (.ref 37), some (.int (nI t)), some (.ref (s + 6 + 2 * t)), none, none, none, none, none, none]) dX0_layTrail_9 rfl rfl (by decide) ?_
  refine pw_iconst_ (v := nI 0) dX0_layTrail_10 (by decide) ?_
  refine px_istore_n (ls' := [some (.ref 37), some (.int (nI t)), some (.ref (s + 6 + 2 * t)), some (.int (nI 0)), none, none, none, none, none]) dX0_layTrail_11 rfl rfl (by decide) ?_
  refine pw_iconst_ (v := nI 0) dX0_layTrail_12 (by decide) ?_
  refine px_istore (ls' := [some (.ref 37), some (.int (nI t)), some (.ref (s + 6 + 2 * t)), some (.int (nI 0)), some (.int (nI 0)), none, none, none, none]) dX0_layTrail_13 rfl rfl (by decide) ?_
  refine pw_iconst_ (v := nI 0) dX0_layTrail_15 (by decide) ?_
  refine px_istore (ls' := [some (.ref 37), some (.int (nI t)), some (.ref (s + 6 + 2 * t)), some (.int (nI 0)), some (.int (nI 0)), some (.int (nI 0)), none, none, none]) dX0_layTrail_16 rfl rfl (by decide) ?_
  refine pw_iconst_ (v := nI 1) dX0_layTrail_18 (by decide) ?_
  refine px_istore (ls' := [some (.ref 37), some (.int (nI t)), some (.ref (s + 6 + 2 * t)), some (.int (nI 0)), some (.int (nI 0)), some (.int (nI 0)), some (.int (nI 1)), none, none]) dX0_layTrail_19 rfl rfl (by decide) ?_
  refine pw_iconst_ (v := nI 0) dX0_layTrail_21 (by decide) ?_
  refine px_istore (ls' := [some (.ref 37), some (.int (nI t)), some (.ref (s + 6 + 2 * t)), some (.int (nI 0)), some (.int (nI 0)), some (.int (nI 0)), some (.int (nI 1)), some (.int (nI 0)), none]) dX0_layTrail_22 rfl rfl (by decide) ?_
  have lp : ∀ i : Nat, i ≤ a (39 + 12 * t) → ∀ (l8 : Option Value) (ν : Mu), ((∀ q k, q ≠ 40 + t → q ≠ 47 + t → ν q k = μ q k) ∧ ∀ v, v < (trp a t i).length → ν (40 + t) v = nI (trv a t v) ∧ ν (47 + t) v = nI (wk a t v)) → PS l E D cA mX0_layTrail (d + 1) fin 24 [some (.ref 37), some (.int (nI t)), some (.ref (s + 6 + 2 * t)), some (.int (nI ((trp a t i).length))), some (.int (nI (pvx a t (trp a t i).length))), some (.int (nI (pvy a t (trp a t i).length))), some (.int (nI (slo a t (trp a t i).length))), some (.int (nI i)), l8] [] ν := by
    refine ps_for _ ?_ ?_
    · rintro l8 ν ⟨h1, h2⟩
      refine pw_iload dX0_layTrail_24 rfl ?_
      refine pw_aload_n dX0_layTrail_26 rfl ?_
      refine ps_geti (x := nI (a (39 + 12 * t))) dX0_layTrail_27 kf_X0_77 (by decide) ((ok_T hs (by omega)).2.2.1) ((h1 _ _ (by omega) (by omega)).trans hT.1) ?_
      refine pn_ge (tgt := 164) dX0_layTrail_30 (by decide) (by omega) (by omega) (fun _ => ?_) (fun h9 => absurd h9 (by omega))
      refine pw_aload_n dX0_layTrail_164 rfl ?_
      refine ps_getr (r := 38) dX0_layTrail_165 kf_X0_9 (by decide) (by decide +kernel) ?_
      refine pw_iload_n dX0_layTrail_168 rfl ?_
      refine pw_iload_n dX0_layTrail_169 rfl ?_
      refine ps_iast (j := t) dX0_layTrail_170 rfl (ok_ar (n := 6) (by decide +kernel) (by omega)) ?_
      refine ps_ret dX0_layTrail_171 rfl (hf _ ?_ ?_ ?_)
      · intro q k g1 g2 g3
        by_cases e : q = 38
        · subst e
          rw [u2_b (fun h => g1 rfl h)]
          exact h1 _ _ g2 g3
        · rw [u2_a e]
          exact h1 _ _ g2 g3
      · rw [u2_s]
        rfl
      · intro v hv
        rw [u2_a (by omega), u2_a (by omega)]
        exact h2 v hv
    · rintro i hi ih l8 ν ⟨h1, h2⟩
      have hr := hwt.2.2.2.2 i hi
      have hpl := hw.2.2.2.2.1 _ hr
      have hll := trp_len a t i
      refine pw_iload dX0_layTrail_24 rfl ?_
      refine pw_aload_n dX0_layTrail_26 rfl ?_
      refine ps_geti (x := nI (a (39 + 12 * t))) dX0_layTrail_27 kf_X0_77 (by decide) ((ok_T hs (by omega)).2.2.1) ((h1 _ _ (by omega) (by omega)).trans hT.1) ?_
      refine pn_ge (tgt := 164) dX0_layTrail_30 (by decide) (by omega) (by omega) (fun h9 => absurd h9 (by omega)) (fun _ => ?_)
      refine pw_aload_n dX0_layTrail_33 rfl ?_
      refine ps_getr (r := s + 7 + 2 * t) dX0_layTrail_34 kf_X0_80 (by decide) ((ok_T hs (by omega)).2.1) ?_
      refine pw_iload dX0_layTrail_37 rfl ?_
      refine ps_iald (j := i) (x := nI (a (40 + 12 * t + i))) dX0_layTrail_39 rfl (ok_ar (n := 8) ((ok_T hs (by omega)).2.2.2.2.2.2) (by omega)) ((h1 _ _ (by omega) (by omega)).trans (hT.2.2.2.2 i hi)) ?_
      refine px_istore (ls' := [some (.ref 37), some (.int (nI t)), some (.ref (s + 6 + 2 * t)), some (.int (nI ((trp a t i).length))), some (.int (nI (pvx a t (trp a t i).length))), some (.int (nI (pvy a t (trp a t i).length))), some (.int (nI (slo a t (trp a t i).length))), some (.int (nI i)), some (.int (nI (a (40 + 12 * t + i))))]) dX0_layTrail_40 rfl rfl (by decide) ?_
      refine pw_aload_n dX0_layTrail_42 rfl ?_
      refine ps_getd (r := s) dX0_layTrail_43 kf_X0_41 (by decide) (by decide +kernel) hs31 ((h1 _ _ (by omega) (by omega)).trans hst) ?_
      refine pw_iload dX0_layTrail_46 rfl ?_
      refine ps_callV (b := s) (As := [.int (nI (a (40 + 12 * t + i)))]) (st := []) dX0_layTrail_48 cv_X0_83 rfl ⟨(okk_of (ok_S hs).1).1, (okk_of (ok_S hs).1).2.1⟩ (Nat.le_of_ble_eq_true rfl) (Nat.le_of_ble_eq_true rfl) ?_
      refine c_S_isClosed hs hm hr (((h1 _ _ (by omega) (by omega))).trans hmv) ?_
      show PS l E D cA mX0_layTrail (d + 1) fin 51 [some (.ref 37), some (.int (nI t)), some (.ref (s + 6 + 2 * t)), some (.int (nI ((trp a t i).length))), some (.int (nI (pvx a t (trp a t i).length))), some (.int (nI (pvy a t (trp a t i).length))), some (.int (nI (slo a t (trp a t i).length))), some (.int (nI i)), some (.int (nI (a (40 + 12 * t + i))))] [.int (kb (m / 2 ^ a (40 + 12 * t + i) % 2 = 1))] ν
      by_cases hc : a (7 + 4 * a (40 + 12 * t + i)) = 1
      · rw [kb_t ((hmb _ hr).trans hc)]
        refine pw_if_eq (tgt := 57) dX0_layTrail_51 (by decide) (fun h9 => absurd h9 nI1_ne) (fun _ => ?_)
        refine pw_goto (tgt := 158) dX0_layTrail_54 (by decide) ?_
        refine px_iincn (n := 1) (a := i) (b := i + 1) (ls' := [some (.ref 37), some (.int (nI t)), some (.ref (s + 6 + 2 * t)), some (.int (nI ((trp a t i).length))), some (.int (nI (pvx a t (trp a t i).length))), some (.int (nI (pvy a t (trp a t i).length))), some (.int (nI (slo a t (trp a t i).length))), some (.int (nI (i + 1))), some (.int (nI (a (40 + 12 * t + i))))]) dX0_layTrail_158 rfl rfl rfl (by omega) ?_
        refine pw_goto (tgt := 24) dX0_layTrail_161 (by decide) ?_
        have e9 : trp a t (i + 1) = trp a t i := by rw [trp_s, if_neg (by omega), List.append_nil]
        rw [e9] at ih
        exact ih _ ν ⟨h1, h2⟩
      · rw [kb_f (fun q => hc ((hmb _ hr).symm.trans q))]
        refine pw_if_eq (tgt := 57) dX0_layTrail_51 (by decide) (fun _ => ?_) (fun h9 => absurd h9 (fun q => q nI_0))
        have ho : a (7 + 4 * a (40 + 12 * t + i)) = 0 := by omega
        obtain ⟨hv1, hv2⟩ := trv_at hi ho
        have e9 : (trp a t (i + 1)).length = (trp a t i).length + 1 := by rw [trp_s, if_pos ho, List.length_append]; rfl
        have hpx : pvx a t (trp a t i).length ≤ 20 ∧ pvy a t (trp a t i).length ≤ 20 := by
          unfold pvx pvy
          split
          · exact ⟨Nat.zero_le _, Nat.zero_le _⟩
          · have h2 := hw.2.2.2.2.1 _ (trv_lt hw htn (v := (trp a t i).length - 1) (by omega))
            exact ⟨h2.1, h2.2.1⟩
        refine pw_aload_n dX0_layTrail_57 rfl ?_
        refine ps_getr (r := 39) dX0_layTrail_58 kf_X0_17 (by decide) (by decide +kernel) ?_
        refine pw_iload_n dX0_layTrail_61 rfl ?_
        refine ps_aald (t := 3) (j := t) (r := 40 + t) dX0_layTrail_62 rfl (ok_g (b := 39) (by decide) (by omega)) (by decide) ?_
        refine pw_iload_n dX0_layTrail_63 rfl ?_
        refine pw_iload dX0_layTrail_64 rfl ?_
        refine ps_iast (j := (trp a t i).length) dX0_layTrail_66 rfl (ok_ar (n := 8) (ok_gr (b := 39) (by decide) (by omega)) (by omega)) ?_
        refine pw_aload_n dX0_layTrail_67 rfl ?_
        refine ps_getr (r := 46) dX0_layTrail_68 kf_X0_20 (by decide) (by decide +kernel) ?_
        refine pw_iload_n dX0_layTrail_71 rfl ?_
        refine ps_aald (t := 3) (j := t) (r := 47 + t) dX0_layTrail_72 rfl (ok_g (b := 46) (by decide) (by omega)) (by decide) ?_
        refine pw_iload_n dX0_layTrail_73 rfl ?_
        refine pw_iload dX0_layTrail_74 rfl ?_
        refine pw_aload_n dX0_layTrail_76 rfl ?_
        refine ps_getd (r := s) dX0_layTrail_77 kf_X0_41 (by decide) (by decide +kernel) hs31 ((u2_a (by omega)).trans ((h1 _ _ (by omega) (by omega)).trans hst)) ?_
        refine ps_getr (r := s + 2) dX0_layTrail_80 kf_X0_87 (by decide) ((ok_S hs).2.1) ?_
        refine pw_iload dX0_layTrail_83 rfl ?_
        refine ps_iald (j := a (40 + 12 * t + i)) (x := nI (px a (a (40 + 12 * t + i)))) dX0_layTrail_85 rfl (ok_ar (n := 8) ((ok_S hs).2.2.2.2.2.2.2.2.1) (by omega)) ((u2_a (by omega)).trans ((h1 _ _ (by omega) (by omega)).trans (hR.2.2.1 _ hr).1)) ?_
        refine pw_iload dX0_layTrail_86 rfl ?_
        refine pw_isub dX0_layTrail_88 ?_
        refine pw_mabs dX0_layTrail_89 cm_X0_90 (by rw [emy_len]; exact Nat.le_refl _) (by rw [emy_sum]; exact Nat.le_refl _) (Nat.le_of_ble_eq_true rfl) ?_
        rw [abs_nI (by simp only [px]; omega) (by omega)]
        refine pw_aload_n dX0_layTrail_92 rfl ?_
        refine ps_getd (r := s) dX0_layTrail_93 kf_X0_41 (by decide) (by decide +kernel) hs31 ((u2_a (by omega)).trans ((h1 _ _ (by omega) (by omega)).trans hst)) ?_
        refine ps_getr (r := s + 3) dX0_layTrail_96 kf_X0_96 (by decide) ((ok_S hs).2.2.1) ?_
        refine pw_iload dX0_layTrail_99 rfl ?_
        refine ps_iald (j := a (40 + 12 * t + i)) (x := nI (py a (a (40 + 12 * t + i)))) dX0_layTrail_101 rfl (ok_ar (n := 8) ((ok_S hs).2.2.2.2.2.2.2.2.2.1) (by omega)) ((u2_a (by omega)).trans ((h1 _ _ (by omega) (by omega)).trans (hR.2.2.1 _ hr).2.1)) ?_
        refine pw_iload dX0_layTrail_102 rfl ?_
        refine pw_isub dX0_layTrail_104 ?_
        refine pw_mabs dX0_layTrail_105 cm_X0_90 (by rw [emy_len]; exact Nat.le_refl _) (by rw [emy_sum]; exact Nat.le_refl _) (Nat.le_of_ble_eq_true rfl) ?_
        rw [abs_nI (by simp only [py]; omega) (by omega)]
        refine px_iaddn (c := dist (px a (a (40 + 12 * t + i))) (pvx a t (trp a t i).length) + dist (py a (a (40 + 12 * t + i))) (pvy a t (trp a t i).length)) dX0_layTrail_108 rfl ?_
        refine px_imuln (c := wk a t (trp a t i).length) dX0_layTrail_109 (by unfold wk; rw [hv1]) ?_
        refine ps_iast (j := (trp a t i).length) dX0_layTrail_110 rfl (ok_ar (n := 8) (ok_gr (b := 46) (by decide) (by omega)) (by omega)) ?_
        refine px_iincn (n := 1) (a := (trp a t i).length) (b := (trp a t i).length + 1) (ls' := [some (.ref 37), some (.int (nI t)), some (.ref (s + 6 + 2 * t)), some (.int (nI ((trp a t i).length + 1))), some (.int (nI (pvx a t (trp a t i).length))), some (.int (nI (pvy a t (trp a t i).length))), some (.int (nI (slo a t (trp a t i).length))), some (.int (nI i)), some (.int (nI (a (40 + 12 * t + i))))]) dX0_layTrail_111 rfl rfl rfl (by omega) ?_
        refine pw_aload_n dX0_layTrail_114 rfl ?_
        refine ps_getd (r := s) dX0_layTrail_115 kf_X0_41 (by decide) (by decide +kernel) hs31 ((u2_a (by omega)).trans ((u2_a (by omega)).trans ((h1 _ _ (by omega) (by omega)).trans hst))) ?_
        refine ps_getr (r := s + 2) dX0_layTrail_118 kf_X0_87 (by decide) ((ok_S hs).2.1) ?_
        refine pw_iload dX0_layTrail_121 rfl ?_
        refine ps_iald (j := a (40 + 12 * t + i)) (x := nI (px a (a (40 + 12 * t + i)))) dX0_layTrail_123 rfl (ok_ar (n := 8) ((ok_S hs).2.2.2.2.2.2.2.2.1) (by omega)) ((u2_a (by omega)).trans ((u2_a (by omega)).trans ((h1 _ _ (by omega) (by omega)).trans (hR.2.2.1 _ hr).1))) ?_
        refine px_istore (ls' := [some (.ref 37), some (.int (nI t)), some (.ref (s + 6 + 2 * t)), some (.int (nI ((trp a t i).length + 1))), some (.int (nI (px a (a (40 + 12 * t + i))))), some (.int (nI (pvy a t (trp a t i).length))), some (.int (nI (slo a t (trp a t i).length))), some (.int (nI i)), some (.int (nI (a (40 + 12 * t + i))))]) dX0_layTrail_124 rfl rfl (by decide) ?_
        refine pw_aload_n dX0_layTrail_126 rfl ?_
        refine ps_getd (r := s) dX0_layTrail_127 kf_X0_41 (by decide) (by decide +kernel) hs31 ((u2_a (by omega)).trans ((u2_a (by omega)).trans ((h1 _ _ (by omega) (by omega)).trans hst))) ?_
        refine ps_getr (r := s + 3) dX0_layTrail_130 kf_X0_96 (by decide) ((ok_S hs).2.2.1) ?_
        refine pw_iload dX0_layTrail_133 rfl ?_
        refine ps_iald (j := a (40 + 12 * t + i)) (x := nI (py a (a (40 + 12 * t + i)))) dX0_layTrail_135 rfl (ok_ar (n := 8) ((ok_S hs).2.2.2.2.2.2.2.2.2.1) (by omega)) ((u2_a (by omega)).trans ((u2_a (by omega)).trans ((h1 _ _ (by omega) (by omega)).trans (hR.2.2.1 _ hr).2.1))) ?_
        refine px_istore (ls' := [some (.ref 37), some (.int (nI t)), some (.ref (s + 6 + 2 * t)), some (.int (nI ((trp a t i).length + 1))), some (.int (nI (px a (a (40 + 12 * t + i))))), some (.int (nI (py a (a (40 + 12 * t + i))))), some (.int (nI (slo a t (trp a t i).length))), some (.int (nI i)), some (.int (nI (a (40 + 12 * t + i))))]) dX0_layTrail_136 rfl rfl (by decide) ?_
        refine pw_iload dX0_layTrail_138 rfl ?_
        refine pw_aload_n dX0_layTrail_140 rfl ?_
        refine ps_geti (x := nI (a (38 + 12 * t)) - nI 1) dX0_layTrail_141 kf_X0_99 (by decide) ((ok_T hs (by omega)).2.2.2.2.2.1) ((u2_a (by omega)).trans ((u2_a (by omega)).trans ((h1 _ _ (by omega) (by omega)).trans hT.2.2.2.1))) ?_
        refine pw_icmp_ne (tgt := 158) dX0_layTrail_144 (by decide) (fun hc2 => ?_) (fun hc2 => ?_)
        · refine px_iincn (n := 1) (a := i) (b := i + 1) (ls' := [some (.ref 37), some (.int (nI t)), some (.ref (s + 6 + 2 * t)), some (.int (nI ((trp a t i).length + 1))), some (.int (nI (px a (a (40 + 12 * t + i))))), some (.int (nI (py a (a (40 + 12 * t + i))))), some (.int (nI (slo a t (trp a t i).length))), some (.int (nI (i + 1))), some (.int (nI (a (40 + 12 * t + i))))]) dX0_layTrail_158 rfl rfl rfl (by omega) ?_
          refine pw_goto (tgt := 24) dX0_layTrail_161 (by decide) ?_
          have E1 : pvx a t (trp a t (i + 1)).length = px a (a (40 + 12 * t + i)) := by rw [e9, pvx_s, hv1]
          have E2 : pvy a t (trp a t (i + 1)).length = py a (a (40 + 12 * t + i)) := by rw [e9, pvy_s, hv1]
          have E3 : slo a t (trp a t (i + 1)).length = slo a t (trp a t i).length := by rw [e9, slo_s, hv1, if_neg (fun q => hc2 ((lost_iff hr hwt.2.2.1).mpr q))]
          rw [E1, E2, E3, e9] at ih
          refine ih _ _ ⟨fun q k g1 g2 => ?_, fun v hv => ?_⟩
          · rw [u2_a g2, u2_a g1]
            exact h1 q k g1 g2
          · by_cases e : v = (trp a t i).length
            · subst e
              refine ⟨?_, ?_⟩
              · rw [u2_a (by omega), u2_s, hv1]
              · rw [u2_s]
            · refine ⟨?_, ?_⟩
              · rw [u2_a (by omega), u2_b e]
                exact (h2 v (by omega)).1
              · rw [u2_b e, u2_a (by omega)]
                exact (h2 v (by omega)).2
        · refine pw_aload_n dX0_layTrail_147 rfl ?_
          refine ps_getd (r := s) dX0_layTrail_148 kf_X0_41 (by decide) (by decide +kernel) hs31 ((u2_a (by omega)).trans ((u2_a (by omega)).trans ((h1 _ _ (by omega) (by omega)).trans hst))) ?_
          refine ps_getr (r := s + 1) dX0_layTrail_151 kf_X0_102 (by decide) ((ok_S hs).1) ?_
          refine pw_iconst_ (v := nI 2) dX0_layTrail_154 (by decide) ?_
          refine ps_iald (j := 2) (x := nI (a 2)) dX0_layTrail_155 rfl (ok_ar (n := 3) ((ok_S hs).2.2.2.2.2.2.2.1) (by decide)) ((u2_a (by omega)).trans ((u2_a (by omega)).trans ((h1 _ _ (by omega) (by omega)).trans (hR.1 2 (by decide))))) ?_
          refine px_istore (ls' := [some (.ref 37), some (.int (nI t)), some (.ref (s + 6 + 2 * t)), some (.int (nI ((trp a t i).length + 1))), some (.int (nI (px a (a (40 + 12 * t + i))))), some (.int (nI (py a (a (40 + 12 * t + i))))), some (.int (nI (a 2))), some (.int (nI i)), some (.int (nI (a (40 + 12 * t + i))))]) dX0_layTrail_156 rfl rfl (by decide) ?_
          refine px_iincn (n := 1) (a := i) (b := i + 1) (ls' := [some (.ref 37), some (.int (nI t)), some (.ref (s + 6 + 2 * t)), some (.int (nI ((trp a t i).length + 1))), some (.int (nI (px a (a (40 + 12 * t + i))))), some (.int (nI (py a (a (40 + 12 * t + i))))), some (.int (nI (a 2))), some (.int (nI (i + 1))), some (.int (nI (a (40 + 12 * t + i))))]) dX0_layTrail_158 rfl rfl rfl (by omega) ?_
          refine pw_goto (tgt := 24) dX0_layTrail_161 (by decide) ?_
          have E1 : pvx a t (trp a t (i + 1)).length = px a (a (40 + 12 * t + i)) := by rw [e9, pvx_s, hv1]
          have E2 : pvy a t (trp a t (i + 1)).length = py a (a (40 + 12 * t + i)) := by rw [e9, pvy_s, hv1]
          have E3 : slo a t (trp a t (i + 1)).length = a 2 := by rw [e9, slo_s, hv1, if_pos ((lost_iff hr hwt.2.2.1).mp hc2)]
          rw [E1, E2, E3, e9] at ih
          refine ih _ _ ⟨fun q k g1 g2 => ?_, fun v hv => ?_⟩
          · rw [u2_a g2, u2_a g1]
            exact h1 q k g1 g2
          · by_cases e : v = (trp a t i).length
            · subst e
              refine ⟨?_, ?_⟩
              · rw [u2_a (by omega), u2_s, hv1]
              · rw [u2_s]
            · refine ⟨?_, ?_⟩
              · rw [u2_a (by omega), u2_b e]
                exact (h2 v (by omega)).1
              · rw [u2_b e, u2_a (by omega)]
                exact (h2 v (by omega)).2
  exact lp 0 (Nat.zero_le _) _ μ ⟨fun _ _ _ _ => rfl, fun v hv => absurd hv (Nat.not_lt_zero _)⟩
end PLAY
