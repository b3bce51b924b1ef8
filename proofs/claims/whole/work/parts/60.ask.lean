/-! the model: questions -/
section MODS
variable {l : Launch} {E : EV} {D : va_G} {cA : Nat → ClassId} {fin : Option Value → Mu → Prop} {μ : Mu} {d : Nat}
set_option maxRecDepth 100000 in
set_option maxHeartbeats 4000000 in
theorem m_teamOf {c : CS} (hw : CW c) (hx : MX μ c) {v w : Int32} (hf : ∀ ν : Mu, MX ν (o_teamOf c v w).2 → SX ν μ → fin (some (.int (o_teamOf c v w).1)) ν) : PS l E D cA mX6_teamOf (d + 5) fin 0 [some (.ref 227), some (.int v), some (.int w)] [] μ := by
  have hq := hx
  refine pw_aload_n dX6_teamOf_0 rfl ?_
  refine pw_iload_n dX6_teamOf_1 rfl ?_
  refine ps_callV (b := 227) (As := [.int v]) (st := []) dX6_teamOf_2 cv_X6_167 rfl ⟨by decide, by decide +kernel⟩ (Nat.le_of_ble_eq_true rfl) (Nat.le_of_ble_eq_true rfl) ?_
  refine m_isTeam (hx.1 3 (by decide)) ?_
  refine pw_if_ne (tgt := 11) dX6_teamOf_5 (by decide) (fun h9 => ?_) (fun h9 => ?_)
  · have h1 := kb_ne0.mp h9
    obtain ⟨t, ht, rfl⟩ := (rg_nat (by have := hw.1.t6; omega)).mp h1
    have t6 : t < 6 := Nat.lt_of_lt_of_le ht hw.1.t6
    have htn : iN (nI t) = t := iN_nI (by omega)
    refine pw_aload_n dX6_teamOf_11 rfl ?_
    refine ps_callV (b := 227) (As := []) (st := []) dX6_teamOf_12 cv_X6_138 rfl ⟨by decide, by decide +kernel⟩ (Nat.le_of_ble_eq_true rfl) (Nat.le_of_ble_eq_true rfl) ?_
    refine m_playAll hw.1 hx.1 (fun ρ p1 p2 => ?_)
    have hxρ : MX ρ c := hx.kg p2.kg (p2.rm hx.1)
    have hSρ : SX ρ μ := p2.kg.sx'
    show PS l E D cA mX6_teamOf (d + 5) fin 15 [some (.ref 227), some (.int (nI t)), some (.int w)] [] ρ
    refine pw_iload_n dX6_teamOf_15 rfl ?_
    have hPt := p1.t hw.1 (Nat.le_refl _) ht
    have t6 : t < 6 := hPt.2.2.2.2
    by_cases hk : inR w 9
    · obtain ⟨k, hk2, rfl⟩ := (rg_to (by decide)).mp hk
      rcases (show k = 0 ∨ k = 1 ∨ k = 2 ∨ k = 3 ∨ k = 4 ∨ k = 5 ∨ k = 6 ∨ k = 7 ∨ k = 8 ∨ k = 9 by omega) with rfl | rfl | rfl | rfl | rfl | rfl | rfl | rfl | rfl | rfl
      · refine pw_switchIn (tgt := 72) dX6_teamOf_16 (by decide) (by decide) rfl (by decide) ?_
        refine pw_aload_n dX6_teamOf_72 rfl ?_
        refine pw_iload_n dX6_teamOf_73 rfl ?_
        refine pw_iconst_ (v := nI 0) dX6_teamOf_74 (by decide) ?_
        refine ps_callV (b := 227) (As := [.int (nI t), .int (nI 0)]) (st := []) dX6_teamOf_75 cv_X6_85 rfl ⟨by decide, by decide +kernel⟩ (Nat.le_of_ble_eq_true rfl) (Nat.le_of_ble_eq_true rfl) ?_
        refine m_its (t := t) (w := 0) (by omega) ((hxρ.1 _ (by omega)).trans (by rw [show 36 + 12 * t + 0 = 36 + 12 * t by omega])) ?_
        have e9 : o_teamOf c (nI t) (nI 0) = (nI (na c (36 + 12 * t)), c) := by
          unfold o_teamOf
          rw [if_pos h1, htn, if_pos (by decide)]
          rfl
        rw [e9] at hf
        exact ps_iret dX6_teamOf_78 rfl rfl (hf ρ hxρ hSρ)
      · refine pw_switchIn (tgt := 79) dX6_teamOf_16 (by decide) (by decide) rfl (by decide) ?_
        refine pw_aload_n dX6_teamOf_79 rfl ?_
        refine ps_getr (r := 243) dX6_teamOf_80 kf_X6_56 (by decide) (by decide +kernel) ?_
        refine pw_iload_n dX6_teamOf_83 rfl ?_
        refine ps_iald (j := t) (x := nI (OV (na c) (na c 3) t)) dX6_teamOf_84 rfl (ok_ar (n := 6) (by decide +kernel) (by omega)) (hPt.2.2.1) ?_
        have e9 : o_teamOf c (nI t) (nI 1) = (nI (OV (na c) (na c 3) t), c) := by
          unfold o_teamOf
          rw [if_pos h1, htn, if_pos (by decide)]
          rfl
        rw [e9] at hf
        exact ps_iret dX6_teamOf_85 rfl rfl (hf ρ hxρ hSρ)
      · refine pw_switchIn (tgt := 86) dX6_teamOf_16 (by decide) (by decide) rfl (by decide) ?_
        refine pw_aload_n dX6_teamOf_86 rfl ?_
        refine pw_iload_n dX6_teamOf_87 rfl ?_
        refine pw_iconst_ (v := nI 3) dX6_teamOf_88 (by decide) ?_
        refine ps_callV (b := 227) (As := [.int (nI t), .int (nI 3)]) (st := []) dX6_teamOf_89 cv_X6_85 rfl ⟨by decide, by decide +kernel⟩ (Nat.le_of_ble_eq_true rfl) (Nat.le_of_ble_eq_true rfl) ?_
        refine m_its (t := t) (w := 3) (by omega) ((hxρ.1 _ (by omega)).trans (by rw [show 36 + 12 * t + 3 = 39 + 12 * t by omega])) ?_
        have e9 : o_teamOf c (nI t) (nI 2) = (nI (na c (39 + 12 * t)), c) := by
          unfold o_teamOf
          rw [if_pos h1, htn, if_pos (by decide)]
          rfl
        rw [e9] at hf
        exact ps_iret dX6_teamOf_92 rfl rfl (hf ρ hxρ hSρ)
      · refine pw_switchIn (tgt := 93) dX6_teamOf_16 (by decide) (by decide) rfl (by decide) ?_
        refine pw_aload_n dX6_teamOf_93 rfl ?_
        refine ps_getr (r := 237) dX6_teamOf_94 kf_X6_38 (by decide) (by decide +kernel) ?_
        refine pw_iload_n dX6_teamOf_97 rfl ?_
        refine ps_iald (j := t) (x := nI (tl (na c) t)) dX6_teamOf_98 rfl (ok_ar (n := 6) (by decide +kernel) (by omega)) (hPt.1) ?_
        have e9 : o_teamOf c (nI t) (nI 3) = (nI (tl (na c) t), c) := by
          unfold o_teamOf
          rw [if_pos h1, htn, if_pos (by decide)]
          rfl
        rw [e9] at hf
        exact ps_iret dX6_teamOf_99 rfl rfl (hf ρ hxρ hSρ)
      · refine pw_switchIn (tgt := 100) dX6_teamOf_16 (by decide) (by decide) rfl (by decide) ?_
        refine pw_aload_n dX6_teamOf_100 rfl ?_
        refine pw_iload_n dX6_teamOf_101 rfl ?_
        refine ps_callV (b := 227) (As := [.int (nI t)]) (st := []) dX6_teamOf_102 cv_X6_126 rfl ⟨by decide, by decide +kernel⟩ (Nat.le_of_ble_eq_true rfl) (Nat.le_of_ble_eq_true rfl) ?_
        refine m_queued hw.1 (Nat.le_refl _) p1 ht ?_
        have e9 : o_teamOf c (nI t) (nI 4) = (nI (qd (na c) (na c 3) t (tl (na c) t)), c) := by
          unfold o_teamOf
          rw [if_pos h1, htn, if_pos (by decide)]
          rfl
        rw [e9] at hf
        exact ps_iret dX6_teamOf_105 rfl rfl (hf ρ hxρ hSρ)
      · refine pw_switchIn (tgt := 106) dX6_teamOf_16 (by decide) (by decide) rfl (by decide) ?_
        refine pw_aload_n dX6_teamOf_106 rfl ?_
        refine pw_iload_n dX6_teamOf_107 rfl ?_
        refine ps_callV (b := 227) (As := [.int (nI t)]) (st := []) dX6_teamOf_108 cv_X6_189 rfl ⟨by decide, by decide +kernel⟩ (Nat.le_of_ble_eq_true rfl) (Nat.le_of_ble_eq_true rfl) ?_
        refine m_walked hw.1 (Nat.le_refl _) p1 ht ?_
        have e9 : o_teamOf c (nI t) (nI 5) = (nI (wd (na c) t (tl (na c) t)), c) := by
          unfold o_teamOf
          rw [if_pos h1, htn, if_pos (by decide)]
          rfl
        rw [e9] at hf
        exact ps_iret dX6_teamOf_111 rfl rfl (hf ρ hxρ hSρ)
      · refine pw_switchIn (tgt := 112) dX6_teamOf_16 (by decide) (by decide) rfl (by decide) ?_
        refine pw_aload_n dX6_teamOf_112 rfl ?_
        refine pw_iload_n dX6_teamOf_113 rfl ?_
        refine ps_callV (b := 227) (As := [.int (nI t)]) (st := []) dX6_teamOf_114 cv_X6_132 rfl ⟨by decide, by decide +kernel⟩ (Nat.le_of_ble_eq_true rfl) (Nat.le_of_ble_eq_true rfl) ?_
        refine m_points hw.1 (Nat.le_refl _) p1 hxρ.1 ht ?_
        have e9 : o_teamOf c (nI t) (nI 6) = (pt (na c) (na c 3) t, c) := by
          unfold o_teamOf
          rw [if_pos h1, htn, if_pos (by decide)]
          rfl
        rw [e9] at hf
        exact ps_iret dX6_teamOf_117 rfl rfl (hf ρ hxρ hSρ)
      · refine pw_switchIn (tgt := 118) dX6_teamOf_16 (by decide) (by decide) rfl (by decide) ?_
        refine pw_aload_n dX6_teamOf_118 rfl ?_
        refine pw_iload_n dX6_teamOf_119 rfl ?_
        refine ps_callV (b := 227) (As := [.int (nI t)]) (st := []) dX6_teamOf_120 cv_X6_192 rfl ⟨by decide, by decide +kernel⟩ (Nat.le_of_ble_eq_true rfl) (Nat.le_of_ble_eq_true rfl) ?_
        refine m_rank hw.1 (Nat.le_refl _) p1 hxρ.1 ht ?_
        have e9 : o_teamOf c (nI t) (nI 7) = (nI (rk (na c) (na c 3) t), c) := by
          unfold o_teamOf
          rw [if_pos h1, htn, if_pos (by decide)]
          rfl
        rw [e9] at hf
        exact ps_iret dX6_teamOf_123 rfl rfl (hf ρ hxρ hSρ)
      · refine pw_switchIn (tgt := 124) dX6_teamOf_16 (by decide) (by decide) rfl (by decide) ?_
        refine pw_aload_n dX6_teamOf_124 rfl ?_
        refine pw_iload_n dX6_teamOf_125 rfl ?_
        refine ps_callV (b := 227) (As := [.int (nI t)]) (st := []) dX6_teamOf_126 cv_X6_129 rfl ⟨by decide, by decide +kernel⟩ (Nat.le_of_ble_eq_true rfl) (Nat.le_of_ble_eq_true rfl) ?_
        refine m_hinted hw.1 (Nat.le_refl _) p1 ht hxρ.1 ?_
        have e9 : o_teamOf c (nI t) (nI 8) = (nI (hd (na c) t (tl (na c) t)), c) := by
          unfold o_teamOf
          rw [if_pos h1, htn, if_pos (by decide)]
          rfl
        rw [e9] at hf
        exact ps_iret dX6_teamOf_129 rfl rfl (hf ρ hxρ hSρ)
      · refine pw_switchIn (tgt := 130) dX6_teamOf_16 (by decide) (by decide) rfl (by decide) ?_
        refine pw_aload_n dX6_teamOf_130 rfl ?_
        refine pw_iload_n dX6_teamOf_131 rfl ?_
        refine ps_callV (b := 227) (As := [.int (nI t)]) (st := []) dX6_teamOf_132 cv_X6_180 rfl ⟨by decide, by decide +kernel⟩ (Nat.le_of_ble_eq_true rfl) (Nat.le_of_ble_eq_true rfl) ?_
        refine m_met hw.1 (Nat.le_refl _) p1 ht ?_
        have e9 : o_teamOf c (nI t) (nI 9) = (nI (msk (metp (na c) (na c 3) t) (na c 3)), c) := by
          unfold o_teamOf
          rw [if_pos h1, htn, if_pos (by decide)]
          rfl
        rw [e9] at hf
        exact ps_iret dX6_teamOf_135 rfl rfl (hf ρ hxρ hSρ)
    · refine pw_switchOut (tgt := 136) dX6_teamOf_16 (out_of (m := 9) (by decide) hk) (by decide) ?_
      refine pw_ldc dX6_teamOf_136 kc_X6_74 ?_
      have e9 : o_teamOf c (nI t) w = (-100002, c) := by
        unfold o_teamOf
        rw [if_pos h1, if_neg hk]
      rw [e9] at hf
      exact ps_iret dX6_teamOf_138 rfl rfl (hf ρ hxρ hSρ)
  · have h1 := kb_eq0.mp h9
    refine pw_ldc dX6_teamOf_8 kc_X6_144 ?_
    have e9 : o_teamOf c v w = ((-100001), c) := by
      unfold o_teamOf
      rw [if_neg h1]
    rw [e9] at hf
    exact ps_iret dX6_teamOf_10 rfl (rfl) (hf _ hx SX.rfl)
set_option maxRecDepth 100000 in
set_option maxHeartbeats 4000000 in
theorem m_count {c : CS} (hw : CW c) (hx : MX μ c) {w : Int32} (hf : ∀ ν : Mu, MX ν (o_count c w).2 → SX ν μ → fin (some (.int (o_count c w).1)) ν) : PS l E D cA mX6_count (d + 6) fin 0 [some (.ref 227), some (.int w)] [] μ := by
  have hq := hx
  refine pw_aload_n dX6_count_0 rfl ?_
  refine ps_callV (b := 227) (As := []) (st := []) dX6_count_1 cv_X6_138 rfl ⟨by decide, by decide +kernel⟩ (Nat.le_of_ble_eq_true rfl) (Nat.le_of_ble_eq_true rfl) ?_
  refine m_playAll hw.1 hx.1 (fun ρ p1 p2 => ?_)
  have hxρ : MX ρ c := hx.kg p2.kg (p2.rm hx.1)
  have hSρ : SX ρ μ := p2.kg.sx'
  show PS l E D cA mX6_count (d + 6) fin 4 [some (.ref 227), some (.int w)] [] ρ
  refine pw_iload_n dX6_count_4 rfl ?_
  by_cases hk : inR w 12
  · obtain ⟨k, hk2, rfl⟩ := (rg_to (by decide)).mp hk
    rcases (show k = 0 ∨ k = 1 ∨ k = 2 ∨ k = 3 ∨ k = 4 ∨ k = 5 ∨ k = 6 ∨ k = 7 ∨ k = 8 ∨ k = 9 ∨ k = 10 ∨ k = 11 ∨ k = 12 by omega) with rfl | rfl | rfl | rfl | rfl | rfl | rfl | rfl | rfl | rfl | rfl | rfl | rfl
    · refine pw_switchIn (tgt := 72) dX6_count_5 (by decide) (by decide) rfl (by decide) ?_
      refine pw_aload_n dX6_count_72 rfl ?_
      refine ps_getr (r := 228) dX6_count_73 kf_X6_7 (by decide) (by decide +kernel) ?_
      refine pw_iload_n dX6_count_76 rfl ?_
      refine ps_iald (j := 0) (x := nI (na c 0)) dX6_count_77 rfl (ok_ar (n := 108) (by decide +kernel) (by decide)) (hxρ.1 0 (by decide)) ?_
      have e9 : o_count c (nI 0) = (nI (na c 0), c) := by
        unfold o_count
        rw [if_pos (by decide)]
        rfl
      rw [e9] at hf
      exact ps_iret dX6_count_78 rfl rfl (hf ρ hxρ hSρ)
    · refine pw_switchIn (tgt := 72) dX6_count_5 (by decide) (by decide) rfl (by decide) ?_
      refine pw_aload_n dX6_count_72 rfl ?_
      refine ps_getr (r := 228) dX6_count_73 kf_X6_7 (by decide) (by decide +kernel) ?_
      refine pw_iload_n dX6_count_76 rfl ?_
      refine ps_iald (j := 1) (x := nI (na c 1)) dX6_count_77 rfl (ok_ar (n := 108) (by decide +kernel) (by decide)) (hxρ.1 1 (by decide)) ?_
      have e9 : o_count c (nI 1) = (nI (na c 1), c) := by
        unfold o_count
        rw [if_pos (by decide)]
        rfl
      rw [e9] at hf
      exact ps_iret dX6_count_78 rfl rfl (hf ρ hxρ hSρ)
    · refine pw_switchIn (tgt := 72) dX6_count_5 (by decide) (by decide) rfl (by decide) ?_
      refine pw_aload_n dX6_count_72 rfl ?_
      refine ps_getr (r := 228) dX6_count_73 kf_X6_7 (by decide) (by decide +kernel) ?_
      refine pw_iload_n dX6_count_76 rfl ?_
      refine ps_iald (j := 2) (x := nI (na c 2)) dX6_count_77 rfl (ok_ar (n := 108) (by decide +kernel) (by decide)) (hxρ.1 2 (by decide)) ?_
      have e9 : o_count c (nI 2) = (nI (na c 2), c) := by
        unfold o_count
        rw [if_pos (by decide)]
        rfl
      rw [e9] at hf
      exact ps_iret dX6_count_78 rfl rfl (hf ρ hxρ hSρ)
    · refine pw_switchIn (tgt := 72) dX6_count_5 (by decide) (by decide) rfl (by decide) ?_
      refine pw_aload_n dX6_count_72 rfl ?_
      refine ps_getr (r := 228) dX6_count_73 kf_X6_7 (by decide) (by decide +kernel) ?_
      refine pw_iload_n dX6_count_76 rfl ?_
      refine ps_iald (j := 3) (x := nI (na c 3)) dX6_count_77 rfl (ok_ar (n := 108) (by decide +kernel) (by decide)) (hxρ.1 3 (by decide)) ?_
      have e9 : o_count c (nI 3) = (nI (na c 3), c) := by
        unfold o_count
        rw [if_pos (by decide)]
        rfl
      rw [e9] at hf
      exact ps_iret dX6_count_78 rfl rfl (hf ρ hxρ hSρ)
    · refine pw_switchIn (tgt := 79) dX6_count_5 (by decide) (by decide) rfl (by decide) ?_
      refine pw_aload_n dX6_count_79 rfl ?_
      refine ps_callV (b := 227) (As := []) (st := []) dX6_count_80 cv_X6_145 rfl ⟨by decide, by decide +kernel⟩ (Nat.le_of_ble_eq_true rfl) (Nat.le_of_ble_eq_true rfl) ?_
      refine m_openOnes hxρ.1 (fun p hp => (hw.1.pl hp).2.2.2) ?_
      have e9 : o_count c (nI 4) = (nI (opn (na c)), c) := by
        unfold o_count
        rw [if_pos (by decide)]
        rfl
      rw [e9] at hf
      exact ps_iret dX6_count_83 rfl rfl (hf ρ hxρ hSρ)
    · refine pw_switchIn (tgt := 84) dX6_count_5 (by decide) (by decide) rfl (by decide) ?_
      refine pw_aload_n dX6_count_84 rfl ?_
      refine ps_callV (b := 227) (As := []) (st := []) dX6_count_85 cv_X6_186 rfl ⟨by decide, by decide +kernel⟩ (Nat.le_of_ble_eq_true rfl) (Nat.le_of_ble_eq_true rfl) ?_
      refine m_pairs hw.1 (Nat.le_refl _) p1 ?_
      have e9 : o_count c (nI 5) = (nI (prs (mt (na c) (na c 3)) (na c 3) (na c 3)), c) := by
        unfold o_count
        rw [if_pos (by decide)]
        rfl
      rw [e9] at hf
      exact ps_iret dX6_count_88 rfl rfl (hf ρ hxρ hSρ)
    · refine pw_switchIn (tgt := 89) dX6_count_5 (by decide) (by decide) rfl (by decide) ?_
      refine pw_aload_n dX6_count_89 rfl ?_
      refine ps_callV (b := 227) (As := []) (st := []) dX6_count_90 cv_X6_201 rfl ⟨by decide, by decide +kernel⟩ (Nat.le_of_ble_eq_true rfl) (Nat.le_of_ble_eq_true rfl) ?_
      refine m_lastEnd hw.1 (Nat.le_refl _) p1 ?_
      have e9 : o_count c (nI 6) = (nI (lse (na c) (na c 3) (na c 3)), c) := by
        unfold o_count
        rw [if_pos (by decide)]
        rfl
      rw [e9] at hf
      exact ps_iret dX6_count_93 rfl rfl (hf ρ hxρ hSρ)
    · refine pw_switchIn (tgt := 94) dX6_count_5 (by decide) (by decide) rfl (by decide) ?_
      refine pw_aload_n dX6_count_94 rfl ?_
      refine ps_callV (b := 227) (As := []) (st := []) dX6_count_95 cv_X6_204 rfl ⟨by decide, by decide +kernel⟩ (Nat.le_of_ble_eq_true rfl) (Nat.le_of_ble_eq_true rfl) ?_
      refine m_allQueued hw.1 (Nat.le_refl _) p1 ?_
      have e9 : o_count c (nI 7) = (nI (qal (na c) (na c 3)), c) := by
        unfold o_count
        rw [if_pos (by decide)]
        rfl
      rw [e9] at hf
      exact ps_iret dX6_count_98 rfl rfl (hf ρ hxρ hSρ)
    · refine pw_switchIn (tgt := 99) dX6_count_5 (by decide) (by decide) rfl (by decide) ?_
      refine pw_aload_n dX6_count_99 rfl ?_
      refine ps_callV (b := 227) (As := []) (st := []) dX6_count_100 cv_X6_207 rfl ⟨by decide, by decide +kernel⟩ (Nat.le_of_ble_eq_true rfl) (Nat.le_of_ble_eq_true rfl) ?_
      refine m_winner hw.1 (Nat.le_refl _) p1 hxρ.1 ?_
      have e9 : o_count c (nI 8) = (eF (wnp (na c) (na c 3) (na c 3)), c) := by
        unfold o_count
        rw [if_pos (by decide)]
        rfl
      rw [e9] at hf
      exact ps_iret dX6_count_103 rfl rfl (hf ρ hxρ hSρ)
    · refine pw_switchIn (tgt := 104) dX6_count_5 (by decide) (by decide) rfl (by decide) ?_
      refine pw_aload_n dX6_count_104 rfl ?_
      refine pw_iconst_ (v := nI 1) dX6_count_105 (by decide) ?_
      refine ps_callV (b := 227) (As := [.int (nI 1)]) (st := []) dX6_count_106 cv_X6_210 rfl ⟨by decide, by decide +kernel⟩ (Nat.le_of_ble_eq_true rfl) (Nat.le_of_ble_eq_true rfl) ?_
      refine m_sumsP hw.1 (Nat.le_refl _) p1 hxρ.1 ?_
      have e9 : o_count c (nI 9) = (psm (na c) (na c 3) (na c 3), c) := by
        unfold o_count
        rw [if_pos (by decide)]
        rfl
      rw [e9] at hf
      exact ps_iret dX6_count_109 rfl rfl (hf ρ hxρ hSρ)
    · refine pw_switchIn (tgt := 110) dX6_count_5 (by decide) (by decide) rfl (by decide) ?_
      refine pw_aload_n dX6_count_110 rfl ?_
      refine pw_iconst_ (v := nI 0) dX6_count_111 (by decide) ?_
      refine ps_callV (b := 227) (As := [.int (nI 0)]) (st := []) dX6_count_112 cv_X6_210 rfl ⟨by decide, by decide +kernel⟩ (Nat.le_of_ble_eq_true rfl) (Nat.le_of_ble_eq_true rfl) ?_
      refine m_sumsT hw.1 (Nat.le_refl _) p1 ?_
      have e9 : o_count c (nI 10) = (nI (smN (tl (na c)) (na c 3)), c) := by
        unfold o_count
        rw [if_pos (by decide)]
        rfl
      rw [e9] at hf
      exact ps_iret dX6_count_115 rfl rfl (hf ρ hxρ hSρ)
    · refine pw_switchIn (tgt := 116) dX6_count_5 (by decide) (by decide) rfl (by decide) ?_
      refine pw_aload_n dX6_count_116 rfl ?_
      refine ps_geti (x := nI (pL c)) dX6_count_117 kf_X6_155 (by decide) (by decide +kernel) (hxρ.2.2.2.1) ?_
      have e9 : o_count c (nI 11) = (nI (pL c), c) := by
        unfold o_count
        rw [if_pos (by decide)]
        rfl
      rw [e9] at hf
      exact ps_iret dX6_count_120 rfl rfl (hf ρ hxρ hSρ)
    · refine pw_switchIn (tgt := 121) dX6_count_5 (by decide) (by decide) rfl (by decide) ?_
      refine pw_aload_n dX6_count_121 rfl ?_
      refine ps_geti (x := nI (hN c)) dX6_count_122 kf_X6_69 (by decide) (by decide +kernel) (hxρ.2.1.2.1) ?_
      have e9 : o_count c (nI 12) = (nI (hN c), c) := by
        unfold o_count
        rw [if_pos (by decide)]
        rfl
      rw [e9] at hf
      exact ps_iret dX6_count_125 rfl rfl (hf ρ hxρ hSρ)
  · refine pw_switchOut (tgt := 126) dX6_count_5 (out_of (m := 12) (by decide) hk) (by decide) ?_
    refine pw_ldc dX6_count_126 kc_X6_74 ?_
    have e9 : o_count c w = (-100002, c) := by
      unfold o_count
      rw [if_neg hk]
    rw [e9] at hf
    exact ps_iret dX6_count_128 rfl rfl (hf ρ hxρ hSρ)
set_option maxRecDepth 100000 in
set_option maxHeartbeats 4000000 in
theorem m_placeOf {c : CS} (hw : CW c) (hx : MX μ c) {v w : Int32} (hf : ∀ ν : Mu, MX ν (o_placeOf c v w).2 → SX ν μ → fin (some (.int (o_placeOf c v w).1)) ν) : PS l E D cA mX6_placeOf (d + 5) fin 0 [some (.ref 227), some (.int v), some (.int w)] [] μ := by
  have hq := hx
  refine pw_iload_n dX6_placeOf_0 rfl ?_
  refine ps_callS (As := [.int v]) (st := []) dX6_placeOf_1 cs_X6_141 rfl (Nat.le_of_ble_eq_true rfl) (Nat.le_of_ble_eq_true rfl) ?_
  refine m_isPlace ?_
  refine pw_if_ne (tgt := 10) dX6_placeOf_4 (by decide) (fun h9 => ?_) (fun h9 => ?_)
  · have h1 := kb_ne0.mp h9
    obtain ⟨p, hp, rfl⟩ := (rg_to (by decide)).mp h1
    have hp8 : p < 8 := by omega
    have hpn : iN (nI p) = p := iN_nI (by omega)
    refine pw_aload_n dX6_placeOf_10 rfl ?_
    refine ps_callV (b := 227) (As := []) (st := []) dX6_placeOf_11 cv_X6_138 rfl ⟨by decide, by decide +kernel⟩ (Nat.le_of_ble_eq_true rfl) (Nat.le_of_ble_eq_true rfl) ?_
    refine m_playAll hw.1 hx.1 (fun ρ p1 p2 => ?_)
    have hxρ : MX ρ c := hx.kg p2.kg (p2.rm hx.1)
    have hSρ : SX ρ μ := p2.kg.sx'
    show PS l E D cA mX6_placeOf (d + 5) fin 14 [some (.ref 227), some (.int (nI p)), some (.int w)] [] ρ
    refine pw_iload_n dX6_placeOf_14 rfl ?_
    have hC := (hw.1.pl hp8).2.2.2
    by_cases hk : inR w 7
    · obtain ⟨k, hk2, rfl⟩ := (rg_to (by decide)).mp hk
      rcases (show k = 0 ∨ k = 1 ∨ k = 2 ∨ k = 3 ∨ k = 4 ∨ k = 5 ∨ k = 6 ∨ k = 7 by omega) with rfl | rfl | rfl | rfl | rfl | rfl | rfl | rfl
      · refine pw_switchIn (tgt := 60) dX6_placeOf_15 (by decide) (by decide) rfl (by decide) ?_
        refine pw_aload_n dX6_placeOf_60 rfl ?_
        refine pw_iload_n dX6_placeOf_61 rfl ?_
        refine pw_iload_n dX6_placeOf_62 rfl ?_
        refine ps_callV (b := 227) (As := [.int (nI p), .int (nI 0)]) (st := []) dX6_placeOf_63 cv_X6_89 rfl ⟨by decide, by decide +kernel⟩ (Nat.le_of_ble_eq_true rfl) (Nat.le_of_ble_eq_true rfl) ?_
        refine m_of (p := p) (w := 0) (by omega) ((hxρ.1 _ (by omega)).trans (by rw [show 4 + 4 * p + 0 = 4 + 4 * p by omega])) ?_
        have e9 : o_placeOf c (nI p) (nI 0) = (nI (na c (4 + 4 * p)), c) := by
          unfold o_placeOf
          rw [if_pos h1, hpn, if_pos (by decide)]
          rfl
        rw [e9] at hf
        exact ps_iret dX6_placeOf_66 rfl rfl (hf ρ hxρ hSρ)
      · refine pw_switchIn (tgt := 60) dX6_placeOf_15 (by decide) (by decide) rfl (by decide) ?_
        refine pw_aload_n dX6_placeOf_60 rfl ?_
        refine pw_iload_n dX6_placeOf_61 rfl ?_
        refine pw_iload_n dX6_placeOf_62 rfl ?_
        refine ps_callV (b := 227) (As := [.int (nI p), .int (nI 1)]) (st := []) dX6_placeOf_63 cv_X6_89 rfl ⟨by decide, by decide +kernel⟩ (Nat.le_of_ble_eq_true rfl) (Nat.le_of_ble_eq_true rfl) ?_
        refine m_of (p := p) (w := 1) (by omega) ((hxρ.1 _ (by omega)).trans (by rw [show 4 + 4 * p + 1 = 5 + 4 * p by omega])) ?_
        have e9 : o_placeOf c (nI p) (nI 1) = (nI (na c (5 + 4 * p)), c) := by
          unfold o_placeOf
          rw [if_pos h1, hpn, if_pos (by decide)]
          rfl
        rw [e9] at hf
        exact ps_iret dX6_placeOf_66 rfl rfl (hf ρ hxρ hSρ)
      · refine pw_switchIn (tgt := 60) dX6_placeOf_15 (by decide) (by decide) rfl (by decide) ?_
        refine pw_aload_n dX6_placeOf_60 rfl ?_
        refine pw_iload_n dX6_placeOf_61 rfl ?_
        refine pw_iload_n dX6_placeOf_62 rfl ?_
        refine ps_callV (b := 227) (As := [.int (nI p), .int (nI 2)]) (st := []) dX6_placeOf_63 cv_X6_89 rfl ⟨by decide, by decide +kernel⟩ (Nat.le_of_ble_eq_true rfl) (Nat.le_of_ble_eq_true rfl) ?_
        refine m_of (p := p) (w := 2) (by omega) ((hxρ.1 _ (by omega)).trans (by rw [show 4 + 4 * p + 2 = 6 + 4 * p by omega])) ?_
        have e9 : o_placeOf c (nI p) (nI 2) = (nI (na c (6 + 4 * p)), c) := by
          unfold o_placeOf
          rw [if_pos h1, hpn, if_pos (by decide)]
          rfl
        rw [e9] at hf
        exact ps_iret dX6_placeOf_66 rfl rfl (hf ρ hxρ hSρ)
      · refine pw_switchIn (tgt := 67) dX6_placeOf_15 (by decide) (by decide) rfl (by decide) ?_
        refine pw_iconst_ (v := nI 1) dX6_placeOf_67 (by decide) ?_
        refine pw_aload_n dX6_placeOf_68 rfl ?_
        refine pw_iload_n dX6_placeOf_69 rfl ?_
        refine pw_iconst_ (v := nI 3) dX6_placeOf_70 (by decide) ?_
        refine ps_callV (b := 227) (As := [.int (nI p), .int (nI 3)]) (st := [.int (nI 1)]) dX6_placeOf_71 cv_X6_89 rfl ⟨by decide, by decide +kernel⟩ (Nat.le_of_ble_eq_true rfl) (Nat.le_of_ble_eq_true rfl) ?_
        refine m_of (p := p) (w := 3) (by omega) ((hxρ.1 _ (by omega)).trans (by rw [show 4 + 4 * p + 3 = 7 + 4 * p by omega])) ?_
        refine pn_isub (by omega) dX6_placeOf_74 ?_
        have e9 : o_placeOf c (nI p) (nI 3) = (nI (1 - na c (7 + 4 * p)), c) := by
          unfold o_placeOf
          rw [if_pos h1, hpn, if_pos (by decide)]
          rfl
        rw [e9] at hf
        exact ps_iret dX6_placeOf_75 rfl rfl (hf ρ hxρ hSρ)
      · refine pw_switchIn (tgt := 76) dX6_placeOf_15 (by decide) (by decide) rfl (by decide) ?_
        refine pw_aload_n dX6_placeOf_76 rfl ?_
        refine pw_iload_n dX6_placeOf_77 rfl ?_
        refine pw_iload_n dX6_placeOf_78 rfl ?_
        refine ps_callV (b := 227) (As := [.int (nI p), .int (nI 4)]) (st := []) dX6_placeOf_79 cv_X6_195 rfl ⟨by decide, by decide +kernel⟩ (Nat.le_of_ble_eq_true rfl) (Nat.le_of_ble_eq_true rfl) ?_
        refine m_atPlace hw.1 (Nat.le_refl _) p1 hp8 (w := 4) (by decide) ?_
        have e9 : o_placeOf c (nI p) (nI 4) = (nI (msk (fun t => (vis (na c) t p).isSome) (na c 3)), c) := by
          unfold o_placeOf
          rw [if_pos h1, hpn, if_pos (by decide)]
          rfl
        rw [e9] at hf
        exact ps_iret dX6_placeOf_82 rfl rfl (hf ρ hxρ hSρ)
      · refine pw_switchIn (tgt := 76) dX6_placeOf_15 (by decide) (by decide) rfl (by decide) ?_
        refine pw_aload_n dX6_placeOf_76 rfl ?_
        refine pw_iload_n dX6_placeOf_77 rfl ?_
        refine pw_iload_n dX6_placeOf_78 rfl ?_
        refine ps_callV (b := 227) (As := [.int (nI p), .int (nI 5)]) (st := []) dX6_placeOf_79 cv_X6_195 rfl ⟨by decide, by decide +kernel⟩ (Nat.le_of_ble_eq_true rfl) (Nat.le_of_ble_eq_true rfl) ?_
        refine m_atPlace hw.1 (Nat.le_refl _) p1 hp8 (w := 5) (by decide) ?_
        have e9 : o_placeOf c (nI p) (nI 5) = (nI (smN (qat (na c) (na c 3) p) (na c 3)), c) := by
          unfold o_placeOf
          rw [if_pos h1, hpn, if_pos (by decide)]
          rfl
        rw [e9] at hf
        exact ps_iret dX6_placeOf_82 rfl rfl (hf ρ hxρ hSρ)
      · refine pw_switchIn (tgt := 83) dX6_placeOf_15 (by decide) (by decide) rfl (by decide) ?_
        refine pw_aload_n dX6_placeOf_83 rfl ?_
        refine pw_iload_n dX6_placeOf_84 rfl ?_
        refine ps_callV (b := 227) (As := [.int (nI p)]) (st := []) dX6_placeOf_85 cv_X6_198 rfl ⟨by decide, by decide +kernel⟩ (Nat.le_of_ble_eq_true rfl) (Nat.le_of_ble_eq_true rfl) ?_
        refine m_crowd hw.1 (Nat.le_refl _) p1 hp8 ?_
        have e9 : o_placeOf c (nI p) (nI 6) = (nI (mo (na c) (na c 3) p (na c 3)), c) := by
          unfold o_placeOf
          rw [if_pos h1, hpn, if_pos (by decide)]
          rfl
        rw [e9] at hf
        exact ps_iret dX6_placeOf_88 rfl rfl (hf ρ hxρ hSρ)
      · refine pw_switchIn (tgt := 76) dX6_placeOf_15 (by decide) (by decide) rfl (by decide) ?_
        refine pw_aload_n dX6_placeOf_76 rfl ?_
        refine pw_iload_n dX6_placeOf_77 rfl ?_
        refine pw_iload_n dX6_placeOf_78 rfl ?_
        refine ps_callV (b := 227) (As := [.int (nI p), .int (nI 7)]) (st := []) dX6_placeOf_79 cv_X6_195 rfl ⟨by decide, by decide +kernel⟩ (Nat.le_of_ble_eq_true rfl) (Nat.le_of_ble_eq_true rfl) ?_
        refine m_atPlace hw.1 (Nat.le_refl _) p1 hp8 (w := 7) (by decide) ?_
        have e9 : o_placeOf c (nI p) (nI 7) = (nI (prs (fun t u => mtp (na c) (na c 3) t u p) (na c 3) (na c 3)), c) := by
          unfold o_placeOf
          rw [if_pos h1, hpn, if_pos (by decide)]
          rfl
        rw [e9] at hf
        exact ps_iret dX6_placeOf_82 rfl rfl (hf ρ hxρ hSρ)
    · refine pw_switchOut (tgt := 89) dX6_placeOf_15 (out_of (m := 7) (by decide) hk) (by decide) ?_
      refine pw_ldc dX6_placeOf_89 kc_X6_74 ?_
      have e9 : o_placeOf c (nI p) w = (-100002, c) := by
        unfold o_placeOf
        rw [if_pos h1, if_neg hk]
      rw [e9] at hf
      exact ps_iret dX6_placeOf_91 rfl rfl (hf ρ hxρ hSρ)
  · have h1 := kb_eq0.mp h9
    refine pw_ldc dX6_placeOf_7 kc_X6_144 ?_
    have e9 : o_placeOf c v w = ((-100001), c) := by
      unfold o_placeOf
      rw [if_neg h1]
    rw [e9] at hf
    exact ps_iret dX6_placeOf_9 rfl (rfl) (hf _ hx SX.rfl)
set_option maxRecDepth 100000 in
set_option maxHeartbeats 4000000 in
theorem m_where {c : CS} (hw : CW c) (hx : MX μ c) {v w : Int32} (hf : ∀ ν : Mu, MX ν (o_where c v w).2 → SX ν μ → fin (some (.int (o_where c v w).1)) ν) : PS l E D cA mX6_where (d + 5) fin 0 [some (.ref 227), some (.int v), some (.int w), none] [] μ := by
  have hq := hx
  refine pw_aload_n dX6_where_0 rfl ?_
  refine pw_iload_n dX6_where_1 rfl ?_
  refine ps_callV (b := 227) (As := [.int v]) (st := []) dX6_where_2 cv_X6_167 rfl ⟨by decide, by decide +kernel⟩ (Nat.le_of_ble_eq_true rfl) (Nat.le_of_ble_eq_true rfl) ?_
  refine m_isTeam (hx.1 3 (by decide)) ?_
  refine pw_if_ne (tgt := 11) dX6_where_5 (by decide) (fun h9 => ?_) (fun h9 => ?_)
  · have h1 := kb_ne0.mp h9
    obtain ⟨t, ht, rfl⟩ := (rg_nat (by have := hw.1.t6; omega)).mp h1
    have t6 : t < 6 := Nat.lt_of_lt_of_le ht hw.1.t6
    have htn : iN (nI t) = t := iN_nI (by omega)
    refine pw_iload_n dX6_where_11 rfl ?_
    refine pw_if_ge (tgt := 18) dX6_where_12 (by decide) (fun h2 => ?_) (fun h2 => ?_)
    · have h3 : ¬ w < 0 := by first | exact h2 | exact Int32.not_lt.mpr h2
      obtain ⟨m, hm31, rfl⟩ := nn_nI h3
      refine pw_aload_n dX6_where_18 rfl ?_
      refine ps_callV (b := 227) (As := []) (st := []) dX6_where_19 cv_X6_138 rfl ⟨by decide, by decide +kernel⟩ (Nat.le_of_ble_eq_true rfl) (Nat.le_of_ble_eq_true rfl) ?_
      refine m_playAll hw.1 hx.1 (fun ρ p1 p2 => ?_)
      have hxρ : MX ρ c := hx.kg p2.kg (p2.rm hx.1)
      have hSρ : SX ρ μ := p2.kg.sx'
      show PS l E D cA mX6_where (d + 5) fin 22 [some (.ref 227), some (.int (nI t)), some (.int (nI m)), none] [] ρ
      have hPt := p1.t hw.1 (Nat.le_refl _) ht
      have t6 : t < 6 := hPt.2.2.2.2
      have hs2 := (hw.1.tm ht).1
      refine pw_bipush (v := nI 8) dX6_where_22 (by decide) ?_
      refine pw_iload_n dX6_where_24 rfl ?_
      refine px_imuln (c := 8 * t) dX6_where_25 (by omega) ?_
      refine px_istore_n (ls' := [some (.ref 227), some (.int (nI t)), some (.int (nI m)), some (.int (nI (8 * t)))]) dX6_where_26 rfl rfl (by decide) ?_
      have e9 : o_where c (nI t) (nI m) = (eP (na c) t (whr (na c) (na c 3) t m), c) := by
        unfold o_where
        rw [if_pos h1, htn, if_pos h3, iN_nI hm31]
      rw [e9] at hf
      unfold whr at hf
      have lp : ∀ i : Nat, i ≤ tl (na c) t → ((∀ v, v < i → ¬ (CM (na c) (na c 3) t v ≤ m ∧ m < EN (na c) (na c 3) t v)) → PS l E D cA mX6_where (d + 5) fin 27 [some (.ref 227), some (.int (nI t)), some (.int (nI m)), some (.int (nI (8 * t + i)))] [] ρ) := by
        refine ps_for _ ?_ ?_
        · intro hN
          refine pw_iload_n dX6_where_27 rfl ?_
          refine pw_bipush (v := nI 8) dX6_where_28 (by decide) ?_
          refine pw_iload_n dX6_where_30 rfl ?_
          refine px_imuln (c := 8 * t) dX6_where_31 (by omega) ?_
          refine pw_aload_n dX6_where_32 rfl ?_
          refine ps_getr (r := 237) dX6_where_33 kf_X6_38 (by decide) (by decide +kernel) ?_
          refine pw_iload_n dX6_where_36 rfl ?_
          refine ps_iald (j := t) (x := nI (tl (na c) t)) dX6_where_37 rfl (ok_ar (n := 6) (by decide +kernel) (by omega)) (hPt.1) ?_
          refine px_iaddn (c := 8 * t + tl (na c) t) dX6_where_38 (by omega) ?_
          refine pn_ge (tgt := 75) dX6_where_39 (by decide) (by omega) (by omega) (fun _ => ?_) (fun h9 => absurd h9 (by omega))
          refine pw_ldc dX6_where_75 kc_X6_99 ?_
          exact ps_iret dX6_where_77 rfl (rfl) (by rw [fstN_none.mpr (fun v hv => by simpa using hN v hv)] at hf; exact hf ρ hxρ hSρ)
        · intro i hi ih hN
          have hV := p1.v hw.1 (Nat.le_refl _) ht hi
          refine pw_iload_n dX6_where_27 rfl ?_
          refine pw_bipush (v := nI 8) dX6_where_28 (by decide) ?_
          refine pw_iload_n dX6_where_30 rfl ?_
          refine px_imuln (c := 8 * t) dX6_where_31 (by omega) ?_
          refine pw_aload_n dX6_where_32 rfl ?_
          refine ps_getr (r := 237) dX6_where_33 kf_X6_38 (by decide) (by decide +kernel) ?_
          refine pw_iload_n dX6_where_36 rfl ?_
          refine ps_iald (j := t) (x := nI (tl (na c) t)) dX6_where_37 rfl (ok_ar (n := 6) (by decide +kernel) (by omega)) (hPt.1) ?_
          refine px_iaddn (c := 8 * t + tl (na c) t) dX6_where_38 (by omega) ?_
          refine pn_ge (tgt := 75) dX6_where_39 (by decide) (by omega) (by omega) (fun h9 => absurd h9 (by omega)) (fun _ => ?_)
          refine pw_aload_n dX6_where_42 rfl ?_
          refine ps_getr (r := 239) dX6_where_43 kf_X6_44 (by decide) (by decide +kernel) ?_
          refine pw_iload_n dX6_where_46 rfl ?_
          refine ps_iald (j := 8 * t + i) (x := nI (CM (na c) (na c 3) t i)) dX6_where_47 rfl (ok_ar (n := 48) (by decide +kernel) (by omega)) (p1.v hw.1 (Nat.le_refl _) ht hi).2.2.1 ?_
          refine pw_iload_n dX6_where_48 rfl ?_
          refine pn_gt (tgt := 69) dX6_where_49 (by decide) (by omega) (by omega) (fun h8 => ?_) (fun h8 => ?_)
          · refine px_iincn (n := 1) (a := 8 * t + i) (b := 8 * t + i + 1) (ls' := [some (.ref 227), some (.int (nI t)), some (.int (nI m)), some (.int (nI (8 * t + i + 1)))]) dX6_where_69 rfl rfl rfl (by omega) ?_
            refine pw_goto (tgt := 27) dX6_where_72 (by decide) ?_
            exact ih (fun v h9 => by
              rcases Nat.lt_or_eq_of_le (Nat.le_of_lt_succ h9) with h | rfl
              · exact hN v h
              · omega)
          · refine pw_iload_n dX6_where_52 rfl ?_
            refine pw_aload_n dX6_where_53 rfl ?_
            refine ps_getr (r := 241) dX6_where_54 kf_X6_50 (by decide) (by decide +kernel) ?_
            refine pw_iload_n dX6_where_57 rfl ?_
            refine ps_iald (j := 8 * t + i) (x := nI (EN (na c) (na c 3) t i)) dX6_where_58 rfl (ok_ar (n := 48) (by decide +kernel) (by omega)) (p1.v hw.1 (Nat.le_refl _) ht hi).2.2.2.2.1 ?_
            refine pn_ge (tgt := 69) dX6_where_59 (by decide) (by omega) (by omega) (fun h7 => ?_) (fun h7 => ?_)
            · refine px_iincn (n := 1) (a := 8 * t + i) (b := 8 * t + i + 1) (ls' := [some (.ref 227), some (.int (nI t)), some (.int (nI m)), some (.int (nI (8 * t + i + 1)))]) dX6_where_69 rfl rfl rfl (by omega) ?_
              refine pw_goto (tgt := 27) dX6_where_72 (by decide) ?_
              exact ih (fun v h9 => by
                rcases Nat.lt_or_eq_of_le (Nat.le_of_lt_succ h9) with h | rfl
                · exact hN v h
                · omega)
            · refine pw_aload_n dX6_where_62 rfl ?_
              refine ps_getr (r := 238) dX6_where_63 kf_X6_41 (by decide) (by decide +kernel) ?_
              refine pw_iload_n dX6_where_66 rfl ?_
              refine ps_iald (j := 8 * t + i) (x := nI (trv (na c) t i)) dX6_where_67 rfl (ok_ar (n := 48) (by decide +kernel) (by omega)) (p1.v hw.1 (Nat.le_refl _) ht hi).1.1 ?_
              exact ps_iret dX6_where_68 rfl (rfl) (by rw [fstN_some.mpr ⟨hi, by simp; omega, fun v h9 => by simpa using hN v h9⟩] at hf; exact hf ρ hxρ hSρ)
      exact lp 0 (Nat.zero_le _) (fun v hv => absurd hv (Nat.not_lt_zero _))
    · refine pw_ldc dX6_where_15 kc_X6_74 ?_
      have e9 : o_where c (nI t) w = ((-100002), c) := by
        unfold o_where
        rw [if_pos h1, if_neg (fun q => q (by first | exact h2 | exact Int32.not_le.mp h2))]
      rw [e9] at hf
      exact ps_iret dX6_where_17 rfl (rfl) (hf _ hx SX.rfl)
  · have h1 := kb_eq0.mp h9
    refine pw_ldc dX6_where_8 kc_X6_144 ?_
    have e9 : o_where c v w = ((-100001), c) := by
      unfold o_where
      rw [if_neg h1]
    rw [e9] at hf
    exact ps_iret dX6_where_10 rfl (rfl) (hf _ hx SX.rfl)
set_option maxRecDepth 100000 in
set_option maxHeartbeats 4000000 in
theorem m_told {c : CS} (hw : CW c) (hx : MX μ c) {v w : Int32} (hf : ∀ ν : Mu, MX ν (o_told c v w).2 → SX ν μ → fin (some (.int (o_told c v w).1)) ν) : PS l E D cA mX6_told (d + 5) fin 0 [some (.ref 227), some (.int v), some (.int w), none] [] μ := by
  have hq := hx
  refine pw_aload_n dX6_told_0 rfl ?_
  refine pw_iload_n dX6_told_1 rfl ?_
  refine ps_callV (b := 227) (As := [.int v]) (st := []) dX6_told_2 cv_X6_167 rfl ⟨by decide, by decide +kernel⟩ (Nat.le_of_ble_eq_true rfl) (Nat.le_of_ble_eq_true rfl) ?_
  refine m_isTeam (hx.1 3 (by decide)) ?_
  refine pw_if_ne (tgt := 11) dX6_told_5 (by decide) (fun h9 => ?_) (fun h9 => ?_)
  · have h1 := kb_ne0.mp h9
    obtain ⟨t, ht, rfl⟩ := (rg_nat (by have := hw.1.t6; omega)).mp h1
    have t6 : t < 6 := Nat.lt_of_lt_of_le ht hw.1.t6
    have htn : iN (nI t) = t := iN_nI (by omega)
    refine pw_iload_n dX6_told_11 rfl ?_
    refine pw_if_ge (tgt := 18) dX6_told_12 (by decide) (fun h2 => ?_) (fun h2 => ?_)
    · have h3 : ¬ w < 0 := by first | exact h2 | exact Int32.not_lt.mpr h2
      obtain ⟨m, hm31, rfl⟩ := nn_nI h3
      refine pw_aload_n dX6_told_18 rfl ?_
      refine ps_callV (b := 227) (As := []) (st := []) dX6_told_19 cv_X6_138 rfl ⟨by decide, by decide +kernel⟩ (Nat.le_of_ble_eq_true rfl) (Nat.le_of_ble_eq_true rfl) ?_
      refine m_playAll hw.1 hx.1 (fun ρ p1 p2 => ?_)
      have hxρ : MX ρ c := hx.kg p2.kg (p2.rm hx.1)
      have hSρ : SX ρ μ := p2.kg.sx'
      show PS l E D cA mX6_told (d + 5) fin 22 [some (.ref 227), some (.int (nI t)), some (.int (nI m)), none] [] ρ
      have hPt := p1.t hw.1 (Nat.le_refl _) ht
      have t6 : t < 6 := hPt.2.2.2.2
      have hs2 := (hw.1.tm ht).1
      refine pw_bipush (v := nI 8) dX6_told_22 (by decide) ?_
      refine pw_iload_n dX6_told_24 rfl ?_
      refine px_imuln (c := 8 * t) dX6_told_25 (by omega) ?_
      refine px_istore_n (ls' := [some (.ref 227), some (.int (nI t)), some (.int (nI m)), some (.int (nI (8 * t)))]) dX6_told_26 rfl rfl (by decide) ?_
      have e9 : o_told c (nI t) (nI m) = (eP (na c) t (tld (na c) (na c 3) t m), c) := by
        unfold o_told
        rw [if_pos h1, htn, if_pos h3, iN_nI hm31]
      rw [e9] at hf
      by_cases hst : m < na c (36 + 12 * t)
      · show PS l E D cA mX6_told (d + 5) fin 27 [some (.ref 227), some (.int (nI t)), some (.int (nI m)), some (.int (nI (8 * t)))] [] ρ
        refine pw_iload_n dX6_told_27 rfl ?_
        refine pw_bipush (v := nI 8) dX6_told_28 (by decide) ?_
        refine pw_iload_n dX6_told_30 rfl ?_
        refine px_imuln (c := 8 * t) dX6_told_31 (by omega) ?_
        refine pw_aload_n dX6_told_32 rfl ?_
        refine ps_getr (r := 237) dX6_told_33 kf_X6_38 (by decide) (by decide +kernel) ?_
        refine pw_iload_n dX6_told_36 rfl ?_
        refine ps_iald (j := t) (x := nI (tl (na c) t)) dX6_told_37 rfl (ok_ar (n := 6) (by decide +kernel) (by omega)) (hPt.1) ?_
        refine px_iaddn (c := 8 * t + tl (na c) t) dX6_told_38 (by omega) ?_
        refine pn_ge (tgt := 75) dX6_told_39 (by decide) (by omega) (by omega) (fun h8 => ?_) (fun h8 => ?_)
        · refine pw_ldc dX6_told_75 kc_X6_99 ?_
          exact ps_iret dX6_told_77 rfl (rfl) (by unfold tld at hf; rw [if_pos hst] at hf; exact hf ρ hxρ hSρ)
        · refine pw_iload_n dX6_told_42 rfl ?_
          refine pw_aload_n dX6_told_43 rfl ?_
          refine pw_iload_n dX6_told_44 rfl ?_
          refine pw_iconst_ (v := nI 0) dX6_told_45 (by decide) ?_
          refine ps_callV (b := 227) (As := [.int (nI t), .int (nI 0)]) (st := [.int (nI m)]) dX6_told_46 cv_X6_85 rfl ⟨by decide, by decide +kernel⟩ (Nat.le_of_ble_eq_true rfl) (Nat.le_of_ble_eq_true rfl) ?_
          refine m_its (t := t) (w := 0) (by omega) ((hxρ.1 _ (by omega)).trans (by rw [show 36 + 12 * t + 0 = 36 + 12 * t by omega])) ?_
          show PS l E D cA mX6_told (d + 5) fin 49 [some (.ref 227), some (.int (nI t)), some (.int (nI m)), some (.int (nI (8 * t)))] [.int (nI (na c (36 + 12 * t))), .int (nI m)] ρ
          refine pn_lt (tgt := 75) dX6_told_49 (by decide) (by omega) (by omega) (fun _ => ?_) (fun h9 => absurd h9 (by omega))
          refine pw_ldc dX6_told_75 kc_X6_99 ?_
          exact ps_iret dX6_told_77 rfl (rfl) (by unfold tld at hf; rw [if_pos hst] at hf; exact hf ρ hxρ hSρ)
      · unfold tld at hf
        rw [if_neg hst] at hf
        have lp : ∀ i : Nat, i ≤ tl (na c) t → ((∀ v, v < i → ¬ (m < EN (na c) (na c 3) t v)) → PS l E D cA mX6_told (d + 5) fin 27 [some (.ref 227), some (.int (nI t)), some (.int (nI m)), some (.int (nI (8 * t + i)))] [] ρ) := by
          refine ps_for _ ?_ ?_
          · intro hN
            refine pw_iload_n dX6_told_27 rfl ?_
            refine pw_bipush (v := nI 8) dX6_told_28 (by decide) ?_
            refine pw_iload_n dX6_told_30 rfl ?_
            refine px_imuln (c := 8 * t) dX6_told_31 (by omega) ?_
            refine pw_aload_n dX6_told_32 rfl ?_
            refine ps_getr (r := 237) dX6_told_33 kf_X6_38 (by decide) (by decide +kernel) ?_
            refine pw_iload_n dX6_told_36 rfl ?_
            refine ps_iald (j := t) (x := nI (tl (na c) t)) dX6_told_37 rfl (ok_ar (n := 6) (by decide +kernel) (by omega)) (hPt.1) ?_
            refine px_iaddn (c := 8 * t + tl (na c) t) dX6_told_38 (by omega) ?_
            refine pn_ge (tgt := 75) dX6_told_39 (by decide) (by omega) (by omega) (fun _ => ?_) (fun h9 => absurd h9 (by omega))
            refine pw_ldc dX6_told_75 kc_X6_99 ?_
            exact ps_iret dX6_told_77 rfl (rfl) (by rw [fstN_none.mpr (fun v hv => by simpa using hN v hv)] at hf; exact hf ρ hxρ hSρ)
          · intro i hi ih hN
            have hV := p1.v hw.1 (Nat.le_refl _) ht hi
            refine pw_iload_n dX6_told_27 rfl ?_
            refine pw_bipush (v := nI 8) dX6_told_28 (by decide) ?_
            refine pw_iload_n dX6_told_30 rfl ?_
            refine px_imuln (c := 8 * t) dX6_told_31 (by omega) ?_
            refine pw_aload_n dX6_told_32 rfl ?_
            refine ps_getr (r := 237) dX6_told_33 kf_X6_38 (by decide) (by decide +kernel) ?_
            refine pw_iload_n dX6_told_36 rfl ?_
            refine ps_iald (j := t) (x := nI (tl (na c) t)) dX6_told_37 rfl (ok_ar (n := 6) (by decide +kernel) (by omega)) (hPt.1) ?_
            refine px_iaddn (c := 8 * t + tl (na c) t) dX6_told_38 (by omega) ?_
            refine pn_ge (tgt := 75) dX6_told_39 (by decide) (by omega) (by omega) (fun h9 => absurd h9 (by omega)) (fun _ => ?_)
            refine pw_iload_n dX6_told_42 rfl ?_
            refine pw_aload_n dX6_told_43 rfl ?_
            refine pw_iload_n dX6_told_44 rfl ?_
            refine pw_iconst_ (v := nI 0) dX6_told_45 (by decide) ?_
            refine ps_callV (b := 227) (As := [.int (nI t), .int (nI 0)]) (st := [.int (nI m)]) dX6_told_46 cv_X6_85 rfl ⟨by decide, by decide +kernel⟩ (Nat.le_of_ble_eq_true rfl) (Nat.le_of_ble_eq_true rfl) ?_
            refine m_its (t := t) (w := 0) (by omega) ((hxρ.1 _ (by omega)).trans (by rw [show 36 + 12 * t + 0 = 36 + 12 * t by omega])) ?_
            show PS l E D cA mX6_told (d + 5) fin 49 [some (.ref 227), some (.int (nI t)), some (.int (nI m)), some (.int (nI (8 * t + i)))] [.int (nI (na c (36 + 12 * t))), .int (nI m)] ρ
            refine pn_lt (tgt := 75) dX6_told_49 (by decide) (by omega) (by omega) (fun h9 => absurd h9 (by omega)) (fun _ => ?_)
            refine pw_iload_n dX6_told_52 rfl ?_
            refine pw_aload_n dX6_told_53 rfl ?_
            refine ps_getr (r := 241) dX6_told_54 kf_X6_50 (by decide) (by decide +kernel) ?_
            refine pw_iload_n dX6_told_57 rfl ?_
            refine ps_iald (j := 8 * t + i) (x := nI (EN (na c) (na c 3) t i)) dX6_told_58 rfl (ok_ar (n := 48) (by decide +kernel) (by omega)) (p1.v hw.1 (Nat.le_refl _) ht hi).2.2.2.2.1 ?_
            refine pn_ge (tgt := 69) dX6_told_59 (by decide) (by omega) (by omega) (fun h7 => ?_) (fun h7 => ?_)
            · refine px_iincn (n := 1) (a := 8 * t + i) (b := 8 * t + i + 1) (ls' := [some (.ref 227), some (.int (nI t)), some (.int (nI m)), some (.int (nI (8 * t + i + 1)))]) dX6_told_69 rfl rfl rfl (by omega) ?_
              refine pw_goto (tgt := 27) dX6_told_72 (by decide) ?_
              exact ih (fun v h9 => by
                rcases Nat.lt_or_eq_of_le (Nat.le_of_lt_succ h9) with h | rfl
                · exact hN v h
                · omega)
            · refine pw_aload_n dX6_told_62 rfl ?_
              refine ps_getr (r := 238) dX6_told_63 kf_X6_41 (by decide) (by decide +kernel) ?_
              refine pw_iload_n dX6_told_66 rfl ?_
              refine ps_iald (j := 8 * t + i) (x := nI (trv (na c) t i)) dX6_told_67 rfl (ok_ar (n := 48) (by decide +kernel) (by omega)) (p1.v hw.1 (Nat.le_refl _) ht hi).1.1 ?_
              exact ps_iret dX6_told_68 rfl (rfl) (by rw [fstN_some.mpr ⟨hi, by simp; omega, fun v h9 => by simpa using hN v h9⟩] at hf; exact hf ρ hxρ hSρ)
        exact lp 0 (Nat.zero_le _) (fun v hv => absurd hv (Nat.not_lt_zero _))
    · refine pw_ldc dX6_told_15 kc_X6_74 ?_
      have e9 : o_told c (nI t) w = ((-100002), c) := by
        unfold o_told
        rw [if_pos h1, if_neg (fun q => q (by first | exact h2 | exact Int32.not_le.mp h2))]
      rw [e9] at hf
      exact ps_iret dX6_told_17 rfl (rfl) (hf _ hx SX.rfl)
  · have h1 := kb_eq0.mp h9
    refine pw_ldc dX6_told_8 kc_X6_144 ?_
    have e9 : o_told c v w = ((-100001), c) := by
      unfold o_told
      rw [if_neg h1]
    rw [e9] at hf
    exact ps_iret dX6_told_10 rfl (rfl) (hf _ hx SX.rfl)
set_option maxRecDepth 100000 in
set_option maxHeartbeats 4000000 in
theorem m_visit {c : CS} (hw : CW c) (hx : MX μ c) {v u w : Int32} (hf : ∀ ν : Mu, MX ν (o_visit c v u w).2 → SX ν μ → fin (some (.int (o_visit c v u w).1)) ν) : PS l E D cA mX6_visit (d + 5) fin 0 [some (.ref 227), some (.int v), some (.int u), some (.int w), none] [] μ := by
  have hq := hx
  refine pw_aload_n dX6_visit_0 rfl ?_
  refine pw_iload_n dX6_visit_1 rfl ?_
  refine ps_callV (b := 227) (As := [.int v]) (st := []) dX6_visit_2 cv_X6_167 rfl ⟨by decide, by decide +kernel⟩ (Nat.le_of_ble_eq_true rfl) (Nat.le_of_ble_eq_true rfl) ?_
  refine m_isTeam (hx.1 3 (by decide)) ?_
  refine pw_if_ne (tgt := 11) dX6_visit_5 (by decide) (fun h9 => ?_) (fun h9 => ?_)
  · have h1 := kb_ne0.mp h9
    obtain ⟨t, ht, rfl⟩ := (rg_nat (by have := hw.1.t6; omega)).mp h1
    have t6 : t < 6 := Nat.lt_of_lt_of_le ht hw.1.t6
    have htn : iN (nI t) = t := iN_nI (by omega)
    refine pw_iload_n dX6_visit_11 rfl ?_
    refine pw_i2l dX6_visit_12 rfl ?_
    refine pw_iconst_ (v := nI 0) dX6_visit_13 (by decide) ?_
    refine pw_iconst_ (v := nI 4) dX6_visit_14 (by decide) ?_
    refine ps_callS (As := [.long w.toInt64, .int (nI 0), .int (nI 4)]) (st := []) dX6_visit_15 cs_X6_65 rfl (Nat.le_of_ble_eq_true rfl) (Nat.le_of_ble_eq_true rfl) ?_
    refine m_in ?_
    refine pw_if_ne (tgt := 24) dX6_visit_18 (by decide) (fun h9 => ?_) (fun h9 => ?_)
    · have h2 := kb_ne0.mp h9
      refine pw_aload_n dX6_visit_24 rfl ?_
      refine ps_callV (b := 227) (As := []) (st := []) dX6_visit_25 cv_X6_138 rfl ⟨by decide, by decide +kernel⟩ (Nat.le_of_ble_eq_true rfl) (Nat.le_of_ble_eq_true rfl) ?_
      refine m_playAll hw.1 hx.1 (fun ρ p1 p2 => ?_)
      have hxρ : MX ρ c := hx.kg p2.kg (p2.rm hx.1)
      have hSρ : SX ρ μ := p2.kg.sx'
      show PS l E D cA mX6_visit (d + 5) fin 28 [some (.ref 227), some (.int (nI t)), some (.int u), some (.int w), none] [] ρ
      have hPt := p1.t hw.1 (Nat.le_refl _) ht
      have t6 : t < 6 := hPt.2.2.2.2
      refine pw_iload_n dX6_visit_28 rfl ?_
      refine pw_i2l dX6_visit_29 rfl ?_
      refine pw_iconst_ (v := nI 0) dX6_visit_30 (by decide) ?_
      refine pw_aload_n dX6_visit_31 rfl ?_
      refine ps_getr (r := 237) dX6_visit_32 kf_X6_38 (by decide) (by decide +kernel) ?_
      refine pw_iload_n dX6_visit_35 rfl ?_
      refine ps_iald (j := t) (x := nI (tl (na c) t)) dX6_visit_36 rfl (ok_ar (n := 6) (by decide +kernel) (by omega)) (hPt.1) ?_
      refine pw_iconst_ (v := nI 1) dX6_visit_37 (by decide) ?_
      refine pw_isub dX6_visit_38 ?_
      refine ps_callS (As := [.long u.toInt64, .int (nI 0), .int ((nI (tl (na c) t)) - (nI 1))]) (st := []) dX6_visit_39 cs_X6_65 rfl (Nat.le_of_ble_eq_true rfl) (Nat.le_of_ble_eq_true rfl) ?_
      refine m_in ?_
      refine pw_if_ne (tgt := 48) dX6_visit_42 (by decide) (fun h9 => ?_) (fun h9 => ?_)
      · have h3 := kb_ne0.mp h9
        obtain ⟨k, hk, rfl⟩ := (rg_nat (by omega)).mp h3
        have hv := p1.v hw.1 (Nat.le_refl _) ht hk
        have hk8 : k < 8 := by omega
        have hkn : iN (nI k) = k := iN_nI (by omega)
        refine pw_bipush (v := nI 8) dX6_visit_48 (by decide) ?_
        refine pw_iload_n dX6_visit_50 rfl ?_
        refine px_imuln (c := 8 * t) dX6_visit_51 (by omega) ?_
        refine pw_iload_n dX6_visit_52 rfl ?_
        refine px_iaddn (c := 8 * t + k) dX6_visit_53 (by omega) ?_
        refine px_istore (ls' := [some (.ref 227), some (.int (nI t)), some (.int (nI k)), some (.int w), some (.int (nI (8 * t + k)))]) dX6_visit_54 rfl rfl (by decide) ?_
        refine pw_iload_n dX6_visit_56 rfl ?_
        obtain ⟨j, hj2, rfl⟩ := (rg_to (by decide)).mp h2
        rcases (show j = 0 ∨ j = 1 ∨ j = 2 ∨ j = 3 ∨ j = 4 by omega) with rfl | rfl | rfl | rfl | rfl
        · refine pw_if_ne (tgt := 70) dX6_visit_57 (by decide) (fun h9 => absurd nI_0 h9) (fun _ => ?_)
          refine pw_aload_n dX6_visit_60 rfl ?_
          refine ps_getr (r := 238) dX6_visit_61 kf_X6_41 (by decide) (by decide +kernel) ?_
          refine pw_iload dX6_visit_64 rfl ?_
          refine ps_iald (j := 8 * t + k) (x := nI (trv (na c) t k)) dX6_visit_66 rfl (ok_ar (n := 48) (by decide +kernel) (by omega)) (p1.v hw.1 (Nat.le_refl _) ht hk).1.1 ?_
          refine pw_goto (tgt := 122) dX6_visit_67 (by decide) ?_
          have e9 : o_visit c (nI t) (nI k) (nI 0) = (nI (trv (na c) t k), c) := by
            unfold o_visit
            rw [if_pos h1, htn, if_pos h2, if_pos h3, hkn]
            rfl
          rw [e9] at hf
          exact ps_iret dX6_visit_122 rfl rfl (hf ρ hxρ hSρ)
        · refine pw_if_ne (tgt := 70) dX6_visit_57 (by decide) (fun _ => ?_) (fun h9 => absurd h9 (by decide))
          refine pw_iload_n dX6_visit_70 rfl ?_
          refine pw_iconst_ (v := nI 1) dX6_visit_71 (by decide) ?_
          refine pn_ne (tgt := 85) dX6_visit_72 (by decide) (by omega) (by omega) (fun h9 => absurd h9 (by decide)) (fun _ => ?_)
          refine pw_aload_n dX6_visit_75 rfl ?_
          refine ps_getr (r := 239) dX6_visit_76 kf_X6_44 (by decide) (by decide +kernel) ?_
          refine pw_iload dX6_visit_79 rfl ?_
          refine ps_iald (j := 8 * t + k) (x := nI (CM (na c) (na c 3) t k)) dX6_visit_81 rfl (ok_ar (n := 48) (by decide +kernel) (by omega)) (p1.v hw.1 (Nat.le_refl _) ht hk).2.2.1 ?_
          refine pw_goto (tgt := 122) dX6_visit_82 (by decide) ?_
          have e9 : o_visit c (nI t) (nI k) (nI 1) = (nI (CM (na c) (na c 3) t k), c) := by
            unfold o_visit
            rw [if_pos h1, htn, if_pos h2, if_pos h3, hkn]
            rfl
          rw [e9] at hf
          exact ps_iret dX6_visit_122 rfl rfl (hf ρ hxρ hSρ)
        · refine pw_if_ne (tgt := 70) dX6_visit_57 (by decide) (fun _ => ?_) (fun h9 => absurd h9 (by decide))
          refine pw_iload_n dX6_visit_70 rfl ?_
          refine pw_iconst_ (v := nI 1) dX6_visit_71 (by decide) ?_
          refine pn_ne (tgt := 85) dX6_visit_72 (by decide) (by omega) (by omega) (fun _ => ?_) (fun h9 => absurd h9 (by decide))
          refine pw_iload_n dX6_visit_85 rfl ?_
          refine pw_iconst_ (v := nI 2) dX6_visit_86 (by decide) ?_
          refine pn_ne (tgt := 100) dX6_visit_87 (by decide) (by omega) (by omega) (fun h9 => absurd h9 (by decide)) (fun _ => ?_)
          refine pw_aload_n dX6_visit_90 rfl ?_
          refine ps_getr (r := 240) dX6_visit_91 kf_X6_47 (by decide) (by decide +kernel) ?_
          refine pw_iload dX6_visit_94 rfl ?_
          refine ps_iald (j := 8 * t + k) (x := nI (BG (na c) (na c 3) t k)) dX6_visit_96 rfl (ok_ar (n := 48) (by decide +kernel) (by omega)) (p1.v hw.1 (Nat.le_refl _) ht hk).2.2.2.1 ?_
          refine pw_goto (tgt := 122) dX6_visit_97 (by decide) ?_
          have e9 : o_visit c (nI t) (nI k) (nI 2) = (nI (BG (na c) (na c 3) t k), c) := by
            unfold o_visit
            rw [if_pos h1, htn, if_pos h2, if_pos h3, hkn]
            rfl
          rw [e9] at hf
          exact ps_iret dX6_visit_122 rfl rfl (hf ρ hxρ hSρ)
        · refine pw_if_ne (tgt := 70) dX6_visit_57 (by decide) (fun _ => ?_) (fun h9 => absurd h9 (by decide))
          refine pw_iload_n dX6_visit_70 rfl ?_
          refine pw_iconst_ (v := nI 1) dX6_visit_71 (by decide) ?_
          refine pn_ne (tgt := 85) dX6_visit_72 (by decide) (by omega) (by omega) (fun _ => ?_) (fun h9 => absurd h9 (by decide))
          refine pw_iload_n dX6_visit_85 rfl ?_
          refine pw_iconst_ (v := nI 2) dX6_visit_86 (by decide) ?_
          refine pn_ne (tgt := 100) dX6_visit_87 (by decide) (by omega) (by omega) (fun _ => ?_) (fun h9 => absurd h9 (by decide))
          refine pw_iload_n dX6_visit_100 rfl ?_
          refine pw_iconst_ (v := nI 3) dX6_visit_101 (by decide) ?_
          refine pn_ne (tgt := 115) dX6_visit_102 (by decide) (by omega) (by omega) (fun h9 => absurd h9 (by decide)) (fun _ => ?_)
          refine pw_aload_n dX6_visit_105 rfl ?_
          refine ps_getr (r := 241) dX6_visit_106 kf_X6_50 (by decide) (by decide +kernel) ?_
          refine pw_iload dX6_visit_109 rfl ?_
          refine ps_iald (j := 8 * t + k) (x := nI (EN (na c) (na c 3) t k)) dX6_visit_111 rfl (ok_ar (n := 48) (by decide +kernel) (by omega)) (p1.v hw.1 (Nat.le_refl _) ht hk).2.2.2.2.1 ?_
          refine pw_goto (tgt := 122) dX6_visit_112 (by decide) ?_
          have e9 : o_visit c (nI t) (nI k) (nI 3) = (nI (EN (na c) (na c 3) t k), c) := by
            unfold o_visit
            rw [if_pos h1, htn, if_pos h2, if_pos h3, hkn]
            rfl
          rw [e9] at hf
          exact ps_iret dX6_visit_122 rfl rfl (hf ρ hxρ hSρ)
        · refine pw_if_ne (tgt := 70) dX6_visit_57 (by decide) (fun _ => ?_) (fun h9 => absurd h9 (by decide))
          refine pw_iload_n dX6_visit_70 rfl ?_
          refine pw_iconst_ (v := nI 1) dX6_visit_71 (by decide) ?_
          refine pn_ne (tgt := 85) dX6_visit_72 (by decide) (by omega) (by omega) (fun _ => ?_) (fun h9 => absurd h9 (by decide))
          refine pw_iload_n dX6_visit_85 rfl ?_
          refine pw_iconst_ (v := nI 2) dX6_visit_86 (by decide) ?_
          refine pn_ne (tgt := 100) dX6_visit_87 (by decide) (by omega) (by omega) (fun _ => ?_) (fun h9 => absurd h9 (by decide))
          refine pw_iload_n dX6_visit_100 rfl ?_
          refine pw_iconst_ (v := nI 3) dX6_visit_101 (by decide) ?_
          refine pn_ne (tgt := 115) dX6_visit_102 (by decide) (by omega) (by omega) (fun _ => ?_) (fun h9 => absurd h9 (by decide))
          refine pw_aload_n dX6_visit_115 rfl ?_
          refine ps_getr (r := 242) dX6_visit_116 kf_X6_53 (by decide) (by decide +kernel) ?_
          refine pw_iload dX6_visit_119 rfl ?_
          refine ps_iald (j := 8 * t + k) (x := nI (wk (na c) t k)) dX6_visit_121 rfl (ok_ar (n := 48) (by decide +kernel) (by omega)) (p1.v hw.1 (Nat.le_refl _) ht hk).2.1.1 ?_
          have e9 : o_visit c (nI t) (nI k) (nI 4) = (nI (wk (na c) t k), c) := by
            unfold o_visit
            rw [if_pos h1, htn, if_pos h2, if_pos h3, hkn]
            rfl
          rw [e9] at hf
          exact ps_iret dX6_visit_122 rfl rfl (hf ρ hxρ hSρ)
      · have h3 := kb_eq0.mp h9
        refine pw_ldc dX6_visit_45 kc_X6_99 ?_
        have e9 : o_visit c (nI t) u w = (-100006, c) := by
          unfold o_visit
          rw [if_pos h1, htn, if_pos h2, if_neg h3]
        rw [e9] at hf
        exact ps_iret dX6_visit_47 rfl rfl (hf ρ hxρ hSρ)
    · have h2 := kb_eq0.mp h9
      refine pw_ldc dX6_visit_21 kc_X6_74 ?_
      have e9 : o_visit c (nI t) u w = ((-100002), c) := by
        unfold o_visit
        rw [if_pos h1, if_neg h2]
      rw [e9] at hf
      exact ps_iret dX6_visit_23 rfl (rfl) (hf _ hx SX.rfl)
  · have h1 := kb_eq0.mp h9
    refine pw_ldc dX6_visit_8 kc_X6_144 ?_
    have e9 : o_visit c v u w = ((-100001), c) := by
      unfold o_visit
      rw [if_neg h1]
    rw [e9] at hf
    exact ps_iret dX6_visit_10 rfl (rfl) (hf _ hx SX.rfl)
end MODS
