/-! the model: isWell, fault -/
theorem okc_even {pd : Nat → Nat} {k : Nat} (h : okc pd (2 * k) = true) : pd (2 * k) - 97 < 8 := by
  unfold okc at h
  rw [if_pos (by omega), decide_eq_true_eq] at h
  omega
theorem MP.off {κ μ : Mu} {pd : Nat → Nat} {ln : Nat} (hp : MP μ pd ln) (h : ∀ q k, (q = 234 ∨ (q = 227 ∧ k = 8)) → κ q k = μ q k) : MP κ pd ln :=
  ⟨(h _ _ (by omega)).trans hp.1, hp.2.1, fun k hk => ⟨(h _ _ (by omega)).trans (hp.2.2 k hk).1, (hp.2.2 k hk).2⟩⟩
/-- nothing is changed but what is read -/
def RDF (κ μ : Mu) : Prop := ∀ q k, q ≠ 236 → (q = 227 → k ≠ 9 ∧ k ≠ 12) → κ q k = μ q k
section MODK
variable {l : Launch} {E : EV} {D : va_G} {cA : Nat → ClassId} {fin : Option Value → Mu → Prop} {μ : Mu} {d : Nat}
set_option maxRecDepth 100000 in
set_option maxHeartbeats 4000000 in
theorem m_isWell {ln : Nat} {pd : Nat → Nat} (hp : MP μ pd ln) (hf : ∀ ν : Mu, (ffp pd ln = none → ν 227 12 = nI ((ln + 1) / 2) ∧ ∀ k, k < (ln + 1) / 2 → ν 236 k = nI (pd (2 * k) - 97)) → (∀ i, ffp pd ln = some i → ν 227 9 = nI i) → RDF ν μ → fin (some (.int (kb (ffp pd ln = none)))) ν) : PS l E D cA mX6_isWell (d + 4) fin 0 [some (.ref 227), none] [] μ := by
  have tz : ∀ κ : Mu, RDF κ μ → (∃ i, ffp pd ln = some i ∧ κ 227 9 = nI i) → PS l E D cA mX6_isWell (d + 4) fin 15 [some (.ref 227), some (.int (nI 0))] [] κ := by
    rintro κ k1 ⟨i, k2, k3⟩
    refine pw_iload_n dX6_isWell_15 rfl ?_
    refine pw_if_eq (tgt := 97) dX6_isWell_16 (by decide) (fun _ => ?_) (fun h9 => absurd nI_0 h9)
    refine pw_iload_n dX6_isWell_97 rfl ?_
    refine ps_iret dX6_isWell_98 rfl (by decide) ?_
    have h9 := hf κ (fun q => by rw [k2] at q; cases q) (fun j q => by rw [k2] at q; cases q; exact k3) k1
    rw [kb_f (fun q => by rw [k2] at q; cases q)] at h9
    exact h9
  have lp : ∀ m : Nat, m ≤ 8 → ∀ κ : Mu, (RDF κ μ ∧ κ 227 9 = nI (2 * m - 1) ∧ κ 227 12 = nI m ∧ (∀ k, k < m → κ 236 k = nI (pd (2 * k) - 97)) ∧ 1 ≤ m ∧ 2 * m - 1 ≤ ln ∧ (∀ j, j < 2 * m - 1 → okc pd j = true)) → PS l E D cA mX6_isWell (d + 4) fin 15 [some (.ref 227), some (.int (nI 1))] [] κ := by
    refine ps_for 8 ?_ ?_
    · rintro κ ⟨k1, k2, k3, k4, k5, k6, k7⟩
      have hpk : MP κ pd ln := hp.off (fun q k g => k1 q k (by omega) (by omega))
      have hln := hp.2.1
      refine pw_iload_n dX6_isWell_15 rfl ?_
      refine pw_if_eq (tgt := 97) dX6_isWell_16 (by decide) (fun h9 => absurd h9 nI1_ne) (fun _ => ?_)
      refine pw_aload_n dX6_isWell_19 rfl ?_
      refine ps_geti (x := nI (2 * 8 - 1)) dX6_isWell_20 kf_X6_222 (by decide) (by decide +kernel) k2 ?_
      refine pw_aload_n dX6_isWell_23 rfl ?_
      refine ps_geti (x := nI ln) dX6_isWell_24 kf_X6_155 (by decide) (by decide +kernel) (hpk.1) ?_
      refine pn_ge (tgt := 97) dX6_isWell_27 (by decide) (by omega) (by omega) (fun hc => ?_) (fun hc => ?_)
      · refine pw_iload_n dX6_isWell_97 rfl ?_
        refine ps_iret dX6_isWell_98 rfl (by decide) ?_
        have hln2 : ln = 2 * 8 - 1 := by omega
        have he : ffp pd ln = none := by
          rw [ffp_end (fun j hj => k7 j (by omega)), if_neg (by omega)]
        have h9 := hf κ (fun _ => ⟨by rw [k3]; congr 1; omega, fun k hk => k4 k (by omega)⟩) (fun i q => by rw [he] at q; cases q) k1
        rw [kb_t he] at h9
        exact h9
      · have hodd := okc_odd (pd := pd) (M := 8) k5 k7
        obtain ⟨hpd, l33, l126⟩ := hpk.2.2 (2 * 8 - 1) hc
        refine pw_aload_n dX6_isWell_30 rfl ?_
        refine ps_geti (x := nI 8) dX6_isWell_31 kf_X6_148 (by decide) (by decide +kernel) k3 ?_
        refine pw_bipush (v := nI 8) dX6_isWell_34 (by decide) ?_
        refine pn_ge (tgt := 57) dX6_isWell_36 (by decide) (by omega) (by omega) (fun _ => ?_) (fun h9 => absurd h9 (by omega))
        refine pw_iconst_ (v := nI 0) dX6_isWell_57 (by decide) ?_
        refine px_istore_n (ls' := [some (.ref 227), some (.int (nI 0))]) dX6_isWell_58 rfl rfl (by decide) ?_
        refine pw_aload_n dX6_isWell_59 rfl ?_
        refine pw_dup dX6_isWell_60 rfl ?_
        refine ps_geti (x := nI (2 * 8 - 1)) dX6_isWell_61 kf_X6_222 (by decide) (by decide +kernel) k2 ?_
        refine pw_iload_n dX6_isWell_64 rfl ?_
        refine pw_if_eq (tgt := 72) dX6_isWell_65 (by decide) (fun _ => ?_) (fun h9 => absurd nI_0 h9)
        refine pw_iconst_ (v := nI 0) dX6_isWell_72 (by decide) ?_
        refine px_iaddn (c := 2 * 8 - 1) dX6_isWell_73 (by omega) ?_
        refine ps_puti dX6_isWell_74 kf_X6_222 (by decide) rfl (by decide +kernel) ?_
        refine pw_iload_n dX6_isWell_77 rfl ?_
        refine pw_if_eq (tgt := 92) dX6_isWell_78 (by decide) (fun _ => ?_) (fun h9 => absurd nI_0 h9)
        refine pw_iconst_ (v := nI 0) dX6_isWell_92 (by decide) ?_
        refine px_istore_n (ls' := [some (.ref 227), some (.int (nI 0))]) dX6_isWell_93 rfl rfl (by decide) ?_
        refine pw_goto (tgt := 15) dX6_isWell_94 (by decide) ?_
        exact tz _ (fun q k g1 g2 => by
          by_cases e : q = 227
          · subst e
            rw [u2_b (g2 rfl).1]
            exact k1 _ k g1 g2
          · rw [u2_a e]
            exact k1 q k g1 g2) ⟨2 * 8 - 1, ffp_at hc k7 (by rw [hodd]; exact fun q => absurd q.1 (by omega)), u2_s⟩
    · rintro m hm ih κ ⟨k1, k2, k3, k4, k5, k6, k7⟩
      have hpk : MP κ pd ln := hp.off (fun q k g => k1 q k (by omega) (by omega))
      have hln := hp.2.1
      refine pw_iload_n dX6_isWell_15 rfl ?_
      refine pw_if_eq (tgt := 97) dX6_isWell_16 (by decide) (fun h9 => absurd h9 nI1_ne) (fun _ => ?_)
      refine pw_aload_n dX6_isWell_19 rfl ?_
      refine ps_geti (x := nI (2 * m - 1)) dX6_isWell_20 kf_X6_222 (by decide) (by decide +kernel) k2 ?_
      refine pw_aload_n dX6_isWell_23 rfl ?_
      refine ps_geti (x := nI ln) dX6_isWell_24 kf_X6_155 (by decide) (by decide +kernel) (hpk.1) ?_
      refine pn_ge (tgt := 97) dX6_isWell_27 (by decide) (by omega) (by omega) (fun hc => ?_) (fun hc => ?_)
      · refine pw_iload_n dX6_isWell_97 rfl ?_
        refine ps_iret dX6_isWell_98 rfl (by decide) ?_
        have hln2 : ln = 2 * m - 1 := by omega
        have he : ffp pd ln = none := by
          rw [ffp_end (fun j hj => k7 j (by omega)), if_neg (by omega)]
        have h9 := hf κ (fun _ => ⟨by rw [k3]; congr 1; omega, fun k hk => k4 k (by omega)⟩) (fun i q => by rw [he] at q; cases q) k1
        rw [kb_t he] at h9
        exact h9
      · have hodd := okc_odd (pd := pd) (M := m) k5 k7
        obtain ⟨hpd, l33, l126⟩ := hpk.2.2 (2 * m - 1) hc
        refine pw_aload_n dX6_isWell_30 rfl ?_
        refine ps_geti (x := nI m) dX6_isWell_31 kf_X6_148 (by decide) (by decide +kernel) k3 ?_
        refine pw_bipush (v := nI 8) dX6_isWell_34 (by decide) ?_
        refine pn_ge (tgt := 57) dX6_isWell_36 (by decide) (by omega) (by omega) (fun h9 => absurd h9 (by omega)) (fun _ => ?_)
        refine pw_aload_n dX6_isWell_39 rfl ?_
        refine ps_getr (r := 234) dX6_isWell_40 kf_X6_29 (by decide) (by decide +kernel) ?_
        refine pw_aload_n dX6_isWell_43 rfl ?_
        refine ps_geti (x := nI (2 * m - 1)) dX6_isWell_44 kf_X6_222 (by decide) (by decide +kernel) k2 ?_
        refine ps_iald (j := 2 * m - 1) (x := nI (pd (2 * m - 1))) dX6_isWell_47 rfl (ok_ar (n := 20) (by decide +kernel) (by omega)) hpd ?_
        refine pw_bipush (v := nI 62) dX6_isWell_48 (by decide) ?_
        refine pn_ne (tgt := 57) dX6_isWell_50 (by decide) (by omega) (by omega) (fun h2 => ?_) (fun h2 => ?_)
        · refine pw_iconst_ (v := nI 0) dX6_isWell_57 (by decide) ?_
          refine px_istore_n (ls' := [some (.ref 227), some (.int (nI 0))]) dX6_isWell_58 rfl rfl (by decide) ?_
          refine pw_aload_n dX6_isWell_59 rfl ?_
          refine pw_dup dX6_isWell_60 rfl ?_
          refine ps_geti (x := nI (2 * m - 1)) dX6_isWell_61 kf_X6_222 (by decide) (by decide +kernel) k2 ?_
          refine pw_iload_n dX6_isWell_64 rfl ?_
          refine pw_if_eq (tgt := 72) dX6_isWell_65 (by decide) (fun _ => ?_) (fun h9 => absurd nI_0 h9)
          refine pw_iconst_ (v := nI 0) dX6_isWell_72 (by decide) ?_
          refine px_iaddn (c := 2 * m - 1) dX6_isWell_73 (by omega) ?_
          refine ps_puti dX6_isWell_74 kf_X6_222 (by decide) rfl (by decide +kernel) ?_
          refine pw_iload_n dX6_isWell_77 rfl ?_
          refine pw_if_eq (tgt := 92) dX6_isWell_78 (by decide) (fun _ => ?_) (fun h9 => absurd nI_0 h9)
          refine pw_iconst_ (v := nI 0) dX6_isWell_92 (by decide) ?_
          refine px_istore_n (ls' := [some (.ref 227), some (.int (nI 0))]) dX6_isWell_93 rfl rfl (by decide) ?_
          refine pw_goto (tgt := 15) dX6_isWell_94 (by decide) ?_
          exact tz _ (fun q k g1 g2 => by
            by_cases e : q = 227
            · subst e
              rw [u2_b (g2 rfl).1]
              exact k1 _ k g1 g2
            · rw [u2_a e]
              exact k1 q k g1 g2) ⟨2 * m - 1, ffp_at hc k7 (by rw [hodd]; exact fun q => h2 q.2), u2_s⟩
        · refine pw_iconst_ (v := nI 1) dX6_isWell_53 (by decide) ?_
          refine pw_goto (tgt := 58) dX6_isWell_54 (by decide) ?_
          refine px_istore_n (ls' := [some (.ref 227), some (.int (nI 1))]) dX6_isWell_58 rfl rfl (by decide) ?_
          refine pw_aload_n dX6_isWell_59 rfl ?_
          refine pw_dup dX6_isWell_60 rfl ?_
          refine ps_geti (x := nI (2 * m - 1)) dX6_isWell_61 kf_X6_222 (by decide) (by decide +kernel) k2 ?_
          refine pw_iload_n dX6_isWell_64 rfl ?_
          refine pw_if_eq (tgt := 72) dX6_isWell_65 (by decide) (fun h9 => absurd h9 nI1_ne) (fun _ => ?_)
          refine pw_iconst_ (v := nI 1) dX6_isWell_68 (by decide) ?_
          refine pw_goto (tgt := 73) dX6_isWell_69 (by decide) ?_
          refine px_iaddn (c := 2 * m) dX6_isWell_73 (by omega) ?_
          refine ps_puti dX6_isWell_74 kf_X6_222 (by decide) rfl (by decide +kernel) ?_
          refine pw_iload_n dX6_isWell_77 rfl ?_
          refine pw_if_eq (tgt := 92) dX6_isWell_78 (by decide) (fun h9 => absurd h9 nI1_ne) (fun _ => ?_)
          refine pw_aload_n dX6_isWell_81 rfl ?_
          have hod : okc pd (2 * m - 1) = true := hodd.mpr ⟨hm, h2⟩
          have hok : ∀ j, j < 2 * m → okc pd j = true := fun j hj => by
            rcases Nat.lt_or_ge j (2 * m - 1) with g | g
            · exact k7 j g
            · rw [show j = 2 * m - 1 by omega]
              exact hod
          have f1 : RDF (u2 κ 227 9 (nI (2 * m))) μ := fun q k g1 g2 => by
            by_cases e : q = 227
            · subst e
              rw [u2_b (g2 rfl).1]
              exact k1 _ k g1 g2
            · rw [u2_a e]
              exact k1 q k g1 g2
          refine ps_callV (b := 227) (As := []) (st := []) dX6_isWell_82 cv_X6_225 rfl ⟨by decide, by decide +kernel⟩ (Nat.le_of_ble_eq_true rfl) (Nat.le_of_ble_eq_true rfl) ?_
          refine m_readPlace (m := m) (ln := ln) (pd := pd) hm (hp.off (fun q k g => f1 q k (by omega) (by omega))) u2_s ((u2_b (by decide)).trans k3) (fun k hk => (u2_a (by decide)).trans (k4 k hk)) (fun k hk => okc_even (hok _ (by omega))) hok (fun hn => ?_) (fun g1 g2 ν n1 n2 n3 n4 => ?_)
          · show PS l E D cA mX6_isWell (d + 4) fin 85 [some (.ref 227), some (.int (nI 1))] [.int (nI 0)] (u2 κ 227 9 (nI (2 * m)))
            refine pw_if_eq (tgt := 92) dX6_isWell_85 (by decide) (fun _ => ?_) (fun h9 => absurd nI_0 h9)
            refine pw_iconst_ (v := nI 0) dX6_isWell_92 (by decide) ?_
            refine px_istore_n (ls' := [some (.ref 227), some (.int (nI 0))]) dX6_isWell_93 rfl rfl (by decide) ?_
            refine pw_goto (tgt := 15) dX6_isWell_94 (by decide) ?_
            refine tz _ f1 ⟨2 * m, ?_, u2_s⟩
            by_cases g : 2 * m < ln
            · exact ffp_at g hok (fun q => hn ⟨g, q⟩)
            · rw [show ln = 2 * m by omega, ffp_end hok, if_pos (by omega)]
          · show PS l E D cA mX6_isWell (d + 4) fin 85 [some (.ref 227), some (.int (nI 1))] [.int (nI 1)] ν
            refine pw_if_eq (tgt := 92) dX6_isWell_85 (by decide) (fun h9 => absurd h9 nI1_ne) (fun _ => ?_)
            refine pw_iconst_ (v := nI 1) dX6_isWell_88 (by decide) ?_
            refine pw_goto (tgt := 93) dX6_isWell_89 (by decide) ?_
            refine px_istore_n (ls' := [some (.ref 227), some (.int (nI 1))]) dX6_isWell_93 rfl rfl (by decide) ?_
            refine pw_goto (tgt := 15) dX6_isWell_94 (by decide) ?_
            refine ih ν ⟨fun q k g1 g2 => (n4 q k g1 g2).trans (f1 q k g1 g2), n1.trans (by rw [show 2 * (m + 1) - 1 = 2 * m + 1 by omega]), n2, n3, by omega, by omega, fun j hj => ?_⟩
            rcases Nat.lt_or_ge j (2 * m) with g | g
            · exact hok j g
            · rw [show j = 2 * m by omega]
              exact g2
  refine pw_aload_n dX6_isWell_0 rfl ?_
  refine pw_iconst_ (v := nI 0) dX6_isWell_1 (by decide) ?_
  refine ps_puti dX6_isWell_2 kf_X6_222 (by decide) rfl (by decide +kernel) ?_
  refine pw_aload_n dX6_isWell_5 rfl ?_
  refine pw_iconst_ (v := nI 0) dX6_isWell_6 (by decide) ?_
  refine ps_puti dX6_isWell_7 kf_X6_148 (by decide) rfl (by decide +kernel) ?_
  refine pw_aload_n dX6_isWell_10 rfl ?_
  have f0 : RDF (u2 (u2 μ 227 9 (nI 0)) 227 12 (nI 0)) μ := fun q k g1 g2 => by
    by_cases e : q = 227
    · subst e
      rw [u2_b (g2 rfl).2, u2_b (g2 rfl).1]
    · rw [u2_a e, u2_a e]
  refine ps_callV (b := 227) (As := []) (st := []) dX6_isWell_11 cv_X6_225 rfl ⟨by decide, by decide +kernel⟩ (Nat.le_of_ble_eq_true rfl) (Nat.le_of_ble_eq_true rfl) ?_
  refine m_readPlace (m := 0) (ln := ln) (pd := pd) (by decide) (hp.off (fun q k g => f0 q k (by omega) (by omega))) ((u2_b (by decide)).trans u2_s) u2_s (fun k hk => absurd hk (Nat.not_lt_zero _)) (fun k hk => absurd hk (Nat.not_lt_zero _)) (fun k hk => absurd hk (by omega)) (fun hn => ?_) (fun g1 g2 ν n1 n2 n3 n4 => ?_)
  · show PS l E D cA mX6_isWell (d + 4) fin 14 [some (.ref 227), none] [.int (nI 0)] (u2 (u2 μ 227 9 (nI 0)) 227 12 (nI 0))
    refine px_istore_n (ls' := [some (.ref 227), some (.int (nI 0))]) dX6_isWell_14 rfl rfl (by decide) ?_
    refine tz _ f0 ⟨0, ?_, (u2_b (by decide)).trans u2_s⟩
    by_cases g : 0 < ln
    · exact ffp_at g (fun j hj => absurd hj (Nat.not_lt_zero _)) (fun q => hn ⟨g, q⟩)
    · rw [show ln = 0 by omega]
      rfl
  · show PS l E D cA mX6_isWell (d + 4) fin 14 [some (.ref 227), none] [.int (nI 1)] ν
    refine px_istore_n (ls' := [some (.ref 227), some (.int (nI 1))]) dX6_isWell_14 rfl rfl (by decide) ?_
    refine lp 1 (by decide) ν ⟨fun q k g1 g2 => (n4 q k g1 g2).trans (f0 q k g1 g2), n1, n2, n3, by decide, by omega, fun j hj => ?_⟩
    rw [show j = 2 * 0 by omega]
    exact g2
end MODK
