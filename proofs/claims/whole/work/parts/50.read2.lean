/-! the model: readPlace -/
section MODJ
variable {l : Launch} {E : EV} {D : va_G} {cA : Nat → ClassId} {fin : Option Value → Mu → Prop} {μ : Mu} {d : Nat}
set_option maxRecDepth 100000 in
set_option maxHeartbeats 4000000 in
theorem m_readPlace {m ln : Nat} {pd : Nat → Nat} (m8 : m < 8) (hp : MP μ pd ln) (h9 : μ 227 9 = nI (2 * m)) (h12 : μ 227 12 = nI m) (hrd : ∀ k, k < m → μ 236 k = nI (pd (2 * k) - 97)) (hsm : ∀ k, k < m → pd (2 * k) - 97 < 8) (hok : ∀ j, j < 2 * m → okc pd j = true) (hf1 : ¬ (2 * m < ln ∧ okc pd (2 * m) = true) → fin (some (.int (nI 0))) μ) (hf2 : 2 * m < ln → okc pd (2 * m) = true → ∀ ν : Mu, ν 227 9 = nI (2 * m + 1) → ν 227 12 = nI (m + 1) → (∀ k, k < m + 1 → ν 236 k = nI (pd (2 * k) - 97)) → (∀ q k, q ≠ 236 → (q = 227 → k ≠ 9 ∧ k ≠ 12) → ν q k = μ q k) → fin (some (.int (nI 1))) ν) : PS l E D cA mX6_readPlace (d + 3) fin 0 [some (.ref 227), none, none] [] μ := by
  have hln := hp.2.1
  refine pw_aload_n dX6_readPlace_0 rfl ?_
  refine ps_geti (x := nI (2 * m)) dX6_readPlace_1 kf_X6_222 (by decide) (by decide +kernel) h9 ?_
  refine pw_aload_n dX6_readPlace_4 rfl ?_
  refine ps_geti (x := nI ln) dX6_readPlace_5 kf_X6_155 (by decide) (by decide +kernel) (hp.1) ?_
  refine pn_ge (tgt := 26) dX6_readPlace_8 (by decide) (by omega) (by omega) (fun hc => ?_) (fun hc => ?_)
  · refine pw_ldc dX6_readPlace_26 kc_X6_99 ?_
    refine px_istore_n (ls' := [some (.ref 227), some (.int (-100006)), none]) dX6_readPlace_28 rfl rfl (by decide) ?_
    refine pw_iload_n dX6_readPlace_29 rfl ?_
    refine ps_callS (As := [.int (-100006)]) (st := []) dX6_readPlace_30 cs_X6_141 rfl (Nat.le_of_ble_eq_true rfl) (Nat.le_of_ble_eq_true rfl) ?_
    refine m_isPlace ?_
    rw [kb_f (by decide)]
    refine pw_if_ne (tgt := 38) dX6_readPlace_33 (by decide) (fun h8 => absurd nI_0 h8) (fun _ => ?_)
    refine pw_iconst_ (v := nI 0) dX6_readPlace_36 (by decide) ?_
    exact ps_iret dX6_readPlace_37 rfl (by decide) (hf1 (fun q => absurd q.1 (by omega)))
  · obtain ⟨hpd, l33, l126⟩ := hp.2.2 (2 * m) hc
    refine pw_aload_n dX6_readPlace_11 rfl ?_
    refine ps_getr (r := 234) dX6_readPlace_12 kf_X6_29 (by decide) (by decide +kernel) ?_
    refine pw_aload_n dX6_readPlace_15 rfl ?_
    refine ps_geti (x := nI (2 * m)) dX6_readPlace_16 kf_X6_222 (by decide) (by decide +kernel) h9 ?_
    refine ps_iald (j := 2 * m) (x := nI (pd (2 * m))) dX6_readPlace_19 rfl (ok_ar (n := 20) (by decide +kernel) (by omega)) hpd ?_
    refine pw_bipush (v := nI 97) dX6_readPlace_20 (by decide) ?_
    refine pw_isub dX6_readPlace_22 ?_
    refine pw_goto (tgt := 28) dX6_readPlace_23 (by decide) ?_
    refine px_istore_n (ls' := [some (.ref 227), some (.int ((nI (pd (2 * m))) - (nI 97))), none]) dX6_readPlace_28 rfl rfl (by decide) ?_
    refine pw_iload_n dX6_readPlace_29 rfl ?_
    refine ps_callS (As := [.int ((nI (pd (2 * m))) - (nI 97))]) (st := []) dX6_readPlace_30 cs_X6_141 rfl (Nat.le_of_ble_eq_true rfl) (Nat.le_of_ble_eq_true rfl) ?_
    refine m_isPlace ?_
    have hpl := plc (pd (2 * m)) (by omega) l33
    refine pw_if_ne (tgt := 38) dX6_readPlace_33 (by decide) (fun h8 => ?_) (fun h8 => ?_)
    · have h6 := hpl.mp (kb_ne0.mp h8)
      obtain ⟨P, hP⟩ : ∃ P, P = pd (2 * m) - 97 := ⟨_, rfl⟩
      have e97 : nI (pd (2 * m)) - nI 97 = nI P := by
        have : ∀ c, c < 127 → 97 ≤ c → nI c - nI 97 = nI (c - 97) := by decide
        rw [hP]
        exact this _ (by omega) h6.1
      have hP8 : P < 8 := by omega
      have hbit := fmk_bit (pd := pd) (i := 2 * m) hok P hP8
      rw [e97]
      refine pw_iconst_ (v := nI 0) dX6_readPlace_38 (by decide) ?_
      refine px_istore_n (ls' := [some (.ref 227), some (.int (nI P)), some (.int (nI 0))]) dX6_readPlace_39 rfl rfl (by decide) ?_
      have lp : ∀ i : Nat, i ≤ m → (∀ k, k < i → pd (2 * k) - 97 ≠ P) → PS l E D cA mX6_readPlace (d + 3) fin 40 [some (.ref 227), some (.int (nI P)), some (.int (nI i))] [] μ := by
        refine ps_for m ?_ ?_
        · intro hN
          refine pw_iload_n dX6_readPlace_40 rfl ?_
          refine pw_aload_n dX6_readPlace_41 rfl ?_
          refine ps_geti (x := nI m) dX6_readPlace_42 kf_X6_148 (by decide) (by decide +kernel) h12 ?_
          refine pn_ge (tgt := 66) dX6_readPlace_45 (by decide) (by omega) (by omega) (fun _ => ?_) (fun h9 => absurd h9 (by omega))
          refine pw_aload_n dX6_readPlace_66 rfl ?_
          refine ps_getr (r := 236) dX6_readPlace_67 kf_X6_35 (by decide) (by decide +kernel) ?_
          refine pw_aload_n dX6_readPlace_70 rfl ?_
          refine ps_geti (x := nI m) dX6_readPlace_71 kf_X6_148 (by decide) (by decide +kernel) h12 ?_
          refine pw_iload_n dX6_readPlace_74 rfl ?_
          refine ps_iast (j := m) dX6_readPlace_75 rfl (ok_ar (n := 8) (by decide +kernel) (by omega)) ?_
          refine pw_aload_n dX6_readPlace_76 rfl ?_
          refine pw_dup dX6_readPlace_77 rfl ?_
          refine ps_geti (x := nI m) dX6_readPlace_78 kf_X6_148 (by decide) (by decide +kernel) ((u2_a (by omega)).trans h12) ?_
          refine pw_iconst_ (v := nI 1) dX6_readPlace_81 (by decide) ?_
          refine px_iaddn (c := m + 1) dX6_readPlace_82 (by omega) ?_
          refine ps_puti dX6_readPlace_83 kf_X6_148 (by decide) rfl (by decide +kernel) ?_
          refine pw_aload_n dX6_readPlace_86 rfl ?_
          refine pw_dup dX6_readPlace_87 rfl ?_
          refine ps_geti (x := nI (2 * m)) dX6_readPlace_88 kf_X6_222 (by decide) (by decide +kernel) ((u2_b (by decide)).trans ((u2_a (by omega)).trans h9)) ?_
          refine pw_iconst_ (v := nI 1) dX6_readPlace_91 (by decide) ?_
          refine px_iaddn (c := 2 * m + 1) dX6_readPlace_92 (by omega) ?_
          refine ps_puti dX6_readPlace_93 kf_X6_222 (by decide) rfl (by decide +kernel) ?_
          refine pw_iconst_ (v := nI 1) dX6_readPlace_96 (by decide) ?_
          have ok2 : okc pd (2 * m) = true := by
            unfold okc
            rw [if_pos (by omega), decide_eq_true_eq]
            refine ⟨h6.1, h6.2, fun q => ?_⟩
            rw [← hP] at q
            obtain ⟨k, k1, k2⟩ := hbit.mp q
            exact hN k (by omega) k2
          exact ps_iret dX6_readPlace_97 rfl (by decide) (hf2 hc ok2 _ u2_s (by rw [u2_b (by decide), u2_s]) (fun k hk => by
              rw [u2_a (by decide), u2_a (by decide)]
              by_cases e : k = m
              · subst e
                rw [u2_s, hP]
              · rw [u2_b e]
                exact hrd k (by omega)) (fun q k g1 g2 => by
              by_cases e : q = 227
              · rw [e] at g2 ⊢
                rw [u2_b (g2 rfl).1, u2_b (g2 rfl).2, u2_a (by decide)]
              · rw [u2_a e, u2_a e, u2_a g1]))
        · intro i hi ih hN
          have hpi := hsm i hi
          refine pw_iload_n dX6_readPlace_40 rfl ?_
          refine pw_aload_n dX6_readPlace_41 rfl ?_
          refine ps_geti (x := nI m) dX6_readPlace_42 kf_X6_148 (by decide) (by decide +kernel) h12 ?_
          refine pn_ge (tgt := 66) dX6_readPlace_45 (by decide) (by omega) (by omega) (fun h9 => absurd h9 (by omega)) (fun _ => ?_)
          refine pw_aload_n dX6_readPlace_48 rfl ?_
          refine ps_getr (r := 236) dX6_readPlace_49 kf_X6_35 (by decide) (by decide +kernel) ?_
          refine pw_iload_n dX6_readPlace_52 rfl ?_
          refine ps_iald (j := i) (x := nI (pd (2 * i) - 97)) dX6_readPlace_53 rfl (ok_ar (n := 8) (by decide +kernel) (by omega)) (hrd i hi) ?_
          refine pw_iload_n dX6_readPlace_54 rfl ?_
          refine pn_ne (tgt := 60) dX6_readPlace_55 (by decide) (by omega) (by omega) (fun he => ?_) (fun he => ?_)
          · refine px_iincn (n := 1) (a := i) (b := i + 1) (ls' := [some (.ref 227), some (.int (nI P)), some (.int (nI (i + 1)))]) dX6_readPlace_60 rfl rfl rfl (by omega) ?_
            refine pw_goto (tgt := 40) dX6_readPlace_63 (by decide) ?_
            exact ih (fun k hk => by
              rcases Nat.lt_or_eq_of_le (Nat.le_of_lt_succ hk) with h | rfl
              · exact hN k h
              · exact he)
          · refine pw_iconst_ (v := nI 0) dX6_readPlace_58 (by decide) ?_
            exact ps_iret dX6_readPlace_59 rfl (by decide) (hf1 (fun q => by
              have h7 := q.2
              unfold okc at h7
              rw [if_pos (by omega), decide_eq_true_eq] at h7
              exact h7.2.2 (by rw [← hP]; exact hbit.mpr ⟨i, by omega, he⟩)))
      exact lp 0 (Nat.zero_le _) (fun k hk => absurd hk (Nat.not_lt_zero _))
    · have h6 := kb_eq0.mp h8
      rw [hpl] at h6
      refine pw_iconst_ (v := nI 0) dX6_readPlace_36 (by decide) ?_
      exact ps_iret dX6_readPlace_37 rfl (by decide) (hf1 (fun q => by
        have h7 := q.2
        unfold okc at h7
        rw [if_pos (by omega), decide_eq_true_eq] at h7
        exact h6 ⟨h7.1, h7.2.1⟩))
end MODJ
