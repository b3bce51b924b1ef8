/-! the model: next, prepare -/
theorem nI_n6 {u : Nat} (h : u < 2 ^ 31) : nI u ≠ -100006 := fun q => by
  have h2 := congrArg Int32.toInt q
  rw [nI_toInt (by omega), show (-100006 : Int32).toInt = -100006 by decide] at h2
  omega
theorem nxp_s {a : AS} {g : GT} {i : Nat} : nxp a g (i + 1) = if dn g i < tl a i then (match nxp a g i with
    | none => some i
    | some t => if come a g i < come a g t then some i else some t) else nxp a g i := rfl
section MODN
variable {l : Launch} {E : EV} {D : va_G} {cA : Nat → ClassId} {fin : Option Value → Mu → Prop} {μ : Mu} {d : Nat}
set_option maxRecDepth 100000 in
set_option maxHeartbeats 4000000 in
theorem m_next {n : Nat} {a : AS} {g : GT} (hw : Wf a) (hna : n ≤ a 3) (hJ : MJ μ a n g) (hb : ∀ t, t < n → dn g t ≤ tl a t ∧ come a g t < 2 ^ 28) (hf : fin (some (.int (eF (nxp a g n)))) μ) : PS l E D cA mX6_next d fin 0 [some (.ref 227), none, none, none] [] μ := by
  have n6 := hw.t6
  refine pw_ldc dX6_next_0 kc_X6_99 ?_
  refine px_istore_n (ls' := [some (.ref 227), some (.int (-100006)), none, none]) dX6_next_2 rfl rfl (by decide) ?_
  refine pw_iconst_ (v := nI 0) dX6_next_3 (by decide) ?_
  refine px_istore_n (ls' := [some (.ref 227), some (.int (-100006)), some (.int (nI 0)), none]) dX6_next_4 rfl rfl (by decide) ?_
  have lp : ∀ i : Nat, i ≤ n → ∀ l3 : Option Value, PS l E D cA mX6_next d fin 5 [some (.ref 227), some (.int (eF (nxp a g i))), some (.int (nI i)), l3] [] μ := by
    refine ps_for _ ?_ ?_
    · intro l3
      refine pw_iload_n dX6_next_5 rfl ?_
      refine pw_aload_n dX6_next_6 rfl ?_
      refine ps_geti (x := nI n) dX6_next_7 kf_X6_82 (by decide) (by decide +kernel) (hJ.1) ?_
      refine pn_ge (tgt := 91) dX6_next_10 (by decide) (by omega) (by omega) (fun _ => ?_) (fun h9 => absurd h9 (by omega))
      refine pw_iload_n dX6_next_91 rfl ?_
      exact ps_iret dX6_next_92 rfl (rfl) hf
    · intro i hi ih l3
      have l8 := tl_le hw (t := i) (by omega)
      have d8 := (hb i hi).1
      refine pw_iload_n dX6_next_5 rfl ?_
      refine pw_aload_n dX6_next_6 rfl ?_
      refine ps_geti (x := nI n) dX6_next_7 kf_X6_82 (by decide) (by decide +kernel) (hJ.1) ?_
      refine pn_ge (tgt := 91) dX6_next_10 (by decide) (by omega) (by omega) (fun h9 => absurd h9 (by omega)) (fun _ => ?_)
      refine pw_aload_n dX6_next_13 rfl ?_
      refine ps_getr (r := 244) dX6_next_14 kf_X6_59 (by decide) (by decide +kernel) ?_
      refine pw_iload_n dX6_next_17 rfl ?_
      refine ps_iald (j := i) (x := nI (dn g i)) dX6_next_18 rfl (ok_ar (n := 6) (by decide +kernel) (by omega)) (hJ.2.1 i hi).1.2.1 ?_
      refine pw_aload_n dX6_next_19 rfl ?_
      refine ps_getr (r := 237) dX6_next_20 kf_X6_38 (by decide) (by decide +kernel) ?_
      refine pw_iload_n dX6_next_23 rfl ?_
      refine ps_iald (j := i) (x := nI (tl a i)) dX6_next_24 rfl (ok_ar (n := 6) (by decide +kernel) (by omega)) (hJ.2.1 i hi).1.1 ?_
      refine pn_ge (tgt := 32) dX6_next_25 (by decide) (by omega) (by omega) (fun hc => ?_) (fun hc => ?_)
      · refine pw_iconst_ (v := nI 0) dX6_next_32 (by decide) ?_
        refine px_istore_n (ls' := [some (.ref 227), some (.int (eF (nxp a g i))), some (.int (nI i)), some (.int (nI 0))]) dX6_next_33 rfl rfl (by decide) ?_
        refine pw_iload_n dX6_next_34 rfl ?_
        refine pw_if_eq (tgt := 83) dX6_next_35 (by decide) (fun _ => ?_) (fun h9 => absurd nI_0 h9)
        refine pw_iload_n dX6_next_83 rfl ?_
        refine px_istore_n (ls' := [some (.ref 227), some (.int (eF (nxp a g i))), some (.int (nI i)), some (.int (nI 0))]) dX6_next_84 rfl rfl (by decide) ?_
        refine px_iincn (n := 1) (a := i) (b := i + 1) (ls' := [some (.ref 227), some (.int (eF (nxp a g i))), some (.int (nI (i + 1))), some (.int (nI 0))]) dX6_next_85 rfl rfl rfl (by omega) ?_
        refine pw_goto (tgt := 5) dX6_next_88 (by decide) ?_
        have e9 : nxp a g (i + 1) = nxp a g i := by rw [nxp_s, if_neg (by omega)]
        rw [e9] at ih
        exact ih _
      · refine pw_iconst_ (v := nI 1) dX6_next_28 (by decide) ?_
        refine pw_goto (tgt := 33) dX6_next_29 (by decide) ?_
        refine px_istore_n (ls' := [some (.ref 227), some (.int (eF (nxp a g i))), some (.int (nI i)), some (.int (nI 1))]) dX6_next_33 rfl rfl (by decide) ?_
        refine pw_iload_n dX6_next_34 rfl ?_
        refine pw_if_eq (tgt := 83) dX6_next_35 (by decide) (fun h9 => absurd h9 nI1_ne) (fun _ => ?_)
        refine pw_iload_n dX6_next_38 rfl ?_
        refine pw_ldc dX6_next_39 kc_X6_99 ?_
        have hci := (hJ.2.1 i hi).2 hc
        have hbi := (hb i hi).2
        cases hn : nxp a g i with
        | none =>
          show PS l E D cA mX6_next d fin 41 [some (.ref 227), some (.int (-100006)), some (.int (nI i)), some (.int (nI 1))] [.int (-100006), .int (-100006)] μ
          refine pw_icmp_eq (tgt := 79) dX6_next_41 (by decide) (fun _ => ?_) (fun h9 => absurd rfl h9)
          refine pw_iload_n dX6_next_79 rfl ?_
          refine pw_goto (tgt := 84) dX6_next_80 (by decide) ?_
          refine px_istore_n (ls' := [some (.ref 227), some (.int (nI i)), some (.int (nI i)), some (.int (nI 1))]) dX6_next_84 rfl rfl (by decide) ?_
          refine px_iincn (n := 1) (a := i) (b := i + 1) (ls' := [some (.ref 227), some (.int (nI i)), some (.int (nI (i + 1))), some (.int (nI 1))]) dX6_next_85 rfl rfl rfl (by omega) ?_
          refine pw_goto (tgt := 5) dX6_next_88 (by decide) ?_
          have e9 : nxp a g (i + 1) = some i := by rw [nxp_s, if_pos hc, hn]
          rw [e9] at ih
          exact ih _
        | some b =>
          obtain ⟨b1, b2⟩ := nxp_lt hn
          have hcb := (hJ.2.1 b (by omega)).2 b2
          have hbb := (hb b (by omega)).2
          have b8 := tl_le hw (t := b) (by omega)
          have n6 := hw.t6
          show PS l E D cA mX6_next d fin 41 [some (.ref 227), some (.int (nI b)), some (.int (nI i)), some (.int (nI 1))] [.int (-100006), .int (nI b)] μ
          refine pw_icmp_eq (tgt := 79) dX6_next_41 (by decide) (fun h9 => absurd h9 (nI_n6 (by omega))) (fun _ => ?_)
          refine pw_aload_n dX6_next_44 rfl ?_
          refine ps_getr (r := 239) dX6_next_45 kf_X6_44 (by decide) (by decide +kernel) ?_
          refine pw_bipush (v := nI 8) dX6_next_48 (by decide) ?_
          refine pw_iload_n dX6_next_50 rfl ?_
          refine px_imuln (c := 8 * i) dX6_next_51 (by omega) ?_
          refine pw_aload_n dX6_next_52 rfl ?_
          refine ps_getr (r := 244) dX6_next_53 kf_X6_59 (by decide) (by decide +kernel) ?_
          refine pw_iload_n dX6_next_56 rfl ?_
          refine ps_iald (j := i) (x := nI (dn g i)) dX6_next_57 rfl (ok_ar (n := 6) (by decide +kernel) (by omega)) (hJ.2.1 i hi).1.2.1 ?_
          refine px_iaddn (c := 8 * i + dn g i) dX6_next_58 (by omega) ?_
          refine ps_iald (j := 8 * i + dn g i) (x := nI (come a g i)) dX6_next_59 rfl (ok_ar (n := 48) (by decide +kernel) (by omega)) (hci.1) ?_
          refine pw_aload_n dX6_next_60 rfl ?_
          refine ps_getr (r := 239) dX6_next_61 kf_X6_44 (by decide) (by decide +kernel) ?_
          refine pw_bipush (v := nI 8) dX6_next_64 (by decide) ?_
          refine pw_iload_n dX6_next_66 rfl ?_
          refine px_imuln (c := 8 * b) dX6_next_67 (by omega) ?_
          refine pw_aload_n dX6_next_68 rfl ?_
          refine ps_getr (r := 244) dX6_next_69 kf_X6_59 (by decide) (by decide +kernel) ?_
          refine pw_iload_n dX6_next_72 rfl ?_
          refine ps_iald (j := b) (x := nI (dn g b)) dX6_next_73 rfl (ok_ar (n := 6) (by decide +kernel) (by omega)) (hJ.2.1 b (by omega)).1.2.1 ?_
          refine px_iaddn (c := 8 * b + dn g b) dX6_next_74 (by omega) ?_
          refine ps_iald (j := 8 * b + dn g b) (x := nI (come a g b)) dX6_next_75 rfl (ok_ar (n := 48) (by decide +kernel) (by omega)) (hcb.1) ?_
          refine pn_ge (tgt := 83) dX6_next_76 (by decide) (by omega) (by omega) (fun h1 => ?_) (fun h1 => ?_)
          · refine pw_iload_n dX6_next_83 rfl ?_
            refine px_istore_n (ls' := [some (.ref 227), some (.int (nI b)), some (.int (nI i)), some (.int (nI 1))]) dX6_next_84 rfl rfl (by decide) ?_
            refine px_iincn (n := 1) (a := i) (b := i + 1) (ls' := [some (.ref 227), some (.int (nI b)), some (.int (nI (i + 1))), some (.int (nI 1))]) dX6_next_85 rfl rfl rfl (by omega) ?_
            refine pw_goto (tgt := 5) dX6_next_88 (by decide) ?_
            have e9 : nxp a g (i + 1) = some b := by rw [nxp_s, if_pos hc, hn]; exact if_neg (by omega)
            rw [e9] at ih
            exact ih _
          · refine pw_iload_n dX6_next_79 rfl ?_
            refine pw_goto (tgt := 84) dX6_next_80 (by decide) ?_
            refine px_istore_n (ls' := [some (.ref 227), some (.int (nI i)), some (.int (nI i)), some (.int (nI 1))]) dX6_next_84 rfl rfl (by decide) ?_
            refine px_iincn (n := 1) (a := i) (b := i + 1) (ls' := [some (.ref 227), some (.int (nI i)), some (.int (nI (i + 1))), some (.int (nI 1))]) dX6_next_85 rfl rfl rfl (by omega) ?_
            refine pw_goto (tgt := 5) dX6_next_88 (by decide) ?_
            have e9 : nxp a g (i + 1) = some i := by rw [nxp_s, if_pos hc, hn]; exact if_pos h1
            rw [e9] at ih
            exact ih _
  exact lp 0 (Nat.zero_le _) _
set_option maxRecDepth 100000 in
set_option maxHeartbeats 4000000 in
theorem m_prepare {n : Nat} {a : AS} (hw : Wf a) (hna : n ≤ a 3) (hR : RM μ a) (hf : ∀ ν : Mu, MJ ν a n (g0 a) → PF ν μ → fin none ν) : PS l E D cA mX6_prepare (d + 2) fin 0 [some (.ref 227), some (.int (nI n)), none, none, none] [] μ := by
  have n6 := hw.t6
  refine pw_aload_n dX6_prepare_0 rfl ?_
  refine pw_iload_n dX6_prepare_1 rfl ?_
  refine ps_puti dX6_prepare_2 kf_X6_82 (by decide) rfl (by decide +kernel) ?_
  refine pw_iconst_ (v := nI 0) dX6_prepare_5 (by decide) ?_
  refine px_istore_n (ls' := [some (.ref 227), some (.int (nI n)), some (.int (nI 0)), none, none]) dX6_prepare_6 rfl rfl (by decide) ?_
  have lf : ∀ i : Nat, i ≤ 8 → ∀ κ : Mu, ((∀ q k, q ≠ 245 → κ q k = (u2 μ 227 13 (nI n)) q k) ∧ ∀ k, k < i → κ 245 k = nI 0) → PS l E D cA mX6_prepare (d + 2) fin 7 [some (.ref 227), some (.int (nI n)), some (.int (nI i)), none, none] [] κ := by
    refine ps_for 8 ?_ ?_
    · rintro κ ⟨k1, k2⟩
      refine pw_iload_n dX6_prepare_7 rfl ?_
      refine pw_bipush (v := nI 8) dX6_prepare_8 (by decide) ?_
      refine pn_ge (tgt := 26) dX6_prepare_10 (by decide) (by omega) (by omega) (fun _ => ?_) (fun h9 => absurd h9 (by decide))
      refine pw_iconst_ (v := nI 0) dX6_prepare_26 (by decide) ?_
      refine px_istore_n (ls' := [some (.ref 227), some (.int (nI n)), some (.int (nI 0)), none, none]) dX6_prepare_27 rfl rfl (by decide) ?_
      have p0 : PF κ μ := fun q k g1 g2 => (k1 q k (by omega)).trans (by
        by_cases e : q = 227
        · subst e
          exact u2_b (g2 rfl)
        · exact u2_a e)
      have p13 : κ 227 13 = nI n := (k1 _ _ (by decide)).trans u2_s
      have lo : ∀ t : Nat, t ≤ n → ∀ (l3 l4 : Option Value) (ν : Mu), (PF ν μ ∧ ν 227 13 = nI n ∧ (∀ p, p < 8 → ν 245 p = nI 0) ∧ ∀ u, u < t → MT0 ν a (g0 a) u ∧ MT1 ν a (g0 a) u) → PS l E D cA mX6_prepare (d + 2) fin 28 [some (.ref 227), some (.int (nI n)), some (.int (nI t)), l3, l4] [] ν := by
        refine ps_for n ?_ ?_
        · rintro l3 l4 ν ⟨o1, o2, o3, o4⟩
          refine pw_iload_n dX6_prepare_28 rfl ?_
          refine pw_iload_n dX6_prepare_29 rfl ?_
          refine pn_ge (tgt := 133) dX6_prepare_30 (by decide) (by omega) (by omega) (fun _ => ?_) (fun h9 => absurd h9 (by omega))
          exact ps_ret dX6_prepare_133 rfl (hf ν ⟨o2, fun u hu => o4 u hu, o3⟩ o1)
        · rintro t ht ih l3 l4 ν ⟨o1, o2, o3, o4⟩
          have hT := hw.tm (t := t) (by omega)
          have hRν := o1.rm hR
          refine pw_iload_n dX6_prepare_28 rfl ?_
          refine pw_iload_n dX6_prepare_29 rfl ?_
          refine pn_ge (tgt := 133) dX6_prepare_30 (by decide) (by omega) (by omega) (fun h9 => absurd h9 (by omega)) (fun _ => ?_)
          refine pw_iconst_ (v := nI 0) dX6_prepare_33 (by decide) ?_
          refine px_istore_n (ls' := [some (.ref 227), some (.int (nI n)), some (.int (nI t)), some (.int (nI 0)), l4]) dX6_prepare_34 rfl rfl (by decide) ?_
          refine pw_iconst_ (v := nI 0) dX6_prepare_35 (by decide) ?_
          refine px_istore (ls' := [some (.ref 227), some (.int (nI n)), some (.int (nI t)), some (.int (nI 0)), some (.int (nI 0))]) dX6_prepare_36 rfl rfl (by decide) ?_
          have li : ∀ i : Nat, i ≤ a (39 + 12 * t) → ∀ σ : Mu, ((∀ q k, ¬ (q = 238 ∧ 8 * t ≤ k) → σ q k = ν q k) ∧ ∀ v, v < (trp a t i).length → σ 238 (8 * t + v) = nI (trv a t v)) → PS l E D cA mX6_prepare (d + 2) fin 38 [some (.ref 227), some (.int (nI n)), some (.int (nI t)), some (.int (nI ((trp a t i).length))), some (.int (nI i))] [] σ := by
            refine ps_for _ ?_ ?_
            · rintro σ ⟨s1, s2⟩
              have hRσ : RM σ a := fun k hk => (s1 _ _ (by omega)).trans (hRν k hk)
              have l8 := tl_le hw (t := t) (by omega)
              have ltl : (trp a t (a (39 + 12 * t))).length = tl a t := rfl
              rw [ltl]
              refine pw_iload dX6_prepare_38 rfl ?_
              refine pw_aload_n dX6_prepare_40 rfl ?_
              refine pw_iload_n dX6_prepare_41 rfl ?_
              refine pw_iconst_ (v := nI 3) dX6_prepare_42 (by decide) ?_
              refine ps_callV (b := 227) (As := [.int (nI t), .int (nI 3)]) (st := [.int (nI (a (39 + 12 * t)))]) dX6_prepare_43 cv_X6_85 rfl ⟨by decide, by decide +kernel⟩ (Nat.le_of_ble_eq_true rfl) (Nat.le_of_ble_eq_true rfl) ?_
              refine m_its (t := t) (w := 3) (by omega) ((hRσ _ (by omega)).trans (by rw [show 36 + 12 * t + 3 = 39 + 12 * t by omega])) ?_
              show PS l E D cA mX6_prepare (d + 2) fin 46 [some (.ref 227), some (.int (nI n)), some (.int (nI t)), some (.int (nI (tl a t))), some (.int (nI (a (39 + 12 * t))))] [.int (nI (a (39 + 12 * t))), .int (nI (a (39 + 12 * t)))] σ
              refine pn_ge (tgt := 95) dX6_prepare_46 (by decide) (by omega) (by omega) (fun _ => ?_) (fun h9 => absurd h9 (by omega))
              refine pw_aload_n dX6_prepare_95 rfl ?_
              refine ps_getr (r := 237) dX6_prepare_96 kf_X6_38 (by decide) (by decide +kernel) ?_
              refine pw_iload_n dX6_prepare_99 rfl ?_
              refine pw_iload_n dX6_prepare_100 rfl ?_
              refine ps_iast (j := t) dX6_prepare_101 rfl (ok_ar (n := 6) (by decide +kernel) (by omega)) ?_
              refine pw_aload_n dX6_prepare_102 rfl ?_
              refine ps_getr (r := 244) dX6_prepare_103 kf_X6_59 (by decide) (by decide +kernel) ?_
              refine pw_iload_n dX6_prepare_106 rfl ?_
              refine pw_iconst_ (v := nI 0) dX6_prepare_107 (by decide) ?_
              refine ps_iast (j := t) dX6_prepare_108 rfl (ok_ar (n := 6) (by decide +kernel) (by omega)) ?_
              refine pw_aload_n dX6_prepare_109 rfl ?_
              refine ps_getr (r := 243) dX6_prepare_110 kf_X6_56 (by decide) (by decide +kernel) ?_
              refine pw_iload_n dX6_prepare_113 rfl ?_
              refine pw_aload_n dX6_prepare_114 rfl ?_
              refine pw_iload_n dX6_prepare_115 rfl ?_
              refine pw_iconst_ (v := nI 0) dX6_prepare_116 (by decide) ?_
              refine ps_callV (b := 227) (As := [.int (nI t), .int (nI 0)]) (st := [.int (nI t), .ref 243]) dX6_prepare_117 cv_X6_85 rfl ⟨by decide, by decide +kernel⟩ (Nat.le_of_ble_eq_true rfl) (Nat.le_of_ble_eq_true rfl) ?_
              refine m_its (t := t) (w := 0) (by omega) ((hRσ _ (by omega)).trans (by rw [show 36 + 12 * t + 0 = 36 + 12 * t by omega])) ?_
              show PS l E D cA mX6_prepare (d + 2) fin 120 [some (.ref 227), some (.int (nI n)), some (.int (nI t)), some (.int (nI (tl a t))), some (.int (nI (a (39 + 12 * t))))] [.int (nI (a (36 + 12 * t))), .int (nI t), .ref 243] (u2 (u2 σ 237 t (nI (tl a t))) 244 t (nI 0))
              refine ps_iast (j := t) dX6_prepare_120 rfl (ok_ar (n := 6) (by decide +kernel) (by omega)) ?_
              refine pw_aload_n dX6_prepare_121 rfl ?_
              refine pw_iload_n dX6_prepare_122 rfl ?_
              refine pw_iconst_ (v := nI 0) dX6_prepare_123 (by decide) ?_
              have w0 : MT0 (u2 (u2 (u2 σ 237 t (nI (tl a t))) 244 t (nI 0)) 243 t (nI (a (36 + 12 * t)))) a (g0 a) t := ⟨(u2_a (by decide)).trans ((u2_a (by decide)).trans u2_s), (u2_a (by decide)).trans u2_s, u2_s, fun v hv => (u2_a (by decide)).trans ((u2_a (by decide)).trans ((u2_a (by decide)).trans (s2 v hv))), fun v hv => absurd hv (Nat.not_lt_zero _)⟩
              have wR : RM (u2 (u2 (u2 σ 237 t (nI (tl a t))) 244 t (nI 0)) 243 t (nI (a (36 + 12 * t)))) a := fun k hk => (u2_a (by decide)).trans ((u2_a (by decide)).trans ((u2_a (by decide)).trans (hRσ k hk)))
              refine ps_callV (b := 227) (As := [.int (nI t), .int (nI 0)]) (st := []) dX6_prepare_124 cv_X6_92 rfl ⟨by decide, by decide +kernel⟩ (Nat.le_of_ble_eq_true rfl) (Nat.le_of_ble_eq_true rfl) ?_
              refine m_walk (g := g0 a) hw (by omega) wR w0 (Nat.zero_le _) ⟨fun q => absurd nI_0 q, fun q => by cases q⟩ (fun ρ r1 r2 => ?_)
              show PS l E D cA mX6_prepare (d + 2) fin 127 [some (.ref 227), some (.int (nI n)), some (.int (nI t)), some (.int (nI (tl a t))), some (.int (nI (a (39 + 12 * t))))] [] ρ
              refine px_iincn (n := 1) (a := t) (b := t + 1) (ls' := [some (.ref 227), some (.int (nI n)), some (.int (nI (t + 1))), some (.int (nI (tl a t))), some (.int (nI (a (39 + 12 * t))))]) dX6_prepare_127 rfl rfl rfl (by omega) ?_
              refine pw_goto (tgt := 28) dX6_prepare_130 (by decide) ?_
              have r3 : ∀ q k, ¬ ((q = 239 ∨ q = 242) ∧ k = 8 * t) → ¬ ((q = 237 ∨ q = 243 ∨ q = 244) ∧ k = t) → ¬ (q = 238 ∧ 8 * t ≤ k) → ρ q k = ν q k := fun q k g1 g2 g3 => by
                refine (r2 q k (fun h9 => g1 ⟨h9.1, h9.2.1⟩)).trans ?_
                by_cases e : k = t
                · rw [u2_a (fun q9 => g2 ⟨Or.inr (Or.inl q9), e⟩), u2_a (fun q9 => g2 ⟨Or.inr (Or.inr q9), e⟩), u2_a (fun q9 => g2 ⟨Or.inl q9, e⟩)]
                  exact s1 q k g3
                · have f : ∀ (κ : Mu) (i : Nat) (x : Int32), u2 κ i t x q k = κ q k := fun κ i x => by
                    unfold u2
                    rw [if_neg (fun q9 => e q9.2)]
                  rw [f, f, f]
                  exact s1 q k g3
              refine ih _ _ ρ ⟨fun q k g1 g2 => (r3 q k (by omega) (by omega) (by omega)).trans (o1 q k g1 g2), (r3 _ _ (by omega) (by omega) (by omega)).trans o2, fun p hp => (r3 _ _ (by omega) (by omega) (by omega)).trans (o3 p hp), fun u hu => ?_⟩
              rcases Nat.lt_or_eq_of_le (Nat.le_of_lt_succ hu) with h | rfl
              · obtain ⟨m0, m1⟩ := o4 u h
                have u8 := tl_le hw (t := u) (by omega)
                have d0 : dn (g0 a) u = 0 := rfl
                refine ⟨m0.same (r3 _ _ (by omega) (by omega) (by omega)) (r3 _ _ (by omega) (by omega) (by omega)) (r3 _ _ (by omega) (by omega) (by omega)) (fun v hv => r3 _ _ (by omega) (by omega) (by omega)) (fun q v _ _ hv => absurd hv (Nat.not_lt_zero _)), fun hl => ?_⟩
                have m2 := m1 hl
                rw [d0] at m2 ⊢
                exact ⟨(r3 _ _ (by omega) (by omega) (by omega)).trans m2.1, (r3 _ _ (by omega) (by omega) (by omega)).trans m2.2⟩
              · refine ⟨⟨(r2 _ _ (by omega)).trans w0.1, (r2 _ _ (by omega)).trans w0.2.1, (r2 _ _ (by omega)).trans w0.2.2.1, fun v hv => (r2 _ _ (by omega)).trans (w0.2.2.2.1 v hv), fun v hv => absurd hv (Nat.not_lt_zero _)⟩, r1⟩
            · rintro i hi ih2 σ ⟨s1, s2⟩
              have hRσ : RM σ a := fun k hk => (s1 _ _ (by omega)).trans (hRν k hk)
              have hpl := hT.2.2.2.2 i hi
              obtain ⟨p, hp⟩ : ∃ p, p = a (40 + 12 * t + i) := ⟨_, rfl⟩
              rw [← hp] at hpl
              have hPl := (hw.pl hpl).2.2.2
              have hle : (trp a t i).length ≤ i := Nat.le_trans (trp_len a t i) (Nat.le_refl _)
              have hts := trp_s a t i
              rw [← hp] at hts
              refine pw_iload dX6_prepare_38 rfl ?_
              refine pw_aload_n dX6_prepare_40 rfl ?_
              refine pw_iload_n dX6_prepare_41 rfl ?_
              refine pw_iconst_ (v := nI 3) dX6_prepare_42 (by decide) ?_
              refine ps_callV (b := 227) (As := [.int (nI t), .int (nI 3)]) (st := [.int (nI i)]) dX6_prepare_43 cv_X6_85 rfl ⟨by decide, by decide +kernel⟩ (Nat.le_of_ble_eq_true rfl) (Nat.le_of_ble_eq_true rfl) ?_
              refine m_its (t := t) (w := 3) (by omega) ((hRσ _ (by omega)).trans (by rw [show 36 + 12 * t + 3 = 39 + 12 * t by omega])) ?_
              show PS l E D cA mX6_prepare (d + 2) fin 46 [some (.ref 227), some (.int (nI n)), some (.int (nI t)), some (.int (nI ((trp a t i).length))), some (.int (nI i))] [.int (nI (a (39 + 12 * t))), .int (nI i)] σ
              refine pn_ge (tgt := 95) dX6_prepare_46 (by decide) (by omega) (by omega) (fun h9 => absurd h9 (by omega)) (fun _ => ?_)
              refine pw_aload_n dX6_prepare_49 rfl ?_
              refine pw_aload_n dX6_prepare_50 rfl ?_
              refine pw_iload_n dX6_prepare_51 rfl ?_
              refine pw_iconst_ (v := nI 4) dX6_prepare_52 (by decide) ?_
              refine pw_iload dX6_prepare_53 rfl ?_
              refine px_iaddn (c := 4 + i) dX6_prepare_55 (by omega) ?_
              refine ps_callV (b := 227) (As := [.int (nI t), .int (nI (4 + i))]) (st := [.ref 227]) dX6_prepare_56 cv_X6_85 rfl ⟨by decide, by decide +kernel⟩ (Nat.le_of_ble_eq_true rfl) (Nat.le_of_ble_eq_true rfl) ?_
              refine m_its (t := t) (w := 4 + i) (by omega) ((hRσ _ (by omega)).trans (by rw [show 36 + 12 * t + (4 + i) = 40 + 12 * t + i by omega, ← hp])) ?_
              show PS l E D cA mX6_prepare (d + 2) fin 59 [some (.ref 227), some (.int (nI n)), some (.int (nI t)), some (.int (nI ((trp a t i).length))), some (.int (nI i))] [.int (nI p), .ref 227] σ
              refine pw_iconst_ (v := nI 3) dX6_prepare_59 (by decide) ?_
              refine ps_callV (b := 227) (As := [.int (nI p), .int (nI 3)]) (st := []) dX6_prepare_60 cv_X6_89 rfl ⟨by decide, by decide +kernel⟩ (Nat.le_of_ble_eq_true rfl) (Nat.le_of_ble_eq_true rfl) ?_
              refine m_of (p := p) (w := 3) (by omega) ((hRσ _ (by omega)).trans (by rw [show 4 + 4 * p + 3 = 7 + 4 * p by omega])) ?_
              show PS l E D cA mX6_prepare (d + 2) fin 63 [some (.ref 227), some (.int (nI n)), some (.int (nI t)), some (.int (nI ((trp a t i).length))), some (.int (nI i))] [.int (nI (a (7 + 4 * p)))] σ
              have hz1 : ∀ m, m ≤ 1 → (nI m ≠ 0 ↔ m ≠ 0) := by decide
              refine pw_if_ne (tgt := 89) dX6_prepare_63 (by decide) (fun h9 => ?_) (fun h9 => ?_)
              · have h8 := (hz1 _ hPl).mp h9
                rw [if_neg h8, List.append_nil] at hts
                refine px_iincn (n := 1) (a := i) (b := i + 1) (ls' := [some (.ref 227), some (.int (nI n)), some (.int (nI t)), some (.int (nI ((trp a t i).length))), some (.int (nI (i + 1)))]) dX6_prepare_89 rfl rfl rfl (by omega) ?_
                refine pw_goto (tgt := 38) dX6_prepare_92 (by decide) ?_
                rw [hts] at ih2
                exact ih2 σ ⟨s1, s2⟩
              · have h8 : a (7 + 4 * p) = 0 := Classical.byContradiction (fun q => (hz1 _ hPl).mpr q h9)
                rw [if_pos h8] at hts
                have hta := trv_at hi (by rw [← hp]; exact h8)
                rw [← hp] at hta
                have l8 := tl_le hw (t := t) (by omega)
                refine pw_aload_n dX6_prepare_66 rfl ?_
                refine ps_getr (r := 238) dX6_prepare_67 kf_X6_41 (by decide) (by decide +kernel) ?_
                refine pw_bipush (v := nI 8) dX6_prepare_70 (by decide) ?_
                refine pw_iload_n dX6_prepare_72 rfl ?_
                refine px_imuln (c := 8 * t) dX6_prepare_73 (by omega) ?_
                refine pw_iload_n dX6_prepare_74 rfl ?_
                refine px_iaddn (c := 8 * t + (trp a t i).length) dX6_prepare_75 (by omega) ?_
                refine pw_aload_n dX6_prepare_76 rfl ?_
                refine pw_iload_n dX6_prepare_77 rfl ?_
                refine pw_iconst_ (v := nI 4) dX6_prepare_78 (by decide) ?_
                refine pw_iload dX6_prepare_79 rfl ?_
                refine px_iaddn (c := 4 + i) dX6_prepare_81 (by omega) ?_
                refine ps_callV (b := 227) (As := [.int (nI t), .int (nI (4 + i))]) (st := [.int (nI (8 * t + (trp a t i).length)), .ref 238]) dX6_prepare_82 cv_X6_85 rfl ⟨by decide, by decide +kernel⟩ (Nat.le_of_ble_eq_true rfl) (Nat.le_of_ble_eq_true rfl) ?_
                refine m_its (t := t) (w := 4 + i) (by omega) ((hRσ _ (by omega)).trans (by rw [show 36 + 12 * t + (4 + i) = 40 + 12 * t + i by omega, ← hp])) ?_
                show PS l E D cA mX6_prepare (d + 2) fin 85 [some (.ref 227), some (.int (nI n)), some (.int (nI t)), some (.int (nI ((trp a t i).length))), some (.int (nI i))] [.int (nI p), .int (nI (8 * t + (trp a t i).length)), .ref 238] σ
                refine ps_iast (j := 8 * t + (trp a t i).length) dX6_prepare_85 rfl (ok_ar (n := 48) (by decide +kernel) (by omega)) ?_
                refine px_iincn (n := 1) (a := (trp a t i).length) (b := (trp a t i).length + 1) (ls' := [some (.ref 227), some (.int (nI n)), some (.int (nI t)), some (.int (nI ((trp a t i).length + 1))), some (.int (nI i))]) dX6_prepare_86 rfl rfl rfl (by omega) ?_
                refine px_iincn (n := 1) (a := i) (b := i + 1) (ls' := [some (.ref 227), some (.int (nI n)), some (.int (nI t)), some (.int (nI ((trp a t i).length + 1))), some (.int (nI (i + 1)))]) dX6_prepare_89 rfl rfl rfl (by omega) ?_
                refine pw_goto (tgt := 38) dX6_prepare_92 (by decide) ?_
                have hl2 : (trp a t (i + 1)).length = (trp a t i).length + 1 := by rw [hts]; simp
                rw [hl2] at ih2
                refine ih2 _ ⟨fun q k g => (by
                  by_cases e : q = 238
                  · subst e
                    rw [u2_b (by omega)]
                    exact s1 _ k g
                  · rw [u2_a e]
                    exact s1 q k g), fun v hv => ?_⟩
                rcases Nat.lt_or_eq_of_le (Nat.le_of_lt_succ hv) with h | rfl
                · rw [u2_b (by omega)]
                  exact s2 v h
                · rw [u2_s, hta.1]
          exact li 0 (Nat.zero_le _) ν ⟨fun _ _ _ => rfl, fun v hv => absurd hv (Nat.not_lt_zero _)⟩
      exact lo 0 (Nat.zero_le _) _ _ κ ⟨p0, p13, k2, fun u hu => absurd hu (Nat.not_lt_zero _)⟩
    · rintro i hi ih κ ⟨k1, k2⟩
      refine pw_iload_n dX6_prepare_7 rfl ?_
      refine pw_bipush (v := nI 8) dX6_prepare_8 (by decide) ?_
      refine pn_ge (tgt := 26) dX6_prepare_10 (by decide) (by omega) (by omega) (fun h9 => absurd h9 (by omega)) (fun _ => ?_)
      refine pw_aload_n dX6_prepare_13 rfl ?_
      refine ps_getr (r := 245) dX6_prepare_14 kf_X6_62 (by decide) (by decide +kernel) ?_
      refine pw_iload_n dX6_prepare_17 rfl ?_
      refine pw_iconst_ (v := nI 0) dX6_prepare_18 (by decide) ?_
      refine ps_iast (j := i) dX6_prepare_19 rfl (ok_ar (n := 8) (by decide +kernel) (by omega)) ?_
      refine px_iincn (n := 1) (a := i) (b := i + 1) (ls' := [some (.ref 227), some (.int (nI n)), some (.int (nI (i + 1))), none, none]) dX6_prepare_20 rfl rfl rfl (by omega) ?_
      refine pw_goto (tgt := 7) dX6_prepare_23 (by decide) ?_
      refine ih _ ⟨fun q k g => (u2_a g).trans (k1 q k g), fun k hk => ?_⟩
      rcases Nat.lt_or_eq_of_le (Nat.le_of_lt_succ hk) with h | rfl
      · rw [u2_b (by omega)]
        exact k2 k h
      · rw [u2_s]
  exact lf 0 (Nat.zero_le _) _ ⟨fun _ _ _ => rfl, fun k hk => absurd hk (Nat.not_lt_zero _)⟩
end MODN
