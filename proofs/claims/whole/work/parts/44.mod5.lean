/-! the model: leave -/
section MODE
variable {l : Launch} {E : EV} {D : va_G} {cA : Nat → ClassId} {fin : Option Value → Mu → Prop} {μ : Mu} {d : Nat}
set_option maxRecDepth 100000 in
set_option maxHeartbeats 4000000 in
theorem m_leave {c : CS} (hw : CW c) (hx : MX μ c) {v : Int32} (hf : ∀ ν : Mu, MX ν (o_leave c v).2 → SX ν μ → fin (some (.int (o_leave c v).1)) ν) : PS l E D cA mX6_leave (d + 4) fin 0 [some (.ref 227), some (.int v), none] [] μ := by
  have hq := hx
  refine pw_aload_n dX6_leave_0 rfl ?_
  refine pw_iload_n dX6_leave_1 rfl ?_
  refine ps_callV (b := 227) (As := [.int v]) (st := []) dX6_leave_2 cv_X6_167 rfl ⟨by decide, by decide +kernel⟩ (Nat.le_of_ble_eq_true rfl) (Nat.le_of_ble_eq_true rfl) ?_
  refine m_isTeam (hx.1 3 (by decide)) ?_
  refine pw_if_ne (tgt := 11) dX6_leave_5 (by decide) (fun h9 => ?_) (fun h9 => ?_)
  · have h1 := kb_ne0.mp h9
    obtain ⟨t, ht, rfl⟩ := (rg_nat (by have := hw.1.t6; omega)).mp h1
    have t6 : t < 6 := Nat.lt_of_lt_of_le ht hw.1.t6
    have htn : iN (nI t) = t := iN_nI (by omega)
    refine pw_aload_n dX6_leave_11 rfl ?_
    refine ps_callV (b := 227) (As := []) (st := []) dX6_leave_12 cv_X6_75 rfl ⟨by decide, by decide +kernel⟩ (Nat.le_of_ble_eq_true rfl) (Nat.le_of_ble_eq_true rfl) ?_
    refine m_remember ?_
    intro ν n1 n2
    have hb : ∀ k, k < 108 → ν 230 k = nI (na c k) := fun k hk => (n1 k hk).trans (hx.1 k hk)
    have hr : RM ν (na c) := fun k hk => (n2 _ _ (by decide)).trans (hx.1 k hk)
    have hk : KG ν μ := fun q k g => n2 q k (by omega)
    show PS l E D cA mX6_leave (d + 4) fin 15 [some (.ref 227), some (.int (nI t)), none] [] ν
    have t6' := hw.1.t6
    obtain ⟨n, hn⟩ : ∃ n, na c 3 = n + 1 := ⟨na c 3 - 1, by omega⟩
    refine pw_aload_n dX6_leave_15 rfl ?_
    refine ps_getr (r := 228) dX6_leave_16 kf_X6_7 (by decide) (by decide +kernel) ?_
    refine pw_iconst_ (v := nI 3) dX6_leave_19 (by decide) ?_
    refine pw_dup2 dX6_leave_20 rfl rfl ?_
    refine ps_iald (j := 3) (x := nI (na c 3)) dX6_leave_21 rfl (ok_ar (n := 108) (by decide +kernel) (by decide)) (hr 3 (by decide)) ?_
    refine pw_iconst_ (v := nI 1) dX6_leave_22 (by decide) ?_
    refine pn_isub (by omega) dX6_leave_23 ?_
    rw [show na c 3 - 1 = n by omega]
    refine ps_iast (j := 3) dX6_leave_24 rfl (ok_ar (n := 108) (by decide +kernel) (by decide)) ?_
    refine pw_bipush (v := nI 36) dX6_leave_25 (by decide) ?_
    refine pw_bipush (v := nI 12) dX6_leave_27 (by decide) ?_
    refine pw_iload_n dX6_leave_29 rfl ?_
    refine px_imuln (c := 12 * t) dX6_leave_30 (by omega) ?_
    refine px_iaddn (c := 36 + 12 * t) dX6_leave_31 (by omega) ?_
    refine px_istore_n (ls' := [some (.ref 227), some (.int (nI t)), some (.int (nI (36 + 12 * t)))]) dX6_leave_32 rfl rfl (by decide) ?_
    have lp : ∀ i : Nat, i ≤ 36 + 12 * n → 36 + 12 * t ≤ i → ∀ κ : Mu, ((∀ q k, q ≠ 228 → κ q k = ν q k) ∧ (∀ k, 36 + 12 * t ≤ k → k < i → κ 228 k = nI (na c (k + 12))) ∧ ∀ k, (k < 36 + 12 * t ∨ i ≤ k) → κ 228 k = u2 ν 228 3 (nI n) 228 k) → PS l E D cA mX6_leave (d + 4) fin 33 [some (.ref 227), some (.int (nI t)), some (.int (nI i))] [] κ := by
      refine ps_for (36 + 12 * n) ?_ ?_
      · rintro hti κ ⟨k1, k2, k3⟩
        refine pw_iload_n dX6_leave_33 rfl ?_
        refine pw_bipush (v := nI 36) dX6_leave_34 (by decide) ?_
        refine pw_bipush (v := nI 12) dX6_leave_36 (by decide) ?_
        refine pw_aload_n dX6_leave_38 rfl ?_
        refine ps_getr (r := 228) dX6_leave_39 kf_X6_7 (by decide) (by decide +kernel) ?_
        refine pw_iconst_ (v := nI 3) dX6_leave_42 (by decide) ?_
        refine ps_iald (j := 3) (x := nI n) dX6_leave_43 rfl (ok_ar (n := 108) (by decide +kernel) (by decide)) ((k3 3 (by omega)).trans u2_s) ?_
        refine px_imuln (c := 12 * n) dX6_leave_44 (by omega) ?_
        refine px_iaddn (c := 36 + 12 * n) dX6_leave_45 (by omega) ?_
        refine pn_ge (tgt := 70) dX6_leave_46 (by decide) (by omega) (by omega) (fun _ => ?_) (fun h9 => absurd h9 (by omega))
        refine pw_iconst_ (v := nI 0) dX6_leave_70 (by decide) ?_
        refine px_istore_n (ls' := [some (.ref 227), some (.int (nI t)), some (.int (nI 0))]) dX6_leave_71 rfl rfl (by decide) ?_
        have lq : ∀ i : Nat, i ≤ 12 → ∀ σ : Mu, ((∀ q k, q ≠ 228 → σ q k = ν q k) ∧ (∀ k, (k < 36 + 12 * n ∨ 36 + 12 * n + i ≤ k) → σ 228 k = κ 228 k) ∧ ∀ k, k < i → σ 228 (36 + 12 * n + k) = nI 0) → PS l E D cA mX6_leave (d + 4) fin 72 [some (.ref 227), some (.int (nI t)), some (.int (nI i))] [] σ := by
          refine ps_for 12 ?_ ?_
          · rintro σ ⟨m1, m2, m3⟩
            refine pw_iload_n dX6_leave_72 rfl ?_
            refine pw_bipush (v := nI 12) dX6_leave_73 (by decide) ?_
            refine pn_ge (tgt := 96) dX6_leave_75 (by decide) (by omega) (by omega) (fun _ => ?_) (fun h9 => absurd h9 (by decide))
            refine pw_aload_n dX6_leave_96 rfl ?_
            refine pw_aload_n dX6_leave_97 rfl ?_
            refine ps_getr (r := 228) dX6_leave_98 kf_X6_7 (by decide) (by decide +kernel) ?_
            refine pw_iconst_ (v := nI 3) dX6_leave_101 (by decide) ?_
            refine ps_iald (j := 3) (x := nI n) dX6_leave_102 rfl (ok_ar (n := 108) (by decide +kernel) (by decide)) ((m2 3 (by omega)).trans ((k3 3 (by omega)).trans u2_s)) ?_
            have e9 : o_leave c (nI t) = (nI n, cnow (crec c) (lv (na c) t)) := by
              unfold o_leave
              rw [if_pos h1, htn, hn, Nat.add_sub_cancel]
            rw [e9] at hf
            have r0 : RM σ (lv (na c) t) := fun k hk => by
              unfold lv
              by_cases e3 : k = 3
              · subst e3
                rw [if_pos rfl, m2 _ (by omega), k3 _ (by omega), u2_s, hn, Nat.add_sub_cancel]
              · rw [if_neg e3]
                by_cases e1 : 36 + 12 * t ≤ k ∧ k < 24 + 12 * na c 3
                · rw [if_pos e1, m2 _ (by omega), k2 _ (by omega) (by omega)]
                · rw [if_neg e1]
                  by_cases e2 : 24 + 12 * na c 3 ≤ k ∧ k < 36 + 12 * na c 3
                  · rw [if_pos e2]
                    obtain ⟨j, rfl⟩ : ∃ j, k = 36 + 12 * n + j := ⟨k - (36 + 12 * n), by omega⟩
                    exact m3 j (by omega)
                  · rw [if_neg e2, m2 _ (by omega), k3 _ (by omega), u2_b e3]
                    exact hr k hk
            have r1 : RM (σ) (lv (na c) t) := r0
            have f1 : KG (σ) μ := fun q k g => (m1 q k (by omega)).trans (hk q k g)
            refine ps_callV (b := 227) (As := [.int (nI n)]) (st := []) dX6_leave_103 cv_X6_78 rfl ⟨by decide, by decide +kernel⟩ (Nat.le_of_ble_eq_true rfl) (Nat.le_of_ble_eq_true rfl) ?_
            refine m_record (a := na c) (hx.2.1.off f1) (fun k hk => (m1 _ _ (by decide)).trans (hb k hk)) ?_
            intro ρ r2 r3
            exact ps_iret dX6_leave_106 rfl (rfl) (hf ρ (hx.rec f1 r1 r2 r3) (f1.sx r3))
          · rintro i hi ih σ ⟨m1, m2, m3⟩
            refine pw_iload_n dX6_leave_72 rfl ?_
            refine pw_bipush (v := nI 12) dX6_leave_73 (by decide) ?_
            refine pn_ge (tgt := 96) dX6_leave_75 (by decide) (by omega) (by omega) (fun h9 => absurd h9 (by omega)) (fun _ => ?_)
            refine pw_aload_n dX6_leave_78 rfl ?_
            refine pw_aload_n dX6_leave_79 rfl ?_
            refine ps_getr (r := 228) dX6_leave_80 kf_X6_7 (by decide) (by decide +kernel) ?_
            refine pw_iconst_ (v := nI 3) dX6_leave_83 (by decide) ?_
            refine ps_iald (j := 3) (x := nI n) dX6_leave_84 rfl (ok_ar (n := 108) (by decide +kernel) (by decide)) ((m2 3 (by omega)).trans ((k3 3 (by omega)).trans u2_s)) ?_
            refine pw_iload_n dX6_leave_85 rfl ?_
            refine pw_iconst_ (v := nI 0) dX6_leave_86 (by decide) ?_
            refine ps_callV (b := 227) (As := [.int (nI n), .int (nI i), .int (nI 0)]) (st := []) dX6_leave_87 cv_X6_151 rfl ⟨by decide, by decide +kernel⟩ (Nat.le_of_ble_eq_true rfl) (Nat.le_of_ble_eq_true rfl) ?_
            refine m_lay (t := n) (w := i) (by omega) ?_
            show PS l E D cA mX6_leave (d + 4) fin 90 [some (.ref 227), some (.int (nI t)), some (.int (nI i))] [] (u2 σ 228 (36 + 12 * n + i) (nI 0))
            refine px_iincn (n := 1) (a := i) (b := i + 1) (ls' := [some (.ref 227), some (.int (nI t)), some (.int (nI (i + 1)))]) dX6_leave_90 rfl rfl rfl (by omega) ?_
            refine pw_goto (tgt := 72) dX6_leave_93 (by decide) ?_
            refine ih _ ⟨fun q k g => (u2_a g).trans (m1 q k g), fun k g => (u2_b (by omega)).trans (m2 k (by omega)), fun k g => ?_⟩
            rcases Nat.lt_or_eq_of_le (Nat.le_of_lt_succ g) with h | rfl
            · rw [u2_b (by omega)]
              exact m3 k h
            · rw [u2_s]
        exact lq 0 (by decide) κ ⟨k1, fun _ _ => rfl, fun k g => absurd g (Nat.not_lt_zero _)⟩
      · rintro i hi ih hti κ ⟨k1, k2, k3⟩
        refine pw_iload_n dX6_leave_33 rfl ?_
        refine pw_bipush (v := nI 36) dX6_leave_34 (by decide) ?_
        refine pw_bipush (v := nI 12) dX6_leave_36 (by decide) ?_
        refine pw_aload_n dX6_leave_38 rfl ?_
        refine ps_getr (r := 228) dX6_leave_39 kf_X6_7 (by decide) (by decide +kernel) ?_
        refine pw_iconst_ (v := nI 3) dX6_leave_42 (by decide) ?_
        refine ps_iald (j := 3) (x := nI n) dX6_leave_43 rfl (ok_ar (n := 108) (by decide +kernel) (by decide)) ((k3 3 (by omega)).trans u2_s) ?_
        refine px_imuln (c := 12 * n) dX6_leave_44 (by omega) ?_
        refine px_iaddn (c := 36 + 12 * n) dX6_leave_45 (by omega) ?_
        refine pn_ge (tgt := 70) dX6_leave_46 (by decide) (by omega) (by omega) (fun h9 => absurd h9 (by omega)) (fun _ => ?_)
        refine pw_aload_n dX6_leave_49 rfl ?_
        refine ps_getr (r := 228) dX6_leave_50 kf_X6_7 (by decide) (by decide +kernel) ?_
        refine pw_iload_n dX6_leave_53 rfl ?_
        refine pw_aload_n dX6_leave_54 rfl ?_
        refine ps_getr (r := 228) dX6_leave_55 kf_X6_7 (by decide) (by decide +kernel) ?_
        refine pw_iload_n dX6_leave_58 rfl ?_
        refine pw_bipush (v := nI 12) dX6_leave_59 (by decide) ?_
        refine px_iaddn (c := i + 12) dX6_leave_61 (by omega) ?_
        refine ps_iald (j := i + 12) (x := nI (na c (i + 12))) dX6_leave_62 rfl (ok_ar (n := 108) (by decide +kernel) (by omega)) ((k3 _ (by omega)).trans ((u2_b (by omega)).trans (hr _ (by omega)))) ?_
        refine ps_iast (j := i) dX6_leave_63 rfl (ok_ar (n := 108) (by decide +kernel) (by omega)) ?_
        refine px_iincn (n := 1) (a := i) (b := i + 1) (ls' := [some (.ref 227), some (.int (nI t)), some (.int (nI (i + 1)))]) dX6_leave_64 rfl rfl rfl (by omega) ?_
        refine pw_goto (tgt := 33) dX6_leave_67 (by decide) ?_
        refine ih (by omega) _ ⟨fun q k g => (u2_a g).trans (k1 q k g), fun k g1 g2 => ?_, fun k g => (u2_b (by omega)).trans (k3 k (by omega))⟩
        rcases Nat.lt_or_eq_of_le (Nat.le_of_lt_succ g2) with h | rfl
        · rw [u2_b (by omega)]
          exact k2 k g1 h
        · rw [u2_s]
    exact lp (36 + 12 * t) (by omega) (Nat.le_refl _) _ ⟨fun q k g => u2_a g, fun k g1 g2 => absurd g2 (by omega), fun _ _ => rfl⟩
  · have h1 := kb_eq0.mp h9
    refine pw_ldc dX6_leave_8 kc_X6_144 ?_
    have e9 : o_leave c v = ((-100001), c) := by
      unfold o_leave
      rw [if_neg h1]
    rw [e9] at hf
    exact ps_iret dX6_leave_10 rfl (rfl) (hf _ hx SX.rfl)
end MODE
