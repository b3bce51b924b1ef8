/-! the model: takeRoute -/
section MODH
variable {l : Launch} {E : EV} {D : va_G} {cA : Nat → ClassId} {fin : Option Value → Mu → Prop} {μ : Mu} {d : Nat}
set_option maxRecDepth 100000 in
set_option maxHeartbeats 4000000 in
theorem m_takeRoute {t ln : Nat} {a : AS} {pd : Nat → Nat} (t6 : t < 6) (hm : μ 227 12 = nI ((ln + 1) / 2)) (hn8 : (ln + 1) / 2 ≤ 8) (hrd : ∀ k, k < (ln + 1) / 2 → μ 236 k = nI (pd (2 * k) - 97)) (hR : RM μ a) (hf : ∀ ν : Mu, RM ν (tk a t pd ln) → ν 227 8 = nI 0 → (∀ q k, q ≠ 228 → (q = 227 → k ≠ 8) → ν q k = μ q k) → fin none ν) : PS l E D cA mX6_takeRoute (d + 1) fin 0 [some (.ref 227), some (.int (nI t)), none] [] μ := by
  obtain ⟨n, hn⟩ : ∃ n, n = (ln + 1) / 2 := ⟨_, rfl⟩
  rw [← hn] at hm hn8 hrd
  refine pw_aload_n dX6_takeRoute_0 rfl ?_
  refine pw_iload_n dX6_takeRoute_1 rfl ?_
  refine pw_iconst_ (v := nI 3) dX6_takeRoute_2 (by decide) ?_
  refine pw_aload_n dX6_takeRoute_3 rfl ?_
  refine ps_geti (x := nI n) dX6_takeRoute_4 kf_X6_148 (by decide) (by decide +kernel) hm ?_
  refine ps_callV (b := 227) (As := [.int (nI t), .int (nI 3), .int (nI n)]) (st := []) dX6_takeRoute_7 cv_X6_151 rfl ⟨by decide, by decide +kernel⟩ (Nat.le_of_ble_eq_true rfl) (Nat.le_of_ble_eq_true rfl) ?_
  refine m_lay (t := t) (w := 3) (by omega) ?_
  rw [show 36 + 12 * t + 3 = 39 + 12 * t by omega]
  show PS l E D cA mX6_takeRoute (d + 1) fin 10 [some (.ref 227), some (.int (nI t)), none] [] (u2 μ 228 (39 + 12 * t) (nI n))
  refine pw_iconst_ (v := nI 0) dX6_takeRoute_10 (by decide) ?_
  refine px_istore_n (ls' := [some (.ref 227), some (.int (nI t)), some (.int (nI 0))]) dX6_takeRoute_11 rfl rfl (by decide) ?_
  have lp : ∀ i : Nat, i ≤ 8 → ∀ κ : Mu, ((∀ q k, q ≠ 228 → κ q k = μ q k) ∧ (∀ k, (k < 40 + 12 * t ∨ 40 + 12 * t + i ≤ k) → κ 228 k = u2 μ 228 (39 + 12 * t) (nI n) 228 k) ∧ ∀ k, k < i → κ 228 (40 + 12 * t + k) = nI (if k < n then pd (2 * k) - 97 else 0)) → PS l E D cA mX6_takeRoute (d + 1) fin 12 [some (.ref 227), some (.int (nI t)), some (.int (nI i))] [] κ := by
    refine ps_for 8 ?_ ?_
    · rintro κ ⟨k1, k2, k3⟩
      refine pw_iload_n dX6_takeRoute_12 rfl ?_
      refine pw_bipush (v := nI 8) dX6_takeRoute_13 (by decide) ?_
      refine pn_ge (tgt := 50) dX6_takeRoute_15 (by decide) (by omega) (by omega) (fun _ => ?_) (fun h9 => absurd h9 (by decide))
      refine pw_aload_n dX6_takeRoute_50 rfl ?_
      refine pw_iconst_ (v := nI 0) dX6_takeRoute_51 (by decide) ?_
      refine ps_puti dX6_takeRoute_52 kf_X6_155 (by decide) rfl (by decide +kernel) ?_
      refine ps_ret dX6_takeRoute_55 rfl (hf _ (fun k hk => ?_) u2_s (fun q k g1 g2 => ?_))
      · rw [u2_a (by decide)]
        by_cases e0 : k = 39 + 12 * t
        · subst e0
          rw [k2 _ (by omega), u2_s, tk_m, hn]
        · by_cases e1 : 40 + 12 * t ≤ k ∧ k < 48 + 12 * t
          · obtain ⟨p, rfl⟩ : ∃ p, k = 40 + 12 * t + p := ⟨k - (40 + 12 * t), by omega⟩
            rw [tk_s (by omega), k3 p (by omega), hn]
          · rw [k2 _ (by omega), u2_b e0, tk_n (by omega)]
            exact hR k hk
      · by_cases e : q = 227
        · subst e
          rw [u2_b (g2 rfl), k1 _ _ g1]
        · rw [u2_a e, k1 _ _ g1]
    · rintro i hi ih κ ⟨k1, k2, k3⟩
      refine pw_iload_n dX6_takeRoute_12 rfl ?_
      refine pw_bipush (v := nI 8) dX6_takeRoute_13 (by decide) ?_
      refine pn_ge (tgt := 50) dX6_takeRoute_15 (by decide) (by omega) (by omega) (fun h9 => absurd h9 (by omega)) (fun _ => ?_)
      refine pw_aload_n dX6_takeRoute_18 rfl ?_
      refine pw_iload_n dX6_takeRoute_19 rfl ?_
      refine pw_iconst_ (v := nI 4) dX6_takeRoute_20 (by decide) ?_
      refine pw_iload_n dX6_takeRoute_21 rfl ?_
      refine px_iaddn (c := 4 + i) dX6_takeRoute_22 (by omega) ?_
      refine pw_iload_n dX6_takeRoute_23 rfl ?_
      refine pw_aload_n dX6_takeRoute_24 rfl ?_
      refine ps_geti (x := nI n) dX6_takeRoute_25 kf_X6_148 (by decide) (by decide +kernel) ((k1 _ _ (by decide)).trans hm) ?_
      refine pn_ge (tgt := 40) dX6_takeRoute_28 (by decide) (by omega) (by omega) (fun hc => ?_) (fun hc => ?_)
      · refine pw_iconst_ (v := nI 0) dX6_takeRoute_40 (by decide) ?_
        refine ps_callV (b := 227) (As := [.int (nI t), .int (nI (4 + i)), .int (nI 0)]) (st := []) dX6_takeRoute_41 cv_X6_151 rfl ⟨by decide, by decide +kernel⟩ (Nat.le_of_ble_eq_true rfl) (Nat.le_of_ble_eq_true rfl) ?_
        refine m_lay (t := t) (w := 4 + i) (by omega) ?_
        rw [show 36 + 12 * t + (4 + i) = 40 + 12 * t + i by omega]
        show PS l E D cA mX6_takeRoute (d + 1) fin 44 [some (.ref 227), some (.int (nI t)), some (.int (nI i))] [] (u2 κ 228 (40 + 12 * t + i) (nI 0))
        refine px_iincn (n := 1) (a := i) (b := i + 1) (ls' := [some (.ref 227), some (.int (nI t)), some (.int (nI (i + 1)))]) dX6_takeRoute_44 rfl rfl rfl (by omega) ?_
        refine pw_goto (tgt := 12) dX6_takeRoute_47 (by decide) ?_
        refine ih _ ⟨fun q k g => (u2_a g).trans (k1 q k g), fun k g => (u2_b (by omega)).trans (k2 k (by omega)), fun k g => ?_⟩
        rcases Nat.lt_or_eq_of_le (Nat.le_of_lt_succ g) with h | rfl
        · rw [u2_b (by omega)]
          exact k3 k h
        · rw [u2_s, if_neg (by omega)]
      · refine pw_aload_n dX6_takeRoute_31 rfl ?_
        refine ps_getr (r := 236) dX6_takeRoute_32 kf_X6_35 (by decide) (by decide +kernel) ?_
        refine pw_iload_n dX6_takeRoute_35 rfl ?_
        refine ps_iald (j := i) (x := nI (pd (2 * i) - 97)) dX6_takeRoute_36 rfl (ok_ar (n := 8) (by decide +kernel) (by omega)) ((k1 _ _ (by decide)).trans (hrd i hc)) ?_
        refine pw_goto (tgt := 41) dX6_takeRoute_37 (by decide) ?_
        refine ps_callV (b := 227) (As := [.int (nI t), .int (nI (4 + i)), .int (nI (pd (2 * i) - 97))]) (st := []) dX6_takeRoute_41 cv_X6_151 rfl ⟨by decide, by decide +kernel⟩ (Nat.le_of_ble_eq_true rfl) (Nat.le_of_ble_eq_true rfl) ?_
        refine m_lay (t := t) (w := 4 + i) (by omega) ?_
        rw [show 36 + 12 * t + (4 + i) = 40 + 12 * t + i by omega]
        show PS l E D cA mX6_takeRoute (d + 1) fin 44 [some (.ref 227), some (.int (nI t)), some (.int (nI i))] [] (u2 κ 228 (40 + 12 * t + i) (nI (pd (2 * i) - 97)))
        refine px_iincn (n := 1) (a := i) (b := i + 1) (ls' := [some (.ref 227), some (.int (nI t)), some (.int (nI (i + 1)))]) dX6_takeRoute_44 rfl rfl rfl (by omega) ?_
        refine pw_goto (tgt := 12) dX6_takeRoute_47 (by decide) ?_
        refine ih _ ⟨fun q k g => (u2_a g).trans (k1 q k g), fun k g => (u2_b (by omega)).trans (k2 k (by omega)), fun k g => ?_⟩
        rcases Nat.lt_or_eq_of_le (Nat.le_of_lt_succ g) with h | rfl
        · rw [u2_b (by omega)]
          exact k3 k h
        · rw [u2_s, if_pos hc]
  exact lp 0 (by decide) _ ⟨fun q k g => u2_a g, fun _ _ => rfl, fun k g => absurd g (Nat.not_lt_zero _)⟩
end MODH
