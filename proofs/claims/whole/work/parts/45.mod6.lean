/-! the model: exchanged, turned, turn -/
section MODF
variable {l : Launch} {E : EV} {D : va_G} {cA : Nat → ClassId} {fin : Option Value → Mu → Prop} {μ : Mu} {d : Nat}
set_option maxRecDepth 100000 in
set_option maxHeartbeats 4000000 in
theorem m_exchanged {t : Nat} {a : AS} (hw : Wf a) (ht : t < a 3) (hR : RM μ a) {i j : Nat} (hi : i < a (39 + 12 * t)) (hj : j < a (39 + 12 * t)) (hf : ∀ ν : Mu, RM ν (xch a t i j) → (∀ q k, q ≠ 228 → ν q k = μ q k) → fin none ν) : PS l E D cA mX6_exchanged (d + 1) fin 0 [some (.ref 227), some (.int (nI t)), some (.int (nI i)), some (.int (nI j)), none] [] μ := by
  have t6 := hw.t6
  have n8 := (hw.tm ht).2.2.2.1.2
  refine pw_aload_n dX6_exchanged_0 rfl ?_
  refine pw_iload_n dX6_exchanged_1 rfl ?_
  refine pw_iconst_ (v := nI 4) dX6_exchanged_2 (by decide) ?_
  refine pw_iload_n dX6_exchanged_3 rfl ?_
  refine px_iaddn (c := 4 + i) dX6_exchanged_4 (by omega) ?_
  refine ps_callV (b := 227) (As := [.int (nI t), .int (nI (4 + i))]) (st := []) dX6_exchanged_5 cv_X6_85 rfl ⟨by decide, by decide +kernel⟩ (Nat.le_of_ble_eq_true rfl) (Nat.le_of_ble_eq_true rfl) ?_
  refine m_its (t := t) (w := 4 + i) (by omega) (hR _ (by omega)) ?_
  refine px_istore (ls' := [some (.ref 227), some (.int (nI t)), some (.int (nI i)), some (.int (nI j)), some (.int (nI (a (36 + 12 * t + (4 + i)))))]) dX6_exchanged_8 rfl rfl (by decide) ?_
  refine pw_aload_n dX6_exchanged_10 rfl ?_
  refine pw_iload_n dX6_exchanged_11 rfl ?_
  refine pw_iconst_ (v := nI 4) dX6_exchanged_12 (by decide) ?_
  refine pw_iload_n dX6_exchanged_13 rfl ?_
  refine px_iaddn (c := 4 + i) dX6_exchanged_14 (by omega) ?_
  refine pw_aload_n dX6_exchanged_15 rfl ?_
  refine pw_iload_n dX6_exchanged_16 rfl ?_
  refine pw_iconst_ (v := nI 4) dX6_exchanged_17 (by decide) ?_
  refine pw_iload_n dX6_exchanged_18 rfl ?_
  refine px_iaddn (c := 4 + j) dX6_exchanged_19 (by omega) ?_
  refine ps_callV (b := 227) (As := [.int (nI t), .int (nI (4 + j))]) (st := [.int (nI (4 + i)), .int (nI t), .ref 227]) dX6_exchanged_20 cv_X6_85 rfl ⟨by decide, by decide +kernel⟩ (Nat.le_of_ble_eq_true rfl) (Nat.le_of_ble_eq_true rfl) ?_
  refine m_its (t := t) (w := 4 + j) (by omega) (hR _ (by omega)) ?_
  refine ps_callV (b := 227) (As := [.int (nI t), .int (nI (4 + i)), .int (nI (a (36 + 12 * t + (4 + j))))]) (st := []) dX6_exchanged_23 cv_X6_151 rfl ⟨by decide, by decide +kernel⟩ (Nat.le_of_ble_eq_true rfl) (Nat.le_of_ble_eq_true rfl) ?_
  refine m_lay (t := t) (w := 4 + i) (by omega) ?_
  show PS l E D cA mX6_exchanged (d + 1) fin 26 [some (.ref 227), some (.int (nI t)), some (.int (nI i)), some (.int (nI j)), some (.int (nI (a (36 + 12 * t + (4 + i)))))] [] (u2 μ 228 (36 + 12 * t + (4 + i)) (nI (a (36 + 12 * t + (4 + j)))))
  refine pw_aload_n dX6_exchanged_26 rfl ?_
  refine pw_iload_n dX6_exchanged_27 rfl ?_
  refine pw_iconst_ (v := nI 4) dX6_exchanged_28 (by decide) ?_
  refine pw_iload_n dX6_exchanged_29 rfl ?_
  refine px_iaddn (c := 4 + j) dX6_exchanged_30 (by omega) ?_
  refine pw_iload dX6_exchanged_31 rfl ?_
  refine ps_callV (b := 227) (As := [.int (nI t), .int (nI (4 + j)), .int (nI (a (36 + 12 * t + (4 + i))))]) (st := []) dX6_exchanged_33 cv_X6_151 rfl ⟨by decide, by decide +kernel⟩ (Nat.le_of_ble_eq_true rfl) (Nat.le_of_ble_eq_true rfl) ?_
  refine m_lay (t := t) (w := 4 + j) (by omega) ?_
  show PS l E D cA mX6_exchanged (d + 1) fin 36 [some (.ref 227), some (.int (nI t)), some (.int (nI i)), some (.int (nI j)), some (.int (nI (a (36 + 12 * t + (4 + i)))))] [] (u2 (u2 μ 228 (36 + 12 * t + (4 + i)) (nI (a (36 + 12 * t + (4 + j))))) 228 (36 + 12 * t + (4 + j)) (nI (a (36 + 12 * t + (4 + i)))))
  refine ps_ret dX6_exchanged_36 rfl (hf _ (fun k hk => ?_) (fun q k g => by rw [u2_a g, u2_a g]))
  rw [show 36 + 12 * t + (4 + i) = 40 + 12 * t + i by omega, show 36 + 12 * t + (4 + j) = 40 + 12 * t + j by omega]
  by_cases e1 : 40 + 12 * t ≤ k ∧ k < 40 + 12 * t + a (39 + 12 * t)
  · obtain ⟨p, rfl⟩ : ∃ p, k = 40 + 12 * t + p := ⟨k - (40 + 12 * t), by omega⟩
    unfold xch
    rw [rt_s (by omega)]
    by_cases e2 : p = j
    · subst e2
      rw [u2_s, up1_s]
    · rw [u2_b (by omega), up1_n e2]
      by_cases e3 : p = i
      · subst e3
        rw [u2_s, up1_s]
      · rw [u2_b (by omega), up1_n e3]
        exact hR _ hk
  · unfold xch
    rw [rt_n e1, u2_b (by omega), u2_b (by omega)]
    exact hR k hk
set_option maxRecDepth 100000 in
set_option maxHeartbeats 4000000 in
theorem m_turned {t : Nat} {a : AS} (hw : Wf a) (ht : t < a 3) (hR : RM μ a) {b : Nat} (hb8 : b ≤ 8) (hf : ∀ ν : Mu, RM ν (trn a t b) → (∀ q k, q ≠ 228 → q ≠ 236 → ν q k = μ q k) → fin none ν) : PS l E D cA mX6_turned (d + 1) fin 0 [some (.ref 227), some (.int (nI t)), some (.int (nI b)), none, none] [] μ := by
  have t6 := hw.t6
  have n8 := (hw.tm ht).2.2.2.1
  obtain ⟨n, hn⟩ : ∃ n, n = a (39 + 12 * t) := ⟨_, rfl⟩
  rw [← hn] at n8
  refine pw_aload_n dX6_turned_0 rfl ?_
  refine pw_iload_n dX6_turned_1 rfl ?_
  refine pw_iconst_ (v := nI 3) dX6_turned_2 (by decide) ?_
  refine ps_callV (b := 227) (As := [.int (nI t), .int (nI 3)]) (st := []) dX6_turned_3 cv_X6_85 rfl ⟨by decide, by decide +kernel⟩ (Nat.le_of_ble_eq_true rfl) (Nat.le_of_ble_eq_true rfl) ?_
  refine m_its (t := t) (w := 3) (by omega) ((hR _ (by omega)).trans (by rw [show 36 + 12 * t + 3 = 39 + 12 * t by omega, ← hn])) ?_
  refine px_istore_n (ls' := [some (.ref 227), some (.int (nI t)), some (.int (nI b)), some (.int (nI n)), none]) dX6_turned_6 rfl rfl (by decide) ?_
  refine pw_iconst_ (v := nI 0) dX6_turned_7 (by decide) ?_
  refine px_istore (ls' := [some (.ref 227), some (.int (nI t)), some (.int (nI b)), some (.int (nI n)), some (.int (nI 0))]) dX6_turned_8 rfl rfl (by decide) ?_
  have lp : ∀ i : Nat, i ≤ n → ∀ κ : Mu, ((∀ q k, q ≠ 236 → κ q k = μ q k) ∧ ∀ k, k < i → κ 236 k = nI (a (40 + 12 * t + (k + b) % n))) → PS l E D cA mX6_turned (d + 1) fin 10 [some (.ref 227), some (.int (nI t)), some (.int (nI b)), some (.int (nI n)), some (.int (nI i))] [] κ := by
    refine ps_for n ?_ ?_
    · rintro κ ⟨k1, k2⟩
      refine pw_iload dX6_turned_10 rfl ?_
      refine pw_iload_n dX6_turned_12 rfl ?_
      refine pn_ge (tgt := 42) dX6_turned_13 (by decide) (by omega) (by omega) (fun _ => ?_) (fun h9 => absurd h9 (by omega))
      refine pw_iconst_ (v := nI 0) dX6_turned_42 (by decide) ?_
      refine px_istore (ls' := [some (.ref 227), some (.int (nI t)), some (.int (nI b)), some (.int (nI n)), some (.int (nI 0))]) dX6_turned_43 rfl rfl (by decide) ?_
      have lq : ∀ i : Nat, i ≤ n → ∀ σ : Mu, ((∀ q k, q ≠ 228 → σ q k = κ q k) ∧ (∀ k, (k < 40 + 12 * t ∨ 40 + 12 * t + i ≤ k) → σ 228 k = κ 228 k) ∧ ∀ k, k < i → σ 228 (40 + 12 * t + k) = nI (a (40 + 12 * t + (k + b) % n))) → PS l E D cA mX6_turned (d + 1) fin 45 [some (.ref 227), some (.int (nI t)), some (.int (nI b)), some (.int (nI n)), some (.int (nI i))] [] σ := by
        refine ps_for n ?_ ?_
        · rintro σ ⟨m1, m2, m3⟩
          refine pw_iload dX6_turned_45 rfl ?_
          refine pw_iload_n dX6_turned_47 rfl ?_
          refine pn_ge (tgt := 73) dX6_turned_48 (by decide) (by omega) (by omega) (fun _ => ?_) (fun h9 => absurd h9 (by omega))
          refine ps_ret dX6_turned_73 rfl (hf _ (fun k hk => ?_) (fun q k g1 g2 => (m1 q k g1).trans (k1 q k g2)))
          unfold trn
          rw [← hn]
          by_cases e1 : 40 + 12 * t ≤ k ∧ k < 40 + 12 * t + n
          · obtain ⟨p, rfl⟩ : ∃ p, k = 40 + 12 * t + p := ⟨k - (40 + 12 * t), by omega⟩
            rw [rt_s (by omega)]
            exact m3 p (by omega)
          · rw [rt_n e1, m2 k (by omega), k1 _ _ (by decide)]
            exact hR k hk
        · rintro i hi ih σ ⟨m1, m2, m3⟩
          refine pw_iload dX6_turned_45 rfl ?_
          refine pw_iload_n dX6_turned_47 rfl ?_
          refine pn_ge (tgt := 73) dX6_turned_48 (by decide) (by omega) (by omega) (fun h9 => absurd h9 (by omega)) (fun _ => ?_)
          refine pw_aload_n dX6_turned_51 rfl ?_
          refine pw_iload_n dX6_turned_52 rfl ?_
          refine pw_iconst_ (v := nI 4) dX6_turned_53 (by decide) ?_
          refine pw_iload dX6_turned_54 rfl ?_
          refine px_iaddn (c := 4 + i) dX6_turned_56 (by omega) ?_
          refine pw_aload_n dX6_turned_57 rfl ?_
          refine ps_getr (r := 236) dX6_turned_58 kf_X6_35 (by decide) (by decide +kernel) ?_
          refine pw_iload dX6_turned_61 rfl ?_
          refine ps_iald (j := i) (x := nI (a (40 + 12 * t + (i + b) % n))) dX6_turned_63 rfl (ok_ar (n := 8) (by decide +kernel) (by omega)) ((m1 _ _ (by decide)).trans (k2 i hi)) ?_
          refine ps_callV (b := 227) (As := [.int (nI t), .int (nI (4 + i)), .int (nI (a (40 + 12 * t + (i + b) % n)))]) (st := []) dX6_turned_64 cv_X6_151 rfl ⟨by decide, by decide +kernel⟩ (Nat.le_of_ble_eq_true rfl) (Nat.le_of_ble_eq_true rfl) ?_
          refine m_lay (t := t) (w := 4 + i) (by omega) ?_
          rw [show 36 + 12 * t + (4 + i) = 40 + 12 * t + i by omega]
          show PS l E D cA mX6_turned (d + 1) fin 67 [some (.ref 227), some (.int (nI t)), some (.int (nI b)), some (.int (nI n)), some (.int (nI i))] [] (u2 σ 228 (40 + 12 * t + i) (nI (a (40 + 12 * t + (i + b) % n))))
          refine px_iincn (n := 1) (a := i) (b := i + 1) (ls' := [some (.ref 227), some (.int (nI t)), some (.int (nI b)), some (.int (nI n)), some (.int (nI (i + 1)))]) dX6_turned_67 rfl rfl rfl (by omega) ?_
          refine pw_goto (tgt := 45) dX6_turned_70 (by decide) ?_
          refine ih _ ⟨fun q k g => (u2_a g).trans (m1 q k g), fun k g => (u2_b (by omega)).trans (m2 k (by omega)), fun k g => ?_⟩
          rcases Nat.lt_or_eq_of_le (Nat.le_of_lt_succ g) with h | rfl
          · rw [u2_b (by omega)]
            exact m3 k h
          · rw [u2_s]
      exact lq 0 (Nat.zero_le _) κ ⟨fun _ _ _ => rfl, fun _ _ => rfl, fun k g => absurd g (Nat.not_lt_zero _)⟩
    · rintro i hi ih κ ⟨k1, k2⟩
      refine pw_iload dX6_turned_10 rfl ?_
      refine pw_iload_n dX6_turned_12 rfl ?_
      refine pn_ge (tgt := 42) dX6_turned_13 (by decide) (by omega) (by omega) (fun h9 => absurd h9 (by omega)) (fun _ => ?_)
      have hm : (i + b) % n < n := Nat.mod_lt _ (by omega)
      refine pw_aload_n dX6_turned_16 rfl ?_
      refine ps_getr (r := 236) dX6_turned_17 kf_X6_35 (by decide) (by decide +kernel) ?_
      refine pw_iload dX6_turned_20 rfl ?_
      refine pw_aload_n dX6_turned_22 rfl ?_
      refine pw_iload_n dX6_turned_23 rfl ?_
      refine pw_iconst_ (v := nI 4) dX6_turned_24 (by decide) ?_
      refine pw_iload dX6_turned_25 rfl ?_
      refine pw_iload_n dX6_turned_27 rfl ?_
      refine px_iaddn (c := i + b) dX6_turned_28 (by omega) ?_
      refine pw_iload_n dX6_turned_29 rfl ?_
      refine px_iremn dX6_turned_30 (by omega) (by omega) (by omega) ?_
      refine px_iaddn (c := 4 + ((i + b) % n)) dX6_turned_31 (by omega) ?_
      refine ps_callV (b := 227) (As := [.int (nI t), .int (nI (4 + ((i + b) % n)))]) (st := [.int (nI i), .ref 236]) dX6_turned_32 cv_X6_85 rfl ⟨by decide, by decide +kernel⟩ (Nat.le_of_ble_eq_true rfl) (Nat.le_of_ble_eq_true rfl) ?_
      refine m_its (t := t) (w := 4 + (i + b) % n) (by omega) ((k1 _ _ (by decide)).trans (hR _ (by omega))) ?_
      rw [show 36 + 12 * t + (4 + (i + b) % n) = 40 + 12 * t + (i + b) % n by omega]
      refine ps_iast (j := i) dX6_turned_35 rfl (ok_ar (n := 8) (by decide +kernel) (by omega)) ?_
      refine px_iincn (n := 1) (a := i) (b := i + 1) (ls' := [some (.ref 227), some (.int (nI t)), some (.int (nI b)), some (.int (nI n)), some (.int (nI (i + 1)))]) dX6_turned_36 rfl rfl rfl (by omega) ?_
      refine pw_goto (tgt := 10) dX6_turned_39 (by decide) ?_
      refine ih _ ⟨fun q k g => (u2_a g).trans (k1 q k g), fun k g => ?_⟩
      rcases Nat.lt_or_eq_of_le (Nat.le_of_lt_succ g) with h | rfl
      · rw [u2_b (by omega)]
        exact k2 k h
      · rw [u2_s]
  exact lp 0 (Nat.zero_le _) μ ⟨fun _ _ _ => rfl, fun k g => absurd g (Nat.not_lt_zero _)⟩
end MODF
