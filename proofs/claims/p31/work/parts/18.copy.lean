/-! State.copyFrom; routes turned and exchanged; rows filled -/
theorem isS_apart {s o : Nat} (h : isS s) (g : isS o) (hne : s ≠ o) : s + 18 ≤ o ∨ o + 18 ≤ s := by
  have : ∀ s, s ∈ [1, 19, 81, 99, 117, 135, 153, 171, 191, 209] → ∀ o, o ∈ [1, 19, 81, 99, 117, 135, 153, 171, 191, 209] → s ≠ o → s + 18 ≤ o ∨ o + 18 ≤ s := by decide
  exact this s h o g hne
section COPY
variable {l : Launch} {E : EY} {D : va_G} {cA : Nat → ClassId} {fin : Option Value → Mu → Prop} {μ : Mu} {d : Nat}
set_option maxRecDepth 100000 in
set_option maxHeartbeats 4000000 in
theorem c_S_copyFrom {s o : Nat} (hs : isS s) (ho : isS o) (hne : s ≠ o) (hf : ∀ ν : Mu, CPS ν μ s o → fin none ν) : PS l E D cA mX3_copyFrom (d + 2) fin 0 [some (.ref s), some (.ref o), none] [] μ := by
  have hap := isS_apart hs ho hne
  refine pw_aload_n dX3_copyFrom_0 rfl ?_
  refine ps_getr (r := o + 1) dX3_copyFrom_1 kf_X3_9 (by decide) ((ok_S ho).1) ?_
  refine pw_iconst_ (v := nI 0) dX3_copyFrom_4 (by decide) ?_
  refine pw_aload_n dX3_copyFrom_5 rfl ?_
  refine ps_getr (r := s + 1) dX3_copyFrom_6 kf_X3_9 (by decide) ((ok_S hs).1) ?_
  refine pw_iconst_ (v := nI 0) dX3_copyFrom_9 (by decide) ?_
  refine pw_iconst_ (v := nI 3) dX3_copyFrom_10 (by decide) ?_
  refine px_copy (n := 3) dX3_copyFrom_11 ca_X3_33 ((ok_S ho).2.2.2.2.2.2.2.1) ((ok_S hs).2.2.2.2.2.2.2.1) rfl (Nat.le_of_ble_eq_true rfl) ?_
  refine pw_aload_n dX3_copyFrom_14 rfl ?_
  refine ps_getr (r := o + 2) dX3_copyFrom_15 kf_X3_15 (by decide) ((ok_S ho).2.1) ?_
  refine pw_iconst_ (v := nI 0) dX3_copyFrom_18 (by decide) ?_
  refine pw_aload_n dX3_copyFrom_19 rfl ?_
  refine ps_getr (r := s + 2) dX3_copyFrom_20 kf_X3_15 (by decide) ((ok_S hs).2.1) ?_
  refine pw_iconst_ (v := nI 0) dX3_copyFrom_23 (by decide) ?_
  refine pw_bipush (v := nI 8) dX3_copyFrom_24 (by decide) ?_
  refine px_copy (n := 8) dX3_copyFrom_26 ca_X3_33 ((ok_S ho).2.2.2.2.2.2.2.2.1) ((ok_S hs).2.2.2.2.2.2.2.2.1) rfl (Nat.le_of_ble_eq_true rfl) ?_
  refine pw_aload_n dX3_copyFrom_29 rfl ?_
  refine ps_getr (r := o + 3) dX3_copyFrom_30 kf_X3_18 (by decide) ((ok_S ho).2.2.1) ?_
  refine pw_iconst_ (v := nI 0) dX3_copyFrom_33 (by decide) ?_
  refine pw_aload_n dX3_copyFrom_34 rfl ?_
  refine ps_getr (r := s + 3) dX3_copyFrom_35 kf_X3_18 (by decide) ((ok_S hs).2.2.1) ?_
  refine pw_iconst_ (v := nI 0) dX3_copyFrom_38 (by decide) ?_
  refine pw_bipush (v := nI 8) dX3_copyFrom_39 (by decide) ?_
  refine px_copy (n := 8) dX3_copyFrom_41 ca_X3_33 ((ok_S ho).2.2.2.2.2.2.2.2.2.1) ((ok_S hs).2.2.2.2.2.2.2.2.2.1) rfl (Nat.le_of_ble_eq_true rfl) ?_
  refine pw_aload_n dX3_copyFrom_44 rfl ?_
  refine ps_getr (r := o + 4) dX3_copyFrom_45 kf_X3_21 (by decide) ((ok_S ho).2.2.2.1) ?_
  refine pw_iconst_ (v := nI 0) dX3_copyFrom_48 (by decide) ?_
  refine pw_aload_n dX3_copyFrom_49 rfl ?_
  refine ps_getr (r := s + 4) dX3_copyFrom_50 kf_X3_21 (by decide) ((ok_S hs).2.2.2.1) ?_
  refine pw_iconst_ (v := nI 0) dX3_copyFrom_53 (by decide) ?_
  refine pw_bipush (v := nI 8) dX3_copyFrom_54 (by decide) ?_
  refine px_copy (n := 8) dX3_copyFrom_56 ca_X3_33 ((ok_S ho).2.2.2.2.2.2.2.2.2.2) ((ok_S hs).2.2.2.2.2.2.2.2.2.2) rfl (Nat.le_of_ble_eq_true rfl) ?_
  refine pw_aload_n dX3_copyFrom_59 rfl ?_
  refine pw_aload_n dX3_copyFrom_60 rfl ?_
  refine ps_geti (x := μ o 4) dX3_copyFrom_61 kf_X3_40 (by decide) ((ok_S ho).2.2.2.2.1) ((u2c_a (by omega)).trans ((u2c_a (by omega)).trans ((u2c_a (by omega)).trans (u2c_a (by omega))))) ?_
  refine ps_puti dX3_copyFrom_64 kf_X3_40 (by decide) rfl ((ok_S hs).2.2.2.2.1) ?_
  refine pw_iconst_ (v := nI 0) dX3_copyFrom_67 (by decide) ?_
  refine px_istore_n (ls' := [some (.ref s), some (.ref o), some (.int (nI 0))]) dX3_copyFrom_68 rfl rfl (by decide) ?_
  have lp : ∀ i : Nat, i ≤ 6 → ∀ ν : Mu, ((∀ q k, ¬ (s ≤ q ∧ q < s + 18) → ν q k = μ q k) ∧ ν s 4 = μ o 4 ∧ (∀ j k, 1 ≤ j → j < 5 → ν (s + j) k = μ (o + j) k) ∧ ∀ t, t < i → (∀ k, 1 ≤ k → k < 5 → ν (s + 6 + 2 * t) k = μ (o + 6 + 2 * t) k) ∧ ∀ k, ν (s + 7 + 2 * t) k = μ (o + 7 + 2 * t) k) → PS l E D cA mX3_copyFrom (d + 2) fin 69 [some (.ref s), some (.ref o), some (.int (nI i))] [] ν := by
    refine ps_for 6 ?_ ?_
    · rintro ν ⟨h1, h2, h3, h4⟩
      refine pw_iload_n dX3_copyFrom_69 rfl ?_
      refine pw_bipush (v := nI 6) dX3_copyFrom_70 (by decide) ?_
      refine pn_ge (tgt := 96) dX3_copyFrom_72 (by decide) (by omega) (by omega) (fun _ => ?_) (fun h9 => absurd h9 (by omega))
      refine pw_aload_n dX3_copyFrom_96 rfl ?_
      refine pw_aload_n dX3_copyFrom_97 rfl ?_
      refine ps_geti (x := ν o 6) dX3_copyFrom_98 kf_X3_48 (by decide) ((ok_S ho).2.2.2.2.2.2.1) rfl ?_
      refine ps_puti dX3_copyFrom_101 kf_X3_48 (by decide) rfl ((ok_S hs).2.2.2.2.2.2.1) ?_
      refine ps_ret dX3_copyFrom_104 rfl (hf _ ⟨?_, ?_, ?_, ?_, ?_⟩)
      · intro q k hq
        rw [u2_a (by omega)]
        exact h1 q k hq
      · rw [u2_b (by decide)]
        exact h2
      · rw [u2_s]
        exact h1 o 6 (by omega)
      · intro j k g1 g2
        rw [u2_a (by omega)]
        exact h3 j k g1 g2
      · intro t ht
        refine ⟨fun k g1 g2 => ?_, fun k => ?_⟩
        · rw [u2_a (by omega)]
          exact (h4 t ht).1 k g1 g2
        · rw [u2_a (by omega)]
          exact (h4 t ht).2 k
    · rintro i hi ih ν ⟨h1, h2, h3, h4⟩
      refine pw_iload_n dX3_copyFrom_69 rfl ?_
      refine pw_bipush (v := nI 6) dX3_copyFrom_70 (by decide) ?_
      refine pn_ge (tgt := 96) dX3_copyFrom_72 (by decide) (by omega) (by omega) (fun h9 => absurd h9 (by omega)) (fun _ => ?_)
      refine pw_aload_n dX3_copyFrom_75 rfl ?_
      refine ps_getr (r := s + 5) dX3_copyFrom_76 kf_X3_26 (by decide) ((ok_S hs).2.2.2.2.2.1) ?_
      refine pw_iload_n dX3_copyFrom_79 rfl ?_
      refine ps_aald (t := 5) (j := i) (r := s + 6 + 2 * i) dX3_copyFrom_80 rfl (ok_T hs (by omega)).1 (by decide) ?_
      refine pw_aload_n dX3_copyFrom_81 rfl ?_
      refine ps_getr (r := o + 5) dX3_copyFrom_82 kf_X3_26 (by decide) ((ok_S ho).2.2.2.2.2.1) ?_
      refine pw_iload_n dX3_copyFrom_85 rfl ?_
      refine ps_aald (t := 5) (j := i) (r := o + 6 + 2 * i) dX3_copyFrom_86 rfl (ok_T ho (by omega)).1 (by decide) ?_
      refine ps_callV (b := s + 6 + 2 * i) (As := [.ref (o + 6 + 2 * i)]) (st := []) dX3_copyFrom_87 cv_X3_44 rfl ⟨(okk_of (ok_T hs (by omega)).2.1).1, (okk_of (ok_T hs (by omega)).2.1).2.1⟩ (Nat.le_of_ble_eq_true rfl) (Nat.le_of_ble_eq_true rfl) ?_
      refine c_T_copyFrom hs hi ho hi ?_
      intro ν2 g1 g2 g3
      show PS l E D cA mX3_copyFrom (d + 2) fin 90 [some (.ref s), some (.ref o), some (.int (nI i))] [] ν2
      refine px_iincn (n := 1) (a := i) (b := i + 1) (ls' := [some (.ref s), some (.ref o), some (.int (nI (i + 1)))]) dX3_copyFrom_90 rfl rfl rfl (by omega) ?_
      refine pw_goto (tgt := 69) dX3_copyFrom_93 (by decide) ?_
      refine ih ν2 ⟨fun q k hq => ?_, ?_, fun j k k1 k2 => ?_, fun t ht => ?_⟩
      · rw [g1 q k (by omega) (by omega)]
        exact h1 q k hq
      · rw [g1 s 4 (by omega) (by omega)]
        exact h2
      · rw [g1 (s + j) k (by omega) (by omega)]
        exact h3 j k k1 k2
      · rcases Nat.lt_or_eq_of_le (Nat.le_of_lt_succ ht) with h | rfl
        · refine ⟨fun k k1 k2 => ?_, fun k => ?_⟩
          · rw [g1 _ k (by omega) (by omega)]
            exact (h4 t h).1 k k1 k2
          · rw [g1 _ k (by omega) (by omega)]
            exact (h4 t h).2 k
        · refine ⟨fun k k1 k2 => ?_, fun k => ?_⟩
          · rw [g2 k k1 k2]
            exact h1 _ k (by omega)
          · rw [g3 k]
            exact h1 _ k (by omega)
  refine lp 0 (Nat.zero_le _) _ ⟨fun q k hq => ?_, ?_, fun j k k1 k2 => ?_, fun t ht => absurd ht (Nat.not_lt_zero _)⟩
  · simp only [u2, u2c]
    repeat (first | rw [if_pos (by omega)] | rw [if_neg (by omega)])
  · rw [u2_s]
  · rcases (show j = 1 ∨ j = 2 ∨ j = 3 ∨ j = 4 by omega) with rfl | rfl | rfl | rfl
    · rw [u2_a (by omega), u2c_a (by omega), u2c_a (by omega), u2c_a (by omega), u2c_s]
    · rw [u2_a (by omega), u2c_a (by omega), u2c_a (by omega), u2c_s, u2c_a (by omega)]
    · rw [u2_a (by omega), u2c_a (by omega), u2c_s, u2c_a (by omega), u2c_a (by omega)]
    · rw [u2_a (by omega), u2c_s, u2c_a (by omega), u2c_a (by omega), u2c_a (by omega)]
set_option maxRecDepth 100000 in
set_option maxHeartbeats 4000000 in
theorem c_T_exchange {s t i j x y : Nat} (hs : isS s) (ht : t < 6) (hi : i < 8) (hj : j < 8) (hx : μ (s + 7 + 2 * t) i = nI x) (hy : μ (s + 7 + 2 * t) j = nI y) (hf : fin none (u2 (u2 μ (s + 7 + 2 * t) i (nI y)) (s + 7 + 2 * t) j (nI x))) : PS l E D cA mX4_exchangePlaces d fin 0 [some (.ref (s + 6 + 2 * t)), some (.int (nI i)), some (.int (nI j)), none] [] μ := by
  refine pw_aload_n dX4_exchangePlaces_0 rfl ?_
  refine ps_getr (r := s + 7 + 2 * t) dX4_exchangePlaces_1 kf_X4_9 (by decide) ((ok_T hs ht).2.1) ?_
  refine pw_iload_n dX4_exchangePlaces_4 rfl ?_
  refine ps_iald (j := i) (x := nI x) dX4_exchangePlaces_5 rfl (ok_ar (n := 8) ((ok_T hs ht).2.2.2.2.2.2) (by omega)) hx ?_
  refine px_istore_n (ls' := [some (.ref (s + 6 + 2 * t)), some (.int (nI i)), some (.int (nI j)), some (.int (nI x))]) dX4_exchangePlaces_6 rfl rfl (by decide) ?_
  refine pw_aload_n dX4_exchangePlaces_7 rfl ?_
  refine ps_getr (r := s + 7 + 2 * t) dX4_exchangePlaces_8 kf_X4_9 (by decide) ((ok_T hs ht).2.1) ?_
  refine pw_iload_n dX4_exchangePlaces_11 rfl ?_
  refine pw_aload_n dX4_exchangePlaces_12 rfl ?_
  refine ps_getr (r := s + 7 + 2 * t) dX4_exchangePlaces_13 kf_X4_9 (by decide) ((ok_T hs ht).2.1) ?_
  refine pw_iload_n dX4_exchangePlaces_16 rfl ?_
  refine ps_iald (j := j) (x := nI y) dX4_exchangePlaces_17 rfl (ok_ar (n := 8) ((ok_T hs ht).2.2.2.2.2.2) (by omega)) hy ?_
  refine ps_iast (j := i) dX4_exchangePlaces_18 rfl (ok_ar (n := 8) ((ok_T hs ht).2.2.2.2.2.2) (by omega)) ?_
  refine pw_aload_n dX4_exchangePlaces_19 rfl ?_
  refine ps_getr (r := s + 7 + 2 * t) dX4_exchangePlaces_20 kf_X4_9 (by decide) ((ok_T hs ht).2.1) ?_
  refine pw_iload_n dX4_exchangePlaces_23 rfl ?_
  refine pw_iload_n dX4_exchangePlaces_24 rfl ?_
  refine ps_iast (j := j) dX4_exchangePlaces_25 rfl (ok_ar (n := 8) ((ok_T hs ht).2.2.2.2.2.2) (by omega)) ?_
  exact ps_ret dX4_exchangePlaces_26 rfl hf
set_option maxRecDepth 100000 in
set_option maxHeartbeats 4000000 in
theorem c_fill {b n : Nat} {x : Int32} (hb : oka b 100 n = true) (hf : ∀ ν : Mu, (∀ q k, q ≠ b → ν q k = μ q k) → (∀ k, k < n → ν b k = x) → fin none ν) : PS l E D cA mJ7_fill_53178 d fin 0 [some (.ref b), some (.int x), none, none] [] μ := by
  refine pw_iconst_ (v := nI 0) dJ7_fill_53178_0 (by decide) ?_
  refine px_istore_n (ls' := [some (.ref b), some (.int x), some (.int (nI 0)), none]) dJ7_fill_53178_1 rfl rfl (by decide) ?_
  refine pw_aload_n dJ7_fill_53178_2 rfl ?_
  refine ps_alen dJ7_fill_53178_3 (oka_of hb).1 (oka_of hb).2.1 (oka_of hb).2.2.1 ?_
  refine px_istore_n (ls' := [some (.ref b), some (.int x), some (.int (nI 0)), some (.int (nI n))]) dJ7_fill_53178_4 rfl rfl (by decide) ?_
  have hn9 : n < 2 ^ 31 := (oka_of hb).2.2.1 ▸ ly_small
  have lp : ∀ i : Nat, i ≤ n → ∀ ν : Mu, ((∀ q k, q ≠ b → ν q k = μ q k) ∧ ∀ k, k < i → ν b k = x) → PS l E D cA mJ7_fill_53178 d fin 5 [some (.ref b), some (.int x), some (.int (nI i)), some (.int (nI n))] [] ν := by
    refine ps_for n ?_ ?_
    · rintro ν ⟨h1, h2⟩
      refine pw_iload_n dJ7_fill_53178_5 rfl ?_
      refine pw_iload_n dJ7_fill_53178_6 rfl ?_
      refine pn_ge (tgt := 20) dJ7_fill_53178_7 (by decide) (by omega) (by omega) (fun _ => ?_) (fun h9 => absurd h9 (by omega))
      exact ps_ret dJ7_fill_53178_20 rfl (hf ν h1 h2)
    · rintro i hi ih ν ⟨h1, h2⟩
      refine pw_iload_n dJ7_fill_53178_5 rfl ?_
      refine pw_iload_n dJ7_fill_53178_6 rfl ?_
      refine pn_ge (tgt := 20) dJ7_fill_53178_7 (by decide) (by omega) (by omega) (fun h9 => absurd h9 (by omega)) (fun _ => ?_)
      refine pw_aload_n dJ7_fill_53178_10 rfl ?_
      refine pw_iload_n dJ7_fill_53178_11 rfl ?_
      refine pw_iload_n dJ7_fill_53178_12 rfl ?_
      refine ps_iast (j := i) dJ7_fill_53178_13 rfl (ok_ar (n := n) hb (by omega)) ?_
      refine px_iincn (n := 1) (a := i) (b := i + 1) (ls' := [some (.ref b), some (.int x), some (.int (nI (i + 1))), some (.int (nI n))]) dJ7_fill_53178_14 rfl rfl rfl (by omega) ?_
      refine pw_goto (tgt := 5) dJ7_fill_53178_17 (by decide) ?_
      refine ih _ ⟨fun q k hq => ?_, fun k hk => ?_⟩
      · rw [u2_a hq]
        exact h1 q k hq
      · rcases Nat.lt_or_eq_of_le (Nat.le_of_lt_succ hk) with h | rfl
        · rw [u2_b (by omega)]
          exact h2 k h
        · rw [u2_s]
  exact lp 0 (Nat.zero_le _) μ ⟨fun _ _ _ => rfl, fun k hk => absurd hk (Nat.not_lt_zero _)⟩
/-- a route's row turned by j -/
def TRN (μ ν : Mu) (v n j : Nat) (f : Nat → Nat) : Prop := (∀ q k, q ≠ v → ν q k = μ q k) ∧ ∀ k, k < n → ν v k = nI (f ((k + j) % n))
end COPY
