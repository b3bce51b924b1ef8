/-! the model: ranges, rows, what is laid aside -/
/-- the model's row holds a -/
def RM (μ : Mu) (a : AS) : Prop := ∀ k, k < 108 → μ 228 k = nI (a k)
/-- the model's history, slots, pad -/
def MH (μ : Mu) (H : Nat → AS) (h : Nat) : Prop := h ≤ 6 ∧ μ 227 6 = nI h ∧ ∀ i k, i < h → k < 108 → μ 229 (108 * i + k) = nI (H i k)
def ML (μ : Mu) (c : CS) : Prop := (∀ j, j < 2 → μ 233 j = nI (sV c j)) ∧ ∀ j k, j < 2 → k < 108 → sV c j = 1 → μ 232 (108 * j + k) = nI (sS c j k)
def MP (μ : Mu) (pd : Nat → Nat) (ln : Nat) : Prop := μ 227 8 = nI ln ∧ ln ≤ 20 ∧ ∀ k, k < ln → μ 234 k = nI (pd k) ∧ 33 ≤ pd k ∧ pd k ≤ 126
def MX (μ : Mu) (c : CS) : Prop := RM μ (na c) ∧ MH μ (hH c) (hN c) ∧ ML μ c ∧ MP μ (pD c) (pL c)
/-- the class's cells stay -/
def SX (ν μ : Mu) : Prop := ∀ q k, q < 227 → ν q k = μ q k
theorem i64_lt {a b : Int32} : a.toInt64 < b.toInt64 ↔ a < b := by
  rw [Int64.lt_iff_toInt_lt, Int32.lt_iff_toInt_lt, Int32.toInt_toInt64, Int32.toInt_toInt64]
theorem lg_lt0 {x y : Int64} : lg_cmp x y < 0 ↔ x < y := by
  have := lg_cmp_ge x y
  rw [← Int32.not_le, this, Int64.not_le]
theorem lg_gt0 {x y : Int64} : 0 < lg_cmp x y ↔ y < x := by
  have := lg_cmp_le x y
  rw [← Int32.not_le, this, Int64.not_le]
section MODA
variable {l : Launch} {E : EV} {D : va_G} {cA : Nat → ClassId} {fin : Option Value → Mu → Prop} {μ : Mu} {d : Nat}
set_option maxRecDepth 100000 in
set_option maxHeartbeats 4000000 in
theorem m_in {v a b : Int32} (hf : fin (some (.int (kb (¬ v < a ∧ ¬ b < v)))) μ) : PS l E D cA mX6_in d fin 0 [some (.long v.toInt64), none, some (.int a), some (.int b)] [] μ := by
  refine pw_lload_n dX6_in_0 rfl ?_
  refine pw_iload_n dX6_in_1 rfl ?_
  refine pw_i2l dX6_in_2 rfl ?_
  refine pw_lcmp dX6_in_3 ?_
  refine pw_if_lt (tgt := 18) dX6_in_4 (by decide) (fun h1 => ?_) (fun h1 => ?_)
  · refine pw_iconst_ (v := nI 0) dX6_in_18 (by decide) ?_
    exact ps_iret dX6_in_19 rfl (by decide) (by rw [kb_f (fun q => q.1 (i64_lt.mp (lg_lt0.mp h1)))] at hf; exact hf)
  · refine pw_lload_n dX6_in_7 rfl ?_
    refine pw_iload_n dX6_in_8 rfl ?_
    refine pw_i2l dX6_in_9 rfl ?_
    refine pw_lcmp dX6_in_10 ?_
    refine pw_if_gt (tgt := 18) dX6_in_11 (by decide) (fun h2 => ?_) (fun h2 => ?_)
    · refine pw_iconst_ (v := nI 0) dX6_in_18 (by decide) ?_
      exact ps_iret dX6_in_19 rfl (by decide) (by rw [kb_f (fun q => q.2 (i64_lt.mp (lg_gt0.mp h2)))] at hf; exact hf)
    · refine pw_iconst_ (v := nI 1) dX6_in_14 (by decide) ?_
      refine pw_goto (tgt := 19) dX6_in_15 (by decide) ?_
      exact ps_iret dX6_in_19 rfl (by decide) (by rw [kb_t ⟨fun q => h1 (lg_lt0.mpr (i64_lt.mpr q)), fun q => h2 (lg_gt0.mpr (i64_lt.mpr q))⟩] at hf; exact hf)
set_option maxRecDepth 100000 in
set_option maxHeartbeats 4000000 in
theorem m_isPlace {v : Int32} (hf : fin (some (.int (kb (¬ v < nI 0 ∧ ¬ nI 7 < v)))) μ) : PS l E D cA mX6_isPlace (d + 1) fin 0 [some (.int v)] [] μ := by
  refine pw_iload_n dX6_isPlace_0 rfl ?_
  refine pw_i2l dX6_isPlace_1 rfl ?_
  refine pw_iconst_ (v := nI 0) dX6_isPlace_2 (by decide) ?_
  refine pw_bipush (v := nI 7) dX6_isPlace_3 (by decide) ?_
  refine ps_callS (As := [.long v.toInt64, .int (nI 0), .int (nI 7)]) (st := []) dX6_isPlace_5 cs_X6_65 rfl (Nat.le_of_ble_eq_true rfl) (Nat.le_of_ble_eq_true rfl) ?_
  refine m_in ?_
  exact ps_iret dX6_isPlace_8 rfl (kb_nar) hf
set_option maxRecDepth 100000 in
set_option maxHeartbeats 4000000 in
theorem m_isTeam {v : Int32} {n : Nat} (hn : μ 228 3 = nI n) (hf : fin (some (.int (kb (¬ v < nI 0 ∧ ¬ nI n - nI 1 < v)))) μ) : PS l E D cA mX6_isTeam (d + 1) fin 0 [some (.ref 227), some (.int v)] [] μ := by
  refine pw_iload_n dX6_isTeam_0 rfl ?_
  refine pw_i2l dX6_isTeam_1 rfl ?_
  refine pw_iconst_ (v := nI 0) dX6_isTeam_2 (by decide) ?_
  refine pw_aload_n dX6_isTeam_3 rfl ?_
  refine ps_getr (r := 228) dX6_isTeam_4 kf_X6_7 (by decide) (by decide +kernel) ?_
  refine pw_iconst_ (v := nI 3) dX6_isTeam_7 (by decide) ?_
  refine ps_iald (j := 3) (x := nI n) dX6_isTeam_8 rfl (ok_ar (n := 108) (by decide +kernel) (by decide)) hn ?_
  refine pw_iconst_ (v := nI 1) dX6_isTeam_9 (by decide) ?_
  refine pw_isub dX6_isTeam_10 ?_
  refine ps_callS (As := [.long v.toInt64, .int (nI 0), .int ((nI n) - (nI 1))]) (st := []) dX6_isTeam_11 cs_X6_65 rfl (Nat.le_of_ble_eq_true rfl) (Nat.le_of_ble_eq_true rfl) ?_
  refine m_in ?_
  exact ps_iret dX6_isTeam_14 rfl (kb_nar) hf
set_option maxRecDepth 100000 in
set_option maxHeartbeats 4000000 in
theorem m_its {t w : Nat} {x : Int32} (hb : 36 + 12 * t + w < 108) (hx : μ 228 (36 + 12 * t + w) = x) (hf : fin (some (.int x)) μ) : PS l E D cA mX6_its d fin 0 [some (.ref 227), some (.int (nI t)), some (.int (nI w))] [] μ := by
  refine pw_aload_n dX6_its_0 rfl ?_
  refine ps_getr (r := 228) dX6_its_1 kf_X6_7 (by decide) (by decide +kernel) ?_
  refine pw_bipush (v := nI 36) dX6_its_4 (by decide) ?_
  refine pw_bipush (v := nI 12) dX6_its_6 (by decide) ?_
  refine pw_iload_n dX6_its_8 rfl ?_
  refine px_imuln (c := 12 * t) dX6_its_9 (by omega) ?_
  refine px_iaddn (c := 36 + 12 * t) dX6_its_10 (by omega) ?_
  refine pw_iload_n dX6_its_11 rfl ?_
  refine px_iaddn (c := 36 + 12 * t + w) dX6_its_12 (by omega) ?_
  refine ps_iald (j := 36 + 12 * t + w) (x := x) dX6_its_13 rfl (ok_ar (n := 108) (by decide +kernel) (by omega)) hx ?_
  exact ps_iret dX6_its_14 rfl (rfl) hf
set_option maxRecDepth 100000 in
set_option maxHeartbeats 4000000 in
theorem m_of {p w : Nat} {x : Int32} (hb : 4 + 4 * p + w < 108) (hx : μ 228 (4 + 4 * p + w) = x) (hf : fin (some (.int x)) μ) : PS l E D cA mX6_of d fin 0 [some (.ref 227), some (.int (nI p)), some (.int (nI w))] [] μ := by
  refine pw_aload_n dX6_of_0 rfl ?_
  refine ps_getr (r := 228) dX6_of_1 kf_X6_7 (by decide) (by decide +kernel) ?_
  refine pw_iconst_ (v := nI 4) dX6_of_4 (by decide) ?_
  refine pw_iconst_ (v := nI 4) dX6_of_5 (by decide) ?_
  refine pw_iload_n dX6_of_6 rfl ?_
  refine px_imuln (c := 4 * p) dX6_of_7 (by omega) ?_
  refine px_iaddn (c := 4 + 4 * p) dX6_of_8 (by omega) ?_
  refine pw_iload_n dX6_of_9 rfl ?_
  refine px_iaddn (c := 4 + 4 * p + w) dX6_of_10 (by omega) ?_
  refine ps_iald (j := 4 + 4 * p + w) (x := x) dX6_of_11 rfl (ok_ar (n := 108) (by decide +kernel) (by omega)) hx ?_
  exact ps_iret dX6_of_12 rfl (rfl) hf
set_option maxRecDepth 100000 in
set_option maxHeartbeats 4000000 in
theorem m_lay {t w : Nat} {x : Int32} (hb : 36 + 12 * t + w < 108) (hf : fin none (u2 μ 228 (36 + 12 * t + w) x)) : PS l E D cA mX6_lay d fin 0 [some (.ref 227), some (.int (nI t)), some (.int (nI w)), some (.int x)] [] μ := by
  refine pw_aload_n dX6_lay_0 rfl ?_
  refine ps_getr (r := 228) dX6_lay_1 kf_X6_7 (by decide) (by decide +kernel) ?_
  refine pw_bipush (v := nI 36) dX6_lay_4 (by decide) ?_
  refine pw_bipush (v := nI 12) dX6_lay_6 (by decide) ?_
  refine pw_iload_n dX6_lay_8 rfl ?_
  refine px_imuln (c := 12 * t) dX6_lay_9 (by omega) ?_
  refine px_iaddn (c := 36 + 12 * t) dX6_lay_10 (by omega) ?_
  refine pw_iload_n dX6_lay_11 rfl ?_
  refine px_iaddn (c := 36 + 12 * t + w) dX6_lay_12 (by omega) ?_
  refine pw_iload_n dX6_lay_13 rfl ?_
  refine ps_iast (j := 36 + 12 * t + w) dX6_lay_14 rfl (ok_ar (n := 108) (by decide +kernel) (by omega)) ?_
  exact ps_ret dX6_lay_15 rfl hf
set_option maxRecDepth 100000 in
set_option maxHeartbeats 4000000 in
theorem m_remember (hf : ∀ ν : Mu, (∀ k, k < 108 → ν 230 k = μ 228 k) → (∀ q k, q ≠ 230 → ν q k = μ q k) → fin none ν) : PS l E D cA mX6_remember d fin 0 [some (.ref 227), none] [] μ := by
  refine pw_iconst_ (v := nI 0) dX6_remember_0 (by decide) ?_
  refine px_istore_n (ls' := [some (.ref 227), some (.int (nI 0))]) dX6_remember_1 rfl rfl (by decide) ?_
  have lp : ∀ i : Nat, i ≤ 108 → ∀ κ : Mu, ((∀ q k, q ≠ 230 → κ q k = μ q k) ∧ ∀ k, k < i → κ 230 k = μ 228 k) → PS l E D cA mX6_remember d fin 2 [some (.ref 227), some (.int (nI i))] [] κ := by
    refine ps_for 108 ?_ ?_
    · rintro κ ⟨k1, k2⟩
      refine pw_iload_n dX6_remember_2 rfl ?_
      refine pw_bipush (v := nI 108) dX6_remember_3 (by decide) ?_
      refine pn_ge (tgt := 26) dX6_remember_5 (by decide) (by omega) (by omega) (fun _ => ?_) (fun h9 => absurd h9 (by decide))
      exact ps_ret dX6_remember_26 rfl (hf κ k2 k1)
    · rintro i hi ih κ ⟨k1, k2⟩
      refine pw_iload_n dX6_remember_2 rfl ?_
      refine pw_bipush (v := nI 108) dX6_remember_3 (by decide) ?_
      refine pn_ge (tgt := 26) dX6_remember_5 (by decide) (by omega) (by omega) (fun h9 => absurd h9 (by omega)) (fun _ => ?_)
      refine pw_aload_n dX6_remember_8 rfl ?_
      refine ps_getr (r := 230) dX6_remember_9 kf_X6_16 (by decide) (by decide +kernel) ?_
      refine pw_iload_n dX6_remember_12 rfl ?_
      refine pw_aload_n dX6_remember_13 rfl ?_
      refine ps_getr (r := 228) dX6_remember_14 kf_X6_7 (by decide) (by decide +kernel) ?_
      refine pw_iload_n dX6_remember_17 rfl ?_
      refine ps_iald (j := i) (x := κ 228 i) dX6_remember_18 rfl (ok_ar (n := 108) (by decide +kernel) (by omega)) rfl ?_
      refine ps_iast (j := i) dX6_remember_19 rfl (ok_ar (n := 108) (by decide +kernel) (by omega)) ?_
      refine px_iincn (n := 1) (a := i) (b := i + 1) (ls' := [some (.ref 227), some (.int (nI (i + 1)))]) dX6_remember_20 rfl rfl rfl (by omega) ?_
      refine pw_goto (tgt := 2) dX6_remember_23 (by decide) ?_
      refine ih _ ⟨fun q k g => (u2_a g).trans (k1 q k g), fun k g => ?_⟩
      rcases Nat.lt_or_eq_of_le (Nat.le_of_lt_succ g) with h | rfl
      · rw [u2_b (by omega)]
        exact k2 k h
      · rw [u2_s]
        exact k1 _ _ (by decide)
  exact lp 0 (by decide) μ ⟨fun _ _ _ => rfl, fun k g => absurd g (Nat.not_lt_zero _)⟩
set_option maxRecDepth 100000 in
set_option maxHeartbeats 4000000 in
theorem m_layAside (hf : ∀ ν : Mu, (∀ k, k < 108 → ν 231 k = μ 228 k) → (∀ q k, q ≠ 231 → ν q k = μ q k) → fin none ν) : PS l E D cA mX6_layAside d fin 0 [some (.ref 227), none] [] μ := by
  refine pw_iconst_ (v := nI 0) dX6_layAside_0 (by decide) ?_
  refine px_istore_n (ls' := [some (.ref 227), some (.int (nI 0))]) dX6_layAside_1 rfl rfl (by decide) ?_
  have lp : ∀ i : Nat, i ≤ 108 → ∀ κ : Mu, ((∀ q k, q ≠ 231 → κ q k = μ q k) ∧ ∀ k, k < i → κ 231 k = μ 228 k) → PS l E D cA mX6_layAside d fin 2 [some (.ref 227), some (.int (nI i))] [] κ := by
    refine ps_for 108 ?_ ?_
    · rintro κ ⟨k1, k2⟩
      refine pw_iload_n dX6_layAside_2 rfl ?_
      refine pw_bipush (v := nI 108) dX6_layAside_3 (by decide) ?_
      refine pn_ge (tgt := 26) dX6_layAside_5 (by decide) (by omega) (by omega) (fun _ => ?_) (fun h9 => absurd h9 (by decide))
      exact ps_ret dX6_layAside_26 rfl (hf κ k2 k1)
    · rintro i hi ih κ ⟨k1, k2⟩
      refine pw_iload_n dX6_layAside_2 rfl ?_
      refine pw_bipush (v := nI 108) dX6_layAside_3 (by decide) ?_
      refine pn_ge (tgt := 26) dX6_layAside_5 (by decide) (by omega) (by omega) (fun h9 => absurd h9 (by omega)) (fun _ => ?_)
      refine pw_aload_n dX6_layAside_8 rfl ?_
      refine ps_getr (r := 231) dX6_layAside_9 kf_X6_19 (by decide) (by decide +kernel) ?_
      refine pw_iload_n dX6_layAside_12 rfl ?_
      refine pw_aload_n dX6_layAside_13 rfl ?_
      refine ps_getr (r := 228) dX6_layAside_14 kf_X6_7 (by decide) (by decide +kernel) ?_
      refine pw_iload_n dX6_layAside_17 rfl ?_
      refine ps_iald (j := i) (x := κ 228 i) dX6_layAside_18 rfl (ok_ar (n := 108) (by decide +kernel) (by omega)) rfl ?_
      refine ps_iast (j := i) dX6_layAside_19 rfl (ok_ar (n := 108) (by decide +kernel) (by omega)) ?_
      refine px_iincn (n := 1) (a := i) (b := i + 1) (ls' := [some (.ref 227), some (.int (nI (i + 1)))]) dX6_layAside_20 rfl rfl rfl (by omega) ?_
      refine pw_goto (tgt := 2) dX6_layAside_23 (by decide) ?_
      refine ih _ ⟨fun q k g => (u2_a g).trans (k1 q k g), fun k g => ?_⟩
      rcases Nat.lt_or_eq_of_le (Nat.le_of_lt_succ g) with h | rfl
      · rw [u2_b (by omega)]
        exact k2 k h
      · rw [u2_s]
        exact k1 _ _ (by decide)
  exact lp 0 (by decide) μ ⟨fun _ _ _ => rfl, fun k g => absurd g (Nat.not_lt_zero _)⟩
set_option maxRecDepth 100000 in
set_option maxHeartbeats 4000000 in
theorem m_putBack (hf : ∀ ν : Mu, (∀ k, k < 108 → ν 228 k = μ 231 k) → (∀ q k, q ≠ 228 → ν q k = μ q k) → fin none ν) : PS l E D cA mX6_putBack d fin 0 [some (.ref 227), none] [] μ := by
  refine pw_iconst_ (v := nI 0) dX6_putBack_0 (by decide) ?_
  refine px_istore_n (ls' := [some (.ref 227), some (.int (nI 0))]) dX6_putBack_1 rfl rfl (by decide) ?_
  have lp : ∀ i : Nat, i ≤ 108 → ∀ κ : Mu, ((∀ q k, q ≠ 228 → κ q k = μ q k) ∧ ∀ k, k < i → κ 228 k = μ 231 k) → PS l E D cA mX6_putBack d fin 2 [some (.ref 227), some (.int (nI i))] [] κ := by
    refine ps_for 108 ?_ ?_
    · rintro κ ⟨k1, k2⟩
      refine pw_iload_n dX6_putBack_2 rfl ?_
      refine pw_bipush (v := nI 108) dX6_putBack_3 (by decide) ?_
      refine pn_ge (tgt := 26) dX6_putBack_5 (by decide) (by omega) (by omega) (fun _ => ?_) (fun h9 => absurd h9 (by decide))
      exact ps_ret dX6_putBack_26 rfl (hf κ k2 k1)
    · rintro i hi ih κ ⟨k1, k2⟩
      refine pw_iload_n dX6_putBack_2 rfl ?_
      refine pw_bipush (v := nI 108) dX6_putBack_3 (by decide) ?_
      refine pn_ge (tgt := 26) dX6_putBack_5 (by decide) (by omega) (by omega) (fun h9 => absurd h9 (by omega)) (fun _ => ?_)
      refine pw_aload_n dX6_putBack_8 rfl ?_
      refine ps_getr (r := 228) dX6_putBack_9 kf_X6_7 (by decide) (by decide +kernel) ?_
      refine pw_iload_n dX6_putBack_12 rfl ?_
      refine pw_aload_n dX6_putBack_13 rfl ?_
      refine ps_getr (r := 231) dX6_putBack_14 kf_X6_19 (by decide) (by decide +kernel) ?_
      refine pw_iload_n dX6_putBack_17 rfl ?_
      refine ps_iald (j := i) (x := κ 231 i) dX6_putBack_18 rfl (ok_ar (n := 108) (by decide +kernel) (by omega)) rfl ?_
      refine ps_iast (j := i) dX6_putBack_19 rfl (ok_ar (n := 108) (by decide +kernel) (by omega)) ?_
      refine px_iincn (n := 1) (a := i) (b := i + 1) (ls' := [some (.ref 227), some (.int (nI (i + 1)))]) dX6_putBack_20 rfl rfl rfl (by omega) ?_
      refine pw_goto (tgt := 2) dX6_putBack_23 (by decide) ?_
      refine ih _ ⟨fun q k g => (u2_a g).trans (k1 q k g), fun k g => ?_⟩
      rcases Nat.lt_or_eq_of_le (Nat.le_of_lt_succ g) with h | rfl
      · rw [u2_b (by omega)]
        exact k2 k h
      · rw [u2_s]
        exact k1 _ _ (by decide)
  exact lp 0 (by decide) μ ⟨fun _ _ _ => rfl, fun k g => absurd g (Nat.not_lt_zero _)⟩
set_option maxRecDepth 100000 in
set_option maxHeartbeats 4000000 in
theorem m_record {x : Int32} {a : AS} {H : Nat → AS} {h : Nat} (hH : MH μ H h) (hb : ∀ k, k < 108 → μ 230 k = nI (a k)) (hf : ∀ ν : Mu, MH ν (rcH H h a) (rcN h) → (∀ q k, q ≠ 229 → (q = 227 → k ≠ 6) → ν q k = μ q k) → fin (some (.int x)) ν) : PS l E D cA mX6_record d fin 0 [some (.ref 227), some (.int x), none] [] μ := by
  obtain ⟨h6, hs, hp⟩ := hH
  refine pw_aload_n dX6_record_0 rfl ?_
  refine ps_geti (x := nI h) dX6_record_1 kf_X6_69 (by decide) (by decide +kernel) hs ?_
  refine pw_bipush (v := nI 6) dX6_record_4 (by decide) ?_
  refine pn_ne (tgt := 49) dX6_record_6 (by decide) (by omega) (by omega) (fun hn => ?_) (fun hn => ?_)
  · have h5 : h ≤ 5 := by omega
    have hb9 : ∀ k, k < 108 → μ 230 k = nI (a k) := hb
    refine pw_iconst_ (v := nI 0) dX6_record_49 (by decide) ?_
    refine px_istore_n (ls' := [some (.ref 227), some (.int x), some (.int (nI 0))]) dX6_record_50 rfl rfl (by decide) ?_
    have lp : ∀ i : Nat, i ≤ 108 → ∀ κ : Mu, ((∀ q k, q ≠ 229 → κ q k = (μ) q k) ∧ (∀ k, k < 108 * h → κ 229 k = (μ) 229 k) ∧ ∀ k, k < i → κ 229 (108 * h + k) = nI (a k)) → PS l E D cA mX6_record d fin 51 [some (.ref 227), some (.int x), some (.int (nI i))] [] κ := by
      refine ps_for 108 ?_ ?_
      · rintro κ ⟨k1, k2, k3⟩
        refine pw_iload_n dX6_record_51 rfl ?_
        refine pw_bipush (v := nI 108) dX6_record_52 (by decide) ?_
        refine pn_ge (tgt := 83) dX6_record_54 (by decide) (by omega) (by omega) (fun _ => ?_) (fun h9 => absurd h9 (by decide))
        refine pw_aload_n dX6_record_83 rfl ?_
        refine pw_dup dX6_record_84 rfl ?_
        refine ps_geti (x := nI h) dX6_record_85 kf_X6_69 (by decide) (by decide +kernel) ((k1 _ _ (by decide)).trans hs) ?_
        refine pw_iconst_ (v := nI 1) dX6_record_88 (by decide) ?_
        refine px_iaddn (c := h + 1) dX6_record_89 (by omega) ?_
        refine ps_puti dX6_record_90 kf_X6_69 (by decide) rfl (by decide +kernel) ?_
        refine pw_iload_n dX6_record_93 rfl ?_
        refine ps_iret dX6_record_94 rfl rfl (hf _ ⟨?_, ?_, ?_⟩ ?_)
        · unfold rcN
          rw [if_neg hn]
          omega
        · unfold rcN
          rw [if_neg hn, u2_s]
        · intro i k hi hk
          unfold rcN at hi
          rw [if_neg hn] at hi
          unfold rcH
          rw [if_neg hn, u2_a (by decide)]
          by_cases e : i = h
          · subst e
            rw [if_pos rfl]
            exact k3 k hk
          · rw [if_neg e, k2 _ (by omega)]
            exact hp i k (by omega) hk
        · intro q k g1 g2
          by_cases e : q = 227
          · subst e
            rw [u2_b (g2 rfl), k1 _ _ (by decide)]
          · rw [u2_a e, k1 _ _ g1]
      · rintro i hi ih κ ⟨k1, k2, k3⟩
        refine pw_iload_n dX6_record_51 rfl ?_
        refine pw_bipush (v := nI 108) dX6_record_52 (by decide) ?_
        refine pn_ge (tgt := 83) dX6_record_54 (by decide) (by omega) (by omega) (fun h9 => absurd h9 (by omega)) (fun _ => ?_)
        refine pw_aload_n dX6_record_57 rfl ?_
        refine ps_getr (r := 229) dX6_record_58 kf_X6_13 (by decide) (by decide +kernel) ?_
        refine pw_bipush (v := nI 108) dX6_record_61 (by decide) ?_
        refine pw_aload_n dX6_record_63 rfl ?_
        refine ps_geti (x := nI h) dX6_record_64 kf_X6_69 (by decide) (by decide +kernel) ((k1 _ _ (by decide)).trans hs) ?_
        refine px_imuln (c := 108 * h) dX6_record_67 (by omega) ?_
        refine pw_iload_n dX6_record_68 rfl ?_
        refine px_iaddn (c := 108 * h + i) dX6_record_69 (by omega) ?_
        refine pw_aload_n dX6_record_70 rfl ?_
        refine ps_getr (r := 230) dX6_record_71 kf_X6_16 (by decide) (by decide +kernel) ?_
        refine pw_iload_n dX6_record_74 rfl ?_
        refine ps_iald (j := i) (x := nI (a i)) dX6_record_75 rfl (ok_ar (n := 108) (by decide +kernel) (by omega)) ((k1 _ _ (by decide)).trans (hb9 i hi)) ?_
        refine ps_iast (j := 108 * h + i) dX6_record_76 rfl (ok_ar (n := 648) (by decide +kernel) (by omega)) ?_
        refine px_iincn (n := 1) (a := i) (b := i + 1) (ls' := [some (.ref 227), some (.int x), some (.int (nI (i + 1)))]) dX6_record_77 rfl rfl rfl (by omega) ?_
        refine pw_goto (tgt := 51) dX6_record_80 (by decide) ?_
        refine ih _ ⟨fun q k g => (u2_a g).trans (k1 q k g), fun k g => (u2_b (by omega)).trans (k2 k g), fun k g => ?_⟩
        rcases Nat.lt_or_eq_of_le (Nat.le_of_lt_succ g) with h | rfl
        · rw [u2_b (by omega)]
          exact k3 k h
        · rw [u2_s]
    exact lp 0 (by decide) _ ⟨fun _ _ _ => rfl, fun _ _ => rfl, fun k g => absurd g (Nat.not_lt_zero _)⟩
  · subst hn
    refine pw_iconst_ (v := nI 0) dX6_record_9 (by decide) ?_
    refine px_istore_n (ls' := [some (.ref 227), some (.int x), some (.int (nI 0))]) dX6_record_10 rfl rfl (by decide) ?_
    have lr : ∀ i : Nat, i ≤ 540 → ∀ σ : Mu, ((∀ q k, q ≠ 229 → σ q k = μ q k) ∧ (∀ k, k < i → σ 229 k = μ 229 (108 + k)) ∧ ∀ k, i ≤ k → σ 229 k = μ 229 k) → PS l E D cA mX6_record d fin 11 [some (.ref 227), some (.int x), some (.int (nI i))] [] σ := by
      refine ps_for 540 ?_ ?_
      · rintro σ ⟨m1, m2, m3⟩
        refine pw_iload_n dX6_record_11 rfl ?_
        refine pw_sipush (v := nI 540) dX6_record_12 (by decide) ?_
        refine pn_ge (tgt := 39) dX6_record_15 (by decide) (by omega) (by omega) (fun _ => ?_) (fun h9 => absurd h9 (by decide))
        refine pw_aload_n dX6_record_39 rfl ?_
        refine pw_dup dX6_record_40 rfl ?_
        refine ps_geti (x := nI 6) dX6_record_41 kf_X6_69 (by decide) (by decide +kernel) ((m1 _ _ (by decide)).trans hs) ?_
        refine pw_iconst_ (v := nI 1) dX6_record_44 (by decide) ?_
        refine pn_isub (by decide) dX6_record_45 ?_
        refine ps_puti dX6_record_46 kf_X6_69 (by decide) rfl (by decide +kernel) ?_
        have hb9 : ∀ k, k < 108 → σ 230 k = nI (a k) := fun k hk => (m1 _ _ (by decide)).trans (hb k hk)
        have hb8 := hb9
        have hb9 : ∀ k, k < 108 → (u2 σ 227 6 (nI 5)) 230 k = nI (a k) := fun k hk => (u2_a (by decide)).trans (hb8 k hk)
        refine pw_iconst_ (v := nI 0) dX6_record_49 (by decide) ?_
        refine px_istore_n (ls' := [some (.ref 227), some (.int x), some (.int (nI 0))]) dX6_record_50 rfl rfl (by decide) ?_
        have lp : ∀ i : Nat, i ≤ 108 → ∀ κ : Mu, ((∀ q k, q ≠ 229 → κ q k = (u2 σ 227 6 (nI 5)) q k) ∧ (∀ k, k < 108 * 5 → κ 229 k = (u2 σ 227 6 (nI 5)) 229 k) ∧ ∀ k, k < i → κ 229 (108 * 5 + k) = nI (a k)) → PS l E D cA mX6_record d fin 51 [some (.ref 227), some (.int x), some (.int (nI i))] [] κ := by
          refine ps_for 108 ?_ ?_
          · rintro κ ⟨k1, k2, k3⟩
            refine pw_iload_n dX6_record_51 rfl ?_
            refine pw_bipush (v := nI 108) dX6_record_52 (by decide) ?_
            refine pn_ge (tgt := 83) dX6_record_54 (by decide) (by omega) (by omega) (fun _ => ?_) (fun h9 => absurd h9 (by decide))
            refine pw_aload_n dX6_record_83 rfl ?_
            refine pw_dup dX6_record_84 rfl ?_
            refine ps_geti (x := nI 5) dX6_record_85 kf_X6_69 (by decide) (by decide +kernel) ((k1 _ _ (by decide)).trans u2_s) ?_
            refine pw_iconst_ (v := nI 1) dX6_record_88 (by decide) ?_
            refine px_iaddn (c := 6) dX6_record_89 (by omega) ?_
            refine ps_puti dX6_record_90 kf_X6_69 (by decide) rfl (by decide +kernel) ?_
            refine pw_iload_n dX6_record_93 rfl ?_
            refine ps_iret dX6_record_94 rfl rfl (hf _ ⟨by decide, ?_, ?_⟩ ?_)
            · exact u2_s
            · intro i k hi hk
              have hi : i < 6 := hi
              unfold rcH
              rw [if_pos rfl, u2_a (by decide)]
              by_cases e : i = 5
              · subst e
                rw [if_pos rfl]
                exact k3 k hk
              · rw [if_neg e, k2 _ (by omega), u2_a (by decide), m2 _ (by omega), show 108 + (108 * i + k) = 108 * (i + 1) + k by omega]
                exact hp (i + 1) k (by omega) hk
            · intro q k g1 g2
              by_cases e : q = 227
              · subst e
                rw [u2_b (g2 rfl), k1 _ _ (by decide), u2_b (g2 rfl), m1 _ _ (by decide)]
              · rw [u2_a e, k1 _ _ g1, u2_a e, m1 _ _ g1]
          · rintro i hi ih κ ⟨k1, k2, k3⟩
            refine pw_iload_n dX6_record_51 rfl ?_
            refine pw_bipush (v := nI 108) dX6_record_52 (by decide) ?_
            refine pn_ge (tgt := 83) dX6_record_54 (by decide) (by omega) (by omega) (fun h9 => absurd h9 (by omega)) (fun _ => ?_)
            refine pw_aload_n dX6_record_57 rfl ?_
            refine ps_getr (r := 229) dX6_record_58 kf_X6_13 (by decide) (by decide +kernel) ?_
            refine pw_bipush (v := nI 108) dX6_record_61 (by decide) ?_
            refine pw_aload_n dX6_record_63 rfl ?_
            refine ps_geti (x := nI 5) dX6_record_64 kf_X6_69 (by decide) (by decide +kernel) ((k1 _ _ (by decide)).trans u2_s) ?_
            refine px_imuln (c := 540) dX6_record_67 (by omega) ?_
            refine pw_iload_n dX6_record_68 rfl ?_
            refine px_iaddn (c := 540 + i) dX6_record_69 (by omega) ?_
            refine pw_aload_n dX6_record_70 rfl ?_
            refine ps_getr (r := 230) dX6_record_71 kf_X6_16 (by decide) (by decide +kernel) ?_
            refine pw_iload_n dX6_record_74 rfl ?_
            refine ps_iald (j := i) (x := nI (a i)) dX6_record_75 rfl (ok_ar (n := 108) (by decide +kernel) (by omega)) ((k1 _ _ (by decide)).trans (hb9 i hi)) ?_
            refine ps_iast (j := 540 + i) dX6_record_76 rfl (ok_ar (n := 648) (by decide +kernel) (by omega)) ?_
            refine px_iincn (n := 1) (a := i) (b := i + 1) (ls' := [some (.ref 227), some (.int x), some (.int (nI (i + 1)))]) dX6_record_77 rfl rfl rfl (by omega) ?_
            refine pw_goto (tgt := 51) dX6_record_80 (by decide) ?_
            refine ih _ ⟨fun q k g => (u2_a g).trans (k1 q k g), fun k g => (u2_b (by omega)).trans (k2 k g), fun k g => ?_⟩
            rcases Nat.lt_or_eq_of_le (Nat.le_of_lt_succ g) with h | rfl
            · rw [u2_b (by omega)]
              exact k3 k h
            · rw [u2_s]
        exact lp 0 (by decide) _ ⟨fun _ _ _ => rfl, fun _ _ => rfl, fun k g => absurd g (Nat.not_lt_zero _)⟩
      · rintro i hi ih σ ⟨m1, m2, m3⟩
        refine pw_iload_n dX6_record_11 rfl ?_
        refine pw_sipush (v := nI 540) dX6_record_12 (by decide) ?_
        refine pn_ge (tgt := 39) dX6_record_15 (by decide) (by omega) (by omega) (fun h9 => absurd h9 (by omega)) (fun _ => ?_)
        refine pw_aload_n dX6_record_18 rfl ?_
        refine ps_getr (r := 229) dX6_record_19 kf_X6_13 (by decide) (by decide +kernel) ?_
        refine pw_iload_n dX6_record_22 rfl ?_
        refine pw_aload_n dX6_record_23 rfl ?_
        refine ps_getr (r := 229) dX6_record_24 kf_X6_13 (by decide) (by decide +kernel) ?_
        refine pw_bipush (v := nI 108) dX6_record_27 (by decide) ?_
        refine pw_iload_n dX6_record_29 rfl ?_
        refine px_iaddn (c := 108 + i) dX6_record_30 (by omega) ?_
        refine ps_iald (j := 108 + i) (x := μ 229 (108 + i)) dX6_record_31 rfl (ok_ar (n := 648) (by decide +kernel) (by omega)) (m3 _ (by omega)) ?_
        refine ps_iast (j := i) dX6_record_32 rfl (ok_ar (n := 648) (by decide +kernel) (by omega)) ?_
        refine px_iincn (n := 1) (a := i) (b := i + 1) (ls' := [some (.ref 227), some (.int x), some (.int (nI (i + 1)))]) dX6_record_33 rfl rfl rfl (by omega) ?_
        refine pw_goto (tgt := 11) dX6_record_36 (by decide) ?_
        refine ih _ ⟨fun q k g => (u2_a g).trans (m1 q k g), fun k g => ?_, fun k g => (u2_b (by omega)).trans (m3 k (by omega))⟩
        rcases Nat.lt_or_eq_of_le (Nat.le_of_lt_succ g) with h | rfl
        · rw [u2_b (by omega)]
          exact m2 k h
        · rw [u2_s]
    exact lr 0 (by decide) μ ⟨fun _ _ _ => rfl, fun k g => absurd g (Nat.not_lt_zero _), fun _ _ => rfl⟩
end MODA
