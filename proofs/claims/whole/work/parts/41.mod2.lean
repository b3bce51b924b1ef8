/-! the model: set, place, close, start, wipe -/
/-- what the model keeps of its history, slots and pad -/
def KG (κ μ : Mu) : Prop := ∀ q k, (q < 227 ∨ (q = 227 ∧ (k = 6 ∨ k = 8)) ∨ q = 229 ∨ (232 ≤ q ∧ q ≤ 234)) → κ q k = μ q k
theorem KG.up {κ μ : Mu} {i k : Nat} {x : Int32} (h : KG κ μ) (hi : i = 228 ∨ i = 230 ∨ i = 231 ∨ 235 ≤ i) : KG (u2 κ i k x) μ := fun q j g => (u2_a (by omega)).trans (h q j g)
theorem KG.tr {ρ κ μ : Mu} (h1 : KG ρ κ) (h2 : KG κ μ) : KG ρ μ := fun q k g => (h1 q k g).trans (h2 q k g)
theorem SX.rfl {μ : Mu} : SX μ μ := fun _ _ _ => Eq.refl _
theorem KG.sx {ρ κ μ : Mu} (h : KG κ μ) (h2 : ∀ q k, q ≠ 229 → (q = 227 → k ≠ 6) → ρ q k = κ q k) : SX ρ μ := fun q k g => (h2 q k (by omega) (by omega)).trans (h q k (by omega))
theorem MH.off {κ μ : Mu} {H : Nat → AS} {n : Nat} (hR : MH μ H n) (h : KG κ μ) : MH κ H n := ⟨hR.1, (h _ _ (by omega)).trans hR.2.1, fun i k hi hk => (h _ _ (by omega)).trans (hR.2.2 i k hi hk)⟩
theorem MX.rec {ρ κ μ : Mu} {c : CS} {b : AS} (hx : MX μ c) (h : KG κ μ) (r1 : RM κ b) (r2 : MH ρ (rcH (hH c) (hN c) (na c)) (rcN (hN c))) (r3 : ∀ q k, q ≠ 229 → (q = 227 → k ≠ 6) → ρ q k = κ q k) : MX ρ (cnow (crec c) b) := by
  obtain ⟨-, -, ⟨g1, g2⟩, g3, g4, g5⟩ := hx
  have f : ∀ q k, ((q = 227 ∧ k = 8) ∨ (232 ≤ q ∧ q ≤ 234)) → ρ q k = μ q k := fun q k g => (r3 q k (by omega) (by omega)).trans (h q k (by omega))
  exact ⟨fun k hk => (r3 _ _ (by decide) (by omega)).trans (r1 k hk), r2, ⟨fun j hj => (f _ _ (by omega)).trans (g1 j hj), fun j k hj hk e => (f _ _ (by omega)).trans (g2 j k hj hk e)⟩, (f _ _ (by omega)).trans g3, g4, fun k hk => ⟨(f _ _ (by omega)).trans (g5 k hk).1, (g5 k hk).2⟩⟩
theorem RM.up {μ : Mu} {a : AS} {j v : Nat} (h : RM μ a) : RM (u2 μ 228 j (nI v)) (up1 a j v) := fun k hk => by
  by_cases e : k = j
  · subst e
    rw [u2_s, up1_s]
  · rw [u2_b e, up1_n e]
    exact h k hk
theorem loS_ite {j : Nat} (hj : j < 3) : (if j = 2 then nI 1 else nI 0) = nI (loS j) := by unfold loS; split <;> rfl
theorem cnt8 {a : AS} : ∀ n, n ≤ 8 → (∀ p, p < 8 → a (7 + 4 * p) ≤ 1) → cntN (fun p => a (7 + 4 * p) == 0) (n + 1) = cntN (fun p => a (7 + 4 * p) == 0) n + (if (a (7 + 4 * n) == 0) = true then 1 else 0) := fun _ _ _ => rfl
section MODB
variable {l : Launch} {E : EV} {D : va_G} {cA : Nat → ClassId} {fin : Option Value → Mu → Prop} {μ : Mu} {d : Nat}
set_option maxRecDepth 100000 in
set_option maxHeartbeats 4000000 in
theorem m_set {c : CS} (hw : CW c) (hx : MX μ c) {v w : Int32} (hf : ∀ ν : Mu, MX ν (o_set c v w).2 → SX ν μ → fin (some (.int (o_set c v w).1)) ν) : PS l E D cA mX6_set (d + 4) fin 0 [some (.ref 227), some (.int v), some (.int w), none] [] μ := by
  have hq := hx
  refine pw_iload_n dX6_set_0 rfl ?_
  refine pw_i2l dX6_set_1 rfl ?_
  refine pw_iconst_ (v := nI 0) dX6_set_2 (by decide) ?_
  refine pw_iconst_ (v := nI 2) dX6_set_3 (by decide) ?_
  refine ps_callS (As := [.long v.toInt64, .int (nI 0), .int (nI 2)]) (st := []) dX6_set_4 cs_X6_65 rfl (Nat.le_of_ble_eq_true rfl) (Nat.le_of_ble_eq_true rfl) ?_
  refine m_in ?_
  refine pw_if_eq (tgt := 49) dX6_set_7 (by decide) (fun h9 => ?_) (fun h9 => ?_)
  · have h1 := kb_eq0.mp h9
    refine pw_ldc dX6_set_49 kc_X6_74 ?_
    have e9 : o_set c v w = ((-100002), c) := by
      unfold o_set
      rw [if_neg h1]
    rw [e9] at hf
    exact ps_iret dX6_set_51 rfl (rfl) (hf _ hx SX.rfl)
  · have h1 := kb_ne0.mp h9
    obtain ⟨j, hj, rfl⟩ := (rg_to (by decide)).mp h1
    have hj3 : j < 3 := by omega
    have hjn : iN (nI j) = j := iN_nI (by omega)
    rcases (show j = 0 ∨ j = 1 ∨ j = 2 by omega) with rfl | rfl | rfl
    · refine pw_iload_n dX6_set_10 rfl ?_
      refine pw_i2l dX6_set_11 rfl ?_
      refine pw_iload_n dX6_set_12 rfl ?_
      refine pw_iconst_ (v := nI 2) dX6_set_13 (by decide) ?_
      refine pn_ne (tgt := 21) dX6_set_14 (by decide) (by omega) (by omega) (fun _ => ?_) (fun h9 => absurd h9 (by decide))
      refine pw_iconst_ (v := nI 0) dX6_set_21 (by decide) ?_
      refine pw_iload_n dX6_set_22 rfl ?_
      refine pw_if_ne (tgt := 31) dX6_set_23 (by decide) (fun h9 => absurd (by decide) h9) (fun _ => ?_)
      refine pw_bipush (v := nI 50) dX6_set_26 (by decide) ?_
      refine pw_goto (tgt := 43) dX6_set_28 (by decide) ?_
      refine ps_callS (As := [.long w.toInt64, .int (nI 0), .int (nI 50)]) (st := []) dX6_set_43 cs_X6_65 rfl (Nat.le_of_ble_eq_true rfl) (Nat.le_of_ble_eq_true rfl) ?_
      refine m_in ?_
      refine pw_if_ne (tgt := 52) dX6_set_46 (by decide) (fun h9 => ?_) (fun h9 => ?_)
      · have h2 := kb_ne0.mp h9
        obtain ⟨k, hk1, hk2, rfl⟩ := rg_in (lo := 0) (hi := 50) (by decide) (by decide) h2
        have hkn : iN (nI k) = k := iN_nI (by omega)
        refine pw_aload_n dX6_set_52 rfl ?_
        refine ps_callV (b := 227) (As := []) (st := []) dX6_set_53 cv_X6_75 rfl ⟨by decide, by decide +kernel⟩ (Nat.le_of_ble_eq_true rfl) (Nat.le_of_ble_eq_true rfl) ?_
        refine m_remember ?_
        intro ν n1 n2
        have hb : ∀ k, k < 108 → ν 230 k = nI (na c k) := fun k hk => (n1 k hk).trans (hx.1 k hk)
        have hr : RM ν (na c) := fun k hk => (n2 _ _ (by decide)).trans (hx.1 k hk)
        have hk : KG ν μ := fun q k g => n2 q k (by omega)
        show PS l E D cA mX6_set (d + 4) fin 56 [some (.ref 227), some (.int (nI 0)), some (.int (nI k)), none] [] ν
        refine pw_aload_n dX6_set_56 rfl ?_
        refine ps_getr (r := 228) dX6_set_57 kf_X6_7 (by decide) (by decide +kernel) ?_
        refine pw_iload_n dX6_set_60 rfl ?_
        refine ps_iald (j := 0) (x := nI (na c 0)) dX6_set_61 rfl (ok_ar (n := 108) (by decide +kernel) (by decide)) (hr 0 (by decide)) ?_
        refine px_istore_n (ls' := [some (.ref 227), some (.int (nI 0)), some (.int (nI k)), some (.int (nI (na c 0)))]) dX6_set_62 rfl rfl (by decide) ?_
        refine pw_aload_n dX6_set_63 rfl ?_
        refine ps_getr (r := 228) dX6_set_64 kf_X6_7 (by decide) (by decide +kernel) ?_
        refine pw_iload_n dX6_set_67 rfl ?_
        refine pw_iload_n dX6_set_68 rfl ?_
        refine ps_iast (j := 0) dX6_set_69 rfl (ok_ar (n := 108) (by decide +kernel) (by decide)) ?_
        refine pw_aload_n dX6_set_70 rfl ?_
        refine pw_iload_n dX6_set_71 rfl ?_
        have e9 : o_set c (nI 0) (nI k) = (nI (na c 0), cnow (crec c) (up1 (na c) 0 k)) := by
          unfold o_set
          rw [if_pos h1, hjn, hkn]
          exact if_pos h2
        rw [e9] at hf
        have r1 : RM (u2 ν 228 0 (nI k)) (up1 (na c) 0 k) := hr.up
        have f1 : KG (u2 ν 228 0 (nI k)) μ := hk.up (Or.inl rfl)
        refine ps_callV (b := 227) (As := [.int (nI (na c 0))]) (st := []) dX6_set_72 cv_X6_78 rfl ⟨by decide, by decide +kernel⟩ (Nat.le_of_ble_eq_true rfl) (Nat.le_of_ble_eq_true rfl) ?_
        refine m_record (a := na c) (hx.2.1.off f1) (fun k hk => by repeat (first | rw [u2_a (by decide)]); exact hb k hk) ?_
        intro ρ r2 r3
        exact ps_iret dX6_set_75 rfl (rfl) (hf ρ (hx.rec f1 r1 r2 r3) (f1.sx r3))
      · have h2 := kb_eq0.mp h9
        refine pw_ldc dX6_set_49 kc_X6_74 ?_
        have e9 : o_set c (nI 0) w = ((-100002), c) := by
          unfold o_set
          rw [if_pos h1, hjn]
          exact if_neg h2
        rw [e9] at hf
        exact ps_iret dX6_set_51 rfl (rfl) (hf _ hx SX.rfl)
    · refine pw_iload_n dX6_set_10 rfl ?_
      refine pw_i2l dX6_set_11 rfl ?_
      refine pw_iload_n dX6_set_12 rfl ?_
      refine pw_iconst_ (v := nI 2) dX6_set_13 (by decide) ?_
      refine pn_ne (tgt := 21) dX6_set_14 (by decide) (by omega) (by omega) (fun _ => ?_) (fun h9 => absurd h9 (by decide))
      refine pw_iconst_ (v := nI 0) dX6_set_21 (by decide) ?_
      refine pw_iload_n dX6_set_22 rfl ?_
      refine pw_if_ne (tgt := 31) dX6_set_23 (by decide) (fun _ => ?_) (fun h9 => absurd h9 (by decide))
      refine pw_iload_n dX6_set_31 rfl ?_
      refine pw_iconst_ (v := nI 1) dX6_set_32 (by decide) ?_
      refine pn_ne (tgt := 42) dX6_set_33 (by decide) (by omega) (by omega) (fun h9 => absurd h9 (by decide)) (fun _ => ?_)
      refine pw_sipush (v := nI 500) dX6_set_36 (by decide) ?_
      refine pw_goto (tgt := 43) dX6_set_39 (by decide) ?_
      refine ps_callS (As := [.long w.toInt64, .int (nI 0), .int (nI 500)]) (st := []) dX6_set_43 cs_X6_65 rfl (Nat.le_of_ble_eq_true rfl) (Nat.le_of_ble_eq_true rfl) ?_
      refine m_in ?_
      refine pw_if_ne (tgt := 52) dX6_set_46 (by decide) (fun h9 => ?_) (fun h9 => ?_)
      · have h2 := kb_ne0.mp h9
        obtain ⟨k, hk1, hk2, rfl⟩ := rg_in (lo := 0) (hi := 500) (by decide) (by decide) h2
        have hkn : iN (nI k) = k := iN_nI (by omega)
        refine pw_aload_n dX6_set_52 rfl ?_
        refine ps_callV (b := 227) (As := []) (st := []) dX6_set_53 cv_X6_75 rfl ⟨by decide, by decide +kernel⟩ (Nat.le_of_ble_eq_true rfl) (Nat.le_of_ble_eq_true rfl) ?_
        refine m_remember ?_
        intro ν n1 n2
        have hb : ∀ k, k < 108 → ν 230 k = nI (na c k) := fun k hk => (n1 k hk).trans (hx.1 k hk)
        have hr : RM ν (na c) := fun k hk => (n2 _ _ (by decide)).trans (hx.1 k hk)
        have hk : KG ν μ := fun q k g => n2 q k (by omega)
        show PS l E D cA mX6_set (d + 4) fin 56 [some (.ref 227), some (.int (nI 1)), some (.int (nI k)), none] [] ν
        refine pw_aload_n dX6_set_56 rfl ?_
        refine ps_getr (r := 228) dX6_set_57 kf_X6_7 (by decide) (by decide +kernel) ?_
        refine pw_iload_n dX6_set_60 rfl ?_
        refine ps_iald (j := 1) (x := nI (na c 1)) dX6_set_61 rfl (ok_ar (n := 108) (by decide +kernel) (by decide)) (hr 1 (by decide)) ?_
        refine px_istore_n (ls' := [some (.ref 227), some (.int (nI 1)), some (.int (nI k)), some (.int (nI (na c 1)))]) dX6_set_62 rfl rfl (by decide) ?_
        refine pw_aload_n dX6_set_63 rfl ?_
        refine ps_getr (r := 228) dX6_set_64 kf_X6_7 (by decide) (by decide +kernel) ?_
        refine pw_iload_n dX6_set_67 rfl ?_
        refine pw_iload_n dX6_set_68 rfl ?_
        refine ps_iast (j := 1) dX6_set_69 rfl (ok_ar (n := 108) (by decide +kernel) (by decide)) ?_
        refine pw_aload_n dX6_set_70 rfl ?_
        refine pw_iload_n dX6_set_71 rfl ?_
        have e9 : o_set c (nI 1) (nI k) = (nI (na c 1), cnow (crec c) (up1 (na c) 1 k)) := by
          unfold o_set
          rw [if_pos h1, hjn, hkn]
          exact if_pos h2
        rw [e9] at hf
        have r1 : RM (u2 ν 228 1 (nI k)) (up1 (na c) 1 k) := hr.up
        have f1 : KG (u2 ν 228 1 (nI k)) μ := hk.up (Or.inl rfl)
        refine ps_callV (b := 227) (As := [.int (nI (na c 1))]) (st := []) dX6_set_72 cv_X6_78 rfl ⟨by decide, by decide +kernel⟩ (Nat.le_of_ble_eq_true rfl) (Nat.le_of_ble_eq_true rfl) ?_
        refine m_record (a := na c) (hx.2.1.off f1) (fun k hk => by repeat (first | rw [u2_a (by decide)]); exact hb k hk) ?_
        intro ρ r2 r3
        exact ps_iret dX6_set_75 rfl (rfl) (hf ρ (hx.rec f1 r1 r2 r3) (f1.sx r3))
      · have h2 := kb_eq0.mp h9
        refine pw_ldc dX6_set_49 kc_X6_74 ?_
        have e9 : o_set c (nI 1) w = ((-100002), c) := by
          unfold o_set
          rw [if_pos h1, hjn]
          exact if_neg h2
        rw [e9] at hf
        exact ps_iret dX6_set_51 rfl (rfl) (hf _ hx SX.rfl)
    · refine pw_iload_n dX6_set_10 rfl ?_
      refine pw_i2l dX6_set_11 rfl ?_
      refine pw_iload_n dX6_set_12 rfl ?_
      refine pw_iconst_ (v := nI 2) dX6_set_13 (by decide) ?_
      refine pn_ne (tgt := 21) dX6_set_14 (by decide) (by omega) (by omega) (fun h9 => absurd h9 (by decide)) (fun _ => ?_)
      refine pw_iconst_ (v := nI 1) dX6_set_17 (by decide) ?_
      refine pw_goto (tgt := 22) dX6_set_18 (by decide) ?_
      refine pw_iload_n dX6_set_22 rfl ?_
      refine pw_if_ne (tgt := 31) dX6_set_23 (by decide) (fun _ => ?_) (fun h9 => absurd h9 (by decide))
      refine pw_iload_n dX6_set_31 rfl ?_
      refine pw_iconst_ (v := nI 1) dX6_set_32 (by decide) ?_
      refine pn_ne (tgt := 42) dX6_set_33 (by decide) (by omega) (by omega) (fun _ => ?_) (fun h9 => absurd h9 (by decide))
      refine pw_iconst_ (v := nI 5) dX6_set_42 (by decide) ?_
      refine ps_callS (As := [.long w.toInt64, .int (nI 1), .int (nI 5)]) (st := []) dX6_set_43 cs_X6_65 rfl (Nat.le_of_ble_eq_true rfl) (Nat.le_of_ble_eq_true rfl) ?_
      refine m_in ?_
      refine pw_if_ne (tgt := 52) dX6_set_46 (by decide) (fun h9 => ?_) (fun h9 => ?_)
      · have h2 := kb_ne0.mp h9
        obtain ⟨k, hk1, hk2, rfl⟩ := rg_in (lo := 1) (hi := 5) (by decide) (by decide) h2
        have hkn : iN (nI k) = k := iN_nI (by omega)
        refine pw_aload_n dX6_set_52 rfl ?_
        refine ps_callV (b := 227) (As := []) (st := []) dX6_set_53 cv_X6_75 rfl ⟨by decide, by decide +kernel⟩ (Nat.le_of_ble_eq_true rfl) (Nat.le_of_ble_eq_true rfl) ?_
        refine m_remember ?_
        intro ν n1 n2
        have hb : ∀ k, k < 108 → ν 230 k = nI (na c k) := fun k hk => (n1 k hk).trans (hx.1 k hk)
        have hr : RM ν (na c) := fun k hk => (n2 _ _ (by decide)).trans (hx.1 k hk)
        have hk : KG ν μ := fun q k g => n2 q k (by omega)
        show PS l E D cA mX6_set (d + 4) fin 56 [some (.ref 227), some (.int (nI 2)), some (.int (nI k)), none] [] ν
        refine pw_aload_n dX6_set_56 rfl ?_
        refine ps_getr (r := 228) dX6_set_57 kf_X6_7 (by decide) (by decide +kernel) ?_
        refine pw_iload_n dX6_set_60 rfl ?_
        refine ps_iald (j := 2) (x := nI (na c 2)) dX6_set_61 rfl (ok_ar (n := 108) (by decide +kernel) (by decide)) (hr 2 (by decide)) ?_
        refine px_istore_n (ls' := [some (.ref 227), some (.int (nI 2)), some (.int (nI k)), some (.int (nI (na c 2)))]) dX6_set_62 rfl rfl (by decide) ?_
        refine pw_aload_n dX6_set_63 rfl ?_
        refine ps_getr (r := 228) dX6_set_64 kf_X6_7 (by decide) (by decide +kernel) ?_
        refine pw_iload_n dX6_set_67 rfl ?_
        refine pw_iload_n dX6_set_68 rfl ?_
        refine ps_iast (j := 2) dX6_set_69 rfl (ok_ar (n := 108) (by decide +kernel) (by decide)) ?_
        refine pw_aload_n dX6_set_70 rfl ?_
        refine pw_iload_n dX6_set_71 rfl ?_
        have e9 : o_set c (nI 2) (nI k) = (nI (na c 2), cnow (crec c) (up1 (na c) 2 k)) := by
          unfold o_set
          rw [if_pos h1, hjn, hkn]
          exact if_pos h2
        rw [e9] at hf
        have r1 : RM (u2 ν 228 2 (nI k)) (up1 (na c) 2 k) := hr.up
        have f1 : KG (u2 ν 228 2 (nI k)) μ := hk.up (Or.inl rfl)
        refine ps_callV (b := 227) (As := [.int (nI (na c 2))]) (st := []) dX6_set_72 cv_X6_78 rfl ⟨by decide, by decide +kernel⟩ (Nat.le_of_ble_eq_true rfl) (Nat.le_of_ble_eq_true rfl) ?_
        refine m_record (a := na c) (hx.2.1.off f1) (fun k hk => by repeat (first | rw [u2_a (by decide)]); exact hb k hk) ?_
        intro ρ r2 r3
        exact ps_iret dX6_set_75 rfl (rfl) (hf ρ (hx.rec f1 r1 r2 r3) (f1.sx r3))
      · have h2 := kb_eq0.mp h9
        refine pw_ldc dX6_set_49 kc_X6_74 ?_
        have e9 : o_set c (nI 2) w = ((-100002), c) := by
          unfold o_set
          rw [if_pos h1, hjn]
          exact if_neg h2
        rw [e9] at hf
        exact ps_iret dX6_set_51 rfl (rfl) (hf _ hx SX.rfl)
set_option maxRecDepth 100000 in
set_option maxHeartbeats 4000000 in
theorem m_start {c : CS} (hw : CW c) (hx : MX μ c) {v w : Int32} (hf : ∀ ν : Mu, MX ν (o_start c v w).2 → SX ν μ → fin (some (.int (o_start c v w).1)) ν) : PS l E D cA mX6_start (d + 4) fin 0 [some (.ref 227), some (.int v), some (.int w), none] [] μ := by
  have hq := hx
  refine pw_aload_n dX6_start_0 rfl ?_
  refine pw_iload_n dX6_start_1 rfl ?_
  refine ps_callV (b := 227) (As := [.int v]) (st := []) dX6_start_2 cv_X6_167 rfl ⟨by decide, by decide +kernel⟩ (Nat.le_of_ble_eq_true rfl) (Nat.le_of_ble_eq_true rfl) ?_
  refine m_isTeam (hx.1 3 (by decide)) ?_
  refine pw_if_ne (tgt := 11) dX6_start_5 (by decide) (fun h9 => ?_) (fun h9 => ?_)
  · have h1 := kb_ne0.mp h9
    obtain ⟨t, ht, rfl⟩ := (rg_nat (by have := hw.1.t6; omega)).mp h1
    have t6 : t < 6 := Nat.lt_of_lt_of_le ht hw.1.t6
    have htn : iN (nI t) = t := iN_nI (by omega)
    refine pw_iload_n dX6_start_11 rfl ?_
    refine pw_i2l dX6_start_12 rfl ?_
    refine pw_iconst_ (v := nI 0) dX6_start_13 (by decide) ?_
    refine pw_sipush (v := nI 200) dX6_start_14 (by decide) ?_
    refine ps_callS (As := [.long w.toInt64, .int (nI 0), .int (nI 200)]) (st := []) dX6_start_17 cs_X6_65 rfl (Nat.le_of_ble_eq_true rfl) (Nat.le_of_ble_eq_true rfl) ?_
    refine m_in ?_
    refine pw_if_ne (tgt := 26) dX6_start_20 (by decide) (fun h9 => ?_) (fun h9 => ?_)
    · have h2 := kb_ne0.mp h9
      obtain ⟨k, hk1, rfl⟩ := (rg_to (by decide)).mp h2
      refine pw_aload_n dX6_start_26 rfl ?_
      refine ps_callV (b := 227) (As := []) (st := []) dX6_start_27 cv_X6_75 rfl ⟨by decide, by decide +kernel⟩ (Nat.le_of_ble_eq_true rfl) (Nat.le_of_ble_eq_true rfl) ?_
      refine m_remember ?_
      intro ν n1 n2
      have hb : ∀ k, k < 108 → ν 230 k = nI (na c k) := fun k hk => (n1 k hk).trans (hx.1 k hk)
      have hr : RM ν (na c) := fun k hk => (n2 _ _ (by decide)).trans (hx.1 k hk)
      have hk : KG ν μ := fun q k g => n2 q k (by omega)
      show PS l E D cA mX6_start (d + 4) fin 30 [some (.ref 227), some (.int (nI t)), some (.int (nI k)), none] [] ν
      refine pw_aload_n dX6_start_30 rfl ?_
      refine pw_iload_n dX6_start_31 rfl ?_
      refine pw_iconst_ (v := nI 0) dX6_start_32 (by decide) ?_
      refine ps_callV (b := 227) (As := [.int (nI t), .int (nI 0)]) (st := []) dX6_start_33 cv_X6_85 rfl ⟨by decide, by decide +kernel⟩ (Nat.le_of_ble_eq_true rfl) (Nat.le_of_ble_eq_true rfl) ?_
      refine m_its (by omega) (hr (36 + 12 * t + 0) (by omega)) ?_
      refine px_istore_n (ls' := [some (.ref 227), some (.int (nI t)), some (.int (nI k)), some (.int (nI (na c (36 + 12 * t))))]) dX6_start_36 rfl rfl (by decide) ?_
      refine pw_aload_n dX6_start_37 rfl ?_
      refine pw_iload_n dX6_start_38 rfl ?_
      refine pw_iconst_ (v := nI 0) dX6_start_39 (by decide) ?_
      refine pw_iload_n dX6_start_40 rfl ?_
      refine ps_callV (b := 227) (As := [.int (nI t), .int (nI 0), .int (nI k)]) (st := []) dX6_start_41 cv_X6_151 rfl ⟨by decide, by decide +kernel⟩ (Nat.le_of_ble_eq_true rfl) (Nat.le_of_ble_eq_true rfl) ?_
      refine m_lay (by omega) ?_
      show PS l E D cA mX6_start (d + 4) fin 44 [some (.ref 227), some (.int (nI t)), some (.int (nI k)), some (.int (nI (na c (36 + 12 * t))))] [] (u2 ν 228 (36 + 12 * t) (nI k))
      refine pw_aload_n dX6_start_44 rfl ?_
      refine pw_iload_n dX6_start_45 rfl ?_
      have e9 : o_start c (nI t) (nI k) = (nI (na c (36 + 12 * t)), cnow (crec c) (up1 (na c) (36 + 12 * t) k)) := by
        unfold o_start
        rw [if_pos h1, htn, if_pos h2, iN_nI (by omega)]
      rw [e9] at hf
      have r1 : RM (u2 ν 228 (36 + 12 * t) (nI k)) (up1 (na c) (36 + 12 * t) k) := hr.up
      have f1 : KG (u2 ν 228 (36 + 12 * t) (nI k)) μ := hk.up (Or.inl rfl)
      refine ps_callV (b := 227) (As := [.int (nI (na c (36 + 12 * t)))]) (st := []) dX6_start_46 cv_X6_78 rfl ⟨by decide, by decide +kernel⟩ (Nat.le_of_ble_eq_true rfl) (Nat.le_of_ble_eq_true rfl) ?_
      refine m_record (a := na c) (hx.2.1.off f1) (fun k hk => by repeat (first | rw [u2_a (by decide)]); exact hb k hk) ?_
      intro ρ r2 r3
      exact ps_iret dX6_start_49 rfl (rfl) (hf ρ (hx.rec f1 r1 r2 r3) (f1.sx r3))
    · have h2 := kb_eq0.mp h9
      refine pw_ldc dX6_start_23 kc_X6_74 ?_
      have e9 : o_start c (nI t) w = ((-100002), c) := by
        unfold o_start
        rw [if_pos h1, if_neg h2]
      rw [e9] at hf
      exact ps_iret dX6_start_25 rfl (rfl) (hf _ hx SX.rfl)
  · have h1 := kb_eq0.mp h9
    refine pw_ldc dX6_start_8 kc_X6_144 ?_
    have e9 : o_start c v w = ((-100001), c) := by
      unfold o_start
      rw [if_neg h1]
    rw [e9] at hf
    exact ps_iret dX6_start_10 rfl (rfl) (hf _ hx SX.rfl)
set_option maxRecDepth 100000 in
set_option maxHeartbeats 4000000 in
theorem m_wipe {c : CS} (hw : CW c) (hx : MX μ c) (hf : ∀ ν : Mu, MX ν (o_wipe c).2 → SX ν μ → fin (some (.int (o_wipe c).1)) ν) : PS l E D cA mX6_wipe (d + 4) fin 0 [some (.ref 227), none] [] μ := by
  have hq := hx
  refine pw_aload_n dX6_wipe_0 rfl ?_
  refine ps_geti (x := nI (pL c)) dX6_wipe_1 kf_X6_155 (by decide) (by decide +kernel) (hx.2.2.2.1) ?_
  refine px_istore_n (ls' := [some (.ref 227), some (.int (nI (pL c)))]) dX6_wipe_4 rfl rfl (by decide) ?_
  refine pw_aload_n dX6_wipe_5 rfl ?_
  refine pw_iconst_ (v := nI 0) dX6_wipe_6 (by decide) ?_
  refine ps_puti dX6_wipe_7 kf_X6_155 (by decide) rfl (by decide +kernel) ?_
  refine pw_iload_n dX6_wipe_10 rfl ?_
  exact ps_iret dX6_wipe_11 rfl (rfl) (hf _ ⟨fun k hk => (u2_a (by decide)).trans (hx.1 k hk), ⟨hx.2.1.1, (u2_b (by decide)).trans hx.2.1.2.1, fun i k h1 h2 => (u2_a (by decide)).trans (hx.2.1.2.2 i k h1 h2)⟩, ⟨fun j hj => (u2_a (by decide)).trans (hx.2.2.1.1 j hj), fun j k hj hk e => (u2_a (by decide)).trans (hx.2.2.1.2 j k hj hk e)⟩, u2_s, Nat.zero_le _, fun k hk => absurd hk (Nat.not_lt_zero _)⟩ (fun q k g => u2_a (by omega)))
end MODB
