/-! the model: turn -/
theorem turn_iff {w : Int32} {n : Nat} (hn : n < 2 ^ 30) : (¬ w < nI 1 ∧ ¬ nI n - nI 1 < w) ↔ (¬ w < nI 1 ∧ w < nI n) := by
  have e : (nI n - nI 1).toInt = (n : Int) - 1 := pk_sub_toInt hn (by decide)
  rw [Int32.lt_iff_toInt_lt (x := nI n - nI 1), Int32.lt_iff_toInt_lt (x := w) (y := nI n), e, nI_toInt (by omega)]
  constructor
  · rintro ⟨h1, h2⟩
    exact ⟨h1, by omega⟩
  · rintro ⟨h1, h2⟩
    exact ⟨h1, by omega⟩
section MODG
variable {l : Launch} {E : EV} {D : va_G} {cA : Nat → ClassId} {fin : Option Value → Mu → Prop} {μ : Mu} {d : Nat}
set_option maxRecDepth 100000 in
set_option maxHeartbeats 4000000 in
theorem m_turn {c : CS} (hw : CW c) (hx : MX μ c) {v w : Int32} (hf : ∀ ν : Mu, MX ν (o_turn c v w).2 → SX ν μ → fin (some (.int (o_turn c v w).1)) ν) : PS l E D cA mX6_turn (d + 4) fin 0 [some (.ref 227), some (.int v), some (.int w)] [] μ := by
  have hq := hx
  refine pw_aload_n dX6_turn_0 rfl ?_
  refine pw_iload_n dX6_turn_1 rfl ?_
  refine ps_callV (b := 227) (As := [.int v]) (st := []) dX6_turn_2 cv_X6_167 rfl ⟨by decide, by decide +kernel⟩ (Nat.le_of_ble_eq_true rfl) (Nat.le_of_ble_eq_true rfl) ?_
  refine m_isTeam (hx.1 3 (by decide)) ?_
  refine pw_if_ne (tgt := 11) dX6_turn_5 (by decide) (fun h9 => ?_) (fun h9 => ?_)
  · have h1 := kb_ne0.mp h9
    obtain ⟨t, ht, rfl⟩ := (rg_nat (by have := hw.1.t6; omega)).mp h1
    have t6 : t < 6 := Nat.lt_of_lt_of_le ht hw.1.t6
    have htn : iN (nI t) = t := iN_nI (by omega)
    have hW := hw.1.tm ht
    have n8 := hW.2.2.2.1
    refine pw_iload_n dX6_turn_11 rfl ?_
    refine pw_i2l dX6_turn_12 rfl ?_
    refine pw_iconst_ (v := nI 1) dX6_turn_13 (by decide) ?_
    refine pw_aload_n dX6_turn_14 rfl ?_
    refine pw_iload_n dX6_turn_15 rfl ?_
    refine pw_iconst_ (v := nI 3) dX6_turn_16 (by decide) ?_
    refine ps_callV (b := 227) (As := [.int (nI t), .int (nI 3)]) (st := [.int (nI 1), .long w.toInt64]) dX6_turn_17 cv_X6_85 rfl ⟨by decide, by decide +kernel⟩ (Nat.le_of_ble_eq_true rfl) (Nat.le_of_ble_eq_true rfl) ?_
    refine m_its (t := t) (w := 3) (by omega) ((hx.1 _ (by omega)).trans (by rw [show 36 + 12 * t + 3 = 39 + 12 * t by omega])) ?_
    refine pw_iconst_ (v := nI 1) dX6_turn_20 (by decide) ?_
    refine pw_isub dX6_turn_21 ?_
    refine ps_callS (As := [.long w.toInt64, .int (nI 1), .int ((nI (na c (39 + 12 * t))) - (nI 1))]) (st := []) dX6_turn_22 cs_X6_65 rfl (Nat.le_of_ble_eq_true rfl) (Nat.le_of_ble_eq_true rfl) ?_
    refine m_in ?_
    refine pw_if_ne (tgt := 31) dX6_turn_25 (by decide) (fun h9 => ?_) (fun h9 => ?_)
    · have h2 := kb_ne0.mp h9
      rw [turn_iff (by omega)] at h2
      obtain ⟨b, hb1, hb2, rfl⟩ := rg_lt (by decide) (by omega) h2.1 h2.2
      have hbn : iN (nI b) = b := iN_nI (by omega)
      refine pw_aload_n dX6_turn_31 rfl ?_
      refine ps_callV (b := 227) (As := []) (st := []) dX6_turn_32 cv_X6_75 rfl ⟨by decide, by decide +kernel⟩ (Nat.le_of_ble_eq_true rfl) (Nat.le_of_ble_eq_true rfl) ?_
      refine m_remember ?_
      intro ν n1 n2
      have hb : ∀ k, k < 108 → ν 230 k = nI (na c k) := fun k hk => (n1 k hk).trans (hx.1 k hk)
      have hr : RM ν (na c) := fun k hk => (n2 _ _ (by decide)).trans (hx.1 k hk)
      have hk : KG ν μ := fun q k g => n2 q k (by omega)
      show PS l E D cA mX6_turn (d + 4) fin 35 [some (.ref 227), some (.int (nI t)), some (.int (nI b))] [] ν
      refine pw_aload_n dX6_turn_35 rfl ?_
      refine pw_iload_n dX6_turn_36 rfl ?_
      refine pw_iload_n dX6_turn_37 rfl ?_
      refine ps_callV (b := 227) (As := [.int (nI t), .int (nI b)]) (st := []) dX6_turn_38 cv_X6_173 rfl ⟨by decide, by decide +kernel⟩ (Nat.le_of_ble_eq_true rfl) (Nat.le_of_ble_eq_true rfl) ?_
      refine m_turned hw.1 ht hr (by omega) ?_
      intro κ k1 k2
      show PS l E D cA mX6_turn (d + 4) fin 41 [some (.ref 227), some (.int (nI t)), some (.int (nI b))] [] κ
      refine pw_aload_n dX6_turn_41 rfl ?_
      refine pw_aload_n dX6_turn_42 rfl ?_
      refine pw_iload_n dX6_turn_43 rfl ?_
      refine pw_iconst_ (v := nI 4) dX6_turn_44 (by decide) ?_
      refine ps_callV (b := 227) (As := [.int (nI t), .int (nI 4)]) (st := [.ref 227]) dX6_turn_45 cv_X6_85 rfl ⟨by decide, by decide +kernel⟩ (Nat.le_of_ble_eq_true rfl) (Nat.le_of_ble_eq_true rfl) ?_
      refine m_its (t := t) (w := 4) (by omega) (k1 _ (by omega)) ?_
      rw [show 36 + 12 * t + 4 = 40 + 12 * t by omega]
      have e9 : o_turn c (nI t) (nI b) = (nI (trn (na c) t b (40 + 12 * t)), cnow (crec c) (trn (na c) t b)) := by
        unfold o_turn
        rw [if_pos h1, htn, if_pos h2, hbn]
      rw [e9] at hf
      have r1 : RM (κ) (trn (na c) t b) := k1
      have f1 : KG (κ) μ := fun q k g => (k2 q k (by omega) (by omega)).trans (hk q k g)
      refine ps_callV (b := 227) (As := [.int (nI (trn (na c) t b (40 + 12 * t)))]) (st := []) dX6_turn_48 cv_X6_78 rfl ⟨by decide, by decide +kernel⟩ (Nat.le_of_ble_eq_true rfl) (Nat.le_of_ble_eq_true rfl) ?_
      refine m_record (a := na c) (hx.2.1.off f1) (fun k hk => (k2 _ _ (by decide) (by decide)).trans (hb k hk)) ?_
      intro ρ r2 r3
      exact ps_iret dX6_turn_51 rfl (rfl) (hf ρ (hx.rec f1 r1 r2 r3) (f1.sx r3))
    · have h2 := kb_eq0.mp h9
      rw [turn_iff (by omega)] at h2
      refine pw_ldc dX6_turn_28 kc_X6_74 ?_
      have e9 : o_turn c (nI t) w = ((-100002), c) := by
        unfold o_turn
        rw [if_pos h1, htn, if_neg h2]
      rw [e9] at hf
      exact ps_iret dX6_turn_30 rfl (rfl) (hf _ hx SX.rfl)
  · have h1 := kb_eq0.mp h9
    refine pw_ldc dX6_turn_8 kc_X6_144 ?_
    have e9 : o_turn c v w = ((-100001), c) := by
      unfold o_turn
      rw [if_neg h1]
    rw [e9] at hf
    exact ps_iret dX6_turn_10 rfl (rfl) (hf _ hx SX.rfl)
end MODG
