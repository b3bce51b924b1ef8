/-! the model: route, hint, lose, exchange -/
theorem lose_iff {w : Int32} : (¬ w < -1 ∧ ¬ nI 7 < w) ↔ (w = -1 ∨ inR w 7) := by
  unfold inR
  rw [Int32.lt_iff_toInt_lt, Int32.lt_iff_toInt_lt, Int32.lt_iff_toInt_lt, nI_toInt (by decide), nI_toInt (by decide), show (-1 : Int32).toInt = -1 by decide, ← Int32.toInt_inj, show (-1 : Int32).toInt = -1 by decide]
  omega
theorem lay_w {v : Nat} {w : Int32} (h : w = nI v - nI 1) : w + nI 1 = nI v := by rw [h, Int32.sub_add_cancel]
section MODT
variable {l : Launch} {E : EV} {D : va_G} {cA : Nat → ClassId} {fin : Option Value → Mu → Prop} {μ : Mu} {d : Nat}
set_option maxRecDepth 100000 in
set_option maxHeartbeats 4000000 in
theorem m_hint {c : CS} (hw : CW c) (hx : MX μ c) {v w z : Int32} (hz01 : z = nI 0 ∨ z = nI 1) (hf : ∀ ν : Mu, MX ν (o_hint c v w z).2 → SX ν μ → fin (some (.int (o_hint c v w z).1)) ν) : PS l E D cA mX6_hint (d + 6) fin 0 [some (.ref 227), some (.int v), some (.int w), some (.int z)] [] μ := by
  have hq := hx
  refine pw_aload_n dX6_hint_0 rfl ?_
  refine pw_iload_n dX6_hint_1 rfl ?_
  refine ps_callV (b := 227) (As := [.int v]) (st := []) dX6_hint_2 cv_X6_167 rfl ⟨by decide, by decide +kernel⟩ (Nat.le_of_ble_eq_true rfl) (Nat.le_of_ble_eq_true rfl) ?_
  refine m_isTeam (hx.1 3 (by decide)) ?_
  refine pw_if_eq (tgt := 15) dX6_hint_5 (by decide) (fun h9 => ?_) (fun h9 => ?_)
  · have h1 := kb_eq0.mp h9
    refine pw_ldc dX6_hint_15 kc_X6_144 ?_
    have e9 : o_hint c v w z = ((-100001), c) := by
      unfold o_hint
      rw [if_neg h1]
    rw [e9] at hf
    exact ps_iret dX6_hint_17 rfl (rfl) (hf _ hx SX.rfl)
  · have h1 := kb_ne0.mp h9
    obtain ⟨t, ht, rfl⟩ := (rg_nat (by have := hw.1.t6; omega)).mp h1
    have t6 : t < 6 := Nat.lt_of_lt_of_le ht hw.1.t6
    have htn : iN (nI t) = t := iN_nI (by omega)
    refine pw_iload_n dX6_hint_8 rfl ?_
    refine ps_callS (As := [.int w]) (st := []) dX6_hint_9 cs_X6_141 rfl (Nat.le_of_ble_eq_true rfl) (Nat.le_of_ble_eq_true rfl) ?_
    refine m_isPlace ?_
    refine pw_if_ne (tgt := 18) dX6_hint_12 (by decide) (fun h9 => ?_) (fun h9 => ?_)
    · have h2 := kb_ne0.mp h9
      obtain ⟨p, hp, rfl⟩ := (rg_to (by decide)).mp h2
      have hp8 : p < 8 := by omega
      have hpn : iN (nI p) = p := iN_nI (by omega)
      have hW := hw.1.tm ht
      obtain ⟨m, hm⟩ : ∃ m, m = na c (37 + 12 * t) := ⟨_, rfl⟩
      have hW2 := hW.2.1
      rw [← hm] at hW2
      have hkb : kb (na c (37 + 12 * t) / 2 ^ p % 2 = 1) = nI (m / 2 ^ p % 2) := by
        rw [← hm]
        rcases bit_01 m p with h | h <;> rw [h] <;> decide
      rcases hz01 with rfl | rfl
      · refine pw_aload_n dX6_hint_18 rfl ?_
        refine pw_iload_n dX6_hint_19 rfl ?_
        refine pw_iconst_ (v := nI 1) dX6_hint_20 (by decide) ?_
        refine ps_callV (b := 227) (As := [.int (nI t), .int (nI 1)]) (st := []) dX6_hint_21 cv_X6_85 rfl ⟨by decide, by decide +kernel⟩ (Nat.le_of_ble_eq_true rfl) (Nat.le_of_ble_eq_true rfl) ?_
        refine m_its (t := t) (w := 1) (by omega) ((hx.1 _ (by omega)).trans (by rw [show 36 + 12 * t + 1 = 37 + 12 * t by omega, ← hm])) ?_
        show PS l E D cA mX6_hint (d + 6) fin 24 [some (.ref 227), some (.int (nI t)), some (.int (nI p)), some (.int (nI 0))] [.int (nI m)] μ
        refine pw_iload_n dX6_hint_24 rfl ?_
        refine pw_ishr dX6_hint_25 ?_
        refine pw_iconst_ (v := nI 1) dX6_hint_26 (by decide) ?_
        refine pw_iand dX6_hint_27 ?_
        rw [bit_shr _ hW2 p hp8]
        refine pw_iload_n dX6_hint_28 rfl ?_
        refine pw_if_eq (tgt := 36) dX6_hint_29 (by decide) (fun _ => ?_) (fun h9 => absurd (by decide) h9)
        refine pw_iconst_ (v := nI 0) dX6_hint_36 (by decide) ?_
        refine pn_ne (tgt := 43) dX6_hint_37 (by decide) (by omega) (by omega) (fun h3 => ?_) (fun h3 => ?_)
        · refine pw_aload_n dX6_hint_43 rfl ?_
          refine ps_callV (b := 227) (As := []) (st := []) dX6_hint_44 cv_X6_75 rfl ⟨by decide, by decide +kernel⟩ (Nat.le_of_ble_eq_true rfl) (Nat.le_of_ble_eq_true rfl) ?_
          refine m_remember ?_
          intro ν n1 n2
          have hb : ∀ k, k < 108 → ν 230 k = nI (na c k) := fun k hk => (n1 k hk).trans (hx.1 k hk)
          have hr : RM ν (na c) := fun k hk => (n2 _ _ (by decide)).trans (hx.1 k hk)
          have hk : KG ν μ := fun q k g => n2 q k (by omega)
          show PS l E D cA mX6_hint (d + 6) fin 47 [some (.ref 227), some (.int (nI t)), some (.int (nI p)), some (.int (nI 0))] [] ν
          refine pw_aload_n dX6_hint_47 rfl ?_
          refine pw_iload_n dX6_hint_48 rfl ?_
          refine pw_iconst_ (v := nI 1) dX6_hint_49 (by decide) ?_
          refine pw_aload_n dX6_hint_50 rfl ?_
          refine pw_iload_n dX6_hint_51 rfl ?_
          refine pw_iconst_ (v := nI 1) dX6_hint_52 (by decide) ?_
          refine ps_callV (b := 227) (As := [.int (nI t), .int (nI 1)]) (st := [.int (nI 1), .int (nI t), .ref 227]) dX6_hint_53 cv_X6_85 rfl ⟨by decide, by decide +kernel⟩ (Nat.le_of_ble_eq_true rfl) (Nat.le_of_ble_eq_true rfl) ?_
          refine m_its (t := t) (w := 1) (by omega) ((hr _ (by omega)).trans (by rw [show 36 + 12 * t + 1 = 37 + 12 * t by omega, ← hm])) ?_
          show PS l E D cA mX6_hint (d + 6) fin 56 [some (.ref 227), some (.int (nI t)), some (.int (nI p)), some (.int (nI 0))] [.int (nI m), .int (nI 1), .int (nI t), .ref 227] ν
          refine pw_iconst_ (v := nI 1) dX6_hint_56 (by decide) ?_
          refine pw_iload_n dX6_hint_57 rfl ?_
          refine pw_ishl dX6_hint_58 ?_
          refine pw_ixor dX6_hint_59 ?_
          rw [(bit_xor _ hW2 p hp8).1]
          refine ps_callV (b := 227) (As := [.int (nI t), .int (nI 1), .int (nI (m ^^^ 2 ^ p))]) (st := []) dX6_hint_60 cv_X6_151 rfl ⟨by decide, by decide +kernel⟩ (Nat.le_of_ble_eq_true rfl) (Nat.le_of_ble_eq_true rfl) ?_
          refine m_lay (t := t) (w := 1) (by omega) ?_
          rw [show 36 + 12 * t + 1 = 37 + 12 * t by omega]
          show PS l E D cA mX6_hint (d + 6) fin 63 [some (.ref 227), some (.int (nI t)), some (.int (nI p)), some (.int (nI 0))] [] (u2 ν 228 (37 + 12 * t) (nI (m ^^^ 2 ^ p)))
          have wfb : Wf (up1 (na c) (37 + 12 * t) (m ^^^ 2 ^ p)) := wf_team hw.1 ht (Or.inr (Or.inl ⟨(bit_xor _ hW2 p hp8).2, rfl⟩))
          have htb : t < (up1 (na c) (37 + 12 * t) (m ^^^ 2 ^ p)) 3 := by rw [up1_n (by omega)]; exact ht
          have r1 : RM (u2 ν 228 (37 + 12 * t) (nI (m ^^^ 2 ^ p))) (up1 (na c) (37 + 12 * t) (m ^^^ 2 ^ p)) := hr.up
          have f1 : KG (u2 ν 228 (37 + 12 * t) (nI (m ^^^ 2 ^ p))) μ := hk.up (Or.inl rfl)
          have hb2 : ∀ k, k < 108 → (u2 ν 228 (37 + 12 * t) (nI (m ^^^ 2 ^ p))) 230 k = nI (na c k) := fun k hk => (u2_a (by decide)).trans (hb k hk)
          refine pw_aload_n dX6_hint_63 rfl ?_
          refine pw_aload_n dX6_hint_64 rfl ?_
          refine pw_iload_n dX6_hint_65 rfl ?_
          refine ps_callV (b := 227) (As := [.int (nI t)]) (st := [.ref 227]) dX6_hint_66 cv_X6_170 rfl ⟨by decide, by decide +kernel⟩ (Nat.le_of_ble_eq_true rfl) (Nat.le_of_ble_eq_true rfl) ?_
          refine m_endOf (a := up1 (na c) (37 + 12 * t) (m ^^^ 2 ^ p)) wfb htb r1 (fun κ p1 p2 => ?_)
          show PS l E D cA mX6_hint (d + 6) fin 69 [some (.ref 227), some (.int (nI t)), some (.int (nI p)), some (.int (nI 0))] [.int (nI (edA (up1 (na c) (37 + 12 * t) (m ^^^ 2 ^ p)) t)), .ref 227] κ
          have e9 : o_hint c (nI t) (nI p) (nI 0) = (nI (edA (up1 (na c) (37 + 12 * t) (m ^^^ 2 ^ p)) t), cnow (crec c) (up1 (na c) (37 + 12 * t) (m ^^^ 2 ^ p))) := by
            unfold o_hint
            rw [if_pos h1, if_pos h2, htn, hpn, hkb, if_neg (fun q => h3 ((nI_eq (by omega) (by decide)).mp q)), hm]
          rw [e9] at hf
          have r1 : RM (κ) (up1 (na c) (37 + 12 * t) (m ^^^ 2 ^ p)) := p2.rm r1
          have f1 : KG (κ) μ := p2.kg.tr f1
          refine ps_callV (b := 227) (As := [.int (nI (edA (up1 (na c) (37 + 12 * t) (m ^^^ 2 ^ p)) t))]) (st := []) dX6_hint_69 cv_X6_78 rfl ⟨by decide, by decide +kernel⟩ (Nat.le_of_ble_eq_true rfl) (Nat.le_of_ble_eq_true rfl) ?_
          refine m_record (a := na c) (hx.2.1.off f1) (fun k hk => (p2 _ _ (by decide) (by omega)).trans (hb2 k hk)) ?_
          intro ρ r2 r3
          exact ps_iret dX6_hint_72 rfl (rfl) (hf ρ (hx.rec f1 r1 r2 r3) (f1.sx r3))
        · refine pw_ldc dX6_hint_40 kc_X6_73 ?_
          have e9 : o_hint c (nI t) (nI p) (nI 0) = ((-100005), c) := by
            unfold o_hint
            rw [if_pos h1, if_pos h2, htn, hpn, hkb, if_pos (by rw [h3])]
          rw [e9] at hf
          exact ps_iret dX6_hint_42 rfl (rfl) (hf _ hx SX.rfl)
      · refine pw_aload_n dX6_hint_18 rfl ?_
        refine pw_iload_n dX6_hint_19 rfl ?_
        refine pw_iconst_ (v := nI 1) dX6_hint_20 (by decide) ?_
        refine ps_callV (b := 227) (As := [.int (nI t), .int (nI 1)]) (st := []) dX6_hint_21 cv_X6_85 rfl ⟨by decide, by decide +kernel⟩ (Nat.le_of_ble_eq_true rfl) (Nat.le_of_ble_eq_true rfl) ?_
        refine m_its (t := t) (w := 1) (by omega) ((hx.1 _ (by omega)).trans (by rw [show 36 + 12 * t + 1 = 37 + 12 * t by omega, ← hm])) ?_
        show PS l E D cA mX6_hint (d + 6) fin 24 [some (.ref 227), some (.int (nI t)), some (.int (nI p)), some (.int (nI 1))] [.int (nI m)] μ
        refine pw_iload_n dX6_hint_24 rfl ?_
        refine pw_ishr dX6_hint_25 ?_
        refine pw_iconst_ (v := nI 1) dX6_hint_26 (by decide) ?_
        refine pw_iand dX6_hint_27 ?_
        rw [bit_shr _ hW2 p hp8]
        refine pw_iload_n dX6_hint_28 rfl ?_
        refine pw_if_eq (tgt := 36) dX6_hint_29 (by decide) (fun h9 => absurd h9 (by decide)) (fun _ => ?_)
        refine pw_iconst_ (v := nI 1) dX6_hint_32 (by decide) ?_
        refine pw_goto (tgt := 37) dX6_hint_33 (by decide) ?_
        refine pn_ne (tgt := 43) dX6_hint_37 (by decide) (by omega) (by omega) (fun h3 => ?_) (fun h3 => ?_)
        · refine pw_aload_n dX6_hint_43 rfl ?_
          refine ps_callV (b := 227) (As := []) (st := []) dX6_hint_44 cv_X6_75 rfl ⟨by decide, by decide +kernel⟩ (Nat.le_of_ble_eq_true rfl) (Nat.le_of_ble_eq_true rfl) ?_
          refine m_remember ?_
          intro ν n1 n2
          have hb : ∀ k, k < 108 → ν 230 k = nI (na c k) := fun k hk => (n1 k hk).trans (hx.1 k hk)
          have hr : RM ν (na c) := fun k hk => (n2 _ _ (by decide)).trans (hx.1 k hk)
          have hk : KG ν μ := fun q k g => n2 q k (by omega)
          show PS l E D cA mX6_hint (d + 6) fin 47 [some (.ref 227), some (.int (nI t)), some (.int (nI p)), some (.int (nI 1))] [] ν
          refine pw_aload_n dX6_hint_47 rfl ?_
          refine pw_iload_n dX6_hint_48 rfl ?_
          refine pw_iconst_ (v := nI 1) dX6_hint_49 (by decide) ?_
          refine pw_aload_n dX6_hint_50 rfl ?_
          refine pw_iload_n dX6_hint_51 rfl ?_
          refine pw_iconst_ (v := nI 1) dX6_hint_52 (by decide) ?_
          refine ps_callV (b := 227) (As := [.int (nI t), .int (nI 1)]) (st := [.int (nI 1), .int (nI t), .ref 227]) dX6_hint_53 cv_X6_85 rfl ⟨by decide, by decide +kernel⟩ (Nat.le_of_ble_eq_true rfl) (Nat.le_of_ble_eq_true rfl) ?_
          refine m_its (t := t) (w := 1) (by omega) ((hr _ (by omega)).trans (by rw [show 36 + 12 * t + 1 = 37 + 12 * t by omega, ← hm])) ?_
          show PS l E D cA mX6_hint (d + 6) fin 56 [some (.ref 227), some (.int (nI t)), some (.int (nI p)), some (.int (nI 1))] [.int (nI m), .int (nI 1), .int (nI t), .ref 227] ν
          refine pw_iconst_ (v := nI 1) dX6_hint_56 (by decide) ?_
          refine pw_iload_n dX6_hint_57 rfl ?_
          refine pw_ishl dX6_hint_58 ?_
          refine pw_ixor dX6_hint_59 ?_
          rw [(bit_xor _ hW2 p hp8).1]
          refine ps_callV (b := 227) (As := [.int (nI t), .int (nI 1), .int (nI (m ^^^ 2 ^ p))]) (st := []) dX6_hint_60 cv_X6_151 rfl ⟨by decide, by decide +kernel⟩ (Nat.le_of_ble_eq_true rfl) (Nat.le_of_ble_eq_true rfl) ?_
          refine m_lay (t := t) (w := 1) (by omega) ?_
          rw [show 36 + 12 * t + 1 = 37 + 12 * t by omega]
          show PS l E D cA mX6_hint (d + 6) fin 63 [some (.ref 227), some (.int (nI t)), some (.int (nI p)), some (.int (nI 1))] [] (u2 ν 228 (37 + 12 * t) (nI (m ^^^ 2 ^ p)))
          have wfb : Wf (up1 (na c) (37 + 12 * t) (m ^^^ 2 ^ p)) := wf_team hw.1 ht (Or.inr (Or.inl ⟨(bit_xor _ hW2 p hp8).2, rfl⟩))
          have htb : t < (up1 (na c) (37 + 12 * t) (m ^^^ 2 ^ p)) 3 := by rw [up1_n (by omega)]; exact ht
          have r1 : RM (u2 ν 228 (37 + 12 * t) (nI (m ^^^ 2 ^ p))) (up1 (na c) (37 + 12 * t) (m ^^^ 2 ^ p)) := hr.up
          have f1 : KG (u2 ν 228 (37 + 12 * t) (nI (m ^^^ 2 ^ p))) μ := hk.up (Or.inl rfl)
          have hb2 : ∀ k, k < 108 → (u2 ν 228 (37 + 12 * t) (nI (m ^^^ 2 ^ p))) 230 k = nI (na c k) := fun k hk => (u2_a (by decide)).trans (hb k hk)
          refine pw_aload_n dX6_hint_63 rfl ?_
          refine pw_aload_n dX6_hint_64 rfl ?_
          refine pw_iload_n dX6_hint_65 rfl ?_
          refine ps_callV (b := 227) (As := [.int (nI t)]) (st := [.ref 227]) dX6_hint_66 cv_X6_170 rfl ⟨by decide, by decide +kernel⟩ (Nat.le_of_ble_eq_true rfl) (Nat.le_of_ble_eq_true rfl) ?_
          refine m_endOf (a := up1 (na c) (37 + 12 * t) (m ^^^ 2 ^ p)) wfb htb r1 (fun κ p1 p2 => ?_)
          show PS l E D cA mX6_hint (d + 6) fin 69 [some (.ref 227), some (.int (nI t)), some (.int (nI p)), some (.int (nI 1))] [.int (nI (edA (up1 (na c) (37 + 12 * t) (m ^^^ 2 ^ p)) t)), .ref 227] κ
          have e9 : o_hint c (nI t) (nI p) (nI 1) = (nI (edA (up1 (na c) (37 + 12 * t) (m ^^^ 2 ^ p)) t), cnow (crec c) (up1 (na c) (37 + 12 * t) (m ^^^ 2 ^ p))) := by
            unfold o_hint
            rw [if_pos h1, if_pos h2, htn, hpn, hkb, if_neg (fun q => h3 ((nI_eq (by omega) (by decide)).mp q)), hm]
          rw [e9] at hf
          have r1 : RM (κ) (up1 (na c) (37 + 12 * t) (m ^^^ 2 ^ p)) := p2.rm r1
          have f1 : KG (κ) μ := p2.kg.tr f1
          refine ps_callV (b := 227) (As := [.int (nI (edA (up1 (na c) (37 + 12 * t) (m ^^^ 2 ^ p)) t))]) (st := []) dX6_hint_69 cv_X6_78 rfl ⟨by decide, by decide +kernel⟩ (Nat.le_of_ble_eq_true rfl) (Nat.le_of_ble_eq_true rfl) ?_
          refine m_record (a := na c) (hx.2.1.off f1) (fun k hk => (p2 _ _ (by decide) (by omega)).trans (hb2 k hk)) ?_
          intro ρ r2 r3
          exact ps_iret dX6_hint_72 rfl (rfl) (hf ρ (hx.rec f1 r1 r2 r3) (f1.sx r3))
        · refine pw_ldc dX6_hint_40 kc_X6_73 ?_
          have e9 : o_hint c (nI t) (nI p) (nI 1) = ((-100005), c) := by
            unfold o_hint
            rw [if_pos h1, if_pos h2, htn, hpn, hkb, if_pos (by rw [h3])]
          rw [e9] at hf
          exact ps_iret dX6_hint_42 rfl (rfl) (hf _ hx SX.rfl)
    · have h2 := kb_eq0.mp h9
      refine pw_ldc dX6_hint_15 kc_X6_144 ?_
      have e9 : o_hint c (nI t) w z = ((-100001), c) := by
        unfold o_hint
        rw [if_pos h1, if_neg h2]
      rw [e9] at hf
      exact ps_iret dX6_hint_17 rfl (rfl) (hf _ hx SX.rfl)
set_option maxRecDepth 100000 in
set_option maxHeartbeats 4000000 in
theorem m_lose {c : CS} (hw : CW c) (hx : MX μ c) {v w : Int32} (hf : ∀ ν : Mu, MX ν (o_lose c v w).2 → SX ν μ → fin (some (.int (o_lose c v w).1)) ν) : PS l E D cA mX6_lose (d + 6) fin 0 [some (.ref 227), some (.int v), some (.int w)] [] μ := by
  have hq := hx
  refine pw_aload_n dX6_lose_0 rfl ?_
  refine pw_iload_n dX6_lose_1 rfl ?_
  refine ps_callV (b := 227) (As := [.int v]) (st := []) dX6_lose_2 cv_X6_167 rfl ⟨by decide, by decide +kernel⟩ (Nat.le_of_ble_eq_true rfl) (Nat.le_of_ble_eq_true rfl) ?_
  refine m_isTeam (hx.1 3 (by decide)) ?_
  refine pw_if_eq (tgt := 19) dX6_lose_5 (by decide) (fun h9 => ?_) (fun h9 => ?_)
  · have h1 := kb_eq0.mp h9
    refine pw_ldc dX6_lose_19 kc_X6_144 ?_
    have e9 : o_lose c v w = ((-100001), c) := by
      unfold o_lose
      rw [if_neg h1]
    rw [e9] at hf
    exact ps_iret dX6_lose_21 rfl (rfl) (hf _ hx SX.rfl)
  · have h1 := kb_ne0.mp h9
    obtain ⟨t, ht, rfl⟩ := (rg_nat (by have := hw.1.t6; omega)).mp h1
    have t6 : t < 6 := Nat.lt_of_lt_of_le ht hw.1.t6
    have htn : iN (nI t) = t := iN_nI (by omega)
    refine pw_iload_n dX6_lose_8 rfl ?_
    refine pw_i2l dX6_lose_9 rfl ?_
    refine pw_iconst_ (v := (-1)) dX6_lose_10 (by decide) ?_
    refine pw_bipush (v := nI 7) dX6_lose_11 (by decide) ?_
    refine ps_callS (As := [.long w.toInt64, .int (-1), .int (nI 7)]) (st := []) dX6_lose_13 cs_X6_65 rfl (Nat.le_of_ble_eq_true rfl) (Nat.le_of_ble_eq_true rfl) ?_
    refine m_in ?_
    refine pw_if_ne (tgt := 22) dX6_lose_16 (by decide) (fun h9 => ?_) (fun h9 => ?_)
    · have h2 := kb_ne0.mp h9
      rw [lose_iff] at h2
      obtain ⟨k, hk8, hkw, hkn⟩ := lose_of h2
      refine pw_aload_n dX6_lose_22 rfl ?_
      refine ps_callV (b := 227) (As := []) (st := []) dX6_lose_23 cv_X6_75 rfl ⟨by decide, by decide +kernel⟩ (Nat.le_of_ble_eq_true rfl) (Nat.le_of_ble_eq_true rfl) ?_
      refine m_remember ?_
      intro ν n1 n2
      have hb : ∀ k, k < 108 → ν 230 k = nI (na c k) := fun k hk => (n1 k hk).trans (hx.1 k hk)
      have hr : RM ν (na c) := fun k hk => (n2 _ _ (by decide)).trans (hx.1 k hk)
      have hk : KG ν μ := fun q k g => n2 q k (by omega)
      show PS l E D cA mX6_lose (d + 6) fin 26 [some (.ref 227), some (.int (nI t)), some (.int w)] [] ν
      have hlw := lay_w hkw
      refine pw_aload_n dX6_lose_26 rfl ?_
      refine pw_iload_n dX6_lose_27 rfl ?_
      refine pw_iconst_ (v := nI 2) dX6_lose_28 (by decide) ?_
      refine pw_iload_n dX6_lose_29 rfl ?_
      refine pw_iconst_ (v := nI 1) dX6_lose_30 (by decide) ?_
      refine pw_iadd dX6_lose_31 ?_
      rw [hlw]
      refine ps_callV (b := 227) (As := [.int (nI t), .int (nI 2), .int (nI k)]) (st := []) dX6_lose_32 cv_X6_151 rfl ⟨by decide, by decide +kernel⟩ (Nat.le_of_ble_eq_true rfl) (Nat.le_of_ble_eq_true rfl) ?_
      refine m_lay (t := t) (w := 2) (by omega) ?_
      rw [show 36 + 12 * t + 2 = 38 + 12 * t by omega]
      show PS l E D cA mX6_lose (d + 6) fin 35 [some (.ref 227), some (.int (nI t)), some (.int w)] [] (u2 ν 228 (38 + 12 * t) (nI k))
      have wfb : Wf (up1 (na c) (38 + 12 * t) k) := wf_team hw.1 ht (Or.inr (Or.inr ⟨hk8, rfl⟩))
      have htb : t < (up1 (na c) (38 + 12 * t) k) 3 := by rw [up1_n (by omega)]; exact ht
      have r1 : RM (u2 ν 228 (38 + 12 * t) (nI k)) (up1 (na c) (38 + 12 * t) k) := hr.up
      have f1 : KG (u2 ν 228 (38 + 12 * t) (nI k)) μ := hk.up (Or.inl rfl)
      have hb2 : ∀ k, k < 108 → (u2 ν 228 (38 + 12 * t) (nI k)) 230 k = nI (na c k) := fun k hk => (u2_a (by decide)).trans (hb k hk)
      refine pw_aload_n dX6_lose_35 rfl ?_
      refine pw_aload_n dX6_lose_36 rfl ?_
      refine pw_iload_n dX6_lose_37 rfl ?_
      refine ps_callV (b := 227) (As := [.int (nI t)]) (st := [.ref 227]) dX6_lose_38 cv_X6_170 rfl ⟨by decide, by decide +kernel⟩ (Nat.le_of_ble_eq_true rfl) (Nat.le_of_ble_eq_true rfl) ?_
      refine m_endOf (a := up1 (na c) (38 + 12 * t) k) wfb htb r1 (fun κ p1 p2 => ?_)
      show PS l E D cA mX6_lose (d + 6) fin 41 [some (.ref 227), some (.int (nI t)), some (.int w)] [.int (nI (edA (up1 (na c) (38 + 12 * t) k) t)), .ref 227] κ
      have e9 : o_lose c (nI t) w = (nI (edA (up1 (na c) (38 + 12 * t) k) t), cnow (crec c) (up1 (na c) (38 + 12 * t) k)) := by
        unfold o_lose
        rw [if_pos h1, if_pos h2, htn, hkn]
      rw [e9] at hf
      have r1 : RM (κ) (up1 (na c) (38 + 12 * t) k) := p2.rm r1
      have f1 : KG (κ) μ := p2.kg.tr f1
      refine ps_callV (b := 227) (As := [.int (nI (edA (up1 (na c) (38 + 12 * t) k) t))]) (st := []) dX6_lose_41 cv_X6_78 rfl ⟨by decide, by decide +kernel⟩ (Nat.le_of_ble_eq_true rfl) (Nat.le_of_ble_eq_true rfl) ?_
      refine m_record (a := na c) (hx.2.1.off f1) (fun k hk => (p2 _ _ (by decide) (by omega)).trans (hb2 k hk)) ?_
      intro ρ r2 r3
      exact ps_iret dX6_lose_44 rfl (rfl) (hf ρ (hx.rec f1 r1 r2 r3) (f1.sx r3))
    · have h2 := kb_eq0.mp h9
      rw [lose_iff] at h2
      refine pw_ldc dX6_lose_19 kc_X6_144 ?_
      have e9 : o_lose c (nI t) w = ((-100001), c) := by
        unfold o_lose
        rw [if_pos h1, if_neg h2]
      rw [e9] at hf
      exact ps_iret dX6_lose_21 rfl (rfl) (hf _ hx SX.rfl)
set_option maxRecDepth 100000 in
set_option maxHeartbeats 4000000 in
theorem m_exchange {c : CS} (hw : CW c) (hx : MX μ c) {v x y : Int32} (hf : ∀ ν : Mu, MX ν (o_exchange c v x y).2 → SX ν μ → fin (some (.int (o_exchange c v x y).1)) ν) : PS l E D cA mX6_exchange (d + 6) fin 0 [some (.ref 227), some (.int v), some (.int x), some (.int y)] [] μ := by
  have hq := hx
  refine pw_aload_n dX6_exchange_0 rfl ?_
  refine pw_iload_n dX6_exchange_1 rfl ?_
  refine ps_callV (b := 227) (As := [.int v]) (st := []) dX6_exchange_2 cv_X6_167 rfl ⟨by decide, by decide +kernel⟩ (Nat.le_of_ble_eq_true rfl) (Nat.le_of_ble_eq_true rfl) ?_
  refine m_isTeam (hx.1 3 (by decide)) ?_
  refine pw_if_eq (tgt := 42) dX6_exchange_5 (by decide) (fun h9 => ?_) (fun h9 => ?_)
  · have h1 := kb_eq0.mp h9
    refine pw_ldc dX6_exchange_42 kc_X6_144 ?_
    have e9 : o_exchange c v x y = ((-100001), c) := by
      unfold o_exchange
      rw [if_neg h1]
    rw [e9] at hf
    exact ps_iret dX6_exchange_44 rfl (rfl) (hf _ hx SX.rfl)
  · have h1 := kb_ne0.mp h9
    obtain ⟨t, ht, rfl⟩ := (rg_nat (by have := hw.1.t6; omega)).mp h1
    have t6 : t < 6 := Nat.lt_of_lt_of_le ht hw.1.t6
    have htn : iN (nI t) = t := iN_nI (by omega)
    have hW := hw.1.tm ht
    have n8 := hW.2.2.2.1
    refine pw_iload_n dX6_exchange_8 rfl ?_
    refine pw_i2l dX6_exchange_9 rfl ?_
    refine pw_iconst_ (v := nI 0) dX6_exchange_10 (by decide) ?_
    refine pw_aload_n dX6_exchange_11 rfl ?_
    refine pw_iload_n dX6_exchange_12 rfl ?_
    refine pw_iconst_ (v := nI 3) dX6_exchange_13 (by decide) ?_
    refine ps_callV (b := 227) (As := [.int (nI t), .int (nI 3)]) (st := [.int (nI 0), .long x.toInt64]) dX6_exchange_14 cv_X6_85 rfl ⟨by decide, by decide +kernel⟩ (Nat.le_of_ble_eq_true rfl) (Nat.le_of_ble_eq_true rfl) ?_
    refine m_its (t := t) (w := 3) (by omega) ((hx.1 _ (by omega)).trans (by rw [show 36 + 12 * t + 3 = 39 + 12 * t by omega])) ?_
    show PS l E D cA mX6_exchange (d + 6) fin 17 [some (.ref 227), some (.int (nI t)), some (.int x), some (.int y)] [.int (nI (na c (39 + 12 * t))), .int (nI 0), .long x.toInt64] μ
    refine pw_iconst_ (v := nI 1) dX6_exchange_17 (by decide) ?_
    refine pw_isub dX6_exchange_18 ?_
    refine ps_callS (As := [.long x.toInt64, .int (nI 0), .int ((nI (na c (39 + 12 * t))) - (nI 1))]) (st := []) dX6_exchange_19 cs_X6_65 rfl (Nat.le_of_ble_eq_true rfl) (Nat.le_of_ble_eq_true rfl) ?_
    refine m_in ?_
    refine pw_if_eq (tgt := 42) dX6_exchange_22 (by decide) (fun h9 => ?_) (fun h9 => ?_)
    · have h2 := kb_eq0.mp h9
      refine pw_ldc dX6_exchange_42 kc_X6_144 ?_
      have e9 : o_exchange c (nI t) x y = ((-100001), c) := by
        unfold o_exchange
        rw [if_pos h1, htn, if_neg h2]
      rw [e9] at hf
      exact ps_iret dX6_exchange_44 rfl (rfl) (hf _ hx SX.rfl)
    · have h2 := kb_ne0.mp h9
      refine pw_iload_n dX6_exchange_25 rfl ?_
      refine pw_i2l dX6_exchange_26 rfl ?_
      refine pw_iconst_ (v := nI 0) dX6_exchange_27 (by decide) ?_
      refine pw_aload_n dX6_exchange_28 rfl ?_
      refine pw_iload_n dX6_exchange_29 rfl ?_
      refine pw_iconst_ (v := nI 3) dX6_exchange_30 (by decide) ?_
      refine ps_callV (b := 227) (As := [.int (nI t), .int (nI 3)]) (st := [.int (nI 0), .long y.toInt64]) dX6_exchange_31 cv_X6_85 rfl ⟨by decide, by decide +kernel⟩ (Nat.le_of_ble_eq_true rfl) (Nat.le_of_ble_eq_true rfl) ?_
      refine m_its (t := t) (w := 3) (by omega) ((hx.1 _ (by omega)).trans (by rw [show 36 + 12 * t + 3 = 39 + 12 * t by omega])) ?_
      show PS l E D cA mX6_exchange (d + 6) fin 34 [some (.ref 227), some (.int (nI t)), some (.int x), some (.int y)] [.int (nI (na c (39 + 12 * t))), .int (nI 0), .long y.toInt64] μ
      refine pw_iconst_ (v := nI 1) dX6_exchange_34 (by decide) ?_
      refine pw_isub dX6_exchange_35 ?_
      refine ps_callS (As := [.long y.toInt64, .int (nI 0), .int ((nI (na c (39 + 12 * t))) - (nI 1))]) (st := []) dX6_exchange_36 cs_X6_65 rfl (Nat.le_of_ble_eq_true rfl) (Nat.le_of_ble_eq_true rfl) ?_
      refine m_in ?_
      refine pw_if_ne (tgt := 45) dX6_exchange_39 (by decide) (fun h9 => ?_) (fun h9 => ?_)
      · have h3 := kb_ne0.mp h9
        refine pw_iload_n dX6_exchange_45 rfl ?_
        refine pw_iload_n dX6_exchange_46 rfl ?_
        refine pw_icmp_ne (tgt := 53) dX6_exchange_47 (by decide) (fun h4 => ?_) (fun h4 => ?_)
        · obtain ⟨i, hi, rfl⟩ := (rg_nat (by omega)).mp h2
          obtain ⟨j, hj, rfl⟩ := (rg_nat (by omega)).mp h3
          have hin : iN (nI i) = i := iN_nI (by omega)
          have hjn : iN (nI j) = j := iN_nI (by omega)
          refine pw_aload_n dX6_exchange_53 rfl ?_
          refine ps_callV (b := 227) (As := []) (st := []) dX6_exchange_54 cv_X6_75 rfl ⟨by decide, by decide +kernel⟩ (Nat.le_of_ble_eq_true rfl) (Nat.le_of_ble_eq_true rfl) ?_
          refine m_remember ?_
          intro ν n1 n2
          have hb : ∀ k, k < 108 → ν 230 k = nI (na c k) := fun k hk => (n1 k hk).trans (hx.1 k hk)
          have hr : RM ν (na c) := fun k hk => (n2 _ _ (by decide)).trans (hx.1 k hk)
          have hk : KG ν μ := fun q k g => n2 q k (by omega)
          show PS l E D cA mX6_exchange (d + 6) fin 57 [some (.ref 227), some (.int (nI t)), some (.int (nI i)), some (.int (nI j))] [] ν
          refine pw_aload_n dX6_exchange_57 rfl ?_
          refine pw_iload_n dX6_exchange_58 rfl ?_
          refine pw_iload_n dX6_exchange_59 rfl ?_
          refine pw_iload_n dX6_exchange_60 rfl ?_
          refine ps_callV (b := 227) (As := [.int (nI t), .int (nI i), .int (nI j)]) (st := []) dX6_exchange_61 cv_X6_177 rfl ⟨by decide, by decide +kernel⟩ (Nat.le_of_ble_eq_true rfl) (Nat.le_of_ble_eq_true rfl) ?_
          refine m_exchanged hw.1 ht hr hi hj (fun σ s1 s2 => ?_)
          show PS l E D cA mX6_exchange (d + 6) fin 64 [some (.ref 227), some (.int (nI t)), some (.int (nI i)), some (.int (nI j))] [] σ
          have wfb : Wf (xch (na c) t i j) := wf_xch hw.1 ht hi hj
          have htb : t < (xch (na c) t i j) 3 := by rw [xch_3 n8.2]; exact ht
          have r1 : RM (σ) (xch (na c) t i j) := s1
          have f1 : KG (σ) μ := fun q k g => (s2 q k (by omega)).trans (hk q k g)
          have hb2 : ∀ k, k < 108 → (σ) 230 k = nI (na c k) := fun k hk => (s2 _ _ (by decide)).trans (hb k hk)
          refine pw_aload_n dX6_exchange_64 rfl ?_
          refine pw_aload_n dX6_exchange_65 rfl ?_
          refine pw_iload_n dX6_exchange_66 rfl ?_
          refine ps_callV (b := 227) (As := [.int (nI t)]) (st := [.ref 227]) dX6_exchange_67 cv_X6_170 rfl ⟨by decide, by decide +kernel⟩ (Nat.le_of_ble_eq_true rfl) (Nat.le_of_ble_eq_true rfl) ?_
          refine m_endOf (a := xch (na c) t i j) wfb htb r1 (fun κ p1 p2 => ?_)
          show PS l E D cA mX6_exchange (d + 6) fin 70 [some (.ref 227), some (.int (nI t)), some (.int (nI i)), some (.int (nI j))] [.int (nI (edA (xch (na c) t i j) t)), .ref 227] κ
          have e9 : o_exchange c (nI t) (nI i) (nI j) = (nI (edA (xch (na c) t i j) t), cnow (crec c) (xch (na c) t i j)) := by
            unfold o_exchange
            rw [if_pos h1, htn, if_pos h2, if_pos h3, if_neg h4, hin, hjn]
          rw [e9] at hf
          have r1 : RM (κ) (xch (na c) t i j) := p2.rm r1
          have f1 : KG (κ) μ := p2.kg.tr f1
          refine ps_callV (b := 227) (As := [.int (nI (edA (xch (na c) t i j) t))]) (st := []) dX6_exchange_70 cv_X6_78 rfl ⟨by decide, by decide +kernel⟩ (Nat.le_of_ble_eq_true rfl) (Nat.le_of_ble_eq_true rfl) ?_
          refine m_record (a := na c) (hx.2.1.off f1) (fun k hk => (p2 _ _ (by decide) (by omega)).trans (hb2 k hk)) ?_
          intro ρ r2 r3
          exact ps_iret dX6_exchange_73 rfl (rfl) (hf ρ (hx.rec f1 r1 r2 r3) (f1.sx r3))
        · refine pw_ldc dX6_exchange_50 kc_X6_74 ?_
          have e9 : o_exchange c (nI t) x y = ((-100002), c) := by
            unfold o_exchange
            rw [if_pos h1, htn, if_pos h2, if_pos h3, if_pos h4]
          rw [e9] at hf
          exact ps_iret dX6_exchange_52 rfl (rfl) (hf _ hx SX.rfl)
      · have h3 := kb_eq0.mp h9
        refine pw_ldc dX6_exchange_42 kc_X6_144 ?_
        have e9 : o_exchange c (nI t) x y = ((-100001), c) := by
          unfold o_exchange
          rw [if_pos h1, htn, if_pos h2, if_neg h3]
        rw [e9] at hf
        exact ps_iret dX6_exchange_44 rfl (rfl) (hf _ hx SX.rfl)
set_option maxRecDepth 100000 in
set_option maxHeartbeats 4000000 in
theorem m_route {c : CS} (hw : CW c) (hx : MX μ c) {v : Int32} (hf : ∀ ν : Mu, MX ν (o_route c v).2 → SX ν μ → fin (some (.int (o_route c v).1)) ν) : PS l E D cA mX6_route (d + 5) fin 0 [some (.ref 227), some (.int v)] [] μ := by
  have hq := hx
  refine pw_aload_n dX6_route_0 rfl ?_
  refine pw_iload_n dX6_route_1 rfl ?_
  refine ps_callV (b := 227) (As := [.int v]) (st := []) dX6_route_2 cv_X6_167 rfl ⟨by decide, by decide +kernel⟩ (Nat.le_of_ble_eq_true rfl) (Nat.le_of_ble_eq_true rfl) ?_
  refine m_isTeam (hx.1 3 (by decide)) ?_
  refine pw_if_ne (tgt := 11) dX6_route_5 (by decide) (fun h9 => ?_) (fun h9 => ?_)
  · have h1 := kb_ne0.mp h9
    obtain ⟨t, ht, rfl⟩ := (rg_nat (by have := hw.1.t6; omega)).mp h1
    have t6 : t < 6 := Nat.lt_of_lt_of_le ht hw.1.t6
    have htn : iN (nI t) = t := iN_nI (by omega)
    refine pw_aload_n dX6_route_11 rfl ?_
    refine ps_callV (b := 227) (As := []) (st := []) dX6_route_12 cv_X6_158 rfl ⟨by decide, by decide +kernel⟩ (Nat.le_of_ble_eq_true rfl) (Nat.le_of_ble_eq_true rfl) ?_
    refine m_isWell hx.2.2.2 (fun ν n1 n2 n3 => ?_)
    show PS l E D cA mX6_route (d + 5) fin 15 [some (.ref 227), some (.int (nI t))] [.int (kb (ffp (pD c) (pL c) = none))] ν
    have hz : MX ν c := hx.kg n3.kg (fun k hk => (n3 _ _ (by decide) (by omega)).trans (hx.1 k hk))
    refine pw_if_ne (tgt := 21) dX6_route_15 (by decide) (fun h9 => ?_) (fun h9 => ?_)
    · have h2 := kb_ne0.mp h9
      obtain ⟨n4, n5⟩ := n1 h2
      have hfn := ffp_none h2
      refine pw_aload_n dX6_route_21 rfl ?_
      refine ps_callV (b := 227) (As := []) (st := []) dX6_route_22 cv_X6_75 rfl ⟨by decide, by decide +kernel⟩ (Nat.le_of_ble_eq_true rfl) (Nat.le_of_ble_eq_true rfl) ?_
      refine m_remember (fun κ k1 k2 => ?_)
      show PS l E D cA mX6_route (d + 5) fin 25 [some (.ref 227), some (.int (nI t))] [] κ
      refine pw_aload_n dX6_route_25 rfl ?_
      refine pw_iload_n dX6_route_26 rfl ?_
      have hr : RM κ (na c) := fun j hj => (k2 _ _ (by decide)).trans (hz.1 j hj)
      have hb : ∀ j, j < 108 → κ 230 j = nI (na c j) := fun j hj => (k1 j hj).trans (hz.1 j hj)
      refine ps_callV (b := 227) (As := [.int (nI t)]) (st := []) dX6_route_27 cv_X6_164 rfl ⟨by decide, by decide +kernel⟩ (Nat.le_of_ble_eq_true rfl) (Nat.le_of_ble_eq_true rfl) ?_
      refine m_takeRoute (ln := pL c) (pd := pD c) t6 ((k2 _ _ (by decide)).trans n4) hfn.2.2.1 (fun j hj => (k2 _ _ (by decide)).trans (n5 j hj)) hr (fun σ s1 s2 s3 => ?_)
      show PS l E D cA mX6_route (d + 5) fin 30 [some (.ref 227), some (.int (nI t))] [] σ
      refine pw_aload_n dX6_route_30 rfl ?_
      have wfb : Wf (tk (na c) t (pD c) (pL c)) := wf_tk hw.1 ht h2
      have htb : t < (tk (na c) t (pD c) (pL c)) 3 := by rw [tk_n (by omega)]; exact ht
      refine ps_callV (b := 227) (As := []) (st := []) dX6_route_31 cv_X6_138 rfl ⟨by decide, by decide +kernel⟩ (Nat.le_of_ble_eq_true rfl) (Nat.le_of_ble_eq_true rfl) ?_
      refine m_playAll wfb s1 (fun τ p1 p2 => ?_)
      show PS l E D cA mX6_route (d + 5) fin 34 [some (.ref 227), some (.int (nI t))] [] τ
      refine pw_aload_n dX6_route_34 rfl ?_
      refine pw_aload_n dX6_route_35 rfl ?_
      refine ps_getr (r := 237) dX6_route_36 kf_X6_38 (by decide) (by decide +kernel) ?_
      refine pw_iload_n dX6_route_39 rfl ?_
      refine ps_iald (j := t) (x := nI (tl (tk (na c) t (pD c) (pL c)) t)) dX6_route_40 rfl (ok_ar (n := 6) (by decide +kernel) (by omega)) (p1.t wfb (Nat.le_refl _) htb).1 ?_
      have e9 : o_route c (nI t) = (nI (tl (tk (na c) t (pD c) (pL c)) t), pad0 (cnow (crec c) (tk (na c) t (pD c) (pL c)))) := by
        unfold o_route
        rw [if_pos h1, if_pos h2, htn]
      rw [e9] at hf
      have hkg : KG0 τ ν := fun q j g => (p2 q j (by omega) (by omega)).trans ((s3 q j (by omega) (by omega)).trans (k2 q j (by omega)))
      refine ps_callV (b := 227) (As := [.int (nI (tl (tk (na c) t (pD c) (pL c)) t))]) (st := []) dX6_route_41 cv_X6_78 rfl ⟨by decide, by decide +kernel⟩ (Nat.le_of_ble_eq_true rfl) (Nat.le_of_ble_eq_true rfl) ?_
      refine m_record (a := na c) (MH_k0 hz hkg) (fun j hj => (p2 _ _ (by decide) (by omega)).trans ((s3 _ _ (by decide) (by omega)).trans (hb j hj))) (fun ρ r5 r6 => ?_)
      show PS l E D cA mX6_route (d + 5) fin 44 [some (.ref 227), some (.int (nI t))] [.int (nI (tl (tk (na c) t (pD c) (pL c)) t))] ρ
      exact ps_iret dX6_route_44 rfl (rfl) (hf ρ (hz.rec0 hkg ((p2 _ _ (by decide) (by decide)).trans s2) (p2.rm s1) r5 r6) (fun q j g => ((hkg.sx r6) q j g).trans (n3.kg.sx' q j g)))
    · have h2 := kb_eq0.mp h9
      refine pw_ldc dX6_route_18 kc_X6_162 ?_
      have e9 : o_route c (nI t) = (-100003, c) := by
        unfold o_route
        rw [if_pos h1, if_neg h2]
      rw [e9] at hf
      exact ps_iret dX6_route_20 rfl (rfl) (hf ν hz n3.kg.sx')
  · have h1 := kb_eq0.mp h9
    refine pw_ldc dX6_route_8 kc_X6_144 ?_
    have e9 : o_route c v = ((-100001), c) := by
      unfold o_route
      rw [if_neg h1]
    rw [e9] at hf
    exact ps_iret dX6_route_10 rfl (rfl) (hf _ hx SX.rfl)
end MODT
