/-! the model: place, close, undo, save, restore -/
section MODC
variable {l : Launch} {E : EV} {D : va_G} {cA : Nat → ClassId} {fin : Option Value → Mu → Prop} {μ : Mu} {d : Nat}
set_option maxRecDepth 100000 in
set_option maxHeartbeats 4000000 in
theorem m_openOnes {a : AS} (hR : RM μ a) (hz : ∀ p, p < 8 → a (7 + 4 * p) ≤ 1) (hf : fin (some (.int (nI (opn a)))) μ) : PS l E D cA mX6_openOnes (d + 1) fin 0 [some (.ref 227), none, none] [] μ := by
  refine pw_iconst_ (v := nI 0) dX6_openOnes_0 (by decide) ?_
  refine px_istore_n (ls' := [some (.ref 227), some (.int (nI 0)), none]) dX6_openOnes_1 rfl rfl (by decide) ?_
  refine pw_iconst_ (v := nI 0) dX6_openOnes_2 (by decide) ?_
  refine px_istore_n (ls' := [some (.ref 227), some (.int (nI 0)), some (.int (nI 0))]) dX6_openOnes_3 rfl rfl (by decide) ?_
  have lp : ∀ i : Nat, i ≤ 8 → PS l E D cA mX6_openOnes (d + 1) fin 4 [some (.ref 227), some (.int (nI (cntN (fun p => a (7 + 4 * p) == 0) i))), some (.int (nI i))] [] μ := by
    refine ps_for 8 ?_ ?_
    · skip
      refine pw_iload_n dX6_openOnes_4 rfl ?_
      refine pw_bipush (v := nI 8) dX6_openOnes_5 (by decide) ?_
      refine pn_ge (tgt := 27) dX6_openOnes_7 (by decide) (by omega) (by omega) (fun _ => ?_) (fun h9 => absurd h9 (by decide))
      refine pw_iload_n dX6_openOnes_27 rfl ?_
      exact ps_iret dX6_openOnes_28 rfl (rfl) hf
    · intro i hi ih
      have hc := cntN_le (p := fun p => a (7 + 4 * p) == 0) i
      refine pw_iload_n dX6_openOnes_4 rfl ?_
      refine pw_bipush (v := nI 8) dX6_openOnes_5 (by decide) ?_
      refine pn_ge (tgt := 27) dX6_openOnes_7 (by decide) (by omega) (by omega) (fun h9 => absurd h9 (by omega)) (fun _ => ?_)
      refine pw_iload_n dX6_openOnes_10 rfl ?_
      refine pw_iconst_ (v := nI 1) dX6_openOnes_11 (by decide) ?_
      refine pw_aload_n dX6_openOnes_12 rfl ?_
      refine pw_iload_n dX6_openOnes_13 rfl ?_
      refine pw_iconst_ (v := nI 3) dX6_openOnes_14 (by decide) ?_
      refine ps_callV (b := 227) (As := [.int (nI i), .int (nI 3)]) (st := [.int (nI 1), .int (nI (cntN (fun p => a (7 + 4 * p) == 0) i))]) dX6_openOnes_15 cv_X6_89 rfl ⟨by decide, by decide +kernel⟩ (Nat.le_of_ble_eq_true rfl) (Nat.le_of_ble_eq_true rfl) ?_
      refine m_of (by omega) (hR (4 + 4 * i + 3) (by omega)) ?_
      have hz1 := hz i hi
      rw [show 4 + 4 * i + 3 = 7 + 4 * i by omega]
      refine pn_isub hz1 dX6_openOnes_18 ?_
      refine px_iaddn (c := (cntN (fun p => a (7 + 4 * p) == 0) i) + (1 - (a (7 + 4 * i)))) dX6_openOnes_19 (by omega) ?_
      refine px_istore_n (ls' := [some (.ref 227), some (.int (nI ((cntN (fun p => a (7 + 4 * p) == 0) i) + (1 - (a (7 + 4 * i)))))), some (.int (nI i))]) dX6_openOnes_20 rfl rfl (by decide) ?_
      refine px_iincn (n := 1) (a := i) (b := i + 1) (ls' := [some (.ref 227), some (.int (nI ((cntN (fun p => a (7 + 4 * p) == 0) i) + (1 - (a (7 + 4 * i)))))), some (.int (nI (i + 1)))]) dX6_openOnes_21 rfl rfl rfl (by omega) ?_
      refine pw_goto (tgt := 4) dX6_openOnes_24 (by decide) ?_
      rw [← ite_b hz1]
      exact ih
  exact lp 0 (by decide)
set_option maxRecDepth 100000 in
set_option maxHeartbeats 4000000 in
theorem m_place {c : CS} (hw : CW c) (hx : MX μ c) {v x y z : Int32} (hf : ∀ ν : Mu, MX ν (o_place c v x y z).2 → SX ν μ → fin (some (.int (o_place c v x y z).1)) ν) : PS l E D cA mX6_place (d + 4) fin 0 [some (.ref 227), some (.int v), some (.int x), some (.int y), some (.int z), none] [] μ := by
  have hq := hx
  refine pw_iload_n dX6_place_0 rfl ?_
  refine ps_callS (As := [.int v]) (st := []) dX6_place_1 cs_X6_141 rfl (Nat.le_of_ble_eq_true rfl) (Nat.le_of_ble_eq_true rfl) ?_
  refine m_isPlace ?_
  refine pw_if_ne (tgt := 10) dX6_place_4 (by decide) (fun h9 => ?_) (fun h9 => ?_)
  · have h1 := kb_ne0.mp h9
    obtain ⟨p, hp, rfl⟩ := (rg_to (by decide)).mp h1
    have hp8 : p < 8 := by omega
    have hpn : iN (nI p) = p := iN_nI (by omega)
    refine pw_iload_n dX6_place_10 rfl ?_
    refine pw_i2l dX6_place_11 rfl ?_
    refine pw_iconst_ (v := nI 0) dX6_place_12 (by decide) ?_
    refine pw_bipush (v := nI 20) dX6_place_13 (by decide) ?_
    refine ps_callS (As := [.long x.toInt64, .int (nI 0), .int (nI 20)]) (st := []) dX6_place_15 cs_X6_65 rfl (Nat.le_of_ble_eq_true rfl) (Nat.le_of_ble_eq_true rfl) ?_
    refine m_in ?_
    refine pw_if_eq (tgt := 44) dX6_place_18 (by decide) (fun h9 => ?_) (fun h9 => ?_)
    · have h2 := kb_eq0.mp h9
      refine pw_ldc dX6_place_44 kc_X6_74 ?_
      have e9 : o_place c (nI p) x y z = ((-100002), c) := by
        unfold o_place
        rw [if_pos h1, if_neg h2]
      rw [e9] at hf
      exact ps_iret dX6_place_46 rfl (rfl) (hf _ hx SX.rfl)
    · have h2 := kb_ne0.mp h9
      refine pw_iload_n dX6_place_21 rfl ?_
      refine pw_i2l dX6_place_22 rfl ?_
      refine pw_iconst_ (v := nI 0) dX6_place_23 (by decide) ?_
      refine pw_bipush (v := nI 20) dX6_place_24 (by decide) ?_
      refine ps_callS (As := [.long y.toInt64, .int (nI 0), .int (nI 20)]) (st := []) dX6_place_26 cs_X6_65 rfl (Nat.le_of_ble_eq_true rfl) (Nat.le_of_ble_eq_true rfl) ?_
      refine m_in ?_
      refine pw_if_eq (tgt := 44) dX6_place_29 (by decide) (fun h9 => ?_) (fun h9 => ?_)
      · have h3 := kb_eq0.mp h9
        refine pw_ldc dX6_place_44 kc_X6_74 ?_
        have e9 : o_place c (nI p) x y z = ((-100002), c) := by
          unfold o_place
          rw [if_pos h1, if_pos h2, if_neg h3]
        rw [e9] at hf
        exact ps_iret dX6_place_46 rfl (rfl) (hf _ hx SX.rfl)
      · have h3 := kb_ne0.mp h9
        refine pw_iload dX6_place_32 rfl ?_
        refine pw_i2l dX6_place_34 rfl ?_
        refine pw_iconst_ (v := nI 1) dX6_place_35 (by decide) ?_
        refine pw_bipush (v := nI 15) dX6_place_36 (by decide) ?_
        refine ps_callS (As := [.long z.toInt64, .int (nI 1), .int (nI 15)]) (st := []) dX6_place_38 cs_X6_65 rfl (Nat.le_of_ble_eq_true rfl) (Nat.le_of_ble_eq_true rfl) ?_
        refine m_in ?_
        refine pw_if_ne (tgt := 47) dX6_place_41 (by decide) (fun h9 => ?_) (fun h9 => ?_)
        · have h4 := kb_ne0.mp h9
          obtain ⟨x, hx1, rfl⟩ := (rg_to (by decide)).mp h2
          obtain ⟨y, hy1, rfl⟩ := (rg_to (by decide)).mp h3
          obtain ⟨z, hz1, hz2, rfl⟩ := rg_in (by decide) (by decide) h4
          refine pw_aload_n dX6_place_47 rfl ?_
          refine ps_callV (b := 227) (As := []) (st := []) dX6_place_48 cv_X6_75 rfl ⟨by decide, by decide +kernel⟩ (Nat.le_of_ble_eq_true rfl) (Nat.le_of_ble_eq_true rfl) ?_
          refine m_remember ?_
          intro ν n1 n2
          have hb : ∀ k, k < 108 → ν 230 k = nI (na c k) := fun k hk => (n1 k hk).trans (hx.1 k hk)
          have hr : RM ν (na c) := fun k hk => (n2 _ _ (by decide)).trans (hx.1 k hk)
          have hk : KG ν μ := fun q k g => n2 q k (by omega)
          show PS l E D cA mX6_place (d + 4) fin 51 [some (.ref 227), some (.int (nI p)), some (.int (nI x)), some (.int (nI y)), some (.int (nI z)), none] [] ν
          refine pw_aload_n dX6_place_51 rfl ?_
          refine pw_iload_n dX6_place_52 rfl ?_
          refine pw_iconst_ (v := nI 2) dX6_place_53 (by decide) ?_
          refine ps_callV (b := 227) (As := [.int (nI p), .int (nI 2)]) (st := []) dX6_place_54 cv_X6_89 rfl ⟨by decide, by decide +kernel⟩ (Nat.le_of_ble_eq_true rfl) (Nat.le_of_ble_eq_true rfl) ?_
          refine m_of (by omega) (hr (4 + 4 * p + 2) (by omega)) ?_
          refine px_istore (ls' := [some (.ref 227), some (.int (nI p)), some (.int (nI x)), some (.int (nI y)), some (.int (nI z)), some (.int (nI (na c (4 + 4 * p + 2))))]) dX6_place_57 rfl rfl (by decide) ?_
          refine pw_aload_n dX6_place_59 rfl ?_
          refine ps_getr (r := 228) dX6_place_60 kf_X6_7 (by decide) (by decide +kernel) ?_
          refine pw_iconst_ (v := nI 4) dX6_place_63 (by decide) ?_
          refine pw_iconst_ (v := nI 4) dX6_place_64 (by decide) ?_
          refine pw_iload_n dX6_place_65 rfl ?_
          refine px_imuln (c := 4 * p) dX6_place_66 (by omega) ?_
          refine px_iaddn (c := 4 + 4 * p) dX6_place_67 (by omega) ?_
          refine pw_iconst_ (v := nI 0) dX6_place_68 (by decide) ?_
          refine px_iaddn (c := 4 + 4 * p) dX6_place_69 (by omega) ?_
          refine pw_iload_n dX6_place_70 rfl ?_
          refine ps_iast (j := 4 + 4 * p) dX6_place_71 rfl (ok_ar (n := 108) (by decide +kernel) (by omega)) ?_
          refine pw_aload_n dX6_place_72 rfl ?_
          refine ps_getr (r := 228) dX6_place_73 kf_X6_7 (by decide) (by decide +kernel) ?_
          refine pw_iconst_ (v := nI 4) dX6_place_76 (by decide) ?_
          refine pw_iconst_ (v := nI 4) dX6_place_77 (by decide) ?_
          refine pw_iload_n dX6_place_78 rfl ?_
          refine px_imuln (c := 4 * p) dX6_place_79 (by omega) ?_
          refine px_iaddn (c := 4 + 4 * p) dX6_place_80 (by omega) ?_
          refine pw_iconst_ (v := nI 1) dX6_place_81 (by decide) ?_
          refine px_iaddn (c := 4 + 4 * p + 1) dX6_place_82 (by omega) ?_
          refine pw_iload_n dX6_place_83 rfl ?_
          refine ps_iast (j := 4 + 4 * p + 1) dX6_place_84 rfl (ok_ar (n := 108) (by decide +kernel) (by omega)) ?_
          refine pw_aload_n dX6_place_85 rfl ?_
          refine ps_getr (r := 228) dX6_place_86 kf_X6_7 (by decide) (by decide +kernel) ?_
          refine pw_iconst_ (v := nI 4) dX6_place_89 (by decide) ?_
          refine pw_iconst_ (v := nI 4) dX6_place_90 (by decide) ?_
          refine pw_iload_n dX6_place_91 rfl ?_
          refine px_imuln (c := 4 * p) dX6_place_92 (by omega) ?_
          refine px_iaddn (c := 4 + 4 * p) dX6_place_93 (by omega) ?_
          refine pw_iconst_ (v := nI 2) dX6_place_94 (by decide) ?_
          refine px_iaddn (c := 4 + 4 * p + 2) dX6_place_95 (by omega) ?_
          refine pw_iload dX6_place_96 rfl ?_
          refine ps_iast (j := 4 + 4 * p + 2) dX6_place_98 rfl (ok_ar (n := 108) (by decide +kernel) (by omega)) ?_
          refine pw_aload_n dX6_place_99 rfl ?_
          refine pw_iload dX6_place_100 rfl ?_
          have e9 : o_place c (nI p) (nI x) (nI y) (nI z) = (nI (na c (4 + 4 * p + 2)), cnow (crec c) (up1 (up1 (up1 (na c) (4 + 4 * p + 0) x) (4 + 4 * p + 1) y) (4 + 4 * p + 2) z)) := by
            unfold o_place
            rw [if_pos h1, if_pos h2, if_pos h3, if_pos h4, hpn, iN_nI (by omega), iN_nI (by omega), iN_nI (by omega), show 4 + 4 * p + 2 = 6 + 4 * p by omega, show 4 + 4 * p + 1 = 5 + 4 * p by omega]
            rfl
          rw [e9] at hf
          have r1 : RM (u2 (u2 (u2 ν 228 (4 + 4 * p) (nI x)) 228 (4 + 4 * p + 1) (nI y)) 228 (4 + 4 * p + 2) (nI z)) (up1 (up1 (up1 (na c) (4 + 4 * p + 0) x) (4 + 4 * p + 1) y) (4 + 4 * p + 2) z) := ((hr.up).up).up
          have f1 : KG (u2 (u2 (u2 ν 228 (4 + 4 * p) (nI x)) 228 (4 + 4 * p + 1) (nI y)) 228 (4 + 4 * p + 2) (nI z)) μ := ((hk.up (Or.inl rfl)).up (Or.inl rfl)).up (Or.inl rfl)
          refine ps_callV (b := 227) (As := [.int (nI (na c (4 + 4 * p + 2)))]) (st := []) dX6_place_102 cv_X6_78 rfl ⟨by decide, by decide +kernel⟩ (Nat.le_of_ble_eq_true rfl) (Nat.le_of_ble_eq_true rfl) ?_
          refine m_record (a := na c) (hx.2.1.off f1) (fun k hk => by repeat (first | rw [u2_a (by decide)]); exact hb k hk) ?_
          intro ρ r2 r3
          exact ps_iret dX6_place_105 rfl (rfl) (hf ρ (hx.rec f1 r1 r2 r3) (f1.sx r3))
        · have h4 := kb_eq0.mp h9
          refine pw_ldc dX6_place_44 kc_X6_74 ?_
          have e9 : o_place c (nI p) x y z = ((-100002), c) := by
            unfold o_place
            rw [if_pos h1, if_pos h2, if_pos h3, if_neg h4]
          rw [e9] at hf
          exact ps_iret dX6_place_46 rfl (rfl) (hf _ hx SX.rfl)
  · have h1 := kb_eq0.mp h9
    refine pw_ldc dX6_place_7 kc_X6_144 ?_
    have e9 : o_place c v x y z = ((-100001), c) := by
      unfold o_place
      rw [if_neg h1]
    rw [e9] at hf
    exact ps_iret dX6_place_9 rfl (rfl) (hf _ hx SX.rfl)
set_option maxRecDepth 100000 in
set_option maxHeartbeats 4000000 in
theorem m_close {c : CS} (hw : CW c) (hx : MX μ c) {v z : Int32} (hz01 : z = nI 0 ∨ z = nI 1) (hf : ∀ ν : Mu, MX ν (o_close c v z).2 → SX ν μ → fin (some (.int (o_close c v z).1)) ν) : PS l E D cA mX6_close (d + 4) fin 0 [some (.ref 227), some (.int v), some (.int z), none] [] μ := by
  have hq := hx
  refine pw_iload_n dX6_close_0 rfl ?_
  refine ps_callS (As := [.int v]) (st := []) dX6_close_1 cs_X6_141 rfl (Nat.le_of_ble_eq_true rfl) (Nat.le_of_ble_eq_true rfl) ?_
  refine m_isPlace ?_
  refine pw_if_ne (tgt := 10) dX6_close_4 (by decide) (fun h9 => ?_) (fun h9 => ?_)
  · have h1 := kb_ne0.mp h9
    obtain ⟨p, hp, rfl⟩ := (rg_to (by decide)).mp h1
    have hp8 : p < 8 := by omega
    have hpn : iN (nI p) = p := iN_nI (by omega)
    have hc1 := (hw.1.pl hp8).2.2.2
    have hkb : kb (na c (7 + 4 * p) = 1) = nI (na c (7 + 4 * p)) := by
      rcases (show na c (7 + 4 * p) = 0 ∨ na c (7 + 4 * p) = 1 by omega) with h | h <;> rw [h] <;> decide
    rcases hz01 with rfl | rfl
    · refine pw_iload_n dX6_close_10 rfl ?_
      refine pw_if_eq (tgt := 18) dX6_close_11 (by decide) (fun _ => ?_) (fun h9 => absurd (by decide) h9)
      refine pw_iconst_ (v := nI 0) dX6_close_18 (by decide) ?_
      refine px_istore_n (ls' := [some (.ref 227), some (.int (nI p)), some (.int (nI 0)), some (.int (nI 0))]) dX6_close_19 rfl rfl (by decide) ?_
      refine pw_aload_n dX6_close_20 rfl ?_
      refine pw_iload_n dX6_close_21 rfl ?_
      refine pw_iconst_ (v := nI 3) dX6_close_22 (by decide) ?_
      refine ps_callV (b := 227) (As := [.int (nI p), .int (nI 3)]) (st := []) dX6_close_23 cv_X6_89 rfl ⟨by decide, by decide +kernel⟩ (Nat.le_of_ble_eq_true rfl) (Nat.le_of_ble_eq_true rfl) ?_
      refine m_of (by omega) (hx.1 (4 + 4 * p + 3) (by omega)) ?_
      rw [show 4 + 4 * p + 3 = 7 + 4 * p by omega]
      refine pw_iload_n dX6_close_26 rfl ?_
      refine pn_ne (tgt := 33) dX6_close_27 (by decide) (by omega) (by omega) (fun h2 => ?_) (fun h2 => ?_)
      · refine pw_aload_n dX6_close_33 rfl ?_
        refine ps_callV (b := 227) (As := []) (st := []) dX6_close_34 cv_X6_75 rfl ⟨by decide, by decide +kernel⟩ (Nat.le_of_ble_eq_true rfl) (Nat.le_of_ble_eq_true rfl) ?_
        refine m_remember ?_
        intro ν n1 n2
        have hb : ∀ k, k < 108 → ν 230 k = nI (na c k) := fun k hk => (n1 k hk).trans (hx.1 k hk)
        have hr : RM ν (na c) := fun k hk => (n2 _ _ (by decide)).trans (hx.1 k hk)
        have hk : KG ν μ := fun q k g => n2 q k (by omega)
        show PS l E D cA mX6_close (d + 4) fin 37 [some (.ref 227), some (.int (nI p)), some (.int (nI 0)), some (.int (nI 0))] [] ν
        refine pw_aload_n dX6_close_37 rfl ?_
        refine ps_getr (r := 228) dX6_close_38 kf_X6_7 (by decide) (by decide +kernel) ?_
        refine pw_iconst_ (v := nI 4) dX6_close_41 (by decide) ?_
        refine pw_iconst_ (v := nI 4) dX6_close_42 (by decide) ?_
        refine pw_iload_n dX6_close_43 rfl ?_
        refine px_imuln (c := 4 * p) dX6_close_44 (by omega) ?_
        refine px_iaddn (c := 4 + 4 * p) dX6_close_45 (by omega) ?_
        refine pw_iconst_ (v := nI 3) dX6_close_46 (by decide) ?_
        refine px_iaddn (c := 4 + 4 * p + 3) dX6_close_47 (by omega) ?_
        refine pw_iload_n dX6_close_48 rfl ?_
        refine ps_iast (j := 4 + 4 * p + 3) dX6_close_49 rfl (ok_ar (n := 108) (by decide +kernel) (by omega)) ?_
        refine pw_aload_n dX6_close_50 rfl ?_
        refine pw_aload_n dX6_close_51 rfl ?_
        have wb : Wf (up1 (na c) (4 + 4 * p + 3) 0) := wf_place hw.1 (Or.inr (Or.inr (Or.inr ⟨p, hp8, by decide, by omega⟩)))
        have hr2 : RM (u2 ν 228 (4 + 4 * p + 3) (nI 0)) (up1 (na c) (4 + 4 * p + 3) 0) := hr.up
        refine ps_callV (b := 227) (As := []) (st := [.ref 227]) dX6_close_52 cv_X6_145 rfl ⟨by decide, by decide +kernel⟩ (Nat.le_of_ble_eq_true rfl) (Nat.le_of_ble_eq_true rfl) ?_
        refine m_openOnes hr2 (fun p hp => (wb.pl hp).2.2.2) ?_
        have e9 : o_close c (nI p) (nI 0) = (nI (opn (up1 (na c) (4 + 4 * p + 3) 0)), cnow (crec c) (up1 (na c) (4 + 4 * p + 3) 0)) := by
          unfold o_close
          have h3 : na c (7 + 4 * p) ≠ 0 := h2
          rw [if_pos h1, hpn, hkb, if_neg (fun q => h3 ((nI_eq (by omega) (by decide)).mp q)), show 1 - na c (7 + 4 * p) = 0 by omega, show 4 + 4 * p + 3 = 7 + 4 * p by omega]
        rw [e9] at hf
        have r1 : RM (u2 ν 228 (4 + 4 * p + 3) (nI 0)) (up1 (na c) (4 + 4 * p + 3) 0) := hr2
        have f1 : KG (u2 ν 228 (4 + 4 * p + 3) (nI 0)) μ := hk.up (Or.inl rfl)
        refine ps_callV (b := 227) (As := [.int (nI (opn (up1 (na c) (4 + 4 * p + 3) 0)))]) (st := []) dX6_close_55 cv_X6_78 rfl ⟨by decide, by decide +kernel⟩ (Nat.le_of_ble_eq_true rfl) (Nat.le_of_ble_eq_true rfl) ?_
        refine m_record (a := na c) (hx.2.1.off f1) (fun k hk => by repeat (first | rw [u2_a (by decide)]); exact hb k hk) ?_
        intro ρ r2 r3
        exact ps_iret dX6_close_58 rfl (rfl) (hf ρ (hx.rec f1 r1 r2 r3) (f1.sx r3))
      · refine pw_ldc dX6_close_30 kc_X6_73 ?_
        have e9 : o_close c (nI p) (nI 0) = ((-100005), c) := by
          unfold o_close
          rw [if_pos h1, hpn, hkb, h2, if_pos rfl]
        rw [e9] at hf
        exact ps_iret dX6_close_32 rfl (rfl) (hf _ hx SX.rfl)
    · refine pw_iload_n dX6_close_10 rfl ?_
      refine pw_if_eq (tgt := 18) dX6_close_11 (by decide) (fun h9 => absurd h9 (by decide)) (fun _ => ?_)
      refine pw_iconst_ (v := nI 1) dX6_close_14 (by decide) ?_
      refine pw_goto (tgt := 19) dX6_close_15 (by decide) ?_
      refine px_istore_n (ls' := [some (.ref 227), some (.int (nI p)), some (.int (nI 1)), some (.int (nI 1))]) dX6_close_19 rfl rfl (by decide) ?_
      refine pw_aload_n dX6_close_20 rfl ?_
      refine pw_iload_n dX6_close_21 rfl ?_
      refine pw_iconst_ (v := nI 3) dX6_close_22 (by decide) ?_
      refine ps_callV (b := 227) (As := [.int (nI p), .int (nI 3)]) (st := []) dX6_close_23 cv_X6_89 rfl ⟨by decide, by decide +kernel⟩ (Nat.le_of_ble_eq_true rfl) (Nat.le_of_ble_eq_true rfl) ?_
      refine m_of (by omega) (hx.1 (4 + 4 * p + 3) (by omega)) ?_
      rw [show 4 + 4 * p + 3 = 7 + 4 * p by omega]
      refine pw_iload_n dX6_close_26 rfl ?_
      refine pn_ne (tgt := 33) dX6_close_27 (by decide) (by omega) (by omega) (fun h2 => ?_) (fun h2 => ?_)
      · refine pw_aload_n dX6_close_33 rfl ?_
        refine ps_callV (b := 227) (As := []) (st := []) dX6_close_34 cv_X6_75 rfl ⟨by decide, by decide +kernel⟩ (Nat.le_of_ble_eq_true rfl) (Nat.le_of_ble_eq_true rfl) ?_
        refine m_remember ?_
        intro ν n1 n2
        have hb : ∀ k, k < 108 → ν 230 k = nI (na c k) := fun k hk => (n1 k hk).trans (hx.1 k hk)
        have hr : RM ν (na c) := fun k hk => (n2 _ _ (by decide)).trans (hx.1 k hk)
        have hk : KG ν μ := fun q k g => n2 q k (by omega)
        show PS l E D cA mX6_close (d + 4) fin 37 [some (.ref 227), some (.int (nI p)), some (.int (nI 1)), some (.int (nI 1))] [] ν
        refine pw_aload_n dX6_close_37 rfl ?_
        refine ps_getr (r := 228) dX6_close_38 kf_X6_7 (by decide) (by decide +kernel) ?_
        refine pw_iconst_ (v := nI 4) dX6_close_41 (by decide) ?_
        refine pw_iconst_ (v := nI 4) dX6_close_42 (by decide) ?_
        refine pw_iload_n dX6_close_43 rfl ?_
        refine px_imuln (c := 4 * p) dX6_close_44 (by omega) ?_
        refine px_iaddn (c := 4 + 4 * p) dX6_close_45 (by omega) ?_
        refine pw_iconst_ (v := nI 3) dX6_close_46 (by decide) ?_
        refine px_iaddn (c := 4 + 4 * p + 3) dX6_close_47 (by omega) ?_
        refine pw_iload_n dX6_close_48 rfl ?_
        refine ps_iast (j := 4 + 4 * p + 3) dX6_close_49 rfl (ok_ar (n := 108) (by decide +kernel) (by omega)) ?_
        refine pw_aload_n dX6_close_50 rfl ?_
        refine pw_aload_n dX6_close_51 rfl ?_
        have wb : Wf (up1 (na c) (4 + 4 * p + 3) 1) := wf_place hw.1 (Or.inr (Or.inr (Or.inr ⟨p, hp8, by decide, by omega⟩)))
        have hr2 : RM (u2 ν 228 (4 + 4 * p + 3) (nI 1)) (up1 (na c) (4 + 4 * p + 3) 1) := hr.up
        refine ps_callV (b := 227) (As := []) (st := [.ref 227]) dX6_close_52 cv_X6_145 rfl ⟨by decide, by decide +kernel⟩ (Nat.le_of_ble_eq_true rfl) (Nat.le_of_ble_eq_true rfl) ?_
        refine m_openOnes hr2 (fun p hp => (wb.pl hp).2.2.2) ?_
        have e9 : o_close c (nI p) (nI 1) = (nI (opn (up1 (na c) (4 + 4 * p + 3) 1)), cnow (crec c) (up1 (na c) (4 + 4 * p + 3) 1)) := by
          unfold o_close
          have h3 : na c (7 + 4 * p) ≠ 1 := h2
          rw [if_pos h1, hpn, hkb, if_neg (fun q => h3 ((nI_eq (by omega) (by decide)).mp q)), show 1 - na c (7 + 4 * p) = 1 by omega, show 4 + 4 * p + 3 = 7 + 4 * p by omega]
        rw [e9] at hf
        have r1 : RM (u2 ν 228 (4 + 4 * p + 3) (nI 1)) (up1 (na c) (4 + 4 * p + 3) 1) := hr2
        have f1 : KG (u2 ν 228 (4 + 4 * p + 3) (nI 1)) μ := hk.up (Or.inl rfl)
        refine ps_callV (b := 227) (As := [.int (nI (opn (up1 (na c) (4 + 4 * p + 3) 1)))]) (st := []) dX6_close_55 cv_X6_78 rfl ⟨by decide, by decide +kernel⟩ (Nat.le_of_ble_eq_true rfl) (Nat.le_of_ble_eq_true rfl) ?_
        refine m_record (a := na c) (hx.2.1.off f1) (fun k hk => by repeat (first | rw [u2_a (by decide)]); exact hb k hk) ?_
        intro ρ r2 r3
        exact ps_iret dX6_close_58 rfl (rfl) (hf ρ (hx.rec f1 r1 r2 r3) (f1.sx r3))
      · refine pw_ldc dX6_close_30 kc_X6_73 ?_
        have e9 : o_close c (nI p) (nI 1) = ((-100005), c) := by
          unfold o_close
          rw [if_pos h1, hpn, hkb, h2, if_pos rfl]
        rw [e9] at hf
        exact ps_iret dX6_close_32 rfl (rfl) (hf _ hx SX.rfl)
  · have h1 := kb_eq0.mp h9
    refine pw_ldc dX6_close_7 kc_X6_144 ?_
    have e9 : o_close c v z = ((-100001), c) := by
      unfold o_close
      rw [if_neg h1]
    rw [e9] at hf
    exact ps_iret dX6_close_9 rfl (rfl) (hf _ hx SX.rfl)
end MODC
