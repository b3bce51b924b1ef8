/-! the model: fault, team -/
theorem MX.kg {ν μ : Mu} {c : CS} (hx : MX μ c) (h : KG ν μ) (hr : RM ν (na c)) : MX ν c := by
  obtain ⟨-, g0, ⟨g1, g2⟩, g3⟩ := hx
  exact ⟨hr, g0.off h, ⟨fun j hj => (h _ _ (by omega)).trans (g1 j hj), fun j k hj hk e => (h _ _ (by omega)).trans (g2 j k hj hk e)⟩, g3.off (fun q k g => h q k (by omega))⟩
theorem KG.sx' {κ μ : Mu} (h : KG κ μ) : SX κ μ := fun q k g => h q k (Or.inl g)
theorem KG.rfl {μ : Mu} : KG μ μ := fun _ _ _ => Eq.refl _
theorem RDF.kg {κ μ : Mu} (h : RDF κ μ) : KG κ μ := fun q k g => h q k (by omega) (by omega)
/-- what is kept when the pad is emptied -/
def KG0 (κ μ : Mu) : Prop := ∀ q k, (q < 227 ∨ (q = 227 ∧ k = 6) ∨ q = 229 ∨ (232 ≤ q ∧ q ≤ 234)) → κ q k = μ q k
theorem KG0.mh {κ μ : Mu} {H : Nat → AS} {n : Nat} (hR : MH μ H n) (h : KG0 κ μ) : MH κ H n := ⟨hR.1, (h _ _ (by omega)).trans hR.2.1, fun i k hi hk => (h _ _ (by omega)).trans (hR.2.2 i k hi hk)⟩
theorem KG0.sx {ρ κ μ : Mu} (h : KG0 κ μ) (h2 : ∀ q k, q ≠ 229 → (q = 227 → k ≠ 6) → ρ q k = κ q k) : SX ρ μ := fun q k g => (h2 q k (by omega) (by omega)).trans (h q k (by omega))
theorem MX.rec0 {ρ κ μ : Mu} {c : CS} {b : AS} (hx : MX μ c) (h : KG0 κ μ) (h8 : κ 227 8 = nI 0) (r1 : RM κ b) (r2 : MH ρ (rcH (hH c) (hN c) (na c)) (rcN (hN c))) (r3 : ∀ q k, q ≠ 229 → (q = 227 → k ≠ 6) → ρ q k = κ q k) : MX ρ (pad0 (cnow (crec c) b)) := by
  obtain ⟨-, -, ⟨g1, g2⟩, g3, g4, g5⟩ := hx
  have f : ∀ q k, (232 ≤ q ∧ q ≤ 234) → ρ q k = μ q k := fun q k g => (r3 q k (by omega) (by omega)).trans (h q k (by omega))
  exact ⟨fun k hk => (r3 _ _ (by decide) (by omega)).trans (r1 k hk), r2, ⟨fun j hj => (f _ _ (by omega)).trans (g1 j hj), fun j k hj hk e => (f _ _ (by omega)).trans (g2 j k hj hk e)⟩, (r3 _ _ (by decide) (by decide)).trans h8, Nat.zero_le _, fun k hk => absurd hk (Nat.not_lt_zero _)⟩
theorem MH_k0 {κ μ : Mu} {c : CS} (hx : MX μ c) (h : KG0 κ μ) : MH κ (hH c) (hN c) := KG0.mh hx.2.1 h
section MODL
variable {l : Launch} {E : EV} {D : va_G} {cA : Nat → ClassId} {fin : Option Value → Mu → Prop} {μ : Mu} {d : Nat}
set_option maxRecDepth 100000 in
set_option maxHeartbeats 4000000 in
theorem m_fault {c : CS} (hw : CW c) (hx : MX μ c) (hf : ∀ ν : Mu, MX ν (o_fault c).2 → SX ν μ → fin (some (.int (o_fault c).1)) ν) : PS l E D cA mX6_fault (d + 5) fin 0 [some (.ref 227)] [] μ := by
  have hq := hx
  refine pw_aload_n dX6_fault_0 rfl ?_
  refine ps_callV (b := 227) (As := []) (st := []) dX6_fault_1 cv_X6_158 rfl ⟨by decide, by decide +kernel⟩ (Nat.le_of_ble_eq_true rfl) (Nat.le_of_ble_eq_true rfl) ?_
  refine m_isWell hx.2.2.2 (fun ν n1 n2 n3 => ?_)
  show PS l E D cA mX6_fault (d + 5) fin 4 [some (.ref 227)] [.int (kb (ffp (pD c) (pL c) = none))] ν
  have hz : MX ν c := hx.kg n3.kg (fun k hk => (n3 _ _ (by decide) (by omega)).trans (hx.1 k hk))
  have e9 : o_fault c = (eF (ffp (pD c) (pL c)), c) := rfl
  rw [e9] at hf
  cases hv : ffp (pD c) (pL c) with
  | none =>
    rw [kb_t rfl]
    rw [hv] at hf
    refine pw_if_eq (tgt := 12) dX6_fault_4 (by decide) (fun h9 => absurd h9 nI1_ne) (fun _ => ?_)
    refine pw_ldc dX6_fault_7 kc_X6_99 ?_
    refine pw_goto (tgt := 16) dX6_fault_9 (by decide) ?_
    exact ps_iret dX6_fault_16 rfl (rfl) (hf ν hz n3.kg.sx')
  | some i =>
    rw [kb_f (by simp)]
    rw [hv] at hf
    refine pw_if_eq (tgt := 12) dX6_fault_4 (by decide) (fun _ => ?_) (fun h9 => absurd nI_0 h9)
    refine pw_aload_n dX6_fault_12 rfl ?_
    refine ps_geti (x := nI i) dX6_fault_13 kf_X6_222 (by decide) (by decide +kernel) (n2 i hv) ?_
    exact ps_iret dX6_fault_16 rfl (rfl) (hf ν hz n3.kg.sx')
set_option maxRecDepth 100000 in
set_option maxHeartbeats 4000000 in
theorem m_team {c : CS} (hw : CW c) (hx : MX μ c) {v : Int32} (hf : ∀ ν : Mu, MX ν (o_team c v).2 → SX ν μ → fin (some (.int (o_team c v).1)) ν) : PS l E D cA mX6_team (d + 5) fin 0 [some (.ref 227), some (.int v), none] [] μ := by
  have hq := hx
  refine pw_iload_n dX6_team_0 rfl ?_
  refine pw_i2l dX6_team_1 rfl ?_
  refine pw_iconst_ (v := nI 0) dX6_team_2 (by decide) ?_
  refine pw_sipush (v := nI 200) dX6_team_3 (by decide) ?_
  refine ps_callS (As := [.long v.toInt64, .int (nI 0), .int (nI 200)]) (st := []) dX6_team_6 cs_X6_65 rfl (Nat.le_of_ble_eq_true rfl) (Nat.le_of_ble_eq_true rfl) ?_
  refine m_in ?_
  refine pw_if_ne (tgt := 15) dX6_team_9 (by decide) (fun h9 => ?_) (fun h9 => ?_)
  · have h1 := kb_ne0.mp h9
    obtain ⟨k, hk200, rfl⟩ := (rg_to (by decide)).mp h1
    have hkn : iN (nI k) = k := iN_nI (by omega)
    have t6 := hw.1.t6
    refine pw_aload_n dX6_team_15 rfl ?_
    refine ps_callV (b := 227) (As := []) (st := []) dX6_team_16 cv_X6_158 rfl ⟨by decide, by decide +kernel⟩ (Nat.le_of_ble_eq_true rfl) (Nat.le_of_ble_eq_true rfl) ?_
    refine m_isWell hx.2.2.2 (fun ν n1 n2 n3 => ?_)
    show PS l E D cA mX6_team (d + 5) fin 19 [some (.ref 227), some (.int (nI k)), none] [.int (kb (ffp (pD c) (pL c) = none))] ν
    have hz : MX ν c := hx.kg n3.kg (fun k hk => (n3 _ _ (by decide) (by omega)).trans (hx.1 k hk))
    refine pw_if_ne (tgt := 25) dX6_team_19 (by decide) (fun h9 => ?_) (fun h9 => ?_)
    · have h2 := kb_ne0.mp h9
      obtain ⟨n4, n5⟩ := n1 h2
      refine pw_aload_n dX6_team_25 rfl ?_
      refine ps_getr (r := 228) dX6_team_26 kf_X6_7 (by decide) (by decide +kernel) ?_
      refine pw_iconst_ (v := nI 3) dX6_team_29 (by decide) ?_
      refine ps_iald (j := 3) (x := nI (na c 3)) dX6_team_30 rfl (ok_ar (n := 108) (by decide +kernel) (by decide)) (hz.1 3 (by decide)) ?_
      refine px_istore_n (ls' := [some (.ref 227), some (.int (nI k)), some (.int (nI (na c 3)))]) dX6_team_31 rfl rfl (by decide) ?_
      refine pw_iload_n dX6_team_32 rfl ?_
      refine pw_bipush (v := nI 6) dX6_team_33 (by decide) ?_
      refine pn_ne (tgt := 41) dX6_team_35 (by decide) (by omega) (by omega) (fun h3 => ?_) (fun h3 => ?_)
      · obtain ⟨t, ht⟩ : ∃ t, t = na c 3 := ⟨_, rfl⟩
        rw [← ht]
        have t5 : t < 6 := by omega
        refine pw_aload_n dX6_team_41 rfl ?_
        refine ps_callV (b := 227) (As := []) (st := []) dX6_team_42 cv_X6_75 rfl ⟨by decide, by decide +kernel⟩ (Nat.le_of_ble_eq_true rfl) (Nat.le_of_ble_eq_true rfl) ?_
        refine m_remember (fun κ k1 k2 => ?_)
        show PS l E D cA mX6_team (d + 5) fin 45 [some (.ref 227), some (.int (nI k)), some (.int (nI t))] [] κ
        refine pw_aload_n dX6_team_45 rfl ?_
        refine pw_iload_n dX6_team_46 rfl ?_
        refine pw_iconst_ (v := nI 0) dX6_team_47 (by decide) ?_
        refine pw_iload_n dX6_team_48 rfl ?_
        have hr : RM κ (na c) := fun j hj => (k2 _ _ (by decide)).trans (hz.1 j hj)
        have hb : ∀ j, j < 108 → κ 230 j = nI (na c j) := fun j hj => (k1 j hj).trans (hz.1 j hj)
        refine ps_callV (b := 227) (As := [.int (nI t), .int (nI 0), .int (nI k)]) (st := []) dX6_team_49 cv_X6_151 rfl ⟨by decide, by decide +kernel⟩ (Nat.le_of_ble_eq_true rfl) (Nat.le_of_ble_eq_true rfl) ?_
        refine m_lay (t := t) (w := 0) (by omega) ?_
        rw [show 36 + 12 * t + 0 = 36 + 12 * t by omega]
        show PS l E D cA mX6_team (d + 5) fin 52 [some (.ref 227), some (.int (nI k)), some (.int (nI t))] [] (u2 κ 228 (36 + 12 * t) (nI k))
        refine pw_aload_n dX6_team_52 rfl ?_
        refine pw_iload_n dX6_team_53 rfl ?_
        refine pw_iconst_ (v := nI 1) dX6_team_54 (by decide) ?_
        refine pw_iconst_ (v := nI 0) dX6_team_55 (by decide) ?_
        refine ps_callV (b := 227) (As := [.int (nI t), .int (nI 1), .int (nI 0)]) (st := []) dX6_team_56 cv_X6_151 rfl ⟨by decide, by decide +kernel⟩ (Nat.le_of_ble_eq_true rfl) (Nat.le_of_ble_eq_true rfl) ?_
        refine m_lay (t := t) (w := 1) (by omega) ?_
        rw [show 36 + 12 * t + 1 = 37 + 12 * t by omega]
        show PS l E D cA mX6_team (d + 5) fin 59 [some (.ref 227), some (.int (nI k)), some (.int (nI t))] [] (u2 (u2 κ 228 (36 + 12 * t) (nI k)) 228 (37 + 12 * t) (nI 0))
        refine pw_aload_n dX6_team_59 rfl ?_
        refine pw_iload_n dX6_team_60 rfl ?_
        refine pw_iconst_ (v := nI 2) dX6_team_61 (by decide) ?_
        refine pw_iconst_ (v := nI 0) dX6_team_62 (by decide) ?_
        refine ps_callV (b := 227) (As := [.int (nI t), .int (nI 2), .int (nI 0)]) (st := []) dX6_team_63 cv_X6_151 rfl ⟨by decide, by decide +kernel⟩ (Nat.le_of_ble_eq_true rfl) (Nat.le_of_ble_eq_true rfl) ?_
        refine m_lay (t := t) (w := 2) (by omega) ?_
        rw [show 36 + 12 * t + 2 = 38 + 12 * t by omega]
        show PS l E D cA mX6_team (d + 5) fin 66 [some (.ref 227), some (.int (nI k)), some (.int (nI t))] [] (u2 (u2 (u2 κ 228 (36 + 12 * t) (nI k)) 228 (37 + 12 * t) (nI 0)) 228 (38 + 12 * t) (nI 0))
        refine pw_aload_n dX6_team_66 rfl ?_
        refine pw_iload_n dX6_team_67 rfl ?_
        have r3 : RM (u2 (u2 (u2 κ 228 (36 + 12 * t) (nI k)) 228 (37 + 12 * t) (nI 0)) 228 (38 + 12 * t) (nI 0)) (up1 (up1 (up1 (na c) (36 + 12 * t) k) (37 + 12 * t) 0) (38 + 12 * t) 0) := hr.up.up.up
        have hfn := ffp_none h2
        refine ps_callV (b := 227) (As := [.int (nI t)]) (st := []) dX6_team_68 cv_X6_164 rfl ⟨by decide, by decide +kernel⟩ (Nat.le_of_ble_eq_true rfl) (Nat.le_of_ble_eq_true rfl) ?_
        refine m_takeRoute (ln := pL c) (pd := pD c) t5 ?_ hfn.2.2.1 (fun j hj => ?_) r3 (fun σ s1 s2 s3 => ?_)
        · exact (u2_a (by decide)).trans ((u2_a (by decide)).trans ((u2_a (by decide)).trans ((k2 _ _ (by decide)).trans n4)))
        · exact (u2_a (by decide)).trans ((u2_a (by decide)).trans ((u2_a (by decide)).trans ((k2 _ _ (by decide)).trans (n5 j hj))))
        show PS l E D cA mX6_team (d + 5) fin 71 [some (.ref 227), some (.int (nI k)), some (.int (nI t))] [] σ
        refine pw_aload_n dX6_team_71 rfl ?_
        refine ps_getr (r := 228) dX6_team_72 kf_X6_7 (by decide) (by decide +kernel) ?_
        refine pw_iconst_ (v := nI 3) dX6_team_75 (by decide) ?_
        refine pw_dup2 dX6_team_76 rfl rfl ?_
        refine ps_iald (j := 3) (x := nI t) dX6_team_77 rfl (ok_ar (n := 108) (by decide +kernel) (by decide)) ((s1 3 (by decide)).trans (by rw [tk_n (by omega), up1_n (by omega), up1_n (by omega), up1_n (by omega), ← ht])) ?_
        refine pw_iconst_ (v := nI 1) dX6_team_78 (by decide) ?_
        refine px_iaddn (c := t + 1) dX6_team_79 (by omega) ?_
        refine ps_iast (j := 3) dX6_team_80 rfl (ok_ar (n := 108) (by decide +kernel) (by decide)) ?_
        refine pw_aload_n dX6_team_81 rfl ?_
        refine pw_iload_n dX6_team_82 rfl ?_
        have e9 : o_team c (nI k) = (nI t, pad0 (cnow (crec c) (newt (na c) k (pD c) (pL c)))) := by
          unfold o_team
          rw [if_pos h1, if_pos h2, if_neg (by omega), hkn, ht]
        rw [e9] at hf
        have hsig : ∀ q j, q ≠ 228 → (q = 227 → j ≠ 8) → σ q j = κ q j := fun q j g1 g2 => (s3 q j g1 g2).trans (by rw [u2_a g1, u2_a g1, u2_a g1])
        have hkg : KG0 (u2 σ 228 3 (nI (t + 1))) ν := fun q j g => by
          rw [u2_a (by omega), hsig q j (by omega) (by omega)]
          exact k2 q j (by omega)
        have r4 : RM (u2 σ 228 3 (nI (t + 1))) (newt (na c) k (pD c) (pL c)) := fun j hj => by
          unfold newt
          rw [← ht]
          by_cases e3 : j = 3
          · rw [e3, u2_s, up1_s]
          · rw [u2_b e3, up1_n e3, s1 j hj]
            congr 1
            by_cases e1 : 36 + 12 * t ≤ j ∧ j < 39 + 12 * t
            · rw [tk_n (by omega)]
              rcases (show j = 36 + 12 * t ∨ j = 37 + 12 * t ∨ j = 38 + 12 * t by omega) with rfl | rfl | rfl
              · rw [up1_n (by omega), up1_n (by omega), up1_s, up1_n (by omega), up1_n (by omega), up1_s]
              · rw [up1_n (by omega), up1_s, up1_n (by omega), up1_s]
              · rw [up1_s, up1_s]
            · rw [up1_n (by omega : j ≠ 38 + 12 * t), up1_n (by omega : j ≠ 37 + 12 * t), up1_n (by omega : j ≠ 36 + 12 * t)]
              unfold tk
              rw [up1_n (by omega : j ≠ 38 + 12 * t), up1_n (by omega : j ≠ 37 + 12 * t), up1_n (by omega : j ≠ 36 + 12 * t)]
        refine ps_callV (b := 227) (As := [.int (nI t)]) (st := []) dX6_team_83 cv_X6_78 rfl ⟨by decide, by decide +kernel⟩ (Nat.le_of_ble_eq_true rfl) (Nat.le_of_ble_eq_true rfl) ?_
        refine m_record (a := na c) (MH_k0 hz hkg) (fun j hj => by rw [u2_a (by decide), hsig _ _ (by decide) (by omega)]; exact hb j hj) (fun ρ r5 r6 => ?_)
        show PS l E D cA mX6_team (d + 5) fin 86 [some (.ref 227), some (.int (nI k)), some (.int (nI t))] [.int (nI t)] ρ
        exact ps_iret dX6_team_86 rfl (rfl) (hf ρ (hz.rec0 hkg ((u2_a (by decide)).trans s2) r4 r5 r6) (fun q j g => ((hkg.sx r6) q j g).trans (n3.kg.sx' q j g)))
      · refine pw_ldc dX6_team_38 kc_X6_163 ?_
        have e9 : o_team c (nI k) = (-100004, c) := by
          unfold o_team
          rw [if_pos h1, if_pos h2, if_pos (by omega)]
        rw [e9] at hf
        exact ps_iret dX6_team_40 rfl (rfl) (hf ν hz n3.kg.sx')
    · have h2 := kb_eq0.mp h9
      refine pw_ldc dX6_team_22 kc_X6_162 ?_
      have e9 : o_team c (nI k) = (-100003, c) := by
        unfold o_team
        rw [if_pos h1, if_neg h2]
      rw [e9] at hf
      exact ps_iret dX6_team_24 rfl (rfl) (hf ν hz n3.kg.sx')
  · have h1 := kb_eq0.mp h9
    refine pw_ldc dX6_team_12 kc_X6_74 ?_
    have e9 : o_team c v = ((-100002), c) := by
      unfold o_team
      rw [if_neg h1]
    rw [e9] at hf
    exact ps_iret dX6_team_14 rfl (rfl) (hf _ hx SX.rfl)
end MODL
