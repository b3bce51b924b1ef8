/-! changes: set, place, close -/
theorem rg_in {w : Int32} {lo hi : Nat} (hl : lo < 2 ^ 30) (hh : hi < 2 ^ 30) (h : ¬ w < nI lo ∧ ¬ nI hi < w) : ∃ k : Nat, lo ≤ k ∧ k ≤ hi ∧ w = nI k := by
  have h1 := Int32.not_lt.mp h.1
  have h2 := Int32.not_lt.mp h.2
  rw [Int32.le_iff_toInt_le, nI_toInt (by omega)] at h1 h2
  refine ⟨w.toInt.toNat, by omega, by omega, ?_⟩
  apply Int32.toInt_inj.mp
  rw [nI_toInt (by omega)]
  omega
def o_set (c : CS) (v w : Int32) : Int32 × CS := if inR v 2 then (if ¬ w < nI (loS (iN v)) ∧ ¬ nI (hiS (iN v)) < w then (nI (na c (iN v)), cnow (crec c) (up1 (na c) (iN v) (iN w))) else (-100002, c)) else (-100002, c)
theorem hiS_le (j : Nat) : hiS j ≤ 500 := by unfold hiS; repeat (first | split | omega)
theorem loS_le (j : Nat) : loS j ≤ 1 := by unfold loS; split <;> omega
/-- p of place p, x, y, look -/
def o_place (c : CS) (v x y z : Int32) : Int32 × CS := if inR v 7 then (if inR x 20 then (if inR y 20 then (if ¬ z < nI 1 ∧ ¬ nI 15 < z then (nI (na c (6 + 4 * iN v)), cnow (crec c) (up1 (up1 (up1 (na c) (4 + 4 * iN v) (iN x)) (5 + 4 * iN v) (iN y)) (6 + 4 * iN v) (iN z))) else (-100002, c)) else (-100002, c)) else (-100002, c)) else (-100001, c)
section CHG
variable {l : Launch} {E : EY} {D : va_G} {cA : Nat → ClassId} {fin : Option Value → Mu → Prop} {μ : Mu} {d : Nat}
set_option maxRecDepth 100000 in
set_option maxHeartbeats 4000000 in
theorem x_set {c : CS} (hw : CW c) (hx : CX μ c) (hE : ES E) {v w : Int32} (hf : ∀ ν : Mu, CX ν (o_set c v w).2 → SM ν μ → fin (some (.int (o_set c v w).1)) ν) : PS l E D cA mX5_set (d + 4) fin 0 [some (.ref 0), some (.int v), some (.int w), none] [] μ := by
  have hq := hx
  refine pw_iload_n dX5_set_0 rfl ?_
  refine pw_iconst_ (v := nI 0) dX5_set_1 (by decide) ?_
  refine pw_iconst_ (v := nI 2) dX5_set_2 (by decide) ?_
  refine ps_callS (As := [.int v, .int (nI 0), .int (nI 2)]) (st := []) dX5_set_3 cs_X5_48 rfl (Nat.le_of_ble_eq_true rfl) (Nat.le_of_ble_eq_true rfl) ?_
  refine c_isFrom ?_
  refine pw_if_ne (tgt := 12) dX5_set_6 (by decide) (fun h9 => ?_) (fun h9 => ?_)
  · have h1 := kb_ne0.mp h9
    obtain ⟨j, hj, rfl⟩ := (rg_to (by decide)).mp h1
    have hj3 : j < 3 := by omega
    have hjn : iN (nI j) = j := iN_nI (by omega)
    refine pw_iload_n dX5_set_12 rfl ?_
    refine pw_gets (k := 1) dX5_set_13 (by decide) ks_X5_53 ?_
    refine pw_iload_n dX5_set_16 rfl ?_
    refine ps_iald_s (k := 1) (j := j) (x := nI (loS j)) dX5_set_17 (by decide) (by omega) rfl (by rw [hE.2.1]; exact hj3) (hE.2.2.2 j hj3).2.1 ?_
    refine pw_gets (k := 2) dX5_set_18 (by decide) ks_X5_57 ?_
    refine pw_iload_n dX5_set_21 rfl ?_
    refine ps_iald_s (k := 2) (j := j) (x := nI (hiS j)) dX5_set_22 (by decide) (by omega) rfl (by rw [hE.2.2.1]; exact hj3) (hE.2.2.2 j hj3).2.2 ?_
    refine ps_callS (As := [.int w, .int (nI (loS j)), .int (nI (hiS j))]) (st := []) dX5_set_23 cs_X5_48 rfl (Nat.le_of_ble_eq_true rfl) (Nat.le_of_ble_eq_true rfl) ?_
    refine c_isFrom ?_
    refine pw_if_ne (tgt := 32) dX5_set_26 (by decide) (fun h9 => ?_) (fun h9 => ?_)
    · have h2 := kb_ne0.mp h9
      have l1 := hiS_le j
      have l2 := loS_le j
      obtain ⟨k, hk1, hk2, rfl⟩ := rg_in (by omega) (by omega) h2
      have hkn : iN (nI k) = k := iN_nI (by omega)
      refine pw_aload_n dX5_set_32 rfl ?_
      refine ps_getr (r := 79) dX5_set_33 kf_X5_36 (by decide) (by decide +kernel) ?_
      refine pw_aload_n dX5_set_36 rfl ?_
      refine ps_getr (r := 1) dX5_set_37 kf_X5_10 (by decide) (by decide +kernel) ?_
      refine ps_callV (b := 79) (As := [.ref 1]) (st := []) dX5_set_40 cv_X5_60 rfl ⟨by decide, by decide +kernel⟩ (Nat.le_of_ble_eq_true rfl) (Nat.le_of_ble_eq_true rfl) ?_
      refine c_record hw.1.t6 (fun j hj => (hw.2.1 j hj).t6) hx.1 hx.2.1 ?_
      intro ν hR ν9
      have hz := hx.rec hw hR ν9
      have hwz := hw.rec
      have hS : SM ν μ := fun q k g => ν9 q k (by omega) (by omega)
      show PS l E D cA mX5_set (d + 4) fin 43 [some (.ref 0), some (.int (nI j)), some (.int (nI k)), none] [] ν
      refine pw_aload_n dX5_set_43 rfl ?_
      refine ps_getr (r := 1) dX5_set_44 kf_X5_10 (by decide) (by decide +kernel) ?_
      refine ps_getr (r := 2) dX5_set_47 kf_X5_64 (by decide) (by decide +kernel) ?_
      refine pw_iload_n dX5_set_50 rfl ?_
      refine ps_iald (j := j) (x := nI (na c j)) dX5_set_51 rfl (ok_ar (n := 3) (by decide +kernel) (by omega)) (hz.1.1 j hj3) ?_
      refine px_istore_n (ls' := [some (.ref 0), some (.int (nI j)), some (.int (nI k)), some (.int (nI (na c j)))]) dX5_set_52 rfl rfl (by decide) ?_
      refine pw_aload_n dX5_set_53 rfl ?_
      refine ps_getr (r := 1) dX5_set_54 kf_X5_10 (by decide) (by decide +kernel) ?_
      refine ps_getr (r := 2) dX5_set_57 kf_X5_64 (by decide) (by decide +kernel) ?_
      refine pw_iload_n dX5_set_60 rfl ?_
      refine pw_iload_n dX5_set_61 rfl ?_
      refine ps_iast (j := j) dX5_set_62 rfl (ok_ar (n := 3) (by decide +kernel) (by omega)) ?_
      refine pw_iload_n dX5_set_63 rfl ?_
      have e9 : o_set c (nI j) (nI k) = (nI (na c j), cnow (crec c) (up1 (na c) j k)) := by
        unfold o_set
        rw [if_pos h1, hjn, if_pos h2, hkn]
      rw [e9] at hf
      exact ps_iret dX5_set_64 rfl (rfl) (hf _ ⟨RS.set hj3 hw.1 hz.1, CO.off (c := crec c) hwz (fun q k g1 g2 => u2_a (by omega)) hz.2⟩ (hS.up (by decide)))
    · have h2 := kb_eq0.mp h9
      refine pw_ldc dX5_set_29 kc_X5_52 ?_
      have e9 : o_set c (nI j) w = ((-100002), c) := by
        unfold o_set
        rw [if_pos h1, hjn, if_neg h2]
      rw [e9] at hf
      exact ps_iret dX5_set_31 rfl (rfl) (hf _ hx SM.rfl)
  · have h1 := kb_eq0.mp h9
    refine pw_ldc dX5_set_9 kc_X5_52 ?_
    have e9 : o_set c v w = ((-100002), c) := by
      unfold o_set
      rw [if_neg h1]
    rw [e9] at hf
    exact ps_iret dX5_set_11 rfl (rfl) (hf _ hx SM.rfl)
theorem wf_place {a : AS} {i v : Nat} (hw : Wf a) (h : (∃ p, p < 8 ∧ v ≤ 20 ∧ i = 4 + 4 * p) ∨ (∃ p, p < 8 ∧ v ≤ 20 ∧ i = 5 + 4 * p) ∨ (∃ p, p < 8 ∧ (1 ≤ v ∧ v ≤ 15) ∧ i = 6 + 4 * p) ∨ (∃ p, p < 8 ∧ v ≤ 1 ∧ i = 7 + 4 * p)) : Wf (up1 a i v) := by
  have hi : 4 ≤ i ∧ i < 36 := by rcases h with ⟨p, h1, h2, h3⟩ | ⟨p, h1, h2, h3⟩ | ⟨p, h1, h2, h3⟩ | ⟨p, h1, h2, h3⟩ <;> omega
  refine hw.up (by rw [up1_n (by omega)]; exact hw.1) (by rw [up1_n (by omega)]; exact hw.2.1) (by rw [up1_n (by omega)]; exact hw.2.2.1) (up1_n (by omega)) (fun p hp => ?_) (fun t _ j g1 g2 => up1_n (by omega))
  have q := hw.pl hp
  simp only [up1]
  rcases h with ⟨p, h1, h2, h3⟩ | ⟨p, h1, h2, h3⟩ | ⟨p, h1, h2, h3⟩ | ⟨p, h1, h2, h3⟩
  · refine ⟨?_, by rw [if_neg (by omega)]; omega, by rw [if_neg (by omega)]; omega, by rw [if_neg (by omega)]; omega⟩
    split <;> omega
  · refine ⟨by rw [if_neg (by omega)]; omega, ?_, by rw [if_neg (by omega)]; omega, by rw [if_neg (by omega)]; omega⟩
    split <;> omega
  · refine ⟨by rw [if_neg (by omega)]; omega, by rw [if_neg (by omega)]; omega, ?_, by rw [if_neg (by omega)]; omega⟩
    split <;> omega
  · refine ⟨by rw [if_neg (by omega)]; omega, by rw [if_neg (by omega)]; omega, by rw [if_neg (by omega)]; omega, ?_⟩
    split <;> omega
set_option maxRecDepth 100000 in
set_option maxHeartbeats 4000000 in
theorem x_place {c : CS} (hw : CW c) (hx : CX μ c) {v x y z : Int32} (hf : ∀ ν : Mu, CX ν (o_place c v x y z).2 → SM ν μ → fin (some (.int (o_place c v x y z).1)) ν) : PS l E D cA mX5_place (d + 4) fin 0 [some (.ref 0), some (.int v), some (.int x), some (.int y), some (.int z), none] [] μ := by
  have hq := hx
  refine pw_iload_n dX5_place_0 rfl ?_
  refine ps_callS (As := [.int v]) (st := []) dX5_place_1 cs_X5_67 rfl (Nat.le_of_ble_eq_true rfl) (Nat.le_of_ble_eq_true rfl) ?_
  refine c_isPlace ?_
  refine pw_if_ne (tgt := 10) dX5_place_4 (by decide) (fun h9 => ?_) (fun h9 => ?_)
  · have h1 := kb_ne0.mp h9
    obtain ⟨p, hp, rfl⟩ := (rg_to (by decide)).mp h1
    have hp8 : p < 8 := by omega
    have hpn : iN (nI p) = p := iN_nI (by omega)
    refine pw_iload_n dX5_place_10 rfl ?_
    refine pw_iconst_ (v := nI 0) dX5_place_11 (by decide) ?_
    refine pw_bipush (v := nI 20) dX5_place_12 (by decide) ?_
    refine ps_callS (As := [.int x, .int (nI 0), .int (nI 20)]) (st := []) dX5_place_14 cs_X5_48 rfl (Nat.le_of_ble_eq_true rfl) (Nat.le_of_ble_eq_true rfl) ?_
    refine c_isFrom ?_
    refine pw_if_eq (tgt := 41) dX5_place_17 (by decide) (fun h9 => ?_) (fun h9 => ?_)
    · have h2 := kb_eq0.mp h9
      refine pw_ldc dX5_place_41 kc_X5_52 ?_
      have e9 : o_place c (nI p) x y z = ((-100002), c) := by
        unfold o_place
        rw [if_pos h1, if_neg h2]
      rw [e9] at hf
      exact ps_iret dX5_place_43 rfl (rfl) (hf _ hx SM.rfl)
    · have h2 := kb_ne0.mp h9
      refine pw_iload_n dX5_place_20 rfl ?_
      refine pw_iconst_ (v := nI 0) dX5_place_21 (by decide) ?_
      refine pw_bipush (v := nI 20) dX5_place_22 (by decide) ?_
      refine ps_callS (As := [.int y, .int (nI 0), .int (nI 20)]) (st := []) dX5_place_24 cs_X5_48 rfl (Nat.le_of_ble_eq_true rfl) (Nat.le_of_ble_eq_true rfl) ?_
      refine c_isFrom ?_
      refine pw_if_eq (tgt := 41) dX5_place_27 (by decide) (fun h9 => ?_) (fun h9 => ?_)
      · have h3 := kb_eq0.mp h9
        refine pw_ldc dX5_place_41 kc_X5_52 ?_
        have e9 : o_place c (nI p) x y z = ((-100002), c) := by
          unfold o_place
          rw [if_pos h1, if_pos h2, if_neg h3]
        rw [e9] at hf
        exact ps_iret dX5_place_43 rfl (rfl) (hf _ hx SM.rfl)
      · have h3 := kb_ne0.mp h9
        refine pw_iload dX5_place_30 rfl ?_
        refine pw_iconst_ (v := nI 1) dX5_place_32 (by decide) ?_
        refine pw_bipush (v := nI 15) dX5_place_33 (by decide) ?_
        refine ps_callS (As := [.int z, .int (nI 1), .int (nI 15)]) (st := []) dX5_place_35 cs_X5_48 rfl (Nat.le_of_ble_eq_true rfl) (Nat.le_of_ble_eq_true rfl) ?_
        refine c_isFrom ?_
        refine pw_if_ne (tgt := 44) dX5_place_38 (by decide) (fun h9 => ?_) (fun h9 => ?_)
        · have h4 := kb_ne0.mp h9
          obtain ⟨x, hx1, rfl⟩ := (rg_to (by decide)).mp h2
          obtain ⟨y, hy1, rfl⟩ := (rg_to (by decide)).mp h3
          obtain ⟨z, hz1, hz2, rfl⟩ := rg_in (by decide) (by decide) h4
          refine pw_aload_n dX5_place_44 rfl ?_
          refine ps_getr (r := 79) dX5_place_45 kf_X5_36 (by decide) (by decide +kernel) ?_
          refine pw_aload_n dX5_place_48 rfl ?_
          refine ps_getr (r := 1) dX5_place_49 kf_X5_10 (by decide) (by decide +kernel) ?_
          refine ps_callV (b := 79) (As := [.ref 1]) (st := []) dX5_place_52 cv_X5_60 rfl ⟨by decide, by decide +kernel⟩ (Nat.le_of_ble_eq_true rfl) (Nat.le_of_ble_eq_true rfl) ?_
          refine c_record hw.1.t6 (fun j hj => (hw.2.1 j hj).t6) hx.1 hx.2.1 ?_
          intro ν hR ν9
          have hz := hx.rec hw hR ν9
          have hwz := hw.rec
          have hS : SM ν μ := fun q k g => ν9 q k (by omega) (by omega)
          show PS l E D cA mX5_place (d + 4) fin 55 [some (.ref 0), some (.int (nI p)), some (.int (nI x)), some (.int (nI y)), some (.int (nI z)), none] [] ν
          refine pw_aload_n dX5_place_55 rfl ?_
          refine ps_getr (r := 1) dX5_place_56 kf_X5_10 (by decide) (by decide +kernel) ?_
          refine ps_getr (r := 5) dX5_place_59 kf_X5_72 (by decide) (by decide +kernel) ?_
          refine pw_iload_n dX5_place_62 rfl ?_
          refine ps_iald (j := p) (x := nI (na c (6 + 4 * p))) dX5_place_63 rfl (ok_ar (n := 8) (by decide +kernel) (by omega)) (hz.1.2.2.1 p hp8).2.2 ?_
          refine px_istore (ls' := [some (.ref 0), some (.int (nI p)), some (.int (nI x)), some (.int (nI y)), some (.int (nI z)), some (.int (nI (na c (6 + 4 * p))))]) dX5_place_64 rfl rfl (by decide) ?_
          refine pw_aload_n dX5_place_66 rfl ?_
          refine ps_getr (r := 1) dX5_place_67 kf_X5_10 (by decide) (by decide +kernel) ?_
          refine ps_getr (r := 3) dX5_place_70 kf_X5_75 (by decide) (by decide +kernel) ?_
          refine pw_iload_n dX5_place_73 rfl ?_
          refine pw_iload_n dX5_place_74 rfl ?_
          refine ps_iast (j := p) dX5_place_75 rfl (ok_ar (n := 8) (by decide +kernel) (by omega)) ?_
          refine pw_aload_n dX5_place_76 rfl ?_
          refine ps_getr (r := 1) dX5_place_77 kf_X5_10 (by decide) (by decide +kernel) ?_
          refine ps_getr (r := 4) dX5_place_80 kf_X5_78 (by decide) (by decide +kernel) ?_
          refine pw_iload_n dX5_place_83 rfl ?_
          refine pw_iload_n dX5_place_84 rfl ?_
          refine ps_iast (j := p) dX5_place_85 rfl (ok_ar (n := 8) (by decide +kernel) (by omega)) ?_
          refine pw_aload_n dX5_place_86 rfl ?_
          refine ps_getr (r := 1) dX5_place_87 kf_X5_10 (by decide) (by decide +kernel) ?_
          refine ps_getr (r := 5) dX5_place_90 kf_X5_72 (by decide) (by decide +kernel) ?_
          refine pw_iload_n dX5_place_93 rfl ?_
          refine pw_iload dX5_place_94 rfl ?_
          refine ps_iast (j := p) dX5_place_96 rfl (ok_ar (n := 8) (by decide +kernel) (by omega)) ?_
          refine pw_iload dX5_place_97 rfl ?_
          have e9 : o_place c (nI p) (nI x) (nI y) (nI z) = (nI (na c (6 + 4 * p)), cnow (crec c) (up1 (up1 (up1 (na c) (4 + 4 * p) x) (5 + 4 * p) y) (6 + 4 * p) z)) := by
            unfold o_place
            rw [if_pos h1, if_pos h2, if_pos h3, if_pos h4, hpn, iN_nI (by omega), iN_nI (by omega), iN_nI (by omega)]
          rw [e9] at hf
          have w1 : Wf (up1 (na c) (4 + 4 * p) x) := wf_place hw.1 (Or.inl ⟨p, hp8, hx1, rfl⟩)
          have w2 : Wf (up1 (up1 (na c) (4 + 4 * p) x) (5 + 4 * p) y) := wf_place w1 (Or.inr (Or.inl ⟨p, hp8, hy1, rfl⟩))
          exact ps_iret dX5_place_99 rfl (rfl) (hf _ ⟨RS.looks hp8 w2 (RS.ys hp8 w1 (RS.xs hp8 hw.1 hz.1)), CO.off (c := crec c) hwz (fun q k g1 g2 => by rw [u2_a (by omega), u2_a (by omega), u2_a (by omega)]) hz.2⟩ (((hS.up (by decide)).up (by decide)).up (by decide)))
        · have h4 := kb_eq0.mp h9
          refine pw_ldc dX5_place_41 kc_X5_52 ?_
          have e9 : o_place c (nI p) x y z = ((-100002), c) := by
            unfold o_place
            rw [if_pos h1, if_pos h2, if_pos h3, if_neg h4]
          rw [e9] at hf
          exact ps_iret dX5_place_43 rfl (rfl) (hf _ hx SM.rfl)
  · have h1 := kb_eq0.mp h9
    refine pw_ldc dX5_place_7 kc_X5_71 ?_
    have e9 : o_place c v x y z = ((-100001), c) := by
      unfold o_place
      rw [if_neg h1]
    rw [e9] at hf
    exact ps_iret dX5_place_9 rfl (rfl) (hf _ hx SM.rfl)
theorem w_set {c : CS} {v w : Int32} (hw : CW c) : CW (o_set c v w).2 := by
  unfold o_set
  split
  · next h1 =>
    split
    · next h2 =>
      obtain ⟨j, hj, rfl⟩ := (rg_to (by decide)).mp h1
      rw [iN_nI (by omega)] at h2 ⊢
      have l1 := hiS_le j
      have l2 := loS_le j
      obtain ⟨k, hk1, hk2, rfl⟩ := rg_in (by omega) (by omega) h2
      rw [iN_nI (by omega)]
      refine hw.rec.now ?_
      have q := hw.1
      refine q.up ?_ ?_ ?_ (up1_n (by omega)) (fun p hp => by rw [up1_n (by omega), up1_n (by omega), up1_n (by omega), up1_n (by omega)]; exact q.pl hp) (fun t _ i g1 g2 => up1_n (by omega))
      · unfold hiS at hk2
        have := q.1
        simp only [up1]
        split
        · next e => rw [if_pos (by omega)] at hk2; exact hk2
        · exact q.1
      · unfold hiS at hk2
        simp only [up1]
        split
        · next e => rw [if_neg (by omega), if_pos (by omega)] at hk2; exact hk2
        · exact q.2.1
      · unfold hiS at hk2
        unfold loS at hk1
        simp only [up1]
        split
        · next e => rw [if_neg (by omega), if_neg (by omega)] at hk2; rw [if_pos (by omega)] at hk1; exact ⟨hk1, hk2⟩
        · exact q.2.2.1
    · exact hw
  · exact hw
theorem w_place {c : CS} {v x y z : Int32} (hw : CW c) : CW (o_place c v x y z).2 := by
  unfold o_place
  split
  · next h1 =>
    split
    · next h2 =>
      split
      · next h3 =>
        split
        · next h4 =>
          obtain ⟨p, hp, rfl⟩ := (rg_to (by decide)).mp h1
          obtain ⟨x, hx1, rfl⟩ := (rg_to (by decide)).mp h2
          obtain ⟨y, hy1, rfl⟩ := (rg_to (by decide)).mp h3
          obtain ⟨z, hz1, hz2, rfl⟩ := rg_in (by decide) (by decide) h4
          rw [iN_nI (by omega), iN_nI (by omega), iN_nI (by omega), iN_nI (by omega)]
          have hp8 : p < 8 := by omega
          exact hw.rec.now (wf_place (wf_place (wf_place hw.1 (Or.inl ⟨p, hp8, hx1, rfl⟩)) (Or.inr (Or.inl ⟨p, hp8, hy1, rfl⟩))) (Or.inr (Or.inr (Or.inl ⟨p, hp8, ⟨hz1, hz2⟩, rfl⟩))))
        · exact hw
      · exact hw
    · exact hw
  · exact hw
end CHG
