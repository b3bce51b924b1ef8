/-! changes: hint, lose, turn, exchange -/
theorem rg_lt {w : Int32} {lo n : Nat} (hl : lo < 2 ^ 30) (hn : n < 2 ^ 30) (h1 : ¬ w < nI lo) (h2 : w < nI n) : ∃ b : Nat, lo ≤ b ∧ b < n ∧ w = nI b := by
  have h1 := Int32.not_lt.mp h1
  rw [Int32.le_iff_toInt_le, nI_toInt (by omega)] at h1
  rw [Int32.lt_iff_toInt_lt, nI_toInt (by omega)] at h2
  refine ⟨w.toInt.toNat, by omega, by omega, ?_⟩
  apply Int32.toInt_inj.mp
  rw [nI_toInt (by omega)]
  omega
theorem lose_of {w : Int32} (h : w = -1 ∨ inR w 7) : ∃ v : Nat, v ≤ 8 ∧ w = nI v - nI 1 ∧ iN (w + nI 1) = v := by
  rcases h with rfl | h
  · exact ⟨0, by decide, by decide, by decide⟩
  · obtain ⟨p, hp, rfl⟩ := (rg_to (by decide)).mp h
    have : ∀ p, p < 8 → nI p = nI (p + 1) - nI 1 ∧ iN (nI p + nI 1) = p + 1 := by decide
    exact ⟨p + 1, by omega, (this p (by omega)).1, (this p (by omega)).2⟩
section CHGC
variable {l : Launch} {E : EY} {D : va_G} {cA : Nat → ClassId} {fin : Option Value → Mu → Prop} {μ : Mu} {d : Nat}
set_option maxRecDepth 100000 in
set_option maxHeartbeats 4000000 in
theorem x_hint {c : CS} (hw : CW c) (hx : CX μ c) {v w z : Int32} (hf : ∀ ν : Mu, CX ν (o_hint c v w z).2 → SM ν μ → fin (some (.int (o_hint c v w z).1)) ν) : PS l E D cA mX5_hint (d + 6) fin 0 [some (.ref 0), some (.int v), some (.int w), some (.int z)] [] μ := by
  have hq := hx
  refine pw_aload_n dX5_hint_0 rfl ?_
  refine pw_iload_n dX5_hint_1 rfl ?_
  refine ps_callV (b := 0) (As := [.int v]) (st := []) dX5_hint_2 cv_X5_121 rfl ⟨by decide, by decide +kernel⟩ (Nat.le_of_ble_eq_true rfl) (Nat.le_of_ble_eq_true rfl) ?_
  refine c_isTeam hx.1.2.1 ?_
  refine pw_if_eq (tgt := 15) dX5_hint_5 (by decide) (fun h9 => ?_) (fun h9 => ?_)
  · have h1 := kb_eq0.mp h9
    refine pw_ldc dX5_hint_15 kc_X5_71 ?_
    have e9 : o_hint c v w z = ((-100001), c) := by
      unfold o_hint
      rw [if_neg h1]
    rw [e9] at hf
    exact ps_iret dX5_hint_17 rfl (rfl) (hf _ hx SM.rfl)
  · have h1 := kb_ne0.mp h9
    obtain ⟨t, ht, rfl⟩ := (rg_nat (by have := hw.1.t6; omega)).mp h1
    have t6 : t < 6 := Nat.lt_of_lt_of_le ht hw.1.t6
    have htn : iN (nI t) = t := iN_nI (by omega)
    refine pw_iload_n dX5_hint_8 rfl ?_
    refine ps_callS (As := [.int w]) (st := []) dX5_hint_9 cs_X5_67 rfl (Nat.le_of_ble_eq_true rfl) (Nat.le_of_ble_eq_true rfl) ?_
    refine c_isPlace ?_
    refine pw_if_ne (tgt := 18) dX5_hint_12 (by decide) (fun h9 => ?_) (fun h9 => ?_)
    · have h2 := kb_ne0.mp h9
      obtain ⟨p, hp, rfl⟩ := (rg_to (by decide)).mp h2
      have hp8 : p < 8 := by omega
      have hpn : iN (nI p) = p := iN_nI (by omega)
      have hT := hx.1.2.2.2.2 t ht
      have hW := hw.1.tm ht
      refine pw_aload_n dX5_hint_18 rfl ?_
      refine ps_getr (r := 1) dX5_hint_19 kf_X5_10 (by decide) (by decide +kernel) ?_
      refine ps_getr (r := 6) dX5_hint_22 kf_X5_102 (by decide) (by decide +kernel) ?_
      refine pw_iload_n dX5_hint_25 rfl ?_
      refine ps_aald (t := 5) (j := t) (r := 7 + 2 * t) dX5_hint_26 rfl (ok_T (by unfold isS; decide : isS 1) (by omega)).1 (by decide) ?_
      refine pw_iload_n dX5_hint_27 rfl ?_
      refine ps_callV (b := 7 + 2 * t) (As := [.int (nI p)]) (st := []) dX5_hint_28 cv_X5_131 rfl ⟨(okk_of (ok_T (by unfold isS; decide : isS 1) (by omega)).2.1).1, (okk_of (ok_T (by unfold isS; decide : isS 1) (by omega)).2.1).2.1⟩ (Nat.le_of_ble_eq_true rfl) (Nat.le_of_ble_eq_true rfl) ?_
      refine c_T_hasHint (s := 1) isS_1 t6 hW.2.1 hp8 hT.2.2.1 ?_
      refine pw_iload_n dX5_hint_31 rfl ?_
      refine pw_icmp_ne (tgt := 38) dX5_hint_32 (by decide) (fun h3 => ?_) (fun h3 => ?_)
      · refine pw_aload_n dX5_hint_38 rfl ?_
        refine ps_getr (r := 79) dX5_hint_39 kf_X5_36 (by decide) (by decide +kernel) ?_
        refine pw_aload_n dX5_hint_42 rfl ?_
        refine ps_getr (r := 1) dX5_hint_43 kf_X5_10 (by decide) (by decide +kernel) ?_
        refine ps_callV (b := 79) (As := [.ref 1]) (st := []) dX5_hint_46 cv_X5_60 rfl ⟨by decide, by decide +kernel⟩ (Nat.le_of_ble_eq_true rfl) (Nat.le_of_ble_eq_true rfl) ?_
        refine c_record hw.1.t6 (fun j hj => (hw.2.1 j hj).t6) hx.1 hx.2.1 ?_
        intro ν hR ν9
        have hz := hx.rec hw hR ν9
        have hwz := hw.rec
        have hS : SM ν μ := fun q k g => ν9 q k (by omega) (by omega)
        show PS l E D cA mX5_hint (d + 6) fin 49 [some (.ref 0), some (.int (nI t)), some (.int (nI p)), some (.int z)] [] ν
        refine pw_aload_n dX5_hint_49 rfl ?_
        refine ps_getr (r := 1) dX5_hint_50 kf_X5_10 (by decide) (by decide +kernel) ?_
        refine ps_getr (r := 6) dX5_hint_53 kf_X5_102 (by decide) (by decide +kernel) ?_
        refine pw_iload_n dX5_hint_56 rfl ?_
        refine ps_aald (t := 5) (j := t) (r := 7 + 2 * t) dX5_hint_57 rfl (ok_T (by unfold isS; decide : isS 1) (by omega)).1 (by decide) ?_
        refine pw_aload_n dX5_hint_58 rfl ?_
        refine ps_getr (r := 1) dX5_hint_59 kf_X5_10 (by decide) (by decide +kernel) ?_
        refine ps_getr (r := 6) dX5_hint_62 kf_X5_102 (by decide) (by decide +kernel) ?_
        refine pw_iload_n dX5_hint_65 rfl ?_
        refine ps_aald (t := 5) (j := t) (r := 7 + 2 * t) dX5_hint_66 rfl (ok_T (by unfold isS; decide : isS 1) (by omega)).1 (by decide) ?_
        refine ps_geti (x := nI (na c (37 + 12 * t))) dX5_hint_67 kf_X5_115 (by decide) ((ok_T (by unfold isS; decide : isS 1) (by omega)).2.2.2.2.1) (hz.1.2.2.2.2 t ht).2.2.1 ?_
        refine pw_iconst_ (v := nI 1) dX5_hint_70 (by decide) ?_
        refine pw_iload_n dX5_hint_71 rfl ?_
        refine pw_ishl dX5_hint_72 ?_
        refine pw_ixor dX5_hint_73 ?_
        rw [(bit_xor _ hW.2.1 p hp8).1]
        refine ps_puti dX5_hint_74 kf_X5_115 (by decide) rfl ((ok_T (by unfold isS; decide : isS 1) (by omega)).2.2.2.2.1) ?_
        refine pw_aload_n dX5_hint_77 rfl ?_
        refine pw_iload_n dX5_hint_78 rfl ?_
        have wfb : Wf (up1 (na c) (37 + 12 * t) (na c (37 + 12 * t) ^^^ 2 ^ p)) := wf_team hw.1 ht (Or.inr (Or.inl ⟨(bit_xor _ hW.2.1 p hp8).2, rfl⟩))
        have htb : t < (up1 (na c) (37 + 12 * t) (na c (37 + 12 * t) ^^^ 2 ^ p)) 3 := by rw [up1_n (by omega)]; exact ht
        have e9 : o_hint c (nI t) (nI p) z = (nI (edA (up1 (na c) (37 + 12 * t) (na c (37 + 12 * t) ^^^ 2 ^ p)) t), cnow (crec c) (up1 (na c) (37 + 12 * t) (na c (37 + 12 * t) ^^^ 2 ^ p))) := by
          unfold o_hint
          rw [if_pos h1, if_pos h2, htn, hpn, if_neg h3]
        rw [e9] at hf
        have hw2 : CW (cnow (crec c) (up1 (na c) (37 + 12 * t) (na c (37 + 12 * t) ^^^ 2 ^ p))) := hwz.now wfb
        have hx2 : CX (u2 ν (7 + 2 * t) 3 (nI (na c (37 + 12 * t) ^^^ 2 ^ p))) (cnow (crec c) (up1 (na c) (37 + 12 * t) (na c (37 + 12 * t) ^^^ 2 ^ p))) := hz.put hwz (RS.hints t6 hw.1 hz.1) (fun q k g => u2_a (by omega))
        have hS2 : SM (u2 ν (7 + 2 * t) 3 (nI (na c (37 + 12 * t) ^^^ 2 ^ p))) μ := (hS.up (by omega))
        refine ps_callV (b := 0) (As := [.int (nI t)]) (st := []) dX5_hint_79 cv_X5_134 rfl ⟨by decide, by decide +kernel⟩ (Nat.le_of_ble_eq_true rfl) (Nat.le_of_ble_eq_true rfl) ?_
        refine c_endNow (a := up1 (na c) (37 + 12 * t) (na c (37 + 12 * t) ^^^ 2 ^ p)) wfb hx2.1 htb ?_
        intro κ hP h0 hκ
        exact ps_iret dX5_hint_82 rfl (rfl) (hf κ (hx2.off hw2 (fun q k g1 g2 => hκ q k (by omega))) (SM.tr (fun q k g => hκ q k (by omega)) hS2))
      · refine pw_ldc dX5_hint_35 kc_X5_84 ?_
        have e9 : o_hint c (nI t) (nI p) z = ((-100005), c) := by
          unfold o_hint
          rw [if_pos h1, if_pos h2, htn, hpn, if_pos h3]
        rw [e9] at hf
        exact ps_iret dX5_hint_37 rfl (rfl) (hf _ hx SM.rfl)
    · have h2 := kb_eq0.mp h9
      refine pw_ldc dX5_hint_15 kc_X5_71 ?_
      have e9 : o_hint c (nI t) w z = ((-100001), c) := by
        unfold o_hint
        rw [if_pos h1, if_neg h2]
      rw [e9] at hf
      exact ps_iret dX5_hint_17 rfl (rfl) (hf _ hx SM.rfl)
set_option maxRecDepth 100000 in
set_option maxHeartbeats 4000000 in
theorem x_lose {c : CS} (hw : CW c) (hx : CX μ c) {v w : Int32} (hf : ∀ ν : Mu, CX ν (o_lose c v w).2 → SM ν μ → fin (some (.int (o_lose c v w).1)) ν) : PS l E D cA mX5_lose (d + 6) fin 0 [some (.ref 0), some (.int v), some (.int w)] [] μ := by
  have hq := hx
  refine pw_aload_n dX5_lose_0 rfl ?_
  refine pw_iload_n dX5_lose_1 rfl ?_
  refine ps_callV (b := 0) (As := [.int v]) (st := []) dX5_lose_2 cv_X5_121 rfl ⟨by decide, by decide +kernel⟩ (Nat.le_of_ble_eq_true rfl) (Nat.le_of_ble_eq_true rfl) ?_
  refine c_isTeam hx.1.2.1 ?_
  refine pw_if_eq (tgt := 20) dX5_lose_5 (by decide) (fun h9 => ?_) (fun h9 => ?_)
  · have h1 := kb_eq0.mp h9
    refine pw_ldc dX5_lose_20 kc_X5_71 ?_
    have e9 : o_lose c v w = ((-100001), c) := by
      unfold o_lose
      rw [if_neg h1]
    rw [e9] at hf
    exact ps_iret dX5_lose_22 rfl (rfl) (hf _ hx SM.rfl)
  · have h1 := kb_ne0.mp h9
    obtain ⟨t, ht, rfl⟩ := (rg_nat (by have := hw.1.t6; omega)).mp h1
    have t6 : t < 6 := Nat.lt_of_lt_of_le ht hw.1.t6
    have htn : iN (nI t) = t := iN_nI (by omega)
    refine pw_iload_n dX5_lose_8 rfl ?_
    refine pw_iconst_ (v := (-1)) dX5_lose_9 (by decide) ?_
    refine pw_icmp_eq (tgt := 23) dX5_lose_10 (by decide) (fun h3 => ?_) (fun h3 => ?_)
    · have h2 : w = -1 ∨ inR w 7 := Or.inl h3
      obtain ⟨k, hk8, hk, hkn⟩ := lose_of h2
      refine pw_aload_n dX5_lose_23 rfl ?_
      refine ps_getr (r := 79) dX5_lose_24 kf_X5_36 (by decide) (by decide +kernel) ?_
      refine pw_aload_n dX5_lose_27 rfl ?_
      refine ps_getr (r := 1) dX5_lose_28 kf_X5_10 (by decide) (by decide +kernel) ?_
      refine ps_callV (b := 79) (As := [.ref 1]) (st := []) dX5_lose_31 cv_X5_60 rfl ⟨by decide, by decide +kernel⟩ (Nat.le_of_ble_eq_true rfl) (Nat.le_of_ble_eq_true rfl) ?_
      refine c_record hw.1.t6 (fun j hj => (hw.2.1 j hj).t6) hx.1 hx.2.1 ?_
      intro ν hR ν9
      have hz := hx.rec hw hR ν9
      have hwz := hw.rec
      have hS : SM ν μ := fun q k g => ν9 q k (by omega) (by omega)
      show PS l E D cA mX5_lose (d + 6) fin 34 [some (.ref 0), some (.int (nI t)), some (.int w)] [] ν
      refine pw_aload_n dX5_lose_34 rfl ?_
      refine ps_getr (r := 1) dX5_lose_35 kf_X5_10 (by decide) (by decide +kernel) ?_
      refine ps_getr (r := 6) dX5_lose_38 kf_X5_102 (by decide) (by decide +kernel) ?_
      refine pw_iload_n dX5_lose_41 rfl ?_
      refine ps_aald (t := 5) (j := t) (r := 7 + 2 * t) dX5_lose_42 rfl (ok_T (by unfold isS; decide : isS 1) (by omega)).1 (by decide) ?_
      refine pw_iload_n dX5_lose_43 rfl ?_
      refine ps_puti dX5_lose_44 kf_X5_118 (by decide) rfl ((ok_T (by unfold isS; decide : isS 1) (by omega)).2.2.2.2.2.1) ?_
      refine pw_aload_n dX5_lose_47 rfl ?_
      refine pw_iload_n dX5_lose_48 rfl ?_
      have wfb : Wf (up1 (na c) (38 + 12 * t) k) := wf_team hw.1 ht (Or.inr (Or.inr ⟨hk8, rfl⟩))
      have htb : t < (up1 (na c) (38 + 12 * t) k) 3 := by rw [up1_n (by omega)]; exact ht
      have e9 : o_lose c (nI t) w = (nI (edA (up1 (na c) (38 + 12 * t) k) t), cnow (crec c) (up1 (na c) (38 + 12 * t) k)) := by
        unfold o_lose
        rw [if_pos h1, if_pos h2, htn, hkn]
      rw [e9] at hf
      have hw2 : CW (cnow (crec c) (up1 (na c) (38 + 12 * t) k)) := hwz.now wfb
      have hx2 : CX (u2 ν (7 + 2 * t) 4 w) (cnow (crec c) (up1 (na c) (38 + 12 * t) k)) := hz.put hwz (by rw [hk]; exact RS.lost t6 hw.1 hz.1) (fun q k g => u2_a (by omega))
      have hS2 : SM (u2 ν (7 + 2 * t) 4 w) μ := (hS.up (by omega))
      refine ps_callV (b := 0) (As := [.int (nI t)]) (st := []) dX5_lose_49 cv_X5_134 rfl ⟨by decide, by decide +kernel⟩ (Nat.le_of_ble_eq_true rfl) (Nat.le_of_ble_eq_true rfl) ?_
      refine c_endNow (a := up1 (na c) (38 + 12 * t) k) wfb hx2.1 htb ?_
      intro κ hP h0 hκ
      exact ps_iret dX5_lose_52 rfl (rfl) (hf κ (hx2.off hw2 (fun q k g1 g2 => hκ q k (by omega))) (SM.tr (fun q k g => hκ q k (by omega)) hS2))
    · refine pw_iload_n dX5_lose_13 rfl ?_
      refine ps_callS (As := [.int w]) (st := []) dX5_lose_14 cs_X5_67 rfl (Nat.le_of_ble_eq_true rfl) (Nat.le_of_ble_eq_true rfl) ?_
      refine c_isPlace ?_
      refine pw_if_ne (tgt := 23) dX5_lose_17 (by decide) (fun h9 => ?_) (fun h9 => ?_)
      · have h4 := kb_ne0.mp h9
        have h2 : w = -1 ∨ inR w 7 := Or.inr h4
        obtain ⟨k, hk8, hk, hkn⟩ := lose_of h2
        refine pw_aload_n dX5_lose_23 rfl ?_
        refine ps_getr (r := 79) dX5_lose_24 kf_X5_36 (by decide) (by decide +kernel) ?_
        refine pw_aload_n dX5_lose_27 rfl ?_
        refine ps_getr (r := 1) dX5_lose_28 kf_X5_10 (by decide) (by decide +kernel) ?_
        refine ps_callV (b := 79) (As := [.ref 1]) (st := []) dX5_lose_31 cv_X5_60 rfl ⟨by decide, by decide +kernel⟩ (Nat.le_of_ble_eq_true rfl) (Nat.le_of_ble_eq_true rfl) ?_
        refine c_record hw.1.t6 (fun j hj => (hw.2.1 j hj).t6) hx.1 hx.2.1 ?_
        intro ν hR ν9
        have hz := hx.rec hw hR ν9
        have hwz := hw.rec
        have hS : SM ν μ := fun q k g => ν9 q k (by omega) (by omega)
        show PS l E D cA mX5_lose (d + 6) fin 34 [some (.ref 0), some (.int (nI t)), some (.int w)] [] ν
        refine pw_aload_n dX5_lose_34 rfl ?_
        refine ps_getr (r := 1) dX5_lose_35 kf_X5_10 (by decide) (by decide +kernel) ?_
        refine ps_getr (r := 6) dX5_lose_38 kf_X5_102 (by decide) (by decide +kernel) ?_
        refine pw_iload_n dX5_lose_41 rfl ?_
        refine ps_aald (t := 5) (j := t) (r := 7 + 2 * t) dX5_lose_42 rfl (ok_T (by unfold isS; decide : isS 1) (by omega)).1 (by decide) ?_
        refine pw_iload_n dX5_lose_43 rfl ?_
        refine ps_puti dX5_lose_44 kf_X5_118 (by decide) rfl ((ok_T (by unfold isS; decide : isS 1) (by omega)).2.2.2.2.2.1) ?_
        refine pw_aload_n dX5_lose_47 rfl ?_
        refine pw_iload_n dX5_lose_48 rfl ?_
        have wfb : Wf (up1 (na c) (38 + 12 * t) k) := wf_team hw.1 ht (Or.inr (Or.inr ⟨hk8, rfl⟩))
        have htb : t < (up1 (na c) (38 + 12 * t) k) 3 := by rw [up1_n (by omega)]; exact ht
        have e9 : o_lose c (nI t) w = (nI (edA (up1 (na c) (38 + 12 * t) k) t), cnow (crec c) (up1 (na c) (38 + 12 * t) k)) := by
          unfold o_lose
          rw [if_pos h1, if_pos h2, htn, hkn]
        rw [e9] at hf
        have hw2 : CW (cnow (crec c) (up1 (na c) (38 + 12 * t) k)) := hwz.now wfb
        have hx2 : CX (u2 ν (7 + 2 * t) 4 w) (cnow (crec c) (up1 (na c) (38 + 12 * t) k)) := hz.put hwz (by rw [hk]; exact RS.lost t6 hw.1 hz.1) (fun q k g => u2_a (by omega))
        have hS2 : SM (u2 ν (7 + 2 * t) 4 w) μ := (hS.up (by omega))
        refine ps_callV (b := 0) (As := [.int (nI t)]) (st := []) dX5_lose_49 cv_X5_134 rfl ⟨by decide, by decide +kernel⟩ (Nat.le_of_ble_eq_true rfl) (Nat.le_of_ble_eq_true rfl) ?_
        refine c_endNow (a := up1 (na c) (38 + 12 * t) k) wfb hx2.1 htb ?_
        intro κ hP h0 hκ
        exact ps_iret dX5_lose_52 rfl (rfl) (hf κ (hx2.off hw2 (fun q k g1 g2 => hκ q k (by omega))) (SM.tr (fun q k g => hκ q k (by omega)) hS2))
      · have h4 := kb_eq0.mp h9
        refine pw_ldc dX5_lose_20 kc_X5_71 ?_
        have e9 : o_lose c (nI t) w = ((-100001), c) := by
          unfold o_lose
          rw [if_pos h1, if_neg (fun q => q.elim h3 h4)]
        rw [e9] at hf
        exact ps_iret dX5_lose_22 rfl (rfl) (hf _ hx SM.rfl)
set_option maxRecDepth 100000 in
set_option maxHeartbeats 4000000 in
theorem c_isInRoute {t n : Nat} {v : Int32} (ht : t < 6) (hn : μ (7 + 2 * t) 1 = nI n) (hf : fin (some (.int (kb (¬ v < nI 0 ∧ ¬ nI n - nI 1 < v)))) μ) : PS l E D cA mX5_isInRoute (d + 1) fin 0 [some (.ref 0), some (.int (nI t)), some (.int v)] [] μ := by
  refine pw_iload_n dX5_isInRoute_0 rfl ?_
  refine pw_iconst_ (v := nI 0) dX5_isInRoute_1 (by decide) ?_
  refine pw_aload_n dX5_isInRoute_2 rfl ?_
  refine ps_getr (r := 1) dX5_isInRoute_3 kf_X5_10 (by decide) (by decide +kernel) ?_
  refine ps_getr (r := 6) dX5_isInRoute_6 kf_X5_102 (by decide) (by decide +kernel) ?_
  refine pw_iload_n dX5_isInRoute_9 rfl ?_
  refine ps_aald (t := 5) (j := t) (r := 7 + 2 * t) dX5_isInRoute_10 rfl (ok_T (by unfold isS; decide : isS 1) ht).1 (by decide) ?_
  refine ps_geti (x := nI n) dX5_isInRoute_11 kf_X5_137 (by decide) ((ok_T (by unfold isS; decide : isS 1) ht).2.2.1) hn ?_
  refine pw_iconst_ (v := nI 1) dX5_isInRoute_14 (by decide) ?_
  refine pw_isub dX5_isInRoute_15 ?_
  refine ps_callS (As := [.int v, .int (nI 0), .int ((nI n) - (nI 1))]) (st := []) dX5_isInRoute_16 cs_X5_48 rfl (Nat.le_of_ble_eq_true rfl) (Nat.le_of_ble_eq_true rfl) ?_
  refine c_isFrom ?_
  exact ps_iret dX5_isInRoute_19 rfl (kb_nar) hf
set_option maxRecDepth 100000 in
set_option maxHeartbeats 4000000 in
theorem x_exchange {c : CS} (hw : CW c) (hx : CX μ c) {v x y : Int32} (hf : ∀ ν : Mu, CX ν (o_exchange c v x y).2 → SM ν μ → fin (some (.int (o_exchange c v x y).1)) ν) : PS l E D cA mX5_exchange (d + 6) fin 0 [some (.ref 0), some (.int v), some (.int x), some (.int y)] [] μ := by
  have hq := hx
  refine pw_aload_n dX5_exchange_0 rfl ?_
  refine pw_iload_n dX5_exchange_1 rfl ?_
  refine ps_callV (b := 0) (As := [.int v]) (st := []) dX5_exchange_2 cv_X5_121 rfl ⟨by decide, by decide +kernel⟩ (Nat.le_of_ble_eq_true rfl) (Nat.le_of_ble_eq_true rfl) ?_
  refine c_isTeam hx.1.2.1 ?_
  refine pw_if_eq (tgt := 26) dX5_exchange_5 (by decide) (fun h9 => ?_) (fun h9 => ?_)
  · have h1 := kb_eq0.mp h9
    refine pw_ldc dX5_exchange_26 kc_X5_71 ?_
    have e9 : o_exchange c v x y = ((-100001), c) := by
      unfold o_exchange
      rw [if_neg h1]
    rw [e9] at hf
    exact ps_iret dX5_exchange_28 rfl (rfl) (hf _ hx SM.rfl)
  · have h1 := kb_ne0.mp h9
    obtain ⟨t, ht, rfl⟩ := (rg_nat (by have := hw.1.t6; omega)).mp h1
    have t6 : t < 6 := Nat.lt_of_lt_of_le ht hw.1.t6
    have htn : iN (nI t) = t := iN_nI (by omega)
    have hT := hx.1.2.2.2.2 t ht
    have hW := hw.1.tm ht
    refine pw_aload_n dX5_exchange_8 rfl ?_
    refine pw_iload_n dX5_exchange_9 rfl ?_
    refine pw_iload_n dX5_exchange_10 rfl ?_
    refine ps_callV (b := 0) (As := [.int (nI t), .int x]) (st := []) dX5_exchange_11 cv_X5_147 rfl ⟨by decide, by decide +kernel⟩ (Nat.le_of_ble_eq_true rfl) (Nat.le_of_ble_eq_true rfl) ?_
    refine c_isInRoute t6 hT.1 ?_
    refine pw_if_eq (tgt := 26) dX5_exchange_14 (by decide) (fun h9 => ?_) (fun h9 => ?_)
    · have h2 := kb_eq0.mp h9
      refine pw_ldc dX5_exchange_26 kc_X5_71 ?_
      have e9 : o_exchange c (nI t) x y = ((-100001), c) := by
        unfold o_exchange
        rw [if_pos h1, htn, if_neg h2]
      rw [e9] at hf
      exact ps_iret dX5_exchange_28 rfl (rfl) (hf _ hx SM.rfl)
    · have h2 := kb_ne0.mp h9
      refine pw_aload_n dX5_exchange_17 rfl ?_
      refine pw_iload_n dX5_exchange_18 rfl ?_
      refine pw_iload_n dX5_exchange_19 rfl ?_
      refine ps_callV (b := 0) (As := [.int (nI t), .int y]) (st := []) dX5_exchange_20 cv_X5_147 rfl ⟨by decide, by decide +kernel⟩ (Nat.le_of_ble_eq_true rfl) (Nat.le_of_ble_eq_true rfl) ?_
      refine c_isInRoute t6 hT.1 ?_
      refine pw_if_ne (tgt := 29) dX5_exchange_23 (by decide) (fun h9 => ?_) (fun h9 => ?_)
      · have h3 := kb_ne0.mp h9
        refine pw_iload_n dX5_exchange_29 rfl ?_
        refine pw_iload_n dX5_exchange_30 rfl ?_
        refine pw_icmp_ne (tgt := 37) dX5_exchange_31 (by decide) (fun h4 => ?_) (fun h4 => ?_)
        · obtain ⟨i, hi, rfl⟩ := (rg_nat (by omega)).mp h2
          obtain ⟨j, hj, rfl⟩ := (rg_nat (by omega)).mp h3
          refine pw_aload_n dX5_exchange_37 rfl ?_
          refine ps_getr (r := 79) dX5_exchange_38 kf_X5_36 (by decide) (by decide +kernel) ?_
          refine pw_aload_n dX5_exchange_41 rfl ?_
          refine ps_getr (r := 1) dX5_exchange_42 kf_X5_10 (by decide) (by decide +kernel) ?_
          refine ps_callV (b := 79) (As := [.ref 1]) (st := []) dX5_exchange_45 cv_X5_60 rfl ⟨by decide, by decide +kernel⟩ (Nat.le_of_ble_eq_true rfl) (Nat.le_of_ble_eq_true rfl) ?_
          refine c_record hw.1.t6 (fun j hj => (hw.2.1 j hj).t6) hx.1 hx.2.1 ?_
          intro ν hR ν9
          have hz := hx.rec hw hR ν9
          have hwz := hw.rec
          have hS : SM ν μ := fun q k g => ν9 q k (by omega) (by omega)
          show PS l E D cA mX5_exchange (d + 6) fin 48 [some (.ref 0), some (.int (nI t)), some (.int (nI i)), some (.int (nI j))] [] ν
          refine pw_aload_n dX5_exchange_48 rfl ?_
          refine ps_getr (r := 1) dX5_exchange_49 kf_X5_10 (by decide) (by decide +kernel) ?_
          refine ps_getr (r := 6) dX5_exchange_52 kf_X5_102 (by decide) (by decide +kernel) ?_
          refine pw_iload_n dX5_exchange_55 rfl ?_
          refine ps_aald (t := 5) (j := t) (r := 7 + 2 * t) dX5_exchange_56 rfl (ok_T (by unfold isS; decide : isS 1) (by omega)).1 (by decide) ?_
          refine pw_iload_n dX5_exchange_57 rfl ?_
          refine pw_iload_n dX5_exchange_58 rfl ?_
          have hT2 := hz.1.2.2.2.2 t ht
          refine ps_callV (b := 7 + 2 * t) (As := [.int (nI i), .int (nI j)]) (st := []) dX5_exchange_59 cv_X5_151 rfl ⟨(okk_of (ok_T (by unfold isS; decide : isS 1) (by omega)).2.1).1, (okk_of (ok_T (by unfold isS; decide : isS 1) (by omega)).2.1).2.1⟩ (Nat.le_of_ble_eq_true rfl) (Nat.le_of_ble_eq_true rfl) ?_
          refine c_T_exchange (s := 1) isS_1 t6 (by omega) (by omega) (hT2.2.2.2.2 i hi) (hT2.2.2.2.2 j hj) ?_
          show PS l E D cA mX5_exchange (d + 6) fin 62 [some (.ref 0), some (.int (nI t)), some (.int (nI i)), some (.int (nI j))] [] (u2 (u2 ν (1 + 7 + 2 * t) i (nI (na c (40 + 12 * t + j)))) (1 + 7 + 2 * t) j (nI (na c (40 + 12 * t + i))))
          refine pw_aload_n dX5_exchange_62 rfl ?_
          refine pw_iload_n dX5_exchange_63 rfl ?_
          have wfb : Wf (xch (na c) t i j) := wf_rt hw.1 ht (fun k hk => by
            have q := hW.2.2.2.2
            simp only [up1]
            split
            · exact q i hi
            · split
              · exact q j hj
              · exact q k hk)
          have htb : t < (xch (na c) t i j) 3 := by unfold xch; rw [rt_n (by omega)]; exact ht
          have e9 : o_exchange c (nI t) (nI i) (nI j) = (nI (edA (xch (na c) t i j) t), cnow (crec c) (xch (na c) t i j)) := by
            unfold o_exchange
            rw [if_pos h1, htn, if_pos h2, if_pos h3, if_neg h4, iN_nI (by omega), iN_nI (by omega)]
          rw [e9] at hf
          have hrs : RS (u2 (u2 ν (1 + 7 + 2 * t) i (nI (na c (40 + 12 * t + j)))) (1 + 7 + 2 * t) j (nI (na c (40 + 12 * t + i)))) 1 (xch (na c) t i j) := RS.route ht hw.1 hz.1 (fun q k g => by rw [u2_a g, u2_a g]) (fun k hk => by
            simp only [up1]
            by_cases e : k = j
            · subst e
              rw [u2_s, if_pos rfl]
            · rw [u2_b e, if_neg e]
              by_cases e2 : k = i
              · subst e2
                rw [u2_s, if_pos rfl]
              · rw [u2_b e2, if_neg e2]
                exact hT2.2.2.2.2 k hk)
          have hw2 : CW (cnow (crec c) (xch (na c) t i j)) := hwz.now wfb
          have hx2 : CX (u2 (u2 ν (1 + 7 + 2 * t) i (nI (na c (40 + 12 * t + j)))) (1 + 7 + 2 * t) j (nI (na c (40 + 12 * t + i)))) (cnow (crec c) (xch (na c) t i j)) := hz.put hwz hrs (fun q k g => by rw [u2_a (by omega), u2_a (by omega)])
          have hS2 : SM (u2 (u2 ν (1 + 7 + 2 * t) i (nI (na c (40 + 12 * t + j)))) (1 + 7 + 2 * t) j (nI (na c (40 + 12 * t + i)))) μ := ((hS.up (by omega)).up (by omega))
          refine ps_callV (b := 0) (As := [.int (nI t)]) (st := []) dX5_exchange_64 cv_X5_134 rfl ⟨by decide, by decide +kernel⟩ (Nat.le_of_ble_eq_true rfl) (Nat.le_of_ble_eq_true rfl) ?_
          refine c_endNow (a := xch (na c) t i j) wfb hx2.1 htb ?_
          intro κ hP h0 hκ
          exact ps_iret dX5_exchange_67 rfl (rfl) (hf κ (hx2.off hw2 (fun q k g1 g2 => hκ q k (by omega))) (SM.tr (fun q k g => hκ q k (by omega)) hS2))
        · refine pw_ldc dX5_exchange_34 kc_X5_52 ?_
          have e9 : o_exchange c (nI t) x y = ((-100002), c) := by
            unfold o_exchange
            rw [if_pos h1, htn, if_pos h2, if_pos h3, if_pos h4]
          rw [e9] at hf
          exact ps_iret dX5_exchange_36 rfl (rfl) (hf _ hx SM.rfl)
      · have h3 := kb_eq0.mp h9
        refine pw_ldc dX5_exchange_26 kc_X5_71 ?_
        have e9 : o_exchange c (nI t) x y = ((-100001), c) := by
          unfold o_exchange
          rw [if_pos h1, htn, if_pos h2, if_neg h3]
        rw [e9] at hf
        exact ps_iret dX5_exchange_28 rfl (rfl) (hf _ hx SM.rfl)
end CHGC
