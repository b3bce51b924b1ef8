/-! the model: what there is at a place -/
section MODR
variable {l : Launch} {E : EV} {D : va_G} {cA : Nat → ClassId} {fin : Option Value → Mu → Prop} {μ : Mu} {d : Nat}
set_option maxRecDepth 100000 in
set_option maxHeartbeats 4000000 in
theorem m_atPlace {n : Nat} {a : AS} (hw : Wf a) (hna : n ≤ a 3) (hP : PM μ a n) {p : Nat} (hp : p < 8) {w : Nat} (hw7 : w ≤ 7) (hf : fin (some (.int (nI (if w = 4 then msk (fun t => (vis a t p).isSome) n else if w = 5 then smN (qat a n p) n else prs (fun t u => mtp a n t u p) n n)))) μ) : PS l E D cA mX6_atPlace (d + 2) fin 0 [some (.ref 227), some (.int (nI p)), some (.int (nI w)), none, none, none, none, none, none] [] μ := by
  have hn6 : n ≤ 6 := Nat.le_trans hna hw.2.2.2.1
  refine pw_iconst_ (v := nI 0) dX6_atPlace_0 (by decide) ?_
  refine px_istore_n (ls' := [some (.ref 227), some (.int (nI p)), some (.int (nI w)), some (.int (nI 0)), none, none, none, none, none]) dX6_atPlace_1 rfl rfl (by decide) ?_
  refine pw_iconst_ (v := nI 0) dX6_atPlace_2 (by decide) ?_
  refine px_istore (ls' := [some (.ref 227), some (.int (nI p)), some (.int (nI w)), some (.int (nI 0)), some (.int (nI 0)), none, none, none, none]) dX6_atPlace_3 rfl rfl (by decide) ?_
  refine pw_iconst_ (v := nI 0) dX6_atPlace_5 (by decide) ?_
  refine px_istore (ls' := [some (.ref 227), some (.int (nI p)), some (.int (nI w)), some (.int (nI 0)), some (.int (nI 0)), some (.int (nI 0)), none, none, none]) dX6_atPlace_6 rfl rfl (by decide) ?_
  refine pw_iconst_ (v := nI 0) dX6_atPlace_8 (by decide) ?_
  refine px_istore (ls' := [some (.ref 227), some (.int (nI p)), some (.int (nI w)), some (.int (nI 0)), some (.int (nI 0)), some (.int (nI 0)), some (.int (nI 0)), none, none]) dX6_atPlace_9 rfl rfl (by decide) ?_
  have lp : ∀ i : Nat, i ≤ n → ∀ (l7 l8 : Option Value), PS l E D cA mX6_atPlace (d + 2) fin 11 [some (.ref 227), some (.int (nI p)), some (.int (nI w)), some (.int (nI (msk (fun t => (vis a t p).isSome) i))), some (.int (nI (smN (qat a n p) i))), some (.int (nI (smN (fun t => cntN ((fun t u => mtp a n t u p) t) t) i))), some (.int (nI i)), l7, l8] [] μ := by
    refine ps_for _ ?_ ?_
    · intro l7 l8
      rw [← prs_sym (fun t u => mtp_sym a n t u p)]
      refine pw_iload dX6_atPlace_11 rfl ?_
      refine pw_aload_n dX6_atPlace_13 rfl ?_
      refine ps_geti (x := nI n) dX6_atPlace_14 kf_X6_82 (by decide) (by decide +kernel) (hP.1) ?_
      refine pn_ge (tgt := 107) dX6_atPlace_17 (by decide) (by omega) (by omega) (fun _ => ?_) (fun h9 => absurd h9 (by omega))
      refine pw_iload_n dX6_atPlace_107 rfl ?_
      refine pw_iconst_ (v := nI 4) dX6_atPlace_108 (by decide) ?_
      refine pn_ne (tgt := 116) dX6_atPlace_109 (by decide) (by omega) (by omega) (fun h4 => ?_) (fun h4 => ?_)
      · refine pw_iload_n dX6_atPlace_116 rfl ?_
        refine pw_iconst_ (v := nI 5) dX6_atPlace_117 (by decide) ?_
        refine pn_ne (tgt := 126) dX6_atPlace_118 (by decide) (by omega) (by omega) (fun h5 => ?_) (fun h5 => ?_)
        · refine pw_iload dX6_atPlace_126 rfl ?_
          exact ps_iret dX6_atPlace_128 rfl (rfl) (by rw [if_neg h4, if_neg h5] at hf; exact hf)
        · refine pw_iload dX6_atPlace_121 rfl ?_
          refine pw_goto (tgt := 128) dX6_atPlace_123 (by decide) ?_
          exact ps_iret dX6_atPlace_128 rfl (rfl) (by rw [if_neg h4, if_pos h5] at hf; exact hf)
      · refine pw_iload_n dX6_atPlace_112 rfl ?_
        refine pw_goto (tgt := 128) dX6_atPlace_113 (by decide) ?_
        exact ps_iret dX6_atPlace_128 rfl (rfl) (by rw [if_pos h4] at hf; exact hf)
    · intro i hi ih l7 l8
      have hPi := hP.t hw hna hi
      refine pw_iload dX6_atPlace_11 rfl ?_
      refine pw_aload_n dX6_atPlace_13 rfl ?_
      refine ps_geti (x := nI n) dX6_atPlace_14 kf_X6_82 (by decide) (by decide +kernel) (hP.1) ?_
      refine pn_ge (tgt := 107) dX6_atPlace_17 (by decide) (by omega) (by omega) (fun h9 => absurd h9 (by omega)) (fun _ => ?_)
      refine pw_aload_n dX6_atPlace_20 rfl ?_
      refine pw_iload dX6_atPlace_21 rfl ?_
      refine pw_iload_n dX6_atPlace_23 rfl ?_
      refine ps_callV (b := 227) (As := [.int (nI i), .int (nI p)]) (st := []) dX6_atPlace_24 cv_X6_115 rfl ⟨by decide, by decide +kernel⟩ (Nat.le_of_ble_eq_true rfl) (Nat.le_of_ble_eq_true rfl) ?_
      refine m_visitTo hw hna hP hi hp ?_
      show PS l E D cA mX6_atPlace (d + 2) fin 27 [some (.ref 227), some (.int (nI p)), some (.int (nI w)), some (.int (nI (msk (fun t => (vis a t p).isSome) i))), some (.int (nI (smN (qat a n p) i))), some (.int (nI (smN (fun t => cntN ((fun t u => mtp a n t u p) t) t) i))), some (.int (nI i)), l7, l8] [.int (eW i (vis a i p))] μ
      refine px_istore (ls' := [some (.ref 227), some (.int (nI p)), some (.int (nI w)), some (.int (nI (msk (fun t => (vis a t p).isSome) i))), some (.int (nI (smN (qat a n p) i))), some (.int (nI (smN (fun t => cntN ((fun t u => mtp a n t u p) t) t) i))), some (.int (nI i)), some (.int (eW i (vis a i p))), l8]) dX6_atPlace_27 rfl rfl (by decide) ?_
      have tail : ∀ x9 : Int32, PS l E D cA mX6_atPlace (d + 2) fin 63 [some (.ref 227), some (.int (nI p)), some (.int (nI w)), some (.int (nI (msk (fun t => (vis a t p).isSome) (i + 1)))), some (.int (nI (smN (qat a n p) (i + 1)))), some (.int (nI (smN (fun t => cntN ((fun t u => mtp a n t u p) t) t) i))), some (.int (nI i)), some (.int x9), l8] [] μ := by
        intro x9
        refine pw_iconst_ (v := nI 0) dX6_atPlace_63 (by decide) ?_
        refine px_istore (ls' := [some (.ref 227), some (.int (nI p)), some (.int (nI w)), some (.int (nI (msk (fun t => (vis a t p).isSome) (i + 1)))), some (.int (nI (smN (qat a n p) (i + 1)))), some (.int (nI (smN (fun t => cntN ((fun t u => mtp a n t u p) t) t) i))), some (.int (nI i)), some (.int x9), some (.int (nI 0))]) dX6_atPlace_64 rfl rfl (by decide) ?_
        have lq : ∀ j : Nat, j ≤ i → PS l E D cA mX6_atPlace (d + 2) fin 66 [some (.ref 227), some (.int (nI p)), some (.int (nI w)), some (.int (nI (msk (fun t => (vis a t p).isSome) (i + 1)))), some (.int (nI (smN (qat a n p) (i + 1)))), some (.int (nI (smN (fun t => cntN ((fun t u => mtp a n t u p) t) t) i + cntN ((fun t u => mtp a n t u p) i) j))), some (.int (nI i)), some (.int x9), some (.int (nI j))] [] μ := by
          refine ps_for _ ?_ ?_
          · skip
            show PS l E D cA mX6_atPlace (d + 2) fin 66 [some (.ref 227), some (.int (nI p)), some (.int (nI w)), some (.int (nI (msk (fun t => (vis a t p).isSome) (i + 1)))), some (.int (nI (smN (qat a n p) (i + 1)))), some (.int (nI (smN (fun t => cntN ((fun t u => mtp a n t u p) t) t) (i + 1)))), some (.int (nI i)), some (.int x9), some (.int (nI i))] [] μ
            refine pw_iload dX6_atPlace_66 rfl ?_
            refine pw_iload dX6_atPlace_68 rfl ?_
            refine pn_ge (tgt := 101) dX6_atPlace_70 (by decide) (by omega) (by omega) (fun _ => ?_) (fun h9 => absurd h9 (by omega))
            refine px_iincn (n := 1) (a := i) (b := i + 1) (ls' := [some (.ref 227), some (.int (nI p)), some (.int (nI w)), some (.int (nI (msk (fun t => (vis a t p).isSome) (i + 1)))), some (.int (nI (smN (qat a n p) (i + 1)))), some (.int (nI (smN (fun t => cntN ((fun t u => mtp a n t u p) t) t) (i + 1)))), some (.int (nI (i + 1))), some (.int x9), some (.int (nI i))]) dX6_atPlace_101 rfl rfl rfl (by omega) ?_
            refine pw_goto (tgt := 11) dX6_atPlace_104 (by decide) ?_
            exact ih _ _
          · intro j hj ihj
            refine pw_iload dX6_atPlace_66 rfl ?_
            refine pw_iload dX6_atPlace_68 rfl ?_
            refine pn_ge (tgt := 101) dX6_atPlace_70 (by decide) (by omega) (by omega) (fun h9 => absurd h9 (by omega)) (fun _ => ?_)
            refine pw_iload dX6_atPlace_73 rfl ?_
            refine pw_aload_n dX6_atPlace_75 rfl ?_
            refine pw_iload dX6_atPlace_76 rfl ?_
            refine pw_iload dX6_atPlace_78 rfl ?_
            refine pw_iload_n dX6_atPlace_80 rfl ?_
            refine ps_callV (b := 227) (As := [.int (nI i), .int (nI j), .int (nI p)]) (st := [.int (nI (smN (fun t => cntN ((fun t u => mtp a n t u p) t) t) i + cntN ((fun t u => mtp a n t u p) i) j))]) dX6_atPlace_81 cv_X6_118 rfl ⟨by decide, by decide +kernel⟩ (Nat.le_of_ble_eq_true rfl) (Nat.le_of_ble_eq_true rfl) ?_
            refine m_meetAt hw hna hP hi (show j < n by omega) hp ?_
            show PS l E D cA mX6_atPlace (d + 2) fin 84 [some (.ref 227), some (.int (nI p)), some (.int (nI w)), some (.int (nI (msk (fun t => (vis a t p).isSome) (i + 1)))), some (.int (nI (smN (qat a n p) (i + 1)))), some (.int (nI (smN (fun t => cntN ((fun t u => mtp a n t u p) t) t) i + cntN ((fun t u => mtp a n t u p) i) j))), some (.int (nI i)), some (.int x9), some (.int (nI j))] [.int (kb (mtp a n i j p = true)), .int (nI (smN (fun t => cntN ((fun t u => mtp a n t u p) t) t) i + cntN ((fun t u => mtp a n t u p) i) j))] μ
            by_cases hc : mtp a n i j p = true
            · rw [kb_t hc]
              refine pw_if_eq (tgt := 91) dX6_atPlace_84 (by decide) (fun h9 => absurd h9 nI1_ne) (fun _ => ?_)
              refine pw_iconst_ (v := nI 1) dX6_atPlace_87 (by decide) ?_
              refine pw_goto (tgt := 92) dX6_atPlace_88 (by decide) ?_
              refine px_iaddn (c := smN (fun t => cntN ((fun t u => mtp a n t u p) t) t) i + cntN ((fun t u => mtp a n t u p) i) (j + 1)) dX6_atPlace_92 (by rw [show cntN ((fun t u => mtp a n t u p) i) (j + 1) = cntN ((fun t u => mtp a n t u p) i) j + (if mtp a n i j p = true then 1 else 0) from rfl, if_pos hc]; omega) ?_
              refine px_istore (ls' := [some (.ref 227), some (.int (nI p)), some (.int (nI w)), some (.int (nI (msk (fun t => (vis a t p).isSome) (i + 1)))), some (.int (nI (smN (qat a n p) (i + 1)))), some (.int (nI (smN (fun t => cntN ((fun t u => mtp a n t u p) t) t) i + cntN ((fun t u => mtp a n t u p) i) (j + 1)))), some (.int (nI i)), some (.int x9), some (.int (nI j))]) dX6_atPlace_93 rfl rfl (by decide) ?_
              refine px_iincn (n := 1) (a := j) (b := j + 1) (ls' := [some (.ref 227), some (.int (nI p)), some (.int (nI w)), some (.int (nI (msk (fun t => (vis a t p).isSome) (i + 1)))), some (.int (nI (smN (qat a n p) (i + 1)))), some (.int (nI (smN (fun t => cntN ((fun t u => mtp a n t u p) t) t) i + cntN ((fun t u => mtp a n t u p) i) (j + 1)))), some (.int (nI i)), some (.int x9), some (.int (nI (j + 1)))]) dX6_atPlace_95 rfl rfl rfl (by omega) ?_
              refine pw_goto (tgt := 66) dX6_atPlace_98 (by decide) ?_
              exact ihj
            · rw [kb_f hc]
              refine pw_if_eq (tgt := 91) dX6_atPlace_84 (by decide) (fun _ => ?_) (fun h9 => absurd nI_0 h9)
              refine pw_iconst_ (v := nI 0) dX6_atPlace_91 (by decide) ?_
              refine px_iaddn (c := smN (fun t => cntN ((fun t u => mtp a n t u p) t) t) i + cntN ((fun t u => mtp a n t u p) i) (j + 1)) dX6_atPlace_92 (by rw [show cntN ((fun t u => mtp a n t u p) i) (j + 1) = cntN ((fun t u => mtp a n t u p) i) j + (if mtp a n i j p = true then 1 else 0) from rfl, if_neg hc]; rfl) ?_
              refine px_istore (ls' := [some (.ref 227), some (.int (nI p)), some (.int (nI w)), some (.int (nI (msk (fun t => (vis a t p).isSome) (i + 1)))), some (.int (nI (smN (qat a n p) (i + 1)))), some (.int (nI (smN (fun t => cntN ((fun t u => mtp a n t u p) t) t) i + cntN ((fun t u => mtp a n t u p) i) (j + 1)))), some (.int (nI i)), some (.int x9), some (.int (nI j))]) dX6_atPlace_93 rfl rfl (by decide) ?_
              refine px_iincn (n := 1) (a := j) (b := j + 1) (ls' := [some (.ref 227), some (.int (nI p)), some (.int (nI w)), some (.int (nI (msk (fun t => (vis a t p).isSome) (i + 1)))), some (.int (nI (smN (qat a n p) (i + 1)))), some (.int (nI (smN (fun t => cntN ((fun t u => mtp a n t u p) t) t) i + cntN ((fun t u => mtp a n t u p) i) (j + 1)))), some (.int (nI i)), some (.int x9), some (.int (nI (j + 1)))]) dX6_atPlace_95 rfl rfl rfl (by omega) ?_
              refine pw_goto (tgt := 66) dX6_atPlace_98 (by decide) ?_
              exact ihj
        exact lq 0 (Nat.zero_le _)
      cases hv0 : vis a i p with
      | none =>
        show PS l E D cA mX6_atPlace (d + 2) fin 29 [some (.ref 227), some (.int (nI p)), some (.int (nI w)), some (.int (nI (msk (fun t => (vis a t p).isSome) i))), some (.int (nI (smN (qat a n p) i))), some (.int (nI (smN (fun t => cntN ((fun t u => mtp a n t u p) t) t) i))), some (.int (nI i)), some (.int (-100006)), l8] [] μ
        refine pw_iload dX6_atPlace_29 rfl ?_
        refine pw_ldc dX6_atPlace_31 kc_X6_99 ?_
        refine pw_icmp_eq (tgt := 63) dX6_atPlace_33 (by decide) (fun _ => ?_) (fun h9 => absurd rfl h9)
        rw [show msk (fun t => (vis a t p).isSome) (i + 1) = msk (fun t => (vis a t p).isSome) i from msk_f (by simp [hv0]), show smN (qat a n p) (i + 1) = smN (qat a n p) i by show _ + _ = _; rw [qat_none hv0]; rfl] at tail
        exact tail _
      | some v =>
        have hv := (vis_some hv0).1
        have hV := hP.v hw hna hi hv
        show PS l E D cA mX6_atPlace (d + 2) fin 29 [some (.ref 227), some (.int (nI p)), some (.int (nI w)), some (.int (nI (msk (fun t => (vis a t p).isSome) i))), some (.int (nI (smN (qat a n p) i))), some (.int (nI (smN (fun t => cntN ((fun t u => mtp a n t u p) t) t) i))), some (.int (nI i)), some (.int (nI (8 * i + v))), l8] [] μ
        refine pw_iload dX6_atPlace_29 rfl ?_
        refine pw_ldc dX6_atPlace_31 kc_X6_99 ?_
        refine pw_icmp_eq (tgt := 63) dX6_atPlace_33 (by decide) (fun h9 => absurd h9 (nI_n6 (by omega))) (fun _ => ?_)
        refine pw_iload_n dX6_atPlace_36 rfl ?_
        refine pw_iconst_ (v := nI 1) dX6_atPlace_37 (by decide) ?_
        refine pw_iload dX6_atPlace_38 rfl ?_
        refine pw_ishl dX6_atPlace_40 ?_
        refine pw_ior dX6_atPlace_41 ?_
        rw [or_msk (p := fun t => (vis a t p).isSome) (by omega) (by rw [hv0]; rfl)]
        refine px_istore_n (ls' := [some (.ref 227), some (.int (nI p)), some (.int (nI w)), some (.int (nI (msk (fun t => (vis a t p).isSome) (i + 1)))), some (.int (nI (smN (qat a n p) i))), some (.int (nI (smN (fun t => cntN ((fun t u => mtp a n t u p) t) t) i))), some (.int (nI i)), some (.int (nI (8 * i + v))), l8]) dX6_atPlace_42 rfl rfl (by decide) ?_
        refine pw_iload dX6_atPlace_43 rfl ?_
        refine pw_aload_n dX6_atPlace_45 rfl ?_
        refine ps_getr (r := 240) dX6_atPlace_46 kf_X6_47 (by decide) (by decide +kernel) ?_
        refine pw_iload dX6_atPlace_49 rfl ?_
        refine ps_iald (j := 8 * i + v) (x := nI (BG a n i v)) dX6_atPlace_51 rfl (ok_ar (n := 48) (by decide +kernel) (by omega)) (hP.v hw hna hi hv).2.2.2.1 ?_
        refine pw_aload_n dX6_atPlace_52 rfl ?_
        refine ps_getr (r := 239) dX6_atPlace_53 kf_X6_44 (by decide) (by decide +kernel) ?_
        refine pw_iload dX6_atPlace_56 rfl ?_
        refine ps_iald (j := 8 * i + v) (x := nI (CM a n i v)) dX6_atPlace_58 rfl (ok_ar (n := 48) (by decide +kernel) (by omega)) (hP.v hw hna hi hv).2.2.1 ?_
        refine pn_isub hV.2.2.2.2.2.1 dX6_atPlace_59 ?_
        refine px_iaddn (c := smN (qat a n p) (i + 1)) dX6_atPlace_60 (by show _ = _ + _; rw [qat_some hv0]) ?_
        refine px_istore (ls' := [some (.ref 227), some (.int (nI p)), some (.int (nI w)), some (.int (nI (msk (fun t => (vis a t p).isSome) (i + 1)))), some (.int (nI (smN (qat a n p) (i + 1)))), some (.int (nI (smN (fun t => cntN ((fun t u => mtp a n t u p) t) t) i))), some (.int (nI i)), some (.int (nI (8 * i + v))), l8]) dX6_atPlace_61 rfl rfl (by decide) ?_
        exact tail _
  exact lp 0 (Nat.zero_le _) _ _
set_option maxRecDepth 100000 in
set_option maxHeartbeats 4000000 in
theorem m_crowd {n : Nat} {a : AS} (hw : Wf a) (hna : n ≤ a 3) (hP : PM μ a n) {p : Nat} (hp : p < 8) (hf : fin (some (.int (nI (mo a n p n)))) μ) : PS l E D cA mX6_crowd (d + 1) fin 0 [some (.ref 227), some (.int (nI p)), none, none, none, none, none, none] [] μ := by
  have hn6 : n ≤ 6 := Nat.le_trans hna hw.2.2.2.1
  refine pw_iconst_ (v := nI 0) dX6_crowd_0 (by decide) ?_
  refine px_istore_n (ls' := [some (.ref 227), some (.int (nI p)), some (.int (nI 0)), none, none, none, none, none]) dX6_crowd_1 rfl rfl (by decide) ?_
  refine pw_iconst_ (v := nI 0) dX6_crowd_2 (by decide) ?_
  refine px_istore_n (ls' := [some (.ref 227), some (.int (nI p)), some (.int (nI 0)), some (.int (nI 0)), none, none, none, none]) dX6_crowd_3 rfl rfl (by decide) ?_
  have lp : ∀ i : Nat, i ≤ n → ∀ (l4 l5 l6 l7 : Option Value), PS l E D cA mX6_crowd (d + 1) fin 4 [some (.ref 227), some (.int (nI p)), some (.int (nI (mo a n p i))), some (.int (nI i)), l4, l5, l6, l7] [] μ := by
    refine ps_for _ ?_ ?_
    · intro l4 l5 l6 l7
      refine pw_iload_n dX6_crowd_4 rfl ?_
      refine pw_aload_n dX6_crowd_5 rfl ?_
      refine ps_geti (x := nI n) dX6_crowd_6 kf_X6_82 (by decide) (by decide +kernel) (hP.1) ?_
      refine pn_ge (tgt := 127) dX6_crowd_9 (by decide) (by omega) (by omega) (fun _ => ?_) (fun h9 => absurd h9 (by omega))
      refine pw_iload_n dX6_crowd_127 rfl ?_
      exact ps_iret dX6_crowd_128 rfl (rfl) hf
    · intro i hi ih l4 l5 l6 l7
      have hPi := hP.t hw hna hi
      have hl9 := mo_le (a := a) (n := n) (p := p) i
      refine pw_iload_n dX6_crowd_4 rfl ?_
      refine pw_aload_n dX6_crowd_5 rfl ?_
      refine ps_geti (x := nI n) dX6_crowd_6 kf_X6_82 (by decide) (by decide +kernel) (hP.1) ?_
      refine pn_ge (tgt := 127) dX6_crowd_9 (by decide) (by omega) (by omega) (fun h9 => absurd h9 (by omega)) (fun _ => ?_)
      refine pw_aload_n dX6_crowd_12 rfl ?_
      refine pw_iload_n dX6_crowd_13 rfl ?_
      refine pw_iload_n dX6_crowd_14 rfl ?_
      refine ps_callV (b := 227) (As := [.int (nI i), .int (nI p)]) (st := []) dX6_crowd_15 cv_X6_115 rfl ⟨by decide, by decide +kernel⟩ (Nat.le_of_ble_eq_true rfl) (Nat.le_of_ble_eq_true rfl) ?_
      refine m_visitTo hw hna hP hi hp ?_
      show PS l E D cA mX6_crowd (d + 1) fin 18 [some (.ref 227), some (.int (nI p)), some (.int (nI (mo a n p i))), some (.int (nI i)), l4, l5, l6, l7] [.int (eW i (vis a i p))] μ
      refine px_istore (ls' := [some (.ref 227), some (.int (nI p)), some (.int (nI (mo a n p i))), some (.int (nI i)), some (.int (eW i (vis a i p))), l5, l6, l7]) dX6_crowd_18 rfl rfl (by decide) ?_
      refine pw_iconst_ (v := nI 0) dX6_crowd_20 (by decide) ?_
      refine px_istore (ls' := [some (.ref 227), some (.int (nI p)), some (.int (nI (mo a n p i))), some (.int (nI i)), some (.int (eW i (vis a i p))), some (.int (nI 0)), l6, l7]) dX6_crowd_21 rfl rfl (by decide) ?_
      refine pw_iconst_ (v := nI 0) dX6_crowd_23 (by decide) ?_
      refine px_istore (ls' := [some (.ref 227), some (.int (nI p)), some (.int (nI (mo a n p i))), some (.int (nI i)), some (.int (eW i (vis a i p))), some (.int (nI 0)), some (.int (nI 0)), l7]) dX6_crowd_24 rfl rfl (by decide) ?_
      cases hv0 : vis a i p with
      | none =>
        show PS l E D cA mX6_crowd (d + 1) fin 26 [some (.ref 227), some (.int (nI p)), some (.int (nI (mo a n p i))), some (.int (nI i)), some (.int (-100006)), some (.int (nI 0)), some (.int (nI 0)), l7] [] μ
        refine pw_iload dX6_crowd_26 rfl ?_
        refine pw_aload_n dX6_crowd_28 rfl ?_
        refine ps_geti (x := nI n) dX6_crowd_29 kf_X6_82 (by decide) (by decide +kernel) (hP.1) ?_
        refine pn_ge (tgt := 108) dX6_crowd_32 (by decide) (by omega) (by omega) (fun h9 => absurd h9 (by omega)) (fun _ => ?_)
        refine pw_iload dX6_crowd_35 rfl ?_
        refine pw_ldc dX6_crowd_37 kc_X6_99 ?_
        refine pw_icmp_eq (tgt := 108) dX6_crowd_39 (by decide) (fun _ => ?_) (fun h9 => absurd rfl h9)
        refine pw_iload dX6_crowd_108 rfl ?_
        refine pw_iload_n dX6_crowd_110 rfl ?_
        refine pn_le (tgt := 119) dX6_crowd_111 (by decide) (by omega) (by omega) (fun _ => ?_) (fun h9 => absurd h9 (by omega))
        refine pw_iload_n dX6_crowd_119 rfl ?_
        refine px_istore_n (ls' := [some (.ref 227), some (.int (nI p)), some (.int (nI (mo a n p i))), some (.int (nI i)), some (.int (-100006)), some (.int (nI 0)), some (.int (nI 0)), l7]) dX6_crowd_120 rfl rfl (by decide) ?_
        refine px_iincn (n := 1) (a := i) (b := i + 1) (ls' := [some (.ref 227), some (.int (nI p)), some (.int (nI (mo a n p i))), some (.int (nI (i + 1))), some (.int (-100006)), some (.int (nI 0)), some (.int (nI 0)), l7]) dX6_crowd_121 rfl rfl rfl (by omega) ?_
        refine pw_goto (tgt := 4) dX6_crowd_124 (by decide) ?_
        rw [mo_none hv0] at ih
        exact ih _ _ _ _
      | some v =>
        have hv := (vis_some hv0).1
        have hV := hP.v hw hna hi hv
        obtain ⟨m, hm⟩ : ∃ m, m = CM a n i v := ⟨_, rfl⟩
        show PS l E D cA mX6_crowd (d + 1) fin 26 [some (.ref 227), some (.int (nI p)), some (.int (nI (mo a n p i))), some (.int (nI i)), some (.int (nI (8 * i + v))), some (.int (nI 0)), some (.int (nI 0)), l7] [] μ
        have lq : ∀ u : Nat, u ≤ n → ∀ l9 : Option Value, PS l E D cA mX6_crowd (d + 1) fin 26 [some (.ref 227), some (.int (nI p)), some (.int (nI (mo a n p i))), some (.int (nI i)), some (.int (nI (8 * i + v))), some (.int (nI (cntN (thr a n p m) u))), some (.int (nI u)), l9] [] μ := by
          refine ps_for _ ?_ ?_
          · intro l9
            have hl8 := cntN_le (p := thr a n p m) n
            refine pw_iload dX6_crowd_26 rfl ?_
            refine pw_aload_n dX6_crowd_28 rfl ?_
            refine ps_geti (x := nI n) dX6_crowd_29 kf_X6_82 (by decide) (by decide +kernel) (hP.1) ?_
            refine pn_ge (tgt := 108) dX6_crowd_32 (by decide) (by omega) (by omega) (fun _ => ?_) (fun h9 => absurd h9 (by omega))
            refine pw_iload dX6_crowd_108 rfl ?_
            refine pw_iload_n dX6_crowd_110 rfl ?_
            refine pn_le (tgt := 119) dX6_crowd_111 (by decide) (by omega) (by omega) (fun h9 => ?_) (fun h9 => ?_)
            · refine pw_iload_n dX6_crowd_119 rfl ?_
              refine px_istore_n (ls' := [some (.ref 227), some (.int (nI p)), some (.int (nI (mo a n p i))), some (.int (nI i)), some (.int (nI (8 * i + v))), some (.int (nI (cntN (thr a n p m) n))), some (.int (nI n)), l9]) dX6_crowd_120 rfl rfl (by decide) ?_
              refine px_iincn (n := 1) (a := i) (b := i + 1) (ls' := [some (.ref 227), some (.int (nI p)), some (.int (nI (mo a n p i))), some (.int (nI (i + 1))), some (.int (nI (8 * i + v))), some (.int (nI (cntN (thr a n p m) n))), some (.int (nI n)), l9]) dX6_crowd_121 rfl rfl rfl (by omega) ?_
              refine pw_goto (tgt := 4) dX6_crowd_124 (by decide) ?_
              rw [mo_some hv0, ← hm, if_neg (by omega)] at ih
              exact ih _ _ _ _
            · refine pw_iload dX6_crowd_114 rfl ?_
              refine pw_goto (tgt := 120) dX6_crowd_116 (by decide) ?_
              refine px_istore_n (ls' := [some (.ref 227), some (.int (nI p)), some (.int (nI (cntN (thr a n p m) n))), some (.int (nI i)), some (.int (nI (8 * i + v))), some (.int (nI (cntN (thr a n p m) n))), some (.int (nI n)), l9]) dX6_crowd_120 rfl rfl (by decide) ?_
              refine px_iincn (n := 1) (a := i) (b := i + 1) (ls' := [some (.ref 227), some (.int (nI p)), some (.int (nI (cntN (thr a n p m) n))), some (.int (nI (i + 1))), some (.int (nI (8 * i + v))), some (.int (nI (cntN (thr a n p m) n))), some (.int (nI n)), l9]) dX6_crowd_121 rfl rfl rfl (by omega) ?_
              refine pw_goto (tgt := 4) dX6_crowd_124 (by decide) ?_
              rw [mo_some hv0, ← hm, if_pos h9] at ih
              exact ih _ _ _ _
          · intro u hu ihu l9
            have hPu := hP.t hw hna hu
            have hs9 : cntN (thr a n p m) (u + 1) = cntN (thr a n p m) u + (if thr a n p m u = true then 1 else 0) := rfl
            refine pw_iload dX6_crowd_26 rfl ?_
            refine pw_aload_n dX6_crowd_28 rfl ?_
            refine ps_geti (x := nI n) dX6_crowd_29 kf_X6_82 (by decide) (by decide +kernel) (hP.1) ?_
            refine pn_ge (tgt := 108) dX6_crowd_32 (by decide) (by omega) (by omega) (fun h9 => absurd h9 (by omega)) (fun _ => ?_)
            refine pw_iload dX6_crowd_35 rfl ?_
            refine pw_ldc dX6_crowd_37 kc_X6_99 ?_
            refine pw_icmp_eq (tgt := 108) dX6_crowd_39 (by decide) (fun h9 => absurd h9 (nI_n6 (by omega))) (fun _ => ?_)
            refine pw_aload_n dX6_crowd_42 rfl ?_
            refine pw_iload dX6_crowd_43 rfl ?_
            refine pw_iload_n dX6_crowd_45 rfl ?_
            refine ps_callV (b := 227) (As := [.int (nI u), .int (nI p)]) (st := []) dX6_crowd_46 cv_X6_115 rfl ⟨by decide, by decide +kernel⟩ (Nat.le_of_ble_eq_true rfl) (Nat.le_of_ble_eq_true rfl) ?_
            refine m_visitTo hw hna hP hu hp ?_
            show PS l E D cA mX6_crowd (d + 1) fin 49 [some (.ref 227), some (.int (nI p)), some (.int (nI (mo a n p i))), some (.int (nI i)), some (.int (nI (8 * i + v))), some (.int (nI (cntN (thr a n p m) u))), some (.int (nI u)), l9] [.int (eW u (vis a u p))] μ
            refine px_istore (ls' := [some (.ref 227), some (.int (nI p)), some (.int (nI (mo a n p i))), some (.int (nI i)), some (.int (nI (8 * i + v))), some (.int (nI (cntN (thr a n p m) u))), some (.int (nI u)), some (.int (eW u (vis a u p)))]) dX6_crowd_49 rfl rfl (by decide) ?_
            cases hw0 : vis a u p with
            | none =>
              show PS l E D cA mX6_crowd (d + 1) fin 51 [some (.ref 227), some (.int (nI p)), some (.int (nI (mo a n p i))), some (.int (nI i)), some (.int (nI (8 * i + v))), some (.int (nI (cntN (thr a n p m) u))), some (.int (nI u)), some (.int (-100006))] [] μ
              refine pw_iload dX6_crowd_51 rfl ?_
              refine pw_iload dX6_crowd_53 rfl ?_
              refine pw_ldc dX6_crowd_55 kc_X6_99 ?_
              refine pw_icmp_eq (tgt := 98) dX6_crowd_57 (by decide) (fun _ => ?_) (fun h9 => absurd rfl h9)
              refine pw_iconst_ (v := nI 0) dX6_crowd_98 (by decide) ?_
              refine px_iaddn (c := cntN (thr a n p m) (u + 1)) dX6_crowd_99 (by rw [hs9, if_neg (by rw [thr_none hw0]; decide)]) ?_
              refine px_istore (ls' := [some (.ref 227), some (.int (nI p)), some (.int (nI (mo a n p i))), some (.int (nI i)), some (.int (nI (8 * i + v))), some (.int (nI (cntN (thr a n p m) (u + 1)))), some (.int (nI u)), some (.int (-100006))]) dX6_crowd_100 rfl rfl (by decide) ?_
              refine px_iincn (n := 1) (a := u) (b := u + 1) (ls' := [some (.ref 227), some (.int (nI p)), some (.int (nI (mo a n p i))), some (.int (nI i)), some (.int (nI (8 * i + v))), some (.int (nI (cntN (thr a n p m) (u + 1)))), some (.int (nI (u + 1))), some (.int (-100006))]) dX6_crowd_102 rfl rfl rfl (by omega) ?_
              refine pw_goto (tgt := 26) dX6_crowd_105 (by decide) ?_
              exact ihu _
            | some z =>
              have hz := (vis_some hw0).1
              have hZ := hP.v hw hna hu hz
              show PS l E D cA mX6_crowd (d + 1) fin 51 [some (.ref 227), some (.int (nI p)), some (.int (nI (mo a n p i))), some (.int (nI i)), some (.int (nI (8 * i + v))), some (.int (nI (cntN (thr a n p m) u))), some (.int (nI u)), some (.int (nI (8 * u + z)))] [] μ
              refine pw_iload dX6_crowd_51 rfl ?_
              refine pw_iload dX6_crowd_53 rfl ?_
              refine pw_ldc dX6_crowd_55 kc_X6_99 ?_
              refine pw_icmp_eq (tgt := 98) dX6_crowd_57 (by decide) (fun h9 => absurd h9 (nI_n6 (by omega))) (fun _ => ?_)
              have hmb : m ≤ 10520 := by omega
              refine pw_aload_n dX6_crowd_60 rfl ?_
              refine ps_getr (r := 239) dX6_crowd_61 kf_X6_44 (by decide) (by decide +kernel) ?_
              refine pw_iload dX6_crowd_64 rfl ?_
              refine ps_iald (j := 8 * u + z) (x := nI (CM a n u z)) dX6_crowd_66 rfl (ok_ar (n := 48) (by decide +kernel) (by omega)) (hP.v hw hna hu hz).2.2.1 ?_
              refine pw_aload_n dX6_crowd_67 rfl ?_
              refine ps_getr (r := 239) dX6_crowd_68 kf_X6_44 (by decide) (by decide +kernel) ?_
              refine pw_iload dX6_crowd_71 rfl ?_
              refine ps_iald (j := 8 * i + v) (x := nI m) dX6_crowd_73 rfl (ok_ar (n := 48) (by decide +kernel) (by omega)) (by rw [hm]; exact hV.2.2.1) ?_
              refine pn_gt (tgt := 98) dX6_crowd_74 (by decide) (by omega) (by omega) (fun h1 => ?_) (fun h1 => ?_)
              · refine pw_iconst_ (v := nI 0) dX6_crowd_98 (by decide) ?_
                refine px_iaddn (c := cntN (thr a n p m) (u + 1)) dX6_crowd_99 (by rw [hs9, if_neg (by rw [thr_some hw0]; simp; omega)]) ?_
                refine px_istore (ls' := [some (.ref 227), some (.int (nI p)), some (.int (nI (mo a n p i))), some (.int (nI i)), some (.int (nI (8 * i + v))), some (.int (nI (cntN (thr a n p m) (u + 1)))), some (.int (nI u)), some (.int (nI (8 * u + z)))]) dX6_crowd_100 rfl rfl (by decide) ?_
                refine px_iincn (n := 1) (a := u) (b := u + 1) (ls' := [some (.ref 227), some (.int (nI p)), some (.int (nI (mo a n p i))), some (.int (nI i)), some (.int (nI (8 * i + v))), some (.int (nI (cntN (thr a n p m) (u + 1)))), some (.int (nI (u + 1))), some (.int (nI (8 * u + z)))]) dX6_crowd_102 rfl rfl rfl (by omega) ?_
                refine pw_goto (tgt := 26) dX6_crowd_105 (by decide) ?_
                exact ihu _
              · refine pw_aload_n dX6_crowd_77 rfl ?_
                refine ps_getr (r := 239) dX6_crowd_78 kf_X6_44 (by decide) (by decide +kernel) ?_
                refine pw_iload dX6_crowd_81 rfl ?_
                refine ps_iald (j := 8 * i + v) (x := nI m) dX6_crowd_83 rfl (ok_ar (n := 48) (by decide +kernel) (by omega)) (by rw [hm]; exact hV.2.2.1) ?_
                refine pw_aload_n dX6_crowd_84 rfl ?_
                refine ps_getr (r := 241) dX6_crowd_85 kf_X6_50 (by decide) (by decide +kernel) ?_
                refine pw_iload dX6_crowd_88 rfl ?_
                refine ps_iald (j := 8 * u + z) (x := nI (EN a n u z)) dX6_crowd_90 rfl (ok_ar (n := 48) (by decide +kernel) (by omega)) (hP.v hw hna hu hz).2.2.2.2.1 ?_
                refine pn_ge (tgt := 98) dX6_crowd_91 (by decide) (by omega) (by omega) (fun h2 => ?_) (fun h2 => ?_)
                · refine pw_iconst_ (v := nI 0) dX6_crowd_98 (by decide) ?_
                  refine px_iaddn (c := cntN (thr a n p m) (u + 1)) dX6_crowd_99 (by rw [hs9, if_neg (by rw [thr_some hw0]; simp; omega)]) ?_
                  refine px_istore (ls' := [some (.ref 227), some (.int (nI p)), some (.int (nI (mo a n p i))), some (.int (nI i)), some (.int (nI (8 * i + v))), some (.int (nI (cntN (thr a n p m) (u + 1)))), some (.int (nI u)), some (.int (nI (8 * u + z)))]) dX6_crowd_100 rfl rfl (by decide) ?_
                  refine px_iincn (n := 1) (a := u) (b := u + 1) (ls' := [some (.ref 227), some (.int (nI p)), some (.int (nI (mo a n p i))), some (.int (nI i)), some (.int (nI (8 * i + v))), some (.int (nI (cntN (thr a n p m) (u + 1)))), some (.int (nI (u + 1))), some (.int (nI (8 * u + z)))]) dX6_crowd_102 rfl rfl rfl (by omega) ?_
                  refine pw_goto (tgt := 26) dX6_crowd_105 (by decide) ?_
                  exact ihu _
                · refine pw_iconst_ (v := nI 1) dX6_crowd_94 (by decide) ?_
                  refine pw_goto (tgt := 99) dX6_crowd_95 (by decide) ?_
                  refine px_iaddn (c := cntN (thr a n p m) (u + 1)) dX6_crowd_99 (by rw [hs9, if_pos (by rw [thr_some hw0]; simp; omega)]) ?_
                  refine px_istore (ls' := [some (.ref 227), some (.int (nI p)), some (.int (nI (mo a n p i))), some (.int (nI i)), some (.int (nI (8 * i + v))), some (.int (nI (cntN (thr a n p m) (u + 1)))), some (.int (nI u)), some (.int (nI (8 * u + z)))]) dX6_crowd_100 rfl rfl (by decide) ?_
                  refine px_iincn (n := 1) (a := u) (b := u + 1) (ls' := [some (.ref 227), some (.int (nI p)), some (.int (nI (mo a n p i))), some (.int (nI i)), some (.int (nI (8 * i + v))), some (.int (nI (cntN (thr a n p m) (u + 1)))), some (.int (nI (u + 1))), some (.int (nI (8 * u + z)))]) dX6_crowd_102 rfl rfl rfl (by omega) ?_
                  refine pw_goto (tgt := 26) dX6_crowd_105 (by decide) ?_
                  exact ihu _
        exact lq 0 (Nat.zero_le _) _
  exact lp 0 (Nat.zero_le _) _ _ _ _
end MODR
