/-! the model: bestExchange, worstPlace, ifTurned -/
theorem xch_at {a : AS} {t i j k : Nat} (hk : k < a (39 + 12 * t)) : xch a t i j (40 + 12 * t + k) = if k = j then a (40 + 12 * t + i) else if k = i then a (40 + 12 * t + j) else a (40 + 12 * t + k) := by
  unfold xch
  rw [rt_s hk]
  unfold up1
  rfl
theorem xch_off {a : AS} {t i j k : Nat} (h : ¬ (40 + 12 * t ≤ k ∧ k < 40 + 12 * t + a (39 + 12 * t))) : xch a t i j k = a k := by
  unfold xch
  exact rt_n h
theorem xch_xch {a : AS} {t i j : Nat} (n8 : a (39 + 12 * t) ≤ 8) (hi : i < a (39 + 12 * t)) (hj : j < a (39 + 12 * t)) (k : Nat) : a k = xch (xch a t i j) t i j k := by
  have hm : xch a t i j (39 + 12 * t) = a (39 + 12 * t) := xch_off (by omega)
  by_cases h : 40 + 12 * t ≤ k ∧ k < 40 + 12 * t + a (39 + 12 * t)
  · obtain ⟨p, rfl⟩ : ∃ p, k = 40 + 12 * t + p := ⟨k - (40 + 12 * t), by omega⟩
    rw [xch_at (by rw [hm]; omega), xch_at hi, xch_at hj, xch_at (by omega)]
    by_cases e1 : p = j
    · subst e1
      rw [if_pos rfl, if_pos rfl]
      by_cases e2 : i = p
      · rw [if_pos e2, e2]
      · rw [if_neg e2]
    · rw [if_neg e1, if_neg e1]
      by_cases e2 : p = i
      · rw [if_pos e2, if_pos rfl, e2]
      · rw [if_neg e2, if_neg e2]
  · rw [xch_off (by rw [hm]; exact h), xch_off h]
theorem PM.same {ν μ : Mu} {a : AS} {n : Nat} (hP : PM μ a n) (h : ∀ q k, (237 ≤ q ∨ (q = 227 ∧ k = 13)) → ν q k = μ q k) : PM ν a n :=
  ⟨(h _ _ (by omega)).trans hP.1, fun t ht => (hP.2 t ht).same (h _ _ (by omega)) (h _ _ (by omega)) (h _ _ (by omega)) (fun v _ => h _ _ (by omega)) (fun q v g1 g2 _ => h _ _ (by omega))⟩
theorem wpk_lt {a : AS} : ∀ {p : Nat} {y : Nat × Nat}, wpk a p = some y → y.1 < p
  | 0, y, h => by cases h
  | p + 1, y, h => by
    unfold wpk at h
    split at h
    · split at h
      · cases h; exact Nat.lt_succ_self _
      · next z hz =>
        have ih := wpk_lt hz
        split at h
        · cases h; exact Nat.lt_succ_self _
        · cases h; omega
    · have ih := wpk_lt h
      omega
section MODV
variable {l : Launch} {E : EV} {D : va_G} {cA : Nat → ClassId} {fin : Option Value → Mu → Prop} {μ : Mu} {d : Nat}
set_option maxRecDepth 100000 in
set_option maxHeartbeats 4000000 in
theorem m_bestExchange {c : CS} (hw : CW c) (hx : MX μ c) {v w : Int32} (hf : ∀ ν : Mu, MX ν (o_bestExchange c v w).2 → SX ν μ → fin (some (.int (o_bestExchange c v w).1)) ν) : PS l E D cA mX6_bestExchange (d + 6) fin 0 [some (.ref 227), some (.int v), some (.int w), none, none, none, none, none, none, none, none, none] [] μ := by
  have hq := hx
  refine pw_aload_n dX6_bestExchange_0 rfl ?_
  refine pw_iload_n dX6_bestExchange_1 rfl ?_
  refine ps_callV (b := 227) (As := [.int v]) (st := []) dX6_bestExchange_2 cv_X6_167 rfl ⟨by decide, by decide +kernel⟩ (Nat.le_of_ble_eq_true rfl) (Nat.le_of_ble_eq_true rfl) ?_
  refine m_isTeam (hx.1 3 (by decide)) ?_
  refine pw_if_ne (tgt := 11) dX6_bestExchange_5 (by decide) (fun h9 => ?_) (fun h9 => ?_)
  · have h1 := kb_ne0.mp h9
    obtain ⟨t, ht, rfl⟩ := (rg_nat (by have := hw.1.t6; omega)).mp h1
    have t6 : t < 6 := Nat.lt_of_lt_of_le ht hw.1.t6
    have htn : iN (nI t) = t := iN_nI (by omega)
    refine pw_iload_n dX6_bestExchange_11 rfl ?_
    refine pw_i2l dX6_bestExchange_12 rfl ?_
    refine pw_iconst_ (v := nI 0) dX6_bestExchange_13 (by decide) ?_
    refine pw_iconst_ (v := nI 2) dX6_bestExchange_14 (by decide) ?_
    refine ps_callS (As := [.long w.toInt64, .int (nI 0), .int (nI 2)]) (st := []) dX6_bestExchange_15 cs_X6_65 rfl (Nat.le_of_ble_eq_true rfl) (Nat.le_of_ble_eq_true rfl) ?_
    refine m_in ?_
    refine pw_if_ne (tgt := 24) dX6_bestExchange_18 (by decide) (fun h9 => ?_) (fun h9 => ?_)
    · have h2 := kb_ne0.mp h9
      have hW := hw.1.tm ht
      have n8 := hW.2.2.2.1
      obtain ⟨m, hm⟩ : ∃ m, m = na c (39 + 12 * t) := ⟨_, rfl⟩
      rw [← hm] at n8
      have hmm : m * m ≤ 8 * 8 := Nat.mul_le_mul n8.2 n8.2
      refine pw_aload_n dX6_bestExchange_24 rfl ?_
      refine pw_iload_n dX6_bestExchange_25 rfl ?_
      refine pw_iconst_ (v := nI 3) dX6_bestExchange_26 (by decide) ?_
      refine ps_callV (b := 227) (As := [.int (nI t), .int (nI 3)]) (st := []) dX6_bestExchange_27 cv_X6_85 rfl ⟨by decide, by decide +kernel⟩ (Nat.le_of_ble_eq_true rfl) (Nat.le_of_ble_eq_true rfl) ?_
      refine m_its (t := t) (w := 3) (by omega) ((hx.1 _ (by omega)).trans (by rw [show 36 + 12 * t + 3 = 39 + 12 * t by omega, ← hm])) ?_
      show PS l E D cA mX6_bestExchange (d + 6) fin 30 [some (.ref 227), some (.int (nI t)), some (.int w), none, none, none, none, none, none, none, none, none] [.int (nI m)] μ
      refine px_istore_n (ls' := [some (.ref 227), some (.int (nI t)), some (.int w), some (.int (nI m)), none, none, none, none, none, none, none, none]) dX6_bestExchange_30 rfl rfl (by decide) ?_
      refine pw_ldc dX6_bestExchange_31 kc_X6_99 ?_
      refine px_istore (ls' := [some (.ref 227), some (.int (nI t)), some (.int w), some (.int (nI m)), some (.int (-100006)), none, none, none, none, none, none, none]) dX6_bestExchange_33 rfl rfl (by decide) ?_
      refine pw_ldc dX6_bestExchange_35 kc_X6_99 ?_
      refine px_istore (ls' := [some (.ref 227), some (.int (nI t)), some (.int w), some (.int (nI m)), some (.int (-100006)), some (.int (-100006)), none, none, none, none, none, none]) dX6_bestExchange_37 rfl rfl (by decide) ?_
      refine pw_ldc dX6_bestExchange_39 kc_X6_99 ?_
      refine px_istore (ls' := [some (.ref 227), some (.int (nI t)), some (.int w), some (.int (nI m)), some (.int (-100006)), some (.int (-100006)), some (.int (-100006)), none, none, none, none, none]) dX6_bestExchange_41 rfl rfl (by decide) ?_
      refine pw_iconst_ (v := nI 0) dX6_bestExchange_43 (by decide) ?_
      refine px_istore (ls' := [some (.ref 227), some (.int (nI t)), some (.int w), some (.int (nI m)), some (.int (-100006)), some (.int (-100006)), some (.int (-100006)), some (.int (nI 0)), none, none, none, none]) dX6_bestExchange_44 rfl rfl (by decide) ?_
      have lp : ∀ k : Nat, k ≤ m * m → ∀ (l8 l9 l10 l11 : Option Value) (κ : Mu), (RM κ (na c) ∧ LF κ μ) → PS l E D cA mX6_bestExchange (d + 6) fin 46 [some (.ref 227), some (.int (nI t)), some (.int w), some (.int (nI m)), some (.int (x1 (bxk (xed (na c) t) m k))), some (.int (x2 (bxk (xed (na c) t) m k))), some (.int (x3 (bxk (xed (na c) t) m k))), some (.int (nI k)), l8, l9, l10, l11] [] κ := by
        refine ps_for _ ?_ ?_
        · rintro l8 l9 l10 l11 κ ⟨k1, k2⟩
          have e9 : o_bestExchange c (nI t) w = (if w = nI 0 then x1 (bxk (xed (na c) t) m (m * m)) else if w = nI 1 then x2 (bxk (xed (na c) t) m (m * m)) else x3 (bxk (xed (na c) t) m (m * m)), c) := by
            unfold o_bestExchange
            rw [if_pos h1, htn, if_pos h2, ← hm]
          rw [e9] at hf
          have hz := hf κ (hx.kg k2.kg k1) k2.kg.sx'
          refine pw_iload dX6_bestExchange_46 rfl ?_
          refine pw_iload_n dX6_bestExchange_48 rfl ?_
          refine pw_iload_n dX6_bestExchange_49 rfl ?_
          refine px_imuln (c := m * m) dX6_bestExchange_50 (by omega) ?_
          refine pn_ge (tgt := 167) dX6_bestExchange_51 (by decide) (by omega) (by omega) (fun _ => ?_) (fun h9 => absurd h9 (by omega))
          refine pw_iload_n dX6_bestExchange_167 rfl ?_
          refine pw_if_ne (tgt := 176) dX6_bestExchange_168 (by decide) (fun h9 => ?_) (fun h9 => ?_)
          · rw [if_neg (by rw [nI_0]; exact h9)] at hz
            refine pw_iload_n dX6_bestExchange_176 rfl ?_
            refine pw_iconst_ (v := nI 1) dX6_bestExchange_177 (by decide) ?_
            refine pw_icmp_ne (tgt := 186) dX6_bestExchange_178 (by decide) (fun h8 => ?_) (fun h8 => ?_)
            · rw [if_neg h8] at hz
              refine pw_iload dX6_bestExchange_186 rfl ?_
              exact ps_iret dX6_bestExchange_188 rfl (rfl) hz
            · rw [if_pos h8] at hz
              refine pw_iload dX6_bestExchange_181 rfl ?_
              refine pw_goto (tgt := 188) dX6_bestExchange_183 (by decide) ?_
              exact ps_iret dX6_bestExchange_188 rfl (rfl) hz
          · rw [if_pos (by rw [nI_0]; exact h9)] at hz
            refine pw_iload dX6_bestExchange_171 rfl ?_
            refine pw_goto (tgt := 188) dX6_bestExchange_173 (by decide) ?_
            exact ps_iret dX6_bestExchange_188 rfl (rfl) hz
        · rintro k hk ih l8 l9 l10 l11 κ ⟨k1, k2⟩
          obtain ⟨i, hi⟩ : ∃ i, i = k / m := ⟨_, rfl⟩
          obtain ⟨j, hj⟩ : ∃ j, j = k % m := ⟨_, rfl⟩
          have him : i < m := by rw [hi]; exact Nat.div_lt_of_lt_mul hk
          have hjm : j < m := by rw [hj]; exact Nat.mod_lt _ (by omega)
          have hbx : bxk (xed (na c) t) m (k + 1) = if i < j then bx1 (bxk (xed (na c) t) m k) i j (xed (na c) t i j) else bxk (xed (na c) t) m k := by rw [hi, hj]; rfl
          have hle : ∀ y, bxk (xed (na c) t) m k = some y → y.2.2 ≤ 10520 := bxk_le (fun a b h3 h4 => xed_le hw.1 ht (by omega) (by omega)) k (Nat.le_of_lt hk)
          refine pw_iload dX6_bestExchange_46 rfl ?_
          refine pw_iload_n dX6_bestExchange_48 rfl ?_
          refine pw_iload_n dX6_bestExchange_49 rfl ?_
          refine px_imuln (c := m * m) dX6_bestExchange_50 (by omega) ?_
          refine pn_ge (tgt := 167) dX6_bestExchange_51 (by decide) (by omega) (by omega) (fun h9 => absurd h9 (by omega)) (fun _ => ?_)
          refine pw_iload dX6_bestExchange_54 rfl ?_
          refine pw_iload_n dX6_bestExchange_56 rfl ?_
          refine px_idivn dX6_bestExchange_57 (by omega) (by omega) (by omega) ?_
          rw [← hi]
          refine px_istore (ls' := [some (.ref 227), some (.int (nI t)), some (.int w), some (.int (nI m)), some (.int (x1 (bxk (xed (na c) t) m k))), some (.int (x2 (bxk (xed (na c) t) m k))), some (.int (x3 (bxk (xed (na c) t) m k))), some (.int (nI k)), some (.int (nI i)), l9, l10, l11]) dX6_bestExchange_58 rfl rfl (by decide) ?_
          refine pw_iload dX6_bestExchange_60 rfl ?_
          refine pw_iload_n dX6_bestExchange_62 rfl ?_
          refine px_iremn dX6_bestExchange_63 (by omega) (by omega) (by omega) ?_
          rw [← hj]
          refine px_istore (ls' := [some (.ref 227), some (.int (nI t)), some (.int w), some (.int (nI m)), some (.int (x1 (bxk (xed (na c) t) m k))), some (.int (x2 (bxk (xed (na c) t) m k))), some (.int (x3 (bxk (xed (na c) t) m k))), some (.int (nI k)), some (.int (nI i)), some (.int (nI j)), l10, l11]) dX6_bestExchange_64 rfl rfl (by decide) ?_
          refine pw_iload dX6_bestExchange_66 rfl ?_
          refine pw_iload dX6_bestExchange_68 rfl ?_
          refine pn_ge (tgt := 161) dX6_bestExchange_70 (by decide) (by omega) (by omega) (fun hij => ?_) (fun hij => ?_)
          · refine px_iincn (n := 1) (a := k) (b := k + 1) (ls' := [some (.ref 227), some (.int (nI t)), some (.int w), some (.int (nI m)), some (.int (x1 (bxk (xed (na c) t) m k))), some (.int (x2 (bxk (xed (na c) t) m k))), some (.int (x3 (bxk (xed (na c) t) m k))), some (.int (nI (k + 1))), some (.int (nI i)), some (.int (nI j)), l10, l11]) dX6_bestExchange_161 rfl rfl rfl (by omega) ?_
            refine pw_goto (tgt := 46) dX6_bestExchange_164 (by decide) ?_
            rw [if_neg (by omega)] at hbx
            rw [hbx] at ih
            exact ih _ _ _ _ κ ⟨k1, k2⟩
          · rw [if_pos hij] at hbx
            have him2 : i < na c (39 + 12 * t) := by omega
            have hjm2 : j < na c (39 + 12 * t) := by omega
            have wfb := wf_xch hw.1 ht him2 hjm2
            have b3 : xch (na c) t i j 3 = na c 3 := xch_3 (by omega)
            have htb : t < xch (na c) t i j 3 := by rw [b3]; exact ht
            have hmb : xch (na c) t i j (39 + 12 * t) = na c (39 + 12 * t) := xch_off (by omega)
            refine pw_aload_n dX6_bestExchange_73 rfl ?_
            refine pw_iload_n dX6_bestExchange_74 rfl ?_
            refine pw_iload dX6_bestExchange_75 rfl ?_
            refine pw_iload dX6_bestExchange_77 rfl ?_
            refine ps_callV (b := 227) (As := [.int (nI t), .int (nI i), .int (nI j)]) (st := []) dX6_bestExchange_79 cv_X6_177 rfl ⟨by decide, by decide +kernel⟩ (Nat.le_of_ble_eq_true rfl) (Nat.le_of_ble_eq_true rfl) ?_
            refine m_exchanged hw.1 ht k1 him2 hjm2 (fun σ s1 s2 => ?_)
            show PS l E D cA mX6_bestExchange (d + 6) fin 82 [some (.ref 227), some (.int (nI t)), some (.int w), some (.int (nI m)), some (.int (x1 (bxk (xed (na c) t) m k))), some (.int (x2 (bxk (xed (na c) t) m k))), some (.int (x3 (bxk (xed (na c) t) m k))), some (.int (nI k)), some (.int (nI i)), some (.int (nI j)), l10, l11] [] σ
            refine pw_aload_n dX6_bestExchange_82 rfl ?_
            refine pw_iload_n dX6_bestExchange_83 rfl ?_
            refine ps_callV (b := 227) (As := [.int (nI t)]) (st := []) dX6_bestExchange_84 cv_X6_170 rfl ⟨by decide, by decide +kernel⟩ (Nat.le_of_ble_eq_true rfl) (Nat.le_of_ble_eq_true rfl) ?_
            refine m_endOf wfb htb s1 (fun τ p1 p2 => ?_)
            show PS l E D cA mX6_bestExchange (d + 6) fin 87 [some (.ref 227), some (.int (nI t)), some (.int w), some (.int (nI m)), some (.int (x1 (bxk (xed (na c) t) m k))), some (.int (x2 (bxk (xed (na c) t) m k))), some (.int (x3 (bxk (xed (na c) t) m k))), some (.int (nI k)), some (.int (nI i)), some (.int (nI j)), l10, l11] [.int (nI (xed (na c) t i j))] τ
            refine px_istore (ls' := [some (.ref 227), some (.int (nI t)), some (.int w), some (.int (nI m)), some (.int (x1 (bxk (xed (na c) t) m k))), some (.int (x2 (bxk (xed (na c) t) m k))), some (.int (x3 (bxk (xed (na c) t) m k))), some (.int (nI k)), some (.int (nI i)), some (.int (nI j)), some (.int (nI (xed (na c) t i j))), l11]) dX6_bestExchange_87 rfl rfl (by decide) ?_
            refine pw_aload_n dX6_bestExchange_89 rfl ?_
            refine pw_iload_n dX6_bestExchange_90 rfl ?_
            refine pw_iload dX6_bestExchange_91 rfl ?_
            refine pw_iload dX6_bestExchange_93 rfl ?_
            refine ps_callV (b := 227) (As := [.int (nI t), .int (nI i), .int (nI j)]) (st := []) dX6_bestExchange_95 cv_X6_177 rfl ⟨by decide, by decide +kernel⟩ (Nat.le_of_ble_eq_true rfl) (Nat.le_of_ble_eq_true rfl) ?_
            refine m_exchanged wfb htb (p2.rm s1) (by rw [hmb]; exact him2) (by rw [hmb]; exact hjm2) (fun ρ r1 r2 => ?_)
            show PS l E D cA mX6_bestExchange (d + 6) fin 98 [some (.ref 227), some (.int (nI t)), some (.int w), some (.int (nI m)), some (.int (x1 (bxk (xed (na c) t) m k))), some (.int (x2 (bxk (xed (na c) t) m k))), some (.int (x3 (bxk (xed (na c) t) m k))), some (.int (nI k)), some (.int (nI i)), some (.int (nI j)), some (.int (nI (xed (na c) t i j))), l11] [] ρ
            have r3 : RM ρ (na c) := r1.eq (fun k _ => xch_xch (by omega) him2 hjm2 k)
            have r4 : LF ρ μ := fun q k g1 g2 g3 => (r2 q k g2).trans ((p2 q k g1 g3).trans ((s2 q k g2).trans (k2 q k g1 g2 g3)))
            have xb := xed_le hw.1 ht him2 hjm2
            cases hxk : bxk (xed (na c) t) m k with
            | none =>
              show PS l E D cA mX6_bestExchange (d + 6) fin 98 [some (.ref 227), some (.int (nI t)), some (.int w), some (.int (nI m)), some (.int (-100006)), some (.int (-100006)), some (.int (-100006)), some (.int (nI k)), some (.int (nI i)), some (.int (nI j)), some (.int (nI (xed (na c) t i j))), l11] [] ρ
              refine pw_iload dX6_bestExchange_98 rfl ?_
              refine pw_ldc dX6_bestExchange_100 kc_X6_99 ?_
              refine pw_icmp_eq (tgt := 112) dX6_bestExchange_102 (by decide) (fun _ => ?_) (fun h9 => absurd rfl h9)
              refine pw_iconst_ (v := nI 1) dX6_bestExchange_112 (by decide) ?_
              refine pw_goto (tgt := 117) dX6_bestExchange_113 (by decide) ?_
              refine px_istore (ls' := [some (.ref 227), some (.int (nI t)), some (.int w), some (.int (nI m)), some (.int (-100006)), some (.int (-100006)), some (.int (-100006)), some (.int (nI k)), some (.int (nI i)), some (.int (nI j)), some (.int (nI (xed (na c) t i j))), some (.int (nI 1))]) dX6_bestExchange_117 rfl rfl (by decide) ?_
              refine pw_iload dX6_bestExchange_119 rfl ?_
              refine pw_if_eq (tgt := 129) dX6_bestExchange_121 (by decide) (fun h9 => absurd h9 nI1_ne) (fun _ => ?_)
              refine pw_iload dX6_bestExchange_124 rfl ?_
              refine pw_goto (tgt := 131) dX6_bestExchange_126 (by decide) ?_
              refine px_istore (ls' := [some (.ref 227), some (.int (nI t)), some (.int w), some (.int (nI m)), some (.int (nI i)), some (.int (-100006)), some (.int (-100006)), some (.int (nI k)), some (.int (nI i)), some (.int (nI j)), some (.int (nI (xed (na c) t i j))), some (.int (nI 1))]) dX6_bestExchange_131 rfl rfl (by decide) ?_
              refine pw_iload dX6_bestExchange_133 rfl ?_
              refine pw_if_eq (tgt := 143) dX6_bestExchange_135 (by decide) (fun h9 => absurd h9 nI1_ne) (fun _ => ?_)
              refine pw_iload dX6_bestExchange_138 rfl ?_
              refine pw_goto (tgt := 145) dX6_bestExchange_140 (by decide) ?_
              refine px_istore (ls' := [some (.ref 227), some (.int (nI t)), some (.int w), some (.int (nI m)), some (.int (nI i)), some (.int (nI j)), some (.int (-100006)), some (.int (nI k)), some (.int (nI i)), some (.int (nI j)), some (.int (nI (xed (na c) t i j))), some (.int (nI 1))]) dX6_bestExchange_145 rfl rfl (by decide) ?_
              refine pw_iload dX6_bestExchange_147 rfl ?_
              refine pw_if_eq (tgt := 157) dX6_bestExchange_149 (by decide) (fun h9 => absurd h9 nI1_ne) (fun _ => ?_)
              refine pw_iload dX6_bestExchange_152 rfl ?_
              refine pw_goto (tgt := 159) dX6_bestExchange_154 (by decide) ?_
              refine px_istore (ls' := [some (.ref 227), some (.int (nI t)), some (.int w), some (.int (nI m)), some (.int (nI i)), some (.int (nI j)), some (.int (nI (xed (na c) t i j))), some (.int (nI k)), some (.int (nI i)), some (.int (nI j)), some (.int (nI (xed (na c) t i j))), some (.int (nI 1))]) dX6_bestExchange_159 rfl rfl (by decide) ?_
              refine px_iincn (n := 1) (a := k) (b := k + 1) (ls' := [some (.ref 227), some (.int (nI t)), some (.int w), some (.int (nI m)), some (.int (nI i)), some (.int (nI j)), some (.int (nI (xed (na c) t i j))), some (.int (nI (k + 1))), some (.int (nI i)), some (.int (nI j)), some (.int (nI (xed (na c) t i j))), some (.int (nI 1))]) dX6_bestExchange_161 rfl rfl rfl (by omega) ?_
              refine pw_goto (tgt := 46) dX6_bestExchange_164 (by decide) ?_
              rw [hxk] at hbx
              rw [hbx] at ih
              exact ih _ _ _ _ ρ ⟨r3, r4⟩
            | some y =>
              have hy := hle y hxk
              show PS l E D cA mX6_bestExchange (d + 6) fin 98 [some (.ref 227), some (.int (nI t)), some (.int w), some (.int (nI m)), some (.int (nI y.1)), some (.int (nI y.2.1)), some (.int (nI y.2.2)), some (.int (nI k)), some (.int (nI i)), some (.int (nI j)), some (.int (nI (xed (na c) t i j))), l11] [] ρ
              refine pw_iload dX6_bestExchange_98 rfl ?_
              refine pw_ldc dX6_bestExchange_100 kc_X6_99 ?_
              refine pw_icmp_eq (tgt := 112) dX6_bestExchange_102 (by decide) (fun h9 => absurd h9 (nI_n6 (by omega))) (fun _ => ?_)
              refine pw_iload dX6_bestExchange_105 rfl ?_
              refine pw_iload dX6_bestExchange_107 rfl ?_
              refine pn_ge (tgt := 116) dX6_bestExchange_109 (by decide) (by omega) (by omega) (fun hee => ?_) (fun hee => ?_)
              · refine pw_iconst_ (v := nI 0) dX6_bestExchange_116 (by decide) ?_
                refine px_istore (ls' := [some (.ref 227), some (.int (nI t)), some (.int w), some (.int (nI m)), some (.int (nI y.1)), some (.int (nI y.2.1)), some (.int (nI y.2.2)), some (.int (nI k)), some (.int (nI i)), some (.int (nI j)), some (.int (nI (xed (na c) t i j))), some (.int (nI 0))]) dX6_bestExchange_117 rfl rfl (by decide) ?_
                refine pw_iload dX6_bestExchange_119 rfl ?_
                refine pw_if_eq (tgt := 129) dX6_bestExchange_121 (by decide) (fun _ => ?_) (fun h9 => absurd nI_0 h9)
                refine pw_iload dX6_bestExchange_129 rfl ?_
                refine px_istore (ls' := [some (.ref 227), some (.int (nI t)), some (.int w), some (.int (nI m)), some (.int (nI y.1)), some (.int (nI y.2.1)), some (.int (nI y.2.2)), some (.int (nI k)), some (.int (nI i)), some (.int (nI j)), some (.int (nI (xed (na c) t i j))), some (.int (nI 0))]) dX6_bestExchange_131 rfl rfl (by decide) ?_
                refine pw_iload dX6_bestExchange_133 rfl ?_
                refine pw_if_eq (tgt := 143) dX6_bestExchange_135 (by decide) (fun _ => ?_) (fun h9 => absurd nI_0 h9)
                refine pw_iload dX6_bestExchange_143 rfl ?_
                refine px_istore (ls' := [some (.ref 227), some (.int (nI t)), some (.int w), some (.int (nI m)), some (.int (nI y.1)), some (.int (nI y.2.1)), some (.int (nI y.2.2)), some (.int (nI k)), some (.int (nI i)), some (.int (nI j)), some (.int (nI (xed (na c) t i j))), some (.int (nI 0))]) dX6_bestExchange_145 rfl rfl (by decide) ?_
                refine pw_iload dX6_bestExchange_147 rfl ?_
                refine pw_if_eq (tgt := 157) dX6_bestExchange_149 (by decide) (fun _ => ?_) (fun h9 => absurd nI_0 h9)
                refine pw_iload dX6_bestExchange_157 rfl ?_
                refine px_istore (ls' := [some (.ref 227), some (.int (nI t)), some (.int w), some (.int (nI m)), some (.int (nI y.1)), some (.int (nI y.2.1)), some (.int (nI y.2.2)), some (.int (nI k)), some (.int (nI i)), some (.int (nI j)), some (.int (nI (xed (na c) t i j))), some (.int (nI 0))]) dX6_bestExchange_159 rfl rfl (by decide) ?_
                refine px_iincn (n := 1) (a := k) (b := k + 1) (ls' := [some (.ref 227), some (.int (nI t)), some (.int w), some (.int (nI m)), some (.int (nI y.1)), some (.int (nI y.2.1)), some (.int (nI y.2.2)), some (.int (nI (k + 1))), some (.int (nI i)), some (.int (nI j)), some (.int (nI (xed (na c) t i j))), some (.int (nI 0))]) dX6_bestExchange_161 rfl rfl rfl (by omega) ?_
                refine pw_goto (tgt := 46) dX6_bestExchange_164 (by decide) ?_
                rw [hxk] at hbx
                rw [show bx1 (some y) i j (xed (na c) t i j) = some y from if_neg (by omega)] at hbx
                rw [hbx] at ih
                exact ih _ _ _ _ ρ ⟨r3, r4⟩
              · refine pw_iconst_ (v := nI 1) dX6_bestExchange_112 (by decide) ?_
                refine pw_goto (tgt := 117) dX6_bestExchange_113 (by decide) ?_
                refine px_istore (ls' := [some (.ref 227), some (.int (nI t)), some (.int w), some (.int (nI m)), some (.int (nI y.1)), some (.int (nI y.2.1)), some (.int (nI y.2.2)), some (.int (nI k)), some (.int (nI i)), some (.int (nI j)), some (.int (nI (xed (na c) t i j))), some (.int (nI 1))]) dX6_bestExchange_117 rfl rfl (by decide) ?_
                refine pw_iload dX6_bestExchange_119 rfl ?_
                refine pw_if_eq (tgt := 129) dX6_bestExchange_121 (by decide) (fun h9 => absurd h9 nI1_ne) (fun _ => ?_)
                refine pw_iload dX6_bestExchange_124 rfl ?_
                refine pw_goto (tgt := 131) dX6_bestExchange_126 (by decide) ?_
                refine px_istore (ls' := [some (.ref 227), some (.int (nI t)), some (.int w), some (.int (nI m)), some (.int (nI i)), some (.int (nI y.2.1)), some (.int (nI y.2.2)), some (.int (nI k)), some (.int (nI i)), some (.int (nI j)), some (.int (nI (xed (na c) t i j))), some (.int (nI 1))]) dX6_bestExchange_131 rfl rfl (by decide) ?_
                refine pw_iload dX6_bestExchange_133 rfl ?_
                refine pw_if_eq (tgt := 143) dX6_bestExchange_135 (by decide) (fun h9 => absurd h9 nI1_ne) (fun _ => ?_)
                refine pw_iload dX6_bestExchange_138 rfl ?_
                refine pw_goto (tgt := 145) dX6_bestExchange_140 (by decide) ?_
                refine px_istore (ls' := [some (.ref 227), some (.int (nI t)), some (.int w), some (.int (nI m)), some (.int (nI i)), some (.int (nI j)), some (.int (nI y.2.2)), some (.int (nI k)), some (.int (nI i)), some (.int (nI j)), some (.int (nI (xed (na c) t i j))), some (.int (nI 1))]) dX6_bestExchange_145 rfl rfl (by decide) ?_
                refine pw_iload dX6_bestExchange_147 rfl ?_
                refine pw_if_eq (tgt := 157) dX6_bestExchange_149 (by decide) (fun h9 => absurd h9 nI1_ne) (fun _ => ?_)
                refine pw_iload dX6_bestExchange_152 rfl ?_
                refine pw_goto (tgt := 159) dX6_bestExchange_154 (by decide) ?_
                refine px_istore (ls' := [some (.ref 227), some (.int (nI t)), some (.int w), some (.int (nI m)), some (.int (nI i)), some (.int (nI j)), some (.int (nI (xed (na c) t i j))), some (.int (nI k)), some (.int (nI i)), some (.int (nI j)), some (.int (nI (xed (na c) t i j))), some (.int (nI 1))]) dX6_bestExchange_159 rfl rfl (by decide) ?_
                refine px_iincn (n := 1) (a := k) (b := k + 1) (ls' := [some (.ref 227), some (.int (nI t)), some (.int w), some (.int (nI m)), some (.int (nI i)), some (.int (nI j)), some (.int (nI (xed (na c) t i j))), some (.int (nI (k + 1))), some (.int (nI i)), some (.int (nI j)), some (.int (nI (xed (na c) t i j))), some (.int (nI 1))]) dX6_bestExchange_161 rfl rfl rfl (by omega) ?_
                refine pw_goto (tgt := 46) dX6_bestExchange_164 (by decide) ?_
                rw [hxk] at hbx
                rw [show bx1 (some y) i j (xed (na c) t i j) = some (i, j, xed (na c) t i j) from if_pos hee] at hbx
                rw [hbx] at ih
                exact ih _ _ _ _ ρ ⟨r3, r4⟩
      exact lp 0 (Nat.zero_le _) _ _ _ _ μ ⟨hx.1, LF.rfl⟩
    · have h2 := kb_eq0.mp h9
      refine pw_ldc dX6_bestExchange_21 kc_X6_74 ?_
      have e9 : o_bestExchange c (nI t) w = ((-100002), c) := by
        unfold o_bestExchange
        rw [if_pos h1, if_neg h2]
      rw [e9] at hf
      exact ps_iret dX6_bestExchange_23 rfl (rfl) (hf _ hx SX.rfl)
  · have h1 := kb_eq0.mp h9
    refine pw_ldc dX6_bestExchange_8 kc_X6_144 ?_
    have e9 : o_bestExchange c v w = ((-100001), c) := by
      unfold o_bestExchange
      rw [if_neg h1]
    rw [e9] at hf
    exact ps_iret dX6_bestExchange_10 rfl (rfl) (hf _ hx SX.rfl)
set_option maxRecDepth 100000 in
set_option maxHeartbeats 4000000 in
theorem m_worstPlace {c : CS} (hw : CW c) (hx : MX μ c) {w : Int32} (hf : ∀ ν : Mu, MX ν (o_worstPlace c w).2 → SX ν μ → fin (some (.int (o_worstPlace c w).1)) ν) : PS l E D cA mX6_worstPlace (d + 5) fin 0 [some (.ref 227), some (.int w), none, none, none, none] [] μ := by
  have hq := hx
  refine pw_iload_n dX6_worstPlace_0 rfl ?_
  refine pw_i2l dX6_worstPlace_1 rfl ?_
  refine pw_iconst_ (v := nI 0) dX6_worstPlace_2 (by decide) ?_
  refine pw_iconst_ (v := nI 1) dX6_worstPlace_3 (by decide) ?_
  refine ps_callS (As := [.long w.toInt64, .int (nI 0), .int (nI 1)]) (st := []) dX6_worstPlace_4 cs_X6_65 rfl (Nat.le_of_ble_eq_true rfl) (Nat.le_of_ble_eq_true rfl) ?_
  refine m_in ?_
  refine pw_if_ne (tgt := 13) dX6_worstPlace_7 (by decide) (fun h9 => ?_) (fun h9 => ?_)
  · have h1 := kb_ne0.mp h9
    refine pw_ldc dX6_worstPlace_13 kc_X6_99 ?_
    refine px_istore_n (ls' := [some (.ref 227), some (.int w), some (.int (-100006)), none, none, none]) dX6_worstPlace_15 rfl rfl (by decide) ?_
    refine pw_ldc dX6_worstPlace_16 kc_X6_99 ?_
    refine px_istore_n (ls' := [some (.ref 227), some (.int w), some (.int (-100006)), some (.int (-100006)), none, none]) dX6_worstPlace_18 rfl rfl (by decide) ?_
    refine pw_iconst_ (v := nI 0) dX6_worstPlace_19 (by decide) ?_
    refine px_istore (ls' := [some (.ref 227), some (.int w), some (.int (-100006)), some (.int (-100006)), some (.int (nI 0)), none]) dX6_worstPlace_20 rfl rfl (by decide) ?_
    have lp : ∀ p : Nat, p ≤ 8 → ∀ (l5 : Option Value) (κ : Mu), (RM κ (na c) ∧ LF κ μ) → PS l E D cA mX6_worstPlace (d + 5) fin 22 [some (.ref 227), some (.int w), some (.int (y1 (wpk (na c) p))), some (.int (y2 (wpk (na c) p))), some (.int (nI p)), l5] [] κ := by
      refine ps_for _ ?_ ?_
      · rintro l5 κ ⟨k1, k2⟩
        have e9 : o_worstPlace c w = (if w = nI 0 then y1 (wpk (na c) 8) else y2 (wpk (na c) 8), c) := by
          unfold o_worstPlace
          rw [if_pos h1]
        rw [e9] at hf
        have hz := hf κ (hx.kg k2.kg k1) k2.kg.sx'
        refine pw_iload dX6_worstPlace_22 rfl ?_
        refine pw_bipush (v := nI 8) dX6_worstPlace_24 (by decide) ?_
        refine pn_ge (tgt := 124) dX6_worstPlace_26 (by decide) (by omega) (by omega) (fun _ => ?_) (fun h9 => absurd h9 (by decide))
        refine pw_iload_n dX6_worstPlace_124 rfl ?_
        refine pw_if_ne (tgt := 132) dX6_worstPlace_125 (by decide) (fun h9 => ?_) (fun h9 => ?_)
        · rw [if_neg (by rw [nI_0]; exact h9)] at hz
          refine pw_iload_n dX6_worstPlace_132 rfl ?_
          exact ps_iret dX6_worstPlace_133 rfl (rfl) hz
        · rw [if_pos (by rw [nI_0]; exact h9)] at hz
          refine pw_iload_n dX6_worstPlace_128 rfl ?_
          refine pw_goto (tgt := 133) dX6_worstPlace_129 (by decide) ?_
          exact ps_iret dX6_worstPlace_133 rfl (rfl) hz
      · rintro p hp ih l5 κ ⟨k1, k2⟩
        have hC := (hw.1.pl hp).2.2.2
        have hwp : wpk (na c) (p + 1) = if na c (7 + 4 * p) = 0 then (match wpk (na c) p with
            | none => some (p, qal (up1 (na c) (7 + 4 * p) 1) (na c 3))
            | some y => if qal (up1 (na c) (7 + 4 * p) 1) (na c 3) < y.2 then some (p, qal (up1 (na c) (7 + 4 * p) 1) (na c 3)) else some y) else wpk (na c) p := rfl
        refine pw_iload dX6_worstPlace_22 rfl ?_
        refine pw_bipush (v := nI 8) dX6_worstPlace_24 (by decide) ?_
        refine pn_ge (tgt := 124) dX6_worstPlace_26 (by decide) (by omega) (by omega) (fun h9 => absurd h9 (by omega)) (fun _ => ?_)
        refine pw_aload_n dX6_worstPlace_29 rfl ?_
        refine pw_iload dX6_worstPlace_30 rfl ?_
        refine pw_iconst_ (v := nI 3) dX6_worstPlace_32 (by decide) ?_
        refine ps_callV (b := 227) (As := [.int (nI p), .int (nI 3)]) (st := []) dX6_worstPlace_33 cv_X6_89 rfl ⟨by decide, by decide +kernel⟩ (Nat.le_of_ble_eq_true rfl) (Nat.le_of_ble_eq_true rfl) ?_
        refine m_of (p := p) (w := 3) (by omega) ((k1 _ (by omega)).trans (by rw [show 4 + 4 * p + 3 = 7 + 4 * p by omega])) ?_
        show PS l E D cA mX6_worstPlace (d + 5) fin 36 [some (.ref 227), some (.int w), some (.int (y1 (wpk (na c) p))), some (.int (y2 (wpk (na c) p))), some (.int (nI p)), l5] [.int (nI (na c (7 + 4 * p)))] κ
        have hz1 : ∀ m, m ≤ 1 → (nI m = 0 ↔ m = 0) := by decide
        refine pw_if_ne (tgt := 118) dX6_worstPlace_36 (by decide) (fun h9 => ?_) (fun h9 => ?_)
        · refine px_iincn (n := 1) (a := p) (b := p + 1) (ls' := [some (.ref 227), some (.int w), some (.int (y1 (wpk (na c) p))), some (.int (y2 (wpk (na c) p))), some (.int (nI (p + 1))), l5]) dX6_worstPlace_118 rfl rfl rfl (by omega) ?_
          refine pw_goto (tgt := 22) dX6_worstPlace_121 (by decide) ?_
          rw [if_neg (fun g => h9 ((hz1 _ hC).mpr g))] at hwp
          rw [hwp] at ih
          exact ih _ κ ⟨k1, k2⟩
        · have hc0 := (hz1 _ hC).mp h9
          rw [if_pos hc0] at hwp
          refine pw_aload_n dX6_worstPlace_39 rfl ?_
          refine ps_getr (r := 228) dX6_worstPlace_40 kf_X6_7 (by decide) (by decide +kernel) ?_
          refine pw_iconst_ (v := nI 4) dX6_worstPlace_43 (by decide) ?_
          refine pw_iconst_ (v := nI 4) dX6_worstPlace_44 (by decide) ?_
          refine pw_iload dX6_worstPlace_45 rfl ?_
          refine px_imuln (c := 4 * p) dX6_worstPlace_47 (by omega) ?_
          refine px_iaddn (c := 4 + 4 * p) dX6_worstPlace_48 (by omega) ?_
          refine pw_iconst_ (v := nI 3) dX6_worstPlace_49 (by decide) ?_
          refine px_iaddn (c := 4 + 4 * p + 3) dX6_worstPlace_50 (by omega) ?_
          refine pw_iconst_ (v := nI 1) dX6_worstPlace_51 (by decide) ?_
          refine ps_iast (j := 4 + 4 * p + 3) dX6_worstPlace_52 rfl (ok_ar (n := 108) (by decide +kernel) (by omega)) ?_
          refine pw_aload_n dX6_worstPlace_53 rfl ?_
          obtain ⟨b, hbd⟩ : ∃ b, b = up1 (na c) (7 + 4 * p) 1 := ⟨_, rfl⟩
          have wfb : Wf b := by rw [hbd]; exact wf_place hw.1 (Or.inr (Or.inr (Or.inr ⟨p, hp, Nat.le_refl _, rfl⟩)))
          have b3 : b 3 = na c 3 := by rw [hbd, up1_n (by omega)]
          have rb : RM (u2 κ 228 (4 + 4 * p + 3) (nI 1)) b := by
            rw [hbd, show 4 + 4 * p + 3 = 7 + 4 * p by omega]
            exact k1.up
          rw [← hbd] at hwp
          have hql : qal b (na c 3) ≤ 504960 := qal_le wfb (by rw [b3]; exact Nat.le_refl _)
          refine ps_callV (b := 227) (As := []) (st := []) dX6_worstPlace_54 cv_X6_138 rfl ⟨by decide, by decide +kernel⟩ (Nat.le_of_ble_eq_true rfl) (Nat.le_of_ble_eq_true rfl) ?_
          refine m_playAll wfb rb (fun ρ p1 p2 => ?_)
          show PS l E D cA mX6_worstPlace (d + 5) fin 57 [some (.ref 227), some (.int w), some (.int (y1 (wpk (na c) p))), some (.int (y2 (wpk (na c) p))), some (.int (nI p)), l5] [] ρ
          refine pw_aload_n dX6_worstPlace_57 rfl ?_
          refine ps_getr (r := 228) dX6_worstPlace_58 kf_X6_7 (by decide) (by decide +kernel) ?_
          refine pw_iconst_ (v := nI 4) dX6_worstPlace_61 (by decide) ?_
          refine pw_iconst_ (v := nI 4) dX6_worstPlace_62 (by decide) ?_
          refine pw_iload dX6_worstPlace_63 rfl ?_
          refine px_imuln (c := 4 * p) dX6_worstPlace_65 (by omega) ?_
          refine px_iaddn (c := 4 + 4 * p) dX6_worstPlace_66 (by omega) ?_
          refine pw_iconst_ (v := nI 3) dX6_worstPlace_67 (by decide) ?_
          refine px_iaddn (c := 4 + 4 * p + 3) dX6_worstPlace_68 (by omega) ?_
          refine pw_iconst_ (v := nI 0) dX6_worstPlace_69 (by decide) ?_
          refine ps_iast (j := 4 + 4 * p + 3) dX6_worstPlace_70 rfl (ok_ar (n := 108) (by decide +kernel) (by omega)) ?_
          rw [b3] at p1
          have p3 : PM (u2 ρ 228 (4 + 4 * p + 3) (nI 0)) b (na c 3) := p1.same (fun q k g => u2_a (by omega))
          have r3 : RM (u2 ρ 228 (4 + 4 * p + 3) (nI 0)) (na c) := fun k hk => by
            by_cases e9 : k = 4 + 4 * p + 3
            · rw [e9, u2_s, show 4 + 4 * p + 3 = 7 + 4 * p by omega, hc0]
            · rw [u2_b e9, p2 _ _ (by decide) (by omega), u2_b e9]
              exact k1 k hk
          have r4 : LF (u2 ρ 228 (4 + 4 * p + 3) (nI 0)) μ := fun q k g1 g2 g3 => (u2_a g2).trans ((p2 q k g1 g3).trans ((u2_a g2).trans (k2 q k g1 g2 g3)))
          cases hxk : wpk (na c) p with
          | none =>
            show PS l E D cA mX6_worstPlace (d + 5) fin 71 [some (.ref 227), some (.int w), some (.int (-100006)), some (.int (-100006)), some (.int (nI p)), l5] [] (u2 ρ 228 (4 + 4 * p + 3) (nI 0))
            refine pw_iload_n dX6_worstPlace_71 rfl ?_
            refine pw_ldc dX6_worstPlace_72 kc_X6_99 ?_
            refine pw_icmp_eq (tgt := 85) dX6_worstPlace_74 (by decide) (fun _ => ?_) (fun h9 => absurd rfl h9)
            refine pw_iconst_ (v := nI 1) dX6_worstPlace_85 (by decide) ?_
            refine pw_goto (tgt := 90) dX6_worstPlace_86 (by decide) ?_
            refine px_istore (ls' := [some (.ref 227), some (.int w), some (.int (-100006)), some (.int (-100006)), some (.int (nI p)), some (.int (nI 1))]) dX6_worstPlace_90 rfl rfl (by decide) ?_
            refine pw_iload dX6_worstPlace_92 rfl ?_
            refine pw_if_eq (tgt := 102) dX6_worstPlace_94 (by decide) (fun h9 => absurd h9 nI1_ne) (fun _ => ?_)
            refine pw_iload dX6_worstPlace_97 rfl ?_
            refine pw_goto (tgt := 103) dX6_worstPlace_99 (by decide) ?_
            refine px_istore_n (ls' := [some (.ref 227), some (.int w), some (.int (nI p)), some (.int (-100006)), some (.int (nI p)), some (.int (nI 1))]) dX6_worstPlace_103 rfl rfl (by decide) ?_
            refine pw_iload dX6_worstPlace_104 rfl ?_
            refine pw_if_eq (tgt := 116) dX6_worstPlace_106 (by decide) (fun h9 => absurd h9 nI1_ne) (fun _ => ?_)
            refine pw_aload_n dX6_worstPlace_109 rfl ?_
            refine ps_callV (b := 227) (As := []) (st := []) dX6_worstPlace_110 cv_X6_204 rfl ⟨by decide, by decide +kernel⟩ (Nat.le_of_ble_eq_true rfl) (Nat.le_of_ble_eq_true rfl) ?_
            refine m_allQueued wfb (Nat.le_of_eq b3.symm) p3 ?_
            show PS l E D cA mX6_worstPlace (d + 5) fin 113 [some (.ref 227), some (.int w), some (.int (nI p)), some (.int (-100006)), some (.int (nI p)), some (.int (nI 1))] [.int (nI (qal b (na c 3)))] (u2 ρ 228 (4 + 4 * p + 3) (nI 0))
            refine pw_goto (tgt := 117) dX6_worstPlace_113 (by decide) ?_
            refine px_istore_n (ls' := [some (.ref 227), some (.int w), some (.int (nI p)), some (.int (nI (qal b (na c 3)))), some (.int (nI p)), some (.int (nI 1))]) dX6_worstPlace_117 rfl rfl (by decide) ?_
            refine px_iincn (n := 1) (a := p) (b := p + 1) (ls' := [some (.ref 227), some (.int w), some (.int (nI p)), some (.int (nI (qal b (na c 3)))), some (.int (nI (p + 1))), some (.int (nI 1))]) dX6_worstPlace_118 rfl rfl rfl (by omega) ?_
            refine pw_goto (tgt := 22) dX6_worstPlace_121 (by decide) ?_
            rw [hxk] at hwp
            rw [hwp] at ih
            exact ih _ _ ⟨r3, r4⟩
          | some y =>
            have hy1 := wpk_lt hxk
            have hy2 := wpk_le hw.1 p (Nat.le_of_lt hp) y hxk
            show PS l E D cA mX6_worstPlace (d + 5) fin 71 [some (.ref 227), some (.int w), some (.int (nI y.1)), some (.int (nI y.2)), some (.int (nI p)), l5] [] (u2 ρ 228 (4 + 4 * p + 3) (nI 0))
            refine pw_iload_n dX6_worstPlace_71 rfl ?_
            refine pw_ldc dX6_worstPlace_72 kc_X6_99 ?_
            refine pw_icmp_eq (tgt := 85) dX6_worstPlace_74 (by decide) (fun h9 => absurd h9 (nI_n6 (by omega))) (fun _ => ?_)
            refine pw_aload_n dX6_worstPlace_77 rfl ?_
            refine ps_callV (b := 227) (As := []) (st := []) dX6_worstPlace_78 cv_X6_204 rfl ⟨by decide, by decide +kernel⟩ (Nat.le_of_ble_eq_true rfl) (Nat.le_of_ble_eq_true rfl) ?_
            refine m_allQueued wfb (Nat.le_of_eq b3.symm) p3 ?_
            show PS l E D cA mX6_worstPlace (d + 5) fin 81 [some (.ref 227), some (.int w), some (.int (nI y.1)), some (.int (nI y.2)), some (.int (nI p)), l5] [.int (nI (qal b (na c 3)))] (u2 ρ 228 (4 + 4 * p + 3) (nI 0))
            refine pw_iload_n dX6_worstPlace_81 rfl ?_
            refine pn_ge (tgt := 89) dX6_worstPlace_82 (by decide) (by omega) (by omega) (fun hee => ?_) (fun hee => ?_)
            · refine pw_iconst_ (v := nI 0) dX6_worstPlace_89 (by decide) ?_
              refine px_istore (ls' := [some (.ref 227), some (.int w), some (.int (nI y.1)), some (.int (nI y.2)), some (.int (nI p)), some (.int (nI 0))]) dX6_worstPlace_90 rfl rfl (by decide) ?_
              refine pw_iload dX6_worstPlace_92 rfl ?_
              refine pw_if_eq (tgt := 102) dX6_worstPlace_94 (by decide) (fun _ => ?_) (fun h9 => absurd nI_0 h9)
              refine pw_iload_n dX6_worstPlace_102 rfl ?_
              refine px_istore_n (ls' := [some (.ref 227), some (.int w), some (.int (nI y.1)), some (.int (nI y.2)), some (.int (nI p)), some (.int (nI 0))]) dX6_worstPlace_103 rfl rfl (by decide) ?_
              refine pw_iload dX6_worstPlace_104 rfl ?_
              refine pw_if_eq (tgt := 116) dX6_worstPlace_106 (by decide) (fun _ => ?_) (fun h9 => absurd nI_0 h9)
              refine pw_iload_n dX6_worstPlace_116 rfl ?_
              refine px_istore_n (ls' := [some (.ref 227), some (.int w), some (.int (nI y.1)), some (.int (nI y.2)), some (.int (nI p)), some (.int (nI 0))]) dX6_worstPlace_117 rfl rfl (by decide) ?_
              refine px_iincn (n := 1) (a := p) (b := p + 1) (ls' := [some (.ref 227), some (.int w), some (.int (nI y.1)), some (.int (nI y.2)), some (.int (nI (p + 1))), some (.int (nI 0))]) dX6_worstPlace_118 rfl rfl rfl (by omega) ?_
              refine pw_goto (tgt := 22) dX6_worstPlace_121 (by decide) ?_
              rw [hxk] at hwp
              have h5 : wpk (na c) (p + 1) = some y := hwp.trans (if_neg (by omega))
              rw [h5] at ih
              exact ih _ _ ⟨r3, r4⟩
            · refine pw_iconst_ (v := nI 1) dX6_worstPlace_85 (by decide) ?_
              refine pw_goto (tgt := 90) dX6_worstPlace_86 (by decide) ?_
              refine px_istore (ls' := [some (.ref 227), some (.int w), some (.int (nI y.1)), some (.int (nI y.2)), some (.int (nI p)), some (.int (nI 1))]) dX6_worstPlace_90 rfl rfl (by decide) ?_
              refine pw_iload dX6_worstPlace_92 rfl ?_
              refine pw_if_eq (tgt := 102) dX6_worstPlace_94 (by decide) (fun h9 => absurd h9 nI1_ne) (fun _ => ?_)
              refine pw_iload dX6_worstPlace_97 rfl ?_
              refine pw_goto (tgt := 103) dX6_worstPlace_99 (by decide) ?_
              refine px_istore_n (ls' := [some (.ref 227), some (.int w), some (.int (nI p)), some (.int (nI y.2)), some (.int (nI p)), some (.int (nI 1))]) dX6_worstPlace_103 rfl rfl (by decide) ?_
              refine pw_iload dX6_worstPlace_104 rfl ?_
              refine pw_if_eq (tgt := 116) dX6_worstPlace_106 (by decide) (fun h9 => absurd h9 nI1_ne) (fun _ => ?_)
              refine pw_aload_n dX6_worstPlace_109 rfl ?_
              refine ps_callV (b := 227) (As := []) (st := []) dX6_worstPlace_110 cv_X6_204 rfl ⟨by decide, by decide +kernel⟩ (Nat.le_of_ble_eq_true rfl) (Nat.le_of_ble_eq_true rfl) ?_
              refine m_allQueued wfb (Nat.le_of_eq b3.symm) p3 ?_
              show PS l E D cA mX6_worstPlace (d + 5) fin 113 [some (.ref 227), some (.int w), some (.int (nI p)), some (.int (nI y.2)), some (.int (nI p)), some (.int (nI 1))] [.int (nI (qal b (na c 3)))] (u2 ρ 228 (4 + 4 * p + 3) (nI 0))
              refine pw_goto (tgt := 117) dX6_worstPlace_113 (by decide) ?_
              refine px_istore_n (ls' := [some (.ref 227), some (.int w), some (.int (nI p)), some (.int (nI (qal b (na c 3)))), some (.int (nI p)), some (.int (nI 1))]) dX6_worstPlace_117 rfl rfl (by decide) ?_
              refine px_iincn (n := 1) (a := p) (b := p + 1) (ls' := [some (.ref 227), some (.int w), some (.int (nI p)), some (.int (nI (qal b (na c 3)))), some (.int (nI (p + 1))), some (.int (nI 1))]) dX6_worstPlace_118 rfl rfl rfl (by omega) ?_
              refine pw_goto (tgt := 22) dX6_worstPlace_121 (by decide) ?_
              rw [hxk] at hwp
              have h5 : wpk (na c) (p + 1) = some (p, qal b (na c 3)) := hwp.trans (if_pos hee)
              rw [h5] at ih
              exact ih _ _ ⟨r3, r4⟩
    exact lp 0 (Nat.zero_le _) _ μ ⟨hx.1, LF.rfl⟩
  · have h1 := kb_eq0.mp h9
    refine pw_ldc dX6_worstPlace_10 kc_X6_74 ?_
    have e9 : o_worstPlace c w = ((-100002), c) := by
      unfold o_worstPlace
      rw [if_neg h1]
    rw [e9] at hf
    exact ps_iret dX6_worstPlace_12 rfl (rfl) (hf _ hx SX.rfl)
set_option maxRecDepth 100000 in
set_option maxHeartbeats 4000000 in
theorem m_ifTurned {c : CS} (hw : CW c) (hx : MX μ c) {v w : Int32} (hf : ∀ ν : Mu, MX ν (o_ifTurned c v w).2 → SX ν μ → fin (some (.int (o_ifTurned c v w).1)) ν) : PS l E D cA mX6_ifTurned (d + 5) fin 0 [some (.ref 227), some (.int v), some (.int w)] [] μ := by
  have hq := hx
  refine pw_aload_n dX6_ifTurned_0 rfl ?_
  refine pw_iload_n dX6_ifTurned_1 rfl ?_
  refine ps_callV (b := 227) (As := [.int v]) (st := []) dX6_ifTurned_2 cv_X6_167 rfl ⟨by decide, by decide +kernel⟩ (Nat.le_of_ble_eq_true rfl) (Nat.le_of_ble_eq_true rfl) ?_
  refine m_isTeam (hx.1 3 (by decide)) ?_
  refine pw_if_ne (tgt := 11) dX6_ifTurned_5 (by decide) (fun h9 => ?_) (fun h9 => ?_)
  · have h1 := kb_ne0.mp h9
    obtain ⟨t, ht, rfl⟩ := (rg_nat (by have := hw.1.t6; omega)).mp h1
    have t6 : t < 6 := Nat.lt_of_lt_of_le ht hw.1.t6
    have htn : iN (nI t) = t := iN_nI (by omega)
    have hW := hw.1.tm ht
    have n8 := hW.2.2.2.1
    refine pw_iload_n dX6_ifTurned_11 rfl ?_
    refine pw_i2l dX6_ifTurned_12 rfl ?_
    refine pw_iconst_ (v := nI 0) dX6_ifTurned_13 (by decide) ?_
    refine pw_bipush (v := nI 7) dX6_ifTurned_14 (by decide) ?_
    refine ps_callS (As := [.long w.toInt64, .int (nI 0), .int (nI 7)]) (st := []) dX6_ifTurned_16 cs_X6_65 rfl (Nat.le_of_ble_eq_true rfl) (Nat.le_of_ble_eq_true rfl) ?_
    refine m_in ?_
    refine pw_if_eq (tgt := 36) dX6_ifTurned_19 (by decide) (fun h9 => ?_) (fun h9 => ?_)
    · have h2 := kb_eq0.mp h9
      refine pw_ldc dX6_ifTurned_36 kc_X6_74 ?_
      have e9 : o_ifTurned c (nI t) w = ((-100002), c) := by
        unfold o_ifTurned
        rw [if_pos h1, htn, if_neg (fun q => h2 ⟨by rw [nI_0]; exact q.1, fun h7 => by
          have h7 := Int32.lt_iff_toInt_lt.mp h7
          rw [nI_toInt (by decide)] at h7
          rcases q.2 with h | h
          · have h := Int32.le_iff_toInt_le.mp h
            rw [show (0 : Int32).toInt = 0 from rfl] at h
            omega
          · have h := Int32.lt_iff_toInt_lt.mp h
            rw [nI_toInt (by omega)] at h
            omega⟩)]
      rw [e9] at hf
      exact ps_iret dX6_ifTurned_38 rfl (rfl) (hf _ hx SX.rfl)
    · have h2 := kb_ne0.mp h9
      obtain ⟨b, hb7, rfl⟩ := (rg_to (by decide)).mp h2
      have hbn : iN (nI b) = b := iN_nI (by omega)
      have hb0 : ¬ nI b < 0 := nI_pos (by omega)
      refine pw_iload_n dX6_ifTurned_22 rfl ?_
      refine pw_if_le (tgt := 39) dX6_ifTurned_23 (by decide) (fun h4 => ?_) (fun h4 => ?_)
      · have h3 : ¬ nI b < 0 ∧ (nI b ≤ 0 ∨ nI b < nI (na c (39 + 12 * t))) := ⟨hb0, Or.inl h4⟩
        refine pw_aload_n dX6_ifTurned_39 rfl ?_
        refine ps_callV (b := 227) (As := []) (st := []) dX6_ifTurned_40 cv_X6_214 rfl ⟨by decide, by decide +kernel⟩ (Nat.le_of_ble_eq_true rfl) (Nat.le_of_ble_eq_true rfl) ?_
        refine m_layAside (fun ν n1 n2 => ?_)
        show PS l E D cA mX6_ifTurned (d + 5) fin 43 [some (.ref 227), some (.int (nI t)), some (.int (nI b))] [] ν
        refine pw_aload_n dX6_ifTurned_43 rfl ?_
        refine pw_iload_n dX6_ifTurned_44 rfl ?_
        refine pw_iload_n dX6_ifTurned_45 rfl ?_
        have hr : RM ν (na c) := fun k hk => (n2 _ _ (by decide)).trans (hx.1 k hk)
        refine ps_callV (b := 227) (As := [.int (nI t), .int (nI b)]) (st := []) dX6_ifTurned_46 cv_X6_173 rfl ⟨by decide, by decide +kernel⟩ (Nat.le_of_ble_eq_true rfl) (Nat.le_of_ble_eq_true rfl) ?_
        refine m_turned hw.1 ht hr (by omega) (fun κ k1 k2 => ?_)
        show PS l E D cA mX6_ifTurned (d + 5) fin 49 [some (.ref 227), some (.int (nI t)), some (.int (nI b))] [] κ
        refine pw_aload_n dX6_ifTurned_49 rfl ?_
        have wfb : Wf (trn (na c) t b) := wf_trn hw.1 ht
        have b3 : trn (na c) t b 3 = na c 3 := by unfold trn; rw [rt_n (by omega)]
        refine ps_callV (b := 227) (As := []) (st := []) dX6_ifTurned_50 cv_X6_138 rfl ⟨by decide, by decide +kernel⟩ (Nat.le_of_ble_eq_true rfl) (Nat.le_of_ble_eq_true rfl) ?_
        refine m_playAll wfb k1 (fun ρ p1 p2 => ?_)
        show PS l E D cA mX6_ifTurned (d + 5) fin 53 [some (.ref 227), some (.int (nI t)), some (.int (nI b))] [] ρ
        refine pw_aload_n dX6_ifTurned_53 rfl ?_
        rw [b3] at p1
        refine ps_callV (b := 227) (As := []) (st := []) dX6_ifTurned_54 cv_X6_217 rfl ⟨by decide, by decide +kernel⟩ (Nat.le_of_ble_eq_true rfl) (Nat.le_of_ble_eq_true rfl) ?_
        refine m_putBack (fun σ s1 s2 => ?_)
        show PS l E D cA mX6_ifTurned (d + 5) fin 57 [some (.ref 227), some (.int (nI t)), some (.int (nI b))] [] σ
        refine pw_aload_n dX6_ifTurned_57 rfl ?_
        have p3 : PM σ (trn (na c) t b) (na c 3) := p1.same (fun q k g => s2 q k (by omega))
        have r3 : RM σ (na c) := fun k hk => by
          rw [s1 k hk, p2 _ _ (by decide) (by omega), k2 _ _ (by decide) (by decide), n1 k hk]
          exact hx.1 k hk
        have r4 : KG σ μ := fun q k g => by
          rw [s2 q k (by omega), p2 q k (by omega) (by omega), k2 q k (by omega) (by omega), n2 q k (by omega)]
        refine ps_callV (b := 227) (As := []) (st := []) dX6_ifTurned_58 cv_X6_186 rfl ⟨by decide, by decide +kernel⟩ (Nat.le_of_ble_eq_true rfl) (Nat.le_of_ble_eq_true rfl) ?_
        refine m_pairs wfb (Nat.le_of_eq b3.symm) p3 ?_
        show PS l E D cA mX6_ifTurned (d + 5) fin 61 [some (.ref 227), some (.int (nI t)), some (.int (nI b))] [.int (nI (prs (mt (trn (na c) t b) (na c 3)) (na c 3) (na c 3)))] σ
        have e9 : o_ifTurned c (nI t) (nI b) = (nI (prs (mt (trn (na c) t b) (na c 3)) (na c 3) (na c 3)), c) := by
          unfold o_ifTurned
          rw [if_pos h1, htn, if_pos h3, hbn]
        rw [e9] at hf
        exact ps_iret dX6_ifTurned_61 rfl (rfl) (hf σ (hx.kg r4 r3) r4.sx')
      · refine pw_iload_n dX6_ifTurned_26 rfl ?_
        refine pw_aload_n dX6_ifTurned_27 rfl ?_
        refine pw_iload_n dX6_ifTurned_28 rfl ?_
        refine pw_iconst_ (v := nI 3) dX6_ifTurned_29 (by decide) ?_
        refine ps_callV (b := 227) (As := [.int (nI t), .int (nI 3)]) (st := [.int (nI b)]) dX6_ifTurned_30 cv_X6_85 rfl ⟨by decide, by decide +kernel⟩ (Nat.le_of_ble_eq_true rfl) (Nat.le_of_ble_eq_true rfl) ?_
        refine m_its (t := t) (w := 3) (by omega) ((hx.1 _ (by omega)).trans (by rw [show 36 + 12 * t + 3 = 39 + 12 * t by omega])) ?_
        show PS l E D cA mX6_ifTurned (d + 5) fin 33 [some (.ref 227), some (.int (nI t)), some (.int (nI b))] [.int (nI (na c (39 + 12 * t))), .int (nI b)] μ
        refine pw_icmp_lt (tgt := 39) dX6_ifTurned_33 (by decide) (fun h5 => ?_) (fun h5 => ?_)
        · have h3 : ¬ nI b < 0 ∧ (nI b ≤ 0 ∨ nI b < nI (na c (39 + 12 * t))) := ⟨hb0, Or.inr h5⟩
          refine pw_aload_n dX6_ifTurned_39 rfl ?_
          refine ps_callV (b := 227) (As := []) (st := []) dX6_ifTurned_40 cv_X6_214 rfl ⟨by decide, by decide +kernel⟩ (Nat.le_of_ble_eq_true rfl) (Nat.le_of_ble_eq_true rfl) ?_
          refine m_layAside (fun ν n1 n2 => ?_)
          show PS l E D cA mX6_ifTurned (d + 5) fin 43 [some (.ref 227), some (.int (nI t)), some (.int (nI b))] [] ν
          refine pw_aload_n dX6_ifTurned_43 rfl ?_
          refine pw_iload_n dX6_ifTurned_44 rfl ?_
          refine pw_iload_n dX6_ifTurned_45 rfl ?_
          have hr : RM ν (na c) := fun k hk => (n2 _ _ (by decide)).trans (hx.1 k hk)
          refine ps_callV (b := 227) (As := [.int (nI t), .int (nI b)]) (st := []) dX6_ifTurned_46 cv_X6_173 rfl ⟨by decide, by decide +kernel⟩ (Nat.le_of_ble_eq_true rfl) (Nat.le_of_ble_eq_true rfl) ?_
          refine m_turned hw.1 ht hr (by omega) (fun κ k1 k2 => ?_)
          show PS l E D cA mX6_ifTurned (d + 5) fin 49 [some (.ref 227), some (.int (nI t)), some (.int (nI b))] [] κ
          refine pw_aload_n dX6_ifTurned_49 rfl ?_
          have wfb : Wf (trn (na c) t b) := wf_trn hw.1 ht
          have b3 : trn (na c) t b 3 = na c 3 := by unfold trn; rw [rt_n (by omega)]
          refine ps_callV (b := 227) (As := []) (st := []) dX6_ifTurned_50 cv_X6_138 rfl ⟨by decide, by decide +kernel⟩ (Nat.le_of_ble_eq_true rfl) (Nat.le_of_ble_eq_true rfl) ?_
          refine m_playAll wfb k1 (fun ρ p1 p2 => ?_)
          show PS l E D cA mX6_ifTurned (d + 5) fin 53 [some (.ref 227), some (.int (nI t)), some (.int (nI b))] [] ρ
          refine pw_aload_n dX6_ifTurned_53 rfl ?_
          rw [b3] at p1
          refine ps_callV (b := 227) (As := []) (st := []) dX6_ifTurned_54 cv_X6_217 rfl ⟨by decide, by decide +kernel⟩ (Nat.le_of_ble_eq_true rfl) (Nat.le_of_ble_eq_true rfl) ?_
          refine m_putBack (fun σ s1 s2 => ?_)
          show PS l E D cA mX6_ifTurned (d + 5) fin 57 [some (.ref 227), some (.int (nI t)), some (.int (nI b))] [] σ
          refine pw_aload_n dX6_ifTurned_57 rfl ?_
          have p3 : PM σ (trn (na c) t b) (na c 3) := p1.same (fun q k g => s2 q k (by omega))
          have r3 : RM σ (na c) := fun k hk => by
            rw [s1 k hk, p2 _ _ (by decide) (by omega), k2 _ _ (by decide) (by decide), n1 k hk]
            exact hx.1 k hk
          have r4 : KG σ μ := fun q k g => by
            rw [s2 q k (by omega), p2 q k (by omega) (by omega), k2 q k (by omega) (by omega), n2 q k (by omega)]
          refine ps_callV (b := 227) (As := []) (st := []) dX6_ifTurned_58 cv_X6_186 rfl ⟨by decide, by decide +kernel⟩ (Nat.le_of_ble_eq_true rfl) (Nat.le_of_ble_eq_true rfl) ?_
          refine m_pairs wfb (Nat.le_of_eq b3.symm) p3 ?_
          show PS l E D cA mX6_ifTurned (d + 5) fin 61 [some (.ref 227), some (.int (nI t)), some (.int (nI b))] [.int (nI (prs (mt (trn (na c) t b) (na c 3)) (na c 3) (na c 3)))] σ
          have e9 : o_ifTurned c (nI t) (nI b) = (nI (prs (mt (trn (na c) t b) (na c 3)) (na c 3) (na c 3)), c) := by
            unfold o_ifTurned
            rw [if_pos h1, htn, if_pos h3, hbn]
          rw [e9] at hf
          exact ps_iret dX6_ifTurned_61 rfl (rfl) (hf σ (hx.kg r4 r3) r4.sx')
        · refine pw_ldc dX6_ifTurned_36 kc_X6_74 ?_
          have e9 : o_ifTurned c (nI t) (nI b) = ((-100002), c) := by
            unfold o_ifTurned
            have hW := hw.1.tm ht
            rw [if_pos h1, htn, if_neg (fun q => q.2.elim h4 h5)]
          rw [e9] at hf
          exact ps_iret dX6_ifTurned_38 rfl (rfl) (hf _ hx SX.rfl)
  · have h1 := kb_eq0.mp h9
    refine pw_ldc dX6_ifTurned_8 kc_X6_144 ?_
    have e9 : o_ifTurned c v w = ((-100001), c) := by
      unfold o_ifTurned
      rw [if_neg h1]
    rw [e9] at hf
    exact ps_iret dX6_ifTurned_10 rfl (rfl) (hf _ hx SX.rfl)
end MODV
