/-! the model: play, playAll, endOf -/
theorem gi_s {a : AS} {n k t : Nat} (h : nxp a (gi a n k) n = some t) : gi a n (k + 1) = stp a (gi a n k) t := by rw [gi, h]
theorem trv_any {a : AS} (hw : Wf a) {t v : Nat} (ht : t < a 3) : trv a t v < 8 := by
  rcases Nat.lt_or_ge v (tl a t) with h | h
  · exact trv_lt hw ht h
  · unfold trv tl at *
    rw [List.getD_eq_getElem?_getD, List.getElem?_eq_none h]
    decide
theorem wk_any {a : AS} (hw : Wf a) {t v : Nat} (ht : t < a 3) (_ : v ≤ tl a t) : wk a t v ≤ 200 := by
  have hs : slo a t v ≤ 5 := by
    unfold slo
    split
    · exact hw.2.2.1.2
    · decide
  have h1 := hw.2.2.2.2.1 _ (trv_any hw ht (v := v))
  have hp : pvx a t v ≤ 20 ∧ pvy a t v ≤ 20 := by
    unfold pvx pvy
    split
    · exact ⟨Nat.zero_le _, Nat.zero_le _⟩
    · have h2 := hw.2.2.2.2.1 _ (trv_any hw ht (v := v - 1))
      exact ⟨h2.1, h2.2.1⟩
  have hd : dist (px a (trv a t v)) (pvx a t v) + dist (py a (trv a t v)) (pvy a t v) ≤ 40 := by
    simp only [dist, px, py]
    omega
  unfold wk
  exact Nat.le_trans (Nat.mul_le_mul hs hd) (by decide)
section MODO
variable {l : Launch} {E : EV} {D : va_G} {cA : Nat → ClassId} {fin : Option Value → Mu → Prop} {μ : Mu} {d : Nat}
set_option maxRecDepth 100000 in
set_option maxHeartbeats 4000000 in
theorem m_play {n : Nat} {a : AS} (hw : Wf a) (hna : n ≤ a 3) (hR : RM μ a) (hf : ∀ ν : Mu, PM ν a n → PF ν μ → fin none ν) : PS l E D cA mX6_play (d + 3) fin 0 [some (.ref 227), some (.int (nI n)), none, none, none, none] [] μ := by
  have n6 := hw.t6
  refine pw_aload_n dX6_play_0 rfl ?_
  refine pw_iload_n dX6_play_1 rfl ?_
  refine ps_callV (b := 227) (As := [.int (nI n)]) (st := []) dX6_play_2 cv_X6_100 rfl ⟨by decide, by decide +kernel⟩ (Nat.le_of_ble_eq_true rfl) (Nat.le_of_ble_eq_true rfl) ?_
  refine m_prepare hw hna hR (fun ν hJ0 hF0 => ?_)
  show PS l E D cA mX6_play (d + 3) fin 5 [some (.ref 227), some (.int (nI n)), none, none, none, none] [] ν
  refine pw_aload_n dX6_play_5 rfl ?_
  obtain ⟨K, K1, K2, K3, K4⟩ := gi_end hw hna
  have hbd : ∀ k, k ≤ 48 → ∀ t, t < n → dn (gi a n k) t ≤ tl a t ∧ ov (gi a n k) t ≤ 10520 := fun k hk t ht => by
    have h := (gi_B hw hna k).1 t ht
    exact ⟨h.1, by omega⟩
  have hcm : ∀ k, k ≤ 48 → ∀ t, t < n → come a (gi a n k) t < 2 ^ 28 := fun k hk t ht => by
    have h := (hbd k hk t ht).2
    have h2 := wk_any hw (t := t) (v := dn (gi a n k) t) (by omega) (hbd k hk t ht).1
    unfold come
    omega
  refine ps_callV (b := 227) (As := []) (st := []) dX6_play_6 cv_X6_104 rfl ⟨by decide, by decide +kernel⟩ (Nat.le_of_ble_eq_true rfl) (Nat.le_of_ble_eq_true rfl) ?_
  refine m_next hw hna hJ0 (fun t ht => ⟨(hbd 0 (by decide) t ht).1, hcm 0 (by decide) t ht⟩) ?_
  show PS l E D cA mX6_play (d + 3) fin 9 [some (.ref 227), some (.int (nI n)), none, none, none, none] [.int (eF (nxp a (gi a n 0) n))] ν
  refine px_istore_n (ls' := [some (.ref 227), some (.int (nI n)), some (.int (eF (nxp a (gi a n 0) n))), none, none, none]) dX6_play_9 rfl rfl (by decide) ?_
  have lp : ∀ j : Nat, j ≤ K → ∀ (l3 l4 l5 : Option Value) (κ : Mu), (MJ κ a n (gi a n j) ∧ PF κ μ) → PS l E D cA mX6_play (d + 3) fin 10 [some (.ref 227), some (.int (nI n)), some (.int (eF (nxp a (gi a n j) n))), l3, l4, l5] [] κ := by
    refine ps_for _ ?_ ?_
    · rintro l3 l4 l5 κ ⟨k1, k2⟩
      rw [K3]
      show PS l E D cA mX6_play (d + 3) fin 10 [some (.ref 227), some (.int (nI n)), some (.int (-100006)), l3, l4, l5] [] κ
      refine pw_iload_n dX6_play_10 rfl ?_
      refine pw_ldc dX6_play_11 kc_X6_99 ?_
      refine pw_icmp_eq (tgt := 188) dX6_play_13 (by decide) (fun _ => ?_) (fun h9 => absurd rfl h9)
      have eg : gf a n = gi a n K := K4 48 K1
      exact ps_ret dX6_play_188 rfl (hf κ ⟨k1.1, fun t ht => by rw [eg]; exact (k1.2.1 t ht).1⟩ k2)
    · rintro j hj ih l3 l4 l5 κ ⟨k1, k2⟩
      obtain ⟨t, ht⟩ := K2 j hj
      obtain ⟨t1, t2⟩ := nxp_lt ht
      have egs := gi_s ht
      rw [ht]
      obtain ⟨g, hg⟩ : ∃ g, g = gi a n j := ⟨_, rfl⟩
      have hB := gi_B hw hna j
      rw [← hg] at k1 ht t2 egs hB
      have hR9 := k2.rm hR
      obtain ⟨⟨m1, m2, m3, m4, m5⟩, mn⟩ := k1.2.1 t t1
      obtain ⟨n1, n2⟩ := mn t2
      obtain ⟨v, hv⟩ : ∃ v, v = dn g t := ⟨_, rfl⟩
      rw [← hv] at m2 t2 n1 n2
      obtain ⟨p, hp⟩ : ∃ p, p = trv a t v := ⟨_, rfl⟩
      have l8 := tl_le hw (t := t) (by omega)
      have p8 : p < 8 := by rw [hp]; exact trv_lt hw (by omega) t2
      have mp := m4 v t2
      rw [← hp] at mp
      have hT := hw.tm (t := t) (by omega)
      have hPl := hw.pl p8
      have fp := k1.2.2 p p8
      obtain ⟨x, hx⟩ : ∃ x, x = come a g t := ⟨_, rfl⟩
      obtain ⟨f, hfr⟩ : ∃ f, f = fr g p := ⟨_, rfl⟩
      rw [← hx] at n1
      rw [← hfr] at fp
      have xb : x < 2 ^ 28 := by
        have h := (hB.1 t t1).2
        have h2 := wk_any hw (t := t) (v := v) (by omega) (by omega)
        rw [hx]
        unfold come
        rw [← hv]
        omega
      have fb : f < 2 ^ 28 := by
        have h := hB.2.1 p
        omega
      have lb := lk_le hw (t := t) p8
      obtain ⟨B, hBd⟩ : ∃ B, B = (if x < f then f else x) := ⟨_, rfl⟩
      obtain ⟨L, hL⟩ : ∃ L, L = lk a t p := ⟨_, rfl⟩
      rw [← hL] at lb
      have Bb : B < 2 ^ 28 := by
        rw [hBd]
        split <;> omega
      show PS l E D cA mX6_play (d + 3) fin 10 [some (.ref 227), some (.int (nI n)), some (.int (nI t)), l3, l4, l5] [] κ
      refine pw_iload_n dX6_play_10 rfl ?_
      refine pw_ldc dX6_play_11 kc_X6_99 ?_
      refine pw_icmp_eq (tgt := 188) dX6_play_13 (by decide) (fun h9 => absurd h9 (nI_n6 (by omega))) (fun _ => ?_)
      refine pw_bipush (v := nI 8) dX6_play_16 (by decide) ?_
      refine pw_iload_n dX6_play_18 rfl ?_
      refine px_imuln (c := 8 * t) dX6_play_19 (by omega) ?_
      refine pw_aload_n dX6_play_20 rfl ?_
      refine ps_getr (r := 244) dX6_play_21 kf_X6_59 (by decide) (by decide +kernel) ?_
      refine pw_iload_n dX6_play_24 rfl ?_
      refine ps_iald (j := t) (x := nI v) dX6_play_25 rfl (ok_ar (n := 6) (by decide +kernel) (by omega)) m2 ?_
      refine px_iaddn (c := 8 * t + v) dX6_play_26 (by omega) ?_
      refine px_istore_n (ls' := [some (.ref 227), some (.int (nI n)), some (.int (nI t)), some (.int (nI (8 * t + v))), l4, l5]) dX6_play_27 rfl rfl (by decide) ?_
      refine pw_aload_n dX6_play_28 rfl ?_
      refine ps_getr (r := 238) dX6_play_29 kf_X6_41 (by decide) (by decide +kernel) ?_
      refine pw_iload_n dX6_play_32 rfl ?_
      refine ps_iald (j := 8 * t + v) (x := nI p) dX6_play_33 rfl (ok_ar (n := 48) (by decide +kernel) (by omega)) mp ?_
      refine px_istore (ls' := [some (.ref 227), some (.int (nI n)), some (.int (nI t)), some (.int (nI (8 * t + v))), some (.int (nI p)), l5]) dX6_play_34 rfl rfl (by decide) ?_
      refine pw_aload_n dX6_play_36 rfl ?_
      refine pw_iload_n dX6_play_37 rfl ?_
      refine pw_iconst_ (v := nI 1) dX6_play_38 (by decide) ?_
      refine ps_callV (b := 227) (As := [.int (nI t), .int (nI 1)]) (st := []) dX6_play_39 cv_X6_85 rfl ⟨by decide, by decide +kernel⟩ (Nat.le_of_ble_eq_true rfl) (Nat.le_of_ble_eq_true rfl) ?_
      refine m_its (t := t) (w := 1) (by omega) ((hR9 _ (by omega)).trans (by rw [show 36 + 12 * t + 1 = 37 + 12 * t by omega])) ?_
      show PS l E D cA mX6_play (d + 3) fin 42 [some (.ref 227), some (.int (nI n)), some (.int (nI t)), some (.int (nI (8 * t + v))), some (.int (nI p)), l5] [.int (nI (a (37 + 12 * t)))] κ
      refine pw_iload dX6_play_42 rfl ?_
      refine pw_ishr dX6_play_44 ?_
      refine pw_iconst_ (v := nI 1) dX6_play_45 (by decide) ?_
      refine pw_iand dX6_play_46 ?_
      rw [bit_shr _ hT.2.1 p p8]
      show PS l E D cA mX6_play (d + 3) fin 47 [some (.ref 227), some (.int (nI n)), some (.int (nI t)), some (.int (nI (8 * t + v))), some (.int (nI p)), l5] [.int (nI (a (37 + 12 * t) / 2 ^ p % 2))] κ
      obtain ⟨hb, hhb⟩ : ∃ hb, hb = (if a (37 + 12 * t) / 2 ^ p % 2 = 1 then 1 else 0) := ⟨_, rfl⟩
      have tail : PS l E D cA mX6_play (d + 3) fin 58 [some (.ref 227), some (.int (nI n)), some (.int (nI t)), some (.int (nI (8 * t + v))), some (.int (nI p)), some (.int (nI hb))] [] κ := by
        refine pw_aload_n dX6_play_58 rfl ?_
        refine ps_getr (r := 240) dX6_play_59 kf_X6_47 (by decide) (by decide +kernel) ?_
        refine pw_iload_n dX6_play_62 rfl ?_
        refine pw_aload_n dX6_play_63 rfl ?_
        refine ps_getr (r := 239) dX6_play_64 kf_X6_44 (by decide) (by decide +kernel) ?_
        refine pw_iload_n dX6_play_67 rfl ?_
        refine ps_iald (j := 8 * t + v) (x := nI x) dX6_play_68 rfl (ok_ar (n := 48) (by decide +kernel) (by omega)) n1 ?_
        refine pw_aload_n dX6_play_69 rfl ?_
        refine ps_getr (r := 245) dX6_play_70 kf_X6_62 (by decide) (by decide +kernel) ?_
        refine pw_iload dX6_play_73 rfl ?_
        refine ps_iald (j := p) (x := nI f) dX6_play_75 rfl (ok_ar (n := 8) (by decide +kernel) (by omega)) fp ?_
        have t95 : PS l E D cA mX6_play (d + 3) fin 95 [some (.ref 227), some (.int (nI n)), some (.int (nI t)), some (.int (nI (8 * t + v))), some (.int (nI p)), some (.int (nI hb))] [.int (nI B), .int (nI (8 * t + v)), .ref 240] κ := by
          refine ps_iast (j := 8 * t + v) dX6_play_95 rfl (ok_ar (n := 48) (by decide +kernel) (by omega)) ?_
          refine pw_aload_n dX6_play_96 rfl ?_
          refine ps_getr (r := 241) dX6_play_97 kf_X6_50 (by decide) (by decide +kernel) ?_
          refine pw_iload_n dX6_play_100 rfl ?_
          refine pw_aload_n dX6_play_101 rfl ?_
          refine ps_getr (r := 240) dX6_play_102 kf_X6_47 (by decide) (by decide +kernel) ?_
          refine pw_iload_n dX6_play_105 rfl ?_
          refine ps_iald (j := 8 * t + v) (x := nI B) dX6_play_106 rfl (ok_ar (n := 48) (by decide +kernel) (by omega)) u2_s ?_
          refine pw_iload dX6_play_107 rfl ?_
          have t133 : PS l E D cA mX6_play (d + 3) fin 133 [some (.ref 227), some (.int (nI n)), some (.int (nI t)), some (.int (nI (8 * t + v))), some (.int (nI p)), some (.int (nI hb))] [.int (nI L), .int (nI B), .int (nI (8 * t + v)), .ref 241] (u2 κ 240 (8 * t + v) (nI B)) := by
            obtain ⟨e, he⟩ : ∃ e, e = B + L := ⟨_, rfl⟩
            refine px_iaddn (c := e) dX6_play_133 he.symm ?_
            refine ps_iast (j := 8 * t + v) dX6_play_134 rfl (ok_ar (n := 48) (by decide +kernel) (by omega)) ?_
            refine pw_aload_n dX6_play_135 rfl ?_
            refine ps_getr (r := 245) dX6_play_136 kf_X6_62 (by decide) (by decide +kernel) ?_
            refine pw_iload dX6_play_139 rfl ?_
            refine pw_aload_n dX6_play_141 rfl ?_
            refine ps_getr (r := 241) dX6_play_142 kf_X6_50 (by decide) (by decide +kernel) ?_
            refine pw_iload_n dX6_play_145 rfl ?_
            refine ps_iald (j := 8 * t + v) (x := nI e) dX6_play_146 rfl (ok_ar (n := 48) (by decide +kernel) (by omega)) u2_s ?_
            refine ps_iast (j := p) dX6_play_147 rfl (ok_ar (n := 8) (by decide +kernel) (by omega)) ?_
            refine pw_aload_n dX6_play_148 rfl ?_
            refine ps_getr (r := 243) dX6_play_149 kf_X6_56 (by decide) (by decide +kernel) ?_
            refine pw_iload_n dX6_play_152 rfl ?_
            refine pw_aload_n dX6_play_153 rfl ?_
            refine ps_getr (r := 241) dX6_play_154 kf_X6_50 (by decide) (by decide +kernel) ?_
            refine pw_iload_n dX6_play_157 rfl ?_
            refine ps_iald (j := 8 * t + v) (x := nI e) dX6_play_158 rfl (ok_ar (n := 48) (by decide +kernel) (by omega)) ((u2_a (by omega)).trans u2_s) ?_
            refine ps_iast (j := t) dX6_play_159 rfl (ok_ar (n := 6) (by decide +kernel) (by omega)) ?_
            refine pw_aload_n dX6_play_160 rfl ?_
            refine ps_getr (r := 244) dX6_play_161 kf_X6_59 (by decide) (by decide +kernel) ?_
            refine pw_iload_n dX6_play_164 rfl ?_
            refine pw_dup2 dX6_play_165 rfl rfl ?_
            refine ps_iald (j := t) (x := nI v) dX6_play_166 rfl (ok_ar (n := 6) (by decide +kernel) (by omega)) ((u2_a (by omega)).trans ((u2_a (by omega)).trans ((u2_a (by omega)).trans ((u2_a (by omega)).trans m2)))) ?_
            refine pw_iconst_ (v := nI 1) dX6_play_167 (by decide) ?_
            refine px_iaddn (c := v + 1) dX6_play_168 (by omega) ?_
            refine ps_iast (j := t) dX6_play_169 rfl (ok_ar (n := 6) (by decide +kernel) (by omega)) ?_
            refine pw_aload_n dX6_play_170 rfl ?_
            refine pw_iload_n dX6_play_171 rfl ?_
            refine pw_aload_n dX6_play_172 rfl ?_
            refine pw_iload_n dX6_play_173 rfl ?_
            have s1 : dn (stp a g t) = up1 (dn g) t (v + 1) := by unfold stp; rw [hv]
            have eB : (if come a g t < fr g (trv a t (dn g t)) then fr g (trv a t (dn g t)) else come a g t) = B := by rw [← hv, ← hp, ← hfr, ← hx, hBd]
            have eE : (if come a g t < fr g (trv a t (dn g t)) then fr g (trv a t (dn g t)) else come a g t) + lk a t (trv a t (dn g t)) = e := by rw [eB, ← hv, ← hp, ← hL, he]
            have s2 : ov (stp a g t) = up1 (ov g) t e := by show up1 (ov g) t _ = _; rw [eE]
            have s3 : fr (stp a g t) = up1 (fr g) p e := by show up1 (fr g) (trv a t (dn g t)) _ = _; rw [eE, ← hv, ← hp]
            have s4 : cm (stp a g t) = up2 (cm g) t v x := by show up2 (cm g) t (dn g t) _ = _; rw [← hv, hx]
            have s5 : bg (stp a g t) = up2 (bg g) t v B := by show up2 (bg g) t (dn g t) _ = _; rw [eB, ← hv]
            have s6 : en (stp a g t) = up2 (en g) t v e := by show up2 (en g) t (dn g t) _ = _; rw [eE, ← hv]
            have r9 : RM (u2 (u2 (u2 (u2 (u2 κ 240 (8 * t + v) (nI B)) 241 (8 * t + v) (nI e)) 245 p (nI e)) 243 t (nI e)) 244 t (nI (v + 1))) a := fun k hk => by
              rw [u2_a (by decide), u2_a (by decide), u2_a (by decide), u2_a (by decide), u2_a (by decide)]
              exact hR9 k hk
            have pl9 : ∀ i, i < tl a t → (u2 (u2 (u2 (u2 (u2 κ 240 (8 * t + v) (nI B)) 241 (8 * t + v) (nI e)) 245 p (nI e)) 243 t (nI e)) 244 t (nI (v + 1))) 238 (8 * t + i) = nI (trv a t i) := fun i hi => by
              rw [u2_a (by decide), u2_a (by decide), u2_a (by decide), u2_a (by decide), u2_a (by decide)]
              exact m4 i hi
            refine ps_callV (b := 227) (As := [.int (nI t)]) (st := [.int (nI t), .ref 227]) dX6_play_174 cv_X6_108 rfl ⟨by decide, by decide +kernel⟩ (Nat.le_of_ble_eq_true rfl) (Nat.le_of_ble_eq_true rfl) ?_
            refine m_hasLost (v := v + 1) hw (by omega) r9 u2_s (by omega) (fun i hi => pl9 i (by omega)) (fun i hi => trv_lt hw (by omega) (by omega)) ?_
            show PS l E D cA mX6_play (d + 3) fin 177 [some (.ref 227), some (.int (nI n)), some (.int (nI t)), some (.int (nI (8 * t + v))), some (.int (nI p)), some (.int (nI hb))] [.int (kb (lob a t (v + 1) = true)), .int (nI t), .ref 227] (u2 (u2 (u2 (u2 (u2 κ 240 (8 * t + v) (nI B)) 241 (8 * t + v) (nI e)) 245 p (nI e)) 243 t (nI e)) 244 t (nI (v + 1)))
            have w0 : MT0 (u2 (u2 (u2 (u2 (u2 κ 240 (8 * t + v) (nI B)) 241 (8 * t + v) (nI e)) 245 p (nI e)) 243 t (nI e)) 244 t (nI (v + 1))) a (stp a g t) t := by
              refine ⟨?_, ?_, ?_, pl9, fun w hw9 => ?_⟩
              · rw [u2_a (by decide), u2_a (by decide), u2_a (by decide), u2_a (by decide), u2_a (by decide)]
                exact m1
              · rw [s1, up1_s, u2_s]
              · rw [s2, up1_s, u2_a (by decide), u2_s]
              · rw [s1, up1_s] at hw9
                rw [s4, s5, s6, u2_a (by decide), u2_a (by decide), u2_a (by decide), u2_a (by decide), u2_a (by decide)]
                by_cases e9 : w = v
                · subst e9
                  rw [up2_s, up2_s, up2_s]
                  refine ⟨n1, ?_, ?_, ?_⟩
                  · rw [u2_a (by decide), u2_a (by decide), u2_a (by decide), u2_a (by decide), u2_s]
                  · rw [u2_a (by decide), u2_a (by decide), u2_a (by decide), u2_s]
                  · rw [u2_a (by decide), u2_a (by decide), u2_a (by decide), u2_a (by decide), u2_a (by decide)]
                    exact n2
                · have h5 := m5 w (by omega)
                  rw [up2_n (by omega), up2_n (by omega), up2_n (by omega)]
                  refine ⟨h5.1, ?_, ?_, ?_⟩
                  · rw [u2_a (by decide), u2_a (by decide), u2_a (by decide), u2_a (by decide), u2_b (by omega)]
                    exact h5.2.1
                  · rw [u2_a (by decide), u2_a (by decide), u2_a (by decide), u2_b (by omega), u2_a (by decide)]
                    exact h5.2.2.1
                  · rw [u2_a (by decide), u2_a (by decide), u2_a (by decide), u2_a (by decide), u2_a (by decide)]
                    exact h5.2.2.2
            refine ps_callV (b := 227) (As := [.int (nI t), .int (kb (lob a t (v + 1) = true))]) (st := []) dX6_play_177 cv_X6_92 rfl ⟨by decide, by decide +kernel⟩ (Nat.le_of_ble_eq_true rfl) (Nat.le_of_ble_eq_true rfl) ?_
            refine m_walk (g := stp a g t) hw (by omega) r9 w0 (by rw [s1, up1_s]; omega) (by rw [s1, up1_s]; exact kb_ne0) (fun ρ r1 r2 => ?_)
            show PS l E D cA mX6_play (d + 3) fin 180 [some (.ref 227), some (.int (nI n)), some (.int (nI t)), some (.int (nI (8 * t + v))), some (.int (nI p)), some (.int (nI hb))] [] ρ
            refine pw_aload_n dX6_play_180 rfl ?_
            rw [s1, up1_s] at r2
            have hJ2 : MJ ρ a n (gi a n (j + 1)) := by
              rw [egs]
              refine ⟨?_, fun u hu => ?_, fun p9 hp9 => ?_⟩
              · rw [r2 _ _ (by omega), u2_a (by decide), u2_a (by decide), u2_a (by decide), u2_a (by decide), u2_a (by decide)]
                exact k1.1
              · by_cases e9 : u = t
                · subst e9
                  refine ⟨w0.same (r2 _ _ (by omega)) (r2 _ _ (by omega)) (r2 _ _ (by omega)) (fun w hw9 => r2 _ _ (by omega)) (fun q w _ _ hw9 => r2 _ _ ?_), r1⟩
                  rw [s1, up1_s] at hw9
                  omega
                · obtain ⟨q0, q1⟩ := k1.2.1 u hu
                  have u8 := tl_le hw (t := u) (by omega)
                  have d8 := (hB.1 u hu).1
                  have ed : dn (stp a g t) u = dn g u := by rw [s1, up1_n e9]
                  have eo : ov (stp a g t) u = ov g u := by rw [s2, up1_n e9]
                  have ec : come a (stp a g t) u = come a g u := by unfold come; rw [ed, eo]
                  have fz : ∀ q w, 239 ≤ q → q ≤ 242 → w < 8 → ρ q (8 * u + w) = κ q (8 * u + w) := fun q w g1 g2 g3 => by
                    rw [r2 _ _ (by omega), u2_a (by omega), u2_a (by omega), u2_a (by omega)]
                    by_cases f1 : q = 241
                    · subst f1
                      rw [u2_b (by omega), u2_a (by decide)]
                    · rw [u2_a f1]
                      by_cases f2 : q = 240
                      · subst f2
                        rw [u2_b (by omega)]
                      · rw [u2_a f2]
                  obtain ⟨q2, q3, q4, q5, q6⟩ := q0
                  refine ⟨⟨?_, ?_, ?_, fun w hw9 => ?_, fun w hw9 => ?_⟩, fun hl => ?_⟩
                  · rw [r2 _ _ (by omega), u2_a (by decide), u2_a (by decide), u2_a (by decide), u2_a (by decide), u2_a (by decide)]
                    exact q2
                  · rw [r2 _ _ (by omega), u2_b e9, u2_a (by decide), u2_a (by decide), u2_a (by decide), u2_a (by decide), ed]
                    exact q3
                  · rw [r2 _ _ (by omega), u2_a (by decide), u2_b e9, u2_a (by decide), u2_a (by decide), u2_a (by decide), eo]
                    exact q4
                  · rw [r2 _ _ (by omega), u2_a (by decide), u2_a (by decide), u2_a (by decide), u2_a (by decide), u2_a (by decide)]
                    exact q5 w hw9
                  · rw [ed] at hw9
                    have h6 := q6 w hw9
                    rw [s4, s5, s6, up2_n (fun q9 => e9 q9.1), up2_n (fun q9 => e9 q9.1), up2_n (fun q9 => e9 q9.1)]
                    exact ⟨(fz _ w (by decide) (by decide) (by omega)).trans h6.1, (fz _ w (by decide) (by decide) (by omega)).trans h6.2.1, (fz _ w (by decide) (by decide) (by omega)).trans h6.2.2.1, (fz _ w (by decide) (by decide) (by omega)).trans h6.2.2.2⟩
                  · rw [ed] at hl ⊢
                    rw [ec]
                    have h7 := q1 hl
                    exact ⟨(fz _ _ (by decide) (by decide) (by omega)).trans h7.1, (fz _ _ (by decide) (by decide) (by omega)).trans h7.2⟩
              · rw [r2 _ _ (by omega), u2_a (by decide), u2_a (by decide), s3]
                by_cases e9 : p9 = p
                · subst e9
                  rw [u2_s, up1_s]
                · rw [u2_b e9, up1_n e9, u2_a (by decide), u2_a (by decide)]
                  exact k1.2.2 p9 hp9
            have hF2 : PF ρ μ := fun q k g1 g2 => by
              rw [r2 _ _ (by omega), u2_a (by omega), u2_a (by omega), u2_a (by omega), u2_a (by omega), u2_a (by omega)]
              exact k2 q k g1 g2
            refine ps_callV (b := 227) (As := []) (st := []) dX6_play_181 cv_X6_104 rfl ⟨by decide, by decide +kernel⟩ (Nat.le_of_ble_eq_true rfl) (Nat.le_of_ble_eq_true rfl) ?_
            refine m_next hw hna hJ2 (fun t ht => ⟨(hbd _ (by omega) t ht).1, hcm _ (by omega) t ht⟩) ?_
            show PS l E D cA mX6_play (d + 3) fin 184 [some (.ref 227), some (.int (nI n)), some (.int (nI t)), some (.int (nI (8 * t + v))), some (.int (nI p)), some (.int (nI hb))] [.int (eF (nxp a (gi a n (j + 1)) n))] ρ
            refine px_istore_n (ls' := [some (.ref 227), some (.int (nI n)), some (.int (eF (nxp a (gi a n (j + 1)) n))), some (.int (nI (8 * t + v))), some (.int (nI p)), some (.int (nI hb))]) dX6_play_184 rfl rfl (by decide) ?_
            refine pw_goto (tgt := 10) dX6_play_185 (by decide) ?_
            exact ih _ _ _ ρ ⟨hJ2, hF2⟩
          by_cases hc : a (37 + 12 * t) / 2 ^ p % 2 = 1
          · rw [if_pos hc] at hhb
            refine pw_if_eq (tgt := 126) dX6_play_109 (by decide) (fun h9 => absurd h9 (by rw [hhb]; exact nI1_ne)) (fun _ => ?_)
            have hR8 : RM (u2 κ 240 (8 * t + v) (nI B)) a := fun k hk => (u2_a (by decide)).trans (hR9 k hk)
            refine pw_aload_n dX6_play_112 rfl ?_
            refine pw_iload dX6_play_113 rfl ?_
            refine pw_iconst_ (v := nI 2) dX6_play_115 (by decide) ?_
            refine ps_callV (b := 227) (As := [.int (nI p), .int (nI 2)]) (st := [.int (nI B), .int (nI (8 * t + v)), .ref 241]) dX6_play_116 cv_X6_89 rfl ⟨by decide, by decide +kernel⟩ (Nat.le_of_ble_eq_true rfl) (Nat.le_of_ble_eq_true rfl) ?_
            refine m_of (p := p) (w := 2) (by omega) (hR8 _ (by omega)) ?_
            rw [show 4 + 4 * p + 2 = 6 + 4 * p by omega]
            show PS l E D cA mX6_play (d + 3) fin 119 [some (.ref 227), some (.int (nI n)), some (.int (nI t)), some (.int (nI (8 * t + v))), some (.int (nI p)), some (.int (nI hb))] [.int (nI (a (6 + 4 * p))), .int (nI B), .int (nI (8 * t + v)), .ref 241] (u2 κ 240 (8 * t + v) (nI B))
            refine pw_iconst_ (v := nI 1) dX6_play_119 (by decide) ?_
            refine px_iaddn (c := a (6 + 4 * p) + 1) dX6_play_120 (by omega) ?_
            refine pw_iconst_ (v := nI 2) dX6_play_121 (by decide) ?_
            refine px_idivn dX6_play_122 (by omega) (by omega) (by omega) ?_
            refine pw_goto (tgt := 133) dX6_play_123 (by decide) ?_
            have eL : (a (6 + 4 * p) + 1) / 2 = L := by rw [hL]; unfold lk; rw [if_pos hc]
            rw [eL]
            exact t133
          · rw [if_neg hc] at hhb
            refine pw_if_eq (tgt := 126) dX6_play_109 (by decide) (fun _ => ?_) (fun h9 => absurd (by rw [hhb]; exact nI_0) h9)
            have hR8 : RM (u2 κ 240 (8 * t + v) (nI B)) a := fun k hk => (u2_a (by decide)).trans (hR9 k hk)
            refine pw_aload_n dX6_play_126 rfl ?_
            refine pw_iload dX6_play_127 rfl ?_
            refine pw_iconst_ (v := nI 2) dX6_play_129 (by decide) ?_
            refine ps_callV (b := 227) (As := [.int (nI p), .int (nI 2)]) (st := [.int (nI B), .int (nI (8 * t + v)), .ref 241]) dX6_play_130 cv_X6_89 rfl ⟨by decide, by decide +kernel⟩ (Nat.le_of_ble_eq_true rfl) (Nat.le_of_ble_eq_true rfl) ?_
            refine m_of (p := p) (w := 2) (by omega) (hR8 _ (by omega)) ?_
            rw [show 4 + 4 * p + 2 = 6 + 4 * p by omega]
            show PS l E D cA mX6_play (d + 3) fin 133 [some (.ref 227), some (.int (nI n)), some (.int (nI t)), some (.int (nI (8 * t + v))), some (.int (nI p)), some (.int (nI hb))] [.int (nI (a (6 + 4 * p))), .int (nI B), .int (nI (8 * t + v)), .ref 241] (u2 κ 240 (8 * t + v) (nI B))
            have eL : a (6 + 4 * p) = L := by rw [hL]; unfold lk; rw [if_neg hc]
            rw [eL]
            exact t133
        refine pn_le (tgt := 88) dX6_play_76 (by decide) (by omega) (by omega) (fun hc => ?_) (fun hc => ?_)
        · refine pw_aload_n dX6_play_88 rfl ?_
          refine ps_getr (r := 245) dX6_play_89 kf_X6_62 (by decide) (by decide +kernel) ?_
          refine pw_iload dX6_play_92 rfl ?_
          refine ps_iald (j := p) (x := nI f) dX6_play_94 rfl (ok_ar (n := 8) (by decide +kernel) (by omega)) fp ?_
          have eb : B = f := by rw [hBd]; split <;> omega
          rw [eb] at t95
          exact t95
        · refine pw_aload_n dX6_play_79 rfl ?_
          refine ps_getr (r := 239) dX6_play_80 kf_X6_44 (by decide) (by decide +kernel) ?_
          refine pw_iload_n dX6_play_83 rfl ?_
          refine ps_iald (j := 8 * t + v) (x := nI x) dX6_play_84 rfl (ok_ar (n := 48) (by decide +kernel) (by omega)) n1 ?_
          refine pw_goto (tgt := 95) dX6_play_85 (by decide) ?_
          have eb : B = x := by rw [hBd, if_neg (by omega)]
          rw [eb] at t95
          exact t95
      refine pw_iconst_ (v := nI 1) dX6_play_47 (by decide) ?_
      refine pn_ne (tgt := 55) dX6_play_48 (by decide) (by omega) (by omega) (fun hc => ?_) (fun hc => ?_)
      · refine pw_iconst_ (v := nI 0) dX6_play_55 (by decide) ?_
        refine px_istore (ls' := [some (.ref 227), some (.int (nI n)), some (.int (nI t)), some (.int (nI (8 * t + v))), some (.int (nI p)), some (.int (nI 0))]) dX6_play_56 rfl rfl (by decide) ?_
        rw [if_neg hc] at hhb
        rw [hhb] at tail
        exact tail
      · refine pw_iconst_ (v := nI 1) dX6_play_51 (by decide) ?_
        refine pw_goto (tgt := 56) dX6_play_52 (by decide) ?_
        refine px_istore (ls' := [some (.ref 227), some (.int (nI n)), some (.int (nI t)), some (.int (nI (8 * t + v))), some (.int (nI p)), some (.int (nI 1))]) dX6_play_56 rfl rfl (by decide) ?_
        rw [if_pos hc] at hhb
        rw [hhb] at tail
        exact tail
  exact lp 0 (Nat.zero_le _) _ _ _ ν ⟨hJ0, hF0⟩
set_option maxRecDepth 100000 in
set_option maxHeartbeats 4000000 in
theorem m_playAll {a : AS} (hw : Wf a) (hR : RM μ a) (hf : ∀ ν : Mu, PM ν a (a 3) → PF ν μ → fin none ν) : PS l E D cA mX6_playAll (d + 4) fin 0 [some (.ref 227)] [] μ := by
  refine pw_aload_n dX6_playAll_0 rfl ?_
  refine pw_aload_n dX6_playAll_1 rfl ?_
  refine ps_getr (r := 228) dX6_playAll_2 kf_X6_7 (by decide) (by decide +kernel) ?_
  refine pw_iconst_ (v := nI 3) dX6_playAll_5 (by decide) ?_
  refine ps_iald (j := 3) (x := nI (a 3)) dX6_playAll_6 rfl (ok_ar (n := 108) (by decide +kernel) (by decide)) (hR 3 (by decide)) ?_
  refine ps_callV (b := 227) (As := [.int (nI (a 3))]) (st := []) dX6_playAll_7 cv_X6_112 rfl ⟨by decide, by decide +kernel⟩ (Nat.le_of_ble_eq_true rfl) (Nat.le_of_ble_eq_true rfl) ?_
  refine m_play hw (Nat.le_refl _) hR (fun ν h1 h2 => ?_)
  show PS l E D cA mX6_playAll (d + 4) fin 10 [some (.ref 227)] [] ν
  exact ps_ret dX6_playAll_10 rfl (hf ν h1 h2)
set_option maxRecDepth 100000 in
set_option maxHeartbeats 4000000 in
theorem m_endOf {t : Nat} {a : AS} (hw : Wf a) (ht : t < a 3) (hR : RM μ a) (hf : ∀ ν : Mu, PM ν a (a 3) → PF ν μ → fin (some (.int (nI (edA a t)))) ν) : PS l E D cA mX6_endOf (d + 5) fin 0 [some (.ref 227), some (.int (nI t))] [] μ := by
  have n6 := hw.t6
  refine pw_aload_n dX6_endOf_0 rfl ?_
  refine ps_callV (b := 227) (As := []) (st := []) dX6_endOf_1 cv_X6_138 rfl ⟨by decide, by decide +kernel⟩ (Nat.le_of_ble_eq_true rfl) (Nat.le_of_ble_eq_true rfl) ?_
  refine m_playAll hw hR (fun ν h1 h2 => ?_)
  show PS l E D cA mX6_endOf (d + 5) fin 4 [some (.ref 227), some (.int (nI t))] [] ν
  refine pw_aload_n dX6_endOf_4 rfl ?_
  refine ps_getr (r := 243) dX6_endOf_5 kf_X6_56 (by decide) (by decide +kernel) ?_
  refine pw_iload_n dX6_endOf_8 rfl ?_
  refine ps_iald (j := t) (x := nI (edA a t)) dX6_endOf_9 rfl (ok_ar (n := 6) (by decide +kernel) (by omega)) (h1.2 t ht).2.2.1 ?_
  exact ps_iret dX6_endOf_10 rfl (rfl) (hf ν h1 h2)
end MODO
