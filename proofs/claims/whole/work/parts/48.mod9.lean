/-! the model: put -/
section MODI
variable {l : Launch} {E : EV} {D : va_G} {cA : Nat → ClassId} {fin : Option Value → Mu → Prop} {μ : Mu} {d : Nat}
set_option maxRecDepth 100000 in
set_option maxHeartbeats 4000000 in
theorem m_put {c : CS} (hw : CW c) (hx : MX μ c) {U : Nat} (hU : U < 2 ^ 64) (hf : ∀ ν : Mu, MX ν (o_put c U).2 → SX ν μ → fin (some (.int (o_put c U).1)) ν) : PS l E D cA mX6_put (d + 4) fin 0 [some (.ref 227), some (.long (lN U)), none, none, none, none, none] [] μ := by
  obtain ⟨s0, ⟨t1, t2, t3⟩, ⟨s1, s2⟩, s3, s4, s5⟩ := hx
  have keep : ∀ κ : Mu, (∀ q k, q ≠ 235 → κ q k = μ q k) → MX κ c ∧ SX κ μ := fun κ h => ⟨⟨fun k hk => (h _ _ (by decide)).trans (s0 k hk), ⟨t1, (h _ _ (by decide)).trans t2, fun i k a b => (h _ _ (by decide)).trans (t3 i k a b)⟩, ⟨fun j hj => (h _ _ (by decide)).trans (s1 j hj), fun j k a b e => (h _ _ (by decide)).trans (s2 j k a b e)⟩, (h _ _ (by decide)).trans s3, s4, fun k hk => ⟨(h _ _ (by decide)).trans (s5 k hk).1, (s5 k hk).2⟩⟩, fun q k g => h q k (by omega)⟩
  have tl : ∀ n : Nat, n ≤ 8 → ∀ x3 : Int64, ∀ l6 : Option Value, ∀ κ : Mu, ((∀ q k, q ≠ 235 → κ q k = μ q k) ∧ (∀ k, k < n → κ 235 k = nI (byt U k))) → loU U = n → PS l E D cA mX6_put (d + 4) fin 63 [some (.ref 227), some (.long (lN U)), none, some (.long x3), none, some (.int (nI n)), l6] [] κ := by
    rintro n n8 x3 l6 κ ⟨k1, k2⟩ hL
    obtain ⟨hmx, hsx⟩ := keep κ k1
    have hz0 : ∀ n, n ≤ 8 → (nI n = 0 ↔ n = 0) := by decide
    refine pw_iload dX6_put_63 rfl ?_
    refine pw_if_ne (tgt := 71) dX6_put_65 (by decide) (fun h1 => ?_) (fun h1 => ?_)
    · have n0 : n ≠ 0 := fun q => h1 ((hz0 _ n8).mpr q)
      refine pw_aload_n dX6_put_71 rfl ?_
      refine ps_geti (x := nI (pL c)) dX6_put_72 kf_X6_155 (by decide) (by decide +kernel) ((k1 _ _ (by decide)).trans s3) ?_
      refine pw_iload dX6_put_75 rfl ?_
      refine px_iaddn (c := pL c + n) dX6_put_77 (by omega) ?_
      refine pw_bipush (v := nI 20) dX6_put_78 (by decide) ?_
      refine pn_le (tgt := 86) dX6_put_80 (by decide) (by omega) (by omega) (fun h2 => ?_) (fun h2 => ?_)
      · refine pw_iload dX6_put_86 rfl ?_
        refine pw_iconst_ (v := nI 1) dX6_put_88 (by decide) ?_
        refine pn_isub (by omega) dX6_put_89 ?_
        rw [show nI (n - 1) = dl n by cases n with | zero => omega | succ k => rfl]
        refine px_istore (ls' := [some (.ref 227), some (.long (lN U)), none, some (.long x3), none, some (.int (nI n)), some (.int (dl n))]) dX6_put_90 rfl rfl (by decide) ?_
        have lp : ∀ j : Nat, j ≤ n → ∀ σ : Mu, (σ 227 8 = nI (pL c + j) ∧ (∀ k, k < pL c → σ 234 k = μ 234 k) ∧ (∀ i, i < j → σ 234 (pL c + i) = nI (byt U (n - 1 - i))) ∧ (∀ q k, q ≠ 234 → q ≠ 235 → (q = 227 → k ≠ 8) → σ q k = μ q k) ∧ ∀ k, k < n → σ 235 k = nI (byt U k)) → PS l E D cA mX6_put (d + 4) fin 92 [some (.ref 227), some (.long (lN U)), none, some (.long x3), none, some (.int (nI n)), some (.int (dl (n - j)))] [] σ := by
          refine ps_for n ?_ ?_
          · rintro σ ⟨m1, m2, m3, m4, m5⟩
            rw [Nat.sub_self]
            show PS l E D cA mX6_put (d + 4) fin 92 [some (.ref 227), some (.long (lN U)), none, some (.long x3), none, some (.int (nI n)), some (.int (-1))] [] σ
            refine pw_iload dX6_put_92 rfl ?_
            refine pw_if_lt (tgt := 129) dX6_put_94 (by decide) (fun _ => ?_) (fun h9 => absurd (by decide) h9)
            refine pw_aload_n dX6_put_129 rfl ?_
            refine ps_geti (x := nI (pL c + n)) dX6_put_130 kf_X6_155 (by decide) (by decide +kernel) m1 ?_
            have hk := loR_ok (U := U) 8 0 (fun j hj => absurd hj (Nat.not_lt_zero _)) (show loU U ≠ 0 by omega)
            have hk2 : ∀ j, j < n → okb (byt U j) = true := fun j hj => hk.2 j (by show j < loU U; omega)
            have e9 : o_put c U = (nI (pL c + n), (na c, hH c, hN c, sS c, sV c, app (pD c) (pL c) U n, pL c + n)) := by
              unfold o_put
              rw [hL, if_neg n0, if_pos (by omega)]
            rw [e9] at hf
            have f : ∀ q k, q ≠ 234 → q ≠ 235 → (q = 227 → k ≠ 8) → σ q k = μ q k := m4
            refine ps_iret dX6_put_133 rfl rfl (hf σ ⟨fun k hk => (f _ _ (by decide) (by decide) (by omega)).trans (s0 k hk), ⟨t1, (f _ _ (by decide) (by decide) (by omega)).trans t2, fun i k a b => (f _ _ (by decide) (by decide) (by omega)).trans (t3 i k a b)⟩, ⟨fun j hj => (f _ _ (by decide) (by decide) (by omega)).trans (s1 j hj), fun j k a b e => (f _ _ (by decide) (by decide) (by omega)).trans (s2 j k a b e)⟩, m1, by show pL c + n ≤ 20; omega, ?_⟩ (fun q k g => f q k (by omega) (by omega) (by omega)))
            intro k hk
            have hk : k < pL c + n := hk
            show σ 234 k = nI (app (pD c) (pL c) U n k) ∧ 33 ≤ app (pD c) (pL c) U n k ∧ app (pD c) (pL c) U n k ≤ 126
            unfold app
            by_cases hk3 : k < pL c
            · rw [if_pos hk3, m2 k hk3]
              exact s5 k hk3
            · rw [if_neg hk3]
              have h9 := m3 (k - pL c) (by omega)
              rw [show pL c + (k - pL c) = k by omega] at h9
              have h8 := hk2 (n - 1 - (k - pL c)) (by omega)
              simp only [okb, decide_eq_true_eq] at h8
              exact ⟨h9, h8⟩
          · rintro j hj ih σ ⟨m1, m2, m3, m4, m5⟩
            obtain ⟨i, hi⟩ : ∃ i, n - j = i + 1 := ⟨n - j - 1, by omega⟩
            have hi2 : i = n - 1 - j := by omega
            rw [hi]
            show PS l E D cA mX6_put (d + 4) fin 92 [some (.ref 227), some (.long (lN U)), none, some (.long x3), none, some (.int (nI n)), some (.int (nI i))] [] σ
            refine pw_iload dX6_put_92 rfl ?_
            refine pw_if_lt (tgt := 129) dX6_put_94 (by decide) (fun h9 => absurd h9 (nI_pos (by omega))) (fun _ => ?_)
            refine pw_aload_n dX6_put_97 rfl ?_
            refine ps_getr (r := 234) dX6_put_98 kf_X6_29 (by decide) (by decide +kernel) ?_
            refine pw_aload_n dX6_put_101 rfl ?_
            refine ps_geti (x := nI (pL c + j)) dX6_put_102 kf_X6_155 (by decide) (by decide +kernel) m1 ?_
            refine pw_aload_n dX6_put_105 rfl ?_
            refine ps_getr (r := 235) dX6_put_106 kf_X6_32 (by decide) (by decide +kernel) ?_
            refine pw_iload dX6_put_109 rfl ?_
            refine ps_iald (j := i) (x := nI (byt U i)) dX6_put_111 rfl (ok_ar (n := 8) (by decide +kernel) (by omega)) (m5 i (by omega)) ?_
            refine ps_iast (j := pL c + j) dX6_put_112 rfl (ok_ar (n := 20) (by decide +kernel) (by omega)) ?_
            refine pw_aload_n dX6_put_113 rfl ?_
            refine pw_dup dX6_put_114 rfl ?_
            refine ps_geti (x := nI (pL c + j)) dX6_put_115 kf_X6_155 (by decide) (by decide +kernel) ((u2_a (by omega)).trans m1) ?_
            refine pw_iconst_ (v := nI 1) dX6_put_118 (by decide) ?_
            refine px_iaddn (c := pL c + j + 1) dX6_put_119 (by omega) ?_
            refine ps_puti dX6_put_120 kf_X6_155 (by decide) rfl (by decide +kernel) ?_
            refine px_iinc (v := dl i) (ls' := [some (.ref 227), some (.long (lN U)), none, some (.long x3), none, some (.int (nI n)), some (.int (dl i))]) dX6_put_123 rfl (dl_m1 i) rfl rfl ?_
            refine pw_goto (tgt := 92) dX6_put_126 (by decide) ?_
            have h9 := ih (u2 (u2 σ 234 (pL c + j) (nI (byt U i))) 227 8 (nI (pL c + j + 1))) ⟨u2_s, fun k hk => ?_, fun m hm => ?_, fun q k g1 g2 g3 => ?_, fun k hk => ?_⟩
            · rw [show n - (j + 1) = i by omega] at h9
              exact h9
            · rw [u2_a (by decide), u2_b (by omega)]
              exact m2 k hk
            · rw [u2_a (by decide)]
              by_cases e : m = j
              · subst e
                rw [u2_s, hi2]
              · rw [u2_b (by omega)]
                exact m3 m (by omega)
            · by_cases e : q = 227
              · subst e
                rw [u2_b (g3 rfl), u2_a g1]
                exact m4 _ k g1 g2 g3
              · rw [u2_a e, u2_a g1]
                exact m4 q k g1 g2 g3
            · rw [u2_a (by decide), u2_a (by decide)]
              exact m5 k hk
        have h9 := lp 0 (Nat.zero_le _) κ ⟨(k1 _ _ (by decide)).trans s3, fun k hk => k1 _ _ (by decide), fun _ h => absurd h (Nat.not_lt_zero _), fun q k g1 g2 g3 => k1 q k g2, k2⟩
        rw [Nat.sub_zero] at h9
        exact h9
      · refine pw_ldc dX6_put_83 kc_X6_163 ?_
        have e9 : o_put c U = (-100004, c) := by
          unfold o_put
          rw [hL, if_neg n0, if_neg (by omega)]
        rw [e9] at hf
        exact ps_iret dX6_put_85 rfl (rfl) (hf κ hmx hsx)
    · refine pw_ldc dX6_put_68 kc_X6_74 ?_
      have e9 : o_put c U = (-100002, c) := by
        unfold o_put
        rw [hL, if_pos ((hz0 _ n8).mp h1)]
      rw [e9] at hf
      exact ps_iret dX6_put_70 rfl (rfl) (hf κ hmx hsx)
  refine pw_lload_n dX6_put_0 rfl ?_
  refine px_lstore_n (ls' := [some (.ref 227), some (.long (lN U)), none, some (.long (lN U)), none, none, none]) dX6_put_1 rfl rfl (by decide) ?_
  refine pw_iconst_ (v := nI 0) dX6_put_2 (by decide) ?_
  refine px_istore (ls' := [some (.ref 227), some (.long (lN U)), none, some (.long (lN U)), none, some (.int (nI 0)), none]) dX6_put_3 rfl rfl (by decide) ?_
  have lr : ∀ i : Nat, i ≤ 8 → ∀ κ : Mu, ((∀ q k, q ≠ 235 → κ q k = μ q k) ∧ (∀ k, k < i → κ 235 k = nI (byt U k))) → loU U = loR U (8 - i) i → PS l E D cA mX6_put (d + 4) fin 5 [some (.ref 227), some (.long (lN U)), none, some (.long (lN (U / 256 ^ i))), none, some (.int (nI i)), none] [] κ := by
    refine ps_for 8 ?_ ?_
    · rintro κ hκ hL
      refine pw_lload_n dX6_put_5 rfl ?_
      refine pw_lconst (v := 0) dX6_put_6 (by decide) ?_
      refine pw_lcmp dX6_put_7 ?_
      have hUi : U / 256 ^ 8 < 2 ^ 64 := Nat.lt_of_le_of_lt (Nat.div_le_self _ _) hU
      refine pw_if_eq (tgt := 63) dX6_put_8 (by decide) (fun h9 => ?_) (fun h9 => ?_)
      · exact tl 8 (by decide) _ _ κ hκ hL
      · refine pw_iload dX6_put_11 rfl ?_
        refine pw_bipush (v := nI 8) dX6_put_13 (by decide) ?_
        refine pn_ge (tgt := 63) dX6_put_15 (by decide) (by omega) (by omega) (fun _ => ?_) (fun h9 => absurd h9 (by omega))
        exact tl 8 (by decide) _ _ κ hκ hL
    · rintro i hi ih κ hκ hL
      obtain ⟨f, hf8⟩ : ∃ f, 8 - i = f + 1 := ⟨7 - i, by omega⟩
      rw [hf8, loR] at hL
      refine pw_lload_n dX6_put_5 rfl ?_
      refine pw_lconst (v := 0) dX6_put_6 (by decide) ?_
      refine pw_lcmp dX6_put_7 ?_
      have hUi : U / 256 ^ i < 2 ^ 64 := Nat.lt_of_le_of_lt (Nat.div_le_self _ _) hU
      refine pw_if_eq (tgt := 63) dX6_put_8 (by decide) (fun h9 => ?_) (fun h9 => ?_)
      · rw [if_pos ((lcmp0 hUi).mp h9)] at hL
        exact tl i (by omega) _ _ κ hκ hL
      · rw [if_neg (fun q => h9 ((lcmp0 hUi).mpr q))] at hL
        refine pw_iload dX6_put_11 rfl ?_
        refine pw_bipush (v := nI 8) dX6_put_13 (by decide) ?_
        refine pn_ge (tgt := 63) dX6_put_15 (by decide) (by omega) (by omega) (fun h9 => absurd h9 (by omega)) (fun _ => ?_)
        refine pw_aload_n dX6_put_18 rfl ?_
        refine ps_getr (r := 235) dX6_put_19 kf_X6_32 (by decide) (by decide +kernel) ?_
        refine pw_iload dX6_put_22 rfl ?_
        refine pw_lload_n dX6_put_24 rfl ?_
        refine pw_ldc2_w dX6_put_25 kl_X6_220 ?_
        refine pw_land dX6_put_28 ?_
        rw [l255 hUi]
        show PS l E D cA mX6_put (d + 4) fin 29 [some (.ref 227), some (.long (lN U)), none, some (.long (lN (U / 256 ^ i))), none, some (.int (nI i)), none] [.long (lN (byt U i)), .int (nI i), .ref 235] κ
        refine pw_l2i (v := nI (byt U i)) dX6_put_29 (lN_i _) ?_
        have hb8 : byt U i < 256 := Nat.mod_lt _ (by decide)
        refine ps_iast (j := i) dX6_put_30 rfl (ok_ar (n := 8) (by decide +kernel) (by omega)) ?_
        refine pw_aload_n dX6_put_31 rfl ?_
        refine ps_getr (r := 235) dX6_put_32 kf_X6_32 (by decide) (by decide +kernel) ?_
        refine pw_iload dX6_put_35 rfl ?_
        refine ps_iald (j := i) (x := nI (byt U i)) dX6_put_37 rfl (ok_ar (n := 8) (by decide +kernel) (by omega)) u2_s ?_
        refine pw_i2l dX6_put_38 rfl ?_
        refine pw_bipush (v := nI 33) dX6_put_39 (by decide) ?_
        refine pw_bipush (v := nI 126) dX6_put_41 (by decide) ?_
        refine ps_callS (As := [.long ((nI (byt U i)).toInt64), .int (nI 33), .int (nI 126)]) (st := []) dX6_put_43 cs_X6_65 rfl (Nat.le_of_ble_eq_true rfl) (Nat.le_of_ble_eq_true rfl) ?_
        refine m_in ?_
        show PS l E D cA mX6_put (d + 4) fin 46 [some (.ref 227), some (.long (lN U)), none, some (.long (lN (U / 256 ^ i))), none, some (.int (nI i)), none] [.int (kb (¬ nI (byt U i) < nI 33 ∧ ¬ nI 126 < nI (byt U i)))] (u2 κ 235 i (nI (byt U i)))
        by_cases hc : okb (byt U i) = true
        · rw [kb_t ((okb_kb _ hb8).mpr hc)]
          rw [if_pos hc] at hL
          refine pw_if_ne (tgt := 52) dX6_put_46 (by decide) (fun _ => ?_) (fun h9 => absurd h9 nI1_ne)
          refine pw_lload_n dX6_put_52 rfl ?_
          refine pw_bipush (v := nI 8) dX6_put_53 (by decide) ?_
          refine pw_lushr dX6_put_55 rfl ?_
          rw [wb_shr hUi (by decide : 8 < 64), Nat.div_div_eq_div_mul, show 256 ^ i * 2 ^ 8 = 256 ^ (i + 1) from rfl]
          refine px_lstore_n (ls' := [some (.ref 227), some (.long (lN U)), none, some (.long (lN (U / 256 ^ (i + 1)))), none, some (.int (nI i)), none]) dX6_put_56 rfl rfl (by decide) ?_
          refine px_iincn (n := 1) (a := i) (b := i + 1) (ls' := [some (.ref 227), some (.long (lN U)), none, some (.long (lN (U / 256 ^ (i + 1)))), none, some (.int (nI (i + 1))), none]) dX6_put_57 rfl rfl rfl (by omega) ?_
          refine pw_goto (tgt := 5) dX6_put_60 (by decide) ?_
          refine ih _ ⟨fun q k g => (u2_a g).trans (hκ.1 q k g), fun k g => ?_⟩ (by rw [show 8 - (i + 1) = f by omega]; exact hL)
          rcases Nat.lt_or_eq_of_le (Nat.le_of_lt_succ g) with h | rfl
          · rw [u2_b (by omega)]
            exact hκ.2 k h
          · rw [u2_s]
        · rw [kb_f (fun q => hc ((okb_kb _ hb8).mp q))]
          rw [if_neg hc] at hL
          refine pw_if_ne (tgt := 52) dX6_put_46 (by decide) (fun h9 => absurd nI_0 h9) (fun _ => ?_)
          refine pw_ldc dX6_put_49 kc_X6_74 ?_
          have e9 : o_put c U = (-100002, c) := by
            unfold o_put
            rw [if_pos hL]
          rw [e9] at hf
          have kk := keep _ (fun q k (g : q ≠ 235) => (u2_a (x := nI (byt U i)) (k := i) g).trans (hκ.1 q k g))
          exact ps_iret dX6_put_51 rfl (rfl) (hf _ kk.1 kk.2)
  have h9 := lr 0 (Nat.zero_le _) μ ⟨fun _ _ _ => rfl, fun _ h => absurd h (Nat.not_lt_zero _)⟩ rfl
  rw [Nat.pow_zero, Nat.div_one] at h9
  exact h9
end MODI
