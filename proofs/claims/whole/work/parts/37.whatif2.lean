/-! what if: the best exchange, the worst place -/
section WHATIFB
variable {l : Launch} {E : EV} {D : va_G} {cA : Nat → ClassId} {fin : Option Value → Mu → Prop} {μ : Mu} {d : Nat}
set_option maxRecDepth 100000 in
set_option maxHeartbeats 4000000 in
theorem x_bestExchange {c : CS} (hw : CW c) (hx : CX μ c) {v w : Int32} (hf : ∀ ν : Mu, CX ν (o_bestExchange c v w).2 → SM ν μ → fin (some (.int (o_bestExchange c v w).1)) ν) : PS l E D cA mX5_bestExchange (d + 5) fin 0 [some (.ref 0), some (.int v), some (.int w), none, none, none, none, none, none, none] [] μ := by
  have hq := hx
  refine pw_aload_n dX5_bestExchange_0 rfl ?_
  refine pw_iload_n dX5_bestExchange_1 rfl ?_
  refine ps_callV (b := 0) (As := [.int v]) (st := []) dX5_bestExchange_2 cv_X5_121 rfl ⟨by decide, by decide +kernel⟩ (Nat.le_of_ble_eq_true rfl) (Nat.le_of_ble_eq_true rfl) ?_
  refine c_isTeam hx.1.2.1 ?_
  refine pw_if_ne (tgt := 11) dX5_bestExchange_5 (by decide) (fun h9 => ?_) (fun h9 => ?_)
  · have h1 := kb_ne0.mp h9
    obtain ⟨t, ht, rfl⟩ := (rg_nat (by have := hw.1.t6; omega)).mp h1
    have t6 : t < 6 := Nat.lt_of_lt_of_le ht hw.1.t6
    have htn : iN (nI t) = t := iN_nI (by omega)
    refine pw_iload_n dX5_bestExchange_11 rfl ?_
    refine pw_iconst_ (v := nI 0) dX5_bestExchange_12 (by decide) ?_
    refine pw_iconst_ (v := nI 2) dX5_bestExchange_13 (by decide) ?_
    refine ps_callS (As := [.int w, .int (nI 0), .int (nI 2)]) (st := []) dX5_bestExchange_14 cs_X5_48 rfl (Nat.le_of_ble_eq_true rfl) (Nat.le_of_ble_eq_true rfl) ?_
    refine c_isFrom ?_
    refine pw_if_ne (tgt := 23) dX5_bestExchange_17 (by decide) (fun h9 => ?_) (fun h9 => ?_)
    · have h2 := kb_ne0.mp h9
      refine pw_aload_n dX5_bestExchange_23 rfl ?_
      refine ps_getr (r := 19) dX5_bestExchange_24 kf_X5_16 (by decide) (by decide +kernel) ?_
      refine pw_aload_n dX5_bestExchange_27 rfl ?_
      refine ps_getr (r := 1) dX5_bestExchange_28 kf_X5_10 (by decide) (by decide +kernel) ?_
      refine ps_callV (b := 19) (As := [.ref 1]) (st := []) dX5_bestExchange_31 cv_X5_241 rfl ⟨by decide, by decide +kernel⟩ (Nat.le_of_ble_eq_true rfl) (Nat.le_of_ble_eq_true rfl) ?_
      refine c_S_copyFrom (s := 19) (o := 1) isS_19 isS_1 (by decide) ?_
      intro ν hν
      have hrs : RS ν 19 (na c) := hν.RS hw.1.t6 hx.1
      obtain ⟨n, hn⟩ : ∃ n, n = na c (39 + 12 * t) := ⟨_, rfl⟩
      have n8 : n ≤ 8 := by rw [hn]; exact (hw.1.tm ht).2.2.2.1.2
      have hT := (hrs.2.2.2.2 t ht).1
      rw [← hn] at hT
      have hb : ∀ k, k ≤ n * n → ∀ y, bxk (xed (na c) t) n k = some y → y.2.2 ≤ 10520 := bxk_le (fun i j h1 h2 => xed_le hw.1 ht (by omega) (by omega))
      show PS l E D cA mX5_bestExchange (d + 5) fin 34 [some (.ref 0), some (.int (nI t)), some (.int w), none, none, none, none, none, none, none] [] ν
      refine pw_aload_n dX5_bestExchange_34 rfl ?_
      refine ps_getr (r := 19) dX5_bestExchange_35 kf_X5_16 (by decide) (by decide +kernel) ?_
      refine ps_getr (r := 24) dX5_bestExchange_38 kf_X5_102 (by decide) (by decide +kernel) ?_
      refine pw_iload_n dX5_bestExchange_41 rfl ?_
      refine ps_aald (t := 5) (j := t) (r := 25 + 2 * t) dX5_bestExchange_42 rfl (ok_T (by unfold isS; decide : isS 19) (by omega)).1 (by decide) ?_
      refine ps_geti (x := nI n) dX5_bestExchange_43 kf_X5_137 (by decide) ((ok_T (by unfold isS; decide : isS 19) (by omega)).2.2.1) hT ?_
      refine px_istore_n (ls' := [some (.ref 0), some (.int (nI t)), some (.int w), some (.int (nI n)), none, none, none, none, none, none]) dX5_bestExchange_46 rfl rfl (by decide) ?_
      refine pw_ldc dX5_bestExchange_47 kc_X5_96 ?_
      refine px_istore (ls' := [some (.ref 0), some (.int (nI t)), some (.int w), some (.int (nI n)), some (.int (-100006)), none, none, none, none, none]) dX5_bestExchange_49 rfl rfl (by decide) ?_
      refine pw_ldc dX5_bestExchange_51 kc_X5_96 ?_
      refine px_istore (ls' := [some (.ref 0), some (.int (nI t)), some (.int w), some (.int (nI n)), some (.int (-100006)), some (.int (-100006)), none, none, none, none]) dX5_bestExchange_53 rfl rfl (by decide) ?_
      refine pw_ldc dX5_bestExchange_55 kc_X5_96 ?_
      refine px_istore (ls' := [some (.ref 0), some (.int (nI t)), some (.int w), some (.int (nI n)), some (.int (-100006)), some (.int (-100006)), some (.int (-100006)), none, none, none]) dX5_bestExchange_57 rfl rfl (by decide) ?_
      refine pw_iconst_ (v := nI 0) dX5_bestExchange_59 (by decide) ?_
      refine px_istore (ls' := [some (.ref 0), some (.int (nI t)), some (.int w), some (.int (nI n)), some (.int (-100006)), some (.int (-100006)), some (.int (-100006)), some (.int (nI 0)), none, none]) dX5_bestExchange_60 rfl rfl (by decide) ?_
      have lp : ∀ i : Nat, i ≤ n → ∀ la lb : Option Value, ∀ κ : Mu, (∀ q k, ¬ (37 ≤ q ∧ q < 77) → κ q k = ν q k) → PS l E D cA mX5_bestExchange (d + 5) fin 62 [some (.ref 0), some (.int (nI t)), some (.int w), some (.int (nI n)), some (.int (x1 (bxk (xed (na c) t) n (i * n)))), some (.int (x2 (bxk (xed (na c) t) n (i * n)))), some (.int (x3 (bxk (xed (na c) t) n (i * n)))), some (.int (nI i)), la, lb] [] κ := by
        refine ps_for n ?_ ?_
        · intro la lb κ hκ
          refine pw_iload dX5_bestExchange_62 rfl ?_
          refine pw_iload_n dX5_bestExchange_64 rfl ?_
          refine pn_ge (tgt := 129) dX5_bestExchange_65 (by decide) (by omega) (by omega) (fun _ => ?_) (fun h9 => absurd h9 (by omega))
          refine pw_iload_n dX5_bestExchange_129 rfl ?_
          have hxκ : CX κ c := hx.off hw (fun q k g1 g2 => (hκ q k (by omega)).trans (hν.1 q k (by omega)))
          have hSκ : SM κ μ := fun q k g => (hκ q k (by omega)).trans (hν.1 q k (by omega))
          refine pw_if_ne (tgt := 138) dX5_bestExchange_130 (by decide) (fun w0 => ?_) (fun w0 => ?_)
          · refine pw_iload_n dX5_bestExchange_138 rfl ?_
            refine pw_iconst_ (v := nI 1) dX5_bestExchange_139 (by decide) ?_
            refine pw_icmp_ne (tgt := 148) dX5_bestExchange_140 (by decide) (fun w1 => ?_) (fun w1 => ?_)
            · refine pw_iload dX5_bestExchange_148 rfl ?_
              have e9 : o_bestExchange c (nI t) w = (x3 (bxk (xed (na c) t) n (n * n)), c) := by
                unfold o_bestExchange
                rw [if_pos h1, htn, if_pos h2, hn]
                exact congrArg (fun x => (x, c)) ((if_neg (by rw [nI_0]; exact w0)).trans (if_neg w1))
              rw [e9] at hf
              exact ps_iret dX5_bestExchange_150 rfl (rfl) (hf κ hxκ hSκ)
            · refine pw_iload dX5_bestExchange_143 rfl ?_
              refine pw_goto (tgt := 150) dX5_bestExchange_145 (by decide) ?_
              have e9 : o_bestExchange c (nI t) w = (x2 (bxk (xed (na c) t) n (n * n)), c) := by
                unfold o_bestExchange
                rw [if_pos h1, htn, if_pos h2, hn]
                exact congrArg (fun x => (x, c)) ((if_neg (by rw [nI_0]; exact w0)).trans (if_pos w1))
              rw [e9] at hf
              exact ps_iret dX5_bestExchange_150 rfl (rfl) (hf κ hxκ hSκ)
          · refine pw_iload dX5_bestExchange_133 rfl ?_
            refine pw_goto (tgt := 150) dX5_bestExchange_135 (by decide) ?_
            have e9 : o_bestExchange c (nI t) w = (x1 (bxk (xed (na c) t) n (n * n)), c) := by
              unfold o_bestExchange
              rw [if_pos h1, htn, if_pos h2, hn]
              exact congrArg (fun x => (x, c)) (if_pos (by rw [nI_0]; exact w0))
            rw [e9] at hf
            exact ps_iret dX5_bestExchange_150 rfl (rfl) (hf κ hxκ hSκ)
        · intro i hi ih la lb κ hκ
          refine pw_iload dX5_bestExchange_62 rfl ?_
          refine pw_iload_n dX5_bestExchange_64 rfl ?_
          refine pn_ge (tgt := 129) dX5_bestExchange_65 (by decide) (by omega) (by omega) (fun h9 => absurd h9 (by omega)) (fun _ => ?_)
          refine pw_iload dX5_bestExchange_68 rfl ?_
          refine pw_iconst_ (v := nI 1) dX5_bestExchange_70 (by decide) ?_
          refine px_iaddn (c := i + 1) dX5_bestExchange_71 (by omega) ?_
          refine px_istore (ls' := [some (.ref 0), some (.int (nI t)), some (.int w), some (.int (nI n)), some (.int (x1 (bxk (xed (na c) t) n (i * n)))), some (.int (x2 (bxk (xed (na c) t) n (i * n)))), some (.int (x3 (bxk (xed (na c) t) n (i * n)))), some (.int (nI i)), some (.int (nI (i + 1))), lb]) dX5_bestExchange_72 rfl rfl (by decide) ?_
          have lq : ∀ j : Nat, j ≤ n → i + 1 ≤ j → ∀ lc : Option Value, ∀ ρ : Mu, (∀ q k, ¬ (37 ≤ q ∧ q < 77) → ρ q k = ν q k) → PS l E D cA mX5_bestExchange (d + 5) fin 74 [some (.ref 0), some (.int (nI t)), some (.int w), some (.int (nI n)), some (.int (x1 (bxk (xed (na c) t) n (i * n + j)))), some (.int (x2 (bxk (xed (na c) t) n (i * n + j)))), some (.int (x3 (bxk (xed (na c) t) n (i * n + j)))), some (.int (nI i)), some (.int (nI j)), lc] [] ρ := by
            refine ps_for n ?_ ?_
            · intro _ lc ρ hρ
              refine pw_iload dX5_bestExchange_74 rfl ?_
              refine pw_iload_n dX5_bestExchange_76 rfl ?_
              refine pn_ge (tgt := 123) dX5_bestExchange_77 (by decide) (by omega) (by omega) (fun _ => ?_) (fun h9 => absurd h9 (by omega))
              refine px_iincn (n := 1) (a := i) (b := i + 1) (ls' := [some (.ref 0), some (.int (nI t)), some (.int w), some (.int (nI n)), some (.int (x1 (bxk (xed (na c) t) n (i * n + n)))), some (.int (x2 (bxk (xed (na c) t) n (i * n + n)))), some (.int (x3 (bxk (xed (na c) t) n (i * n + n)))), some (.int (nI (i + 1))), some (.int (nI n)), lc]) dX5_bestExchange_123 rfl rfl rfl (by omega) ?_
              refine pw_goto (tgt := 62) dX5_bestExchange_126 (by decide) ?_
              have g := ih (some (.int (nI n))) lc ρ hρ
              rw [show (i + 1) * n = i * n + n from Nat.succ_mul i n] at g
              exact g
            · intro j hj jh hij lc ρ hρ
              obtain ⟨r, hr⟩ : ∃ r, r = bxk (xed (na c) t) n (i * n + j) := ⟨_, rfl⟩
              have hkk : i * n + j ≤ n * n := by
                have : i * n + n ≤ n * n := by rw [← Nat.succ_mul]; exact Nat.mul_le_mul_right _ hi
                omega
              have hb2 := hb _ hkk
              have hs := bxk_step (f := xed (na c) t) (show i < j by omega) hj
              rw [← hr] at hs hb2 ⊢
              refine pw_iload dX5_bestExchange_74 rfl ?_
              refine pw_iload_n dX5_bestExchange_76 rfl ?_
              refine pn_ge (tgt := 123) dX5_bestExchange_77 (by decide) (by omega) (by omega) (fun h9 => absurd h9 (by omega)) (fun _ => ?_)
              refine pw_aload_n dX5_bestExchange_80 rfl ?_
              refine pw_iload_n dX5_bestExchange_81 rfl ?_
              refine pw_iload dX5_bestExchange_82 rfl ?_
              refine pw_iload dX5_bestExchange_84 rfl ?_
              refine ps_callV (b := 0) (As := [.int (nI t), .int (nI i), .int (nI j)]) (st := []) dX5_bestExchange_86 cv_X5_243 rfl ⟨by decide, by decide +kernel⟩ (Nat.le_of_ble_eq_true rfl) (Nat.le_of_ble_eq_true rfl) ?_
              refine c_endIfExchanged hw.1 ht (by omega) (by omega) (by omega) (RS.same hw.1.t6 (fun i k g1 g2 => hρ i k (by omega)) hrs) ?_
              intro σ hσ
              have hel : xed (na c) t i j ≤ 10520 := xed_le hw.1 ht (by omega) (by omega)
              have fr : ∀ q k, ¬ (37 ≤ q ∧ q < 77) → σ q k = ν q k := fun q k g => (hσ q k g).trans (hρ q k g)
              have hne : ∀ q, q ≤ 10520 → nI q ≠ -100006 := fun q hq h => by
                have h2 := congrArg Int32.toInt h
                rw [nI_toInt (by omega), show (-100006 : Int32).toInt = -100006 by decide] at h2
                omega
              cases r with
              | none =>
                show PS l E D cA mX5_bestExchange (d + 5) fin 89 [some (.ref 0), some (.int (nI t)), some (.int w), some (.int (nI n)), some (.int (-100006)), some (.int (-100006)), some (.int (-100006)), some (.int (nI i)), some (.int (nI j)), lc] [.int (nI (xed (na c) t i j))] σ
                refine px_istore (ls' := [some (.ref 0), some (.int (nI t)), some (.int w), some (.int (nI n)), some (.int (-100006)), some (.int (-100006)), some (.int (-100006)), some (.int (nI i)), some (.int (nI j)), some (.int (nI (xed (na c) t i j)))]) dX5_bestExchange_89 rfl rfl (by decide) ?_
                refine pw_iload dX5_bestExchange_91 rfl ?_
                refine pw_ldc dX5_bestExchange_93 kc_X5_96 ?_
                refine pw_icmp_eq (tgt := 105) dX5_bestExchange_95 (by decide) (fun _ => ?_) (fun h9 => absurd rfl h9)
                refine pw_iload dX5_bestExchange_105 rfl ?_
                refine px_istore (ls' := [some (.ref 0), some (.int (nI t)), some (.int w), some (.int (nI n)), some (.int (nI i)), some (.int (-100006)), some (.int (-100006)), some (.int (nI i)), some (.int (nI j)), some (.int (nI (xed (na c) t i j)))]) dX5_bestExchange_107 rfl rfl (by decide) ?_
                refine pw_iload dX5_bestExchange_109 rfl ?_
                refine px_istore (ls' := [some (.ref 0), some (.int (nI t)), some (.int w), some (.int (nI n)), some (.int (nI i)), some (.int (nI j)), some (.int (-100006)), some (.int (nI i)), some (.int (nI j)), some (.int (nI (xed (na c) t i j)))]) dX5_bestExchange_111 rfl rfl (by decide) ?_
                refine pw_iload dX5_bestExchange_113 rfl ?_
                refine px_istore (ls' := [some (.ref 0), some (.int (nI t)), some (.int w), some (.int (nI n)), some (.int (nI i)), some (.int (nI j)), some (.int (nI (xed (na c) t i j))), some (.int (nI i)), some (.int (nI j)), some (.int (nI (xed (na c) t i j)))]) dX5_bestExchange_115 rfl rfl (by decide) ?_
                refine px_iincn (n := 1) (a := j) (b := j + 1) (ls' := [some (.ref 0), some (.int (nI t)), some (.int w), some (.int (nI n)), some (.int (nI i)), some (.int (nI j)), some (.int (nI (xed (na c) t i j))), some (.int (nI i)), some (.int (nI (j + 1))), some (.int (nI (xed (na c) t i j)))]) dX5_bestExchange_117 rfl rfl rfl (by omega) ?_
                refine pw_goto (tgt := 74) dX5_bestExchange_120 (by decide) ?_
                have g := jh (by omega) (some (.int (nI (xed (na c) t i j)))) σ fr
                rw [hs] at g
                exact g
              | some y =>
                have hy : y.2.2 ≤ 10520 := hb2 y rfl
                show PS l E D cA mX5_bestExchange (d + 5) fin 89 [some (.ref 0), some (.int (nI t)), some (.int w), some (.int (nI n)), some (.int (nI y.1)), some (.int (nI y.2.1)), some (.int (nI y.2.2)), some (.int (nI i)), some (.int (nI j)), lc] [.int (nI (xed (na c) t i j))] σ
                refine px_istore (ls' := [some (.ref 0), some (.int (nI t)), some (.int w), some (.int (nI n)), some (.int (nI y.1)), some (.int (nI y.2.1)), some (.int (nI y.2.2)), some (.int (nI i)), some (.int (nI j)), some (.int (nI (xed (na c) t i j)))]) dX5_bestExchange_89 rfl rfl (by decide) ?_
                refine pw_iload dX5_bestExchange_91 rfl ?_
                refine pw_ldc dX5_bestExchange_93 kc_X5_96 ?_
                refine pw_icmp_eq (tgt := 105) dX5_bestExchange_95 (by decide) (fun h9 => absurd h9 (hne _ hy)) (fun _ => ?_)
                refine pw_iload dX5_bestExchange_98 rfl ?_
                refine pw_iload dX5_bestExchange_100 rfl ?_
                refine pn_ge (tgt := 117) dX5_bestExchange_102 (by decide) (by omega) (by omega) (fun h6 => ?_) (fun h6 => ?_)
                · refine px_iincn (n := 1) (a := j) (b := j + 1) (ls' := [some (.ref 0), some (.int (nI t)), some (.int w), some (.int (nI n)), some (.int (nI y.1)), some (.int (nI y.2.1)), some (.int (nI y.2.2)), some (.int (nI i)), some (.int (nI (j + 1))), some (.int (nI (xed (na c) t i j)))]) dX5_bestExchange_117 rfl rfl rfl (by omega) ?_
                  refine pw_goto (tgt := 74) dX5_bestExchange_120 (by decide) ?_
                  have g := jh (by omega) (some (.int (nI (xed (na c) t i j)))) σ fr
                  rw [hs] at g
                  simp only [bx1, if_neg (show ¬ xed (na c) t i j < y.2.2 by omega)] at g
                  exact g
                · refine pw_iload dX5_bestExchange_105 rfl ?_
                  refine px_istore (ls' := [some (.ref 0), some (.int (nI t)), some (.int w), some (.int (nI n)), some (.int (nI i)), some (.int (nI y.2.1)), some (.int (nI y.2.2)), some (.int (nI i)), some (.int (nI j)), some (.int (nI (xed (na c) t i j)))]) dX5_bestExchange_107 rfl rfl (by decide) ?_
                  refine pw_iload dX5_bestExchange_109 rfl ?_
                  refine px_istore (ls' := [some (.ref 0), some (.int (nI t)), some (.int w), some (.int (nI n)), some (.int (nI i)), some (.int (nI j)), some (.int (nI y.2.2)), some (.int (nI i)), some (.int (nI j)), some (.int (nI (xed (na c) t i j)))]) dX5_bestExchange_111 rfl rfl (by decide) ?_
                  refine pw_iload dX5_bestExchange_113 rfl ?_
                  refine px_istore (ls' := [some (.ref 0), some (.int (nI t)), some (.int w), some (.int (nI n)), some (.int (nI i)), some (.int (nI j)), some (.int (nI (xed (na c) t i j))), some (.int (nI i)), some (.int (nI j)), some (.int (nI (xed (na c) t i j)))]) dX5_bestExchange_115 rfl rfl (by decide) ?_
                  refine px_iincn (n := 1) (a := j) (b := j + 1) (ls' := [some (.ref 0), some (.int (nI t)), some (.int w), some (.int (nI n)), some (.int (nI i)), some (.int (nI j)), some (.int (nI (xed (na c) t i j))), some (.int (nI i)), some (.int (nI (j + 1))), some (.int (nI (xed (na c) t i j)))]) dX5_bestExchange_117 rfl rfl rfl (by omega) ?_
                  refine pw_goto (tgt := 74) dX5_bestExchange_120 (by decide) ?_
                  have g := jh (by omega) (some (.int (nI (xed (na c) t i j)))) σ fr
                  rw [hs] at g
                  simp only [bx1, if_pos (show xed (na c) t i j < y.2.2 by omega)] at g
                  exact g
          have g := lq (i + 1) hi (Nat.le_refl _) lb κ hκ
          rw [bxk_skip hi (i + 1) (Nat.le_refl _)] at g
          exact g
      have g := lp 0 (Nat.zero_le _) none none ν (fun _ _ _ => rfl)
      rw [Nat.zero_mul] at g
      exact g
    · have h2 := kb_eq0.mp h9
      refine pw_ldc dX5_bestExchange_20 kc_X5_52 ?_
      have e9 : o_bestExchange c (nI t) w = ((-100002), c) := by
        unfold o_bestExchange
        rw [if_pos h1, if_neg h2]
      rw [e9] at hf
      exact ps_iret dX5_bestExchange_22 rfl (rfl) (hf _ hx SM.rfl)
  · have h1 := kb_eq0.mp h9
    refine pw_ldc dX5_bestExchange_8 kc_X5_71 ?_
    have e9 : o_bestExchange c v w = ((-100001), c) := by
      unfold o_bestExchange
      rw [if_neg h1]
    rw [e9] at hf
    exact ps_iret dX5_bestExchange_10 rfl (rfl) (hf _ hx SM.rfl)
set_option maxRecDepth 100000 in
set_option maxHeartbeats 4000000 in
theorem x_worstPlace {c : CS} (hw : CW c) (hx : CX μ c) {w : Int32} (hf : ∀ ν : Mu, CX ν (o_worstPlace c w).2 → SM ν μ → fin (some (.int (o_worstPlace c w).1)) ν) : PS l E D cA mX5_worstPlace (d + 5) fin 0 [some (.ref 0), some (.int w), none, none, none, none] [] μ := by
  have hq := hx
  refine pw_iload_n dX5_worstPlace_0 rfl ?_
  refine pw_iconst_ (v := nI 0) dX5_worstPlace_1 (by decide) ?_
  refine pw_iconst_ (v := nI 1) dX5_worstPlace_2 (by decide) ?_
  refine ps_callS (As := [.int w, .int (nI 0), .int (nI 1)]) (st := []) dX5_worstPlace_3 cs_X5_48 rfl (Nat.le_of_ble_eq_true rfl) (Nat.le_of_ble_eq_true rfl) ?_
  refine c_isFrom ?_
  refine pw_if_ne (tgt := 12) dX5_worstPlace_6 (by decide) (fun h9 => ?_) (fun h9 => ?_)
  · have h1 := kb_ne0.mp h9
    refine pw_aload_n dX5_worstPlace_12 rfl ?_
    refine ps_getr (r := 19) dX5_worstPlace_13 kf_X5_16 (by decide) (by decide +kernel) ?_
    refine pw_aload_n dX5_worstPlace_16 rfl ?_
    refine ps_getr (r := 1) dX5_worstPlace_17 kf_X5_10 (by decide) (by decide +kernel) ?_
    refine ps_callV (b := 19) (As := [.ref 1]) (st := []) dX5_worstPlace_20 cv_X5_241 rfl ⟨by decide, by decide +kernel⟩ (Nat.le_of_ble_eq_true rfl) (Nat.le_of_ble_eq_true rfl) ?_
    refine c_S_copyFrom (s := 19) (o := 1) isS_19 isS_1 (by decide) ?_
    intro ν hν
    have hrs : RS ν 19 (na c) := hν.RS hw.1.t6 hx.1
    obtain ⟨m, hm8, hm, hb⟩ := hx.1.2.2.2.1
    have wb := wpk_le hw.1
    show PS l E D cA mX5_worstPlace (d + 5) fin 23 [some (.ref 0), some (.int w), none, none, none, none] [] ν
    refine pw_ldc dX5_worstPlace_23 kc_X5_96 ?_
    refine px_istore_n (ls' := [some (.ref 0), some (.int w), some (.int (-100006)), none, none, none]) dX5_worstPlace_25 rfl rfl (by decide) ?_
    refine pw_ldc dX5_worstPlace_26 kc_X5_96 ?_
    refine px_istore_n (ls' := [some (.ref 0), some (.int w), some (.int (-100006)), some (.int (-100006)), none, none]) dX5_worstPlace_28 rfl rfl (by decide) ?_
    refine pw_iconst_ (v := nI 0) dX5_worstPlace_29 (by decide) ?_
    refine px_istore (ls' := [some (.ref 0), some (.int w), some (.int (-100006)), some (.int (-100006)), some (.int (nI 0)), none]) dX5_worstPlace_30 rfl rfl (by decide) ?_
    have lp : ∀ p : Nat, p ≤ 8 → ∀ la : Option Value, ∀ κ : Mu, (∀ q k, ¬ (37 ≤ q ∧ q < 77) → (q = 19 → k ≠ 4) → κ q k = ν q k) → PS l E D cA mX5_worstPlace (d + 5) fin 32 [some (.ref 0), some (.int w), some (.int (y1 (wpk (na c) p))), some (.int (y2 (wpk (na c) p))), some (.int (nI p)), la] [] κ := by
      refine ps_for 8 ?_ ?_
      · intro la κ hκ
        refine pw_iload dX5_worstPlace_32 rfl ?_
        refine pw_bipush (v := nI 8) dX5_worstPlace_34 (by decide) ?_
        refine pn_ge (tgt := 124) dX5_worstPlace_36 (by decide) (by omega) (by omega) (fun _ => ?_) (fun h9 => absurd h9 (by decide))
        refine pw_iload_n dX5_worstPlace_124 rfl ?_
        have hxκ : CX κ c := hx.off hw (fun q k g1 g2 => (hκ q k (by omega) (by omega)).trans (hν.1 q k (by omega)))
        have hSκ : SM κ μ := fun q k g => (hκ q k (by omega) (by omega)).trans (hν.1 q k (by omega))
        refine pw_if_ne (tgt := 132) dX5_worstPlace_125 (by decide) (fun w0 => ?_) (fun w0 => ?_)
        · refine pw_iload_n dX5_worstPlace_132 rfl ?_
          have e9 : o_worstPlace c w = (y2 (wpk (na c) 8), c) := by
            unfold o_worstPlace
            rw [if_pos h1]
            exact congrArg (fun x => (x, c)) (if_neg (by rw [nI_0]; exact w0))
          rw [e9] at hf
          exact ps_iret dX5_worstPlace_133 rfl (rfl) (hf κ hxκ hSκ)
        · refine pw_iload_n dX5_worstPlace_128 rfl ?_
          refine pw_goto (tgt := 133) dX5_worstPlace_129 (by decide) ?_
          have e9 : o_worstPlace c w = (y1 (wpk (na c) 8), c) := by
            unfold o_worstPlace
            rw [if_pos h1]
            exact congrArg (fun x => (x, c)) (if_pos (by rw [nI_0]; exact w0))
          rw [e9] at hf
          exact ps_iret dX5_worstPlace_133 rfl (rfl) (hf κ hxκ hSκ)
      · intro p hp ih la κ hκ
        have hm2 : κ 1 4 = nI m := (hκ _ _ (by omega) (by omega)).trans ((hν.1 _ _ (by omega)).trans hm)
        have hpl := (hw.1.pl hp).2.2.2
        refine pw_iload dX5_worstPlace_32 rfl ?_
        refine pw_bipush (v := nI 8) dX5_worstPlace_34 (by decide) ?_
        refine pn_ge (tgt := 124) dX5_worstPlace_36 (by decide) (by omega) (by omega) (fun h9 => absurd h9 (by omega)) (fun _ => ?_)
        refine pw_aload_n dX5_worstPlace_39 rfl ?_
        refine ps_getr (r := 1) dX5_worstPlace_40 kf_X5_10 (by decide) (by decide +kernel) ?_
        refine pw_iload dX5_worstPlace_43 rfl ?_
        refine ps_callV (b := 1) (As := [.int (nI p)]) (st := []) dX5_worstPlace_45 cv_X5_81 rfl ⟨by decide, by decide +kernel⟩ (Nat.le_of_ble_eq_true rfl) (Nat.le_of_ble_eq_true rfl) ?_
        refine c_S_isClosed isS_1 hm8 hp hm2 ?_
        refine pw_if_eq (tgt := 54) dX5_worstPlace_48 (by decide) (fun h9 => ?_) (fun h9 => ?_)
        · have h8 := kb_eq0.mp h9
          rw [hb p hp] at h8
          have h0 : na c (7 + 4 * p) = 0 := by omega
          refine pw_aload_n dX5_worstPlace_54 rfl ?_
          refine ps_getr (r := 19) dX5_worstPlace_55 kf_X5_16 (by decide) (by decide +kernel) ?_
          refine pw_aload_n dX5_worstPlace_58 rfl ?_
          refine ps_getr (r := 1) dX5_worstPlace_59 kf_X5_10 (by decide) (by decide +kernel) ?_
          refine ps_geti (x := nI m) dX5_worstPlace_62 kf_X5_85 (by decide) (by decide +kernel) hm2 ?_
          refine pw_iconst_ (v := nI 1) dX5_worstPlace_65 (by decide) ?_
          refine pw_iload dX5_worstPlace_66 rfl ?_
          refine pw_ishl dX5_worstPlace_68 ?_
          refine pw_ior dX5_worstPlace_69 ?_
          have hor := or_m8 m hm8 p hp (by rw [hb p hp]; exact h8)
          rw [hor.1]
          refine ps_puti dX5_worstPlace_70 kf_X5_85 (by decide) rfl (by decide +kernel) ?_
          have wfb : Wf (up1 (na c) (7 + 4 * p) 1) := wf_place hw.1 (Or.inr (Or.inr (Or.inr ⟨p, hp, Nat.le_refl _, rfl⟩)))
          have h3 : up1 (na c) (7 + 4 * p) 1 3 = na c 3 := up1_n (by omega)
          have hrs2 : RS (u2 κ 19 4 (nI (m + 2 ^ p))) 19 (up1 (na c) (7 + 4 * p) 1) := RS.same (μ := u2 ν 19 4 (nI (m + 2 ^ p))) (by rw [h3]; exact hw.1.t6) (fun q k g1 g2 => by
            by_cases e1 : q = 19
            · subst e1
              by_cases e2 : k = 4
              · subst e2
                rw [u2_s, u2_s]
              · rw [u2_b e2, u2_b e2]
                exact hκ _ _ (by omega) (fun _ => e2)
            · rw [u2_a e1, u2_a e1]
              exact hκ _ _ (by omega) (fun h => absurd h e1)) (RS.closed hp hor.2.1 (fun q hq => by
                rw [hor.2.2.2 q hq]
                by_cases e : q = p
                · subst e
                  rw [if_pos rfl, up1_s]
                · rw [if_neg e, up1_n (by omega)]
                  exact hb q hq) hw.1 hrs)
          refine pw_aload_n dX5_worstPlace_73 rfl ?_
          refine ps_getr (r := 37) dX5_worstPlace_74 kf_X5_22 (by decide) (by decide +kernel) ?_
          refine pw_aload_n dX5_worstPlace_77 rfl ?_
          refine ps_getr (r := 19) dX5_worstPlace_78 kf_X5_16 (by decide) (by decide +kernel) ?_
          refine pw_aload_n dX5_worstPlace_81 rfl ?_
          refine ps_getr (r := 19) dX5_worstPlace_82 kf_X5_16 (by decide) (by decide +kernel) ?_
          refine ps_geti (x := nI (na c 3)) dX5_worstPlace_85 kf_X5_98 (by decide) (by decide +kernel) (hrs2.2.1.trans (by rw [h3])) ?_
          refine ps_callV (b := 37) (As := [.ref 19, .int (nI (na c 3))]) (st := []) dX5_worstPlace_88 cv_X5_247 rfl ⟨by decide, by decide +kernel⟩ (Nat.le_of_ble_eq_true rfl) (Nat.le_of_ble_eq_true rfl) ?_
          refine c_play (a := up1 (na c) (7 + 4 * p) 1) isS_19 wfb (Nat.le_of_eq h3.symm) hrs2 ?_
          intro ρ p1 p2 p3
          show PS l E D cA mX5_worstPlace (d + 5) fin 91 [some (.ref 0), some (.int w), some (.int (y1 (wpk (na c) p))), some (.int (y2 (wpk (na c) p))), some (.int (nI p)), la] [] ρ
          refine pw_aload_n dX5_worstPlace_91 rfl ?_
          refine ps_getr (r := 37) dX5_worstPlace_92 kf_X5_22 (by decide) (by decide +kernel) ?_
          refine ps_callV (b := 37) (As := []) (st := []) dX5_worstPlace_95 cv_X5_227 rfl ⟨by decide, by decide +kernel⟩ (Nat.le_of_ble_eq_true rfl) (Nat.le_of_ble_eq_true rfl) ?_
          refine c_queueing wfb (Nat.le_of_eq h3.symm) p1 ?_
          have hql : qal (up1 (na c) (7 + 4 * p) 1) (na c 3) ≤ 504960 := qal_le wfb (Nat.le_of_eq h3.symm)
          obtain ⟨Q, hQ⟩ : ∃ Q, Q = qal (up1 (na c) (7 + 4 * p) 1) (na c 3) := ⟨_, rfl⟩
          have fr : ∀ q k, ¬ (37 ≤ q ∧ q < 77) → (q = 19 → k ≠ 4) → ρ q k = ν q k := fun q k g1 g2 => by
            rw [p3 q k g1, ← hκ q k g1 g2]
            by_cases e1 : q = 19
            · exact u2_b (g2 e1)
            · exact u2_a e1
          have hne : ∀ q, q ≤ 504960 → nI q ≠ -100006 := fun q hq h => by
            have h2 := congrArg Int32.toInt h
            rw [nI_toInt (by omega), show (-100006 : Int32).toInt = -100006 by decide] at h2
            omega
          have hs : wpk (na c) (p + 1) = (match wpk (na c) p with
              | none => some (p, qal (up1 (na c) (7 + 4 * p) 1) (na c 3))
              | some y => if qal (up1 (na c) (7 + 4 * p) 1) (na c 3) < y.2 then some (p, qal (up1 (na c) (7 + 4 * p) 1) (na c 3)) else some y) := if_pos h0
          have hw2 := wb p (by omega)
          rw [← hQ] at hs hql
          show PS l E D cA mX5_worstPlace (d + 5) fin 98 [some (.ref 0), some (.int w), some (.int (y1 (wpk (na c) p))), some (.int (y2 (wpk (na c) p))), some (.int (nI p)), la] [.int (nI (qal (up1 (na c) (7 + 4 * p) 1) (na c 3)))] ρ
          rw [← hQ]
          obtain ⟨r, hr⟩ : ∃ r, r = wpk (na c) p := ⟨_, rfl⟩
          rw [← hr] at hs hw2 ⊢
          refine px_istore (ls' := [some (.ref 0), some (.int w), some (.int (y1 r)), some (.int (y2 r)), some (.int (nI p)), some (.int (nI Q))]) dX5_worstPlace_98 rfl rfl (by decide) ?_
          cases r with
          | none =>
            show PS l E D cA mX5_worstPlace (d + 5) fin 100 [some (.ref 0), some (.int w), some (.int (-100006)), some (.int (-100006)), some (.int (nI p)), some (.int (nI Q))] [] ρ
            refine pw_iload_n dX5_worstPlace_100 rfl ?_
            refine pw_ldc dX5_worstPlace_101 kc_X5_96 ?_
            refine pw_icmp_eq (tgt := 112) dX5_worstPlace_103 (by decide) (fun _ => ?_) (fun h9 => absurd rfl h9)
            refine pw_iload dX5_worstPlace_112 rfl ?_
            refine px_istore_n (ls' := [some (.ref 0), some (.int w), some (.int (nI p)), some (.int (-100006)), some (.int (nI p)), some (.int (nI Q))]) dX5_worstPlace_114 rfl rfl (by decide) ?_
            refine pw_iload dX5_worstPlace_115 rfl ?_
            refine px_istore_n (ls' := [some (.ref 0), some (.int w), some (.int (nI p)), some (.int (nI Q)), some (.int (nI p)), some (.int (nI Q))]) dX5_worstPlace_117 rfl rfl (by decide) ?_
            refine px_iincn (n := 1) (a := p) (b := p + 1) (ls' := [some (.ref 0), some (.int w), some (.int (nI p)), some (.int (nI Q)), some (.int (nI (p + 1))), some (.int (nI Q))]) dX5_worstPlace_118 rfl rfl rfl (by omega) ?_
            refine pw_goto (tgt := 32) dX5_worstPlace_121 (by decide) ?_
            have g := ih (some (.int (nI Q))) ρ fr
            rw [hs] at g
            exact g
          | some y =>
            have hy : y.2 ≤ 504960 := hw2 y rfl
            show PS l E D cA mX5_worstPlace (d + 5) fin 100 [some (.ref 0), some (.int w), some (.int (nI y.1)), some (.int (nI y.2)), some (.int (nI p)), some (.int (nI Q))] [] ρ
            refine pw_iload_n dX5_worstPlace_100 rfl ?_
            refine pw_ldc dX5_worstPlace_101 kc_X5_96 ?_
            refine pw_icmp_eq (tgt := 112) dX5_worstPlace_103 (by decide) (fun h9 => absurd h9 (hne _ hy)) (fun _ => ?_)
            refine pw_iload dX5_worstPlace_106 rfl ?_
            refine pw_iload_n dX5_worstPlace_108 rfl ?_
            refine pn_ge (tgt := 118) dX5_worstPlace_109 (by decide) (by omega) (by omega) (fun h6 => ?_) (fun h6 => ?_)
            · refine px_iincn (n := 1) (a := p) (b := p + 1) (ls' := [some (.ref 0), some (.int w), some (.int (nI y.1)), some (.int (nI y.2)), some (.int (nI (p + 1))), some (.int (nI Q))]) dX5_worstPlace_118 rfl rfl rfl (by omega) ?_
              refine pw_goto (tgt := 32) dX5_worstPlace_121 (by decide) ?_
              have g := ih (some (.int (nI Q))) ρ fr
              rw [hs] at g
              simp only [if_neg (show ¬ Q < y.2 by omega)] at g
              exact g
            · refine pw_iload dX5_worstPlace_112 rfl ?_
              refine px_istore_n (ls' := [some (.ref 0), some (.int w), some (.int (nI p)), some (.int (nI y.2)), some (.int (nI p)), some (.int (nI Q))]) dX5_worstPlace_114 rfl rfl (by decide) ?_
              refine pw_iload dX5_worstPlace_115 rfl ?_
              refine px_istore_n (ls' := [some (.ref 0), some (.int w), some (.int (nI p)), some (.int (nI Q)), some (.int (nI p)), some (.int (nI Q))]) dX5_worstPlace_117 rfl rfl (by decide) ?_
              refine px_iincn (n := 1) (a := p) (b := p + 1) (ls' := [some (.ref 0), some (.int w), some (.int (nI p)), some (.int (nI Q)), some (.int (nI (p + 1))), some (.int (nI Q))]) dX5_worstPlace_118 rfl rfl rfl (by omega) ?_
              refine pw_goto (tgt := 32) dX5_worstPlace_121 (by decide) ?_
              have g := ih (some (.int (nI Q))) ρ fr
              rw [hs] at g
              simp only [if_pos (show Q < y.2 by omega)] at g
              exact g
        · have h8 := kb_ne0.mp h9
          rw [hb p hp] at h8
          have hs : wpk (na c) (p + 1) = wpk (na c) p := if_neg (by omega)
          refine pw_goto (tgt := 118) dX5_worstPlace_51 (by decide) ?_
          refine px_iincn (n := 1) (a := p) (b := p + 1) (ls' := [some (.ref 0), some (.int w), some (.int (y1 (wpk (na c) p))), some (.int (y2 (wpk (na c) p))), some (.int (nI (p + 1))), la]) dX5_worstPlace_118 rfl rfl rfl (by omega) ?_
          refine pw_goto (tgt := 32) dX5_worstPlace_121 (by decide) ?_
          have g := ih la κ hκ
          rw [hs] at g
          exact g
    exact lp 0 (Nat.zero_le _) none ν (fun _ _ _ _ => rfl)
  · have h1 := kb_eq0.mp h9
    refine pw_ldc dX5_worstPlace_9 kc_X5_52 ?_
    have e9 : o_worstPlace c w = ((-100002), c) := by
      unfold o_worstPlace
      rw [if_neg h1]
    rw [e9] at hf
    exact ps_iret dX5_worstPlace_11 rfl (rfl) (hf _ hx SM.rfl)
end WHATIFB
