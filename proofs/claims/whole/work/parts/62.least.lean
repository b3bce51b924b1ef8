/-! the model: leastStart, part, freeStart -/
/-- the row and the game may be changed -/
def LF (κ μ : Mu) : Prop := ∀ q k, q < 237 → q ≠ 228 → (q = 227 → k ≠ 13) → κ q k = μ q k
theorem LF.rfl {μ : Mu} : LF μ μ := fun _ _ _ _ _ => Eq.refl _
theorem LF.tr {ρ κ μ : Mu} (h1 : LF ρ κ) (h2 : LF κ μ) : LF ρ μ := fun q k g1 g2 g3 => (h1 q k g1 g2 g3).trans (h2 q k g1 g2 g3)
theorem PF.lf {κ μ : Mu} (h : PF κ μ) : LF κ μ := fun q k g1 _ g3 => h q k g1 g3
theorem LF.row {κ μ : Mu} (h : LF κ μ) {k : Nat} {x : Int32} : LF (u2 κ 228 k x) μ := fun q j g1 g2 g3 => (u2_a g2).trans (h q j g1 g2 g3)
theorem LF.kg {κ μ : Mu} (h : LF κ μ) : KG κ μ := fun q k g => h q k (by omega) (by omega) (by omega)
theorem RM.eq {μ : Mu} {a b : AS} (h : RM μ a) (e : ∀ k, k < 108 → b k = a k) : RM μ b := fun k hk => (h k hk).trans (by rw [e k hk])
section MODU
variable {l : Launch} {E : EV} {D : va_G} {cA : Nat → ClassId} {fin : Option Value → Mu → Prop} {μ : Mu} {d : Nat}
set_option maxRecDepth 100000 in
set_option maxHeartbeats 4000000 in
theorem m_leastStart {t n : Nat} {a : AS} (hw : Wf a) (hna : n ≤ a 3) (ht : t < n) (hR : RM μ a) (hf : ∀ κ : Mu, RM κ a → LF κ μ → fin (some (.int (eF (lfs a n t)))) κ) : PS l E D cA mX6_leastStart (d + 4) fin 0 [some (.ref 227), some (.int (nI t)), some (.int (nI n)), none, none, none] [] μ := by
  refine pw_aload_n dX6_leastStart_0 rfl ?_
  refine pw_iload_n dX6_leastStart_1 rfl ?_
  refine pw_iconst_ (v := nI 0) dX6_leastStart_2 (by decide) ?_
  have n6 := hw.t6
  obtain ⟨s, hs⟩ : ∃ s, s = a (36 + 12 * t) := ⟨_, rfl⟩
  refine ps_callV (b := 227) (As := [.int (nI t), .int (nI 0)]) (st := []) dX6_leastStart_3 cv_X6_85 rfl ⟨by decide, by decide +kernel⟩ (Nat.le_of_ble_eq_true rfl) (Nat.le_of_ble_eq_true rfl) ?_
  refine m_its (t := t) (w := 0) (by omega) ((hR _ (by omega)).trans (by rw [show 36 + 12 * t + 0 = 36 + 12 * t by omega, ← hs])) ?_
  show PS l E D cA mX6_leastStart (d + 4) fin 6 [some (.ref 227), some (.int (nI t)), some (.int (nI n)), none, none, none] [.int (nI s)] μ
  refine px_istore_n (ls' := [some (.ref 227), some (.int (nI t)), some (.int (nI n)), some (.int (nI s)), none, none]) dX6_leastStart_6 rfl rfl (by decide) ?_
  refine pw_ldc dX6_leastStart_7 kc_X6_99 ?_
  refine px_istore (ls' := [some (.ref 227), some (.int (nI t)), some (.int (nI n)), some (.int (nI s)), some (.int (-100006)), none]) dX6_leastStart_9 rfl rfl (by decide) ?_
  refine pw_iconst_ (v := nI 0) dX6_leastStart_11 (by decide) ?_
  refine px_istore (ls' := [some (.ref 227), some (.int (nI t)), some (.int (nI n)), some (.int (nI s)), some (.int (-100006)), some (.int (nI 0))]) dX6_leastStart_12 rfl rfl (by decide) ?_
  have tail : ∀ (κ : Mu) (l5 : Option Value), LF κ μ → (∀ k, k < 108 → k ≠ 36 + 12 * t → κ 228 k = nI (a k)) → PS l E D cA mX6_leastStart (d + 4) fin 65 [some (.ref 227), some (.int (nI t)), some (.int (nI n)), some (.int (nI s)), some (.int (eF (lfs a n t))), l5] [] κ := by
    intro κ l5 k1 k2
    refine pw_aload_n dX6_leastStart_65 rfl ?_
    refine pw_iload_n dX6_leastStart_66 rfl ?_
    refine pw_iconst_ (v := nI 0) dX6_leastStart_67 (by decide) ?_
    refine pw_iload_n dX6_leastStart_68 rfl ?_
    refine ps_callV (b := 227) (As := [.int (nI t), .int (nI 0), .int (nI s)]) (st := []) dX6_leastStart_69 cv_X6_151 rfl ⟨by decide, by decide +kernel⟩ (Nat.le_of_ble_eq_true rfl) (Nat.le_of_ble_eq_true rfl) ?_
    refine m_lay (t := t) (w := 0) (by omega) ?_
    rw [show 36 + 12 * t + 0 = 36 + 12 * t by omega]
    show PS l E D cA mX6_leastStart (d + 4) fin 72 [some (.ref 227), some (.int (nI t)), some (.int (nI n)), some (.int (nI s)), some (.int (eF (lfs a n t))), l5] [] (u2 κ 228 (36 + 12 * t) (nI s))
    refine pw_iload dX6_leastStart_72 rfl ?_
    exact ps_iret dX6_leastStart_74 rfl (rfl) (hf _ (fun k hk => by
      by_cases e9 : k = 36 + 12 * t
      · rw [e9, u2_s, hs]
      · rw [u2_b e9]
        exact k2 k hk e9) k1.row)
  have lp : ∀ i : Nat, i ≤ 201 → ∀ κ : Mu, (LF κ μ ∧ (∀ k, k < 108 → k ≠ 36 + 12 * t → κ 228 k = nI (a k)) ∧ ∀ m, m < i → ¬ (msk (metp (up1 a (36 + 12 * t) m) n t) n == 0) = true) → PS l E D cA mX6_leastStart (d + 4) fin 14 [some (.ref 227), some (.int (nI t)), some (.int (nI n)), some (.int (nI s)), some (.int (-100006)), some (.int (nI i))] [] κ := by
    refine ps_for 201 ?_ ?_
    · rintro κ ⟨k1, k2, k3⟩
      refine pw_iload dX6_leastStart_14 rfl ?_
      refine pw_sipush (v := nI 200) dX6_leastStart_16 (by decide) ?_
      refine pn_gt (tgt := 65) dX6_leastStart_19 (by decide) (by omega) (by omega) (fun _ => ?_) (fun h9 => absurd h9 (by decide))
      have h9 : lfs a n t = none := fstN_none.mpr k3
      rw [h9] at tail
      exact tail κ _ k1 k2
    · rintro i hi ih κ ⟨k1, k2, k3⟩
      refine pw_iload dX6_leastStart_14 rfl ?_
      refine pw_sipush (v := nI 200) dX6_leastStart_16 (by decide) ?_
      refine pn_gt (tgt := 65) dX6_leastStart_19 (by decide) (by omega) (by omega) (fun h9 => absurd h9 (by omega)) (fun _ => ?_)
      refine pw_iload dX6_leastStart_22 rfl ?_
      refine pw_ldc dX6_leastStart_24 kc_X6_99 ?_
      refine pw_icmp_ne (tgt := 65) dX6_leastStart_26 (by decide) (fun h9 => absurd rfl h9) (fun _ => ?_)
      refine pw_aload_n dX6_leastStart_29 rfl ?_
      refine pw_iload_n dX6_leastStart_30 rfl ?_
      refine pw_iconst_ (v := nI 0) dX6_leastStart_31 (by decide) ?_
      refine pw_iload dX6_leastStart_32 rfl ?_
      refine ps_callV (b := 227) (As := [.int (nI t), .int (nI 0), .int (nI i)]) (st := []) dX6_leastStart_34 cv_X6_151 rfl ⟨by decide, by decide +kernel⟩ (Nat.le_of_ble_eq_true rfl) (Nat.le_of_ble_eq_true rfl) ?_
      refine m_lay (t := t) (w := 0) (by omega) ?_
      rw [show 36 + 12 * t + 0 = 36 + 12 * t by omega]
      show PS l E D cA mX6_leastStart (d + 4) fin 37 [some (.ref 227), some (.int (nI t)), some (.int (nI n)), some (.int (nI s)), some (.int (-100006)), some (.int (nI i))] [] (u2 κ 228 (36 + 12 * t) (nI i))
      refine pw_aload_n dX6_leastStart_37 rfl ?_
      refine pw_iload_n dX6_leastStart_38 rfl ?_
      have rb : RM (u2 κ 228 (36 + 12 * t) (nI i)) (up1 a (36 + 12 * t) i) := fun k hk => by
        by_cases e9 : k = 36 + 12 * t
        · rw [e9, u2_s, up1_s]
        · rw [u2_b e9, up1_n e9]
          exact k2 k hk e9
      have wfb : Wf (up1 a (36 + 12 * t) i) := wf_team hw (Nat.lt_of_lt_of_le ht hna) (Or.inl ⟨by omega, rfl⟩)
      have hnb : n ≤ (up1 a (36 + 12 * t) i) 3 := by rw [up1_n (by omega)]; exact hna
      refine ps_callV (b := 227) (As := [.int (nI n)]) (st := []) dX6_leastStart_39 cv_X6_112 rfl ⟨by decide, by decide +kernel⟩ (Nat.le_of_ble_eq_true rfl) (Nat.le_of_ble_eq_true rfl) ?_
      refine m_play wfb hnb rb (fun ρ p1 p2 => ?_)
      show PS l E D cA mX6_leastStart (d + 4) fin 42 [some (.ref 227), some (.int (nI t)), some (.int (nI n)), some (.int (nI s)), some (.int (-100006)), some (.int (nI i))] [] ρ
      refine pw_aload_n dX6_leastStart_42 rfl ?_
      refine pw_iload_n dX6_leastStart_43 rfl ?_
      refine ps_callV (b := 227) (As := [.int (nI t)]) (st := []) dX6_leastStart_44 cv_X6_180 rfl ⟨by decide, by decide +kernel⟩ (Nat.le_of_ble_eq_true rfl) (Nat.le_of_ble_eq_true rfl) ?_
      refine m_met wfb hnb p1 ht ?_
      show PS l E D cA mX6_leastStart (d + 4) fin 47 [some (.ref 227), some (.int (nI t)), some (.int (nI n)), some (.int (nI s)), some (.int (-100006)), some (.int (nI i))] [.int (nI (msk (metp (up1 a (36 + 12 * t) i) n t) n))] ρ
      have hm := msk_lt (p := metp (up1 a (36 + 12 * t) i) n t) n
      have h2 : 2 ^ n ≤ 2 ^ 6 := Nat.pow_le_pow_right (by decide) (by omega)
      have hz0 : ∀ m, m < 64 → (nI m = 0 ↔ m = 0) := by decide
      have r1 : LF ρ μ := p2.lf.tr k1.row
      have r2 : ∀ k, k < 108 → k ≠ 36 + 12 * t → ρ 228 k = nI (a k) := fun k hk g => (p2 _ _ (by decide) (by omega)).trans ((u2_b g).trans (k2 k hk g))
      refine pw_if_ne (tgt := 55) dX6_leastStart_47 (by decide) (fun h9 => ?_) (fun h9 => ?_)
      · refine pw_ldc dX6_leastStart_55 kc_X6_99 ?_
        refine px_istore (ls' := [some (.ref 227), some (.int (nI t)), some (.int (nI n)), some (.int (nI s)), some (.int (-100006)), some (.int (nI i))]) dX6_leastStart_57 rfl rfl (by decide) ?_
        refine px_iincn (n := 1) (a := i) (b := i + 1) (ls' := [some (.ref 227), some (.int (nI t)), some (.int (nI n)), some (.int (nI s)), some (.int (-100006)), some (.int (nI (i + 1)))]) dX6_leastStart_59 rfl rfl rfl (by omega) ?_
        refine pw_goto (tgt := 14) dX6_leastStart_62 (by decide) ?_
        refine ih ρ ⟨r1, r2, fun m hm9 => ?_⟩
        rcases Nat.lt_or_eq_of_le (Nat.le_of_lt_succ hm9) with h | rfl
        · exact k3 m h
        · intro q
          exact h9 ((hz0 _ (by omega)).mpr (by simpa using q))
      · have h8 := (hz0 _ (by omega)).mp h9
        have hl : lfs a n t = some i := fstN_some.mpr ⟨hi, by simpa using h8, k3⟩
        rw [hl] at tail
        refine pw_iload dX6_leastStart_50 rfl ?_
        refine pw_goto (tgt := 57) dX6_leastStart_52 (by decide) ?_
        refine px_istore (ls' := [some (.ref 227), some (.int (nI t)), some (.int (nI n)), some (.int (nI s)), some (.int (nI i)), some (.int (nI i))]) dX6_leastStart_57 rfl rfl (by decide) ?_
        refine px_iincn (n := 1) (a := i) (b := i + 1) (ls' := [some (.ref 227), some (.int (nI t)), some (.int (nI n)), some (.int (nI s)), some (.int (nI i)), some (.int (nI (i + 1)))]) dX6_leastStart_59 rfl rfl rfl (by omega) ?_
        refine pw_goto (tgt := 14) dX6_leastStart_62 (by decide) ?_
        refine pw_iload dX6_leastStart_14 rfl ?_
        refine pw_sipush (v := nI 200) dX6_leastStart_16 (by decide) ?_
        refine pn_gt (tgt := 65) dX6_leastStart_19 (by decide) (by omega) (by omega) (fun h7 => ?_) (fun h7 => ?_)
        · exact tail ρ _ r1 r2
        · refine pw_iload dX6_leastStart_22 rfl ?_
          refine pw_ldc dX6_leastStart_24 kc_X6_99 ?_
          refine pw_icmp_ne (tgt := 65) dX6_leastStart_26 (by decide) (fun _ => ?_) (fun h9 => absurd h9 (nI_n6 (by omega)))
          exact tail ρ _ r1 r2
  exact lp 0 (Nat.zero_le _) μ ⟨LF.rfl, fun k hk _ => hR k hk, fun _ h9 => absurd h9 (Nat.not_lt_zero _)⟩
set_option maxRecDepth 100000 in
set_option maxHeartbeats 4000000 in
theorem m_freeStart {c : CS} (hw : CW c) (hx : MX μ c) {v : Int32} (hf : ∀ ν : Mu, MX ν (o_freeStart c v).2 → SX ν μ → fin (some (.int (o_freeStart c v).1)) ν) : PS l E D cA mX6_freeStart (d + 5) fin 0 [some (.ref 227), some (.int v)] [] μ := by
  have hq := hx
  refine pw_aload_n dX6_freeStart_0 rfl ?_
  refine pw_iload_n dX6_freeStart_1 rfl ?_
  refine ps_callV (b := 227) (As := [.int v]) (st := []) dX6_freeStart_2 cv_X6_167 rfl ⟨by decide, by decide +kernel⟩ (Nat.le_of_ble_eq_true rfl) (Nat.le_of_ble_eq_true rfl) ?_
  refine m_isTeam (hx.1 3 (by decide)) ?_
  refine pw_if_eq (tgt := 22) dX6_freeStart_5 (by decide) (fun h9 => ?_) (fun h9 => ?_)
  · have h1 := kb_eq0.mp h9
    refine pw_ldc dX6_freeStart_22 kc_X6_144 ?_
    have e9 : o_freeStart c v = ((-100001), c) := by
      unfold o_freeStart
      rw [if_neg h1]
    rw [e9] at hf
    exact ps_iret dX6_freeStart_24 rfl (rfl) (hf _ hx SX.rfl)
  · have h1 := kb_ne0.mp h9
    obtain ⟨t, ht, rfl⟩ := (rg_nat (by have := hw.1.t6; omega)).mp h1
    have t6 : t < 6 := Nat.lt_of_lt_of_le ht hw.1.t6
    have htn : iN (nI t) = t := iN_nI (by omega)
    refine pw_aload_n dX6_freeStart_8 rfl ?_
    refine pw_iload_n dX6_freeStart_9 rfl ?_
    refine pw_aload_n dX6_freeStart_10 rfl ?_
    refine ps_getr (r := 228) dX6_freeStart_11 kf_X6_7 (by decide) (by decide +kernel) ?_
    refine pw_iconst_ (v := nI 3) dX6_freeStart_14 (by decide) ?_
    refine ps_iald (j := 3) (x := nI (na c 3)) dX6_freeStart_15 rfl (ok_ar (n := 108) (by decide +kernel) (by decide)) (hx.1 3 (by decide)) ?_
    refine ps_callV (b := 227) (As := [.int (nI t), .int (nI (na c 3))]) (st := []) dX6_freeStart_16 cv_X6_183 rfl ⟨by decide, by decide +kernel⟩ (Nat.le_of_ble_eq_true rfl) (Nat.le_of_ble_eq_true rfl) ?_
    refine m_leastStart hw.1 (Nat.le_refl _) ht hx.1 (fun κ k1 k2 => ?_)
    show PS l E D cA mX6_freeStart (d + 5) fin 19 [some (.ref 227), some (.int (nI t))] [.int (eF (lfs (na c) (na c 3) t))] κ
    refine pw_goto (tgt := 24) dX6_freeStart_19 (by decide) ?_
    have e9 : o_freeStart c (nI t) = (eF (lfs (na c) (na c 3) t), c) := by
      unfold o_freeStart
      rw [if_pos h1, htn]
    rw [e9] at hf
    exact ps_iret dX6_freeStart_24 rfl (rfl) (hf κ (hx.kg k2.kg k1) k2.kg.sx')
set_option maxRecDepth 100000 in
set_option maxHeartbeats 4000000 in
theorem m_part {c : CS} (hw : CW c) (hx : MX μ c) (hf : ∀ ν : Mu, MX ν (o_part c).2 → SX ν μ → fin (some (.int (o_part c).1)) ν) : PS l E D cA mX6_part (d + 5) fin 0 [some (.ref 227), none, none] [] μ := by
  have hq := hx
  refine pw_aload_n dX6_part_0 rfl ?_
  refine ps_callV (b := 227) (As := []) (st := []) dX6_part_1 cv_X6_75 rfl ⟨by decide, by decide +kernel⟩ (Nat.le_of_ble_eq_true rfl) (Nat.le_of_ble_eq_true rfl) ?_
  refine m_remember ?_
  intro ν n1 n2
  have hb : ∀ k, k < 108 → ν 230 k = nI (na c k) := fun k hk => (n1 k hk).trans (hx.1 k hk)
  have hr : RM ν (na c) := fun k hk => (n2 _ _ (by decide)).trans (hx.1 k hk)
  have hk : KG ν μ := fun q k g => n2 q k (by omega)
  show PS l E D cA mX6_part (d + 5) fin 4 [some (.ref 227), none, none] [] ν
  refine pw_iconst_ (v := nI 0) dX6_part_4 (by decide) ?_
  refine px_istore_n (ls' := [some (.ref 227), some (.int (nI 0)), none]) dX6_part_5 rfl rfl (by decide) ?_
  have t6 := hw.1.t6
  have lp : ∀ i : Nat, i ≤ na c 3 → ∀ (l2 : Option Value) (κ : Mu), (RM κ (pst (na c) i) ∧ LF κ ν) → PS l E D cA mX6_part (d + 5) fin 6 [some (.ref 227), some (.int (nI i)), l2] [] κ := by
    refine ps_for _ ?_ ?_
    · rintro l2 κ ⟨k1, k2⟩
      refine pw_iload_n dX6_part_6 rfl ?_
      refine pw_aload_n dX6_part_7 rfl ?_
      refine ps_getr (r := 228) dX6_part_8 kf_X6_7 (by decide) (by decide +kernel) ?_
      refine pw_iconst_ (v := nI 3) dX6_part_11 (by decide) ?_
      refine ps_iald (j := 3) (x := nI (na c 3)) dX6_part_12 rfl (ok_ar (n := 108) (by decide +kernel) (by decide)) ((k1 3 (by decide)).trans (by rw [pst_3])) ?_
      refine pn_ge (tgt := 53) dX6_part_13 (by decide) (by omega) (by omega) (fun _ => ?_) (fun h9 => absurd h9 (by omega))
      refine pw_aload_n dX6_part_53 rfl ?_
      have wfb : Wf (pst (na c) (na c 3)) := wf_pst hw.1 _ (Nat.le_refl _)
      have b3 : (pst (na c) (na c 3)) 3 = na c 3 := pst_3 _
      refine ps_callV (b := 227) (As := []) (st := []) dX6_part_54 cv_X6_138 rfl ⟨by decide, by decide +kernel⟩ (Nat.le_of_ble_eq_true rfl) (Nat.le_of_ble_eq_true rfl) ?_
      refine m_playAll wfb k1 (fun τ p1 p2 => ?_)
      show PS l E D cA mX6_part (d + 5) fin 57 [some (.ref 227), some (.int (nI (na c 3))), l2] [] τ
      refine pw_aload_n dX6_part_57 rfl ?_
      refine pw_aload_n dX6_part_58 rfl ?_
      rw [b3] at p1
      refine ps_callV (b := 227) (As := []) (st := [.ref 227]) dX6_part_59 cv_X6_186 rfl ⟨by decide, by decide +kernel⟩ (Nat.le_of_ble_eq_true rfl) (Nat.le_of_ble_eq_true rfl) ?_
      refine m_pairs wfb (Nat.le_of_eq b3.symm) p1 ?_
      show PS l E D cA mX6_part (d + 5) fin 62 [some (.ref 227), some (.int (nI (na c 3))), l2] [.int (nI (prs (mt (pst (na c) (na c 3)) (na c 3)) (na c 3) (na c 3))), .ref 227] τ
      have e9 : o_part c = (nI (prs (mt (pst (na c) (na c 3)) (na c 3)) (na c 3) (na c 3)), cnow (crec c) (pst (na c) (na c 3))) := rfl
      rw [e9] at hf
      have k4 : LF τ ν := p2.lf.tr k2
      have r1 : RM (τ) (pst (na c) (na c 3)) := p2.rm k1
      have f1 : KG (τ) μ := k4.kg.tr hk
      refine ps_callV (b := 227) (As := [.int (nI (prs (mt (pst (na c) (na c 3)) (na c 3)) (na c 3) (na c 3)))]) (st := []) dX6_part_62 cv_X6_78 rfl ⟨by decide, by decide +kernel⟩ (Nat.le_of_ble_eq_true rfl) (Nat.le_of_ble_eq_true rfl) ?_
      refine m_record (a := na c) (hx.2.1.off f1) (fun k hk => (k4 _ _ (by decide) (by decide) (by omega)).trans (hb k hk)) ?_
      intro ρ r2 r3
      exact ps_iret dX6_part_65 rfl (rfl) (hf ρ (hx.rec f1 r1 r2 r3) (f1.sx r3))
    · rintro i hi ih l2 κ ⟨k1, k2⟩
      have wfb : Wf (pst (na c) i) := wf_pst hw.1 _ (Nat.le_of_lt hi)
      have b3 : pst (na c) i 3 = na c 3 := pst_3 _
      refine pw_iload_n dX6_part_6 rfl ?_
      refine pw_aload_n dX6_part_7 rfl ?_
      refine ps_getr (r := 228) dX6_part_8 kf_X6_7 (by decide) (by decide +kernel) ?_
      refine pw_iconst_ (v := nI 3) dX6_part_11 (by decide) ?_
      refine ps_iald (j := 3) (x := nI (na c 3)) dX6_part_12 rfl (ok_ar (n := 108) (by decide +kernel) (by decide)) ((k1 3 (by decide)).trans (by rw [pst_3])) ?_
      refine pn_ge (tgt := 53) dX6_part_13 (by decide) (by omega) (by omega) (fun h9 => absurd h9 (by omega)) (fun _ => ?_)
      refine pw_aload_n dX6_part_16 rfl ?_
      refine pw_iload_n dX6_part_17 rfl ?_
      refine pw_iload_n dX6_part_18 rfl ?_
      refine pw_iconst_ (v := nI 1) dX6_part_19 (by decide) ?_
      refine px_iaddn (c := i + 1) dX6_part_20 (by omega) ?_
      refine ps_callV (b := 227) (As := [.int (nI i), .int (nI (i + 1))]) (st := []) dX6_part_21 cv_X6_183 rfl ⟨by decide, by decide +kernel⟩ (Nat.le_of_ble_eq_true rfl) (Nat.le_of_ble_eq_true rfl) ?_
      refine m_leastStart wfb (by rw [b3]; exact hi) (Nat.lt_succ_self i) k1 (fun σ s1 s2 => ?_)
      show PS l E D cA mX6_part (d + 5) fin 24 [some (.ref 227), some (.int (nI i)), l2] [.int (eF (lfs (pst (na c) i) (i + 1) i))] σ
      refine px_istore_n (ls' := [some (.ref 227), some (.int (nI i)), some (.int (eF (lfs (pst (na c) i) (i + 1) i)))]) dX6_part_24 rfl rfl (by decide) ?_
      refine pw_aload_n dX6_part_25 rfl ?_
      refine pw_iload_n dX6_part_26 rfl ?_
      refine pw_iconst_ (v := nI 0) dX6_part_27 (by decide) ?_
      refine pw_iload_n dX6_part_28 rfl ?_
      refine pw_ldc dX6_part_29 kc_X6_99 ?_
      have hps : pst (na c) (i + 1) = up1 (pst (na c) i) (36 + 12 * i) (match lfs (pst (na c) i) (i + 1) i with | some m => m | none => pst (na c) i (36 + 12 * i)) := rfl
      have i6 : i < 6 := by omega
      cases hl : lfs (pst (na c) i) (i + 1) i with
      | none =>
        show PS l E D cA mX6_part (d + 5) fin 31 [some (.ref 227), some (.int (nI i)), some (.int (-100006))] [.int (-100006), .int (-100006), .int (nI 0), .int (nI i), .ref 227] σ
        refine pw_icmp_ne (tgt := 43) dX6_part_31 (by decide) (fun h9 => absurd rfl h9) (fun _ => ?_)
        refine pw_aload_n dX6_part_34 rfl ?_
        refine pw_iload_n dX6_part_35 rfl ?_
        refine pw_iconst_ (v := nI 0) dX6_part_36 (by decide) ?_
        refine ps_callV (b := 227) (As := [.int (nI i), .int (nI 0)]) (st := [.int (nI 0), .int (nI i), .ref 227]) dX6_part_37 cv_X6_85 rfl ⟨by decide, by decide +kernel⟩ (Nat.le_of_ble_eq_true rfl) (Nat.le_of_ble_eq_true rfl) ?_
        refine m_its (t := i) (w := 0) (by omega) ((s1 _ (by omega)).trans (by rw [show 36 + 12 * i + 0 = 36 + 12 * i by omega])) ?_
        show PS l E D cA mX6_part (d + 5) fin 40 [some (.ref 227), some (.int (nI i)), some (.int (-100006))] [.int (nI (pst (na c) i (36 + 12 * i))), .int (nI 0), .int (nI i), .ref 227] σ
        refine pw_goto (tgt := 44) dX6_part_40 (by decide) ?_
        refine ps_callV (b := 227) (As := [.int (nI i), .int (nI 0), .int (nI (pst (na c) i (36 + 12 * i)))]) (st := []) dX6_part_44 cv_X6_151 rfl ⟨by decide, by decide +kernel⟩ (Nat.le_of_ble_eq_true rfl) (Nat.le_of_ble_eq_true rfl) ?_
        refine m_lay (t := i) (w := 0) (by omega) ?_
        rw [show 36 + 12 * i + 0 = 36 + 12 * i by omega]
        show PS l E D cA mX6_part (d + 5) fin 47 [some (.ref 227), some (.int (nI i)), some (.int (-100006))] [] (u2 σ 228 (36 + 12 * i) (nI (pst (na c) i (36 + 12 * i))))
        refine px_iincn (n := 1) (a := i) (b := i + 1) (ls' := [some (.ref 227), some (.int (nI (i + 1))), some (.int (-100006))]) dX6_part_47 rfl rfl rfl (by omega) ?_
        refine pw_goto (tgt := 6) dX6_part_50 (by decide) ?_
        rw [hl] at hps
        exact ih _ _ ⟨by rw [hps]; exact s1.up, (s2.tr k2).row⟩
      | some m =>
        have hm2 := lfs_le hl
        show PS l E D cA mX6_part (d + 5) fin 31 [some (.ref 227), some (.int (nI i)), some (.int (nI m))] [.int (-100006), .int (nI m), .int (nI 0), .int (nI i), .ref 227] σ
        refine pw_icmp_ne (tgt := 43) dX6_part_31 (by decide) (fun _ => ?_) (fun h9 => absurd h9 (nI_n6 (by omega)))
        refine pw_iload_n dX6_part_43 rfl ?_
        refine ps_callV (b := 227) (As := [.int (nI i), .int (nI 0), .int (nI m)]) (st := []) dX6_part_44 cv_X6_151 rfl ⟨by decide, by decide +kernel⟩ (Nat.le_of_ble_eq_true rfl) (Nat.le_of_ble_eq_true rfl) ?_
        refine m_lay (t := i) (w := 0) (by omega) ?_
        rw [show 36 + 12 * i + 0 = 36 + 12 * i by omega]
        show PS l E D cA mX6_part (d + 5) fin 47 [some (.ref 227), some (.int (nI i)), some (.int (nI m))] [] (u2 σ 228 (36 + 12 * i) (nI (m)))
        refine px_iincn (n := 1) (a := i) (b := i + 1) (ls' := [some (.ref 227), some (.int (nI (i + 1))), some (.int (nI m))]) dX6_part_47 rfl rfl rfl (by omega) ?_
        refine pw_goto (tgt := 6) dX6_part_50 (by decide) ?_
        rw [hl] at hps
        exact ih _ _ ⟨by rw [hps]; exact s1.up, (s2.tr k2).row⟩
  exact lp 0 (Nat.zero_le _) _ ν ⟨hr, LF.rfl⟩
end MODU
