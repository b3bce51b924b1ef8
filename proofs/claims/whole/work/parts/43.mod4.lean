/-! the model: undo, save, restore -/
section MODD
variable {l : Launch} {E : EV} {D : va_G} {cA : Nat → ClassId} {fin : Option Value → Mu → Prop} {μ : Mu} {d : Nat}
set_option maxRecDepth 100000 in
set_option maxHeartbeats 4000000 in
theorem m_undo {c : CS} (hw : CW c) (hx : MX μ c) (hf : ∀ ν : Mu, MX ν (o_undo c).2 → SX ν μ → fin (some (.int (o_undo c).1)) ν) : PS l E D cA mX6_undo (d + 4) fin 0 [some (.ref 227), none] [] μ := by
  have hq := hx
  obtain ⟨h6, hs, hp⟩ := hx.2.1
  cases h0 : hN c with
  | zero =>
    rw [h0] at hs
    refine pw_aload_n dX6_undo_0 rfl ?_
    refine ps_geti (x := nI 0) dX6_undo_1 kf_X6_69 (by decide) (by decide +kernel) hs ?_
    refine pw_if_ne (tgt := 10) dX6_undo_4 (by decide) (fun h9 => absurd (by decide) h9) (fun _ => ?_)
    refine pw_ldc dX6_undo_7 kc_X6_73 ?_
    have e9 : o_undo c = ((-100005), c) := by
      unfold o_undo
      rw [if_pos h0]
    rw [e9] at hf
    exact ps_iret dX6_undo_9 rfl (rfl) (hf _ hx SX.rfl)
  | succ n =>
    rw [h0] at hs hp
    have hn6 : n + 1 ≤ 6 := h0 ▸ h6
    have hne : ∀ q, q < 7 → (nI q = 0 ↔ q = 0) := by decide
    refine pw_aload_n dX6_undo_0 rfl ?_
    refine ps_geti (x := nI (n + 1)) dX6_undo_1 kf_X6_69 (by decide) (by decide +kernel) hs ?_
    refine pw_if_ne (tgt := 10) dX6_undo_4 (by decide) (fun _ => ?_) (fun h9 => absurd ((hne _ (by omega)).mp h9) (by omega))
    refine pw_aload_n dX6_undo_10 rfl ?_
    refine pw_dup dX6_undo_11 rfl ?_
    refine ps_geti (x := nI (n + 1)) dX6_undo_12 kf_X6_69 (by decide) (by decide +kernel) hs ?_
    refine pw_iconst_ (v := nI 1) dX6_undo_15 (by decide) ?_
    refine pn_isub (by omega) dX6_undo_16 ?_
    rw [Nat.add_sub_cancel]
    refine ps_puti dX6_undo_17 kf_X6_69 (by decide) rfl (by decide +kernel) ?_
    refine pw_iconst_ (v := nI 0) dX6_undo_20 (by decide) ?_
    refine px_istore_n (ls' := [some (.ref 227), some (.int (nI 0))]) dX6_undo_21 rfl rfl (by decide) ?_
    have lp : ∀ i : Nat, i ≤ 108 → ∀ κ : Mu, ((∀ q k, q ≠ 228 → κ q k = u2 μ 227 6 (nI n) q k) ∧ ∀ k, k < i → κ 228 k = nI (hH c n k)) → PS l E D cA mX6_undo (d + 4) fin 22 [some (.ref 227), some (.int (nI i))] [] κ := by
      refine ps_for 108 ?_ ?_
      · rintro κ ⟨k1, k2⟩
        refine pw_iload_n dX6_undo_22 rfl ?_
        refine pw_bipush (v := nI 108) dX6_undo_23 (by decide) ?_
        refine pn_ge (tgt := 54) dX6_undo_25 (by decide) (by omega) (by omega) (fun _ => ?_) (fun h9 => absurd h9 (by decide))
        refine pw_aload_n dX6_undo_54 rfl ?_
        refine ps_geti (x := nI n) dX6_undo_55 kf_X6_69 (by decide) (by decide +kernel) ((k1 _ _ (by decide)).trans u2_s) ?_
        have e9 : o_undo c = (nI n, (hH c n, hH c, n, c.2.2.2)) := by
          unfold o_undo
          rw [if_neg (by omega), h0, Nat.add_sub_cancel]
        rw [e9] at hf
        have f : ∀ q k, q ≠ 228 → (q = 227 → k ≠ 6) → κ q k = μ q k := fun q k g1 g2 => by
          rw [k1 q k g1]
          by_cases e : q = 227
          · exact u2_b (g2 e)
          · exact u2_a e
        obtain ⟨-, -, ⟨s1, s2⟩, s3, s4, s5⟩ := hx
        exact ps_iret dX6_undo_58 rfl (rfl) (hf κ ⟨k2, ⟨by show n ≤ 6; omega, (k1 _ _ (by decide)).trans u2_s, fun i k h1 h2 => (f _ _ (by decide) (by omega)).trans (hp i k (by have h1 : i < n := h1; omega) h2)⟩, ⟨fun j hj => (f _ _ (by decide) (by omega)).trans (s1 j hj), fun j k hj hk e => (f _ _ (by decide) (by omega)).trans (s2 j k hj hk e)⟩, (f _ _ (by decide) (by omega)).trans s3, s4, fun k hk => ⟨(f _ _ (by decide) (by omega)).trans (s5 k hk).1, (s5 k hk).2⟩⟩ (fun q k g => f q k (by omega) (by omega)))
      · rintro i hi ih κ ⟨k1, k2⟩
        refine pw_iload_n dX6_undo_22 rfl ?_
        refine pw_bipush (v := nI 108) dX6_undo_23 (by decide) ?_
        refine pn_ge (tgt := 54) dX6_undo_25 (by decide) (by omega) (by omega) (fun h9 => absurd h9 (by omega)) (fun _ => ?_)
        refine pw_aload_n dX6_undo_28 rfl ?_
        refine ps_getr (r := 228) dX6_undo_29 kf_X6_7 (by decide) (by decide +kernel) ?_
        refine pw_iload_n dX6_undo_32 rfl ?_
        refine pw_aload_n dX6_undo_33 rfl ?_
        refine ps_getr (r := 229) dX6_undo_34 kf_X6_13 (by decide) (by decide +kernel) ?_
        refine pw_bipush (v := nI 108) dX6_undo_37 (by decide) ?_
        refine pw_aload_n dX6_undo_39 rfl ?_
        refine ps_geti (x := nI n) dX6_undo_40 kf_X6_69 (by decide) (by decide +kernel) ((k1 _ _ (by decide)).trans u2_s) ?_
        refine px_imuln (c := 108 * n) dX6_undo_43 (by omega) ?_
        refine pw_iload_n dX6_undo_44 rfl ?_
        refine px_iaddn (c := 108 * n + i) dX6_undo_45 (by omega) ?_
        refine ps_iald (j := 108 * n + i) (x := nI (hH c n i)) dX6_undo_46 rfl (ok_ar (n := 648) (by decide +kernel) (by omega)) ((k1 _ _ (by decide)).trans ((u2_a (by decide)).trans (hp n i (by omega) hi))) ?_
        refine ps_iast (j := i) dX6_undo_47 rfl (ok_ar (n := 108) (by decide +kernel) (by omega)) ?_
        refine px_iincn (n := 1) (a := i) (b := i + 1) (ls' := [some (.ref 227), some (.int (nI (i + 1)))]) dX6_undo_48 rfl rfl rfl (by omega) ?_
        refine pw_goto (tgt := 22) dX6_undo_51 (by decide) ?_
        refine ih _ ⟨fun q k g => (u2_a g).trans (k1 q k g), fun k g => ?_⟩
        rcases Nat.lt_or_eq_of_le (Nat.le_of_lt_succ g) with h | rfl
        · rw [u2_b (by omega)]
          exact k2 k h
        · rw [u2_s]
    exact lp 0 (by decide) _ ⟨fun _ _ _ => rfl, fun k g => absurd g (Nat.not_lt_zero _)⟩
set_option maxRecDepth 100000 in
set_option maxHeartbeats 4000000 in
theorem m_save {c : CS} (hw : CW c) (hx : MX μ c) {v : Int32} (hf : ∀ ν : Mu, MX ν (o_save c v).2 → SX ν μ → fin (some (.int (o_save c v).1)) ν) : PS l E D cA mX6_save (d + 4) fin 0 [some (.ref 227), some (.int v), none] [] μ := by
  have hq := hx
  refine pw_iload_n dX6_save_0 rfl ?_
  refine pw_i2l dX6_save_1 rfl ?_
  refine pw_iconst_ (v := nI 0) dX6_save_2 (by decide) ?_
  refine pw_iconst_ (v := nI 1) dX6_save_3 (by decide) ?_
  refine ps_callS (As := [.long v.toInt64, .int (nI 0), .int (nI 1)]) (st := []) dX6_save_4 cs_X6_65 rfl (Nat.le_of_ble_eq_true rfl) (Nat.le_of_ble_eq_true rfl) ?_
  refine m_in ?_
  refine pw_if_ne (tgt := 13) dX6_save_7 (by decide) (fun h9 => ?_) (fun h9 => ?_)
  · have h1 := kb_ne0.mp h9
    obtain ⟨j, hj, rfl⟩ := (rg_to (by decide)).mp h1
    have hj2 : j < 2 := by omega
    have hjn : iN (nI j) = j := iN_nI (by omega)
    refine pw_iconst_ (v := nI 0) dX6_save_13 (by decide) ?_
    refine px_istore_n (ls' := [some (.ref 227), some (.int (nI j)), some (.int (nI 0))]) dX6_save_14 rfl rfl (by decide) ?_
    have lp : ∀ i : Nat, i ≤ 108 → ∀ κ : Mu, ((∀ q k, q ≠ 232 → κ q k = μ q k) ∧ (∀ k, k < i → κ 232 (108 * j + k) = nI (na c k)) ∧ ∀ k, ¬ (108 * j ≤ k ∧ k < 108 * j + 108) → κ 232 k = μ 232 k) → PS l E D cA mX6_save (d + 4) fin 15 [some (.ref 227), some (.int (nI j)), some (.int (nI i))] [] κ := by
      refine ps_for 108 ?_ ?_
      · rintro κ ⟨k1, k2, k3⟩
        refine pw_iload_n dX6_save_15 rfl ?_
        refine pw_bipush (v := nI 108) dX6_save_16 (by decide) ?_
        refine pn_ge (tgt := 44) dX6_save_18 (by decide) (by omega) (by omega) (fun _ => ?_) (fun h9 => absurd h9 (by decide))
        refine pw_aload_n dX6_save_44 rfl ?_
        refine ps_getr (r := 233) dX6_save_45 kf_X6_25 (by decide) (by decide +kernel) ?_
        refine pw_iload_n dX6_save_48 rfl ?_
        refine pw_iconst_ (v := nI 1) dX6_save_49 (by decide) ?_
        refine ps_bast (j := j) dX6_save_50 rfl (ok_ar (n := 2) (by decide +kernel) (by omega)) ?_
        refine pw_aload_n dX6_save_51 rfl ?_
        refine ps_getr (r := 228) dX6_save_52 kf_X6_7 (by decide) (by decide +kernel) ?_
        refine pw_iconst_ (v := nI 3) dX6_save_55 (by decide) ?_
        refine ps_iald (j := 3) (x := nI (na c 3)) dX6_save_56 rfl (ok_ar (n := 108) (by decide +kernel) (by decide)) ((u2_a (by omega)).trans ((k1 _ _ (by decide)).trans (hx.1 3 (by decide)))) ?_
        have e9 : o_save c (nI j) = (nI (na c 3), (na c, hH c, hN c, upS (sS c) j (na c), up1 (sV c) j 1, pD c, pL c)) := by
          unfold o_save
          rw [if_pos h1, hjn]
        rw [e9] at hf
        have f : ∀ q k, q ≠ 232 → q ≠ 233 → u2 κ 233 j (vp_nar .boolean (nI 1)) q k = μ q k := fun q k g1 g2 => (u2_a g2).trans (k1 q k g1)
        obtain ⟨s0, ⟨t1, t2, t3⟩, ⟨s1, s2⟩, s3, s4, s5⟩ := hx
        refine ps_iret dX6_save_57 rfl rfl (hf _ ⟨?_, ⟨t1, ?_, ?_⟩, ⟨?_, ?_⟩, ?_, s4, ?_⟩ ?_)
        · exact fun k hk => (f _ _ (by decide) (by decide)).trans (s0 k hk)
        · exact (f _ _ (by decide) (by decide)).trans t2
        · exact fun i k h1 h2 => (f _ _ (by decide) (by decide)).trans (t3 i k h1 h2)
        · intro i hi
          show _ = nI (up1 (sV c) j 1 i)
          by_cases e : i = j
          · subst e
            rw [up1_s, u2_s]
            decide
          · rw [up1_n e, u2_b e, k1 _ _ (by decide)]
            exact s1 i hi
        · intro i k hi hk e0
          show _ = nI (upS (sS c) j (na c) i k)
          unfold upS
          rw [u2_a (by decide)]
          by_cases e : i = j
          · subst e
            rw [if_pos rfl]
            exact k2 k hk
          · rw [if_neg e, k3 _ (by omega)]
            have e0 : up1 (sV c) j 1 i = 1 := e0
            rw [up1_n e] at e0
            exact s2 i k hi hk e0
        · exact (f _ _ (by decide) (by decide)).trans s3
        · exact fun k hk => ⟨(f _ _ (by decide) (by decide)).trans (s5 k hk).1, (s5 k hk).2⟩
        · exact fun q k g => f q k (by omega) (by omega)
      · rintro i hi ih κ ⟨k1, k2, k3⟩
        refine pw_iload_n dX6_save_15 rfl ?_
        refine pw_bipush (v := nI 108) dX6_save_16 (by decide) ?_
        refine pn_ge (tgt := 44) dX6_save_18 (by decide) (by omega) (by omega) (fun h9 => absurd h9 (by omega)) (fun _ => ?_)
        refine pw_aload_n dX6_save_21 rfl ?_
        refine ps_getr (r := 232) dX6_save_22 kf_X6_22 (by decide) (by decide +kernel) ?_
        refine pw_bipush (v := nI 108) dX6_save_25 (by decide) ?_
        refine pw_iload_n dX6_save_27 rfl ?_
        refine px_imuln (c := 108 * j) dX6_save_28 (by omega) ?_
        refine pw_iload_n dX6_save_29 rfl ?_
        refine px_iaddn (c := 108 * j + i) dX6_save_30 (by omega) ?_
        refine pw_aload_n dX6_save_31 rfl ?_
        refine ps_getr (r := 228) dX6_save_32 kf_X6_7 (by decide) (by decide +kernel) ?_
        refine pw_iload_n dX6_save_35 rfl ?_
        refine ps_iald (j := i) (x := nI (na c i)) dX6_save_36 rfl (ok_ar (n := 108) (by decide +kernel) (by omega)) ((k1 _ _ (by decide)).trans (hx.1 i hi)) ?_
        refine ps_iast (j := 108 * j + i) dX6_save_37 rfl (ok_ar (n := 216) (by decide +kernel) (by omega)) ?_
        refine px_iincn (n := 1) (a := i) (b := i + 1) (ls' := [some (.ref 227), some (.int (nI j)), some (.int (nI (i + 1)))]) dX6_save_38 rfl rfl rfl (by omega) ?_
        refine pw_goto (tgt := 15) dX6_save_41 (by decide) ?_
        refine ih _ ⟨fun q k g => (u2_a g).trans (k1 q k g), fun k g => ?_, fun k g => (u2_b (by omega)).trans (k3 k g)⟩
        rcases Nat.lt_or_eq_of_le (Nat.le_of_lt_succ g) with h | rfl
        · rw [u2_b (by omega)]
          exact k2 k h
        · rw [u2_s]
    exact lp 0 (by decide) μ ⟨fun _ _ _ => rfl, fun k g => absurd g (Nat.not_lt_zero _), fun _ _ => rfl⟩
  · have h1 := kb_eq0.mp h9
    refine pw_ldc dX6_save_10 kc_X6_74 ?_
    have e9 : o_save c v = ((-100002), c) := by
      unfold o_save
      rw [if_neg h1]
    rw [e9] at hf
    exact ps_iret dX6_save_12 rfl (rfl) (hf _ hx SX.rfl)
set_option maxRecDepth 100000 in
set_option maxHeartbeats 4000000 in
theorem m_restore {c : CS} (hw : CW c) (hx : MX μ c) {v : Int32} (hf : ∀ ν : Mu, MX ν (o_restore c v).2 → SX ν μ → fin (some (.int (o_restore c v).1)) ν) : PS l E D cA mX6_restore (d + 4) fin 0 [some (.ref 227), some (.int v), none] [] μ := by
  have hq := hx
  refine pw_iload_n dX6_restore_0 rfl ?_
  refine pw_i2l dX6_restore_1 rfl ?_
  refine pw_iconst_ (v := nI 0) dX6_restore_2 (by decide) ?_
  refine pw_iconst_ (v := nI 1) dX6_restore_3 (by decide) ?_
  refine ps_callS (As := [.long v.toInt64, .int (nI 0), .int (nI 1)]) (st := []) dX6_restore_4 cs_X6_65 rfl (Nat.le_of_ble_eq_true rfl) (Nat.le_of_ble_eq_true rfl) ?_
  refine m_in ?_
  refine pw_if_ne (tgt := 13) dX6_restore_7 (by decide) (fun h9 => ?_) (fun h9 => ?_)
  · have h1 := kb_ne0.mp h9
    obtain ⟨j, hj, rfl⟩ := (rg_to (by decide)).mp h1
    have hj2 : j < 2 := by omega
    have hjn : iN (nI j) = j := iN_nI (by omega)
    have hv1 := (hw.2.2.1 j hj2).1
    have hz9 : ∀ n, n ≤ 1 → (nI n = 0 ↔ n = 0) := by decide
    refine pw_aload_n dX6_restore_13 rfl ?_
    refine ps_getr (r := 233) dX6_restore_14 kf_X6_25 (by decide) (by decide +kernel) ?_
    refine pw_iload_n dX6_restore_17 rfl ?_
    refine ps_bald (j := j) (x := nI (sV c j)) dX6_restore_18 rfl (ok_ar (n := 2) (by decide +kernel) (by omega)) (hx.2.2.1.1 j hj2) ?_
    refine pw_if_ne (tgt := 25) dX6_restore_19 (by decide) (fun h2 => ?_) (fun h2 => ?_)
    · have hv : sV c j = 1 := by
        have : sV c j ≠ 0 := fun q => h2 ((hz9 _ hv1).mpr q)
        omega
      refine pw_aload_n dX6_restore_25 rfl ?_
      refine ps_callV (b := 227) (As := []) (st := []) dX6_restore_26 cv_X6_75 rfl ⟨by decide, by decide +kernel⟩ (Nat.le_of_ble_eq_true rfl) (Nat.le_of_ble_eq_true rfl) ?_
      refine m_remember ?_
      intro ν n1 n2
      have hb : ∀ k, k < 108 → ν 230 k = nI (na c k) := fun k hk => (n1 k hk).trans (hx.1 k hk)
      have hr : RM ν (na c) := fun k hk => (n2 _ _ (by decide)).trans (hx.1 k hk)
      have hk : KG ν μ := fun q k g => n2 q k (by omega)
      show PS l E D cA mX6_restore (d + 4) fin 29 [some (.ref 227), some (.int (nI j)), none] [] ν
      refine pw_iconst_ (v := nI 0) dX6_restore_29 (by decide) ?_
      refine px_istore_n (ls' := [some (.ref 227), some (.int (nI j)), some (.int (nI 0))]) dX6_restore_30 rfl rfl (by decide) ?_
      have lp : ∀ i : Nat, i ≤ 108 → ∀ κ : Mu, ((∀ q k, q ≠ 228 → κ q k = ν q k) ∧ ∀ k, k < i → κ 228 k = nI (sS c j k)) → PS l E D cA mX6_restore (d + 4) fin 31 [some (.ref 227), some (.int (nI j)), some (.int (nI i))] [] κ := by
        refine ps_for 108 ?_ ?_
        · rintro κ ⟨k1, k2⟩
          refine pw_iload_n dX6_restore_31 rfl ?_
          refine pw_bipush (v := nI 108) dX6_restore_32 (by decide) ?_
          refine pn_ge (tgt := 60) dX6_restore_34 (by decide) (by omega) (by omega) (fun _ => ?_) (fun h9 => absurd h9 (by decide))
          refine pw_aload_n dX6_restore_60 rfl ?_
          refine pw_aload_n dX6_restore_61 rfl ?_
          refine ps_getr (r := 228) dX6_restore_62 kf_X6_7 (by decide) (by decide +kernel) ?_
          refine pw_iconst_ (v := nI 3) dX6_restore_65 (by decide) ?_
          refine ps_iald (j := 3) (x := nI (sS c j 3)) dX6_restore_66 rfl (ok_ar (n := 108) (by decide +kernel) (by decide)) (k2 3 (by decide)) ?_
          have e9 : o_restore c (nI j) = (nI (sS c j 3), cnow (crec c) (sS c j)) := by
            unfold o_restore
            rw [if_pos h1, hjn, if_neg (fun q => h2 ((hz9 _ hv1).mpr q))]
          rw [e9] at hf
          have r1 : RM (κ) (sS c j) := k2
          have f1 : KG (κ) μ := fun q k g => (k1 q k (by omega)).trans (hk q k g)
          refine ps_callV (b := 227) (As := [.int (nI (sS c j 3))]) (st := []) dX6_restore_67 cv_X6_78 rfl ⟨by decide, by decide +kernel⟩ (Nat.le_of_ble_eq_true rfl) (Nat.le_of_ble_eq_true rfl) ?_
          refine m_record (a := na c) (hx.2.1.off f1) (fun k hk => (k1 _ _ (by decide)).trans (hb k hk)) ?_
          intro ρ r2 r3
          exact ps_iret dX6_restore_70 rfl (rfl) (hf ρ (hx.rec f1 r1 r2 r3) (f1.sx r3))
        · rintro i hi ih κ ⟨k1, k2⟩
          refine pw_iload_n dX6_restore_31 rfl ?_
          refine pw_bipush (v := nI 108) dX6_restore_32 (by decide) ?_
          refine pn_ge (tgt := 60) dX6_restore_34 (by decide) (by omega) (by omega) (fun h9 => absurd h9 (by omega)) (fun _ => ?_)
          refine pw_aload_n dX6_restore_37 rfl ?_
          refine ps_getr (r := 228) dX6_restore_38 kf_X6_7 (by decide) (by decide +kernel) ?_
          refine pw_iload_n dX6_restore_41 rfl ?_
          refine pw_aload_n dX6_restore_42 rfl ?_
          refine ps_getr (r := 232) dX6_restore_43 kf_X6_22 (by decide) (by decide +kernel) ?_
          refine pw_bipush (v := nI 108) dX6_restore_46 (by decide) ?_
          refine pw_iload_n dX6_restore_48 rfl ?_
          refine px_imuln (c := 108 * j) dX6_restore_49 (by omega) ?_
          refine pw_iload_n dX6_restore_50 rfl ?_
          refine px_iaddn (c := 108 * j + i) dX6_restore_51 (by omega) ?_
          refine ps_iald (j := 108 * j + i) (x := nI (sS c j i)) dX6_restore_52 rfl (ok_ar (n := 216) (by decide +kernel) (by omega)) ((k1 _ _ (by decide)).trans ((hk _ _ (by omega)).trans (hx.2.2.1.2 j i hj2 hi hv))) ?_
          refine ps_iast (j := i) dX6_restore_53 rfl (ok_ar (n := 108) (by decide +kernel) (by omega)) ?_
          refine px_iincn (n := 1) (a := i) (b := i + 1) (ls' := [some (.ref 227), some (.int (nI j)), some (.int (nI (i + 1)))]) dX6_restore_54 rfl rfl rfl (by omega) ?_
          refine pw_goto (tgt := 31) dX6_restore_57 (by decide) ?_
          refine ih _ ⟨fun q k g => (u2_a g).trans (k1 q k g), fun k g => ?_⟩
          rcases Nat.lt_or_eq_of_le (Nat.le_of_lt_succ g) with h | rfl
          · rw [u2_b (by omega)]
            exact k2 k h
          · rw [u2_s]
      exact lp 0 (by decide) ν ⟨fun _ _ _ => rfl, fun k g => absurd g (Nat.not_lt_zero _)⟩
    · refine pw_ldc dX6_restore_22 kc_X6_73 ?_
      have e9 : o_restore c (nI j) = ((-100005), c) := by
        unfold o_restore
        rw [if_pos h1, hjn, if_pos ((hz9 _ hv1).mp h2)]
      rw [e9] at hf
      exact ps_iret dX6_restore_24 rfl (rfl) (hf _ hx SX.rfl)
  · have h1 := kb_eq0.mp h9
    refine pw_ldc dX6_restore_10 kc_X6_74 ?_
    have e9 : o_restore c v = ((-100002), c) := by
      unfold o_restore
      rw [if_neg h1]
    rw [e9] at hf
    exact ps_iret dX6_restore_12 rfl (rfl) (hf _ hx SX.rfl)
end MODD
