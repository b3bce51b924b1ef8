/-! the least free start; part; freeStart -/
/-- the least start with which team t meets nobody when the first n play -/
def lfs (a : AS) (n t : Nat) : Option Nat := fstN (fun m => msk (metp (up1 a (36 + 12 * t) m) n t) n == 0) 201
theorem up1_up1 {f : Nat → Nat} {k x y : Nat} : up1 (up1 f k x) k y = up1 f k y := by
  funext j
  simp only [up1]
  split <;> rfl
/-- now, behind the starts of the first i teams in a departure -/
def pst (a : AS) : Nat → AS
  | 0 => a
  | i + 1 => up1 (pst a i) (36 + 12 * i) (match lfs (pst a i) (i + 1) i with | some m => m | none => pst a i (36 + 12 * i))
theorem pst_3 {a : AS} : ∀ i, pst a i 3 = a 3
  | 0 => rfl
  | i + 1 => by
    show up1 (pst a i) (36 + 12 * i) _ 3 = a 3
    rw [up1_n (by omega)]
    exact pst_3 i
theorem lfs_le {a : AS} {n t m : Nat} (h : lfs a n t = some m) : m ≤ 200 := by
  have := (fstN_some.mp h).1
  omega
theorem wf_pst {a : AS} (hw : Wf a) : ∀ i, i ≤ a 3 → Wf (pst a i)
  | 0, _ => hw
  | i + 1, hi => by
    have ih := wf_pst hw i (by omega)
    have h3 : i < pst a i 3 := by rw [pst_3]; omega
    refine wf_team ih h3 (Or.inl ⟨?_, rfl⟩)
    split
    · next m hm => exact lfs_le hm
    · exact (ih.tm h3).1
def o_part (c : CS) : Int32 × CS := (nI (prs (mt (pst (na c) (na c 3)) (na c 3)) (na c 3) (na c 3)), cnow (crec c) (pst (na c) (na c 3)))
def o_freeStart (c : CS) (v : Int32) : Int32 × CS := if inT v (na c 3) then (eF (lfs (na c) (na c 3) (iN v)), c) else (-100001, c)
theorem isS_37 {s : Nat} (h : isS s) : s + 18 ≤ 37 ∨ 81 ≤ s := by
  have : ∀ s, s ∈ [1, 19, 81, 99, 117, 135, 153, 171, 191, 209] → s + 18 ≤ 37 ∨ 81 ≤ s := by decide
  exact this s h
section LEAST
variable {l : Launch} {E : EV} {D : va_G} {cA : Nat → ClassId} {fin : Option Value → Mu → Prop} {μ : Mu} {d : Nat}
set_option maxRecDepth 100000 in
set_option maxHeartbeats 4000000 in
theorem c_leastFreeStart {s t n : Nat} {a : AS} (hs : isS s) (hw : Wf a) (hna : n ≤ a 3) (ht : t < n) (hR : RS μ s a) (hf : ∀ κ : Mu, (∃ m, m ≤ 200 ∧ RS κ s (up1 a (36 + 12 * t) m)) → (∀ q k, ¬ (37 ≤ q ∧ q < 77) → (q = s + 6 + 2 * t → k ≠ 2) → κ q k = μ q k) → fin (some (.int (eF (lfs a n t)))) κ) : PS l E D cA mX5_leastFreeStart (d + 4) fin 0 [some (.ref 0), some (.ref s), some (.int (nI t)), some (.int (nI n)), none] [] μ := by
  have h37 := isS_37 hs
  have t6 : t < 6 := by have := hw.t6; omega
  refine pw_iconst_ (v := nI 0) dX5_leastFreeStart_0 (by decide) ?_
  refine px_istore (ls' := [some (.ref 0), some (.ref s), some (.int (nI t)), some (.int (nI n)), some (.int (nI 0))]) dX5_leastFreeStart_1 rfl rfl (by decide) ?_
  have lp : ∀ i : Nat, i ≤ 201 → ∀ κ : Mu, ((∀ q k, ¬ (37 ≤ q ∧ q < 77) → (q = s + 6 + 2 * t → k ≠ 2) → κ q k = μ q k) ∧ (∀ j, j < i → ¬ (msk (metp (up1 a (36 + 12 * t) j) n t) n == 0) = true) ∧ (i ≠ 0 → ∃ m, m ≤ 200 ∧ RS κ s (up1 a (36 + 12 * t) m))) → PS l E D cA mX5_leastFreeStart (d + 4) fin 3 [some (.ref 0), some (.ref s), some (.int (nI t)), some (.int (nI n)), some (.int (nI i))] [] κ := by
    refine ps_for 201 ?_ ?_
    · rintro κ ⟨k1, k2, k3⟩
      refine pw_iload dX5_leastFreeStart_3 rfl ?_
      refine pw_sipush (v := nI 200) dX5_leastFreeStart_5 (by decide) ?_
      refine pn_gt (tgt := 51) dX5_leastFreeStart_8 (by decide) (by omega) (by omega) (fun _ => ?_) (fun h9 => absurd h9 (by decide))
      refine pw_ldc dX5_leastFreeStart_51 kc_X5_96 ?_
      have hN : lfs a n t = none := fstN_none.mpr k2
      rw [hN] at hf
      exact ps_iret dX5_leastFreeStart_53 rfl (rfl) (hf κ (k3 (by decide)) k1)
    · rintro i hi ih κ ⟨k1, k2, -⟩
      refine pw_iload dX5_leastFreeStart_3 rfl ?_
      refine pw_sipush (v := nI 200) dX5_leastFreeStart_5 (by decide) ?_
      refine pn_gt (tgt := 51) dX5_leastFreeStart_8 (by decide) (by omega) (by omega) (fun h9 => absurd h9 (by omega)) (fun _ => ?_)
      refine pw_aload_n dX5_leastFreeStart_11 rfl ?_
      refine ps_getr (r := s + 5) dX5_leastFreeStart_12 kf_X5_102 (by decide) ((ok_S hs).2.2.2.2.2.1) ?_
      refine pw_iload_n dX5_leastFreeStart_15 rfl ?_
      refine ps_aald (t := 5) (j := t) (r := s + 6 + 2 * t) dX5_leastFreeStart_16 rfl (ok_T hs t6).1 (by decide) ?_
      refine pw_iload dX5_leastFreeStart_17 rfl ?_
      refine ps_puti dX5_leastFreeStart_19 kf_X5_110 (by decide) rfl ((ok_T hs t6).2.2.2.1) ?_
      refine pw_aload_n dX5_leastFreeStart_22 rfl ?_
      refine ps_getr (r := 37) dX5_leastFreeStart_23 kf_X5_22 (by decide) (by decide +kernel) ?_
      refine pw_aload_n dX5_leastFreeStart_26 rfl ?_
      refine pw_iload_n dX5_leastFreeStart_27 rfl ?_
      have wfb : Wf (up1 a (36 + 12 * t) i) := wf_team hw (by omega) (Or.inl ⟨by omega, rfl⟩)
      have hrs : RS (u2 κ (s + 6 + 2 * t) 2 (nI i)) s (up1 a (36 + 12 * t) i) := RS.same (μ := u2 μ (s + 6 + 2 * t) 2 (nI i)) (by rw [up1_n (by omega)]; exact hw.t6) (fun q k g1 g2 => by
        by_cases e1 : q = s + 6 + 2 * t
        · subst e1
          by_cases e2 : k = 2
          · subst e2
            rw [u2_s, u2_s]
          · rw [u2_b e2, u2_b e2]
            exact k1 _ _ (by omega) (fun _ => e2)
        · rw [u2_a e1, u2_a e1]
          exact k1 _ _ (by omega) (fun h => absurd h e1)) (RS.start t6 hw hR)
      have hna2 : n ≤ up1 a (36 + 12 * t) i 3 := by rw [up1_n (by omega)]; exact hna
      refine ps_callV (b := 37) (As := [.ref s, .int (nI n)]) (st := []) dX5_leastFreeStart_28 cv_X5_247 rfl ⟨by decide, by decide +kernel⟩ (Nat.le_of_ble_eq_true rfl) (Nat.le_of_ble_eq_true rfl) ?_
      refine c_play hs wfb hna2 hrs ?_
      intro ρ p1 p2 p3
      have fr : ∀ q k, ¬ (37 ≤ q ∧ q < 77) → (q = s + 6 + 2 * t → k ≠ 2) → ρ q k = μ q k := fun q k g1 g2 => by
        rw [p3 q k g1, ← k1 q k g1 g2]
        by_cases e : q = s + 6 + 2 * t
        · exact u2_b (g2 e)
        · exact u2_a e
      have hrs2 : RS ρ s (up1 a (36 + 12 * t) i) := RS.same (by rw [up1_n (by omega)]; exact hw.t6) (fun q k g1 g2 => p3 q k (by omega)) hrs
      show PS l E D cA mX5_leastFreeStart (d + 4) fin 31 [some (.ref 0), some (.ref s), some (.int (nI t)), some (.int (nI n)), some (.int (nI i))] [] ρ
      refine pw_aload_n dX5_leastFreeStart_31 rfl ?_
      refine ps_getr (r := 37) dX5_leastFreeStart_32 kf_X5_22 (by decide) (by decide +kernel) ?_
      refine pw_iload_n dX5_leastFreeStart_35 rfl ?_
      refine ps_callV (b := 37) (As := [.int (nI t)]) (st := []) dX5_leastFreeStart_36 cv_X5_202 rfl ⟨by decide, by decide +kernel⟩ (Nat.le_of_ble_eq_true rfl) (Nat.le_of_ble_eq_true rfl) ?_
      refine c_teamsMetBy wfb hna2 p1 ht ?_
      have ml := msk_lt (p := metp (up1 a (36 + 12 * t) i) n t) (n := n)
      have ml2 : msk (metp (up1 a (36 + 12 * t) i) n t) n < 64 := Nat.lt_of_lt_of_le ml (Nat.pow_le_pow_right (by decide) (show n ≤ 6 by have := hw.t6; omega))
      have hz : ∀ q, q < 64 → (nI q = 0 ↔ q = 0) := by decide
      refine pw_if_ne (tgt := 45) dX5_leastFreeStart_39 (by decide) (fun h1 => ?_) (fun h1 => ?_)
      · refine px_iincn (n := 1) (a := i) (b := i + 1) (ls' := [some (.ref 0), some (.ref s), some (.int (nI t)), some (.int (nI n)), some (.int (nI (i + 1)))]) dX5_leastFreeStart_45 rfl rfl rfl (by omega) ?_
        refine pw_goto (tgt := 3) dX5_leastFreeStart_48 (by decide) ?_
        refine ih ρ ⟨fr, fun j hj => ?_, fun _ => ⟨i, by omega, hrs2⟩⟩
        rcases Nat.lt_or_eq_of_le (Nat.le_of_lt_succ hj) with g | rfl
        · exact k2 j g
        · intro q
          exact h1 ((hz _ ml2).mpr (by simpa using q))
      · refine pw_iload dX5_leastFreeStart_42 rfl ?_
        have hS : lfs a n t = some i := fstN_some.mpr ⟨hi, by simpa using (hz _ ml2).mp h1, k2⟩
        rw [hS] at hf
        exact ps_iret dX5_leastFreeStart_44 rfl (rfl) (hf ρ ⟨i, by omega, hrs2⟩ fr)
  exact lp 0 (by decide) μ ⟨fun _ _ _ _ => rfl, fun j hj => absurd hj (Nat.not_lt_zero _), fun h => absurd rfl h⟩
set_option maxRecDepth 100000 in
set_option maxHeartbeats 4000000 in
theorem x_part {c : CS} (hw : CW c) (hx : CX μ c) (hf : ∀ ν : Mu, CX ν (o_part c).2 → SM ν μ → fin (some (.int (o_part c).1)) ν) : PS l E D cA mX5_part (d + 5) fin 0 [some (.ref 0), none, none, none] [] μ := by
  have hq := hx
  have t6' := hw.1.t6
  refine pw_aload_n dX5_part_0 rfl ?_
  refine ps_getr (r := 79) dX5_part_1 kf_X5_36 (by decide) (by decide +kernel) ?_
  refine pw_aload_n dX5_part_4 rfl ?_
  refine ps_getr (r := 1) dX5_part_5 kf_X5_10 (by decide) (by decide +kernel) ?_
  refine ps_callV (b := 79) (As := [.ref 1]) (st := []) dX5_part_8 cv_X5_60 rfl ⟨by decide, by decide +kernel⟩ (Nat.le_of_ble_eq_true rfl) (Nat.le_of_ble_eq_true rfl) ?_
  refine c_record hw.1.t6 (fun j hj => (hw.2.1 j hj).t6) hx.1 hx.2.1 ?_
  intro ν hR ν9
  have hz := hx.rec hw hR ν9
  have hwz := hw.rec
  have hS : SM ν μ := fun q k g => ν9 q k (by omega) (by omega)
  show PS l E D cA mX5_part (d + 5) fin 11 [some (.ref 0), none, none, none] [] ν
  refine pw_iconst_ (v := nI 0) dX5_part_11 (by decide) ?_
  refine px_istore_n (ls' := [some (.ref 0), some (.int (nI 0)), none, none]) dX5_part_12 rfl rfl (by decide) ?_
  have lp : ∀ i : Nat, i ≤ na c 3 → ∀ la lb : Option Value, ∀ κ : Mu, ((∀ q k, ¬ (37 ≤ q ∧ q < 77) → ¬ (1 ≤ q ∧ q < 19) → κ q k = ν q k) ∧ RS κ 1 (pst (na c) i)) → PS l E D cA mX5_part (d + 5) fin 13 [some (.ref 0), some (.int (nI i)), la, lb] [] κ := by
    refine ps_for (na c 3) ?_ ?_
    · rintro la lb κ ⟨k1, k2⟩
      refine pw_iload_n dX5_part_13 rfl ?_
      refine pw_aload_n dX5_part_14 rfl ?_
      refine ps_getr (r := 1) dX5_part_15 kf_X5_10 (by decide) (by decide +kernel) ?_
      refine ps_geti (x := nI (na c 3)) dX5_part_18 kf_X5_98 (by decide) (by decide +kernel) (k2.2.1.trans (by rw [pst_3])) ?_
      refine pn_ge (tgt := 79) dX5_part_21 (by decide) (by omega) (by omega) (fun _ => ?_) (fun h9 => absurd h9 (by omega))
      refine pw_aload_n dX5_part_79 rfl ?_
      have wfb := wf_pst hw.1 (na c 3) (Nat.le_refl _)
      refine ps_callV (b := 0) (As := []) (st := []) dX5_part_80 cv_X5_159 rfl ⟨by decide, by decide +kernel⟩ (Nat.le_of_ble_eq_true rfl) (Nat.le_of_ble_eq_true rfl) ?_
      refine c_playNow wfb k2 ?_
      intro ρ p1 p2 p3
      rw [pst_3] at p1
      show PS l E D cA mX5_part (d + 5) fin 83 [some (.ref 0), some (.int (nI (na c 3))), la, lb] [] ρ
      refine pw_aload_n dX5_part_83 rfl ?_
      refine ps_getr (r := 37) dX5_part_84 kf_X5_22 (by decide) (by decide +kernel) ?_
      refine ps_callV (b := 37) (As := []) (st := []) dX5_part_87 cv_X5_162 rfl ⟨by decide, by decide +kernel⟩ (Nat.le_of_ble_eq_true rfl) (Nat.le_of_ble_eq_true rfl) ?_
      refine c_pairs wfb (by rw [pst_3]; exact Nat.le_refl _) p1 ?_
      have hx2 : CX κ (cnow (crec c) (pst (na c) (na c 3))) := hz.put hwz k2 (fun q k g => k1 q k (by omega) (by omega))
      exact ps_iret dX5_part_90 rfl (rfl) (hf ρ (hx2.off (hwz.now wfb) (fun q k g1 g2 => p3 q k (by omega))) (SM.tr (fun q k g => (p3 q k (by omega)).trans (k1 q k (by omega) (by omega))) hS))
    · rintro i hi ih la lb κ ⟨k1, k2⟩
      have wfb := wf_pst hw.1 i (Nat.le_of_lt hi)
      have h3 : i < pst (na c) i 3 := by rw [pst_3]; exact hi
      have i6 : i < 6 := by omega
      refine pw_iload_n dX5_part_13 rfl ?_
      refine pw_aload_n dX5_part_14 rfl ?_
      refine ps_getr (r := 1) dX5_part_15 kf_X5_10 (by decide) (by decide +kernel) ?_
      refine ps_geti (x := nI (na c 3)) dX5_part_18 kf_X5_98 (by decide) (by decide +kernel) (k2.2.1.trans (by rw [pst_3])) ?_
      refine pn_ge (tgt := 79) dX5_part_21 (by decide) (by omega) (by omega) (fun h9 => absurd h9 (by omega)) (fun _ => ?_)
      refine pw_aload_n dX5_part_24 rfl ?_
      refine ps_getr (r := 1) dX5_part_25 kf_X5_10 (by decide) (by decide +kernel) ?_
      refine ps_getr (r := 6) dX5_part_28 kf_X5_102 (by decide) (by decide +kernel) ?_
      refine pw_iload_n dX5_part_31 rfl ?_
      refine ps_aald (t := 5) (j := i) (r := 7 + 2 * i) dX5_part_32 rfl (ok_T (by unfold isS; decide : isS 1) (by omega)).1 (by decide) ?_
      refine ps_geti (x := nI (pst (na c) i (36 + 12 * i))) dX5_part_33 kf_X5_110 (by decide) ((ok_T (by unfold isS; decide : isS 1) (by omega)).2.2.2.1) (k2.2.2.2.2 i h3).2.1 ?_
      refine px_istore_n (ls' := [some (.ref 0), some (.int (nI i)), some (.int (nI (pst (na c) i (36 + 12 * i)))), lb]) dX5_part_36 rfl rfl (by decide) ?_
      refine pw_aload_n dX5_part_37 rfl ?_
      refine pw_aload_n dX5_part_38 rfl ?_
      refine ps_getr (r := 1) dX5_part_39 kf_X5_10 (by decide) (by decide +kernel) ?_
      refine pw_iload_n dX5_part_42 rfl ?_
      refine pw_iload_n dX5_part_43 rfl ?_
      refine pw_iconst_ (v := nI 1) dX5_part_44 (by decide) ?_
      refine px_iaddn (c := i + 1) dX5_part_45 (by omega) ?_
      refine ps_callV (b := 0) (As := [.ref 1, .int (nI i), .int (nI (i + 1))]) (st := []) dX5_part_46 cv_X5_155 rfl ⟨by decide, by decide +kernel⟩ (Nat.le_of_ble_eq_true rfl) (Nat.le_of_ble_eq_true rfl) ?_
      refine c_leastFreeStart (s := 1) (n := i + 1) isS_1 wfb h3 (Nat.lt_succ_self _) k2 ?_
      rintro ρ ⟨m, hm, p1⟩ p2
      have wfm : Wf (up1 (pst (na c) i) (36 + 12 * i) m) := wf_team wfb h3 (Or.inl ⟨hm, rfl⟩)
      have fr : ∀ x : Int32, ∀ q k, ¬ (37 ≤ q ∧ q < 77) → ¬ (1 ≤ q ∧ q < 19) → u2 ρ (7 + 2 * i) 2 x q k = ν q k := fun x q k g1 g2 => by
        rw [u2_a (by omega), p2 q k g1 (by omega)]
        exact k1 q k g1 g2
      have ok : ∀ n, RS (u2 ρ (7 + 2 * i) 2 (nI n)) 1 (up1 (pst (na c) i) (36 + 12 * i) n) := fun n => by
        have := RS.start (v := n) i6 wfm p1
        rw [up1_up1] at this
        rw [show 1 + 6 + 2 * i = 7 + 2 * i by omega] at this
        exact this
      cases hl : lfs (pst (na c) i) (i + 1) i with
      | none =>
        show PS l E D cA mX5_part (d + 5) fin 49 [some (.ref 0), some (.int (nI i)), some (.int (nI (pst (na c) i (36 + 12 * i)))), lb] [.int (-100006)] ρ
        refine px_istore_n (ls' := [some (.ref 0), some (.int (nI i)), some (.int (nI (pst (na c) i (36 + 12 * i)))), some (.int (-100006))]) dX5_part_49 rfl rfl (by decide) ?_
        refine pw_aload_n dX5_part_50 rfl ?_
        refine ps_getr (r := 1) dX5_part_51 kf_X5_10 (by decide) (by decide +kernel) ?_
        refine ps_getr (r := 6) dX5_part_54 kf_X5_102 (by decide) (by decide +kernel) ?_
        refine pw_iload_n dX5_part_57 rfl ?_
        refine ps_aald (t := 5) (j := i) (r := 7 + 2 * i) dX5_part_58 rfl (ok_T (by unfold isS; decide : isS 1) (by omega)).1 (by decide) ?_
        refine pw_iload_n dX5_part_59 rfl ?_
        refine pw_ldc dX5_part_60 kc_X5_96 ?_
        refine pw_icmp_ne (tgt := 69) dX5_part_62 (by decide) (fun h9 => absurd h9 (fun h => h rfl)) (fun _ => ?_)
        refine pw_iload_n dX5_part_65 rfl ?_
        refine pw_goto (tgt := 70) dX5_part_66 (by decide) ?_
        refine ps_puti dX5_part_70 kf_X5_110 (by decide) rfl ((ok_T (by unfold isS; decide : isS 1) (by omega)).2.2.2.1) ?_
        refine px_iincn (n := 1) (a := i) (b := i + 1) (ls' := [some (.ref 0), some (.int (nI (i + 1))), some (.int (nI (pst (na c) i (36 + 12 * i)))), some (.int (-100006))]) dX5_part_73 rfl rfl rfl (by omega) ?_
        refine pw_goto (tgt := 13) dX5_part_76 (by decide) ?_
        refine ih _ _ _ ⟨fr _, ?_⟩
        have := ok (pst (na c) i (36 + 12 * i))
        show RS _ 1 (up1 (pst (na c) i) (36 + 12 * i) (match lfs (pst (na c) i) (i + 1) i with | some m => m | none => pst (na c) i (36 + 12 * i)))
        rw [hl]
        exact this
      | some n =>
        have hne : ∀ q, q < 201 → nI q ≠ -100006 := by decide
        have hn2 := lfs_le hl
        show PS l E D cA mX5_part (d + 5) fin 49 [some (.ref 0), some (.int (nI i)), some (.int (nI (pst (na c) i (36 + 12 * i)))), lb] [.int (nI n)] ρ
        refine px_istore_n (ls' := [some (.ref 0), some (.int (nI i)), some (.int (nI (pst (na c) i (36 + 12 * i)))), some (.int (nI n))]) dX5_part_49 rfl rfl (by decide) ?_
        refine pw_aload_n dX5_part_50 rfl ?_
        refine ps_getr (r := 1) dX5_part_51 kf_X5_10 (by decide) (by decide +kernel) ?_
        refine ps_getr (r := 6) dX5_part_54 kf_X5_102 (by decide) (by decide +kernel) ?_
        refine pw_iload_n dX5_part_57 rfl ?_
        refine ps_aald (t := 5) (j := i) (r := 7 + 2 * i) dX5_part_58 rfl (ok_T (by unfold isS; decide : isS 1) (by omega)).1 (by decide) ?_
        refine pw_iload_n dX5_part_59 rfl ?_
        refine pw_ldc dX5_part_60 kc_X5_96 ?_
        refine pw_icmp_ne (tgt := 69) dX5_part_62 (by decide) (fun _ => ?_) (fun h9 => absurd h9 (hne n (by omega)))
        refine pw_iload_n dX5_part_69 rfl ?_
        refine ps_puti dX5_part_70 kf_X5_110 (by decide) rfl ((ok_T (by unfold isS; decide : isS 1) (by omega)).2.2.2.1) ?_
        refine px_iincn (n := 1) (a := i) (b := i + 1) (ls' := [some (.ref 0), some (.int (nI (i + 1))), some (.int (nI (pst (na c) i (36 + 12 * i)))), some (.int (nI n))]) dX5_part_73 rfl rfl rfl (by omega) ?_
        refine pw_goto (tgt := 13) dX5_part_76 (by decide) ?_
        refine ih _ _ _ ⟨fr _, ?_⟩
        have := ok (n)
        show RS _ 1 (up1 (pst (na c) i) (36 + 12 * i) (match lfs (pst (na c) i) (i + 1) i with | some m => m | none => pst (na c) i (36 + 12 * i)))
        rw [hl]
        exact this
  exact lp 0 (Nat.zero_le _) _ _ ν ⟨fun _ _ _ _ => rfl, hz.1⟩
set_option maxRecDepth 100000 in
set_option maxHeartbeats 4000000 in
theorem x_freeStart {c : CS} (hw : CW c) (hx : CX μ c) {v : Int32} (hf : ∀ ν : Mu, CX ν (o_freeStart c v).2 → SM ν μ → fin (some (.int (o_freeStart c v).1)) ν) : PS l E D cA mX5_freeStart (d + 5) fin 0 [some (.ref 0), some (.int v)] [] μ := by
  have hq := hx
  refine pw_aload_n dX5_freeStart_0 rfl ?_
  refine pw_iload_n dX5_freeStart_1 rfl ?_
  refine ps_callV (b := 0) (As := [.int v]) (st := []) dX5_freeStart_2 cv_X5_121 rfl ⟨by decide, by decide +kernel⟩ (Nat.le_of_ble_eq_true rfl) (Nat.le_of_ble_eq_true rfl) ?_
  refine c_isTeam hx.1.2.1 ?_
  refine pw_if_ne (tgt := 11) dX5_freeStart_5 (by decide) (fun h9 => ?_) (fun h9 => ?_)
  · have h1 := kb_ne0.mp h9
    obtain ⟨t, ht, rfl⟩ := (rg_nat (by have := hw.1.t6; omega)).mp h1
    have t6 : t < 6 := Nat.lt_of_lt_of_le ht hw.1.t6
    have htn : iN (nI t) = t := iN_nI (by omega)
    refine pw_aload_n dX5_freeStart_11 rfl ?_
    refine ps_getr (r := 19) dX5_freeStart_12 kf_X5_16 (by decide) (by decide +kernel) ?_
    refine pw_aload_n dX5_freeStart_15 rfl ?_
    refine ps_getr (r := 1) dX5_freeStart_16 kf_X5_10 (by decide) (by decide +kernel) ?_
    refine ps_callV (b := 19) (As := [.ref 1]) (st := []) dX5_freeStart_19 cv_X5_241 rfl ⟨by decide, by decide +kernel⟩ (Nat.le_of_ble_eq_true rfl) (Nat.le_of_ble_eq_true rfl) ?_
    refine c_S_copyFrom (s := 19) (o := 1) isS_19 isS_1 (by decide) ?_
    intro ν hν
    have hrs : RS ν 19 (na c) := hν.RS hw.1.t6 hx.1
    have hxν : CX ν c := hx.off hw (fun q k g1 g2 => hν.1 q k (by omega))
    show PS l E D cA mX5_freeStart (d + 5) fin 22 [some (.ref 0), some (.int (nI t))] [] ν
    refine pw_aload_n dX5_freeStart_22 rfl ?_
    refine pw_aload_n dX5_freeStart_23 rfl ?_
    refine ps_getr (r := 19) dX5_freeStart_24 kf_X5_16 (by decide) (by decide +kernel) ?_
    refine pw_iload_n dX5_freeStart_27 rfl ?_
    refine pw_aload_n dX5_freeStart_28 rfl ?_
    refine ps_getr (r := 19) dX5_freeStart_29 kf_X5_16 (by decide) (by decide +kernel) ?_
    refine ps_geti (x := nI (na c 3)) dX5_freeStart_32 kf_X5_98 (by decide) (by decide +kernel) (hrs.2.1) ?_
    refine ps_callV (b := 0) (As := [.ref 19, .int (nI t), .int (nI (na c 3))]) (st := []) dX5_freeStart_35 cv_X5_155 rfl ⟨by decide, by decide +kernel⟩ (Nat.le_of_ble_eq_true rfl) (Nat.le_of_ble_eq_true rfl) ?_
    refine c_leastFreeStart (s := 19) isS_19 hw.1 (Nat.le_refl _) ht hrs ?_
    rintro κ - p2
    have e9 : o_freeStart c (nI t) = (eF (lfs (na c) (na c 3) t), c) := by
      unfold o_freeStart
      rw [if_pos h1, htn]
    rw [e9] at hf
    exact ps_iret dX5_freeStart_38 rfl (rfl) (hf κ (hxν.off hw (fun q k g1 g2 => p2 q k (by omega) (by omega))) (fun q k g => (p2 q k (by omega) (by omega)).trans (hν.1 q k (by omega))))
  · have h1 := kb_eq0.mp h9
    refine pw_ldc dX5_freeStart_8 kc_X5_71 ?_
    have e9 : o_freeStart c v = ((-100001), c) := by
      unfold o_freeStart
      rw [if_neg h1]
    rw [e9] at hf
    exact ps_iret dX5_freeStart_10 rfl (rfl) (hf _ hx SM.rfl)
end LEAST
