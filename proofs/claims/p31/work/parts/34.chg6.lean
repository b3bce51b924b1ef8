/-! changes: leave, put, wipe; fault -/
/-- team t leaves -/
def lv (a : AS) (t : Nat) : AS := fun j => if j = 3 then a 3 - 1 else if 36 + 12 * t ≤ j ∧ j < 24 + 12 * a 3 then a (j + 12) else if 24 + 12 * a 3 ≤ j ∧ j < 36 + 12 * a 3 then 0 else a j
theorem lv_3 {a : AS} {t : Nat} : lv a t 3 = a 3 - 1 := if_pos rfl
theorem lv_n {a : AS} {t j : Nat} (ht : t < a 3) (h3 : j ≠ 3) (h : j < 36 + 12 * t) : lv a t j = a j := by
  unfold lv
  rw [if_neg h3, if_neg (by omega), if_neg (by omega)]
theorem lv_s {a : AS} {t j : Nat} (h : 36 + 12 * t ≤ j) (h2 : j < 24 + 12 * a 3) : lv a t j = a (j + 12) := by
  unfold lv
  rw [if_neg (by omega), if_pos (by omega)]
theorem wf_lv {a : AS} {t : Nat} (hw : Wf a) (ht : t < a 3) : Wf (lv a t) := by
  refine ⟨by rw [lv_n ht (by omega) (by omega)]; exact hw.1, by rw [lv_n ht (by omega) (by omega)]; exact hw.2.1, by rw [lv_n ht (by omega) (by omega)]; exact hw.2.2.1, by rw [lv_3]; have := hw.t6; omega, fun p hp => by rw [lv_n ht (by omega) (by omega), lv_n ht (by omega) (by omega), lv_n ht (by omega) (by omega), lv_n ht (by omega) (by omega)]; exact hw.pl hp, fun u hu => ?_⟩
  rw [lv_3] at hu
  by_cases e : u < t
  · have q := hw.tm (show u < a 3 by omega)
    refine ⟨by rw [lv_n ht (by omega) (by omega)]; exact q.1, by rw [lv_n ht (by omega) (by omega)]; exact q.2.1, by rw [lv_n ht (by omega) (by omega)]; exact q.2.2.1, by rw [lv_n ht (by omega) (by omega)]; exact q.2.2.2.1, fun k hk => ?_⟩
    rw [lv_n ht (by omega) (by omega)] at hk
    rw [lv_n ht (by omega) (by have := q.2.2.2.1; omega)]
    exact q.2.2.2.2 k hk
  · have q := hw.tm (show u + 1 < a 3 by omega)
    rw [show 36 + 12 * (u + 1) = 36 + 12 * u + 12 by omega, show 37 + 12 * (u + 1) = 37 + 12 * u + 12 by omega, show 38 + 12 * (u + 1) = 38 + 12 * u + 12 by omega, show 39 + 12 * (u + 1) = 39 + 12 * u + 12 by omega] at q
    refine ⟨by rw [lv_s (by omega) (by omega)]; exact q.1, by rw [lv_s (by omega) (by omega)]; exact q.2.1, by rw [lv_s (by omega) (by omega)]; exact q.2.2.1, by rw [lv_s (by omega) (by omega)]; exact q.2.2.2.1, fun k hk => ?_⟩
    rw [lv_s (by omega) (by omega)] at hk
    rw [lv_s (by omega) (by have := q.2.2.2.1; omega)]
    have := q.2.2.2.2 k hk
    rw [show 40 + 12 * (u + 1) + k = 40 + 12 * u + k + 12 by omega] at this
    exact this
def o_leave (c : CS) (v : Int32) : Int32 × CS := if inT v (na c 3) then (nI (na c 3 - 1), cnow (crec c) (lv (na c) (iN v))) else (-100001, c)
def o_put (c : CS) (U : Nat) : Int32 × CS := if loU U = 0 then (-100002, c) else if pL c + loU U ≤ 20 then (nI (pL c + loU U), (na c, hH c, hN c, sS c, sV c, app (pD c) (pL c) U (loU U), pL c + loU U)) else (-100004, c)
def o_wipe (c : CS) : Int32 × CS := (nI (pL c), pad0 c)
def o_fault (c : CS) : Int32 × CS := (eF (ffp (pD c) (pL c)), c)
theorem loR_ok {U : Nat} : ∀ f i, (∀ j, j < i → okb (byt U j) = true) → loR U f i ≠ 0 → loR U f i ≤ i + f ∧ ∀ j, j < loR U f i → okb (byt U j) = true
  | 0, i, h, _ => ⟨Nat.le_refl _, h⟩
  | f + 1, i, h, hn => by
    simp only [loR] at hn ⊢
    split
    · exact ⟨by omega, h⟩
    · next h0 =>
      rw [if_neg h0] at hn
      split
      · next ho =>
        rw [if_pos ho] at hn
        have := loR_ok f (i + 1) (fun j hj => by
          rcases Nat.lt_or_eq_of_le (Nat.le_of_lt_succ hj) with g | g
          · exact h j g
          · rw [g]; exact ho) hn
        exact ⟨by omega, this.2⟩
      · exact ⟨Nat.zero_le _, fun j hj => absurd hj (Nat.not_lt_zero _)⟩
section CHGF
variable {l : Launch} {E : EY} {D : va_G} {cA : Nat → ClassId} {fin : Option Value → Mu → Prop} {μ : Mu} {d : Nat}
set_option maxRecDepth 100000 in
set_option maxHeartbeats 4000000 in
theorem x_leave {c : CS} (hw : CW c) (hx : CX μ c) {v : Int32} (hf : ∀ ν : Mu, CX ν (o_leave c v).2 → SM ν μ → fin (some (.int (o_leave c v).1)) ν) : PS l E D cA mX5_leave (d + 4) fin 0 [some (.ref 0), some (.int v), none] [] μ := by
  have hq := hx
  refine pw_aload_n dX5_leave_0 rfl ?_
  refine pw_iload_n dX5_leave_1 rfl ?_
  refine ps_callV (b := 0) (As := [.int v]) (st := []) dX5_leave_2 cv_X5_121 rfl ⟨by decide, by decide +kernel⟩ (Nat.le_of_ble_eq_true rfl) (Nat.le_of_ble_eq_true rfl) ?_
  refine c_isTeam hx.1.2.1 ?_
  refine pw_if_ne (tgt := 11) dX5_leave_5 (by decide) (fun h9 => ?_) (fun h9 => ?_)
  · have h1 := kb_ne0.mp h9
    obtain ⟨t, ht, rfl⟩ := (rg_nat (by have := hw.1.t6; omega)).mp h1
    have t6 : t < 6 := Nat.lt_of_lt_of_le ht hw.1.t6
    have htn : iN (nI t) = t := iN_nI (by omega)
    refine pw_aload_n dX5_leave_11 rfl ?_
    refine ps_getr (r := 79) dX5_leave_12 kf_X5_36 (by decide) (by decide +kernel) ?_
    refine pw_aload_n dX5_leave_15 rfl ?_
    refine ps_getr (r := 1) dX5_leave_16 kf_X5_10 (by decide) (by decide +kernel) ?_
    refine ps_callV (b := 79) (As := [.ref 1]) (st := []) dX5_leave_19 cv_X5_60 rfl ⟨by decide, by decide +kernel⟩ (Nat.le_of_ble_eq_true rfl) (Nat.le_of_ble_eq_true rfl) ?_
    refine c_record hw.1.t6 (fun j hj => (hw.2.1 j hj).t6) hx.1 hx.2.1 ?_
    intro ν hR ν9
    have hz := hx.rec hw hR ν9
    have hwz := hw.rec
    have hS : SM ν μ := fun q k g => ν9 q k (by omega) (by omega)
    show PS l E D cA mX5_leave (d + 4) fin 22 [some (.ref 0), some (.int (nI t)), none] [] ν
    refine pw_aload_n dX5_leave_22 rfl ?_
    refine ps_getr (r := 1) dX5_leave_23 kf_X5_10 (by decide) (by decide +kernel) ?_
    refine pw_aload_n dX5_leave_26 rfl ?_
    refine ps_getr (r := 1) dX5_leave_27 kf_X5_10 (by decide) (by decide +kernel) ?_
    refine ps_geti (x := nI (na c 3)) dX5_leave_30 kf_X5_98 (by decide) (by decide +kernel) (hz.1.2.1) ?_
    refine pw_iconst_ (v := nI 1) dX5_leave_33 (by decide) ?_
    have t6' := hw.1.t6
    obtain ⟨n, hn⟩ : ∃ n, na c 3 = n + 1 := ⟨na c 3 - 1, by omega⟩
    refine pn_isub (by omega) dX5_leave_34 ?_
    rw [show na c 3 - 1 = n by omega]
    refine ps_puti dX5_leave_35 kf_X5_98 (by decide) rfl (by decide +kernel) ?_
    refine pw_iload_n dX5_leave_38 rfl ?_
    refine px_istore_n (ls' := [some (.ref 0), some (.int (nI t)), some (.int (nI t))]) dX5_leave_39 rfl rfl (by decide) ?_
    have lp : ∀ i : Nat, i ≤ n → t ≤ i → ∀ κ : Mu, ((∀ q k, ¬ (7 + 2 * t ≤ q ∧ q < 7 + 2 * i) → κ q k = u2 ν 1 6 (nI n) q k) ∧ ∀ u, t ≤ u → u < i → (∀ k, 1 ≤ k → k < 5 → κ (7 + 2 * u) k = ν (9 + 2 * u) k) ∧ ∀ k, κ (8 + 2 * u) k = ν (10 + 2 * u) k) → PS l E D cA mX5_leave (d + 4) fin 40 [some (.ref 0), some (.int (nI t)), some (.int (nI i))] [] κ := by
      refine ps_for n ?_ ?_
      · rintro hti κ ⟨k1, k2⟩
        refine pw_iload_n dX5_leave_40 rfl ?_
        refine pw_aload_n dX5_leave_41 rfl ?_
        refine ps_getr (r := 1) dX5_leave_42 kf_X5_10 (by decide) (by decide +kernel) ?_
        refine ps_geti (x := nI n) dX5_leave_45 kf_X5_98 (by decide) (by decide +kernel) ((k1 1 6 (by omega)).trans u2_s) ?_
        refine pn_ge (tgt := 80) dX5_leave_48 (by decide) (by omega) (by omega) (fun _ => ?_) (fun h9 => absurd h9 (by omega))
        refine pw_aload_n dX5_leave_80 rfl ?_
        refine ps_getr (r := 1) dX5_leave_81 kf_X5_10 (by decide) (by decide +kernel) ?_
        refine ps_geti (x := nI n) dX5_leave_84 kf_X5_98 (by decide) (by decide +kernel) ((k1 1 6 (by omega)).trans u2_s) ?_
        have e9 : o_leave c (nI t) = (nI n, cnow (crec c) (lv (na c) t)) := by
          unfold o_leave
          rw [if_pos h1, htn, hn, Nat.add_sub_cancel]
        rw [e9] at hf
        have hO : ∀ q k, ¬ (7 + 2 * t ≤ q ∧ q < 7 + 2 * n) → (q ≠ 1 ∨ k ≠ 6) → κ q k = ν q k := fun q k a1 a2 => by
          rw [k1 q k a1]
          rcases a2 with a2 | a2
          · exact u2_a a2
          · exact u2_b a2
        have hrs : RS κ 1 (lv (na c) t) := by
          obtain ⟨g1, g2, g3, ⟨m, g4, g5, g6⟩, g7⟩ := hz.1
          refine ⟨fun j hj => ?_, ?_, fun p hp => ⟨?_, ?_, ?_⟩, ⟨m, g4, ?_, fun p hp => ?_⟩, fun u hu => ?_⟩
          · rw [hO _ _ (by omega) (by omega), lv_n ht (by omega) (by omega)]
            exact g1 j hj
          · rw [k1 _ _ (by omega), u2_s, lv_3, hn, Nat.add_sub_cancel]
          · rw [hO _ _ (by omega) (by omega), lv_n ht (by omega) (by omega)]
            exact (g3 p hp).1
          · rw [hO _ _ (by omega) (by omega), lv_n ht (by omega) (by omega)]
            exact (g3 p hp).2.1
          · rw [hO _ _ (by omega) (by omega), lv_n ht (by omega) (by omega)]
            exact (g3 p hp).2.2
          · rw [hO _ _ (by omega) (by omega)]
            exact g5
          · rw [lv_n ht (by omega) (by omega)]
            exact g6 p hp
          · rw [lv_3] at hu
            by_cases e : u < t
            · exact ((g7 u (by show u < na c 3; omega)).of (fun j _ _ => hO _ _ (by omega) (by omega)) (fun j => hO _ _ (by omega) (by omega))).ext (hw.1.tm (show u < na c 3 by omega)).2.2.2.1.2 (fun i _ _ => lv_n ht (by omega) (by omega))
            · obtain ⟨q1, q2, q3, q4, q5⟩ := g7 (u + 1) (by show u + 1 < na c 3; omega)
              have hl := (hw.1.tm (show u + 1 < na c 3 by omega)).2.2.2.1.2
              obtain ⟨c1, c2⟩ := k2 u (by omega) (by omega)
              rw [show 1 + 6 + 2 * (u + 1) = 9 + 2 * u by omega] at q1 q2 q3 q4
              rw [show 1 + 7 + 2 * (u + 1) = 10 + 2 * u by omega, show 39 + 12 * (u + 1) = 39 + 12 * u + 12 by omega] at q5
              rw [show 39 + 12 * (u + 1) = 39 + 12 * u + 12 by omega] at q1 hl
              rw [show 36 + 12 * (u + 1) = 36 + 12 * u + 12 by omega] at q2
              rw [show 37 + 12 * (u + 1) = 37 + 12 * u + 12 by omega] at q3
              rw [show 38 + 12 * (u + 1) = 38 + 12 * u + 12 by omega] at q4
              rw [show 1 + 6 + 2 * u = 7 + 2 * u by omega, show 1 + 7 + 2 * u = 8 + 2 * u by omega]
              refine ⟨by rw [lv_s (by omega) (by omega), c1 1 (by decide) (by decide)]; exact q1, by rw [lv_s (by omega) (by omega), c1 2 (by decide) (by decide)]; exact q2, by rw [lv_s (by omega) (by omega), c1 3 (by decide) (by decide)]; exact q3, by rw [lv_s (by omega) (by omega), c1 4 (by decide) (by decide)]; exact q4, fun k hk => ?_⟩
              rw [lv_s (by omega) (by omega)] at hk
              have hl : na c (39 + 12 * u + 12) ≤ 8 := hl
              have hk : k < na c (39 + 12 * u + 12) := hk
              rw [lv_s (by omega) (by omega), c2 k]
              have := q5 k hk
              rw [show 40 + 12 * (u + 1) + k = 40 + 12 * u + k + 12 by omega] at this
              exact this
        exact ps_iret dX5_leave_87 rfl (rfl) (hf κ (hz.put hwz hrs (fun q k g => (k1 q k (by omega)).trans (u2_a (by omega)))) (SM.tr (fun q k g => hO q k (by omega) (by omega)) hS))
      · rintro i hi ih hti κ ⟨k1, k2⟩
        refine pw_iload_n dX5_leave_40 rfl ?_
        refine pw_aload_n dX5_leave_41 rfl ?_
        refine ps_getr (r := 1) dX5_leave_42 kf_X5_10 (by decide) (by decide +kernel) ?_
        refine ps_geti (x := nI n) dX5_leave_45 kf_X5_98 (by decide) (by decide +kernel) ((k1 1 6 (by omega)).trans u2_s) ?_
        refine pn_ge (tgt := 80) dX5_leave_48 (by decide) (by omega) (by omega) (fun h9 => absurd h9 (by omega)) (fun _ => ?_)
        refine pw_aload_n dX5_leave_51 rfl ?_
        refine ps_getr (r := 1) dX5_leave_52 kf_X5_10 (by decide) (by decide +kernel) ?_
        refine ps_getr (r := 6) dX5_leave_55 kf_X5_102 (by decide) (by decide +kernel) ?_
        refine pw_iload_n dX5_leave_58 rfl ?_
        refine ps_aald (t := 5) (j := i) (r := 7 + 2 * i) dX5_leave_59 rfl (ok_T (by unfold isS; decide : isS 1) (by omega)).1 (by decide) ?_
        refine pw_aload_n dX5_leave_60 rfl ?_
        refine ps_getr (r := 1) dX5_leave_61 kf_X5_10 (by decide) (by decide +kernel) ?_
        refine ps_getr (r := 6) dX5_leave_64 kf_X5_102 (by decide) (by decide +kernel) ?_
        refine pw_iload_n dX5_leave_67 rfl ?_
        refine pw_iconst_ (v := nI 1) dX5_leave_68 (by decide) ?_
        refine px_iaddn (c := i + 1) dX5_leave_69 (by omega) ?_
        refine ps_aald (t := 5) (j := i + 1) (r := 7 + 2 * (i + 1)) dX5_leave_70 rfl (ok_T (by unfold isS; decide : isS 1) (by omega)).1 (by decide) ?_
        refine ps_callV (b := 7 + 2 * i) (As := [.ref (7 + 2 * (i + 1))]) (st := []) dX5_leave_71 cv_X5_128 rfl ⟨(okk_of (ok_T (by unfold isS; decide : isS 1) (by omega)).2.1).1, (okk_of (ok_T (by unfold isS; decide : isS 1) (by omega)).2.1).2.1⟩ (Nat.le_of_ble_eq_true rfl) (Nat.le_of_ble_eq_true rfl) ?_
        refine c_T_copyFrom (s := 1) (o := 1) (t := i) (t2 := i + 1) isS_1 (by omega) isS_1 (by omega) ?_
        intro ρ m1 m2 m3
        show PS l E D cA mX5_leave (d + 4) fin 74 [some (.ref 0), some (.int (nI t)), some (.int (nI i))] [] ρ
        refine px_iincn (n := 1) (a := i) (b := i + 1) (ls' := [some (.ref 0), some (.int (nI t)), some (.int (nI (i + 1)))]) dX5_leave_74 rfl rfl rfl (by omega) ?_
        refine pw_goto (tgt := 40) dX5_leave_77 (by decide) ?_
        refine ih (by omega) ρ ⟨fun q k hq => ?_, fun u a1 a2 => ?_⟩
        · rw [m1 q k (by omega) (by omega)]
          exact k1 q k (by omega)
        · rw [show 1 + 6 + 2 * i = 7 + 2 * i by omega] at m1 m2
          rw [show 1 + 7 + 2 * i = 8 + 2 * i by omega] at m1 m3
          rw [show 1 + 6 + 2 * (i + 1) = 9 + 2 * i by omega] at m2
          rw [show 1 + 7 + 2 * (i + 1) = 10 + 2 * i by omega] at m3
          rcases Nat.lt_or_eq_of_le (Nat.le_of_lt_succ a2) with h | rfl
          · obtain ⟨c1, c2⟩ := k2 u a1 h
            exact ⟨fun k b1 b2 => (m1 _ _ (by omega) (by omega)).trans (c1 k b1 b2), fun k => (m1 _ _ (by omega) (by omega)).trans (c2 k)⟩
          · exact ⟨fun k b1 b2 => (m2 k b1 b2).trans ((k1 _ _ (by omega)).trans (u2_a (by omega))), fun k => (m3 k).trans ((k1 _ _ (by omega)).trans (u2_a (by omega)))⟩
    exact lp t (by omega) (Nat.le_refl _) _ ⟨fun q k _ => rfl, fun u a1 a2 => absurd a2 (by omega)⟩
  · have h1 := kb_eq0.mp h9
    refine pw_ldc dX5_leave_8 kc_X5_71 ?_
    have e9 : o_leave c v = ((-100001), c) := by
      unfold o_leave
      rw [if_neg h1]
    rw [e9] at hf
    exact ps_iret dX5_leave_10 rfl (rfl) (hf _ hx SM.rfl)
set_option maxRecDepth 100000 in
set_option maxHeartbeats 4000000 in
theorem x_put {c : CS} (hw : CW c) (hx : CX μ c) {U : Nat} (hU : U < 2 ^ 64) (hf : ∀ ν : Mu, CX ν (o_put c U).2 → SM ν μ → fin (some (.int (o_put c U).1)) ν) : PS l E D cA mX5_put (d + 4) fin 0 [some (.ref 0), some (.long (lN U)), none, none] [] μ := by
  refine pw_lload_n dX5_put_0 rfl ?_
  refine ps_callS (As := [.long (lN U)]) (st := []) dX5_put_1 cs_X5_251 rfl (Nat.le_of_ble_eq_true rfl) (Nat.le_of_ble_eq_true rfl) ?_
  refine c_lengthOf hU ?_
  have hk := loR_ok (U := U) 8 0 (fun j hj => absurd hj (Nat.not_lt_zero _))
  have l8 : loU U ≤ 8 := by
    by_cases h : loU U = 0
    · omega
    · have : loU U ≤ 0 + 8 := (hk h).1
      omega
  have hz0 : ∀ n, n ≤ 8 → (nI n = 0 ↔ n = 0) := by decide
  have hp := hx.2.2.2.2
  have hp20 := hw.2.2.2.2
  refine px_istore_n (ls' := [some (.ref 0), some (.long (lN U)), none, some (.int (nI (loU U)))]) dX5_put_4 rfl rfl (by decide) ?_
  refine pw_iload_n dX5_put_5 rfl ?_
  refine pw_if_ne (tgt := 12) dX5_put_6 (by decide) (fun h1 => ?_) (fun h1 => ?_)
  · have n0 : loU U ≠ 0 := fun q => h1 ((hz0 _ l8).mpr q)
    refine pw_aload_n dX5_put_12 rfl ?_
    refine ps_getr (r := 77) dX5_put_13 kf_X5_29 (by decide) (by decide +kernel) ?_
    refine ps_geti (x := nI (pL c)) dX5_put_16 kf_X5_239 (by decide) (by decide +kernel) (hp.1) ?_
    refine pw_iload_n dX5_put_19 rfl ?_
    refine px_iaddn (c := pL c + (loU U)) dX5_put_20 (by omega) ?_
    refine pw_bipush (v := nI 20) dX5_put_21 (by decide) ?_
    refine pn_le (tgt := 29) dX5_put_23 (by decide) (by omega) (by omega) (fun h2 => ?_) (fun h2 => ?_)
    · refine pw_aload_n dX5_put_29 rfl ?_
      refine ps_getr (r := 77) dX5_put_30 kf_X5_29 (by decide) (by decide +kernel) ?_
      refine pw_lload_n dX5_put_33 rfl ?_
      refine pw_iload_n dX5_put_34 rfl ?_
      refine ps_callV (b := 77) (As := [.long (lN U), .int (nI (loU U))]) (st := []) dX5_put_35 cv_X5_255 rfl ⟨by decide, by decide +kernel⟩ (Nat.le_of_ble_eq_true rfl) (Nat.le_of_ble_eq_true rfl) ?_
      refine c_append hU hp (by omega) l8 (by omega) (hk n0).2 ?_
      intro ν k1 k2
      show PS l E D cA mX5_put (d + 4) fin 38 [some (.ref 0), some (.long (lN U)), none, some (.int (nI (loU U)))] [] ν
      refine pw_aload_n dX5_put_38 rfl ?_
      refine ps_getr (r := 77) dX5_put_39 kf_X5_29 (by decide) (by decide +kernel) ?_
      refine ps_geti (x := nI (pL c + loU U)) dX5_put_42 kf_X5_239 (by decide) (by decide +kernel) (k1.1) ?_
      have e9 : o_put c U = (nI (pL c + loU U), (na c, hH c, hN c, sS c, sV c, app (pD c) (pL c) U (loU U), pL c + loU U)) := by
        unfold o_put
        rw [if_neg n0, if_pos (by omega)]
      rw [e9] at hf
      exact ps_iret dX5_put_45 rfl (rfl) (hf ν ⟨RS.same hw.1.t6 (fun i k g1 g2 => k2 i k (by omega) (by omega)) hx.1, hx.2.1.off (fun j hj => (hw.2.1 j hj).t6) (fun q k g => k2 q k (by omega) (by omega)), fun j hj => (k2 _ _ (by decide) (by decide)).trans (hx.2.2.1 j hj), fun j hj e => RS.same ((hw.2.2.1 j hj).2 e).t6 (fun i k g1 g2 => k2 i k (by omega) (by omega)) (hx.2.2.2.1 j hj e), k1⟩ (fun q k g => k2 q k (by omega) (by omega)))
    · refine pw_ldc dX5_put_26 kc_X5_101 ?_
      have e9 : o_put c U = ((-100004), c) := by
        unfold o_put
        rw [if_neg n0, if_neg (by omega)]
      rw [e9] at hf
      exact ps_iret dX5_put_28 rfl (rfl) (hf _ hx SM.rfl)
  · refine pw_ldc dX5_put_9 kc_X5_52 ?_
    have e9 : o_put c U = ((-100002), c) := by
      unfold o_put
      rw [if_pos ((hz0 _ l8).mp h1)]
    rw [e9] at hf
    exact ps_iret dX5_put_11 rfl (rfl) (hf _ hx SM.rfl)
set_option maxRecDepth 100000 in
set_option maxHeartbeats 4000000 in
theorem x_wipe {c : CS} (hw : CW c) (hx : CX μ c) (hf : ∀ ν : Mu, CX ν (o_wipe c).2 → SM ν μ → fin (some (.int (o_wipe c).1)) ν) : PS l E D cA mX5_wipe (d + 4) fin 0 [some (.ref 0), none] [] μ := by
  have hq := hx
  refine pw_aload_n dX5_wipe_0 rfl ?_
  refine ps_getr (r := 77) dX5_wipe_1 kf_X5_29 (by decide) (by decide +kernel) ?_
  refine ps_geti (x := nI (pL c)) dX5_wipe_4 kf_X5_239 (by decide) (by decide +kernel) (hx.2.2.2.2.1) ?_
  refine px_istore_n (ls' := [some (.ref 0), some (.int (nI (pL c)))]) dX5_wipe_7 rfl rfl (by decide) ?_
  refine pw_aload_n dX5_wipe_8 rfl ?_
  refine ps_getr (r := 77) dX5_wipe_9 kf_X5_29 (by decide) (by decide +kernel) ?_
  refine pw_iconst_ (v := nI 0) dX5_wipe_12 (by decide) ?_
  refine ps_puti dX5_wipe_13 kf_X5_239 (by decide) rfl (by decide +kernel) ?_
  refine pw_iload_n dX5_wipe_16 rfl ?_
  exact ps_iret dX5_wipe_17 rfl (rfl) (hf _ (CX.pad0 (μ := μ) (c := c) hw hx (RS.same hw.1.t6 (fun i k g1 g2 => u2_a (by omega)) hx.1) u2_s (fun q k g1 g2 g3 => by
      by_cases e : q = 77
      · exact u2_b (g3 e)
      · exact u2_a e)) (SM.rfl.up (by decide)))
end CHGF
