/-! changes: team, route, leave -/
theorem RS.tk {ν κ : Mu} {s t ln : Nat} {a : AS} {pd : Nat → Nat} (hw : Wf a) (ht : t < a 3) (h : RS ν s a) (hn : (ln + 1) / 2 ≤ 8) (k1 : κ (s + 6 + 2 * t) 1 = nI ((ln + 1) / 2)) (k2 : ∀ j, 2 ≤ j → κ (s + 6 + 2 * t) j = ν (s + 6 + 2 * t) j) (k3 : ∀ j, j < (ln + 1) / 2 → κ (s + 7 + 2 * t) j = nI (pd (2 * j) - 97)) (k4 : ∀ q j, q ≠ s + 6 + 2 * t → q ≠ s + 7 + 2 * t → s ≤ q → q < s + 18 → κ q j = ν q j) : RS κ s (tk a t pd ln) := by
  obtain ⟨g1, g2, g3, ⟨m, g4, g5, g6⟩, g7⟩ := h
  have t6 := hw.t6
  refine ⟨fun j hj => ?_, ?_, fun p hp => ⟨?_, ?_, ?_⟩, ⟨m, g4, ?_, fun p hp => ?_⟩, fun u hu => ?_⟩
  · rw [k4 _ _ (by omega) (by omega) (by omega) (by omega), tk_n (by omega)]
    exact g1 j hj
  · rw [k4 _ _ (by omega) (by omega) (by omega) (by omega), tk_n (by omega)]
    exact g2
  · rw [k4 _ _ (by omega) (by omega) (by omega) (by omega), tk_n (by omega)]
    exact (g3 p hp).1
  · rw [k4 _ _ (by omega) (by omega) (by omega) (by omega), tk_n (by omega)]
    exact (g3 p hp).2.1
  · rw [k4 _ _ (by omega) (by omega) (by omega) (by omega), tk_n (by omega)]
    exact (g3 p hp).2.2
  · rw [k4 _ _ (by omega) (by omega) (by omega) (by omega)]
    exact g5
  · rw [tk_n (by omega)]
    exact g6 p hp
  · rw [tk_n (by omega)] at hu
    have hl := (hw.tm hu).2.2.2.1.2
    by_cases e : u = t
    · subst e
      obtain ⟨q1, q2, q3, q4, q5⟩ := g7 u hu
      refine ⟨by rw [tk_m]; exact k1, by rw [k2 _ (by decide), tk_n (by omega)]; exact q2, by rw [k2 _ (by decide), tk_n (by omega)]; exact q3, by rw [k2 _ (by decide), tk_n (by omega)]; exact q4, fun k hk => ?_⟩
      rw [tk_m] at hk
      rw [tk_s (by omega), if_pos hk]
      exact k3 k hk
    · exact ((g7 u hu).of (fun k _ _ => k4 _ _ (by omega) (by omega) (by omega) (by omega)) (fun k => k4 _ _ (by omega) (by omega) (by omega) (by omega))).ext hl (fun i _ _ => tk_n (by omega))
theorem wf_tk {a : AS} {t ln : Nat} {pd : Nat → Nat} (hw : Wf a) (ht : t < a 3) (h : ffp pd ln = none) : Wf (tk a t pd ln) := by
  obtain ⟨-, ho, hn8, hpl⟩ := ffp_none h
  refine ⟨by rw [tk_n (by omega)]; exact hw.1, by rw [tk_n (by omega)]; exact hw.2.1, by rw [tk_n (by omega)]; exact hw.2.2.1, by rw [tk_n (by omega)]; exact hw.t6, fun p hp => by rw [tk_n (by omega), tk_n (by omega), tk_n (by omega), tk_n (by omega)]; exact hw.pl hp, fun u hu => ?_⟩
  rw [tk_n (by omega)] at hu
  have q := hw.tm hu
  by_cases e : u = t
  · subst e
    refine ⟨by rw [tk_n (by omega)]; exact q.1, by rw [tk_n (by omega)]; exact q.2.1, by rw [tk_n (by omega)]; exact q.2.2.1, by rw [tk_m]; omega, fun k hk => ?_⟩
    rw [tk_m] at hk
    rw [tk_s (by omega), if_pos hk]
    have := hpl k hk
    omega
  · refine ⟨by rw [tk_n (by omega)]; exact q.1, by rw [tk_n (by omega)]; exact q.2.1, by rw [tk_n (by omega)]; exact q.2.2.1, by rw [tk_n (by omega)]; exact q.2.2.2.1, fun k hk => ?_⟩
    rw [tk_n (by omega)] at hk
    rw [tk_n (by have := q.2.2.2.1; omega)]
    exact q.2.2.2.2 k hk
theorem newt_n {a : AS} {v ln j : Nat} {pd : Nat → Nat} (h3 : j ≠ 3) (h : j < 36 + 12 * a 3 ∨ 48 + 12 * a 3 ≤ j) : newt a v pd ln j = a j := by
  unfold newt
  rw [up1_n h3, up1_n (by omega), up1_n (by omega), up1_n (by omega), tk_n (by omega)]
theorem newt_3 {a : AS} {v ln : Nat} {pd : Nat → Nat} : newt a v pd ln 3 = a 3 + 1 := up1_s
theorem newt_start {a : AS} {v ln : Nat} {pd : Nat → Nat} : newt a v pd ln (36 + 12 * a 3) = v := by
  unfold newt
  rw [up1_n (by omega), up1_n (by omega), up1_n (by omega), up1_s]
theorem newt_hints {a : AS} {v ln : Nat} {pd : Nat → Nat} : newt a v pd ln (37 + 12 * a 3) = 0 := by
  unfold newt
  rw [up1_n (by omega), up1_n (by omega), up1_s]
theorem newt_lost {a : AS} {v ln : Nat} {pd : Nat → Nat} : newt a v pd ln (38 + 12 * a 3) = 0 := by
  unfold newt
  rw [up1_n (by omega), up1_s]
theorem newt_many {a : AS} {v ln : Nat} {pd : Nat → Nat} : newt a v pd ln (39 + 12 * a 3) = (ln + 1) / 2 := by
  unfold newt
  rw [up1_n (by omega), up1_n (by omega), up1_n (by omega), up1_n (by omega), tk_m]
theorem newt_route {a : AS} {v ln k : Nat} {pd : Nat → Nat} (hk : k < 8) : newt a v pd ln (40 + 12 * a 3 + k) = if k < (ln + 1) / 2 then pd (2 * k) - 97 else 0 := by
  unfold newt
  rw [up1_n (by omega), up1_n (by omega), up1_n (by omega), up1_n (by omega), tk_s hk]
theorem wf_newt {a : AS} {v ln : Nat} {pd : Nat → Nat} (hw : Wf a) (h6 : a 3 < 6) (hv : v ≤ 200) (h : ffp pd ln = none) : Wf (newt a v pd ln) := by
  obtain ⟨-, ho, hn8, hpl⟩ := ffp_none h
  refine ⟨by rw [newt_n (by omega) (by omega)]; exact hw.1, by rw [newt_n (by omega) (by omega)]; exact hw.2.1, by rw [newt_n (by omega) (by omega)]; exact hw.2.2.1, by rw [newt_3]; omega, fun p hp => by rw [newt_n (by omega) (by omega), newt_n (by omega) (by omega), newt_n (by omega) (by omega), newt_n (by omega) (by omega)]; exact hw.pl hp, fun u hu => ?_⟩
  rw [newt_3] at hu
  by_cases e : u = a 3
  · subst e
    rw [newt_start, newt_hints, newt_lost, newt_many]
    refine ⟨hv, by decide, by decide, by omega, fun k hk => ?_⟩
    rw [newt_route (by omega), if_pos hk]
    have := hpl k hk
    omega
  · have q := hw.tm (show u < a 3 by omega)
    refine ⟨by rw [newt_n (by omega) (by omega)]; exact q.1, by rw [newt_n (by omega) (by omega)]; exact q.2.1, by rw [newt_n (by omega) (by omega)]; exact q.2.2.1, by rw [newt_n (by omega) (by omega)]; exact q.2.2.2.1, fun k hk => ?_⟩
    rw [newt_n (by omega) (by omega)] at hk
    rw [newt_n (by omega) (by have := q.2.2.2.1; omega)]
    exact q.2.2.2.2 k hk
theorem CX.pad0 {μ ν κ : Mu} {c : CS} {b : AS} (hw : CW c) (hx : CX ν c) (hb : RS κ 1 b) (h0 : κ 77 1 = nI 0) (h : ∀ q k, 77 ≤ q → q < 227 → (q = 77 → k ≠ 1) → κ q k = ν q k) : CX κ (pad0 (cnow c b)) := by
  obtain ⟨g0, g1, g2, g3, g4⟩ := hx
  exact ⟨hb, g1.off (fun j hj => (hw.2.1 j hj).t6) (fun q k g => h q k (by omega) (by omega) (by omega)), fun j hj => (h _ _ (by decide) (by decide) (by omega)).trans (g2 j hj), fun j hj e => RS.same ((hw.2.2.1 j hj).2 e).t6 (fun i k e1 e2 => h i k (by omega) (by omega) (by omega)) (g3 j hj e), h0, Nat.zero_le _, fun k hk => absurd hk (Nat.not_lt_zero _)⟩
/-- the pad's first fault, where there is one -/
theorem pl_le {c : CS} (hw : CW c) : ∀ i, ffp (pD c) (pL c) = some i → i ≤ 20 := fun _ h => Nat.le_trans (ffp_le h) hw.2.2.2.2
section CHGE
variable {l : Launch} {E : EY} {D : va_G} {cA : Nat → ClassId} {fin : Option Value → Mu → Prop} {μ : Mu} {d : Nat}
set_option maxRecDepth 100000 in
set_option maxHeartbeats 4000000 in
theorem x_team {c : CS} (hw : CW c) (hx : CX μ c) {v : Int32} (hf : ∀ ν : Mu, CX ν (o_team c v).2 → SM ν μ → fin (some (.int (o_team c v).1)) ν) : PS l E D cA mX5_team (d + 4) fin 0 [some (.ref 0), some (.int v), none, none] [] μ := by
  have hq := hx
  refine pw_iload_n dX5_team_0 rfl ?_
  refine pw_iconst_ (v := nI 0) dX5_team_1 (by decide) ?_
  refine pw_sipush (v := nI 200) dX5_team_2 (by decide) ?_
  refine ps_callS (As := [.int v, .int (nI 0), .int (nI 200)]) (st := []) dX5_team_5 cs_X5_48 rfl (Nat.le_of_ble_eq_true rfl) (Nat.le_of_ble_eq_true rfl) ?_
  refine c_isFrom ?_
  refine pw_if_ne (tgt := 14) dX5_team_8 (by decide) (fun h9 => ?_) (fun h9 => ?_)
  · have h1 := kb_ne0.mp h9
    obtain ⟨k, hk, rfl⟩ := (rg_to (by decide)).mp h1
    have hkn : iN (nI k) = k := iN_nI (by omega)
    refine pw_aload_n dX5_team_14 rfl ?_
    refine ps_getr (r := 77) dX5_team_15 kf_X5_29 (by decide) (by decide +kernel) ?_
    refine ps_callV (b := 77) (As := []) (st := []) dX5_team_18 cv_X5_93 rfl ⟨by decide, by decide +kernel⟩ (Nat.le_of_ble_eq_true rfl) (Nat.le_of_ble_eq_true rfl) ?_
    refine c_firstFault hx.2.2.2.2 ?_
    refine pw_ldc dX5_team_21 kc_X5_96 ?_
    refine pw_icmp_eq (tgt := 29) dX5_team_23 (by decide) (fun h2 => ?_) (fun h2 => ?_)
    · have hff := (eF_none (pl_le hw)).mp h2
      have t6 := hw.1.t6
      refine pw_aload_n dX5_team_29 rfl ?_
      refine ps_getr (r := 1) dX5_team_30 kf_X5_10 (by decide) (by decide +kernel) ?_
      refine ps_geti (x := nI (na c 3)) dX5_team_33 kf_X5_98 (by decide) (by decide +kernel) (hx.1.2.1) ?_
      refine pw_bipush (v := nI 6) dX5_team_36 (by decide) ?_
      refine pn_lt (tgt := 44) dX5_team_38 (by decide) (by omega) (by omega) (fun h3 => ?_) (fun h3 => ?_)
      · refine pw_aload_n dX5_team_44 rfl ?_
        refine ps_getr (r := 79) dX5_team_45 kf_X5_36 (by decide) (by decide +kernel) ?_
        refine pw_aload_n dX5_team_48 rfl ?_
        refine ps_getr (r := 1) dX5_team_49 kf_X5_10 (by decide) (by decide +kernel) ?_
        refine ps_callV (b := 79) (As := [.ref 1]) (st := []) dX5_team_52 cv_X5_60 rfl ⟨by decide, by decide +kernel⟩ (Nat.le_of_ble_eq_true rfl) (Nat.le_of_ble_eq_true rfl) ?_
        refine c_record hw.1.t6 (fun j hj => (hw.2.1 j hj).t6) hx.1 hx.2.1 ?_
        intro ν hR ν9
        have hz := hx.rec hw hR ν9
        have hwz := hw.rec
        have hS : SM ν μ := fun q k g => ν9 q k (by omega) (by omega)
        show PS l E D cA mX5_team (d + 4) fin 55 [some (.ref 0), some (.int (nI k)), none, none] [] ν
        obtain ⟨t, ht⟩ : ∃ t, t = na c 3 := ⟨_, rfl⟩
        have htt : t < 6 := by omega
        refine pw_aload_n dX5_team_55 rfl ?_
        refine ps_getr (r := 1) dX5_team_56 kf_X5_10 (by decide) (by decide +kernel) ?_
        refine ps_geti (x := nI (na c 3)) dX5_team_59 kf_X5_98 (by decide) (by decide +kernel) (hz.1.2.1) ?_
        rw [← ht]
        refine px_istore_n (ls' := [some (.ref 0), some (.int (nI k)), some (.int (nI t)), none]) dX5_team_62 rfl rfl (by decide) ?_
        refine pw_aload_n dX5_team_63 rfl ?_
        refine ps_getr (r := 1) dX5_team_64 kf_X5_10 (by decide) (by decide +kernel) ?_
        refine ps_getr (r := 6) dX5_team_67 kf_X5_102 (by decide) (by decide +kernel) ?_
        refine pw_iload_n dX5_team_70 rfl ?_
        refine ps_aald (t := 5) (j := t) (r := 7 + 2 * t) dX5_team_71 rfl (ok_T (by unfold isS; decide : isS 1) (by omega)).1 (by decide) ?_
        refine px_astore_n (ls' := [some (.ref 0), some (.int (nI k)), some (.int (nI t)), some (.ref (7 + 2 * t))]) dX5_team_72 rfl rfl (by decide) ?_
        refine pw_aload_n dX5_team_73 rfl ?_
        refine ps_getr (r := 77) dX5_team_74 kf_X5_29 (by decide) (by decide +kernel) ?_
        refine pw_aload_n dX5_team_77 rfl ?_
        refine ps_callV (b := 77) (As := [.ref (7 + 2 * t)]) (st := []) dX5_team_78 cv_X5_106 rfl ⟨by decide, by decide +kernel⟩ (Nat.le_of_ble_eq_true rfl) (Nat.le_of_ble_eq_true rfl) ?_
        refine c_moveTo (s := 1) (t := t) isS_1 htt hz.2.2.2.2 hff ?_
        intro κ k0 k1 k2 k3 k4
        show PS l E D cA mX5_team (d + 4) fin 81 [some (.ref 0), some (.int (nI k)), some (.int (nI t)), some (.ref (7 + 2 * t))] [] κ
        refine pw_aload_n dX5_team_81 rfl ?_
        refine pw_iload_n dX5_team_82 rfl ?_
        refine ps_puti dX5_team_83 kf_X5_110 (by decide) rfl ((ok_T (by unfold isS; decide : isS 1) (by omega)).2.2.2.1) ?_
        refine pw_aload_n dX5_team_86 rfl ?_
        refine pw_iconst_ (v := nI 0) dX5_team_87 (by decide) ?_
        refine ps_puti dX5_team_88 kf_X5_115 (by decide) rfl ((ok_T (by unfold isS; decide : isS 1) (by omega)).2.2.2.2.1) ?_
        refine pw_aload_n dX5_team_91 rfl ?_
        refine pw_iconst_ (v := (-1)) dX5_team_92 (by decide) ?_
        refine ps_puti dX5_team_93 kf_X5_118 (by decide) rfl ((ok_T (by unfold isS; decide : isS 1) (by omega)).2.2.2.2.2.1) ?_
        refine pw_aload_n dX5_team_96 rfl ?_
        refine ps_getr (r := 1) dX5_team_97 kf_X5_10 (by decide) (by decide +kernel) ?_
        refine pw_iload_n dX5_team_100 rfl ?_
        refine pw_iconst_ (v := nI 1) dX5_team_101 (by decide) ?_
        refine px_iaddn (c := t + 1) dX5_team_102 (by omega) ?_
        refine ps_puti dX5_team_103 kf_X5_98 (by decide) rfl (by decide +kernel) ?_
        refine pw_iload_n dX5_team_106 rfl ?_
        have e9 : o_team c (nI k) = (nI t, pad0 (cnow (crec c) (newt (na c) k (pD c) (pL c)))) := by
          unfold o_team
          rw [if_pos h1, hkn, if_pos hff, if_neg (by omega), ht]
        rw [e9] at hf
        have hn8 := (ffp_none hff).2.2.1
        have hO : ∀ q j, q ≠ 7 + 2 * t → q ≠ 8 + 2 * t → q ≠ 77 → (q ≠ 1 ∨ j ≠ 6) → (u2 (u2 (u2 (u2 κ (7 + 2 * t) 2 (nI k)) (7 + 2 * t) 3 (nI 0)) (7 + 2 * t) 4 (-1)) 1 6 (nI (t + 1))) q j = ν q j := fun q j a1 a2 a3 a4 => by
          rcases a4 with a4 | a4
          · rw [u2_a a4, u2_a a1, u2_a a1, u2_a a1, k4 q j (by omega) (by omega) (by omega)]
          · rw [u2_b a4, u2_a a1, u2_a a1, u2_a a1, k4 q j (by omega) (by omega) (by omega)]
        have hrs : RS (u2 (u2 (u2 (u2 κ (7 + 2 * t) 2 (nI k)) (7 + 2 * t) 3 (nI 0)) (7 + 2 * t) 4 (-1)) 1 6 (nI (t + 1))) 1 (newt (na c) k (pD c) (pL c)) := by
          obtain ⟨g1, g2, g3, ⟨m, g4, g5, g6⟩, g7⟩ := hz.1
          refine ⟨fun j hj => ?_, ?_, fun p hp => ⟨?_, ?_, ?_⟩, ⟨m, g4, ?_, fun p hp => ?_⟩, fun u hu => ?_⟩
          · rw [hO _ _ (by omega) (by omega) (by omega) (by omega), newt_n (by omega) (by omega)]
            exact g1 j hj
          · rw [u2_s, newt_3, ht]
          · rw [hO _ _ (by omega) (by omega) (by omega) (by omega), newt_n (by omega) (by omega)]
            exact (g3 p hp).1
          · rw [hO _ _ (by omega) (by omega) (by omega) (by omega), newt_n (by omega) (by omega)]
            exact (g3 p hp).2.1
          · rw [hO _ _ (by omega) (by omega) (by omega) (by omega), newt_n (by omega) (by omega)]
            exact (g3 p hp).2.2
          · rw [hO _ _ (by omega) (by omega) (by omega) (by omega)]
            exact g5
          · rw [newt_n (by omega) (by omega)]
            exact g6 p hp
          · rw [newt_3] at hu
            by_cases e : u = t
            · subst e
              have k1 : κ (7 + 2 * u) 1 = nI ((pL c + 1) / 2) := by rw [show 7 + 2 * u = 1 + 6 + 2 * u by omega]; exact k1
              have k3 : ∀ j, j < (pL c + 1) / 2 → κ (8 + 2 * u) j = nI (pD c (2 * j) - 97) := fun j hj => by rw [show 8 + 2 * u = 1 + 7 + 2 * u by omega]; exact k3 j hj
              rw [show 1 + 6 + 2 * u = 7 + 2 * u by omega, show 1 + 7 + 2 * u = 8 + 2 * u by omega]
              unfold RT
              rw [ht, newt_start, newt_hints, newt_lost, newt_many, ← ht]
              refine ⟨by rw [u2_a (by omega), u2_b (by decide), u2_b (by decide), u2_b (by decide)]; exact k1, by rw [u2_a (by omega), u2_b (by decide), u2_b (by decide), u2_s], by rw [u2_a (by omega), u2_b (by decide), u2_s], by rw [u2_a (by omega), u2_s]; decide, fun i hi => ?_⟩
              rw [u2_a (by omega), u2_a (by omega), u2_a (by omega), u2_a (by omega), ht, newt_route (by omega), if_pos hi, ← ht]
              exact k3 i hi
            · have hu' : u < na c 3 := by omega
              exact ((g7 u hu').of (fun j _ _ => hO _ _ (by omega) (by omega) (by omega) (by omega)) (fun j => hO _ _ (by omega) (by omega) (by omega) (by omega))).ext (hw.1.tm hu').2.2.2.1.2 (fun i _ _ => newt_n (by omega) (by omega))
        exact ps_iret dX5_team_107 rfl (rfl) (hf _ (CX.pad0 (μ := μ) (c := crec c) hwz hz hrs (by rw [u2_a (by decide), u2_a (by omega), u2_a (by omega), u2_a (by omega)]; exact k0) (fun q j g1 g2 g3 => by rw [u2_a (by omega), u2_a (by omega), u2_a (by omega), u2_a (by omega)]; exact k4 q j (by omega) (by omega) g3)) (SM.tr (fun q j g => hO q j (by omega) (by omega) (by omega) (by omega)) hS))
      · refine pw_ldc dX5_team_41 kc_X5_101 ?_
        have e9 : o_team c (nI k) = ((-100004), c) := by
          unfold o_team
          rw [if_pos h1, if_pos hff, if_pos (by omega)]
        rw [e9] at hf
        exact ps_iret dX5_team_43 rfl (rfl) (hf _ hx SM.rfl)
    · refine pw_ldc dX5_team_26 kc_X5_97 ?_
      have e9 : o_team c (nI k) = ((-100003), c) := by
        unfold o_team
        rw [if_pos h1, if_neg (fun q => h2 ((eF_none (pl_le hw)).mpr q))]
      rw [e9] at hf
      exact ps_iret dX5_team_28 rfl (rfl) (hf _ hx SM.rfl)
  · have h1 := kb_eq0.mp h9
    refine pw_ldc dX5_team_11 kc_X5_52 ?_
    have e9 : o_team c v = ((-100002), c) := by
      unfold o_team
      rw [if_neg h1]
    rw [e9] at hf
    exact ps_iret dX5_team_13 rfl (rfl) (hf _ hx SM.rfl)
set_option maxRecDepth 100000 in
set_option maxHeartbeats 4000000 in
theorem x_route {c : CS} (hw : CW c) (hx : CX μ c) {v : Int32} (hf : ∀ ν : Mu, CX ν (o_route c v).2 → SM ν μ → fin (some (.int (o_route c v).1)) ν) : PS l E D cA mX5_route (d + 4) fin 0 [some (.ref 0), some (.int v)] [] μ := by
  have hq := hx
  refine pw_aload_n dX5_route_0 rfl ?_
  refine pw_iload_n dX5_route_1 rfl ?_
  refine ps_callV (b := 0) (As := [.int v]) (st := []) dX5_route_2 cv_X5_121 rfl ⟨by decide, by decide +kernel⟩ (Nat.le_of_ble_eq_true rfl) (Nat.le_of_ble_eq_true rfl) ?_
  refine c_isTeam hx.1.2.1 ?_
  refine pw_if_ne (tgt := 11) dX5_route_5 (by decide) (fun h9 => ?_) (fun h9 => ?_)
  · have h1 := kb_ne0.mp h9
    obtain ⟨t, ht, rfl⟩ := (rg_nat (by have := hw.1.t6; omega)).mp h1
    have t6 : t < 6 := Nat.lt_of_lt_of_le ht hw.1.t6
    have htn : iN (nI t) = t := iN_nI (by omega)
    refine pw_aload_n dX5_route_11 rfl ?_
    refine ps_getr (r := 77) dX5_route_12 kf_X5_29 (by decide) (by decide +kernel) ?_
    refine ps_callV (b := 77) (As := []) (st := []) dX5_route_15 cv_X5_93 rfl ⟨by decide, by decide +kernel⟩ (Nat.le_of_ble_eq_true rfl) (Nat.le_of_ble_eq_true rfl) ?_
    refine c_firstFault hx.2.2.2.2 ?_
    refine pw_ldc dX5_route_18 kc_X5_96 ?_
    refine pw_icmp_eq (tgt := 26) dX5_route_20 (by decide) (fun h2 => ?_) (fun h2 => ?_)
    · have hff := (eF_none (pl_le hw)).mp h2
      refine pw_aload_n dX5_route_26 rfl ?_
      refine ps_getr (r := 79) dX5_route_27 kf_X5_36 (by decide) (by decide +kernel) ?_
      refine pw_aload_n dX5_route_30 rfl ?_
      refine ps_getr (r := 1) dX5_route_31 kf_X5_10 (by decide) (by decide +kernel) ?_
      refine ps_callV (b := 79) (As := [.ref 1]) (st := []) dX5_route_34 cv_X5_60 rfl ⟨by decide, by decide +kernel⟩ (Nat.le_of_ble_eq_true rfl) (Nat.le_of_ble_eq_true rfl) ?_
      refine c_record hw.1.t6 (fun j hj => (hw.2.1 j hj).t6) hx.1 hx.2.1 ?_
      intro ν hR ν9
      have hz := hx.rec hw hR ν9
      have hwz := hw.rec
      have hS : SM ν μ := fun q k g => ν9 q k (by omega) (by omega)
      show PS l E D cA mX5_route (d + 4) fin 37 [some (.ref 0), some (.int (nI t))] [] ν
      refine pw_aload_n dX5_route_37 rfl ?_
      refine ps_getr (r := 77) dX5_route_38 kf_X5_29 (by decide) (by decide +kernel) ?_
      refine pw_aload_n dX5_route_41 rfl ?_
      refine ps_getr (r := 1) dX5_route_42 kf_X5_10 (by decide) (by decide +kernel) ?_
      refine ps_getr (r := 6) dX5_route_45 kf_X5_102 (by decide) (by decide +kernel) ?_
      refine pw_iload_n dX5_route_48 rfl ?_
      refine ps_aald (t := 5) (j := t) (r := 7 + 2 * t) dX5_route_49 rfl (ok_T (by unfold isS; decide : isS 1) (by omega)).1 (by decide) ?_
      refine ps_callV (b := 77) (As := [.ref (7 + 2 * t)]) (st := []) dX5_route_50 cv_X5_106 rfl ⟨by decide, by decide +kernel⟩ (Nat.le_of_ble_eq_true rfl) (Nat.le_of_ble_eq_true rfl) ?_
      refine c_moveTo (s := 1) (t := t) isS_1 t6 hz.2.2.2.2 hff ?_
      intro κ k0 k1 k2 k3 k4
      have wfb := wf_tk hw.1 ht hff
      have hrs : RS κ 1 (tk (na c) t (pD c) (pL c)) := RS.tk hw.1 ht hz.1 (ffp_none hff).2.2.1 k1 k2 k3 (fun q j a1 a2 a3 a4 => k4 q j a1 a2 (by omega))
      have htb : t < tk (na c) t (pD c) (pL c) 3 := by rw [tk_n (by omega)]; exact ht
      obtain ⟨m, hm8, hm, hb⟩ := hrs.2.2.2.1
      have hWb := (wfb.tm htb).2.2.2
      have e9 : o_route c (nI t) = (nI (tl (tk (na c) t (pD c) (pL c)) t), pad0 (cnow (crec c) (tk (na c) t (pD c) (pL c)))) := by
        unfold o_route
        rw [if_pos h1, htn, if_pos hff]
      rw [e9] at hf
      show PS l E D cA mX5_route (d + 4) fin 53 [some (.ref 0), some (.int (nI t))] [] κ
      refine pw_aload_n dX5_route_53 rfl ?_
      refine ps_getr (r := 1) dX5_route_54 kf_X5_10 (by decide) (by decide +kernel) ?_
      refine pw_iload_n dX5_route_57 rfl ?_
      refine ps_callV (b := 1) (As := [.int (nI t)]) (st := []) dX5_route_58 cv_X5_124 rfl ⟨by decide, by decide +kernel⟩ (Nat.le_of_ble_eq_true rfl) (Nat.le_of_ble_eq_true rfl) ?_
      refine c_S_trailLength (a := tk (na c) t (pD c) (pL c)) isS_1 t6 hm8 hm hb (hrs.2.2.2.2 t htb) ⟨hWb.1.2, hWb.2⟩ (fun p hp => (wfb.pl hp).2.2.2) ?_
      exact ps_iret dX5_route_61 rfl (rfl) (hf _ (CX.pad0 (μ := μ) (c := crec c) hwz hz hrs k0 (fun q j g1 g2 g3 => k4 q j (by omega) (by omega) g3)) (SM.tr (fun q j g => k4 q j (by omega) (by omega) (by omega)) hS))
    · refine pw_ldc dX5_route_23 kc_X5_97 ?_
      have e9 : o_route c (nI t) = ((-100003), c) := by
        unfold o_route
        rw [if_pos h1, if_neg (fun q => h2 ((eF_none (pl_le hw)).mpr q))]
      rw [e9] at hf
      exact ps_iret dX5_route_25 rfl (rfl) (hf _ hx SM.rfl)
  · have h1 := kb_eq0.mp h9
    refine pw_ldc dX5_route_8 kc_X5_71 ?_
    have e9 : o_route c v = ((-100001), c) := by
      unfold o_route
      rw [if_neg h1]
    rw [e9] at hf
    exact ps_iret dX5_route_10 rfl (rfl) (hf _ hx SM.rfl)
end CHGE
