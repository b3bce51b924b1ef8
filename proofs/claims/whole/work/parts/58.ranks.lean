/-! the model: points, ranks, the winner, sums -/
theorem pz_b {a : AS} (hw : Wf a) {n t : Nat} (ht : t < a 3) (ho : OV a n t ≤ 10520) : -20000 ≤ pz a n t ∧ pz a n t ≤ 20000 := by
  have h1 := tl_le hw ht
  have h2 := hd_le a t (tl a t)
  have h3 : a 1 * tl a t ≤ 500 * 8 := Nat.mul_le_mul hw.2.1 h1
  have h4 : a 0 * hd a t (tl a t) ≤ 50 * 8 := Nat.mul_le_mul hw.1 (by omega)
  unfold pz
  omega
theorem ptd_int {a : AS} (hw : Wf a) {n t u : Nat} (ht : t < a 3) (hu : u < a 3) (ho : OV a n t ≤ 10520) (ho2 : OV a n u ≤ 10520) : (pt a n t - pt a n u).toInt = pz a n t - pz a n u := by
  have h1 := pz_b hw ht ho
  have h2 := pz_b hw hu ho2
  rw [Int32.toInt_sub, pt_int hw ht ho, pt_int hw hu ho2]
  unfold Int.bmod
  dsimp only
  split <;> omega
theorem ah_irr {a : AS} {n t : Nat} : ah a n t t = false := by simp [ah]
theorem ah_tr {a : AS} {n t u v : Nat} (h1 : ah a n t u = true) (h2 : ah a n u v = true) : ah a n t v = true := by
  simp only [ah, decide_eq_true_eq] at *
  omega
theorem ah_tot {a : AS} {n t u : Nat} (h : ¬ ah a n t u = true) (hn : t ≠ u) : ah a n u t = true := by
  simp only [ah, decide_eq_true_eq] at *
  omega
theorem ah_as {a : AS} {n t u : Nat} (h : ah a n t u = true) : ¬ ah a n u t = true := by
  simp only [ah, decide_eq_true_eq] at *
  omega
theorem wnp_0 {a : AS} {n : Nat} : ∀ {i : Nat}, wnp a n i = none → i = 0
  | 0, _ => rfl
  | i + 1, h => by
    unfold wnp at h
    split at h
    · cases h
    · split at h <;> cases h
theorem wnp_best {a : AS} {n : Nat} : ∀ {i b : Nat}, wnp a n i = some b → ∀ u, u < i → u ≠ b → ah a n b u = true
  | 0, b, h => by cases h
  | i + 1, b, h => by
    unfold wnp at h
    intro u hu hub
    split at h
    · next h0 =>
      cases h
      have := wnp_0 h0
      omega
    · next c hc =>
      have ih := wnp_best hc
      split at h
      · next ha =>
        cases h
        by_cases e : u = c
        · rw [e]
          exact ha
        · exact ah_tr ha (ih u (by omega) e)
      · next ha =>
        cases h
        by_cases e : u = i
        · rw [e]
          exact ah_tot ha (by omega)
        · exact ih u (by omega) hub
theorem cntN_0 {p : Nat → Bool} : ∀ {n : Nat}, cntN p n = 0 ↔ ∀ i, i < n → ¬ p i = true
  | 0 => ⟨fun _ i h => absurd h (Nat.not_lt_zero _), fun _ => rfl⟩
  | n + 1 => by
    have ih := cntN_0 (p := p) (n := n)
    show cntN p n + (if p n = true then 1 else 0) = 0 ↔ _
    constructor
    · intro h i hi
      rcases Nat.lt_or_eq_of_le (Nat.le_of_lt_succ hi) with h2 | rfl
      · exact ih.mp (by omega) i h2
      · intro hp
        rw [if_pos hp] at h
        omega
    · intro h
      rw [ih.mpr (fun i hi => h i (by omega)), if_neg (h n (Nat.lt_succ_self _))]
theorem rk_0 {a : AS} {n b : Nat} (h : wnp a n n = some b) {t : Nat} (ht : t < n) : rk a n t = 0 ↔ t = b := by
  unfold rk
  rw [cntN_0]
  constructor
  · intro h1
    by_cases e : t = b
    · exact e
    · exact absurd (wnp_best h t ht e) (h1 b (wnp_lt h))
  · rintro rfl u hu
    by_cases e : u = t
    · rw [e, ah_irr]
      decide
    · exact ah_as (wnp_best h u hu e)
section MODQ
variable {l : Launch} {E : EV} {D : va_G} {cA : Nat → ClassId} {fin : Option Value → Mu → Prop} {μ : Mu} {d : Nat}
set_option maxRecDepth 100000 in
set_option maxHeartbeats 4000000 in
theorem m_points {n : Nat} {a : AS} (hw : Wf a) (hna : n ≤ a 3) (hP : PM μ a n) (hR : RM μ a) {t : Nat} (ht : t < n) (hf : fin (some (.int (pt a n t))) μ) : PS l E D cA mX6_points (d + 2) fin 0 [some (.ref 227), some (.int (nI t))] [] μ := by
  have hn6 : n ≤ 6 := Nat.le_trans hna hw.2.2.2.1
  have hPt := hP.t hw hna ht
  refine pw_aload_n dX6_points_0 rfl ?_
  refine ps_getr (r := 228) dX6_points_1 kf_X6_7 (by decide) (by decide +kernel) ?_
  refine pw_iconst_ (v := nI 1) dX6_points_4 (by decide) ?_
  refine ps_iald (j := 1) (x := nI (a 1)) dX6_points_5 rfl (ok_ar (n := 108) (by decide +kernel) (by decide)) (hR 1 (by decide)) ?_
  refine pw_aload_n dX6_points_6 rfl ?_
  refine ps_getr (r := 237) dX6_points_7 kf_X6_38 (by decide) (by decide +kernel) ?_
  refine pw_iload_n dX6_points_10 rfl ?_
  refine ps_iald (j := t) (x := nI (tl a t)) dX6_points_11 rfl (ok_ar (n := 6) (by decide +kernel) (by omega)) (hP.t hw hna ht).1 ?_
  refine px_imuln (c := a 1 * tl a t) dX6_points_12 rfl ?_
  refine pw_aload_n dX6_points_13 rfl ?_
  refine ps_getr (r := 228) dX6_points_14 kf_X6_7 (by decide) (by decide +kernel) ?_
  refine pw_iconst_ (v := nI 0) dX6_points_17 (by decide) ?_
  refine ps_iald (j := 0) (x := nI (a 0)) dX6_points_18 rfl (ok_ar (n := 108) (by decide +kernel) (by decide)) (hR 0 (by decide)) ?_
  refine pw_aload_n dX6_points_19 rfl ?_
  refine pw_iload_n dX6_points_20 rfl ?_
  refine ps_callV (b := 227) (As := [.int (nI t)]) (st := [.int (nI (a 0)), .int (nI (a 1 * tl a t))]) dX6_points_21 cv_X6_129 rfl ⟨by decide, by decide +kernel⟩ (Nat.le_of_ble_eq_true rfl) (Nat.le_of_ble_eq_true rfl) ?_
  refine m_hinted hw hna hP ht hR ?_
  show PS l E D cA mX6_points (d + 2) fin 24 [some (.ref 227), some (.int (nI t))] [.int (nI (hd a t (tl a t))), .int (nI (a 0)), .int (nI (a 1 * tl a t))] μ
  refine px_imuln (c := a 0 * hd a t (tl a t)) dX6_points_24 rfl ?_
  refine pw_isub dX6_points_25 ?_
  refine pw_aload_n dX6_points_26 rfl ?_
  refine ps_getr (r := 243) dX6_points_27 kf_X6_56 (by decide) (by decide +kernel) ?_
  refine pw_iload_n dX6_points_30 rfl ?_
  refine ps_iald (j := t) (x := nI (OV a n t)) dX6_points_31 rfl (ok_ar (n := 6) (by decide +kernel) (by omega)) (hP.t hw hna ht).2.2.1 ?_
  refine pw_isub dX6_points_32 ?_
  exact ps_iret dX6_points_33 rfl (rfl) hf
set_option maxRecDepth 100000 in
set_option maxHeartbeats 4000000 in
theorem m_isAhead {n : Nat} {a : AS} (hw : Wf a) (hna : n ≤ a 3) (hP : PM μ a n) (hR : RM μ a) {t u : Nat} (ht : t < n) (hu : u < n) (hf : fin (some (.int (kb (ah a n t u = true)))) μ) : PS l E D cA mX6_isAhead (d + 3) fin 0 [some (.ref 227), some (.int (nI t)), some (.int (nI u)), none] [] μ := by
  have hn6 : n ≤ 6 := Nat.le_trans hna hw.2.2.2.1
  have hPt := hP.t hw hna ht
  have hPu := hP.t hw hna hu
  have e1 := ptd_int hw (n := n) (t := t) (u := u) (by omega) (by omega) hPt.2.2.2.1 hPu.2.2.2.1
  refine pw_aload_n dX6_isAhead_0 rfl ?_
  refine pw_iload_n dX6_isAhead_1 rfl ?_
  refine ps_callV (b := 227) (As := [.int (nI t)]) (st := []) dX6_isAhead_2 cv_X6_132 rfl ⟨by decide, by decide +kernel⟩ (Nat.le_of_ble_eq_true rfl) (Nat.le_of_ble_eq_true rfl) ?_
  refine m_points hw hna hP hR ht ?_
  show PS l E D cA mX6_isAhead (d + 3) fin 5 [some (.ref 227), some (.int (nI t)), some (.int (nI u)), none] [.int (pt a n t)] μ
  refine pw_aload_n dX6_isAhead_5 rfl ?_
  refine pw_iload_n dX6_isAhead_6 rfl ?_
  refine ps_callV (b := 227) (As := [.int (nI u)]) (st := [.int (pt a n t)]) dX6_isAhead_7 cv_X6_132 rfl ⟨by decide, by decide +kernel⟩ (Nat.le_of_ble_eq_true rfl) (Nat.le_of_ble_eq_true rfl) ?_
  refine m_points hw hna hP hR hu ?_
  show PS l E D cA mX6_isAhead (d + 3) fin 10 [some (.ref 227), some (.int (nI t)), some (.int (nI u)), none] [.int (pt a n u), .int (pt a n t)] μ
  refine pw_isub dX6_isAhead_10 ?_
  refine px_istore_n (ls' := [some (.ref 227), some (.int (nI t)), some (.int (nI u)), some (.int ((pt a n t) - (pt a n u)))]) dX6_isAhead_11 rfl rfl (by decide) ?_
  refine pw_iload_n dX6_isAhead_12 rfl ?_
  refine pw_if_gt (tgt := 55) dX6_isAhead_13 (by decide) (fun h1 => ?_) (fun h1 => ?_)
  · have h2 := Int32.lt_iff_toInt_lt.mp h1
    rw [e1, show (0 : Int32).toInt = 0 from rfl] at h2
    refine pw_iconst_ (v := nI 1) dX6_isAhead_55 (by decide) ?_
    refine pw_goto (tgt := 60) dX6_isAhead_56 (by decide) ?_
    exact ps_iret dX6_isAhead_60 rfl (by decide) (by rw [kb_t (by simp only [ah, decide_eq_true_eq]; omega)] at hf; exact hf)
  · have h2 : ¬ (0 : Int) < pz a n t - pz a n u := fun q => h1 (Int32.lt_iff_toInt_lt.mpr (by rw [e1, show (0 : Int32).toInt = 0 from rfl]; exact q))
    refine pw_iload_n dX6_isAhead_16 rfl ?_
    refine pw_if_ne (tgt := 59) dX6_isAhead_17 (by decide) (fun h3 => ?_) (fun h3 => ?_)
    · have h4 : ¬ pz a n t - pz a n u = 0 := fun q => h3 (Int32.toInt_inj.mp (by rw [e1, show (0 : Int32).toInt = 0 from rfl]; exact q))
      refine pw_iconst_ (v := nI 0) dX6_isAhead_59 (by decide) ?_
      exact ps_iret dX6_isAhead_60 rfl (by decide) (by rw [kb_f (by simp only [ah, decide_eq_true_eq]; omega)] at hf; exact hf)
    · have h4 : pz a n t - pz a n u = 0 := by rw [← e1, h3]; rfl
      refine pw_aload_n dX6_isAhead_20 rfl ?_
      refine ps_getr (r := 243) dX6_isAhead_21 kf_X6_56 (by decide) (by decide +kernel) ?_
      refine pw_iload_n dX6_isAhead_24 rfl ?_
      refine ps_iald (j := t) (x := nI (OV a n t)) dX6_isAhead_25 rfl (ok_ar (n := 6) (by decide +kernel) (by omega)) (hP.t hw hna ht).2.2.1 ?_
      refine pw_aload_n dX6_isAhead_26 rfl ?_
      refine ps_getr (r := 243) dX6_isAhead_27 kf_X6_56 (by decide) (by decide +kernel) ?_
      refine pw_iload_n dX6_isAhead_30 rfl ?_
      refine ps_iald (j := u) (x := nI (OV a n u)) dX6_isAhead_31 rfl (ok_ar (n := 6) (by decide +kernel) (by omega)) (hP.t hw hna hu).2.2.1 ?_
      refine pn_lt (tgt := 55) dX6_isAhead_32 (by decide) (by omega) (by omega) (fun h5 => ?_) (fun h5 => ?_)
      · refine pw_iconst_ (v := nI 1) dX6_isAhead_55 (by decide) ?_
        refine pw_goto (tgt := 60) dX6_isAhead_56 (by decide) ?_
        exact ps_iret dX6_isAhead_60 rfl (by decide) (by rw [kb_t (by simp only [ah, decide_eq_true_eq]; omega)] at hf; exact hf)
      · refine pw_aload_n dX6_isAhead_35 rfl ?_
        refine ps_getr (r := 243) dX6_isAhead_36 kf_X6_56 (by decide) (by decide +kernel) ?_
        refine pw_iload_n dX6_isAhead_39 rfl ?_
        refine ps_iald (j := t) (x := nI (OV a n t)) dX6_isAhead_40 rfl (ok_ar (n := 6) (by decide +kernel) (by omega)) (hP.t hw hna ht).2.2.1 ?_
        refine pw_aload_n dX6_isAhead_41 rfl ?_
        refine ps_getr (r := 243) dX6_isAhead_42 kf_X6_56 (by decide) (by decide +kernel) ?_
        refine pw_iload_n dX6_isAhead_45 rfl ?_
        refine ps_iald (j := u) (x := nI (OV a n u)) dX6_isAhead_46 rfl (ok_ar (n := 6) (by decide +kernel) (by omega)) (hP.t hw hna hu).2.2.1 ?_
        refine pn_ne (tgt := 59) dX6_isAhead_47 (by decide) (by omega) (by omega) (fun h6 => ?_) (fun h6 => ?_)
        · refine pw_iconst_ (v := nI 0) dX6_isAhead_59 (by decide) ?_
          exact ps_iret dX6_isAhead_60 rfl (by decide) (by rw [kb_f (by simp only [ah, decide_eq_true_eq]; omega)] at hf; exact hf)
        · refine pw_iload_n dX6_isAhead_50 rfl ?_
          refine pw_iload_n dX6_isAhead_51 rfl ?_
          refine pn_ge (tgt := 59) dX6_isAhead_52 (by decide) (by omega) (by omega) (fun h7 => ?_) (fun h7 => ?_)
          · refine pw_iconst_ (v := nI 0) dX6_isAhead_59 (by decide) ?_
            exact ps_iret dX6_isAhead_60 rfl (by decide) (by rw [kb_f (by simp only [ah, decide_eq_true_eq]; omega)] at hf; exact hf)
          · refine pw_iconst_ (v := nI 1) dX6_isAhead_55 (by decide) ?_
            refine pw_goto (tgt := 60) dX6_isAhead_56 (by decide) ?_
            exact ps_iret dX6_isAhead_60 rfl (by decide) (by rw [kb_t (by simp only [ah, decide_eq_true_eq]; omega)] at hf; exact hf)
set_option maxRecDepth 100000 in
set_option maxHeartbeats 4000000 in
theorem m_rank {n : Nat} {a : AS} (hw : Wf a) (hna : n ≤ a 3) (hP : PM μ a n) (hR : RM μ a) {t : Nat} (ht : t < n) (hf : fin (some (.int (nI (rk a n t)))) μ) : PS l E D cA mX6_rank (d + 4) fin 0 [some (.ref 227), some (.int (nI t)), none, none] [] μ := by
  have hn6 : n ≤ 6 := Nat.le_trans hna hw.2.2.2.1
  refine pw_iconst_ (v := nI 0) dX6_rank_0 (by decide) ?_
  refine px_istore_n (ls' := [some (.ref 227), some (.int (nI t)), some (.int (nI 0)), none]) dX6_rank_1 rfl rfl (by decide) ?_
  refine pw_iconst_ (v := nI 0) dX6_rank_2 (by decide) ?_
  refine px_istore_n (ls' := [some (.ref 227), some (.int (nI t)), some (.int (nI 0)), some (.int (nI 0))]) dX6_rank_3 rfl rfl (by decide) ?_
  have lp : ∀ i : Nat, i ≤ n → PS l E D cA mX6_rank (d + 4) fin 4 [some (.ref 227), some (.int (nI t)), some (.int (nI (cntN (fun u => ah a n u t) i))), some (.int (nI i))] [] μ := by
    refine ps_for _ ?_ ?_
    · skip
      refine pw_iload_n dX6_rank_4 rfl ?_
      refine pw_aload_n dX6_rank_5 rfl ?_
      refine ps_geti (x := nI n) dX6_rank_6 kf_X6_82 (by decide) (by decide +kernel) (hP.1) ?_
      refine pn_ge (tgt := 40) dX6_rank_9 (by decide) (by omega) (by omega) (fun _ => ?_) (fun h9 => absurd h9 (by omega))
      refine pw_iload_n dX6_rank_40 rfl ?_
      exact ps_iret dX6_rank_41 rfl (rfl) hf
    · intro i hi ih 
      have hPi := hP.t hw hna hi
      refine pw_iload_n dX6_rank_4 rfl ?_
      refine pw_aload_n dX6_rank_5 rfl ?_
      refine ps_geti (x := nI n) dX6_rank_6 kf_X6_82 (by decide) (by decide +kernel) (hP.1) ?_
      refine pn_ge (tgt := 40) dX6_rank_9 (by decide) (by omega) (by omega) (fun h9 => absurd h9 (by omega)) (fun _ => ?_)
      have hl9 := cntN_le (p := fun u => ah a n u t) i
      refine pw_iload_n dX6_rank_12 rfl ?_
      refine pw_iload_n dX6_rank_13 rfl ?_
      refine pw_iload_n dX6_rank_14 rfl ?_
      refine pn_eq (tgt := 31) dX6_rank_15 (by decide) (by omega) (by omega) (fun he => ?_) (fun he => ?_)
      · refine pw_iconst_ (v := nI 0) dX6_rank_31 (by decide) ?_
        refine px_iaddn (c := cntN (fun u => ah a n u t) i) dX6_rank_32 (by omega) ?_
        refine px_istore_n (ls' := [some (.ref 227), some (.int (nI t)), some (.int (nI (cntN (fun u => ah a n u t) i))), some (.int (nI i))]) dX6_rank_33 rfl rfl (by decide) ?_
        refine px_iincn (n := 1) (a := i) (b := i + 1) (ls' := [some (.ref 227), some (.int (nI t)), some (.int (nI (cntN (fun u => ah a n u t) i))), some (.int (nI (i + 1)))]) dX6_rank_34 rfl rfl rfl (by omega) ?_
        refine pw_goto (tgt := 4) dX6_rank_37 (by decide) ?_
        rw [show cntN (fun u => ah a n u t) (i + 1) = cntN (fun u => ah a n u t) i by show _ + _ = _; rw [if_neg (by rw [he]; show ¬ ah a n t t = true; rw [ah_irr]; decide)]; rfl] at ih
        exact ih
      · refine pw_aload_n dX6_rank_18 rfl ?_
        refine pw_iload_n dX6_rank_19 rfl ?_
        refine pw_iload_n dX6_rank_20 rfl ?_
        refine ps_callV (b := 227) (As := [.int (nI i), .int (nI t)]) (st := [.int (nI (cntN (fun u => ah a n u t) i))]) dX6_rank_21 cv_X6_135 rfl ⟨by decide, by decide +kernel⟩ (Nat.le_of_ble_eq_true rfl) (Nat.le_of_ble_eq_true rfl) ?_
        refine m_isAhead hw hna hP hR hi ht ?_
        show PS l E D cA mX6_rank (d + 4) fin 24 [some (.ref 227), some (.int (nI t)), some (.int (nI (cntN (fun u => ah a n u t) i))), some (.int (nI i))] [.int (kb (ah a n i t = true)), .int (nI (cntN (fun u => ah a n u t) i))] μ
        by_cases hc : ah a n i t = true
        · rw [kb_t hc]
          refine pw_if_eq (tgt := 31) dX6_rank_24 (by decide) (fun h9 => absurd h9 nI1_ne) (fun _ => ?_)
          refine pw_iconst_ (v := nI 1) dX6_rank_27 (by decide) ?_
          refine pw_goto (tgt := 32) dX6_rank_28 (by decide) ?_
          refine px_iaddn (c := cntN (fun u => ah a n u t) i + 1) dX6_rank_32 (by omega) ?_
          refine px_istore_n (ls' := [some (.ref 227), some (.int (nI t)), some (.int (nI (cntN (fun u => ah a n u t) i + 1))), some (.int (nI i))]) dX6_rank_33 rfl rfl (by decide) ?_
          refine px_iincn (n := 1) (a := i) (b := i + 1) (ls' := [some (.ref 227), some (.int (nI t)), some (.int (nI (cntN (fun u => ah a n u t) i + 1))), some (.int (nI (i + 1)))]) dX6_rank_34 rfl rfl rfl (by omega) ?_
          refine pw_goto (tgt := 4) dX6_rank_37 (by decide) ?_
          rw [show cntN (fun u => ah a n u t) i + 1 = cntN (fun u => ah a n u t) (i + 1) by show _ = _ + _; rw [if_pos hc]]
          exact ih
        · rw [kb_f hc]
          refine pw_if_eq (tgt := 31) dX6_rank_24 (by decide) (fun _ => ?_) (fun h9 => absurd nI_0 h9)
          refine pw_iconst_ (v := nI 0) dX6_rank_31 (by decide) ?_
          refine px_iaddn (c := cntN (fun u => ah a n u t) i) dX6_rank_32 (by omega) ?_
          refine px_istore_n (ls' := [some (.ref 227), some (.int (nI t)), some (.int (nI (cntN (fun u => ah a n u t) i))), some (.int (nI i))]) dX6_rank_33 rfl rfl (by decide) ?_
          refine px_iincn (n := 1) (a := i) (b := i + 1) (ls' := [some (.ref 227), some (.int (nI t)), some (.int (nI (cntN (fun u => ah a n u t) i))), some (.int (nI (i + 1)))]) dX6_rank_34 rfl rfl rfl (by omega) ?_
          refine pw_goto (tgt := 4) dX6_rank_37 (by decide) ?_
          rw [show cntN (fun u => ah a n u t) (i + 1) = cntN (fun u => ah a n u t) i by show _ + _ = _; rw [if_neg hc]; rfl] at ih
          exact ih
  exact lp 0 (Nat.zero_le _)
set_option maxRecDepth 100000 in
set_option maxHeartbeats 4000000 in
theorem m_winner {n : Nat} {a : AS} (hw : Wf a) (hna : n ≤ a 3) (hP : PM μ a n) (hR : RM μ a) (hf : fin (some (.int (eF (wnp a n n)))) μ) : PS l E D cA mX6_winner (d + 5) fin 0 [some (.ref 227), none] [] μ := by
  have hn6 : n ≤ 6 := Nat.le_trans hna hw.2.2.2.1
  refine pw_iconst_ (v := nI 0) dX6_winner_0 (by decide) ?_
  refine px_istore_n (ls' := [some (.ref 227), some (.int (nI 0))]) dX6_winner_1 rfl rfl (by decide) ?_
  have lp : ∀ i : Nat, i ≤ n → (∀ u, u < i → rk a n u ≠ 0) → PS l E D cA mX6_winner (d + 5) fin 2 [some (.ref 227), some (.int (nI i))] [] μ := by
    refine ps_for _ ?_ ?_
    · intro hI
      refine pw_iload_n dX6_winner_2 rfl ?_
      refine pw_aload_n dX6_winner_3 rfl ?_
      refine ps_geti (x := nI n) dX6_winner_4 kf_X6_82 (by decide) (by decide +kernel) (hP.1) ?_
      refine pn_ge (tgt := 26) dX6_winner_7 (by decide) (by omega) (by omega) (fun _ => ?_) (fun h9 => absurd h9 (by omega))
      refine pw_ldc dX6_winner_26 kc_X6_99 ?_
      exact ps_iret dX6_winner_28 rfl (rfl) (by
        cases hb : wnp a n n with
        | none =>
          rw [hb] at hf
          exact hf
        | some b => exact absurd ((rk_0 hb (wnp_lt hb)).mpr rfl) (hI b (wnp_lt hb)))
    · intro i hi ih hI
      have hPi := hP.t hw hna hi
      refine pw_iload_n dX6_winner_2 rfl ?_
      refine pw_aload_n dX6_winner_3 rfl ?_
      refine ps_geti (x := nI n) dX6_winner_4 kf_X6_82 (by decide) (by decide +kernel) (hP.1) ?_
      refine pn_ge (tgt := 26) dX6_winner_7 (by decide) (by omega) (by omega) (fun h9 => absurd h9 (by omega)) (fun _ => ?_)
      have hl9 : rk a n i ≤ n := cntN_le n
      refine pw_aload_n dX6_winner_10 rfl ?_
      refine pw_iload_n dX6_winner_11 rfl ?_
      refine ps_callV (b := 227) (As := [.int (nI i)]) (st := []) dX6_winner_12 cv_X6_192 rfl ⟨by decide, by decide +kernel⟩ (Nat.le_of_ble_eq_true rfl) (Nat.le_of_ble_eq_true rfl) ?_
      refine m_rank hw hna hP hR hi ?_
      show PS l E D cA mX6_winner (d + 5) fin 15 [some (.ref 227), some (.int (nI i))] [.int (nI (rk a n i))] μ
      have hz0 : ∀ m, m ≤ 6 → (nI m = 0 ↔ m = 0) := by decide
      refine pw_if_ne (tgt := 20) dX6_winner_15 (by decide) (fun h9 => ?_) (fun h9 => ?_)
      · refine px_iincn (n := 1) (a := i) (b := i + 1) (ls' := [some (.ref 227), some (.int (nI (i + 1)))]) dX6_winner_20 rfl rfl rfl (by omega) ?_
        refine pw_goto (tgt := 2) dX6_winner_23 (by decide) ?_
        exact ih (fun u hu => by
          rcases Nat.lt_or_eq_of_le (Nat.le_of_lt_succ hu) with h | rfl
          · exact hI u h
          · exact fun q => h9 ((hz0 _ (by omega)).mpr q))
      · refine pw_iload_n dX6_winner_18 rfl ?_
        exact ps_iret dX6_winner_19 rfl (rfl) (by
          have h8 := (hz0 _ (by omega)).mp h9
          cases hb : wnp a n n with
          | none => exact absurd (wnp_0 hb) (by omega)
          | some b =>
            rw [hb] at hf
            rw [(rk_0 hb hi).mp h8]
            exact hf)
  exact lp 0 (Nat.zero_le _) (fun _ h9 => absurd h9 (Nat.not_lt_zero _))
set_option maxRecDepth 100000 in
set_option maxHeartbeats 4000000 in
theorem m_sumsP {n : Nat} {a : AS} (hw : Wf a) (hna : n ≤ a 3) (hP : PM μ a n) (hR : RM μ a) (hf : fin (some (.int (psm a n n))) μ) : PS l E D cA mX6_sums (d + 3) fin 0 [some (.ref 227), some (.int (nI 1)), none, none] [] μ := by
  have hn6 : n ≤ 6 := Nat.le_trans hna hw.2.2.2.1
  refine pw_iconst_ (v := nI 0) dX6_sums_0 (by decide) ?_
  refine px_istore_n (ls' := [some (.ref 227), some (.int (nI 1)), some (.int (nI 0)), none]) dX6_sums_1 rfl rfl (by decide) ?_
  refine pw_iconst_ (v := nI 0) dX6_sums_2 (by decide) ?_
  refine px_istore_n (ls' := [some (.ref 227), some (.int (nI 1)), some (.int (nI 0)), some (.int (nI 0))]) dX6_sums_3 rfl rfl (by decide) ?_
  have lp : ∀ i : Nat, i ≤ n → PS l E D cA mX6_sums (d + 3) fin 4 [some (.ref 227), some (.int (nI 1)), some (.int (psm a n i)), some (.int (nI i))] [] μ := by
    refine ps_for _ ?_ ?_
    · skip
      refine pw_iload_n dX6_sums_4 rfl ?_
      refine pw_aload_n dX6_sums_5 rfl ?_
      refine ps_geti (x := nI n) dX6_sums_6 kf_X6_82 (by decide) (by decide +kernel) (hP.1) ?_
      refine pn_ge (tgt := 39) dX6_sums_9 (by decide) (by omega) (by omega) (fun _ => ?_) (fun h9 => absurd h9 (by omega))
      refine pw_iload_n dX6_sums_39 rfl ?_
      exact ps_iret dX6_sums_40 rfl (rfl) hf
    · intro i hi ih 
      have hPi := hP.t hw hna hi
      refine pw_iload_n dX6_sums_4 rfl ?_
      refine pw_aload_n dX6_sums_5 rfl ?_
      refine ps_geti (x := nI n) dX6_sums_6 kf_X6_82 (by decide) (by decide +kernel) (hP.1) ?_
      refine pn_ge (tgt := 39) dX6_sums_9 (by decide) (by omega) (by omega) (fun h9 => absurd h9 (by omega)) (fun _ => ?_)
      refine pw_iload_n dX6_sums_12 rfl ?_
      refine pw_iload_n dX6_sums_13 rfl ?_
      refine pw_if_eq (tgt := 25) dX6_sums_14 (by decide) (fun h9 => absurd h9 nI1_ne) (fun _ => ?_)
      refine pw_aload_n dX6_sums_17 rfl ?_
      refine pw_iload_n dX6_sums_18 rfl ?_
      refine ps_callV (b := 227) (As := [.int (nI i)]) (st := [.int (psm a n i)]) dX6_sums_19 cv_X6_132 rfl ⟨by decide, by decide +kernel⟩ (Nat.le_of_ble_eq_true rfl) (Nat.le_of_ble_eq_true rfl) ?_
      refine m_points hw hna hP hR hi ?_
      show PS l E D cA mX6_sums (d + 3) fin 22 [some (.ref 227), some (.int (nI 1)), some (.int (psm a n i)), some (.int (nI i))] [.int (pt a n i), .int (psm a n i)] μ
      refine pw_goto (tgt := 31) dX6_sums_22 (by decide) ?_
      refine pw_iadd dX6_sums_31 ?_
      show PS l E D cA mX6_sums (d + 3) fin 32 [some (.ref 227), some (.int (nI 1)), some (.int (psm a n i)), some (.int (nI i))] [.int (psm a n (i + 1))] μ
      refine px_istore_n (ls' := [some (.ref 227), some (.int (nI 1)), some (.int (psm a n (i + 1))), some (.int (nI i))]) dX6_sums_32 rfl rfl (by decide) ?_
      refine px_iincn (n := 1) (a := i) (b := i + 1) (ls' := [some (.ref 227), some (.int (nI 1)), some (.int (psm a n (i + 1))), some (.int (nI (i + 1)))]) dX6_sums_33 rfl rfl rfl (by omega) ?_
      refine pw_goto (tgt := 4) dX6_sums_36 (by decide) ?_
      exact ih
  exact lp 0 (Nat.zero_le _)
set_option maxRecDepth 100000 in
set_option maxHeartbeats 4000000 in
theorem m_sumsT {n : Nat} {a : AS} (hw : Wf a) (hna : n ≤ a 3) (hP : PM μ a n) (hf : fin (some (.int (nI (smN (tl a) n)))) μ) : PS l E D cA mX6_sums (d + 3) fin 0 [some (.ref 227), some (.int (nI 0)), none, none] [] μ := by
  have hn6 : n ≤ 6 := Nat.le_trans hna hw.2.2.2.1
  refine pw_iconst_ (v := nI 0) dX6_sums_0 (by decide) ?_
  refine px_istore_n (ls' := [some (.ref 227), some (.int (nI 0)), some (.int (nI 0)), none]) dX6_sums_1 rfl rfl (by decide) ?_
  refine pw_iconst_ (v := nI 0) dX6_sums_2 (by decide) ?_
  refine px_istore_n (ls' := [some (.ref 227), some (.int (nI 0)), some (.int (nI 0)), some (.int (nI 0))]) dX6_sums_3 rfl rfl (by decide) ?_
  have lp : ∀ i : Nat, i ≤ n → PS l E D cA mX6_sums (d + 3) fin 4 [some (.ref 227), some (.int (nI 0)), some (.int (nI (smN (tl a) i))), some (.int (nI i))] [] μ := by
    refine ps_for _ ?_ ?_
    · skip
      refine pw_iload_n dX6_sums_4 rfl ?_
      refine pw_aload_n dX6_sums_5 rfl ?_
      refine ps_geti (x := nI n) dX6_sums_6 kf_X6_82 (by decide) (by decide +kernel) (hP.1) ?_
      refine pn_ge (tgt := 39) dX6_sums_9 (by decide) (by omega) (by omega) (fun _ => ?_) (fun h9 => absurd h9 (by omega))
      refine pw_iload_n dX6_sums_39 rfl ?_
      exact ps_iret dX6_sums_40 rfl (rfl) hf
    · intro i hi ih 
      have hPi := hP.t hw hna hi
      refine pw_iload_n dX6_sums_4 rfl ?_
      refine pw_aload_n dX6_sums_5 rfl ?_
      refine ps_geti (x := nI n) dX6_sums_6 kf_X6_82 (by decide) (by decide +kernel) (hP.1) ?_
      refine pn_ge (tgt := 39) dX6_sums_9 (by decide) (by omega) (by omega) (fun h9 => absurd h9 (by omega)) (fun _ => ?_)
      refine pw_iload_n dX6_sums_12 rfl ?_
      refine pw_iload_n dX6_sums_13 rfl ?_
      refine pw_if_eq (tgt := 25) dX6_sums_14 (by decide) (fun _ => ?_) (fun h9 => absurd nI_0 h9)
      refine pw_aload_n dX6_sums_25 rfl ?_
      refine ps_getr (r := 237) dX6_sums_26 kf_X6_38 (by decide) (by decide +kernel) ?_
      refine pw_iload_n dX6_sums_29 rfl ?_
      refine ps_iald (j := i) (x := nI (tl a i)) dX6_sums_30 rfl (ok_ar (n := 6) (by decide +kernel) (by omega)) (hP.t hw hna hi).1 ?_
      refine px_iaddn (c := smN (tl a) (i + 1)) dX6_sums_31 rfl ?_
      refine px_istore_n (ls' := [some (.ref 227), some (.int (nI 0)), some (.int (nI (smN (tl a) (i + 1)))), some (.int (nI i))]) dX6_sums_32 rfl rfl (by decide) ?_
      refine px_iincn (n := 1) (a := i) (b := i + 1) (ls' := [some (.ref 227), some (.int (nI 0)), some (.int (nI (smN (tl a) (i + 1)))), some (.int (nI (i + 1)))]) dX6_sums_33 rfl rfl rfl (by omega) ?_
      refine pw_goto (tgt := 4) dX6_sums_36 (by decide) ?_
      exact ih
  exact lp 0 (Nat.zero_le _)
set_option maxRecDepth 100000 in
set_option maxHeartbeats 4000000 in
theorem m_lastEnd {n : Nat} {a : AS} (hw : Wf a) (hna : n ≤ a 3) (hP : PM μ a n) (hf : fin (some (.int (nI (lse a n n)))) μ) : PS l E D cA mX6_lastEnd d fin 0 [some (.ref 227), none, none] [] μ := by
  have hn6 : n ≤ 6 := Nat.le_trans hna hw.2.2.2.1
  refine pw_iconst_ (v := nI 0) dX6_lastEnd_0 (by decide) ?_
  refine px_istore_n (ls' := [some (.ref 227), some (.int (nI 0)), none]) dX6_lastEnd_1 rfl rfl (by decide) ?_
  refine pw_iconst_ (v := nI 0) dX6_lastEnd_2 (by decide) ?_
  refine px_istore_n (ls' := [some (.ref 227), some (.int (nI 0)), some (.int (nI 0))]) dX6_lastEnd_3 rfl rfl (by decide) ?_
  have lp : ∀ i : Nat, i ≤ n → PS l E D cA mX6_lastEnd d fin 4 [some (.ref 227), some (.int (nI (lse a n i))), some (.int (nI i))] [] μ := by
    refine ps_for _ ?_ ?_
    · skip
      refine pw_iload_n dX6_lastEnd_4 rfl ?_
      refine pw_aload_n dX6_lastEnd_5 rfl ?_
      refine ps_geti (x := nI n) dX6_lastEnd_6 kf_X6_82 (by decide) (by decide +kernel) (hP.1) ?_
      refine pn_ge (tgt := 39) dX6_lastEnd_9 (by decide) (by omega) (by omega) (fun _ => ?_) (fun h9 => absurd h9 (by omega))
      refine pw_iload_n dX6_lastEnd_39 rfl ?_
      exact ps_iret dX6_lastEnd_40 rfl (rfl) hf
    · intro i hi ih 
      have hPi := hP.t hw hna hi
      refine pw_iload_n dX6_lastEnd_4 rfl ?_
      refine pw_aload_n dX6_lastEnd_5 rfl ?_
      refine ps_geti (x := nI n) dX6_lastEnd_6 kf_X6_82 (by decide) (by decide +kernel) (hP.1) ?_
      refine pn_ge (tgt := 39) dX6_lastEnd_9 (by decide) (by omega) (by omega) (fun h9 => absurd h9 (by omega)) (fun _ => ?_)
      have hl9 := lse_le (a := a) (n := n) (fun t ht => (hP.t hw hna ht).2.2.2.1) i (by omega)
      refine pw_aload_n dX6_lastEnd_12 rfl ?_
      refine ps_getr (r := 243) dX6_lastEnd_13 kf_X6_56 (by decide) (by decide +kernel) ?_
      refine pw_iload_n dX6_lastEnd_16 rfl ?_
      refine ps_iald (j := i) (x := nI (OV a n i)) dX6_lastEnd_17 rfl (ok_ar (n := 6) (by decide +kernel) (by omega)) (hP.t hw hna hi).2.2.1 ?_
      refine pw_iload_n dX6_lastEnd_18 rfl ?_
      refine pn_le (tgt := 31) dX6_lastEnd_19 (by decide) (by omega) (by omega) (fun hc => ?_) (fun hc => ?_)
      · refine pw_iload_n dX6_lastEnd_31 rfl ?_
        refine px_istore_n (ls' := [some (.ref 227), some (.int (nI (lse a n i))), some (.int (nI i))]) dX6_lastEnd_32 rfl rfl (by decide) ?_
        refine px_iincn (n := 1) (a := i) (b := i + 1) (ls' := [some (.ref 227), some (.int (nI (lse a n i))), some (.int (nI (i + 1)))]) dX6_lastEnd_33 rfl rfl rfl (by omega) ?_
        refine pw_goto (tgt := 4) dX6_lastEnd_36 (by decide) ?_
        rw [show lse a n (i + 1) = lse a n i by rw [lse]; exact if_neg (by omega)] at ih
        exact ih
      · refine pw_aload_n dX6_lastEnd_22 rfl ?_
        refine ps_getr (r := 243) dX6_lastEnd_23 kf_X6_56 (by decide) (by decide +kernel) ?_
        refine pw_iload_n dX6_lastEnd_26 rfl ?_
        refine ps_iald (j := i) (x := nI (OV a n i)) dX6_lastEnd_27 rfl (ok_ar (n := 6) (by decide +kernel) (by omega)) (hP.t hw hna hi).2.2.1 ?_
        refine pw_goto (tgt := 32) dX6_lastEnd_28 (by decide) ?_
        refine px_istore_n (ls' := [some (.ref 227), some (.int (nI (OV a n i))), some (.int (nI i))]) dX6_lastEnd_32 rfl rfl (by decide) ?_
        refine px_iincn (n := 1) (a := i) (b := i + 1) (ls' := [some (.ref 227), some (.int (nI (OV a n i))), some (.int (nI (i + 1)))]) dX6_lastEnd_33 rfl rfl rfl (by omega) ?_
        refine pw_goto (tgt := 4) dX6_lastEnd_36 (by decide) ?_
        rw [show lse a n (i + 1) = OV a n i by rw [lse]; exact if_pos (by omega)] at ih
        exact ih
  exact lp 0 (Nat.zero_le _)
end MODQ
