/-! questions -/
/-- what is asked of a visit -/
def vsN (a : AS) (t k : Nat) : Nat → Int32
  | 0 => nI (trv a t k)
  | 1 => nI (CM a (a 3) t k)
  | 2 => nI (BG a (a 3) t k)
  | 3 => nI (EN a (a 3) t k)
  | _ => nI (wk a t k)
/-- what is asked of a team -/
def tmN (a : AS) (t : Nat) : Nat → Int32
  | 0 => nI (a (36 + 12 * t))
  | 1 => nI (OV a (a 3) t)
  | 2 => nI (a (39 + 12 * t))
  | 3 => nI (tl a t)
  | 4 => nI (qd a (a 3) t (tl a t))
  | 5 => nI (wd a t (tl a t))
  | 6 => pt a (a 3) t
  | 7 => nI (rk a (a 3) t)
  | 8 => nI (hd a t (tl a t))
  | _ => nI (msk (metp a (a 3) t) (a 3))
/-- what is asked of a place -/
def plN (a : AS) (p : Nat) : Nat → Int32
  | 0 => nI (a (4 + 4 * p))
  | 1 => nI (a (5 + 4 * p))
  | 2 => nI (a (6 + 4 * p))
  | 3 => nI (1 - a (7 + 4 * p))
  | 4 => nI (msk (fun t => (vis a t p).isSome) (a 3))
  | 5 => nI (smN (qat a (a 3) p) (a 3))
  | 6 => nI (mo a (a 3) p (a 3))
  | _ => nI (prs (fun t u => mtp a (a 3) t u p) (a 3) (a 3))
/-- what is asked of all -/
def ctN (c : CS) : Nat → Int32
  | 0 => nI (na c 0)
  | 1 => nI (na c 1)
  | 2 => nI (na c 2)
  | 3 => nI (na c 3)
  | 4 => nI (opn (na c))
  | 5 => nI (prs (mt (na c) (na c 3)) (na c 3) (na c 3))
  | 6 => nI (lse (na c) (na c 3) (na c 3))
  | 7 => nI (qal (na c) (na c 3))
  | 8 => eF (wnp (na c) (na c 3) (na c 3))
  | 9 => psm (na c) (na c 3) (na c 3)
  | 10 => nI (smN (tl (na c)) (na c 3))
  | 11 => nI (pL c)
  | _ => nI (hN c)
def o_visit (c : CS) (v u w : Int32) : Int32 × CS := if inT v (na c 3) then (if inR w 4 then (if inT u (tl (na c) (iN v)) then (vsN (na c) (iN v) (iN u) (iN w), c) else (-100006, c)) else (-100002, c)) else (-100001, c)
def o_teamOf (c : CS) (v w : Int32) : Int32 × CS := if inT v (na c 3) then (if inR w 9 then (tmN (na c) (iN v) (iN w), c) else (-100002, c)) else (-100001, c)
def o_placeOf (c : CS) (v w : Int32) : Int32 × CS := if inR v 7 then (if inR w 7 then (plN (na c) (iN v) (iN w), c) else (-100002, c)) else (-100001, c)
def o_where (c : CS) (v w : Int32) : Int32 × CS := if inT v (na c 3) then (if ¬ w < 0 then (eP (na c) (iN v) (whr (na c) (na c 3) (iN v) (iN w)), c) else (-100002, c)) else (-100001, c)
def o_told (c : CS) (v w : Int32) : Int32 × CS := if inT v (na c 3) then (if ¬ w < 0 then (eP (na c) (iN v) (tld (na c) (na c 3) (iN v) (iN w)), c) else (-100002, c)) else (-100001, c)
def o_count (c : CS) (w : Int32) : Int32 × CS := if inR w 12 then (ctN c (iN w), c) else (-100002, c)
theorem nn_nI {w : Int32} (h : ¬ w < 0) : ∃ m : Nat, m < 2 ^ 31 ∧ w = nI m := by
  have h1 := Int32.not_lt.mp h
  rw [Int32.le_iff_toInt_le, show (0 : Int32).toInt = 0 from rfl] at h1
  have h2 := w.toInt_lt
  refine ⟨w.toInt.toNat, by omega, ?_⟩
  apply Int32.toInt_inj.mp
  rw [nI_toInt (by omega)]
  omega
theorem out_of {w : Int32} {m : Nat} (hm : m < 2 ^ 30) (h : ¬ inR w m) : w.toInt < 0 ∨ (m : Int) < w.toInt := by
  by_cases a : w < nI 0
  · left
    rw [Int32.lt_iff_toInt_lt, nI_toInt (by decide)] at a
    exact a
  · by_cases b : nI m < w
    · right
      rw [Int32.lt_iff_toInt_lt, nI_toInt (by omega)] at b
      exact b
    · exact absurd ⟨a, b⟩ h
section ASK
variable {l : Launch} {E : EY} {D : va_G} {cA : Nat → ClassId} {fin : Option Value → Mu → Prop} {μ : Mu} {d : Nat}
set_option maxRecDepth 100000 in
set_option maxHeartbeats 4000000 in
theorem x_teamOf {c : CS} (hw : CW c) (hx : CX μ c) {v w : Int32} (hf : ∀ ν : Mu, CX ν (o_teamOf c v w).2 → SM ν μ → fin (some (.int (o_teamOf c v w).1)) ν) : PS l E D cA mX5_teamOf (d + 5) fin 0 [some (.ref 0), some (.int v), some (.int w)] [] μ := by
  have hq := hx
  refine pw_aload_n dX5_teamOf_0 rfl ?_
  refine pw_iload_n dX5_teamOf_1 rfl ?_
  refine ps_callV (b := 0) (As := [.int v]) (st := []) dX5_teamOf_2 cv_X5_121 rfl ⟨by decide, by decide +kernel⟩ (Nat.le_of_ble_eq_true rfl) (Nat.le_of_ble_eq_true rfl) ?_
  refine c_isTeam hx.1.2.1 ?_
  refine pw_if_ne (tgt := 11) dX5_teamOf_5 (by decide) (fun h9 => ?_) (fun h9 => ?_)
  · have h1 := kb_ne0.mp h9
    obtain ⟨t, ht, rfl⟩ := (rg_nat (by have := hw.1.t6; omega)).mp h1
    have t6 : t < 6 := Nat.lt_of_lt_of_le ht hw.1.t6
    have htn : iN (nI t) = t := iN_nI (by omega)
    refine pw_aload_n dX5_teamOf_11 rfl ?_
    refine ps_callV (b := 0) (As := []) (st := []) dX5_teamOf_12 cv_X5_159 rfl ⟨by decide, by decide +kernel⟩ (Nat.le_of_ble_eq_true rfl) (Nat.le_of_ble_eq_true rfl) ?_
    refine c_playNow hw.1 hx.1 ?_
    intro ρ p1 p2 p3
    have hxρ : CX ρ c := hx.off hw (fun q k g1 g2 => p3 q k (by omega))
    have hSρ : SM ρ μ := fun q k g => p3 q k (by omega)
    show PS l E D cA mX5_teamOf (d + 5) fin 15 [some (.ref 0), some (.int (nI t)), some (.int w)] [] ρ
    refine pw_iload_n dX5_teamOf_15 rfl ?_
    have hT := hxρ.1.2.2.2.2 t ht
    have hPt := p1.t hw.1 (Nat.le_refl _) ht
    by_cases hk : inR w 9
    · obtain ⟨k, hk2, rfl⟩ := (rg_to (by decide)).mp hk
      rcases (show k = 0 ∨ k = 1 ∨ k = 2 ∨ k = 3 ∨ k = 4 ∨ k = 5 ∨ k = 6 ∨ k = 7 ∨ k = 8 ∨ k = 9 by omega) with rfl | rfl | rfl | rfl | rfl | rfl | rfl | rfl | rfl | rfl
      · refine pw_switchIn (tgt := 72) dX5_teamOf_16 (by decide) (by decide) rfl (by decide) ?_
        refine pw_aload_n dX5_teamOf_72 rfl ?_
        refine ps_getr (r := 1) dX5_teamOf_73 kf_X5_10 (by decide) (by decide +kernel) ?_
        refine ps_getr (r := 6) dX5_teamOf_76 kf_X5_102 (by decide) (by decide +kernel) ?_
        refine pw_iload_n dX5_teamOf_79 rfl ?_
        refine ps_aald (t := 5) (j := t) (r := 7 + 2 * t) dX5_teamOf_80 rfl (ok_T (by unfold isS; decide : isS 1) (by omega)).1 (by decide) ?_
        refine ps_geti (x := nI (na c (36 + 12 * t))) dX5_teamOf_81 kf_X5_110 (by decide) ((ok_T (by unfold isS; decide : isS 1) (by omega)).2.2.2.1) (hT.2.1) ?_
        have e9 : o_teamOf c (nI t) (nI 0) = (nI (na c (36 + 12 * t)), c) := by
          unfold o_teamOf
          rw [if_pos h1, htn, if_pos (by decide)]
          rfl
        rw [e9] at hf
        exact ps_iret dX5_teamOf_84 rfl rfl (hf ρ hxρ hSρ)
      · refine pw_switchIn (tgt := 85) dX5_teamOf_16 (by decide) (by decide) rfl (by decide) ?_
        refine pw_aload_n dX5_teamOf_85 rfl ?_
        refine ps_getr (r := 37) dX5_teamOf_86 kf_X5_22 (by decide) (by decide +kernel) ?_
        refine ps_getr (r := 75) dX5_teamOf_89 kf_X5_184 (by decide) (by decide +kernel) ?_
        refine pw_iload_n dX5_teamOf_92 rfl ?_
        refine ps_iald (j := t) (x := nI (OV (na c) (na c 3) t)) dX5_teamOf_93 rfl (ok_ar (n := 6) (by decide +kernel) (by omega)) (hPt.2.2.1) ?_
        have e9 : o_teamOf c (nI t) (nI 1) = (nI (OV (na c) (na c 3) t), c) := by
          unfold o_teamOf
          rw [if_pos h1, htn, if_pos (by decide)]
          rfl
        rw [e9] at hf
        exact ps_iret dX5_teamOf_94 rfl rfl (hf ρ hxρ hSρ)
      · refine pw_switchIn (tgt := 95) dX5_teamOf_16 (by decide) (by decide) rfl (by decide) ?_
        refine pw_aload_n dX5_teamOf_95 rfl ?_
        refine ps_getr (r := 1) dX5_teamOf_96 kf_X5_10 (by decide) (by decide +kernel) ?_
        refine ps_getr (r := 6) dX5_teamOf_99 kf_X5_102 (by decide) (by decide +kernel) ?_
        refine pw_iload_n dX5_teamOf_102 rfl ?_
        refine ps_aald (t := 5) (j := t) (r := 7 + 2 * t) dX5_teamOf_103 rfl (ok_T (by unfold isS; decide : isS 1) (by omega)).1 (by decide) ?_
        refine ps_geti (x := nI (na c (39 + 12 * t))) dX5_teamOf_104 kf_X5_137 (by decide) ((ok_T (by unfold isS; decide : isS 1) (by omega)).2.2.1) (hT.1) ?_
        have e9 : o_teamOf c (nI t) (nI 2) = (nI (na c (39 + 12 * t)), c) := by
          unfold o_teamOf
          rw [if_pos h1, htn, if_pos (by decide)]
          rfl
        rw [e9] at hf
        exact ps_iret dX5_teamOf_107 rfl rfl (hf ρ hxρ hSρ)
      · refine pw_switchIn (tgt := 108) dX5_teamOf_16 (by decide) (by decide) rfl (by decide) ?_
        refine pw_aload_n dX5_teamOf_108 rfl ?_
        refine ps_getr (r := 37) dX5_teamOf_109 kf_X5_22 (by decide) (by decide +kernel) ?_
        refine ps_getr (r := 38) dX5_teamOf_112 kf_X5_165 (by decide) (by decide +kernel) ?_
        refine pw_iload_n dX5_teamOf_115 rfl ?_
        refine ps_iald (j := t) (x := nI (tl (na c) t)) dX5_teamOf_116 rfl (ok_ar (n := 6) (by decide +kernel) (by omega)) (hPt.1) ?_
        have e9 : o_teamOf c (nI t) (nI 3) = (nI (tl (na c) t), c) := by
          unfold o_teamOf
          rw [if_pos h1, htn, if_pos (by decide)]
          rfl
        rw [e9] at hf
        exact ps_iret dX5_teamOf_117 rfl rfl (hf ρ hxρ hSρ)
      · refine pw_switchIn (tgt := 118) dX5_teamOf_16 (by decide) (by decide) rfl (by decide) ?_
        refine pw_aload_n dX5_teamOf_118 rfl ?_
        refine ps_getr (r := 37) dX5_teamOf_119 kf_X5_22 (by decide) (by decide +kernel) ?_
        refine pw_iload_n dX5_teamOf_122 rfl ?_
        refine ps_callV (b := 37) (As := [.int (nI t)]) (st := []) dX5_teamOf_123 cv_X5_187 rfl ⟨by decide, by decide +kernel⟩ (Nat.le_of_ble_eq_true rfl) (Nat.le_of_ble_eq_true rfl) ?_
        refine c_queueingOf hw.1 (Nat.le_refl _) p1 ht ?_
        have e9 : o_teamOf c (nI t) (nI 4) = (nI (qd (na c) (na c 3) t (tl (na c) t)), c) := by
          unfold o_teamOf
          rw [if_pos h1, htn, if_pos (by decide)]
          rfl
        rw [e9] at hf
        exact ps_iret dX5_teamOf_126 rfl rfl (hf ρ hxρ hSρ)
      · refine pw_switchIn (tgt := 127) dX5_teamOf_16 (by decide) (by decide) rfl (by decide) ?_
        refine pw_aload_n dX5_teamOf_127 rfl ?_
        refine ps_getr (r := 37) dX5_teamOf_128 kf_X5_22 (by decide) (by decide +kernel) ?_
        refine pw_iload_n dX5_teamOf_131 rfl ?_
        refine ps_callV (b := 37) (As := [.int (nI t)]) (st := []) dX5_teamOf_132 cv_X5_190 rfl ⟨by decide, by decide +kernel⟩ (Nat.le_of_ble_eq_true rfl) (Nat.le_of_ble_eq_true rfl) ?_
        refine c_walkingOf hw.1 (Nat.le_refl _) p1 ht ?_
        have e9 : o_teamOf c (nI t) (nI 5) = (nI (wd (na c) t (tl (na c) t)), c) := by
          unfold o_teamOf
          rw [if_pos h1, htn, if_pos (by decide)]
          rfl
        rw [e9] at hf
        exact ps_iret dX5_teamOf_135 rfl rfl (hf ρ hxρ hSρ)
      · refine pw_switchIn (tgt := 136) dX5_teamOf_16 (by decide) (by decide) rfl (by decide) ?_
        refine pw_aload_n dX5_teamOf_136 rfl ?_
        refine ps_getr (r := 37) dX5_teamOf_137 kf_X5_22 (by decide) (by decide +kernel) ?_
        refine pw_iload_n dX5_teamOf_140 rfl ?_
        refine ps_callV (b := 37) (As := [.int (nI t)]) (st := []) dX5_teamOf_141 cv_X5_193 rfl ⟨by decide, by decide +kernel⟩ (Nat.le_of_ble_eq_true rfl) (Nat.le_of_ble_eq_true rfl) ?_
        refine c_pointsOf hw.1 (Nat.le_refl _) p1 ht isS_1 p2 hxρ.1 ?_
        have e9 : o_teamOf c (nI t) (nI 6) = (pt (na c) (na c 3) t, c) := by
          unfold o_teamOf
          rw [if_pos h1, htn, if_pos (by decide)]
          rfl
        rw [e9] at hf
        exact ps_iret dX5_teamOf_144 rfl rfl (hf ρ hxρ hSρ)
      · refine pw_switchIn (tgt := 145) dX5_teamOf_16 (by decide) (by decide) rfl (by decide) ?_
        refine pw_aload_n dX5_teamOf_145 rfl ?_
        refine ps_getr (r := 37) dX5_teamOf_146 kf_X5_22 (by decide) (by decide +kernel) ?_
        refine pw_iload_n dX5_teamOf_149 rfl ?_
        refine ps_callV (b := 37) (As := [.int (nI t)]) (st := []) dX5_teamOf_150 cv_X5_196 rfl ⟨by decide, by decide +kernel⟩ (Nat.le_of_ble_eq_true rfl) (Nat.le_of_ble_eq_true rfl) ?_
        refine c_rankOf hw.1 (Nat.le_refl _) p1 isS_1 p2 hxρ.1 ht ?_
        have e9 : o_teamOf c (nI t) (nI 7) = (nI (rk (na c) (na c 3) t), c) := by
          unfold o_teamOf
          rw [if_pos h1, htn, if_pos (by decide)]
          rfl
        rw [e9] at hf
        exact ps_iret dX5_teamOf_153 rfl rfl (hf ρ hxρ hSρ)
      · refine pw_switchIn (tgt := 154) dX5_teamOf_16 (by decide) (by decide) rfl (by decide) ?_
        refine pw_aload_n dX5_teamOf_154 rfl ?_
        refine ps_getr (r := 37) dX5_teamOf_155 kf_X5_22 (by decide) (by decide +kernel) ?_
        refine pw_iload_n dX5_teamOf_158 rfl ?_
        refine ps_callV (b := 37) (As := [.int (nI t)]) (st := []) dX5_teamOf_159 cv_X5_199 rfl ⟨by decide, by decide +kernel⟩ (Nat.le_of_ble_eq_true rfl) (Nat.le_of_ble_eq_true rfl) ?_
        refine c_hintsOf hw.1 (Nat.le_refl _) p1 ht isS_1 p2 hxρ.1 ?_
        have e9 : o_teamOf c (nI t) (nI 8) = (nI (hd (na c) t (tl (na c) t)), c) := by
          unfold o_teamOf
          rw [if_pos h1, htn, if_pos (by decide)]
          rfl
        rw [e9] at hf
        exact ps_iret dX5_teamOf_162 rfl rfl (hf ρ hxρ hSρ)
      · refine pw_switchIn (tgt := 163) dX5_teamOf_16 (by decide) (by decide) rfl (by decide) ?_
        refine pw_aload_n dX5_teamOf_163 rfl ?_
        refine ps_getr (r := 37) dX5_teamOf_164 kf_X5_22 (by decide) (by decide +kernel) ?_
        refine pw_iload_n dX5_teamOf_167 rfl ?_
        refine ps_callV (b := 37) (As := [.int (nI t)]) (st := []) dX5_teamOf_168 cv_X5_202 rfl ⟨by decide, by decide +kernel⟩ (Nat.le_of_ble_eq_true rfl) (Nat.le_of_ble_eq_true rfl) ?_
        refine c_teamsMetBy hw.1 (Nat.le_refl _) p1 ht ?_
        have e9 : o_teamOf c (nI t) (nI 9) = (nI (msk (metp (na c) (na c 3) t) (na c 3)), c) := by
          unfold o_teamOf
          rw [if_pos h1, htn, if_pos (by decide)]
          rfl
        rw [e9] at hf
        exact ps_iret dX5_teamOf_171 rfl rfl (hf ρ hxρ hSρ)
    · refine pw_switchOut (tgt := 172) dX5_teamOf_16 (out_of (m := 9) (by decide) hk) (by decide) ?_
      refine pw_ldc dX5_teamOf_172 kc_X5_52 ?_
      have e9 : o_teamOf c (nI t) w = (-100002, c) := by
        unfold o_teamOf
        rw [if_pos h1, if_neg hk]
      rw [e9] at hf
      exact ps_iret dX5_teamOf_174 rfl rfl (hf ρ hxρ hSρ)
  · have h1 := kb_eq0.mp h9
    refine pw_ldc dX5_teamOf_8 kc_X5_71 ?_
    have e9 : o_teamOf c v w = ((-100001), c) := by
      unfold o_teamOf
      rw [if_neg h1]
    rw [e9] at hf
    exact ps_iret dX5_teamOf_10 rfl (rfl) (hf _ hx SM.rfl)
set_option maxRecDepth 100000 in
set_option maxHeartbeats 4000000 in
theorem x_count {c : CS} (hw : CW c) (hx : CX μ c) {w : Int32} (hf : ∀ ν : Mu, CX ν (o_count c w).2 → SM ν μ → fin (some (.int (o_count c w).1)) ν) : PS l E D cA mX5_count (d + 5) fin 0 [some (.ref 0), some (.int w)] [] μ := by
  have hq := hx
  refine pw_aload_n dX5_count_0 rfl ?_
  refine ps_callV (b := 0) (As := []) (st := []) dX5_count_1 cv_X5_159 rfl ⟨by decide, by decide +kernel⟩ (Nat.le_of_ble_eq_true rfl) (Nat.le_of_ble_eq_true rfl) ?_
  refine c_playNow hw.1 hx.1 ?_
  intro ρ p1 p2 p3
  have hxρ : CX ρ c := hx.off hw (fun q k g1 g2 => p3 q k (by omega))
  have hSρ : SM ρ μ := fun q k g => p3 q k (by omega)
  show PS l E D cA mX5_count (d + 5) fin 4 [some (.ref 0), some (.int w)] [] ρ
  refine pw_iload_n dX5_count_4 rfl ?_
  obtain ⟨m, hm8, hm, hb⟩ := hxρ.1.2.2.2.1
  by_cases hk : inR w 12
  · obtain ⟨k, hk2, rfl⟩ := (rg_to (by decide)).mp hk
    rcases (show k = 0 ∨ k = 1 ∨ k = 2 ∨ k = 3 ∨ k = 4 ∨ k = 5 ∨ k = 6 ∨ k = 7 ∨ k = 8 ∨ k = 9 ∨ k = 10 ∨ k = 11 ∨ k = 12 by omega) with rfl | rfl | rfl | rfl | rfl | rfl | rfl | rfl | rfl | rfl | rfl | rfl | rfl
    · refine pw_switchIn (tgt := 72) dX5_count_5 (by decide) (by decide) rfl (by decide) ?_
      refine pw_aload_n dX5_count_72 rfl ?_
      refine ps_getr (r := 1) dX5_count_73 kf_X5_10 (by decide) (by decide +kernel) ?_
      refine ps_getr (r := 2) dX5_count_76 kf_X5_64 (by decide) (by decide +kernel) ?_
      refine pw_iload_n dX5_count_79 rfl ?_
      refine ps_iald (j := 0) (x := nI (na c 0)) dX5_count_80 rfl (ok_ar (n := 3) (by decide +kernel) (by decide)) (hxρ.1.1 0 (by decide)) ?_
      have e9 : o_count c (nI 0) = (nI (na c 0), c) := by
        unfold o_count
        rw [if_pos (by decide)]
        rfl
      rw [e9] at hf
      exact ps_iret dX5_count_81 rfl rfl (hf ρ hxρ hSρ)
    · refine pw_switchIn (tgt := 72) dX5_count_5 (by decide) (by decide) rfl (by decide) ?_
      refine pw_aload_n dX5_count_72 rfl ?_
      refine ps_getr (r := 1) dX5_count_73 kf_X5_10 (by decide) (by decide +kernel) ?_
      refine ps_getr (r := 2) dX5_count_76 kf_X5_64 (by decide) (by decide +kernel) ?_
      refine pw_iload_n dX5_count_79 rfl ?_
      refine ps_iald (j := 1) (x := nI (na c 1)) dX5_count_80 rfl (ok_ar (n := 3) (by decide +kernel) (by decide)) (hxρ.1.1 1 (by decide)) ?_
      have e9 : o_count c (nI 1) = (nI (na c 1), c) := by
        unfold o_count
        rw [if_pos (by decide)]
        rfl
      rw [e9] at hf
      exact ps_iret dX5_count_81 rfl rfl (hf ρ hxρ hSρ)
    · refine pw_switchIn (tgt := 72) dX5_count_5 (by decide) (by decide) rfl (by decide) ?_
      refine pw_aload_n dX5_count_72 rfl ?_
      refine ps_getr (r := 1) dX5_count_73 kf_X5_10 (by decide) (by decide +kernel) ?_
      refine ps_getr (r := 2) dX5_count_76 kf_X5_64 (by decide) (by decide +kernel) ?_
      refine pw_iload_n dX5_count_79 rfl ?_
      refine ps_iald (j := 2) (x := nI (na c 2)) dX5_count_80 rfl (ok_ar (n := 3) (by decide +kernel) (by decide)) (hxρ.1.1 2 (by decide)) ?_
      have e9 : o_count c (nI 2) = (nI (na c 2), c) := by
        unfold o_count
        rw [if_pos (by decide)]
        rfl
      rw [e9] at hf
      exact ps_iret dX5_count_81 rfl rfl (hf ρ hxρ hSρ)
    · refine pw_switchIn (tgt := 82) dX5_count_5 (by decide) (by decide) rfl (by decide) ?_
      refine pw_aload_n dX5_count_82 rfl ?_
      refine ps_getr (r := 1) dX5_count_83 kf_X5_10 (by decide) (by decide +kernel) ?_
      refine ps_geti (x := nI (na c 3)) dX5_count_86 kf_X5_98 (by decide) (by decide +kernel) (hxρ.1.2.1) ?_
      have e9 : o_count c (nI 3) = (nI (na c 3), c) := by
        unfold o_count
        rw [if_pos (by decide)]
        rfl
      rw [e9] at hf
      exact ps_iret dX5_count_89 rfl rfl (hf ρ hxρ hSρ)
    · refine pw_switchIn (tgt := 90) dX5_count_5 (by decide) (by decide) rfl (by decide) ?_
      refine pw_aload_n dX5_count_90 rfl ?_
      refine ps_getr (r := 1) dX5_count_91 kf_X5_10 (by decide) (by decide +kernel) ?_
      refine ps_callV (b := 1) (As := []) (st := []) dX5_count_94 cv_X5_89 rfl ⟨by decide, by decide +kernel⟩ (Nat.le_of_ble_eq_true rfl) (Nat.le_of_ble_eq_true rfl) ?_
      refine c_S_openPlaces isS_1 hm8 hm ?_
      rw [opn_pop hb]
      have e9 : o_count c (nI 4) = (nI (opn (na c)), c) := by
        unfold o_count
        rw [if_pos (by decide)]
        rfl
      rw [e9] at hf
      exact ps_iret dX5_count_97 rfl rfl (hf ρ hxρ hSρ)
    · refine pw_switchIn (tgt := 98) dX5_count_5 (by decide) (by decide) rfl (by decide) ?_
      refine pw_aload_n dX5_count_98 rfl ?_
      refine ps_getr (r := 37) dX5_count_99 kf_X5_22 (by decide) (by decide +kernel) ?_
      refine ps_callV (b := 37) (As := []) (st := []) dX5_count_102 cv_X5_162 rfl ⟨by decide, by decide +kernel⟩ (Nat.le_of_ble_eq_true rfl) (Nat.le_of_ble_eq_true rfl) ?_
      refine c_pairs hw.1 (Nat.le_refl _) p1 ?_
      have e9 : o_count c (nI 5) = (nI (prs (mt (na c) (na c 3)) (na c 3) (na c 3)), c) := by
        unfold o_count
        rw [if_pos (by decide)]
        rfl
      rw [e9] at hf
      exact ps_iret dX5_count_105 rfl rfl (hf ρ hxρ hSρ)
    · refine pw_switchIn (tgt := 106) dX5_count_5 (by decide) (by decide) rfl (by decide) ?_
      refine pw_aload_n dX5_count_106 rfl ?_
      refine ps_getr (r := 37) dX5_count_107 kf_X5_22 (by decide) (by decide +kernel) ?_
      refine ps_callV (b := 37) (As := []) (st := []) dX5_count_110 cv_X5_224 rfl ⟨by decide, by decide +kernel⟩ (Nat.le_of_ble_eq_true rfl) (Nat.le_of_ble_eq_true rfl) ?_
      refine c_lastEnd hw.1 (Nat.le_refl _) p1 ?_
      have e9 : o_count c (nI 6) = (nI (lse (na c) (na c 3) (na c 3)), c) := by
        unfold o_count
        rw [if_pos (by decide)]
        rfl
      rw [e9] at hf
      exact ps_iret dX5_count_113 rfl rfl (hf ρ hxρ hSρ)
    · refine pw_switchIn (tgt := 114) dX5_count_5 (by decide) (by decide) rfl (by decide) ?_
      refine pw_aload_n dX5_count_114 rfl ?_
      refine ps_getr (r := 37) dX5_count_115 kf_X5_22 (by decide) (by decide +kernel) ?_
      refine ps_callV (b := 37) (As := []) (st := []) dX5_count_118 cv_X5_227 rfl ⟨by decide, by decide +kernel⟩ (Nat.le_of_ble_eq_true rfl) (Nat.le_of_ble_eq_true rfl) ?_
      refine c_queueing hw.1 (Nat.le_refl _) p1 ?_
      have e9 : o_count c (nI 7) = (nI (qal (na c) (na c 3)), c) := by
        unfold o_count
        rw [if_pos (by decide)]
        rfl
      rw [e9] at hf
      exact ps_iret dX5_count_121 rfl rfl (hf ρ hxρ hSρ)
    · refine pw_switchIn (tgt := 122) dX5_count_5 (by decide) (by decide) rfl (by decide) ?_
      refine pw_aload_n dX5_count_122 rfl ?_
      refine ps_getr (r := 37) dX5_count_123 kf_X5_22 (by decide) (by decide +kernel) ?_
      refine ps_callV (b := 37) (As := []) (st := []) dX5_count_126 cv_X5_230 rfl ⟨by decide, by decide +kernel⟩ (Nat.le_of_ble_eq_true rfl) (Nat.le_of_ble_eq_true rfl) ?_
      refine c_winner hw.1 (Nat.le_refl _) p1 isS_1 p2 hxρ.1 ?_
      have e9 : o_count c (nI 8) = (eF (wnp (na c) (na c 3) (na c 3)), c) := by
        unfold o_count
        rw [if_pos (by decide)]
        rfl
      rw [e9] at hf
      exact ps_iret dX5_count_129 rfl rfl (hf ρ hxρ hSρ)
    · refine pw_switchIn (tgt := 130) dX5_count_5 (by decide) (by decide) rfl (by decide) ?_
      refine pw_aload_n dX5_count_130 rfl ?_
      refine ps_getr (r := 37) dX5_count_131 kf_X5_22 (by decide) (by decide +kernel) ?_
      refine ps_callV (b := 37) (As := []) (st := []) dX5_count_134 cv_X5_233 rfl ⟨by decide, by decide +kernel⟩ (Nat.le_of_ble_eq_true rfl) (Nat.le_of_ble_eq_true rfl) ?_
      refine c_points hw.1 (Nat.le_refl _) p1 isS_1 p2 hxρ.1 ?_
      have e9 : o_count c (nI 9) = (psm (na c) (na c 3) (na c 3), c) := by
        unfold o_count
        rw [if_pos (by decide)]
        rfl
      rw [e9] at hf
      exact ps_iret dX5_count_137 rfl rfl (hf ρ hxρ hSρ)
    · refine pw_switchIn (tgt := 138) dX5_count_5 (by decide) (by decide) rfl (by decide) ?_
      refine pw_aload_n dX5_count_138 rfl ?_
      refine ps_getr (r := 37) dX5_count_139 kf_X5_22 (by decide) (by decide +kernel) ?_
      refine ps_callV (b := 37) (As := []) (st := []) dX5_count_142 cv_X5_236 rfl ⟨by decide, by decide +kernel⟩ (Nat.le_of_ble_eq_true rfl) (Nat.le_of_ble_eq_true rfl) ?_
      refine c_visits hw.1 (Nat.le_refl _) p1 ?_
      have e9 : o_count c (nI 10) = (nI (smN (tl (na c)) (na c 3)), c) := by
        unfold o_count
        rw [if_pos (by decide)]
        rfl
      rw [e9] at hf
      exact ps_iret dX5_count_145 rfl rfl (hf ρ hxρ hSρ)
    · refine pw_switchIn (tgt := 146) dX5_count_5 (by decide) (by decide) rfl (by decide) ?_
      refine pw_aload_n dX5_count_146 rfl ?_
      refine ps_getr (r := 77) dX5_count_147 kf_X5_29 (by decide) (by decide +kernel) ?_
      refine ps_geti (x := nI (pL c)) dX5_count_150 kf_X5_239 (by decide) (by decide +kernel) (hxρ.2.2.2.2.1) ?_
      have e9 : o_count c (nI 11) = (nI (pL c), c) := by
        unfold o_count
        rw [if_pos (by decide)]
        rfl
      rw [e9] at hf
      exact ps_iret dX5_count_153 rfl rfl (hf ρ hxρ hSρ)
    · refine pw_switchIn (tgt := 154) dX5_count_5 (by decide) (by decide) rfl (by decide) ?_
      refine pw_aload_n dX5_count_154 rfl ?_
      refine ps_getr (r := 79) dX5_count_155 kf_X5_36 (by decide) (by decide +kernel) ?_
      refine ps_geti (x := nI (hN c)) dX5_count_158 kf_X5_240 (by decide) (by decide +kernel) (hxρ.2.1.2.1) ?_
      have e9 : o_count c (nI 12) = (nI (hN c), c) := by
        unfold o_count
        rw [if_pos (by decide)]
        rfl
      rw [e9] at hf
      exact ps_iret dX5_count_161 rfl rfl (hf ρ hxρ hSρ)
  · refine pw_switchOut (tgt := 162) dX5_count_5 (out_of (m := 12) (by decide) hk) (by decide) ?_
    refine pw_ldc dX5_count_162 kc_X5_52 ?_
    have e9 : o_count c w = (-100002, c) := by
      unfold o_count
      rw [if_neg hk]
    rw [e9] at hf
    exact ps_iret dX5_count_164 rfl rfl (hf ρ hxρ hSρ)
set_option maxRecDepth 100000 in
set_option maxHeartbeats 4000000 in
theorem x_placeOf {c : CS} (hw : CW c) (hx : CX μ c) {v w : Int32} (hf : ∀ ν : Mu, CX ν (o_placeOf c v w).2 → SM ν μ → fin (some (.int (o_placeOf c v w).1)) ν) : PS l E D cA mX5_placeOf (d + 5) fin 0 [some (.ref 0), some (.int v), some (.int w)] [] μ := by
  have hq := hx
  refine pw_iload_n dX5_placeOf_0 rfl ?_
  refine ps_callS (As := [.int v]) (st := []) dX5_placeOf_1 cs_X5_67 rfl (Nat.le_of_ble_eq_true rfl) (Nat.le_of_ble_eq_true rfl) ?_
  refine c_isPlace ?_
  refine pw_if_ne (tgt := 10) dX5_placeOf_4 (by decide) (fun h9 => ?_) (fun h9 => ?_)
  · have h1 := kb_ne0.mp h9
    obtain ⟨p, hp, rfl⟩ := (rg_to (by decide)).mp h1
    have hp8 : p < 8 := by omega
    have hpn : iN (nI p) = p := iN_nI (by omega)
    refine pw_aload_n dX5_placeOf_10 rfl ?_
    refine ps_callV (b := 0) (As := []) (st := []) dX5_placeOf_11 cv_X5_159 rfl ⟨by decide, by decide +kernel⟩ (Nat.le_of_ble_eq_true rfl) (Nat.le_of_ble_eq_true rfl) ?_
    refine c_playNow hw.1 hx.1 ?_
    intro ρ p1 p2 p3
    have hxρ : CX ρ c := hx.off hw (fun q k g1 g2 => p3 q k (by omega))
    have hSρ : SM ρ μ := fun q k g => p3 q k (by omega)
    show PS l E D cA mX5_placeOf (d + 5) fin 14 [some (.ref 0), some (.int (nI p)), some (.int w)] [] ρ
    refine pw_iload_n dX5_placeOf_14 rfl ?_
    obtain ⟨m, hm8, hm, hb⟩ := hxρ.1.2.2.2.1
    have hL := hxρ.1.2.2.1 p hp8
    have hC := (hw.1.pl hp8).2.2.2
    by_cases hk : inR w 7
    · obtain ⟨k, hk2, rfl⟩ := (rg_to (by decide)).mp hk
      rcases (show k = 0 ∨ k = 1 ∨ k = 2 ∨ k = 3 ∨ k = 4 ∨ k = 5 ∨ k = 6 ∨ k = 7 by omega) with rfl | rfl | rfl | rfl | rfl | rfl | rfl | rfl
      · refine pw_switchIn (tgt := 60) dX5_placeOf_15 (by decide) (by decide) rfl (by decide) ?_
        refine pw_aload_n dX5_placeOf_60 rfl ?_
        refine ps_getr (r := 1) dX5_placeOf_61 kf_X5_10 (by decide) (by decide +kernel) ?_
        refine ps_getr (r := 3) dX5_placeOf_64 kf_X5_75 (by decide) (by decide +kernel) ?_
        refine pw_iload_n dX5_placeOf_67 rfl ?_
        refine ps_iald (j := p) (x := nI (na c (4 + 4 * p))) dX5_placeOf_68 rfl (ok_ar (n := 8) (by decide +kernel) (by omega)) (hL.1) ?_
        have e9 : o_placeOf c (nI p) (nI 0) = (nI (na c (4 + 4 * p)), c) := by
          unfold o_placeOf
          rw [if_pos h1, hpn, if_pos (by decide)]
          rfl
        rw [e9] at hf
        exact ps_iret dX5_placeOf_69 rfl rfl (hf ρ hxρ hSρ)
      · refine pw_switchIn (tgt := 70) dX5_placeOf_15 (by decide) (by decide) rfl (by decide) ?_
        refine pw_aload_n dX5_placeOf_70 rfl ?_
        refine ps_getr (r := 1) dX5_placeOf_71 kf_X5_10 (by decide) (by decide +kernel) ?_
        refine ps_getr (r := 4) dX5_placeOf_74 kf_X5_78 (by decide) (by decide +kernel) ?_
        refine pw_iload_n dX5_placeOf_77 rfl ?_
        refine ps_iald (j := p) (x := nI (na c (5 + 4 * p))) dX5_placeOf_78 rfl (ok_ar (n := 8) (by decide +kernel) (by omega)) (hL.2.1) ?_
        have e9 : o_placeOf c (nI p) (nI 1) = (nI (na c (5 + 4 * p)), c) := by
          unfold o_placeOf
          rw [if_pos h1, hpn, if_pos (by decide)]
          rfl
        rw [e9] at hf
        exact ps_iret dX5_placeOf_79 rfl rfl (hf ρ hxρ hSρ)
      · refine pw_switchIn (tgt := 80) dX5_placeOf_15 (by decide) (by decide) rfl (by decide) ?_
        refine pw_aload_n dX5_placeOf_80 rfl ?_
        refine ps_getr (r := 1) dX5_placeOf_81 kf_X5_10 (by decide) (by decide +kernel) ?_
        refine ps_getr (r := 5) dX5_placeOf_84 kf_X5_72 (by decide) (by decide +kernel) ?_
        refine pw_iload_n dX5_placeOf_87 rfl ?_
        refine ps_iald (j := p) (x := nI (na c (6 + 4 * p))) dX5_placeOf_88 rfl (ok_ar (n := 8) (by decide +kernel) (by omega)) (hL.2.2) ?_
        have e9 : o_placeOf c (nI p) (nI 2) = (nI (na c (6 + 4 * p)), c) := by
          unfold o_placeOf
          rw [if_pos h1, hpn, if_pos (by decide)]
          rfl
        rw [e9] at hf
        exact ps_iret dX5_placeOf_89 rfl rfl (hf ρ hxρ hSρ)
      · refine pw_switchIn (tgt := 90) dX5_placeOf_15 (by decide) (by decide) rfl (by decide) ?_
        refine pw_aload_n dX5_placeOf_90 rfl ?_
        refine ps_getr (r := 1) dX5_placeOf_91 kf_X5_10 (by decide) (by decide +kernel) ?_
        refine pw_iload_n dX5_placeOf_94 rfl ?_
        refine ps_callV (b := 1) (As := [.int (nI p)]) (st := []) dX5_placeOf_95 cv_X5_81 rfl ⟨by decide, by decide +kernel⟩ (Nat.le_of_ble_eq_true rfl) (Nat.le_of_ble_eq_true rfl) ?_
        refine c_S_isClosed isS_1 hm8 hp8 hm ?_
        refine pw_if_eq (tgt := 105) dX5_placeOf_98 (by decide) (fun h9 => ?_) (fun h9 => ?_)
        · have h8 := kb_eq0.mp h9
          rw [hb p hp8] at h8
          refine pw_iconst_ (v := nI 1) dX5_placeOf_105 (by decide) ?_
          have e9 : o_placeOf c (nI p) (nI 3) = (nI 1, c) := by
            unfold o_placeOf
            rw [if_pos h1, hpn, if_pos (by decide)]
            show (nI (1 - na c (7 + 4 * p)), c) = _
            rw [show 1 - na c (7 + 4 * p) = 1 by omega]
          rw [e9] at hf
          exact ps_iret dX5_placeOf_106 rfl rfl (hf ρ hxρ hSρ)
        · have h8 := kb_ne0.mp h9
          rw [hb p hp8] at h8
          refine pw_iconst_ (v := nI 0) dX5_placeOf_101 (by decide) ?_
          refine pw_goto (tgt := 106) dX5_placeOf_102 (by decide) ?_
          have e9 : o_placeOf c (nI p) (nI 3) = (nI 0, c) := by
            unfold o_placeOf
            rw [if_pos h1, hpn, if_pos (by decide)]
            show (nI (1 - na c (7 + 4 * p)), c) = _
            rw [show 1 - na c (7 + 4 * p) = 0 by omega]
          rw [e9] at hf
          exact ps_iret dX5_placeOf_106 rfl rfl (hf ρ hxρ hSρ)
      · refine pw_switchIn (tgt := 107) dX5_placeOf_15 (by decide) (by decide) rfl (by decide) ?_
        refine pw_aload_n dX5_placeOf_107 rfl ?_
        refine ps_getr (r := 37) dX5_placeOf_108 kf_X5_22 (by decide) (by decide +kernel) ?_
        refine pw_iload_n dX5_placeOf_111 rfl ?_
        refine ps_callV (b := 37) (As := [.int (nI p)]) (st := []) dX5_placeOf_112 cv_X5_205 rfl ⟨by decide, by decide +kernel⟩ (Nat.le_of_ble_eq_true rfl) (Nat.le_of_ble_eq_true rfl) ?_
        refine c_teamsAt hw.1 (Nat.le_refl _) p1 hp8 ?_
        have e9 : o_placeOf c (nI p) (nI 4) = (nI (msk (fun t => (vis (na c) t p).isSome) (na c 3)), c) := by
          unfold o_placeOf
          rw [if_pos h1, hpn, if_pos (by decide)]
          rfl
        rw [e9] at hf
        exact ps_iret dX5_placeOf_115 rfl rfl (hf ρ hxρ hSρ)
      · refine pw_switchIn (tgt := 116) dX5_placeOf_15 (by decide) (by decide) rfl (by decide) ?_
        refine pw_aload_n dX5_placeOf_116 rfl ?_
        refine ps_getr (r := 37) dX5_placeOf_117 kf_X5_22 (by decide) (by decide +kernel) ?_
        refine pw_iload_n dX5_placeOf_120 rfl ?_
        refine ps_callV (b := 37) (As := [.int (nI p)]) (st := []) dX5_placeOf_121 cv_X5_208 rfl ⟨by decide, by decide +kernel⟩ (Nat.le_of_ble_eq_true rfl) (Nat.le_of_ble_eq_true rfl) ?_
        refine c_queueingAt hw.1 (Nat.le_refl _) p1 hp8 ?_
        have e9 : o_placeOf c (nI p) (nI 5) = (nI (smN (qat (na c) (na c 3) p) (na c 3)), c) := by
          unfold o_placeOf
          rw [if_pos h1, hpn, if_pos (by decide)]
          rfl
        rw [e9] at hf
        exact ps_iret dX5_placeOf_124 rfl rfl (hf ρ hxρ hSρ)
      · refine pw_switchIn (tgt := 125) dX5_placeOf_15 (by decide) (by decide) rfl (by decide) ?_
        refine pw_aload_n dX5_placeOf_125 rfl ?_
        refine ps_getr (r := 37) dX5_placeOf_126 kf_X5_22 (by decide) (by decide +kernel) ?_
        refine pw_iload_n dX5_placeOf_129 rfl ?_
        refine ps_callV (b := 37) (As := [.int (nI p)]) (st := []) dX5_placeOf_130 cv_X5_211 rfl ⟨by decide, by decide +kernel⟩ (Nat.le_of_ble_eq_true rfl) (Nat.le_of_ble_eq_true rfl) ?_
        refine c_mostAt hw.1 (Nat.le_refl _) p1 hp8 ?_
        have e9 : o_placeOf c (nI p) (nI 6) = (nI (mo (na c) (na c 3) p (na c 3)), c) := by
          unfold o_placeOf
          rw [if_pos h1, hpn, if_pos (by decide)]
          rfl
        rw [e9] at hf
        exact ps_iret dX5_placeOf_133 rfl rfl (hf ρ hxρ hSρ)
      · refine pw_switchIn (tgt := 134) dX5_placeOf_15 (by decide) (by decide) rfl (by decide) ?_
        refine pw_aload_n dX5_placeOf_134 rfl ?_
        refine ps_getr (r := 37) dX5_placeOf_135 kf_X5_22 (by decide) (by decide +kernel) ?_
        refine pw_iload_n dX5_placeOf_138 rfl ?_
        refine ps_callV (b := 37) (As := [.int (nI p)]) (st := []) dX5_placeOf_139 cv_X5_214 rfl ⟨by decide, by decide +kernel⟩ (Nat.le_of_ble_eq_true rfl) (Nat.le_of_ble_eq_true rfl) ?_
        refine c_pairsAt hw.1 (Nat.le_refl _) p1 hp8 ?_
        have e9 : o_placeOf c (nI p) (nI 7) = (nI (prs (fun t u => mtp (na c) (na c 3) t u p) (na c 3) (na c 3)), c) := by
          unfold o_placeOf
          rw [if_pos h1, hpn, if_pos (by decide)]
          rfl
        rw [e9] at hf
        exact ps_iret dX5_placeOf_142 rfl rfl (hf ρ hxρ hSρ)
    · refine pw_switchOut (tgt := 143) dX5_placeOf_15 (out_of (m := 7) (by decide) hk) (by decide) ?_
      refine pw_ldc dX5_placeOf_143 kc_X5_52 ?_
      have e9 : o_placeOf c (nI p) w = (-100002, c) := by
        unfold o_placeOf
        rw [if_pos h1, if_neg hk]
      rw [e9] at hf
      exact ps_iret dX5_placeOf_145 rfl rfl (hf ρ hxρ hSρ)
  · have h1 := kb_eq0.mp h9
    refine pw_ldc dX5_placeOf_7 kc_X5_71 ?_
    have e9 : o_placeOf c v w = ((-100001), c) := by
      unfold o_placeOf
      rw [if_neg h1]
    rw [e9] at hf
    exact ps_iret dX5_placeOf_9 rfl (rfl) (hf _ hx SM.rfl)
set_option maxRecDepth 100000 in
set_option maxHeartbeats 4000000 in
theorem x_where {c : CS} (hw : CW c) (hx : CX μ c) {v w : Int32} (hf : ∀ ν : Mu, CX ν (o_where c v w).2 → SM ν μ → fin (some (.int (o_where c v w).1)) ν) : PS l E D cA mX5_where (d + 5) fin 0 [some (.ref 0), some (.int v), some (.int w)] [] μ := by
  have hq := hx
  refine pw_aload_n dX5_where_0 rfl ?_
  refine pw_iload_n dX5_where_1 rfl ?_
  refine ps_callV (b := 0) (As := [.int v]) (st := []) dX5_where_2 cv_X5_121 rfl ⟨by decide, by decide +kernel⟩ (Nat.le_of_ble_eq_true rfl) (Nat.le_of_ble_eq_true rfl) ?_
  refine c_isTeam hx.1.2.1 ?_
  refine pw_if_ne (tgt := 11) dX5_where_5 (by decide) (fun h9 => ?_) (fun h9 => ?_)
  · have h1 := kb_ne0.mp h9
    obtain ⟨t, ht, rfl⟩ := (rg_nat (by have := hw.1.t6; omega)).mp h1
    have t6 : t < 6 := Nat.lt_of_lt_of_le ht hw.1.t6
    have htn : iN (nI t) = t := iN_nI (by omega)
    refine pw_iload_n dX5_where_11 rfl ?_
    refine pw_if_ge (tgt := 18) dX5_where_12 (by decide) (fun h2 => ?_) (fun h2 => ?_)
    · have h3 : ¬ w < 0 := by first | exact h2 | exact Int32.not_lt.mpr h2
      obtain ⟨m, hm31, rfl⟩ := nn_nI h3
      refine pw_aload_n dX5_where_18 rfl ?_
      refine ps_callV (b := 0) (As := []) (st := []) dX5_where_19 cv_X5_159 rfl ⟨by decide, by decide +kernel⟩ (Nat.le_of_ble_eq_true rfl) (Nat.le_of_ble_eq_true rfl) ?_
      refine c_playNow hw.1 hx.1 ?_
      intro ρ p1 p2 p3
      have hxρ : CX ρ c := hx.off hw (fun q k g1 g2 => p3 q k (by omega))
      have hSρ : SM ρ μ := fun q k g => p3 q k (by omega)
      show PS l E D cA mX5_where (d + 5) fin 22 [some (.ref 0), some (.int (nI t)), some (.int (nI m))] [] ρ
      refine pw_aload_n dX5_where_22 rfl ?_
      refine ps_getr (r := 37) dX5_where_23 kf_X5_22 (by decide) (by decide +kernel) ?_
      refine pw_iload_n dX5_where_26 rfl ?_
      refine pw_iload_n dX5_where_27 rfl ?_
      refine ps_callV (b := 37) (As := [.int (nI t), .int (nI m)]) (st := []) dX5_where_28 cv_X5_217 rfl ⟨by decide, by decide +kernel⟩ (Nat.le_of_ble_eq_true rfl) (Nat.le_of_ble_eq_true rfl) ?_
      refine c_placeWithTeam hw.1 (Nat.le_refl _) p1 ht hm31 ?_
      have e9 : o_where c (nI t) (nI m) = (eP (na c) t (whr (na c) (na c 3) t m), c) := by
        unfold o_where
        rw [if_pos h1, htn, if_pos h3, iN_nI hm31]
      rw [e9] at hf
      exact ps_iret dX5_where_31 rfl rfl (hf ρ hxρ hSρ)
    · refine pw_ldc dX5_where_15 kc_X5_52 ?_
      have e9 : o_where c (nI t) w = ((-100002), c) := by
        unfold o_where
        rw [if_pos h1, if_neg (fun q => q (by first | exact h2 | exact Int32.not_le.mp h2))]
      rw [e9] at hf
      exact ps_iret dX5_where_17 rfl (rfl) (hf _ hx SM.rfl)
  · have h1 := kb_eq0.mp h9
    refine pw_ldc dX5_where_8 kc_X5_71 ?_
    have e9 : o_where c v w = ((-100001), c) := by
      unfold o_where
      rw [if_neg h1]
    rw [e9] at hf
    exact ps_iret dX5_where_10 rfl (rfl) (hf _ hx SM.rfl)
set_option maxRecDepth 100000 in
set_option maxHeartbeats 4000000 in
theorem x_told {c : CS} (hw : CW c) (hx : CX μ c) {v w : Int32} (hf : ∀ ν : Mu, CX ν (o_told c v w).2 → SM ν μ → fin (some (.int (o_told c v w).1)) ν) : PS l E D cA mX5_told (d + 5) fin 0 [some (.ref 0), some (.int v), some (.int w)] [] μ := by
  have hq := hx
  refine pw_aload_n dX5_told_0 rfl ?_
  refine pw_iload_n dX5_told_1 rfl ?_
  refine ps_callV (b := 0) (As := [.int v]) (st := []) dX5_told_2 cv_X5_121 rfl ⟨by decide, by decide +kernel⟩ (Nat.le_of_ble_eq_true rfl) (Nat.le_of_ble_eq_true rfl) ?_
  refine c_isTeam hx.1.2.1 ?_
  refine pw_if_ne (tgt := 11) dX5_told_5 (by decide) (fun h9 => ?_) (fun h9 => ?_)
  · have h1 := kb_ne0.mp h9
    obtain ⟨t, ht, rfl⟩ := (rg_nat (by have := hw.1.t6; omega)).mp h1
    have t6 : t < 6 := Nat.lt_of_lt_of_le ht hw.1.t6
    have htn : iN (nI t) = t := iN_nI (by omega)
    refine pw_iload_n dX5_told_11 rfl ?_
    refine pw_if_ge (tgt := 18) dX5_told_12 (by decide) (fun h2 => ?_) (fun h2 => ?_)
    · have h3 : ¬ w < 0 := by first | exact h2 | exact Int32.not_lt.mpr h2
      obtain ⟨m, hm31, rfl⟩ := nn_nI h3
      refine pw_aload_n dX5_told_18 rfl ?_
      refine ps_callV (b := 0) (As := []) (st := []) dX5_told_19 cv_X5_159 rfl ⟨by decide, by decide +kernel⟩ (Nat.le_of_ble_eq_true rfl) (Nat.le_of_ble_eq_true rfl) ?_
      refine c_playNow hw.1 hx.1 ?_
      intro ρ p1 p2 p3
      have hxρ : CX ρ c := hx.off hw (fun q k g1 g2 => p3 q k (by omega))
      have hSρ : SM ρ μ := fun q k g => p3 q k (by omega)
      show PS l E D cA mX5_told (d + 5) fin 22 [some (.ref 0), some (.int (nI t)), some (.int (nI m))] [] ρ
      refine pw_aload_n dX5_told_22 rfl ?_
      refine ps_getr (r := 37) dX5_told_23 kf_X5_22 (by decide) (by decide +kernel) ?_
      refine pw_iload_n dX5_told_26 rfl ?_
      refine pw_iload_n dX5_told_27 rfl ?_
      refine ps_callV (b := 37) (As := [.int (nI t), .int (nI m)]) (st := []) dX5_told_28 cv_X5_221 rfl ⟨by decide, by decide +kernel⟩ (Nat.le_of_ble_eq_true rfl) (Nat.le_of_ble_eq_true rfl) ?_
      refine c_placeToldTo hw.1 (Nat.le_refl _) p1 isS_1 p2 hxρ.1 ht hm31 ?_
      have e9 : o_told c (nI t) (nI m) = (eP (na c) t (tld (na c) (na c 3) t m), c) := by
        unfold o_told
        rw [if_pos h1, htn, if_pos h3, iN_nI hm31]
      rw [e9] at hf
      exact ps_iret dX5_told_31 rfl rfl (hf ρ hxρ hSρ)
    · refine pw_ldc dX5_told_15 kc_X5_52 ?_
      have e9 : o_told c (nI t) w = ((-100002), c) := by
        unfold o_told
        rw [if_pos h1, if_neg (fun q => q (by first | exact h2 | exact Int32.not_le.mp h2))]
      rw [e9] at hf
      exact ps_iret dX5_told_17 rfl (rfl) (hf _ hx SM.rfl)
  · have h1 := kb_eq0.mp h9
    refine pw_ldc dX5_told_8 kc_X5_71 ?_
    have e9 : o_told c v w = ((-100001), c) := by
      unfold o_told
      rw [if_neg h1]
    rw [e9] at hf
    exact ps_iret dX5_told_10 rfl (rfl) (hf _ hx SM.rfl)
set_option maxRecDepth 100000 in
set_option maxHeartbeats 4000000 in
theorem x_visit {c : CS} (hw : CW c) (hx : CX μ c) {v u w : Int32} (hf : ∀ ν : Mu, CX ν (o_visit c v u w).2 → SM ν μ → fin (some (.int (o_visit c v u w).1)) ν) : PS l E D cA mX5_visit (d + 5) fin 0 [some (.ref 0), some (.int v), some (.int u), some (.int w)] [] μ := by
  have hq := hx
  refine pw_aload_n dX5_visit_0 rfl ?_
  refine pw_iload_n dX5_visit_1 rfl ?_
  refine ps_callV (b := 0) (As := [.int v]) (st := []) dX5_visit_2 cv_X5_121 rfl ⟨by decide, by decide +kernel⟩ (Nat.le_of_ble_eq_true rfl) (Nat.le_of_ble_eq_true rfl) ?_
  refine c_isTeam hx.1.2.1 ?_
  refine pw_if_ne (tgt := 11) dX5_visit_5 (by decide) (fun h9 => ?_) (fun h9 => ?_)
  · have h1 := kb_ne0.mp h9
    obtain ⟨t, ht, rfl⟩ := (rg_nat (by have := hw.1.t6; omega)).mp h1
    have t6 : t < 6 := Nat.lt_of_lt_of_le ht hw.1.t6
    have htn : iN (nI t) = t := iN_nI (by omega)
    refine pw_iload_n dX5_visit_11 rfl ?_
    refine pw_iconst_ (v := nI 0) dX5_visit_12 (by decide) ?_
    refine pw_iconst_ (v := nI 4) dX5_visit_13 (by decide) ?_
    refine ps_callS (As := [.int w, .int (nI 0), .int (nI 4)]) (st := []) dX5_visit_14 cs_X5_48 rfl (Nat.le_of_ble_eq_true rfl) (Nat.le_of_ble_eq_true rfl) ?_
    refine c_isFrom ?_
    refine pw_if_ne (tgt := 23) dX5_visit_17 (by decide) (fun h9 => ?_) (fun h9 => ?_)
    · have h2 := kb_ne0.mp h9
      refine pw_aload_n dX5_visit_23 rfl ?_
      refine ps_callV (b := 0) (As := []) (st := []) dX5_visit_24 cv_X5_159 rfl ⟨by decide, by decide +kernel⟩ (Nat.le_of_ble_eq_true rfl) (Nat.le_of_ble_eq_true rfl) ?_
      refine c_playNow hw.1 hx.1 ?_
      intro ρ p1 p2 p3
      have hxρ : CX ρ c := hx.off hw (fun q k g1 g2 => p3 q k (by omega))
      have hSρ : SM ρ μ := fun q k g => p3 q k (by omega)
      show PS l E D cA mX5_visit (d + 5) fin 27 [some (.ref 0), some (.int (nI t)), some (.int u), some (.int w)] [] ρ
      have hPt := p1.t hw.1 (Nat.le_refl _) ht
      refine pw_iload_n dX5_visit_27 rfl ?_
      refine pw_iconst_ (v := nI 0) dX5_visit_28 (by decide) ?_
      refine pw_aload_n dX5_visit_29 rfl ?_
      refine ps_getr (r := 37) dX5_visit_30 kf_X5_22 (by decide) (by decide +kernel) ?_
      refine ps_getr (r := 38) dX5_visit_33 kf_X5_165 (by decide) (by decide +kernel) ?_
      refine pw_iload_n dX5_visit_36 rfl ?_
      refine ps_iald (j := t) (x := nI (tl (na c) t)) dX5_visit_37 rfl (ok_ar (n := 6) (by decide +kernel) (by omega)) (hPt.1) ?_
      refine pw_iconst_ (v := nI 1) dX5_visit_38 (by decide) ?_
      refine pw_isub dX5_visit_39 ?_
      refine ps_callS (As := [.int u, .int (nI 0), .int ((nI (tl (na c) t)) - (nI 1))]) (st := []) dX5_visit_40 cs_X5_48 rfl (Nat.le_of_ble_eq_true rfl) (Nat.le_of_ble_eq_true rfl) ?_
      refine c_isFrom ?_
      refine pw_if_ne (tgt := 49) dX5_visit_43 (by decide) (fun h9 => ?_) (fun h9 => ?_)
      · have h3 := kb_ne0.mp h9
        obtain ⟨k, hk, rfl⟩ := (rg_nat (by omega)).mp h3
        have hv := p1.v hw.1 (Nat.le_refl _) ht hk
        have hk8 : k < 8 := by omega
        have hkn : iN (nI k) = k := iN_nI (by omega)
        refine pw_iload_n dX5_visit_49 rfl ?_
        obtain ⟨j, hj2, rfl⟩ := (rg_to (by decide)).mp h2
        rcases (show j = 0 ∨ j = 1 ∨ j = 2 ∨ j = 3 ∨ j = 4 by omega) with rfl | rfl | rfl | rfl | rfl
        · refine pw_switchIn (tgt := 80) dX5_visit_50 (by decide) (by decide) rfl (by decide) ?_
          refine pw_aload_n dX5_visit_80 rfl ?_
          refine ps_getr (r := 37) dX5_visit_81 kf_X5_22 (by decide) (by decide +kernel) ?_
          refine ps_getr (r := 39) dX5_visit_84 kf_X5_168 (by decide) (by decide +kernel) ?_
          refine pw_iload_n dX5_visit_87 rfl ?_
          refine ps_aald (t := 3) (j := t) (r := 40 + t) dX5_visit_88 rfl (ok_g (b := 39) (by decide) (by omega)) (by decide) ?_
          refine pw_iload_n dX5_visit_89 rfl ?_
          refine ps_iald (j := k) (x := nI (trv (na c) t k)) dX5_visit_90 rfl (ok_ar (n := 8) (ok_gr (b := 39) (by decide) (by omega)) (by omega)) (hv.1.1) ?_
          have e9 : o_visit c (nI t) (nI k) (nI 0) = (nI (trv (na c) t k), c) := by
            unfold o_visit
            rw [if_pos h1, htn, if_pos h2, if_pos h3, hkn]
            rfl
          rw [e9] at hf
          exact ps_iret dX5_visit_91 rfl rfl (hf ρ hxρ hSρ)
        · refine pw_switchIn (tgt := 92) dX5_visit_50 (by decide) (by decide) rfl (by decide) ?_
          refine pw_aload_n dX5_visit_92 rfl ?_
          refine ps_getr (r := 37) dX5_visit_93 kf_X5_22 (by decide) (by decide +kernel) ?_
          refine ps_getr (r := 53) dX5_visit_96 kf_X5_172 (by decide) (by decide +kernel) ?_
          refine pw_iload_n dX5_visit_99 rfl ?_
          refine ps_aald (t := 3) (j := t) (r := 54 + t) dX5_visit_100 rfl (ok_g (b := 53) (by decide) (by omega)) (by decide) ?_
          refine pw_iload_n dX5_visit_101 rfl ?_
          refine ps_iald (j := k) (x := nI (CM (na c) (na c 3) t k)) dX5_visit_102 rfl (ok_ar (n := 8) (ok_gr (b := 53) (by decide) (by omega)) (by omega)) (hv.2.2.1) ?_
          have e9 : o_visit c (nI t) (nI k) (nI 1) = (nI (CM (na c) (na c 3) t k), c) := by
            unfold o_visit
            rw [if_pos h1, htn, if_pos h2, if_pos h3, hkn]
            rfl
          rw [e9] at hf
          exact ps_iret dX5_visit_103 rfl rfl (hf ρ hxρ hSρ)
        · refine pw_switchIn (tgt := 104) dX5_visit_50 (by decide) (by decide) rfl (by decide) ?_
          refine pw_aload_n dX5_visit_104 rfl ?_
          refine ps_getr (r := 37) dX5_visit_105 kf_X5_22 (by decide) (by decide +kernel) ?_
          refine ps_getr (r := 60) dX5_visit_108 kf_X5_175 (by decide) (by decide +kernel) ?_
          refine pw_iload_n dX5_visit_111 rfl ?_
          refine ps_aald (t := 3) (j := t) (r := 61 + t) dX5_visit_112 rfl (ok_g (b := 60) (by decide) (by omega)) (by decide) ?_
          refine pw_iload_n dX5_visit_113 rfl ?_
          refine ps_iald (j := k) (x := nI (BG (na c) (na c 3) t k)) dX5_visit_114 rfl (ok_ar (n := 8) (ok_gr (b := 60) (by decide) (by omega)) (by omega)) (hv.2.2.2.1) ?_
          have e9 : o_visit c (nI t) (nI k) (nI 2) = (nI (BG (na c) (na c 3) t k), c) := by
            unfold o_visit
            rw [if_pos h1, htn, if_pos h2, if_pos h3, hkn]
            rfl
          rw [e9] at hf
          exact ps_iret dX5_visit_115 rfl rfl (hf ρ hxρ hSρ)
        · refine pw_switchIn (tgt := 116) dX5_visit_50 (by decide) (by decide) rfl (by decide) ?_
          refine pw_aload_n dX5_visit_116 rfl ?_
          refine ps_getr (r := 37) dX5_visit_117 kf_X5_22 (by decide) (by decide +kernel) ?_
          refine ps_getr (r := 67) dX5_visit_120 kf_X5_178 (by decide) (by decide +kernel) ?_
          refine pw_iload_n dX5_visit_123 rfl ?_
          refine ps_aald (t := 3) (j := t) (r := 68 + t) dX5_visit_124 rfl (ok_g (b := 67) (by decide) (by omega)) (by decide) ?_
          refine pw_iload_n dX5_visit_125 rfl ?_
          refine ps_iald (j := k) (x := nI (EN (na c) (na c 3) t k)) dX5_visit_126 rfl (ok_ar (n := 8) (ok_gr (b := 67) (by decide) (by omega)) (by omega)) (hv.2.2.2.2.1) ?_
          have e9 : o_visit c (nI t) (nI k) (nI 3) = (nI (EN (na c) (na c 3) t k), c) := by
            unfold o_visit
            rw [if_pos h1, htn, if_pos h2, if_pos h3, hkn]
            rfl
          rw [e9] at hf
          exact ps_iret dX5_visit_127 rfl rfl (hf ρ hxρ hSρ)
        · refine pw_switchOut (tgt := 128) dX5_visit_50 (Or.inr (by decide)) (by decide) ?_
          refine pw_aload_n dX5_visit_128 rfl ?_
          refine ps_getr (r := 37) dX5_visit_129 kf_X5_22 (by decide) (by decide +kernel) ?_
          refine ps_getr (r := 46) dX5_visit_132 kf_X5_181 (by decide) (by decide +kernel) ?_
          refine pw_iload_n dX5_visit_135 rfl ?_
          refine ps_aald (t := 3) (j := t) (r := 47 + t) dX5_visit_136 rfl (ok_g (b := 46) (by decide) (by omega)) (by decide) ?_
          refine pw_iload_n dX5_visit_137 rfl ?_
          refine ps_iald (j := k) (x := nI (wk (na c) t k)) dX5_visit_138 rfl (ok_ar (n := 8) (ok_gr (b := 46) (by decide) (by omega)) (by omega)) (hv.2.1.1) ?_
          have e9 : o_visit c (nI t) (nI k) (nI 4) = (nI (wk (na c) t k), c) := by
            unfold o_visit
            rw [if_pos h1, htn, if_pos h2, if_pos h3, hkn]
            rfl
          rw [e9] at hf
          exact ps_iret dX5_visit_139 rfl rfl (hf ρ hxρ hSρ)
      · have h3 := kb_eq0.mp h9
        refine pw_ldc dX5_visit_46 kc_X5_96 ?_
        have e9 : o_visit c (nI t) u w = (-100006, c) := by
          unfold o_visit
          rw [if_pos h1, htn, if_pos h2, if_neg h3]
        rw [e9] at hf
        exact ps_iret dX5_visit_48 rfl rfl (hf ρ hxρ hSρ)
    · have h2 := kb_eq0.mp h9
      refine pw_ldc dX5_visit_20 kc_X5_52 ?_
      have e9 : o_visit c (nI t) u w = ((-100002), c) := by
        unfold o_visit
        rw [if_pos h1, if_neg h2]
      rw [e9] at hf
      exact ps_iret dX5_visit_22 rfl (rfl) (hf _ hx SM.rfl)
  · have h1 := kb_eq0.mp h9
    refine pw_ldc dX5_visit_8 kc_X5_71 ?_
    have e9 : o_visit c v u w = ((-100001), c) := by
      unfold o_visit
      rw [if_neg h1]
    rw [e9] at hf
    exact ps_iret dX5_visit_10 rfl (rfl) (hf _ hx SM.rfl)
end ASK
