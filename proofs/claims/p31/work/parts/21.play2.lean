/-! Game: who comes next, a visit, the whole game -/
def eN : Option Nat → Int32
  | none => -1
  | some u => nI u
def eC (a : AS) (g : GT) : Option Nat → Int32
  | none => nI 0
  | some u => nI (come a g u)
theorem nI_nm1 {u : Nat} (h : u < 2 ^ 31) : nI u ≠ -1 := fun q => by
  have h1 := nI_pos h
  rw [q] at h1
  exact h1 (by decide)
theorem max_nI {x y : Nat} (hx : x < 2 ^ 31) (hy : y < 2 ^ 31) : (if nI x < nI y then nI y else nI x) = nI (if x < y then y else x) := by
  by_cases h : x < y
  · rw [if_pos ((nI_ltI hx hy).mpr h), if_pos h]
  · rw [if_neg (fun q => h ((nI_ltI hx hy).mp q)), if_neg h]
theorem come_le {a : AS} (hw : Wf a) {n k : Nat} {g : GT} (hn : n ≤ a 3) (hk : k ≤ 48) (hB : GB a n k g) {t : Nat} (ht : t < n) (hd : dn g t < tl a t) : come a g t ≤ 11000 := by
  have h1 := wk_le hw (t := t) (v := dn g t) (by omega) hd
  have h2 := (hB.1 t ht).2
  unfold come
  omega
theorem gf_none {a : AS} {n i : Nat} (h : nxp a (gi a n i) n = none) (hi : i ≤ 48) : gf a n = gi a n i := by
  have : ∀ d, gi a n (i + d) = gi a n i := by
    intro d
    induction d with
    | zero => rfl
    | succ d ih => rw [← Nat.add_assoc, gi, ih, h]
  have h2 := this (48 - i)
  rw [show i + (48 - i) = 48 by omega] at h2
  exact h2
theorem gi_some {a : AS} {n i t : Nat} (h : nxp a (gi a n i) n = some t) : gi a n (i + 1) = stp a (gi a n i) t := by rw [gi, h]
section PLAY2
variable {l : Launch} {E : EY} {D : va_G} {cA : Nat → ClassId} {fin : Option Value → Mu → Prop} {μ : Mu} {d : Nat}
set_option maxRecDepth 100000 in
set_option maxHeartbeats 4000000 in
theorem c_nextToCome {n k : Nat} {a : AS} {g : GT} (hw : Wf a) (hna : n ≤ a 3) (hn : μ 37 1 = nI n) (hX : GX μ a n g) (hB : GB a n k g) (hk48 : k ≤ 48) (hf : fin (some (.int (eN (nxp a g n)))) μ) : PS l E D cA mX0_nextToCome d fin 0 [some (.ref 37), none, none, none, none] [] μ := by
  have hn6 : n ≤ 6 := Nat.le_trans hna hw.2.2.2.1
  refine pw_iconst_ (v := (-1)) dX0_nextToCome_0 (by decide) ?_
  refine px_istore_n (ls' := [some (.ref 37), some (.int (-1)), none, none, none]) dX0_nextToCome_1 rfl rfl (by decide) ?_
  refine pw_iconst_ (v := nI 0) dX0_nextToCome_2 (by decide) ?_
  refine px_istore_n (ls' := [some (.ref 37), some (.int (-1)), some (.int (nI 0)), none, none]) dX0_nextToCome_3 rfl rfl (by decide) ?_
  refine pw_iconst_ (v := nI 0) dX0_nextToCome_4 (by decide) ?_
  refine px_istore_n (ls' := [some (.ref 37), some (.int (-1)), some (.int (nI 0)), some (.int (nI 0)), none]) dX0_nextToCome_5 rfl rfl (by decide) ?_
  have lp : ∀ i : Nat, i ≤ n → ∀ (l4 : Option Value), PS l E D cA mX0_nextToCome d fin 6 [some (.ref 37), some (.int (eN (nxp a g i))), some (.int (eC a g (nxp a g i))), some (.int (nI i)), l4] [] μ := by
    refine ps_for n ?_ ?_
    · intro l4
      refine pw_iload_n dX0_nextToCome_6 rfl ?_
      refine pw_aload_n dX0_nextToCome_7 rfl ?_
      refine ps_geti (x := nI n) dX0_nextToCome_8 kf_X0_45 (by decide) (by decide +kernel) hn ?_
      refine pn_ge (tgt := 76) dX0_nextToCome_11 (by decide) (by omega) (by omega) (fun _ => ?_) (fun h9 => absurd h9 (by omega))
      refine pw_iload_n dX0_nextToCome_76 rfl ?_
      exact ps_iret dX0_nextToCome_77 rfl (rfl) hf
    · intro i hi ih l4
      have htl := tl_le hw (t := i) (by omega)
      have hd9 := (hB.1 i hi).1
      refine pw_iload_n dX0_nextToCome_6 rfl ?_
      refine pw_aload_n dX0_nextToCome_7 rfl ?_
      refine ps_geti (x := nI n) dX0_nextToCome_8 kf_X0_45 (by decide) (by decide +kernel) hn ?_
      refine pn_ge (tgt := 76) dX0_nextToCome_11 (by decide) (by omega) (by omega) (fun h9 => absurd h9 (by omega)) (fun _ => ?_)
      refine pw_aload_n dX0_nextToCome_14 rfl ?_
      refine ps_getr (r := 74) dX0_nextToCome_15 kf_X0_32 (by decide) (by decide +kernel) ?_
      refine pw_iload_n dX0_nextToCome_18 rfl ?_
      refine ps_iald (j := i) (x := nI (dn g i)) dX0_nextToCome_19 rfl (ok_ar (n := 6) (by decide +kernel) (by omega)) (hX.1 i hi).2.1 ?_
      refine pw_aload_n dX0_nextToCome_20 rfl ?_
      refine ps_getr (r := 38) dX0_nextToCome_21 kf_X0_9 (by decide) (by decide +kernel) ?_
      refine pw_iload_n dX0_nextToCome_24 rfl ?_
      refine ps_iald (j := i) (x := nI (tl a i)) dX0_nextToCome_25 rfl (ok_ar (n := 6) (by decide +kernel) (by omega)) (hX.1 i hi).1 ?_
      refine pn_lt (tgt := 32) dX0_nextToCome_26 (by decide) (by omega) (by omega) (fun hd => ?_) (fun hd => ?_)
      · have hcl := come_le hw hna hk48 hB hi hd
        have hd8 : dn g i < 8 := by omega
        refine pw_aload_n dX0_nextToCome_32 rfl ?_
        refine ps_getr (r := 75) dX0_nextToCome_33 kf_X0_35 (by decide) (by decide +kernel) ?_
        refine pw_iload_n dX0_nextToCome_36 rfl ?_
        refine ps_iald (j := i) (x := nI (ov g i)) dX0_nextToCome_37 rfl (ok_ar (n := 6) (by decide +kernel) (by omega)) (hX.1 i hi).2.2.1 ?_
        refine pw_aload_n dX0_nextToCome_38 rfl ?_
        refine ps_getr (r := 46) dX0_nextToCome_39 kf_X0_20 (by decide) (by decide +kernel) ?_
        refine pw_iload_n dX0_nextToCome_42 rfl ?_
        refine ps_aald (t := 3) (j := i) (r := 47 + i) dX0_nextToCome_43 rfl (ok_g (b := 46) (by decide) (by omega)) (by decide) ?_
        refine pw_aload_n dX0_nextToCome_44 rfl ?_
        refine ps_getr (r := 74) dX0_nextToCome_45 kf_X0_32 (by decide) (by decide +kernel) ?_
        refine pw_iload_n dX0_nextToCome_48 rfl ?_
        refine ps_iald (j := i) (x := nI (dn g i)) dX0_nextToCome_49 rfl (ok_ar (n := 6) (by decide +kernel) (by omega)) (hX.1 i hi).2.1 ?_
        refine ps_iald (j := dn g i) (x := nI (wk a i (dn g i))) dX0_nextToCome_50 rfl (ok_ar (n := 8) (ok_gr (b := 46) (by decide) (by omega)) (by omega)) ((hX.1 i hi).2.2.2.1 _ hd).2 ?_
        refine px_iaddn (c := come a g i) dX0_nextToCome_51 rfl ?_
        refine px_istore (ls' := [some (.ref 37), some (.int (eN (nxp a g i))), some (.int (eC a g (nxp a g i))), some (.int (nI i)), some (.int (nI (come a g i)))]) dX0_nextToCome_52 rfl rfl (by decide) ?_
        cases hN : nxp a g i with
        | none =>
          have e9 : nxp a g (i + 1) = some i := by rw [nxp, if_pos hd, hN]
          rw [e9] at ih
          show PS l E D cA mX0_nextToCome d fin 54 [some (.ref 37), some (.int (-1)), some (.int (nI 0)), some (.int (nI i)), some (.int (nI (come a g i)))] [] μ
          refine pw_iload_n dX0_nextToCome_54 rfl ?_
          refine pw_iconst_ (v := (-1)) dX0_nextToCome_55 (by decide) ?_
          refine pw_icmp_eq (tgt := 65) dX0_nextToCome_56 (by decide) (fun _ => ?_) (fun h9 => absurd rfl h9)
          refine pw_iload_n dX0_nextToCome_65 rfl ?_
          refine px_istore_n (ls' := [some (.ref 37), some (.int (nI i)), some (.int (nI 0)), some (.int (nI i)), some (.int (nI (come a g i)))]) dX0_nextToCome_66 rfl rfl (by decide) ?_
          refine pw_iload dX0_nextToCome_67 rfl ?_
          refine px_istore_n (ls' := [some (.ref 37), some (.int (nI i)), some (.int (nI (come a g i))), some (.int (nI i)), some (.int (nI (come a g i)))]) dX0_nextToCome_69 rfl rfl (by decide) ?_
          refine px_iincn (n := 1) (a := i) (b := i + 1) (ls' := [some (.ref 37), some (.int (nI i)), some (.int (nI (come a g i))), some (.int (nI (i + 1))), some (.int (nI (come a g i)))]) dX0_nextToCome_70 rfl rfl rfl (by omega) ?_
          refine pw_goto (tgt := 6) dX0_nextToCome_73 (by decide) ?_
          exact ih _
        | some u =>
          have hu := nxp_lt hN
          have hcu := come_le hw hna hk48 hB (show u < n by omega) hu.2
          show PS l E D cA mX0_nextToCome d fin 54 [some (.ref 37), some (.int (nI u)), some (.int (nI (come a g u))), some (.int (nI i)), some (.int (nI (come a g i)))] [] μ
          refine pw_iload_n dX0_nextToCome_54 rfl ?_
          refine pw_iconst_ (v := (-1)) dX0_nextToCome_55 (by decide) ?_
          refine pw_icmp_eq (tgt := 65) dX0_nextToCome_56 (by decide) (fun h9 => absurd h9 (nI_nm1 (by omega))) (fun _ => ?_)
          refine pw_iload dX0_nextToCome_59 rfl ?_
          refine pw_iload_n dX0_nextToCome_61 rfl ?_
          refine pn_ge (tgt := 70) dX0_nextToCome_62 (by decide) (by omega) (by omega) (fun hge => ?_) (fun hge => ?_)
          · refine px_iincn (n := 1) (a := i) (b := i + 1) (ls' := [some (.ref 37), some (.int (nI u)), some (.int (nI (come a g u))), some (.int (nI (i + 1))), some (.int (nI (come a g i)))]) dX0_nextToCome_70 rfl rfl rfl (by omega) ?_
            refine pw_goto (tgt := 6) dX0_nextToCome_73 (by decide) ?_
            rw [show nxp a g (i + 1) = some u by rw [nxp, if_pos hd, hN]; exact if_neg (by omega)] at ih
            exact ih _
          · refine pw_iload_n dX0_nextToCome_65 rfl ?_
            refine px_istore_n (ls' := [some (.ref 37), some (.int (nI i)), some (.int (nI (come a g u))), some (.int (nI i)), some (.int (nI (come a g i)))]) dX0_nextToCome_66 rfl rfl (by decide) ?_
            refine pw_iload dX0_nextToCome_67 rfl ?_
            refine px_istore_n (ls' := [some (.ref 37), some (.int (nI i)), some (.int (nI (come a g i))), some (.int (nI i)), some (.int (nI (come a g i)))]) dX0_nextToCome_69 rfl rfl (by decide) ?_
            refine px_iincn (n := 1) (a := i) (b := i + 1) (ls' := [some (.ref 37), some (.int (nI i)), some (.int (nI (come a g i))), some (.int (nI (i + 1))), some (.int (nI (come a g i)))]) dX0_nextToCome_70 rfl rfl rfl (by omega) ?_
            refine pw_goto (tgt := 6) dX0_nextToCome_73 (by decide) ?_
            rw [show nxp a g (i + 1) = some i by rw [nxp, if_pos hd, hN]; exact if_pos (by omega)] at ih
            exact ih _
      · refine pw_goto (tgt := 70) dX0_nextToCome_29 (by decide) ?_
        refine px_iincn (n := 1) (a := i) (b := i + 1) (ls' := [some (.ref 37), some (.int (eN (nxp a g i))), some (.int (eC a g (nxp a g i))), some (.int (nI (i + 1))), l4]) dX0_nextToCome_70 rfl rfl rfl (by omega) ?_
        refine pw_goto (tgt := 6) dX0_nextToCome_73 (by decide) ?_
        rw [show nxp a g (i + 1) = nxp a g i by rw [nxp, if_neg (by omega)]] at ih
        exact ih _
  exact lp 0 (Nat.zero_le _) _
set_option maxRecDepth 100000 in
set_option maxHeartbeats 4000000 in
theorem c_makeVisit {s n k t : Nat} {a : AS} {g : GT} (hs : isS s) (hw : Wf a) (hna : n ≤ a 3) (hst : μ 37 0 = nI s) (hR : RS μ s a) (hX : GX μ a n g) (hB : GB a n k g) (hk48 : k ≤ 48) (ht : t < n) (hd : dn g t < tl a t) (hf : ∀ ν : Mu, GX ν a n (stp a g t) → (∀ q k, ¬ (38 ≤ q ∧ q < 77) → ν q k = μ q k) → fin none ν) : PS l E D cA mX0_makeVisit (d + 2) fin 0 [some (.ref 37), some (.int (nI t)), none, none, none, none, none] [] μ := by
  have hsg := isS_g hs
  have hs9 := isS_odd hs
  have hs31 : s < 2 ^ 31 := by omega
  have hn6 : n ≤ 6 := Nat.le_trans hna hw.2.2.2.1
  have htn6 : t < 6 := by omega
  have hXt := hX.1 t ht
  have htn : t < a 3 := by omega
  have hT := hR.2.2.2.2 t htn
  have hwt := hw.2.2.2.2.2 t htn
  have htl := tl_le hw htn
  have hp8 := trv_lt hw htn hd
  have hcl := come_le hw hna hk48 hB ht hd
  have hfl := hB.2.1 (trv a t (dn g t))
  have hd8 : dn g t < 8 := by omega
  refine pw_aload_n dX0_makeVisit_0 rfl ?_
  refine ps_getr (r := 74) dX0_makeVisit_1 kf_X0_32 (by decide) (by decide +kernel) ?_
  refine pw_iload_n dX0_makeVisit_4 rfl ?_
  refine ps_iald (j := t) (x := nI (dn g t)) dX0_makeVisit_5 rfl (ok_ar (n := 6) (by decide +kernel) (by omega)) (hXt.2.1) ?_
  refine px_istore_n (ls' := [some (.ref 37), some (.int (nI t)), some (.int (nI (dn g t))), none, none, none, none]) dX0_makeVisit_6 rfl rfl (by decide) ?_
  refine pw_aload_n dX0_makeVisit_7 rfl ?_
  refine ps_getr (r := 39) dX0_makeVisit_8 kf_X0_17 (by decide) (by decide +kernel) ?_
  refine pw_iload_n dX0_makeVisit_11 rfl ?_
  refine ps_aald (t := 3) (j := t) (r := 40 + t) dX0_makeVisit_12 rfl (ok_g (b := 39) (by decide) (by omega)) (by decide) ?_
  refine pw_iload_n dX0_makeVisit_13 rfl ?_
  refine ps_iald (j := dn g t) (x := nI (trv a t (dn g t))) dX0_makeVisit_14 rfl (ok_ar (n := 8) (ok_gr (b := 39) (by decide) (by omega)) (by omega)) (hXt.2.2.2.1 _ hd).1 ?_
  refine px_istore_n (ls' := [some (.ref 37), some (.int (nI t)), some (.int (nI (dn g t))), some (.int (nI (trv a t (dn g t)))), none, none, none]) dX0_makeVisit_15 rfl rfl (by decide) ?_
  refine pw_aload_n dX0_makeVisit_16 rfl ?_
  refine ps_getr (r := 75) dX0_makeVisit_17 kf_X0_35 (by decide) (by decide +kernel) ?_
  refine pw_iload_n dX0_makeVisit_20 rfl ?_
  refine ps_iald (j := t) (x := nI (ov g t)) dX0_makeVisit_21 rfl (ok_ar (n := 6) (by decide +kernel) (by omega)) (hXt.2.2.1) ?_
  refine pw_aload_n dX0_makeVisit_22 rfl ?_
  refine ps_getr (r := 46) dX0_makeVisit_23 kf_X0_20 (by decide) (by decide +kernel) ?_
  refine pw_iload_n dX0_makeVisit_26 rfl ?_
  refine ps_aald (t := 3) (j := t) (r := 47 + t) dX0_makeVisit_27 rfl (ok_g (b := 46) (by decide) (by omega)) (by decide) ?_
  refine pw_iload_n dX0_makeVisit_28 rfl ?_
  refine ps_iald (j := dn g t) (x := nI (wk a t (dn g t))) dX0_makeVisit_29 rfl (ok_ar (n := 8) (ok_gr (b := 46) (by decide) (by omega)) (by omega)) (hXt.2.2.2.1 _ hd).2 ?_
  refine px_iaddn (c := come a g t) dX0_makeVisit_30 rfl ?_
  refine px_istore (ls' := [some (.ref 37), some (.int (nI t)), some (.int (nI (dn g t))), some (.int (nI (trv a t (dn g t)))), some (.int (nI (come a g t))), none, none]) dX0_makeVisit_31 rfl rfl (by decide) ?_
  refine pw_iload dX0_makeVisit_33 rfl ?_
  refine pw_aload_n dX0_makeVisit_35 rfl ?_
  refine ps_getr (r := 76) dX0_makeVisit_36 kf_X0_38 (by decide) (by decide +kernel) ?_
  refine pw_iload_n dX0_makeVisit_39 rfl ?_
  refine ps_iald (j := trv a t (dn g t)) (x := nI (fr g (trv a t (dn g t)))) dX0_makeVisit_40 rfl (ok_ar (n := 8) (by decide +kernel) (by omega)) (hX.2 _ hp8) ?_
  refine pw_mmax dX0_makeVisit_41 cm_X0_105 (by rw [emy_len]; exact Nat.le_refl _) (by rw [emy_sum]; exact Nat.le_refl _) (Nat.le_of_ble_eq_true rfl) ?_
  rw [max_nI (by omega) (by omega)]
  obtain ⟨B, hBd⟩ : ∃ B, B = (if come a g t < fr g (trv a t (dn g t)) then fr g (trv a t (dn g t)) else come a g t) := ⟨_, rfl⟩
  rw [← hBd]
  have hBl : B ≤ 11000 := by
    rw [hBd]
    split <;> omega
  refine px_istore (ls' := [some (.ref 37), some (.int (nI t)), some (.int (nI (dn g t))), some (.int (nI (trv a t (dn g t)))), some (.int (nI (come a g t))), some (.int (nI B)), none]) dX0_makeVisit_44 rfl rfl (by decide) ?_
  refine pw_iload dX0_makeVisit_46 rfl ?_
  refine pw_aload_n dX0_makeVisit_48 rfl ?_
  refine ps_getd (r := s) dX0_makeVisit_49 kf_X0_41 (by decide) (by decide +kernel) hs31 hst ?_
  refine pw_iload_n dX0_makeVisit_52 rfl ?_
  refine pw_iload_n dX0_makeVisit_53 rfl ?_
  refine ps_callV (b := s) (As := [.int (nI t), .int (nI (trv a t (dn g t)))]) (st := [.int (nI B)]) dX0_makeVisit_54 cv_X0_109 rfl ⟨(okk_of (ok_S hs).1).1, (okk_of (ok_S hs).1).2.1⟩ (Nat.le_of_ble_eq_true rfl) (Nat.le_of_ble_eq_true rfl) ?_
  refine c_S_lookOf hs htn6 hwt.2.1 hp8 hT.2.2.1 (hR.2.2.1 _ hp8).2.2 (hw.2.2.2.2.1 _ hp8).2.2.1.2 ?_
  show PS l E D cA mX0_makeVisit (d + 2) fin 57 [some (.ref 37), some (.int (nI t)), some (.int (nI (dn g t))), some (.int (nI (trv a t (dn g t)))), some (.int (nI (come a g t))), some (.int (nI B)), none] [.int (nI (lk a t (trv a t (dn g t)))), .int (nI B)] μ
  have hlk := lk_le hw (t := t) hp8
  obtain ⟨C, hC⟩ : ∃ C, C = B + lk a t (trv a t (dn g t)) := ⟨_, rfl⟩
  refine px_iaddn (c := C) dX0_makeVisit_57 hC.symm ?_
  refine px_istore (ls' := [some (.ref 37), some (.int (nI t)), some (.int (nI (dn g t))), some (.int (nI (trv a t (dn g t)))), some (.int (nI (come a g t))), some (.int (nI B)), some (.int (nI C))]) dX0_makeVisit_58 rfl rfl (by decide) ?_
  refine pw_aload_n dX0_makeVisit_60 rfl ?_
  refine ps_getr (r := 53) dX0_makeVisit_61 kf_X0_23 (by decide) (by decide +kernel) ?_
  refine pw_iload_n dX0_makeVisit_64 rfl ?_
  refine ps_aald (t := 3) (j := t) (r := 54 + t) dX0_makeVisit_65 rfl (ok_g (b := 53) (by decide) (by omega)) (by decide) ?_
  refine pw_iload_n dX0_makeVisit_66 rfl ?_
  refine pw_iload dX0_makeVisit_67 rfl ?_
  refine ps_iast (j := dn g t) dX0_makeVisit_69 rfl (ok_ar (n := 8) (ok_gr (b := 53) (by decide) (by omega)) (by omega)) ?_
  refine pw_aload_n dX0_makeVisit_70 rfl ?_
  refine ps_getr (r := 60) dX0_makeVisit_71 kf_X0_26 (by decide) (by decide +kernel) ?_
  refine pw_iload_n dX0_makeVisit_74 rfl ?_
  refine ps_aald (t := 3) (j := t) (r := 61 + t) dX0_makeVisit_75 rfl (ok_g (b := 60) (by decide) (by omega)) (by decide) ?_
  refine pw_iload_n dX0_makeVisit_76 rfl ?_
  refine pw_iload dX0_makeVisit_77 rfl ?_
  refine ps_iast (j := dn g t) dX0_makeVisit_79 rfl (ok_ar (n := 8) (ok_gr (b := 60) (by decide) (by omega)) (by omega)) ?_
  refine pw_aload_n dX0_makeVisit_80 rfl ?_
  refine ps_getr (r := 67) dX0_makeVisit_81 kf_X0_29 (by decide) (by decide +kernel) ?_
  refine pw_iload_n dX0_makeVisit_84 rfl ?_
  refine ps_aald (t := 3) (j := t) (r := 68 + t) dX0_makeVisit_85 rfl (ok_g (b := 67) (by decide) (by omega)) (by decide) ?_
  refine pw_iload_n dX0_makeVisit_86 rfl ?_
  refine pw_iload dX0_makeVisit_87 rfl ?_
  refine ps_iast (j := dn g t) dX0_makeVisit_89 rfl (ok_ar (n := 8) (ok_gr (b := 67) (by decide) (by omega)) (by omega)) ?_
  refine pw_aload_n dX0_makeVisit_90 rfl ?_
  refine ps_getr (r := 76) dX0_makeVisit_91 kf_X0_38 (by decide) (by decide +kernel) ?_
  refine pw_iload_n dX0_makeVisit_94 rfl ?_
  refine pw_iload dX0_makeVisit_95 rfl ?_
  refine ps_iast (j := trv a t (dn g t)) dX0_makeVisit_97 rfl (ok_ar (n := 8) (by decide +kernel) (by omega)) ?_
  refine pw_aload_n dX0_makeVisit_98 rfl ?_
  refine ps_getr (r := 75) dX0_makeVisit_99 kf_X0_35 (by decide) (by decide +kernel) ?_
  refine pw_iload_n dX0_makeVisit_102 rfl ?_
  refine pw_iload dX0_makeVisit_103 rfl ?_
  refine ps_iast (j := t) dX0_makeVisit_105 rfl (ok_ar (n := 6) (by decide +kernel) (by omega)) ?_
  refine pw_aload_n dX0_makeVisit_106 rfl ?_
  refine ps_getr (r := 74) dX0_makeVisit_107 kf_X0_32 (by decide) (by decide +kernel) ?_
  refine pw_iload_n dX0_makeVisit_110 rfl ?_
  refine pw_iload_n dX0_makeVisit_111 rfl ?_
  refine pw_iconst_ (v := nI 1) dX0_makeVisit_112 (by decide) ?_
  refine px_iaddn (c := dn g t + 1) dX0_makeVisit_113 (by omega) ?_
  refine ps_iast (j := t) dX0_makeVisit_114 rfl (ok_ar (n := 6) (by decide +kernel) (by omega)) ?_
  refine ps_ret dX0_makeVisit_115 rfl (hf _ ⟨?_, ?_⟩ ?_)
  · intro u hu
    have hXu := hX.1 u hu
    show _ ∧ _ = nI (up1 (dn g) t (dn g t + 1) u) ∧ _ = nI (up1 (ov g) t _ u) ∧ _ ∧ ∀ v, v < up1 (dn g) t (dn g t + 1) u → _ = nI (up2 (cm g) t (dn g t) (come a g t) u v) ∧ _ = nI (up2 (bg g) t (dn g t) _ u v) ∧ _ = nI (up2 (en g) t (dn g t) _ u v)
    rw [← hBd, ← hC]
    refine ⟨?_, ?_, ?_, fun v hv => ⟨?_, ?_⟩, fun v hv => ?_⟩
    · rw [u2_a (by omega), u2_a (by omega), u2_a (by omega), u2_a (by omega), u2_a (by omega), u2_a (by omega)]
      exact hXu.1
    · by_cases e : u = t
      · subst e
        rw [up1_s, u2_s]
      · rw [up1_n e, u2_b e, u2_a (by omega), u2_a (by omega), u2_a (by omega), u2_a (by omega), u2_a (by omega)]
        exact hXu.2.1
    · by_cases e : u = t
      · subst e
        rw [up1_s, u2_a (by omega), u2_s]
      · rw [up1_n e, u2_a (by omega), u2_b e, u2_a (by omega), u2_a (by omega), u2_a (by omega), u2_a (by omega)]
        exact hXu.2.2.1
    · rw [u2_a (by omega), u2_a (by omega), u2_a (by omega), u2_a (by omega), u2_a (by omega), u2_a (by omega)]
      exact (hXu.2.2.2.1 v hv).1
    · rw [u2_a (by omega), u2_a (by omega), u2_a (by omega), u2_a (by omega), u2_a (by omega), u2_a (by omega)]
      exact (hXu.2.2.2.1 v hv).2
    · have hv2 : ¬ (u = t ∧ v = dn g t) → v < dn g u := by
        intro e
        by_cases e2 : u = t
        · subst e2
          rw [up1_s] at hv
          omega
        · rw [up1_n e2] at hv
          exact hv
      refine ⟨?_, ?_, ?_⟩
      · rw [u2_a (by omega), u2_a (by omega), u2_a (by omega), u2_a (by omega), u2_a (by omega)]
        by_cases e : u = t ∧ v = dn g t
        · obtain ⟨rfl, rfl⟩ := e
          rw [up2_s, u2_s]
        · have h9 := (hXu.2.2.2.2 v (hv2 e)).1
          rw [up2_n e]
          by_cases e3 : u = t
          · rw [u2_b (fun q => e ⟨e3, q⟩)]
            exact h9
          · rw [u2_a (by omega)]
            exact h9
      · rw [u2_a (by omega), u2_a (by omega), u2_a (by omega), u2_a (by omega)]
        by_cases e : u = t ∧ v = dn g t
        · obtain ⟨rfl, rfl⟩ := e
          rw [up2_s, u2_s]
        · have h9 := (hXu.2.2.2.2 v (hv2 e)).2.1
          rw [up2_n e]
          by_cases e3 : u = t
          · rw [u2_b (fun q => e ⟨e3, q⟩), u2_a (by omega)]
            exact h9
          · rw [u2_a (by omega), u2_a (by omega)]
            exact h9
      · rw [u2_a (by omega), u2_a (by omega), u2_a (by omega)]
        by_cases e : u = t ∧ v = dn g t
        · obtain ⟨rfl, rfl⟩ := e
          rw [up2_s, u2_s]
        · have h9 := (hXu.2.2.2.2 v (hv2 e)).2.2
          rw [up2_n e]
          by_cases e3 : u = t
          · rw [u2_b (fun q => e ⟨e3, q⟩), u2_a (by omega), u2_a (by omega)]
            exact h9
          · rw [u2_a (by omega), u2_a (by omega), u2_a (by omega)]
            exact h9
  · intro p hp
    show _ = nI (up1 (fr g) (trv a t (dn g t)) _ p)
    rw [← hBd, ← hC, u2_a (by omega), u2_a (by omega)]
    by_cases e : p = trv a t (dn g t)
    · subst e
      rw [up1_s, u2_s]
    · rw [up1_n e, u2_b e, u2_a (by omega), u2_a (by omega), u2_a (by omega)]
      exact hX.2 p hp
  · intro q k hq
    rw [u2_a (by omega), u2_a (by omega), u2_a (by omega), u2_a (by omega), u2_a (by omega), u2_a (by omega)]
end PLAY2
