/-! the history -/
section HIST
variable {l : Launch} {E : EY} {D : va_G} {cA : Nat → ClassId} {fin : Option Value → Mu → Prop} {μ : Mu} {d : Nat}
theorem RS.off {μ ν : Mu} {s lo hi : Nat} {a : AS} (ha : a 3 ≤ 6) (h : ∀ q k, ¬ (lo ≤ q ∧ q < hi) → ν q k = μ q k) (hs : s + 18 ≤ lo ∨ hi ≤ s) (hr : RS μ s a) : RS ν s a :=
  RS.same ha (fun i k g1 g2 => h i k (by omega)) hr
set_option maxRecDepth 100000 in
set_option maxHeartbeats 4000000 in
theorem c_record {a : AS} {H : Nat → AS} {h : Nat} (ha6 : a 3 ≤ 6) (hH : ∀ j, j < h → H j 3 ≤ 6) (hN : RS μ 1 a) (hR : RH μ H h) (hf : ∀ ν : Mu, RH ν (rcH H h a) (rcN h) → (∀ q k, q ≠ 79 → ¬ (81 ≤ q ∧ q < 189) → ν q k = μ q k) → fin none ν) : PS l E D cA mX1_record (d + 3) fin 0 [some (.ref 79), some (.ref 1)] [] μ := by
  obtain ⟨hh6, hh, o, ho6, ho, hj⟩ := hR
  refine pw_aload_n dX1_record_0 rfl ?_
  refine ps_geti (x := nI h) dX1_record_1 kf_X1_18 (by decide) (by decide +kernel) hh ?_
  refine pw_bipush (v := nI 6) dX1_record_4 (by decide) ?_
  refine pn_ne (tgt := 32) dX1_record_6 (by decide) (by omega) (by omega) (fun h6 => ?_) (fun h6 => ?_)
  · refine pw_aload_n dX1_record_32 rfl ?_
    refine ps_getr (r := 80) dX1_record_33 kf_X1_11 (by decide) (by decide +kernel) ?_
    refine pw_aload_n dX1_record_36 rfl ?_
    refine ps_geti (x := nI o) dX1_record_37 kf_X1_22 (by decide) (by decide +kernel) ho ?_
    refine pw_aload_n dX1_record_40 rfl ?_
    refine ps_geti (x := nI h) dX1_record_41 kf_X1_18 (by decide) (by decide +kernel) hh ?_
    refine px_iaddn (c := o + h) dX1_record_44 (by omega) ?_
    refine pw_bipush (v := nI 6) dX1_record_45 (by decide) ?_
    refine px_iremn dX1_record_47 (by omega) (by decide) (by decide) ?_
    have hq : (o + h) % 6 < 6 := Nat.mod_lt _ (by decide)
    refine ps_aald (t := 4) (j := (o + h) % 6) (r := 81 + 18 * ((o + h) % 6)) dX1_record_48 rfl (ok_H hq).1 (by decide) ?_
    refine pw_aload_n dX1_record_49 rfl ?_
    refine ps_callV (b := 81 + 18 * ((o + h) % 6)) (As := [.ref 1]) (st := []) dX1_record_50 cv_X1_25 rfl ⟨(okk_of (ok_S (ok_H hq).2).1).1, (okk_of (ok_S (ok_H hq).2).1).2.1⟩ (Nat.le_of_ble_eq_true rfl) (Nat.le_of_ble_eq_true rfl) ?_
    refine c_S_copyFrom (isH hq) isS_1 (by omega) ?_
    intro ν hν
    show PS l E D cA mX1_record (d + 3) fin 53 [some (.ref 79), some (.ref 1)] [] ν
    refine pw_aload_n dX1_record_53 rfl ?_
    refine pw_dup dX1_record_54 rfl ?_
    refine ps_geti (x := nI h) dX1_record_55 kf_X1_18 (by decide) (by decide +kernel) ((hν.1 _ _ (by omega)).trans hh) ?_
    refine pw_iconst_ (v := nI 1) dX1_record_58 (by decide) ?_
    refine px_iaddn (c := h + 1) dX1_record_59 (by omega) ?_
    refine ps_puti dX1_record_60 kf_X1_18 (by decide) rfl (by decide +kernel) ?_
    refine ps_ret dX1_record_63 rfl (hf _ ⟨?_, ?_, o, ho6, ?_, ?_⟩ ?_)
    · unfold rcN
      rw [if_neg h6]
      omega
    · unfold rcN
      rw [u2_s, if_neg h6]
    · rw [u2_b (by decide), hν.1 _ _ (by omega)]
      exact ho
    · intro j hjl
      unfold rcN at hjl
      rw [if_neg h6] at hjl
      unfold rcH
      rw [if_neg h6]
      have hq2 : (o + j) % 6 < 6 := Nat.mod_lt _ (by decide)
      by_cases e : j = h
      · subst e
        rw [if_pos rfl]
        refine RS.same (μ := ν) ha6 (fun i k g1 g2 => u2_a (by omega)) (hν.RS ha6 hN)
      · rw [if_neg e]
        have hne : (o + j) % 6 ≠ (o + h) % 6 := by omega
        refine RS.same (μ := μ) (hH j (by omega)) (fun i k g1 g2 => ?_) (hj j (by omega))
        rw [u2_a (by omega), hν.1 _ _ (by omega)]
    · intro q k g1 g2
      rw [u2_a g1, hν.1 _ _ (by omega)]
  · subst h6
    refine pw_aload_n dX1_record_9 rfl ?_
    refine pw_aload_n dX1_record_10 rfl ?_
    refine ps_geti (x := nI o) dX1_record_11 kf_X1_22 (by decide) (by decide +kernel) ho ?_
    refine pw_iconst_ (v := nI 1) dX1_record_14 (by decide) ?_
    refine px_iaddn (c := o + 1) dX1_record_15 (by omega) ?_
    refine pw_bipush (v := nI 6) dX1_record_16 (by decide) ?_
    refine px_iremn dX1_record_18 (by omega) (by decide) (by decide) ?_
    refine ps_puti dX1_record_19 kf_X1_22 (by decide) rfl (by decide +kernel) ?_
    refine pw_aload_n dX1_record_22 rfl ?_
    refine pw_dup dX1_record_23 rfl ?_
    refine ps_geti (x := nI 6) dX1_record_24 kf_X1_18 (by decide) (by decide +kernel) ((u2_b (by decide)).trans hh) ?_
    refine pw_iconst_ (v := nI 1) dX1_record_27 (by decide) ?_
    refine pn_isub (by decide) dX1_record_28 ?_
    refine ps_puti dX1_record_29 kf_X1_18 (by decide) rfl (by decide +kernel) ?_
    refine pw_aload_n dX1_record_32 rfl ?_
    refine ps_getr (r := 80) dX1_record_33 kf_X1_11 (by decide) (by decide +kernel) ?_
    refine pw_aload_n dX1_record_36 rfl ?_
    refine ps_geti (x := nI ((o + 1) % 6)) dX1_record_37 kf_X1_22 (by decide) (by decide +kernel) ((u2_b (by decide)).trans u2_s) ?_
    refine pw_aload_n dX1_record_40 rfl ?_
    refine ps_geti (x := nI 5) dX1_record_41 kf_X1_18 (by decide) (by decide +kernel) u2_s ?_
    refine px_iaddn (c := (o + 1) % 6 + 5) dX1_record_44 (by omega) ?_
    refine pw_bipush (v := nI 6) dX1_record_45 (by decide) ?_
    refine px_iremn dX1_record_47 (by omega) (by decide) (by decide) ?_
    have hq : ((o + 1) % 6 + 5) % 6 < 6 := Nat.mod_lt _ (by decide)
    refine ps_aald (t := 4) (j := ((o + 1) % 6 + 5) % 6) (r := 81 + 18 * (((o + 1) % 6 + 5) % 6)) dX1_record_48 rfl (ok_H hq).1 (by decide) ?_
    refine pw_aload_n dX1_record_49 rfl ?_
    refine ps_callV (b := 81 + 18 * (((o + 1) % 6 + 5) % 6)) (As := [.ref 1]) (st := []) dX1_record_50 cv_X1_25 rfl ⟨(okk_of (ok_S (ok_H hq).2).1).1, (okk_of (ok_S (ok_H hq).2).1).2.1⟩ (Nat.le_of_ble_eq_true rfl) (Nat.le_of_ble_eq_true rfl) ?_
    refine c_S_copyFrom (isH hq) isS_1 (by omega) ?_
    intro ν hν
    show PS l E D cA mX1_record (d + 3) fin 53 [some (.ref 79), some (.ref 1)] [] ν
    refine pw_aload_n dX1_record_53 rfl ?_
    refine pw_dup dX1_record_54 rfl ?_
    refine ps_geti (x := nI 5) dX1_record_55 kf_X1_18 (by decide) (by decide +kernel) ((hν.1 _ _ (by omega)).trans u2_s) ?_
    refine pw_iconst_ (v := nI 1) dX1_record_58 (by decide) ?_
    refine px_iaddn (c := 6) dX1_record_59 (by omega) ?_
    refine ps_puti dX1_record_60 kf_X1_18 (by decide) rfl (by decide +kernel) ?_
    refine ps_ret dX1_record_63 rfl (hf _ ⟨?_, ?_, (o + 1) % 6, Nat.mod_lt _ (by decide), ?_, ?_⟩ ?_)
    · decide
    · exact u2_s
    · rw [u2_b (by decide), hν.1 _ _ (by omega), u2_b (by decide), u2_s]
    · intro j hjl
      have hjl : j < 6 := hjl
      unfold rcH
      rw [if_pos rfl]
      have hq2 : ((o + 1) % 6 + j) % 6 < 6 := Nat.mod_lt _ (by decide)
      by_cases e : j = 5
      · subst e
        rw [if_pos rfl]
        refine RS.same (μ := ν) ha6 (fun i k g1 g2 => u2_a (by omega)) (hν.RS ha6 (RS.same ha6 (fun i k g1 g2 => by rw [u2_a (by omega), u2_a (by omega)]) hN))
      · rw [if_neg e]
        have h9 := hj (j + 1) (by omega)
        rw [show (o + (j + 1)) % 6 = ((o + 1) % 6 + j) % 6 by omega] at h9
        refine RS.same (μ := μ) (hH (j + 1) (by omega)) (fun i k g1 g2 => ?_) h9
        rw [u2_a (by omega), hν.1 _ _ (by omega), u2_a (by omega), u2_a (by omega)]
    · intro q k g1 g2
      rw [u2_a g1, hν.1 _ _ (by omega), u2_a g1, u2_a g1]
end HIST
