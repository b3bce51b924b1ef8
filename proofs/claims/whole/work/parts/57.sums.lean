/-! the model: visits, meetings, minutes -/
theorem PM.t {μ : Mu} {a : AS} {n : Nat} (hP : PM μ a n) (hw : Wf a) (hna : n ≤ a 3) {t : Nat} (ht : t < n) : μ 237 t = nI (tl a t) ∧ tl a t ≤ 8 ∧ μ 243 t = nI (OV a n t) ∧ OV a n t ≤ 10520 ∧ t < 6 := by
  have h1 := hP.2 t ht
  have := hw.2.2.2.1
  exact ⟨h1.1, tl_le hw (by omega), h1.2.2.1, ov_le hw hna ht, by omega⟩
theorem PM.v {μ : Mu} {a : AS} {n : Nat} (hP : PM μ a n) (hw : Wf a) (hna : n ≤ a 3) {t v : Nat} (ht : t < n) (hv : v < tl a t) : (μ 238 (8 * t + v) = nI (trv a t v) ∧ trv a t v < 8) ∧ (μ 242 (8 * t + v) = nI (wk a t v) ∧ wk a t v ≤ 200) ∧ μ 239 (8 * t + v) = nI (CM a n t v) ∧ μ 240 (8 * t + v) = nI (BG a n t v) ∧ μ 241 (8 * t + v) = nI (EN a n t v) ∧ CM a n t v ≤ BG a n t v ∧ BG a n t v ≤ EN a n t v ∧ EN a n t v ≤ 10520 := by
  have h1 := hP.2 t ht
  have hE := gf_end hw hna
  have hd : v < dn (gf a n) t := by rw [hE.2.2 t ht]; exact hv
  have h2 := hE.2.1.2.2 t v ht hd
  have h3 := h1.2.2.2.2 v hd
  exact ⟨⟨h1.2.2.2.1 v hv, trv_lt hw (by omega) hv⟩, ⟨h3.2.2.2, wk_le hw (by omega) hv⟩, h3.1, h3.2.1, h3.2.2.1, h2.1, h2.2.1, h2.2.2⟩
/-- a visit's number in the rows -/
def eW (t : Nat) : Option Nat → Int32
  | none => -100006
  | some v => nI (8 * t + v)
theorem or_0 (x : Int32) : x ||| nI 0 = x := by rw [nI_0]; exact Int32.or_zero
theorem hd_s {a : AS} {t i : Nat} : hd a t i + a (37 + 12 * t) / 2 ^ trv a t i % 2 = hd a t (i + 1) := by
  show _ = hd a t i + (if hnt a t (trv a t i) = true then 1 else 0)
  unfold hnt
  rcases bit_01 (a (37 + 12 * t)) (trv a t i) with h | h <;> rw [h] <;> rfl
theorem anyN_s {p : Nat → Bool} {i : Nat} : anyN p (i + 1) = (anyN p i || p i) := rfl
section MODP
variable {l : Launch} {E : EV} {D : va_G} {cA : Nat → ClassId} {fin : Option Value → Mu → Prop} {μ : Mu} {d : Nat}
set_option maxRecDepth 100000 in
set_option maxHeartbeats 4000000 in
theorem m_visitTo {n : Nat} {a : AS} (hw : Wf a) (hna : n ≤ a 3) (hP : PM μ a n) {t p : Nat} (ht : t < n) (hp : p < 8) (hf : fin (some (.int (eW t (vis a t p)))) μ) : PS l E D cA mX6_visitTo d fin 0 [some (.ref 227), some (.int (nI t)), some (.int (nI p)), none] [] μ := by
  have hn6 : n ≤ 6 := Nat.le_trans hna hw.2.2.2.1
  have hPt := hP.t hw hna ht
  refine pw_bipush (v := nI 8) dX6_visitTo_0 (by decide) ?_
  refine pw_iload_n dX6_visitTo_2 rfl ?_
  refine px_imuln (c := 8 * t) dX6_visitTo_3 (by omega) ?_
  refine px_istore_n (ls' := [some (.ref 227), some (.int (nI t)), some (.int (nI p)), some (.int (nI (8 * t)))]) dX6_visitTo_4 rfl rfl (by decide) ?_
  have lp : ∀ i : Nat, i ≤ tl a t → ((∀ v, v < i → trv a t v ≠ p) → PS l E D cA mX6_visitTo d fin 5 [some (.ref 227), some (.int (nI t)), some (.int (nI p)), some (.int (nI (8 * t + i)))] [] μ) := by
    refine ps_for _ ?_ ?_
    · intro hN
      refine pw_iload_n dX6_visitTo_5 rfl ?_
      refine pw_bipush (v := nI 8) dX6_visitTo_6 (by decide) ?_
      refine pw_iload_n dX6_visitTo_8 rfl ?_
      refine px_imuln (c := 8 * t) dX6_visitTo_9 (by omega) ?_
      refine pw_aload_n dX6_visitTo_10 rfl ?_
      refine ps_getr (r := 237) dX6_visitTo_11 kf_X6_38 (by decide) (by decide +kernel) ?_
      refine pw_iload_n dX6_visitTo_14 rfl ?_
      refine ps_iald (j := t) (x := nI (tl a t)) dX6_visitTo_15 rfl (ok_ar (n := 6) (by decide +kernel) (by omega)) (hP.t hw hna ht).1 ?_
      refine px_iaddn (c := 8 * t + tl a t) dX6_visitTo_16 (by omega) ?_
      refine pn_ge (tgt := 38) dX6_visitTo_17 (by decide) (by omega) (by omega) (fun _ => ?_) (fun h9 => absurd h9 (by omega))
      refine pw_ldc dX6_visitTo_38 kc_X6_99 ?_
      exact ps_iret dX6_visitTo_40 rfl (rfl) (by rw [show vis a t p = none from fstN_none.mpr (fun v hv => by simpa using hN v hv)] at hf; exact hf)
    · intro i hv ih hN
      have hpl := (hP.v hw hna ht hv).1.2
      refine pw_iload_n dX6_visitTo_5 rfl ?_
      refine pw_bipush (v := nI 8) dX6_visitTo_6 (by decide) ?_
      refine pw_iload_n dX6_visitTo_8 rfl ?_
      refine px_imuln (c := 8 * t) dX6_visitTo_9 (by omega) ?_
      refine pw_aload_n dX6_visitTo_10 rfl ?_
      refine ps_getr (r := 237) dX6_visitTo_11 kf_X6_38 (by decide) (by decide +kernel) ?_
      refine pw_iload_n dX6_visitTo_14 rfl ?_
      refine ps_iald (j := t) (x := nI (tl a t)) dX6_visitTo_15 rfl (ok_ar (n := 6) (by decide +kernel) (by omega)) (hP.t hw hna ht).1 ?_
      refine px_iaddn (c := 8 * t + tl a t) dX6_visitTo_16 (by omega) ?_
      refine pn_ge (tgt := 38) dX6_visitTo_17 (by decide) (by omega) (by omega) (fun h9 => absurd h9 (by omega)) (fun _ => ?_)
      refine pw_aload_n dX6_visitTo_20 rfl ?_
      refine ps_getr (r := 238) dX6_visitTo_21 kf_X6_41 (by decide) (by decide +kernel) ?_
      refine pw_iload_n dX6_visitTo_24 rfl ?_
      refine ps_iald (j := 8 * t + i) (x := nI (trv a t i)) dX6_visitTo_25 rfl (ok_ar (n := 48) (by decide +kernel) (by omega)) (hP.v hw hna ht hv).1.1 ?_
      refine pw_iload_n dX6_visitTo_26 rfl ?_
      refine pn_ne (tgt := 32) dX6_visitTo_27 (by decide) (by omega) (by omega) (fun hc => ?_) (fun hc => ?_)
      · refine px_iincn (n := 1) (a := 8 * t + i) (b := 8 * t + i + 1) (ls' := [some (.ref 227), some (.int (nI t)), some (.int (nI p)), some (.int (nI (8 * t + i + 1)))]) dX6_visitTo_32 rfl rfl rfl (by omega) ?_
        refine pw_goto (tgt := 5) dX6_visitTo_35 (by decide) ?_
        exact ih (fun v h9 => by
          rcases Nat.lt_or_eq_of_le (Nat.le_of_lt_succ h9) with h | rfl
          · exact hN v h
          · exact hc)
      · refine pw_iload_n dX6_visitTo_30 rfl ?_
        exact ps_iret dX6_visitTo_31 rfl (rfl) (by rw [show vis a t p = some i from fstN_some.mpr ⟨hv, by simpa using hc, fun v h9 => by simpa using hN v h9⟩] at hf; exact hf)
  exact lp 0 (Nat.zero_le _) (fun v hv => absurd hv (Nat.not_lt_zero _))
set_option maxRecDepth 100000 in
set_option maxHeartbeats 4000000 in
theorem m_queued {n : Nat} {a : AS} (hw : Wf a) (hna : n ≤ a 3) (hP : PM μ a n) {t : Nat} (ht : t < n) (hf : fin (some (.int (nI (qd a n t (tl a t))))) μ) : PS l E D cA mX6_queued d fin 0 [some (.ref 227), some (.int (nI t)), none, none] [] μ := by
  have hn6 : n ≤ 6 := Nat.le_trans hna hw.2.2.2.1
  have hPt := hP.t hw hna ht
  refine pw_iconst_ (v := nI 0) dX6_queued_0 (by decide) ?_
  refine px_istore_n (ls' := [some (.ref 227), some (.int (nI t)), some (.int (nI 0)), none]) dX6_queued_1 rfl rfl (by decide) ?_
  refine pw_bipush (v := nI 8) dX6_queued_2 (by decide) ?_
  refine pw_iload_n dX6_queued_4 rfl ?_
  refine px_imuln (c := 8 * t) dX6_queued_5 (by omega) ?_
  refine px_istore_n (ls' := [some (.ref 227), some (.int (nI t)), some (.int (nI 0)), some (.int (nI (8 * t)))]) dX6_queued_6 rfl rfl (by decide) ?_
  have lp : ∀ i : Nat, i ≤ tl a t → PS l E D cA mX6_queued d fin 7 [some (.ref 227), some (.int (nI t)), some (.int (nI (qd a n t i))), some (.int (nI (8 * t + i)))] [] μ := by
    refine ps_for _ ?_ ?_
    · skip
      refine pw_iload_n dX6_queued_7 rfl ?_
      refine pw_bipush (v := nI 8) dX6_queued_8 (by decide) ?_
      refine pw_iload_n dX6_queued_10 rfl ?_
      refine px_imuln (c := 8 * t) dX6_queued_11 (by omega) ?_
      refine pw_aload_n dX6_queued_12 rfl ?_
      refine ps_getr (r := 237) dX6_queued_13 kf_X6_38 (by decide) (by decide +kernel) ?_
      refine pw_iload_n dX6_queued_16 rfl ?_
      refine ps_iald (j := t) (x := nI (tl a t)) dX6_queued_17 rfl (ok_ar (n := 6) (by decide +kernel) (by omega)) (hP.t hw hna ht).1 ?_
      refine px_iaddn (c := 8 * t + tl a t) dX6_queued_18 (by omega) ?_
      refine pn_ge (tgt := 44) dX6_queued_19 (by decide) (by omega) (by omega) (fun _ => ?_) (fun h9 => absurd h9 (by omega))
      refine pw_iload_n dX6_queued_44 rfl ?_
      exact ps_iret dX6_queued_45 rfl (rfl) hf
    · intro i hv ih
      have hV := hP.v hw hna ht hv
      refine pw_iload_n dX6_queued_7 rfl ?_
      refine pw_bipush (v := nI 8) dX6_queued_8 (by decide) ?_
      refine pw_iload_n dX6_queued_10 rfl ?_
      refine px_imuln (c := 8 * t) dX6_queued_11 (by omega) ?_
      refine pw_aload_n dX6_queued_12 rfl ?_
      refine ps_getr (r := 237) dX6_queued_13 kf_X6_38 (by decide) (by decide +kernel) ?_
      refine pw_iload_n dX6_queued_16 rfl ?_
      refine ps_iald (j := t) (x := nI (tl a t)) dX6_queued_17 rfl (ok_ar (n := 6) (by decide +kernel) (by omega)) (hP.t hw hna ht).1 ?_
      refine px_iaddn (c := 8 * t + tl a t) dX6_queued_18 (by omega) ?_
      refine pn_ge (tgt := 44) dX6_queued_19 (by decide) (by omega) (by omega) (fun h9 => absurd h9 (by omega)) (fun _ => ?_)
      refine pw_iload_n dX6_queued_22 rfl ?_
      refine pw_aload_n dX6_queued_23 rfl ?_
      refine ps_getr (r := 240) dX6_queued_24 kf_X6_47 (by decide) (by decide +kernel) ?_
      refine pw_iload_n dX6_queued_27 rfl ?_
      refine ps_iald (j := 8 * t + i) (x := nI (BG a n t i)) dX6_queued_28 rfl (ok_ar (n := 48) (by decide +kernel) (by omega)) (hP.v hw hna ht hv).2.2.2.1 ?_
      refine pw_aload_n dX6_queued_29 rfl ?_
      refine ps_getr (r := 239) dX6_queued_30 kf_X6_44 (by decide) (by decide +kernel) ?_
      refine pw_iload_n dX6_queued_33 rfl ?_
      refine ps_iald (j := 8 * t + i) (x := nI (CM a n t i)) dX6_queued_34 rfl (ok_ar (n := 48) (by decide +kernel) (by omega)) (hP.v hw hna ht hv).2.2.1 ?_
      refine pn_isub hV.2.2.2.2.2.1 dX6_queued_35 ?_
      refine px_iaddn (c := qd a n t (i + 1)) dX6_queued_36 rfl ?_
      refine px_istore_n (ls' := [some (.ref 227), some (.int (nI t)), some (.int (nI (qd a n t (i + 1)))), some (.int (nI (8 * t + i)))]) dX6_queued_37 rfl rfl (by decide) ?_
      refine px_iincn (n := 1) (a := 8 * t + i) (b := 8 * t + i + 1) (ls' := [some (.ref 227), some (.int (nI t)), some (.int (nI (qd a n t (i + 1)))), some (.int (nI (8 * t + i + 1)))]) dX6_queued_38 rfl rfl rfl (by omega) ?_
      refine pw_goto (tgt := 7) dX6_queued_41 (by decide) ?_
      exact ih
  exact lp 0 (Nat.zero_le _)
set_option maxRecDepth 100000 in
set_option maxHeartbeats 4000000 in
theorem m_walked {n : Nat} {a : AS} (hw : Wf a) (hna : n ≤ a 3) (hP : PM μ a n) {t : Nat} (ht : t < n) (hf : fin (some (.int (nI (wd a t (tl a t))))) μ) : PS l E D cA mX6_walked d fin 0 [some (.ref 227), some (.int (nI t)), none, none] [] μ := by
  have hn6 : n ≤ 6 := Nat.le_trans hna hw.2.2.2.1
  have hPt := hP.t hw hna ht
  refine pw_iconst_ (v := nI 0) dX6_walked_0 (by decide) ?_
  refine px_istore_n (ls' := [some (.ref 227), some (.int (nI t)), some (.int (nI 0)), none]) dX6_walked_1 rfl rfl (by decide) ?_
  refine pw_bipush (v := nI 8) dX6_walked_2 (by decide) ?_
  refine pw_iload_n dX6_walked_4 rfl ?_
  refine px_imuln (c := 8 * t) dX6_walked_5 (by omega) ?_
  refine px_istore_n (ls' := [some (.ref 227), some (.int (nI t)), some (.int (nI 0)), some (.int (nI (8 * t)))]) dX6_walked_6 rfl rfl (by decide) ?_
  have lp : ∀ i : Nat, i ≤ tl a t → PS l E D cA mX6_walked d fin 7 [some (.ref 227), some (.int (nI t)), some (.int (nI (wd a t i))), some (.int (nI (8 * t + i)))] [] μ := by
    refine ps_for _ ?_ ?_
    · skip
      refine pw_iload_n dX6_walked_7 rfl ?_
      refine pw_bipush (v := nI 8) dX6_walked_8 (by decide) ?_
      refine pw_iload_n dX6_walked_10 rfl ?_
      refine px_imuln (c := 8 * t) dX6_walked_11 (by omega) ?_
      refine pw_aload_n dX6_walked_12 rfl ?_
      refine ps_getr (r := 237) dX6_walked_13 kf_X6_38 (by decide) (by decide +kernel) ?_
      refine pw_iload_n dX6_walked_16 rfl ?_
      refine ps_iald (j := t) (x := nI (tl a t)) dX6_walked_17 rfl (ok_ar (n := 6) (by decide +kernel) (by omega)) (hP.t hw hna ht).1 ?_
      refine px_iaddn (c := 8 * t + tl a t) dX6_walked_18 (by omega) ?_
      refine pn_ge (tgt := 37) dX6_walked_19 (by decide) (by omega) (by omega) (fun _ => ?_) (fun h9 => absurd h9 (by omega))
      refine pw_iload_n dX6_walked_37 rfl ?_
      exact ps_iret dX6_walked_38 rfl (rfl) hf
    · intro i hv ih
      have hV := hP.v hw hna ht hv
      refine pw_iload_n dX6_walked_7 rfl ?_
      refine pw_bipush (v := nI 8) dX6_walked_8 (by decide) ?_
      refine pw_iload_n dX6_walked_10 rfl ?_
      refine px_imuln (c := 8 * t) dX6_walked_11 (by omega) ?_
      refine pw_aload_n dX6_walked_12 rfl ?_
      refine ps_getr (r := 237) dX6_walked_13 kf_X6_38 (by decide) (by decide +kernel) ?_
      refine pw_iload_n dX6_walked_16 rfl ?_
      refine ps_iald (j := t) (x := nI (tl a t)) dX6_walked_17 rfl (ok_ar (n := 6) (by decide +kernel) (by omega)) (hP.t hw hna ht).1 ?_
      refine px_iaddn (c := 8 * t + tl a t) dX6_walked_18 (by omega) ?_
      refine pn_ge (tgt := 37) dX6_walked_19 (by decide) (by omega) (by omega) (fun h9 => absurd h9 (by omega)) (fun _ => ?_)
      refine pw_iload_n dX6_walked_22 rfl ?_
      refine pw_aload_n dX6_walked_23 rfl ?_
      refine ps_getr (r := 242) dX6_walked_24 kf_X6_53 (by decide) (by decide +kernel) ?_
      refine pw_iload_n dX6_walked_27 rfl ?_
      refine ps_iald (j := 8 * t + i) (x := nI (wk a t i)) dX6_walked_28 rfl (ok_ar (n := 48) (by decide +kernel) (by omega)) (hP.v hw hna ht hv).2.1.1 ?_
      refine px_iaddn (c := wd a t (i + 1)) dX6_walked_29 rfl ?_
      refine px_istore_n (ls' := [some (.ref 227), some (.int (nI t)), some (.int (nI (wd a t (i + 1)))), some (.int (nI (8 * t + i)))]) dX6_walked_30 rfl rfl (by decide) ?_
      refine px_iincn (n := 1) (a := 8 * t + i) (b := 8 * t + i + 1) (ls' := [some (.ref 227), some (.int (nI t)), some (.int (nI (wd a t (i + 1)))), some (.int (nI (8 * t + i + 1)))]) dX6_walked_31 rfl rfl rfl (by omega) ?_
      refine pw_goto (tgt := 7) dX6_walked_34 (by decide) ?_
      exact ih
  exact lp 0 (Nat.zero_le _)
set_option maxRecDepth 100000 in
set_option maxHeartbeats 4000000 in
theorem m_hinted {n : Nat} {a : AS} (hw : Wf a) (hna : n ≤ a 3) (hP : PM μ a n) {t : Nat} (ht : t < n) (hR : RM μ a) (hf : fin (some (.int (nI (hd a t (tl a t))))) μ) : PS l E D cA mX6_hinted (d + 1) fin 0 [some (.ref 227), some (.int (nI t)), none, none] [] μ := by
  have hn6 : n ≤ 6 := Nat.le_trans hna hw.2.2.2.1
  have hPt := hP.t hw hna ht
  have hT := hw.tm (t := t) (by omega)
  refine pw_iconst_ (v := nI 0) dX6_hinted_0 (by decide) ?_
  refine px_istore_n (ls' := [some (.ref 227), some (.int (nI t)), some (.int (nI 0)), none]) dX6_hinted_1 rfl rfl (by decide) ?_
  refine pw_bipush (v := nI 8) dX6_hinted_2 (by decide) ?_
  refine pw_iload_n dX6_hinted_4 rfl ?_
  refine px_imuln (c := 8 * t) dX6_hinted_5 (by omega) ?_
  refine px_istore_n (ls' := [some (.ref 227), some (.int (nI t)), some (.int (nI 0)), some (.int (nI (8 * t)))]) dX6_hinted_6 rfl rfl (by decide) ?_
  have lp : ∀ i : Nat, i ≤ tl a t → PS l E D cA mX6_hinted (d + 1) fin 7 [some (.ref 227), some (.int (nI t)), some (.int (nI (hd a t i))), some (.int (nI (8 * t + i)))] [] μ := by
    refine ps_for _ ?_ ?_
    · skip
      refine pw_iload_n dX6_hinted_7 rfl ?_
      refine pw_bipush (v := nI 8) dX6_hinted_8 (by decide) ?_
      refine pw_iload_n dX6_hinted_10 rfl ?_
      refine px_imuln (c := 8 * t) dX6_hinted_11 (by omega) ?_
      refine pw_aload_n dX6_hinted_12 rfl ?_
      refine ps_getr (r := 237) dX6_hinted_13 kf_X6_38 (by decide) (by decide +kernel) ?_
      refine pw_iload_n dX6_hinted_16 rfl ?_
      refine ps_iald (j := t) (x := nI (tl a t)) dX6_hinted_17 rfl (ok_ar (n := 6) (by decide +kernel) (by omega)) (hP.t hw hna ht).1 ?_
      refine px_iaddn (c := 8 * t + tl a t) dX6_hinted_18 (by omega) ?_
      refine pn_ge (tgt := 46) dX6_hinted_19 (by decide) (by omega) (by omega) (fun _ => ?_) (fun h9 => absurd h9 (by omega))
      refine pw_iload_n dX6_hinted_46 rfl ?_
      exact ps_iret dX6_hinted_47 rfl (rfl) hf
    · intro i hv ih
      have hV := hP.v hw hna ht hv
      refine pw_iload_n dX6_hinted_7 rfl ?_
      refine pw_bipush (v := nI 8) dX6_hinted_8 (by decide) ?_
      refine pw_iload_n dX6_hinted_10 rfl ?_
      refine px_imuln (c := 8 * t) dX6_hinted_11 (by omega) ?_
      refine pw_aload_n dX6_hinted_12 rfl ?_
      refine ps_getr (r := 237) dX6_hinted_13 kf_X6_38 (by decide) (by decide +kernel) ?_
      refine pw_iload_n dX6_hinted_16 rfl ?_
      refine ps_iald (j := t) (x := nI (tl a t)) dX6_hinted_17 rfl (ok_ar (n := 6) (by decide +kernel) (by omega)) (hP.t hw hna ht).1 ?_
      refine px_iaddn (c := 8 * t + tl a t) dX6_hinted_18 (by omega) ?_
      refine pn_ge (tgt := 46) dX6_hinted_19 (by decide) (by omega) (by omega) (fun h9 => absurd h9 (by omega)) (fun _ => ?_)
      refine pw_iload_n dX6_hinted_22 rfl ?_
      refine pw_aload_n dX6_hinted_23 rfl ?_
      refine pw_iload_n dX6_hinted_24 rfl ?_
      refine pw_iconst_ (v := nI 1) dX6_hinted_25 (by decide) ?_
      refine ps_callV (b := 227) (As := [.int (nI t), .int (nI 1)]) (st := [.int (nI (hd a t i))]) dX6_hinted_26 cv_X6_85 rfl ⟨by decide, by decide +kernel⟩ (Nat.le_of_ble_eq_true rfl) (Nat.le_of_ble_eq_true rfl) ?_
      refine m_its (t := t) (w := 1) (by omega) ((hR _ (by omega)).trans (by rw [show 36 + 12 * t + 1 = 37 + 12 * t by omega])) ?_
      show PS l E D cA mX6_hinted (d + 1) fin 29 [some (.ref 227), some (.int (nI t)), some (.int (nI (hd a t i))), some (.int (nI (8 * t + i)))] [.int (nI (a (37 + 12 * t))), .int (nI (hd a t i))] μ
      refine pw_aload_n dX6_hinted_29 rfl ?_
      refine ps_getr (r := 238) dX6_hinted_30 kf_X6_41 (by decide) (by decide +kernel) ?_
      refine pw_iload_n dX6_hinted_33 rfl ?_
      refine ps_iald (j := 8 * t + i) (x := nI (trv a t i)) dX6_hinted_34 rfl (ok_ar (n := 48) (by decide +kernel) (by omega)) (hP.v hw hna ht hv).1.1 ?_
      refine pw_ishr dX6_hinted_35 ?_
      refine pw_iconst_ (v := nI 1) dX6_hinted_36 (by decide) ?_
      refine pw_iand dX6_hinted_37 ?_
      rw [bit_shr _ hT.2.1 _ hV.1.2]
      refine px_iaddn (c := hd a t (i + 1)) dX6_hinted_38 hd_s ?_
      refine px_istore_n (ls' := [some (.ref 227), some (.int (nI t)), some (.int (nI (hd a t (i + 1)))), some (.int (nI (8 * t + i)))]) dX6_hinted_39 rfl rfl (by decide) ?_
      refine px_iincn (n := 1) (a := 8 * t + i) (b := 8 * t + i + 1) (ls' := [some (.ref 227), some (.int (nI t)), some (.int (nI (hd a t (i + 1)))), some (.int (nI (8 * t + i + 1)))]) dX6_hinted_40 rfl rfl rfl (by omega) ?_
      refine pw_goto (tgt := 7) dX6_hinted_43 (by decide) ?_
      exact ih
  exact lp 0 (Nat.zero_le _)
set_option maxRecDepth 100000 in
set_option maxHeartbeats 4000000 in
theorem m_meetAt {n : Nat} {a : AS} (hw : Wf a) (hna : n ≤ a 3) (hP : PM μ a n) {t u p : Nat} (ht : t < n) (hu : u < n) (hp : p < 8) (hf : fin (some (.int (kb (mtp a n t u p = true)))) μ) : PS l E D cA mX6_meetAt (d + 1) fin 0 [some (.ref 227), some (.int (nI t)), some (.int (nI u)), some (.int (nI p)), none, none] [] μ := by
  have hn6 : n ≤ 6 := Nat.le_trans hna hw.2.2.2.1
  have hPt := hP.t hw hna ht
  have hPu := hP.t hw hna hu
  refine pw_aload_n dX6_meetAt_0 rfl ?_
  refine pw_iload_n dX6_meetAt_1 rfl ?_
  refine pw_iload_n dX6_meetAt_2 rfl ?_
  refine ps_callV (b := 227) (As := [.int (nI t), .int (nI p)]) (st := []) dX6_meetAt_3 cv_X6_115 rfl ⟨by decide, by decide +kernel⟩ (Nat.le_of_ble_eq_true rfl) (Nat.le_of_ble_eq_true rfl) ?_
  refine m_visitTo hw hna hP ht hp ?_
  show PS l E D cA mX6_meetAt (d + 1) fin 6 [some (.ref 227), some (.int (nI t)), some (.int (nI u)), some (.int (nI p)), none, none] [.int (eW t (vis a t p))] μ
  refine px_istore (ls' := [some (.ref 227), some (.int (nI t)), some (.int (nI u)), some (.int (nI p)), some (.int (eW t (vis a t p))), none]) dX6_meetAt_6 rfl rfl (by decide) ?_
  refine pw_aload_n dX6_meetAt_8 rfl ?_
  refine pw_iload_n dX6_meetAt_9 rfl ?_
  refine pw_iload_n dX6_meetAt_10 rfl ?_
  refine ps_callV (b := 227) (As := [.int (nI u), .int (nI p)]) (st := []) dX6_meetAt_11 cv_X6_115 rfl ⟨by decide, by decide +kernel⟩ (Nat.le_of_ble_eq_true rfl) (Nat.le_of_ble_eq_true rfl) ?_
  refine m_visitTo hw hna hP hu hp ?_
  show PS l E D cA mX6_meetAt (d + 1) fin 14 [some (.ref 227), some (.int (nI t)), some (.int (nI u)), some (.int (nI p)), some (.int (eW t (vis a t p))), none] [.int (eW u (vis a u p))] μ
  refine px_istore (ls' := [some (.ref 227), some (.int (nI t)), some (.int (nI u)), some (.int (nI p)), some (.int (eW t (vis a t p))), some (.int (eW u (vis a u p)))]) dX6_meetAt_14 rfl rfl (by decide) ?_
  cases hv0 : vis a t p with
  | none =>
    show PS l E D cA mX6_meetAt (d + 1) fin 16 [some (.ref 227), some (.int (nI t)), some (.int (nI u)), some (.int (nI p)), some (.int (-100006)), some (.int (eW u (vis a u p)))] [] μ
    refine pw_iload dX6_meetAt_16 rfl ?_
    refine pw_ldc dX6_meetAt_18 kc_X6_99 ?_
    refine pw_icmp_eq (tgt := 68) dX6_meetAt_20 (by decide) (fun _ => ?_) (fun h9 => absurd rfl h9)
    refine pw_iconst_ (v := nI 0) dX6_meetAt_68 (by decide) ?_
    exact ps_iret dX6_meetAt_69 rfl (by decide) (by rw [show mtp a n t u p = false by unfold mtp; rw [hv0], kb_f (by decide)] at hf; exact hf)
  | some v =>
    obtain ⟨hv, hvp⟩ := vis_some hv0
    have hV := hP.v hw hna ht hv
    show PS l E D cA mX6_meetAt (d + 1) fin 16 [some (.ref 227), some (.int (nI t)), some (.int (nI u)), some (.int (nI p)), some (.int (nI (8 * t + v))), some (.int (eW u (vis a u p)))] [] μ
    refine pw_iload dX6_meetAt_16 rfl ?_
    refine pw_ldc dX6_meetAt_18 kc_X6_99 ?_
    refine pw_icmp_eq (tgt := 68) dX6_meetAt_20 (by decide) (fun h9 => absurd h9 (nI_n6 (by omega))) (fun _ => ?_)
    cases hw0 : vis a u p with
    | none =>
      show PS l E D cA mX6_meetAt (d + 1) fin 23 [some (.ref 227), some (.int (nI t)), some (.int (nI u)), some (.int (nI p)), some (.int (nI (8 * t + v))), some (.int (-100006))] [] μ
      refine pw_iload dX6_meetAt_23 rfl ?_
      refine pw_ldc dX6_meetAt_25 kc_X6_99 ?_
      refine pw_icmp_eq (tgt := 68) dX6_meetAt_27 (by decide) (fun _ => ?_) (fun h9 => absurd rfl h9)
      refine pw_iconst_ (v := nI 0) dX6_meetAt_68 (by decide) ?_
      exact ps_iret dX6_meetAt_69 rfl (by decide) (by rw [show mtp a n t u p = false by unfold mtp; rw [hv0, hw0], kb_f (by decide)] at hf; exact hf)
    | some w =>
      obtain ⟨hw2, hwp⟩ := vis_some hw0
      have hW := hP.v hw hna hu hw2
      have hmt : mtp a n t u p = (decide (CM a n t v ≤ EN a n u w) && decide (CM a n u w ≤ EN a n t v)) := by unfold mtp; rw [hv0, hw0]
      show PS l E D cA mX6_meetAt (d + 1) fin 23 [some (.ref 227), some (.int (nI t)), some (.int (nI u)), some (.int (nI p)), some (.int (nI (8 * t + v))), some (.int (nI (8 * u + w)))] [] μ
      refine pw_iload dX6_meetAt_23 rfl ?_
      refine pw_ldc dX6_meetAt_25 kc_X6_99 ?_
      refine pw_icmp_eq (tgt := 68) dX6_meetAt_27 (by decide) (fun h9 => absurd h9 (nI_n6 (by omega))) (fun _ => ?_)
      refine pw_aload_n dX6_meetAt_30 rfl ?_
      refine ps_getr (r := 239) dX6_meetAt_31 kf_X6_44 (by decide) (by decide +kernel) ?_
      refine pw_iload dX6_meetAt_34 rfl ?_
      refine ps_iald (j := 8 * t + v) (x := nI (CM a n t v)) dX6_meetAt_36 rfl (ok_ar (n := 48) (by decide +kernel) (by omega)) (hP.v hw hna ht hv).2.2.1 ?_
      refine pw_aload_n dX6_meetAt_37 rfl ?_
      refine ps_getr (r := 241) dX6_meetAt_38 kf_X6_50 (by decide) (by decide +kernel) ?_
      refine pw_iload dX6_meetAt_41 rfl ?_
      refine ps_iald (j := 8 * u + w) (x := nI (EN a n u w)) dX6_meetAt_43 rfl (ok_ar (n := 48) (by decide +kernel) (by omega)) (hP.v hw hna hu hw2).2.2.2.2.1 ?_
      refine pn_gt (tgt := 68) dX6_meetAt_44 (by decide) (by omega) (by omega) (fun h1 => ?_) (fun h1 => ?_)
      · refine pw_iconst_ (v := nI 0) dX6_meetAt_68 (by decide) ?_
        exact ps_iret dX6_meetAt_69 rfl (by decide) (by rw [kb_f (fun q => by rw [hmt] at q; simp at q; omega)] at hf; exact hf)
      · refine pw_aload_n dX6_meetAt_47 rfl ?_
        refine ps_getr (r := 239) dX6_meetAt_48 kf_X6_44 (by decide) (by decide +kernel) ?_
        refine pw_iload dX6_meetAt_51 rfl ?_
        refine ps_iald (j := 8 * u + w) (x := nI (CM a n u w)) dX6_meetAt_53 rfl (ok_ar (n := 48) (by decide +kernel) (by omega)) (hP.v hw hna hu hw2).2.2.1 ?_
        refine pw_aload_n dX6_meetAt_54 rfl ?_
        refine ps_getr (r := 241) dX6_meetAt_55 kf_X6_50 (by decide) (by decide +kernel) ?_
        refine pw_iload dX6_meetAt_58 rfl ?_
        refine ps_iald (j := 8 * t + v) (x := nI (EN a n t v)) dX6_meetAt_60 rfl (ok_ar (n := 48) (by decide +kernel) (by omega)) (hP.v hw hna ht hv).2.2.2.2.1 ?_
        refine pn_gt (tgt := 68) dX6_meetAt_61 (by decide) (by omega) (by omega) (fun h2 => ?_) (fun h2 => ?_)
        · refine pw_iconst_ (v := nI 0) dX6_meetAt_68 (by decide) ?_
          exact ps_iret dX6_meetAt_69 rfl (by decide) (by rw [kb_f (fun q => by rw [hmt] at q; simp at q; omega)] at hf; exact hf)
        · refine pw_iconst_ (v := nI 1) dX6_meetAt_64 (by decide) ?_
          refine pw_goto (tgt := 69) dX6_meetAt_65 (by decide) ?_
          exact ps_iret dX6_meetAt_69 rfl (by decide) (by rw [kb_t (by rw [hmt]; simp; omega)] at hf; exact hf)
set_option maxRecDepth 100000 in
set_option maxHeartbeats 4000000 in
theorem m_meet {n : Nat} {a : AS} (hw : Wf a) (hna : n ≤ a 3) (hP : PM μ a n) {t u : Nat} (ht : t < n) (hu : u < n) (hf : fin (some (.int (kb (mt a n t u = true)))) μ) : PS l E D cA mX6_meet (d + 2) fin 0 [some (.ref 227), some (.int (nI t)), some (.int (nI u)), none, none] [] μ := by
  have hn6 : n ≤ 6 := Nat.le_trans hna hw.2.2.2.1
  have hPt := hP.t hw hna ht
  refine pw_iconst_ (v := nI 0) dX6_meet_0 (by decide) ?_
  refine px_istore_n (ls' := [some (.ref 227), some (.int (nI t)), some (.int (nI u)), some (.int (nI 0)), none]) dX6_meet_1 rfl rfl (by decide) ?_
  refine pw_iconst_ (v := nI 0) dX6_meet_2 (by decide) ?_
  refine px_istore (ls' := [some (.ref 227), some (.int (nI t)), some (.int (nI u)), some (.int (nI 0)), some (.int (nI 0))]) dX6_meet_3 rfl rfl (by decide) ?_
  have lp : ∀ i : Nat, i ≤ 8 → PS l E D cA mX6_meet (d + 2) fin 5 [some (.ref 227), some (.int (nI t)), some (.int (nI u)), some (.int (kb (anyN (fun p => mtp a n t u p) i = true))), some (.int (nI i))] [] μ := by
    refine ps_for _ ?_ ?_
    · skip
      refine pw_iload dX6_meet_5 rfl ?_
      refine pw_bipush (v := nI 8) dX6_meet_7 (by decide) ?_
      refine pn_ge (tgt := 39) dX6_meet_9 (by decide) (by omega) (by omega) (fun _ => ?_) (fun h9 => absurd h9 (by decide))
      refine pw_iload_n dX6_meet_39 rfl ?_
      exact ps_iret dX6_meet_40 rfl (kb_nar) hf
    · intro i hi ih
      refine pw_iload dX6_meet_5 rfl ?_
      refine pw_bipush (v := nI 8) dX6_meet_7 (by decide) ?_
      refine pn_ge (tgt := 39) dX6_meet_9 (by decide) (by omega) (by omega) (fun h9 => absurd h9 (by omega)) (fun _ => ?_)
      refine pw_iload_n dX6_meet_12 rfl ?_
      by_cases ha : anyN (fun p => mtp a n t u p) i = true
      · rw [kb_t ha]
        show PS l E D cA mX6_meet (d + 2) fin 13 [some (.ref 227), some (.int (nI t)), some (.int (nI u)), some (.int (nI 1)), some (.int (nI i))] [.int (nI 1)] μ
        refine pw_if_ne (tgt := 27) dX6_meet_13 (by decide) (fun _ => ?_) (fun h9 => absurd h9 nI1_ne)
        refine pw_iconst_ (v := nI 1) dX6_meet_27 (by decide) ?_
        refine pw_goto (tgt := 32) dX6_meet_28 (by decide) ?_
        refine px_istore_n (ls' := [some (.ref 227), some (.int (nI t)), some (.int (nI u)), some (.int (nI 1)), some (.int (nI i))]) dX6_meet_32 rfl rfl (by decide) ?_
        refine px_iincn (n := 1) (a := i) (b := i + 1) (ls' := [some (.ref 227), some (.int (nI t)), some (.int (nI u)), some (.int (nI 1)), some (.int (nI (i + 1)))]) dX6_meet_33 rfl rfl rfl (by omega) ?_
        refine pw_goto (tgt := 5) dX6_meet_36 (by decide) ?_
        rw [kb_t (by rw [anyN_s, ha]; rfl)] at ih
        exact ih
      · rw [kb_f ha]
        show PS l E D cA mX6_meet (d + 2) fin 13 [some (.ref 227), some (.int (nI t)), some (.int (nI u)), some (.int (nI 0)), some (.int (nI i))] [.int (nI 0)] μ
        refine pw_if_ne (tgt := 27) dX6_meet_13 (by decide) (fun h9 => absurd nI_0 h9) (fun _ => ?_)
        refine pw_aload_n dX6_meet_16 rfl ?_
        refine pw_iload_n dX6_meet_17 rfl ?_
        refine pw_iload_n dX6_meet_18 rfl ?_
        refine pw_iload dX6_meet_19 rfl ?_
        refine ps_callV (b := 227) (As := [.int (nI t), .int (nI u), .int (nI i)]) (st := []) dX6_meet_21 cv_X6_118 rfl ⟨by decide, by decide +kernel⟩ (Nat.le_of_ble_eq_true rfl) (Nat.le_of_ble_eq_true rfl) ?_
        refine m_meetAt hw hna hP ht hu hi ?_
        show PS l E D cA mX6_meet (d + 2) fin 24 [some (.ref 227), some (.int (nI t)), some (.int (nI u)), some (.int (nI 0)), some (.int (nI i))] [.int (kb (mtp a n t u i = true))] μ
        by_cases hc : mtp a n t u i = true
        · rw [kb_t hc]
          refine pw_if_eq (tgt := 31) dX6_meet_24 (by decide) (fun h9 => absurd h9 nI1_ne) (fun _ => ?_)
          refine pw_iconst_ (v := nI 1) dX6_meet_27 (by decide) ?_
          refine pw_goto (tgt := 32) dX6_meet_28 (by decide) ?_
          refine px_istore_n (ls' := [some (.ref 227), some (.int (nI t)), some (.int (nI u)), some (.int (nI 1)), some (.int (nI i))]) dX6_meet_32 rfl rfl (by decide) ?_
          refine px_iincn (n := 1) (a := i) (b := i + 1) (ls' := [some (.ref 227), some (.int (nI t)), some (.int (nI u)), some (.int (nI 1)), some (.int (nI (i + 1)))]) dX6_meet_33 rfl rfl rfl (by omega) ?_
          refine pw_goto (tgt := 5) dX6_meet_36 (by decide) ?_
          rw [kb_t (by rw [anyN_s]; simp [hc])] at ih
          exact ih
        · rw [kb_f hc]
          refine pw_if_eq (tgt := 31) dX6_meet_24 (by decide) (fun _ => ?_) (fun h9 => absurd nI_0 h9)
          refine pw_iconst_ (v := nI 0) dX6_meet_31 (by decide) ?_
          refine px_istore_n (ls' := [some (.ref 227), some (.int (nI t)), some (.int (nI u)), some (.int (nI 0)), some (.int (nI i))]) dX6_meet_32 rfl rfl (by decide) ?_
          refine px_iincn (n := 1) (a := i) (b := i + 1) (ls' := [some (.ref 227), some (.int (nI t)), some (.int (nI u)), some (.int (nI 0)), some (.int (nI (i + 1)))]) dX6_meet_33 rfl rfl rfl (by omega) ?_
          refine pw_goto (tgt := 5) dX6_meet_36 (by decide) ?_
          rw [kb_f (by rw [anyN_s]; simp only [Bool.not_eq_true] at ha hc; simp [ha, hc])] at ih
          exact ih
  exact lp 0 (by decide)
set_option maxRecDepth 100000 in
set_option maxHeartbeats 4000000 in
theorem m_met {n : Nat} {a : AS} (hw : Wf a) (hna : n ≤ a 3) (hP : PM μ a n) {t : Nat} (ht : t < n) (hf : fin (some (.int (nI (msk (metp a n t) n)))) μ) : PS l E D cA mX6_met (d + 3) fin 0 [some (.ref 227), some (.int (nI t)), none, none] [] μ := by
  have hn6 : n ≤ 6 := Nat.le_trans hna hw.2.2.2.1
  refine pw_iconst_ (v := nI 0) dX6_met_0 (by decide) ?_
  refine px_istore_n (ls' := [some (.ref 227), some (.int (nI t)), some (.int (nI 0)), none]) dX6_met_1 rfl rfl (by decide) ?_
  refine pw_iconst_ (v := nI 0) dX6_met_2 (by decide) ?_
  refine px_istore_n (ls' := [some (.ref 227), some (.int (nI t)), some (.int (nI 0)), some (.int (nI 0))]) dX6_met_3 rfl rfl (by decide) ?_
  have lp : ∀ i : Nat, i ≤ n → PS l E D cA mX6_met (d + 3) fin 4 [some (.ref 227), some (.int (nI t)), some (.int (nI (msk (metp a n t) i))), some (.int (nI i))] [] μ := by
    refine ps_for _ ?_ ?_
    · skip
      refine pw_iload_n dX6_met_4 rfl ?_
      refine pw_aload_n dX6_met_5 rfl ?_
      refine ps_geti (x := nI n) dX6_met_6 kf_X6_82 (by decide) (by decide +kernel) (hP.1) ?_
      refine pn_ge (tgt := 42) dX6_met_9 (by decide) (by omega) (by omega) (fun _ => ?_) (fun h9 => absurd h9 (by omega))
      refine pw_iload_n dX6_met_42 rfl ?_
      exact ps_iret dX6_met_43 rfl (rfl) hf
    · intro i hi ih
      have hPi := hP.t hw hna hi
      refine pw_iload_n dX6_met_4 rfl ?_
      refine pw_aload_n dX6_met_5 rfl ?_
      refine ps_geti (x := nI n) dX6_met_6 kf_X6_82 (by decide) (by decide +kernel) (hP.1) ?_
      refine pn_ge (tgt := 42) dX6_met_9 (by decide) (by omega) (by omega) (fun h9 => absurd h9 (by omega)) (fun _ => ?_)
      refine pw_iload_n dX6_met_12 rfl ?_
      refine pw_iload_n dX6_met_13 rfl ?_
      refine pw_iload_n dX6_met_14 rfl ?_
      refine pn_eq (tgt := 33) dX6_met_15 (by decide) (by omega) (by omega) (fun he => ?_) (fun he => ?_)
      · refine pw_iconst_ (v := nI 0) dX6_met_33 (by decide) ?_
        refine pw_ior dX6_met_34 ?_
        rw [or_0]
        refine px_istore_n (ls' := [some (.ref 227), some (.int (nI t)), some (.int (nI (msk (metp a n t) i))), some (.int (nI i))]) dX6_met_35 rfl rfl (by decide) ?_
        refine px_iincn (n := 1) (a := i) (b := i + 1) (ls' := [some (.ref 227), some (.int (nI t)), some (.int (nI (msk (metp a n t) i))), some (.int (nI (i + 1)))]) dX6_met_36 rfl rfl rfl (by omega) ?_
        refine pw_goto (tgt := 4) dX6_met_39 (by decide) ?_
        rw [show msk (metp a n t) (i + 1) = msk (metp a n t) i from msk_f (by simp [metp, he])] at ih
        exact ih
      · refine pw_aload_n dX6_met_18 rfl ?_
        refine pw_iload_n dX6_met_19 rfl ?_
        refine pw_iload_n dX6_met_20 rfl ?_
        refine ps_callV (b := 227) (As := [.int (nI t), .int (nI i)]) (st := [.int (nI (msk (metp a n t) i))]) dX6_met_21 cv_X6_122 rfl ⟨by decide, by decide +kernel⟩ (Nat.le_of_ble_eq_true rfl) (Nat.le_of_ble_eq_true rfl) ?_
        refine m_meet hw hna hP ht hi ?_
        show PS l E D cA mX6_met (d + 3) fin 24 [some (.ref 227), some (.int (nI t)), some (.int (nI (msk (metp a n t) i))), some (.int (nI i))] [.int (kb (mt a n t i = true)), .int (nI (msk (metp a n t) i))] μ
        by_cases hc : mt a n t i = true
        · rw [kb_t hc]
          refine pw_if_eq (tgt := 33) dX6_met_24 (by decide) (fun h9 => absurd h9 nI1_ne) (fun _ => ?_)
          refine pw_iconst_ (v := nI 1) dX6_met_27 (by decide) ?_
          refine pw_iload_n dX6_met_28 rfl ?_
          refine pw_ishl dX6_met_29 ?_
          refine pw_goto (tgt := 34) dX6_met_30 (by decide) ?_
          refine pw_ior dX6_met_34 ?_
          rw [or_msk (p := metp a n t) (by omega) (by simp [metp, he, hc])]
          refine px_istore_n (ls' := [some (.ref 227), some (.int (nI t)), some (.int (nI (msk (metp a n t) (i + 1)))), some (.int (nI i))]) dX6_met_35 rfl rfl (by decide) ?_
          refine px_iincn (n := 1) (a := i) (b := i + 1) (ls' := [some (.ref 227), some (.int (nI t)), some (.int (nI (msk (metp a n t) (i + 1)))), some (.int (nI (i + 1)))]) dX6_met_36 rfl rfl rfl (by omega) ?_
          refine pw_goto (tgt := 4) dX6_met_39 (by decide) ?_
          exact ih
        · rw [kb_f hc]
          refine pw_if_eq (tgt := 33) dX6_met_24 (by decide) (fun _ => ?_) (fun h9 => absurd nI_0 h9)
          refine pw_iconst_ (v := nI 0) dX6_met_33 (by decide) ?_
          refine pw_ior dX6_met_34 ?_
          rw [or_0]
          refine px_istore_n (ls' := [some (.ref 227), some (.int (nI t)), some (.int (nI (msk (metp a n t) i))), some (.int (nI i))]) dX6_met_35 rfl rfl (by decide) ?_
          refine px_iincn (n := 1) (a := i) (b := i + 1) (ls' := [some (.ref 227), some (.int (nI t)), some (.int (nI (msk (metp a n t) i))), some (.int (nI (i + 1)))]) dX6_met_36 rfl rfl rfl (by omega) ?_
          refine pw_goto (tgt := 4) dX6_met_39 (by decide) ?_
          rw [show msk (metp a n t) (i + 1) = msk (metp a n t) i from msk_f (by simp [metp, hc])] at ih
          exact ih
  exact lp 0 (Nat.zero_le _)
set_option maxRecDepth 100000 in
set_option maxHeartbeats 4000000 in
theorem m_allQueued {n : Nat} {a : AS} (hw : Wf a) (hna : n ≤ a 3) (hP : PM μ a n) (hf : fin (some (.int (nI (qal a n)))) μ) : PS l E D cA mX6_allQueued (d + 1) fin 0 [some (.ref 227), none, none] [] μ := by
  have hn6 : n ≤ 6 := Nat.le_trans hna hw.2.2.2.1
  refine pw_iconst_ (v := nI 0) dX6_allQueued_0 (by decide) ?_
  refine px_istore_n (ls' := [some (.ref 227), some (.int (nI 0)), none]) dX6_allQueued_1 rfl rfl (by decide) ?_
  refine pw_iconst_ (v := nI 0) dX6_allQueued_2 (by decide) ?_
  refine px_istore_n (ls' := [some (.ref 227), some (.int (nI 0)), some (.int (nI 0))]) dX6_allQueued_3 rfl rfl (by decide) ?_
  have lp : ∀ i : Nat, i ≤ n → PS l E D cA mX6_allQueued (d + 1) fin 4 [some (.ref 227), some (.int (nI (smN (fun t => qd a n t (tl a t)) i))), some (.int (nI i))] [] μ := by
    refine ps_for _ ?_ ?_
    · skip
      refine pw_iload_n dX6_allQueued_4 rfl ?_
      refine pw_aload_n dX6_allQueued_5 rfl ?_
      refine ps_geti (x := nI n) dX6_allQueued_6 kf_X6_82 (by decide) (by decide +kernel) (hP.1) ?_
      refine pn_ge (tgt := 26) dX6_allQueued_9 (by decide) (by omega) (by omega) (fun _ => ?_) (fun h9 => absurd h9 (by omega))
      refine pw_iload_n dX6_allQueued_26 rfl ?_
      exact ps_iret dX6_allQueued_27 rfl (rfl) hf
    · intro i hi ih
      have hPi := hP.t hw hna hi
      refine pw_iload_n dX6_allQueued_4 rfl ?_
      refine pw_aload_n dX6_allQueued_5 rfl ?_
      refine ps_geti (x := nI n) dX6_allQueued_6 kf_X6_82 (by decide) (by decide +kernel) (hP.1) ?_
      refine pn_ge (tgt := 26) dX6_allQueued_9 (by decide) (by omega) (by omega) (fun h9 => absurd h9 (by omega)) (fun _ => ?_)
      refine pw_iload_n dX6_allQueued_12 rfl ?_
      refine pw_aload_n dX6_allQueued_13 rfl ?_
      refine pw_iload_n dX6_allQueued_14 rfl ?_
      refine ps_callV (b := 227) (As := [.int (nI i)]) (st := [.int (nI (smN (fun t => qd a n t (tl a t)) i))]) dX6_allQueued_15 cv_X6_126 rfl ⟨by decide, by decide +kernel⟩ (Nat.le_of_ble_eq_true rfl) (Nat.le_of_ble_eq_true rfl) ?_
      refine m_queued hw hna hP hi ?_
      show PS l E D cA mX6_allQueued (d + 1) fin 18 [some (.ref 227), some (.int (nI (smN (fun t => qd a n t (tl a t)) i))), some (.int (nI i))] [.int (nI (qd a n i (tl a i))), .int (nI (smN (fun t => qd a n t (tl a t)) i))] μ
      refine px_iaddn (c := smN (fun t => qd a n t (tl a t)) (i + 1)) dX6_allQueued_18 rfl ?_
      refine px_istore_n (ls' := [some (.ref 227), some (.int (nI (smN (fun t => qd a n t (tl a t)) (i + 1)))), some (.int (nI i))]) dX6_allQueued_19 rfl rfl (by decide) ?_
      refine px_iincn (n := 1) (a := i) (b := i + 1) (ls' := [some (.ref 227), some (.int (nI (smN (fun t => qd a n t (tl a t)) (i + 1)))), some (.int (nI (i + 1)))]) dX6_allQueued_20 rfl rfl rfl (by omega) ?_
      refine pw_goto (tgt := 4) dX6_allQueued_23 (by decide) ?_
      exact ih
  exact lp 0 (Nat.zero_le _)
set_option maxRecDepth 100000 in
set_option maxHeartbeats 4000000 in
theorem m_pairs {n : Nat} {a : AS} (hw : Wf a) (hna : n ≤ a 3) (hP : PM μ a n) (hf : fin (some (.int (nI (prs (mt a n) n n)))) μ) : PS l E D cA mX6_pairs (d + 3) fin 0 [some (.ref 227), none, none, none] [] μ := by
  have hn6 : n ≤ 6 := Nat.le_trans hna hw.2.2.2.1
  refine pw_iconst_ (v := nI 0) dX6_pairs_0 (by decide) ?_
  refine px_istore_n (ls' := [some (.ref 227), some (.int (nI 0)), none, none]) dX6_pairs_1 rfl rfl (by decide) ?_
  refine pw_iconst_ (v := nI 0) dX6_pairs_2 (by decide) ?_
  refine px_istore_n (ls' := [some (.ref 227), some (.int (nI 0)), some (.int (nI 0)), none]) dX6_pairs_3 rfl rfl (by decide) ?_
  have lp : ∀ i : Nat, i ≤ n → ∀ (l3 : Option Value), PS l E D cA mX6_pairs (d + 3) fin 4 [some (.ref 227), some (.int (nI (smN (fun t => cntN (mt a n t) t) i))), some (.int (nI i)), l3] [] μ := by
    refine ps_for _ ?_ ?_
    · intro l3
      refine pw_iload_n dX6_pairs_4 rfl ?_
      refine pw_aload_n dX6_pairs_5 rfl ?_
      refine ps_geti (x := nI n) dX6_pairs_6 kf_X6_82 (by decide) (by decide +kernel) (hP.1) ?_
      refine pn_ge (tgt := 48) dX6_pairs_9 (by decide) (by omega) (by omega) (fun _ => ?_) (fun h9 => absurd h9 (by omega))
      refine pw_iload_n dX6_pairs_48 rfl ?_
      exact ps_iret dX6_pairs_49 rfl (rfl) (by rw [prs_sym (mt_sym a n)] at hf; exact hf)
    · intro i hi ih l3
      have hPi := hP.t hw hna hi
      refine pw_iload_n dX6_pairs_4 rfl ?_
      refine pw_aload_n dX6_pairs_5 rfl ?_
      refine ps_geti (x := nI n) dX6_pairs_6 kf_X6_82 (by decide) (by decide +kernel) (hP.1) ?_
      refine pn_ge (tgt := 48) dX6_pairs_9 (by decide) (by omega) (by omega) (fun h9 => absurd h9 (by omega)) (fun _ => ?_)
      refine pw_iconst_ (v := nI 0) dX6_pairs_12 (by decide) ?_
      refine px_istore_n (ls' := [some (.ref 227), some (.int (nI (smN (fun t => cntN (mt a n t) t) i))), some (.int (nI i)), some (.int (nI 0))]) dX6_pairs_13 rfl rfl (by decide) ?_
      have lq : ∀ j : Nat, j ≤ i → PS l E D cA mX6_pairs (d + 3) fin 14 [some (.ref 227), some (.int (nI ((smN (fun t => cntN (mt a n t) t) i) + cntN (mt a n i) j))), some (.int (nI i)), some (.int (nI j))] [] μ := by
        refine ps_for _ ?_ ?_
        · skip
          show PS l E D cA mX6_pairs (d + 3) fin 14 [some (.ref 227), some (.int (nI (smN (fun t => cntN (mt a n t) t) (i + 1)))), some (.int (nI i)), some (.int (nI i))] [] μ
          refine pw_iload_n dX6_pairs_14 rfl ?_
          refine pw_iload_n dX6_pairs_15 rfl ?_
          refine pn_ge (tgt := 42) dX6_pairs_16 (by decide) (by omega) (by omega) (fun _ => ?_) (fun h9 => absurd h9 (by omega))
          refine px_iincn (n := 1) (a := i) (b := i + 1) (ls' := [some (.ref 227), some (.int (nI (smN (fun t => cntN (mt a n t) t) (i + 1)))), some (.int (nI (i + 1))), some (.int (nI i))]) dX6_pairs_42 rfl rfl rfl (by omega) ?_
          refine pw_goto (tgt := 4) dX6_pairs_45 (by decide) ?_
          exact ih _
        · intro j hj ihj
          refine pw_iload_n dX6_pairs_14 rfl ?_
          refine pw_iload_n dX6_pairs_15 rfl ?_
          refine pn_ge (tgt := 42) dX6_pairs_16 (by decide) (by omega) (by omega) (fun h9 => absurd h9 (by omega)) (fun _ => ?_)
          refine pw_iload_n dX6_pairs_19 rfl ?_
          refine pw_aload_n dX6_pairs_20 rfl ?_
          refine pw_iload_n dX6_pairs_21 rfl ?_
          refine pw_iload_n dX6_pairs_22 rfl ?_
          refine ps_callV (b := 227) (As := [.int (nI i), .int (nI j)]) (st := [.int (nI ((smN (fun t => cntN (mt a n t) t) i) + cntN (mt a n i) j))]) dX6_pairs_23 cv_X6_122 rfl ⟨by decide, by decide +kernel⟩ (Nat.le_of_ble_eq_true rfl) (Nat.le_of_ble_eq_true rfl) ?_
          refine m_meet hw hna hP hi (show j < n by omega) ?_
          show PS l E D cA mX6_pairs (d + 3) fin 26 [some (.ref 227), some (.int (nI ((smN (fun t => cntN (mt a n t) t) i) + cntN (mt a n i) j))), some (.int (nI i)), some (.int (nI j))] [.int (kb (mt a n i j = true)), .int (nI ((smN (fun t => cntN (mt a n t) t) i) + cntN (mt a n i) j))] μ
          by_cases hc : mt a n i j = true
          · rw [kb_t hc]
            refine pw_if_eq (tgt := 33) dX6_pairs_26 (by decide) (fun h9 => absurd h9 nI1_ne) (fun _ => ?_)
            refine pw_iconst_ (v := nI 1) dX6_pairs_29 (by decide) ?_
            refine pw_goto (tgt := 34) dX6_pairs_30 (by decide) ?_
            refine px_iaddn (c := smN (fun t => cntN (mt a n t) t) i + cntN (mt a n i) (j + 1)) dX6_pairs_34 (by rw [show cntN (mt a n i) (j + 1) = cntN (mt a n i) j + (if mt a n i j = true then 1 else 0) from rfl, if_pos hc]; omega) ?_
            refine px_istore_n (ls' := [some (.ref 227), some (.int (nI (smN (fun t => cntN (mt a n t) t) i + cntN (mt a n i) (j + 1)))), some (.int (nI i)), some (.int (nI j))]) dX6_pairs_35 rfl rfl (by decide) ?_
            refine px_iincn (n := 1) (a := j) (b := j + 1) (ls' := [some (.ref 227), some (.int (nI (smN (fun t => cntN (mt a n t) t) i + cntN (mt a n i) (j + 1)))), some (.int (nI i)), some (.int (nI (j + 1)))]) dX6_pairs_36 rfl rfl rfl (by omega) ?_
            refine pw_goto (tgt := 14) dX6_pairs_39 (by decide) ?_
            exact ihj
          · rw [kb_f hc]
            refine pw_if_eq (tgt := 33) dX6_pairs_26 (by decide) (fun _ => ?_) (fun h9 => absurd nI_0 h9)
            refine pw_iconst_ (v := nI 0) dX6_pairs_33 (by decide) ?_
            refine px_iaddn (c := smN (fun t => cntN (mt a n t) t) i + cntN (mt a n i) (j + 1)) dX6_pairs_34 (by rw [show cntN (mt a n i) (j + 1) = cntN (mt a n i) j + (if mt a n i j = true then 1 else 0) from rfl, if_neg hc]; rfl) ?_
            refine px_istore_n (ls' := [some (.ref 227), some (.int (nI (smN (fun t => cntN (mt a n t) t) i + cntN (mt a n i) (j + 1)))), some (.int (nI i)), some (.int (nI j))]) dX6_pairs_35 rfl rfl (by decide) ?_
            refine px_iincn (n := 1) (a := j) (b := j + 1) (ls' := [some (.ref 227), some (.int (nI (smN (fun t => cntN (mt a n t) t) i + cntN (mt a n i) (j + 1)))), some (.int (nI i)), some (.int (nI (j + 1)))]) dX6_pairs_36 rfl rfl rfl (by omega) ?_
            refine pw_goto (tgt := 14) dX6_pairs_39 (by decide) ?_
            exact ihj
      exact lq 0 (Nat.zero_le _)
  exact lp 0 (Nat.zero_le _) _
end MODP
