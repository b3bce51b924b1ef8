/-! changes: undo, save, restore, team, route -/
def upS (f : Nat → AS) (k : Nat) (b : AS) : Nat → AS := fun j => if j = k then b else f j
def o_undo (c : CS) : Int32 × CS := if hN c = 0 then (-100005, c) else (nI (hN c - 1), (hH c (hN c - 1), hH c, hN c - 1, c.2.2.2))
def o_save (c : CS) (v : Int32) : Int32 × CS := if inR v 1 then (nI (na c 3), (na c, hH c, hN c, upS (sS c) (iN v) (na c), up1 (sV c) (iN v) 1, pD c, pL c)) else (-100002, c)
def o_restore (c : CS) (v : Int32) : Int32 × CS := if inR v 1 then (if sV c (iN v) = 0 then (-100005, c) else (nI (sS c (iN v) 3), cnow (crec c) (sS c (iN v)))) else (-100002, c)
/-- the pad's route goes to team t -/
def tk (a : AS) (t : Nat) (pd : Nat → Nat) (ln : Nat) : AS := fun j => if j = 39 + 12 * t then (ln + 1) / 2 else if 40 + 12 * t ≤ j ∧ j < 48 + 12 * t then (if j - (40 + 12 * t) < (ln + 1) / 2 then pd (2 * (j - (40 + 12 * t))) - 97 else 0) else a j
def newt (a : AS) (v : Nat) (pd : Nat → Nat) (ln : Nat) : AS := up1 (up1 (up1 (up1 (tk a (a 3) pd ln) (36 + 12 * a 3) v) (37 + 12 * a 3) 0) (38 + 12 * a 3) 0) 3 (a 3 + 1)
def pad0 (c : CS) : CS := (na c, hH c, hN c, sS c, sV c, pD c, 0)
def o_team (c : CS) (v : Int32) : Int32 × CS := if inR v 200 then (if ffp (pD c) (pL c) = none then (if 6 ≤ na c 3 then (-100004, c) else (nI (na c 3), pad0 (cnow (crec c) (newt (na c) (iN v) (pD c) (pL c))))) else (-100003, c)) else (-100002, c)
def o_route (c : CS) (v : Int32) : Int32 × CS := if inT v (na c 3) then (if ffp (pD c) (pL c) = none then (nI (tl (tk (na c) (iN v) (pD c) (pL c)) (iN v)), pad0 (cnow (crec c) (tk (na c) (iN v) (pD c) (pL c)))) else (-100003, c)) else (-100001, c)
theorem ffp_le {pd : Nat → Nat} {ln i : Nat} (h : ffp pd ln = some i) : i ≤ ln := by
  unfold ffp at h
  split at h
  · next j hj =>
    cases h
    exact Nat.le_of_lt (fstN_some.mp hj).1
  · split at h
    · cases h
      exact Nat.le_refl _
    · cases h
theorem eF_none {o : Option Nat} (h : ∀ i, o = some i → i ≤ 20) : eF o = -100006 ↔ o = none := by
  cases o with
  | none => exact ⟨fun _ => rfl, fun _ => rfl⟩
  | some i =>
    have hi := h i rfl
    have : ∀ i, i < 21 → nI i ≠ -100006 := by decide
    exact ⟨fun q => absurd q (this i (by omega)), fun q => by cases q⟩
theorem tk_n {a : AS} {t ln j : Nat} {pd : Nat → Nat} (h : ¬ (39 + 12 * t ≤ j ∧ j < 48 + 12 * t)) : tk a t pd ln j = a j := by
  unfold tk
  rw [if_neg (by omega), if_neg (by omega)]
theorem tk_m {a : AS} {t ln : Nat} {pd : Nat → Nat} : tk a t pd ln (39 + 12 * t) = (ln + 1) / 2 := if_pos rfl
theorem tk_s {a : AS} {t ln k : Nat} {pd : Nat → Nat} (h8 : k < 8) : tk a t pd ln (40 + 12 * t + k) = if k < (ln + 1) / 2 then pd (2 * k) - 97 else 0 := by
  unfold tk
  rw [if_neg (by omega), if_pos (by omega), show 40 + 12 * t + k - (40 + 12 * t) = k by omega]
section CHGD
variable {l : Launch} {E : EV} {D : va_G} {cA : Nat → ClassId} {fin : Option Value → Mu → Prop} {μ : Mu} {d : Nat}
set_option maxRecDepth 100000 in
set_option maxHeartbeats 4000000 in
theorem x_undo {c : CS} (hw : CW c) (hx : CX μ c) (hf : ∀ ν : Mu, CX ν (o_undo c).2 → SM ν μ → fin (some (.int (o_undo c).1)) ν) : PS l E D cA mX5_undo (d + 4) fin 0 [some (.ref 0)] [] μ := by
  have hq := hx
  have h6 := hw.2.2.2.1
  have hz : ∀ n, n ≤ 6 → (nI n = 0 ↔ n = 0) := by decide
  refine pw_aload_n dX5_undo_0 rfl ?_
  refine ps_getr (r := 79) dX5_undo_1 kf_X5_36 (by decide) (by decide +kernel) ?_
  refine ps_geti (x := nI (hN c)) dX5_undo_4 kf_X5_240 (by decide) (by decide +kernel) (hx.2.1.2.1) ?_
  refine pw_if_ne (tgt := 13) dX5_undo_7 (by decide) (fun h1 => ?_) (fun h1 => ?_)
  · obtain ⟨n, hn⟩ : ∃ n, hN c = n + 1 := ⟨hN c - 1, by have : hN c ≠ 0 := fun q => h1 ((hz _ h6).mpr q); omega⟩
    have hR2 : RH μ (hH c) (n + 1) := hn ▸ hx.2.1
    refine pw_aload_n dX5_undo_13 rfl ?_
    refine ps_getr (r := 79) dX5_undo_14 kf_X5_36 (by decide) (by decide +kernel) ?_
    refine pw_aload_n dX5_undo_17 rfl ?_
    refine ps_getr (r := 1) dX5_undo_18 kf_X5_10 (by decide) (by decide +kernel) ?_
    refine ps_callV (b := 79) (As := [.ref 1]) (st := []) dX5_undo_21 cv_X5_259 rfl ⟨by decide, by decide +kernel⟩ (Nat.le_of_ble_eq_true rfl) (Nat.le_of_ble_eq_true rfl) ?_
    refine c_takeBack (fun j hj => (hw.2.1 j (by omega)).t6) hR2 ?_
    intro ν k1 k2 k3
    show PS l E D cA mX5_undo (d + 4) fin 24 [some (.ref 0)] [] ν
    refine pw_aload_n dX5_undo_24 rfl ?_
    refine ps_getr (r := 79) dX5_undo_25 kf_X5_36 (by decide) (by decide +kernel) ?_
    refine ps_geti (x := nI n) dX5_undo_28 kf_X5_240 (by decide) (by decide +kernel) (k1.2.1) ?_
    have e9 : o_undo c = (nI n, (hH c n, hH c, n, c.2.2.2)) := by
      unfold o_undo
      rw [if_neg (by omega), hn, Nat.add_sub_cancel]
    rw [e9] at hf
    exact ps_iret dX5_undo_31 rfl (rfl) (hf ν ⟨k2, k1, fun j hj => (k3 _ _ (by decide) (by omega)).trans (hx.2.2.1 j hj), fun j hj e => RS.same ((hw.2.2.1 j hj).2 e).t6 (fun i k g1 g2 => k3 i k (by omega) (by omega)) (hx.2.2.2.1 j hj e), hx.2.2.2.2.off (fun q k g => k3 q k (by omega) (by omega))⟩ (fun q k g => k3 q k (by omega) (by omega)))
  · refine pw_ldc dX5_undo_10 kc_X5_84 ?_
    have e9 : o_undo c = ((-100005), c) := by
      unfold o_undo
      rw [if_pos ((hz _ h6).mp h1)]
    rw [e9] at hf
    exact ps_iret dX5_undo_12 rfl (rfl) (hf _ hx SM.rfl)
set_option maxRecDepth 100000 in
set_option maxHeartbeats 4000000 in
theorem x_save {c : CS} (hw : CW c) (hx : CX μ c) {v : Int32} (hf : ∀ ν : Mu, CX ν (o_save c v).2 → SM ν μ → fin (some (.int (o_save c v).1)) ν) : PS l E D cA mX5_save (d + 4) fin 0 [some (.ref 0), some (.int v)] [] μ := by
  have hq := hx
  refine pw_iload_n dX5_save_0 rfl ?_
  refine pw_iconst_ (v := nI 0) dX5_save_1 (by decide) ?_
  refine pw_iconst_ (v := nI 1) dX5_save_2 (by decide) ?_
  refine ps_callS (As := [.int v, .int (nI 0), .int (nI 1)]) (st := []) dX5_save_3 cs_X5_48 rfl (Nat.le_of_ble_eq_true rfl) (Nat.le_of_ble_eq_true rfl) ?_
  refine c_isFrom ?_
  refine pw_if_ne (tgt := 12) dX5_save_6 (by decide) (fun h9 => ?_) (fun h9 => ?_)
  · have h1 := kb_ne0.mp h9
    obtain ⟨j, hj, rfl⟩ := (rg_to (by decide)).mp h1
    have hj2 : j < 2 := by omega
    have hjn : iN (nI j) = j := iN_nI (by omega)
    refine pw_aload_n dX5_save_12 rfl ?_
    refine ps_getr (r := 189) dX5_save_13 kf_X5_40 (by decide) (by decide +kernel) ?_
    refine pw_iload_n dX5_save_16 rfl ?_
    refine ps_aald (t := 4) (j := j) (r := 191 + 18 * j) dX5_save_17 rfl (ok_L (by omega)).1 (by decide) ?_
    refine pw_aload_n dX5_save_18 rfl ?_
    refine ps_getr (r := 1) dX5_save_19 kf_X5_10 (by decide) (by decide +kernel) ?_
    refine ps_callV (b := 191 + 18 * j) (As := [.ref 1]) (st := []) dX5_save_22 cv_X5_241 rfl ⟨(okk_of (ok_S (ok_L (by omega)).2).1).1, (okk_of (ok_S (ok_L (by omega)).2).1).2.1⟩ (Nat.le_of_ble_eq_true rfl) (Nat.le_of_ble_eq_true rfl) ?_
    refine c_S_copyFrom (ok_L hj2).2 isS_1 (by omega) ?_
    intro ν hν
    show PS l E D cA mX5_save (d + 4) fin 25 [some (.ref 0), some (.int (nI j))] [] ν
    refine pw_aload_n dX5_save_25 rfl ?_
    refine ps_getr (r := 190) dX5_save_26 kf_X5_44 (by decide) (by decide +kernel) ?_
    refine pw_iload_n dX5_save_29 rfl ?_
    refine pw_iconst_ (v := nI 1) dX5_save_30 (by decide) ?_
    refine ps_bast (j := j) dX5_save_31 rfl (ok_ar (n := 2) (by decide +kernel) (by omega)) ?_
    refine pw_aload_n dX5_save_32 rfl ?_
    refine ps_getr (r := 1) dX5_save_33 kf_X5_10 (by decide) (by decide +kernel) ?_
    refine ps_geti (x := nI (na c 3)) dX5_save_36 kf_X5_98 (by decide) (by decide +kernel) ((u2_a (by omega)).trans ((hν.1 _ _ (by omega)).trans hx.1.2.1)) ?_
    have e9 : o_save c (nI j) = (nI (na c 3), (na c, hH c, hN c, upS (sS c) j (na c), up1 (sV c) j 1, pD c, pL c)) := by
      unfold o_save
      rw [if_pos h1, hjn]
    rw [e9] at hf
    have h1' := hν.1
    have cc : ∀ q k, (q < 190 ∨ 227 ≤ q) → u2 ν 190 j (vp_nar .boolean (nI 1)) q k = μ q k := fun q k g => by rw [u2_a (by omega), hν.1 _ _ (by omega)]
    refine ps_iret dX5_save_39 rfl rfl (hf _ ⟨?_, ?_, ?_, ?_, ?_⟩ (fun q k g => cc q k (Or.inr g)))
    · exact RS.same hw.1.t6 (fun i k g1 g2 => cc i k (by omega)) hx.1
    · exact hx.2.1.off (fun j hj => (hw.2.1 j hj).t6) (fun q k g => cc q k (by omega))
    · intro i hi
      show _ = nI (up1 (sV c) j 1 i)
      by_cases e : i = j
      · subst e
        rw [up1_s, u2_s]
        decide
      · rw [up1_n e, u2_b e, hν.1 _ _ (by omega)]
        exact hx.2.2.1 i hi
    · intro i hi e0
      show RS _ _ (upS (sS c) j (na c) i)
      unfold upS
      by_cases e : i = j
      · subst e
        rw [if_pos rfl]
        exact RS.same (μ := ν) hw.1.t6 (fun i k g1 g2 => u2_a (by omega)) (hν.RS hw.1.t6 hx.1)
      · rw [if_neg e]
        have e0 : up1 (sV c) j 1 i = 1 := e0
        rw [up1_n e] at e0
        exact RS.same (μ := μ) ((hw.2.2.1 i hi).2 e0).t6 (fun i k g1 g2 => by rw [u2_a (by omega), hν.1 _ _ (by omega)]) (hx.2.2.2.1 i hi e0)
    · exact hx.2.2.2.2.off (fun q k g => cc q k (by omega))
  · have h1 := kb_eq0.mp h9
    refine pw_ldc dX5_save_9 kc_X5_52 ?_
    have e9 : o_save c v = ((-100002), c) := by
      unfold o_save
      rw [if_neg h1]
    rw [e9] at hf
    exact ps_iret dX5_save_11 rfl (rfl) (hf _ hx SM.rfl)
set_option maxRecDepth 100000 in
set_option maxHeartbeats 4000000 in
theorem x_restore {c : CS} (hw : CW c) (hx : CX μ c) {v : Int32} (hf : ∀ ν : Mu, CX ν (o_restore c v).2 → SM ν μ → fin (some (.int (o_restore c v).1)) ν) : PS l E D cA mX5_restore (d + 4) fin 0 [some (.ref 0), some (.int v)] [] μ := by
  have hq := hx
  refine pw_iload_n dX5_restore_0 rfl ?_
  refine pw_iconst_ (v := nI 0) dX5_restore_1 (by decide) ?_
  refine pw_iconst_ (v := nI 1) dX5_restore_2 (by decide) ?_
  refine ps_callS (As := [.int v, .int (nI 0), .int (nI 1)]) (st := []) dX5_restore_3 cs_X5_48 rfl (Nat.le_of_ble_eq_true rfl) (Nat.le_of_ble_eq_true rfl) ?_
  refine c_isFrom ?_
  refine pw_if_ne (tgt := 12) dX5_restore_6 (by decide) (fun h9 => ?_) (fun h9 => ?_)
  · have h1 := kb_ne0.mp h9
    obtain ⟨j, hj, rfl⟩ := (rg_to (by decide)).mp h1
    have hj2 : j < 2 := by omega
    have hjn : iN (nI j) = j := iN_nI (by omega)
    have hv1 := (hw.2.2.1 j hj2).1
    have hz9 : ∀ n, n ≤ 1 → (nI n = 0 ↔ n = 0) := by decide
    refine pw_aload_n dX5_restore_12 rfl ?_
    refine ps_getr (r := 190) dX5_restore_13 kf_X5_44 (by decide) (by decide +kernel) ?_
    refine pw_iload_n dX5_restore_16 rfl ?_
    refine ps_bald (j := j) (x := nI (sV c j)) dX5_restore_17 rfl (ok_ar (n := 2) (by decide +kernel) (by omega)) (hx.2.2.1 j hj2) ?_
    refine pw_if_ne (tgt := 24) dX5_restore_18 (by decide) (fun h2 => ?_) (fun h2 => ?_)
    · have hv : sV c j = 1 := by
        have : sV c j ≠ 0 := fun q => h2 ((hz9 _ hv1).mpr q)
        omega
      refine pw_aload_n dX5_restore_24 rfl ?_
      refine ps_getr (r := 79) dX5_restore_25 kf_X5_36 (by decide) (by decide +kernel) ?_
      refine pw_aload_n dX5_restore_28 rfl ?_
      refine ps_getr (r := 1) dX5_restore_29 kf_X5_10 (by decide) (by decide +kernel) ?_
      refine ps_callV (b := 79) (As := [.ref 1]) (st := []) dX5_restore_32 cv_X5_60 rfl ⟨by decide, by decide +kernel⟩ (Nat.le_of_ble_eq_true rfl) (Nat.le_of_ble_eq_true rfl) ?_
      refine c_record hw.1.t6 (fun j hj => (hw.2.1 j hj).t6) hx.1 hx.2.1 ?_
      intro ν hR ν9
      have hz := hx.rec hw hR ν9
      have hwz := hw.rec
      have hS : SM ν μ := fun q k g => ν9 q k (by omega) (by omega)
      show PS l E D cA mX5_restore (d + 4) fin 35 [some (.ref 0), some (.int (nI j))] [] ν
      refine pw_aload_n dX5_restore_35 rfl ?_
      refine ps_getr (r := 1) dX5_restore_36 kf_X5_10 (by decide) (by decide +kernel) ?_
      refine pw_aload_n dX5_restore_39 rfl ?_
      refine ps_getr (r := 189) dX5_restore_40 kf_X5_40 (by decide) (by decide +kernel) ?_
      refine pw_iload_n dX5_restore_43 rfl ?_
      refine ps_aald (t := 4) (j := j) (r := 191 + 18 * j) dX5_restore_44 rfl (ok_L (by omega)).1 (by decide) ?_
      refine ps_callV (b := 1) (As := [.ref (191 + 18 * j)]) (st := []) dX5_restore_45 cv_X5_241 rfl ⟨by decide, by decide +kernel⟩ (Nat.le_of_ble_eq_true rfl) (Nat.le_of_ble_eq_true rfl) ?_
      refine c_S_copyFrom isS_1 (ok_L hj2).2 (by omega) ?_
      intro κ hκ
      have ws := (hw.2.2.1 j hj2).2 hv
      have hrs : RS κ 1 (sS c j) := hκ.RS ws.t6 (hz.2.2.2.1 j hj2 hv)
      show PS l E D cA mX5_restore (d + 4) fin 48 [some (.ref 0), some (.int (nI j))] [] κ
      refine pw_aload_n dX5_restore_48 rfl ?_
      refine ps_getr (r := 1) dX5_restore_49 kf_X5_10 (by decide) (by decide +kernel) ?_
      refine ps_geti (x := nI (sS c j 3)) dX5_restore_52 kf_X5_98 (by decide) (by decide +kernel) (hrs.2.1) ?_
      have e9 : o_restore c (nI j) = (nI (sS c j 3), cnow (crec c) (sS c j)) := by
        unfold o_restore
        rw [if_pos h1, hjn, if_neg (fun q => h2 ((hz9 _ hv1).mpr q))]
      rw [e9] at hf
      exact ps_iret dX5_restore_55 rfl (rfl) (hf κ (hz.put hwz hrs (fun q k g => hκ.1 q k (by omega))) (SM.tr (fun q k g => hκ.1 q k (by omega)) hS))
    · refine pw_ldc dX5_restore_21 kc_X5_84 ?_
      have e9 : o_restore c (nI j) = ((-100005), c) := by
        unfold o_restore
        rw [if_pos h1, hjn, if_pos ((hz9 _ hv1).mp h2)]
      rw [e9] at hf
      exact ps_iret dX5_restore_23 rfl (rfl) (hf _ hx SM.rfl)
  · have h1 := kb_eq0.mp h9
    refine pw_ldc dX5_restore_9 kc_X5_52 ?_
    have e9 : o_restore c v = ((-100002), c) := by
      unfold o_restore
      rw [if_neg h1]
    rw [e9] at hf
    exact ps_iret dX5_restore_11 rfl (rfl) (hf _ hx SM.rfl)
end CHGD
