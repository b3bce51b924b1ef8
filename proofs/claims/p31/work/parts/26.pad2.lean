/-! the pad and the history -/
def dl : Nat → Int32
  | 0 => -1
  | k + 1 => nI k
theorem dl_m1 (k : Nat) : nI k + Int32.ofInt (-1) = dl k := by
  cases k with
  | zero => decide
  | succ k => exact pk_m1 k
theorem nar_c {b : Nat} (h : b < 256) : vp_nar .char (nI b) = nI b := by
  unfold vp_nar
  rw [(pk_charN (q := b) (by omega)).1]
theorem i2c_n {b : Nat} (h : b < 256) : ((nI b).toUInt32 % 65536).toInt32 = nI b := by
  rw [pk_char, pk_tn (by omega), Nat.mod_eq_of_lt (by omega)]
theorem byt_shr (U k : Nat) : U / 2 ^ (8 * k) % 256 = byt U k := by
  unfold byt
  rw [Nat.pow_mul]
def app (pd : Nat → Nat) (ln U c : Nat) : Nat → Nat := fun k => if k < ln then pd k else byt U (c - 1 - (k - ln))
/-! reading the pad from left to right -/
theorem or_m8 : ∀ m, m < 256 → ∀ p, p < 8 → m / 2 ^ p % 2 ≠ 1 → nI m ||| (nI 1 <<< (nI p &&& 31)) = nI (m + 2 ^ p) ∧ m + 2 ^ p < 256 ∧ pop8 (m + 2 ^ p) = pop8 m + 1 ∧ ∀ q, q < 8 → (m + 2 ^ p) / 2 ^ q % 2 = if q = p then 1 else m / 2 ^ q % 2 := by decide +kernel
theorem plc : ∀ c, c < 127 → 33 ≤ c → ((¬ (nI c - nI 97) < nI 0 ∧ ¬ nI 7 < nI c - nI 97) ↔ 97 ≤ c ∧ c ≤ 104) := by decide +kernel
theorem fmk_ok {pd : Nat → Nat} : ∀ {i : Nat}, (∀ j, j < i → okc pd j = true) → fmk pd i < 256 ∧ pop8 (fmk pd i) = (i + 1) / 2
  | 0, _ => ⟨show (0 : Nat) < 256 by decide, show pop8 0 = (0 + 1) / 2 by decide⟩
  | i + 1, h => by
    have ih := fmk_ok (pd := pd) (i := i) (fun j hj => h j (by omega))
    have h1 := h i (Nat.lt_succ_self _)
    unfold okc at h1
    unfold fmk
    by_cases e : i % 2 = 0
    · rw [if_pos e] at h1 ⊢
      simp only [decide_eq_true_eq] at h1
      have h2 := or_m8 _ ih.1 (pd i - 97) (by omega) h1.2.2
      exact ⟨h2.2.1, by rw [h2.2.2.1, ih.2]; omega⟩
    · rw [if_neg e]
      exact ⟨ih.1, by rw [ih.2]; omega⟩
theorem ffp_some {pd : Nat → Nat} {ln i : Nat} (hi : i < ln) (h1 : ∀ j, j < i → okc pd j = true) (h2 : okc pd i = false) : ffp pd ln = some i := by
  unfold ffp
  rw [show fstN (fun i => !okc pd i) ln = some i from fstN_some.mpr ⟨hi, by simp [h2], fun j hj => by simp [h1 j hj]⟩]
theorem ffp_end {pd : Nat → Nat} {ln : Nat} (h1 : ∀ j, j < ln → okc pd j = true) : ffp pd ln = if ln % 2 = 0 then some ln else none := by
  unfold ffp
  rw [show fstN (fun i => !okc pd i) ln = none from fstN_none.mpr (fun j hj => by simp [h1 j hj])]
theorem ffp_none {pd : Nat → Nat} {ln : Nat} (h : ffp pd ln = none) : (∀ j, j < ln → okc pd j = true) ∧ ln % 2 = 1 ∧ (ln + 1) / 2 ≤ 8 ∧ ∀ k, k < (ln + 1) / 2 → 97 ≤ pd (2 * k) ∧ pd (2 * k) ≤ 104 := by
  unfold ffp at h
  cases hf : fstN (fun i => !okc pd i) ln with
  | some i => rw [hf] at h; cases h
  | none =>
    rw [hf] at h
    have h1 : ∀ j, j < ln → okc pd j = true := fun j hj => by
      have := fstN_none.mp hf j hj
      simpa using this
    have h2 : ln % 2 = 1 := by
      by_cases e : ln % 2 = 0
      · rw [show (if ln % 2 = 0 then some ln else none) = some ln from if_pos e] at h
        cases h
      · omega
    have h3 := fmk_ok h1
    have h4 := pop8_le (fmk pd ln)
    refine ⟨h1, h2, by omega, fun k hk => ?_⟩
    have h5 := h1 (2 * k) (by omega)
    unfold okc at h5
    rw [if_pos (by omega)] at h5
    simp only [decide_eq_true_eq] at h5
    exact ⟨h5.1, h5.2.1⟩
/-! the history: h states, the oldest first -/
def RH (μ : Mu) (H : Nat → AS) (h : Nat) : Prop := h ≤ 6 ∧ μ 79 2 = nI h ∧ ∃ o, o < 6 ∧ μ 79 1 = nI o ∧ ∀ j, j < h → RS μ (81 + 18 * ((o + j) % 6)) (H j)
def rcH (H : Nat → AS) (h : Nat) (a : AS) : Nat → AS := if h = 6 then (fun j => if j = 5 then a else H (j + 1)) else (fun j => if j = h then a else H j)
def rcN (h : Nat) : Nat := if h = 6 then 6 else h + 1
theorem isH {q : Nat} (h : q < 6) : isS (81 + 18 * q) := (ok_H h).2
theorem isS_1 : isS 1 := by unfold isS; decide
theorem isS_19 : isS 19 := by unfold isS; decide
section PAD2
variable {l : Launch} {E : EY} {D : va_G} {cA : Nat → ClassId} {fin : Option Value → Mu → Prop} {μ : Mu} {d : Nat}
set_option maxRecDepth 100000 in
set_option maxHeartbeats 4000000 in
theorem c_append {U c ln : Nat} {pd : Nat → Nat} (hU : U < 2 ^ 64) (hR : RP μ pd ln) (hc1 : 1 ≤ c) (hc8 : c ≤ 8) (hlc : ln + c ≤ 20) (hby : ∀ i, i < c → okb (byt U i) = true) (hf : ∀ ν : Mu, RP ν (app pd ln U c) (ln + c) → (∀ q k, q ≠ 77 → q ≠ 78 → ν q k = μ q k) → fin none ν) : PS l E D cA mX2_append d fin 0 [some (.ref 77), some (.long (lN U)), none, some (.int (nI c)), none] [] μ := by
  refine pw_iload_n dX2_append_0 rfl ?_
  refine pw_iconst_ (v := nI 1) dX2_append_1 (by decide) ?_
  refine pn_isub (by omega) dX2_append_2 ?_
  rw [show nI (c - 1) = dl c by cases c with | zero => omega | succ k => rfl]
  refine px_istore (ls' := [some (.ref 77), some (.long (lN U)), none, some (.int (nI c)), some (.int (dl c))]) dX2_append_3 rfl rfl (by decide) ?_
  have lp : ∀ j : Nat, j ≤ c → ∀ ν : Mu, (ν 77 1 = nI (ln + j) ∧ (∀ k, k < ln → ν 78 k = μ 78 k) ∧ (∀ i, i < j → ν 78 (ln + i) = nI (byt U (c - 1 - i))) ∧ ∀ q k, q ≠ 77 → q ≠ 78 → ν q k = μ q k) → PS l E D cA mX2_append d fin 5 [some (.ref 77), some (.long (lN U)), none, some (.int (nI c)), some (.int (dl (c - j)))] [] ν := by
    refine ps_for _ ?_ ?_
    · rintro ν ⟨h1, h2, h3, h4⟩
      rw [Nat.sub_self]
      show PS l E D cA mX2_append d fin 5 [some (.ref 77), some (.long (lN U)), none, some (.int (nI c)), some (.int (-1))] [] ν
      refine pw_iload dX2_append_5 rfl ?_
      refine pw_if_lt (tgt := 48) dX2_append_7 (by decide) (fun _ => ?_) (fun h9 => absurd (by decide) h9)
      refine ps_ret dX2_append_48 rfl (hf ν ⟨h1, hlc, ?_⟩ h4)
      intro k hk
      unfold app
      by_cases hk2 : k < ln
      · rw [if_pos hk2, h2 k hk2]
        exact hR.2.2 k hk2
      · rw [if_neg hk2]
        have h9 := h3 (k - ln) (by omega)
        rw [show ln + (k - ln) = k by omega] at h9
        have h8 := hby (c - 1 - (k - ln)) (by omega)
        simp only [okb, decide_eq_true_eq] at h8
        exact ⟨h9, h8⟩
    · rintro j hj ih ν ⟨h1, h2, h3, h4⟩
      obtain ⟨i, hi⟩ : ∃ i, c - j = i + 1 := ⟨c - j - 1, by omega⟩
      have hi2 : i = c - 1 - j := by omega
      rw [hi]
      show PS l E D cA mX2_append d fin 5 [some (.ref 77), some (.long (lN U)), none, some (.int (nI c)), some (.int (nI i))] [] ν
      refine pw_iload dX2_append_5 rfl ?_
      refine pw_if_lt (tgt := 48) dX2_append_7 (by decide) (fun h9 => absurd h9 (nI_pos (by omega))) (fun _ => ?_)
      refine pw_aload_n dX2_append_10 rfl ?_
      refine ps_getr (r := 78) dX2_append_11 kf_X2_9 (by decide) (by decide +kernel) ?_
      refine pw_aload_n dX2_append_14 rfl ?_
      refine ps_geti (x := nI (ln + j)) dX2_append_15 kf_X2_21 (by decide) (by decide +kernel) h1 ?_
      refine pw_lload_n dX2_append_18 rfl ?_
      refine pw_bipush (v := nI 8) dX2_append_19 (by decide) ?_
      refine pw_iload dX2_append_21 rfl ?_
      refine px_imuln (c := 8 * i) dX2_append_23 (by omega) ?_
      refine pw_lushr dX2_append_24 rfl ?_
      rw [wb_shr hU (by omega : 8 * i < 64)]
      refine pw_ldc2_w dX2_append_25 kl_X2_15 ?_
      refine pw_land dX2_append_28 ?_
      rw [l255 (Nat.lt_of_le_of_lt (Nat.div_le_self _ _) hU), byt_shr]
      have hb8 : byt U i < 256 := Nat.mod_lt _ (by decide)
      refine pw_l2i (v := nI (byt U i)) dX2_append_29 (lN_i _) ?_
      refine pw_i2c (v := nI (byt U i)) dX2_append_30 (i2c_n hb8) ?_
      refine ps_cast (j := ln + j) dX2_append_31 rfl (ok_ar (n := 20) (by decide +kernel) (by omega)) ?_
      rw [nar_c hb8]
      refine pw_aload_n dX2_append_32 rfl ?_
      refine pw_dup dX2_append_33 rfl ?_
      refine ps_geti (x := nI (ln + j)) dX2_append_34 kf_X2_21 (by decide) (by decide +kernel) ((u2_a (by omega)).trans h1) ?_
      refine pw_iconst_ (v := nI 1) dX2_append_37 (by decide) ?_
      refine px_iaddn (c := ln + j + 1) dX2_append_38 (by omega) ?_
      refine ps_puti dX2_append_39 kf_X2_21 (by decide) rfl (by decide +kernel) ?_
      refine px_iinc (v := dl i) (ls' := [some (.ref 77), some (.long (lN U)), none, some (.int (nI c)), some (.int (dl i))]) dX2_append_42 rfl (dl_m1 i) rfl rfl ?_
      refine pw_goto (tgt := 5) dX2_append_45 (by decide) ?_
      have h9 := ih (u2 (u2 ν 78 (ln + j) (nI (byt U i))) 77 1 (nI (ln + j + 1))) ⟨u2_s, fun k hk => ?_, fun m hm => ?_, fun q k g1 g2 => ?_⟩
      · rw [show c - (j + 1) = i by omega] at h9
        exact h9
      · rw [u2_a (by decide), u2_b (by omega)]
        exact h2 k hk
      · rw [u2_a (by decide)]
        by_cases e : m = j
        · subst e
          rw [u2_s, hi2]
        · rw [u2_b (by omega)]
          exact h3 m (by omega)
      · rw [u2_a g1, u2_a g2]
        exact h4 q k g1 g2
  have h9 := lp 0 (Nat.zero_le _) μ ⟨hR.1, fun _ _ => rfl, fun _ h => absurd h (Nat.not_lt_zero _), fun _ _ _ _ => rfl⟩
  rw [Nat.sub_zero] at h9
  exact h9
set_option maxRecDepth 100000 in
set_option maxHeartbeats 4000000 in
theorem c_firstFault {ln : Nat} {pd : Nat → Nat} (hR : RP μ pd ln) (hf : fin (some (.int (eF (ffp pd ln)))) μ) : PS l E D cA mX2_firstFault (d + 2) fin 0 [some (.ref 77), none, none, none] [] μ := by
  have hl20 := hR.2.1
  refine pw_iconst_ (v := nI 0) dX2_firstFault_0 (by decide) ?_
  refine px_istore_n (ls' := [some (.ref 77), some (.int (nI 0)), none, none]) dX2_firstFault_1 rfl rfl (by decide) ?_
  refine pw_iconst_ (v := nI 0) dX2_firstFault_2 (by decide) ?_
  refine px_istore_n (ls' := [some (.ref 77), some (.int (nI 0)), some (.int (nI 0)), none]) dX2_firstFault_3 rfl rfl (by decide) ?_
  have lp : ∀ i : Nat, i ≤ ln → ∀ l3 : Option Value, ((∀ j, j < i → okc pd j = true) → PS l E D cA mX2_firstFault (d + 2) fin 4 [some (.ref 77), some (.int (nI (fmk pd i))), some (.int (nI i)), l3] [] μ) := by
    refine ps_for _ ?_ ?_
    · intro l3 hN
      refine pw_iload_n dX2_firstFault_4 rfl ?_
      refine pw_aload_n dX2_firstFault_5 rfl ?_
      refine ps_geti (x := nI ln) dX2_firstFault_6 kf_X2_21 (by decide) (by decide +kernel) (hR.1) ?_
      refine pn_ge (tgt := 79) dX2_firstFault_9 (by decide) (by omega) (by omega) (fun _ => ?_) (fun h9 => absurd h9 (by omega))
      refine pw_aload_n dX2_firstFault_79 rfl ?_
      refine ps_geti (x := nI ln) dX2_firstFault_80 kf_X2_21 (by decide) (by decide +kernel) (hR.1) ?_
      refine pw_iconst_ (v := nI 2) dX2_firstFault_83 (by decide) ?_
      refine px_iremn dX2_firstFault_84 (by omega) (by decide) (by decide) ?_
      refine pw_if_ne (tgt := 95) dX2_firstFault_85 (by decide) (fun h9 => ?_) (fun h9 => ?_)
      · have h8 : ln % 2 ≠ 0 := fun q => h9 (by rw [q]; rfl)
        refine pw_ldc dX2_firstFault_95 kc_X2_29 ?_
        exact ps_iret dX2_firstFault_97 rfl (rfl) (by rw [ffp_end hN, if_neg h8] at hf; exact hf)
      · have h8 : ln % 2 = 0 := by
          have := (nI_eq (a := ln % 2) (b := 0) (by omega) (by decide)).mp h9
          exact this
        refine pw_aload_n dX2_firstFault_88 rfl ?_
        refine ps_geti (x := nI ln) dX2_firstFault_89 kf_X2_21 (by decide) (by decide +kernel) (hR.1) ?_
        refine pw_goto (tgt := 97) dX2_firstFault_92 (by decide) ?_
        exact ps_iret dX2_firstFault_97 rfl (rfl) (by rw [ffp_end hN, if_pos h8] at hf; exact hf)
    · intro i hi ih l3 hN
      have hm := fmk_ok hN
      have hpd := (hR.2.2 i hi).2
      refine pw_iload_n dX2_firstFault_4 rfl ?_
      refine pw_aload_n dX2_firstFault_5 rfl ?_
      refine ps_geti (x := nI ln) dX2_firstFault_6 kf_X2_21 (by decide) (by decide +kernel) (hR.1) ?_
      refine pn_ge (tgt := 79) dX2_firstFault_9 (by decide) (by omega) (by omega) (fun h9 => absurd h9 (by omega)) (fun _ => ?_)
      refine pw_iload_n dX2_firstFault_12 rfl ?_
      refine pw_iconst_ (v := nI 2) dX2_firstFault_13 (by decide) ?_
      refine px_iremn dX2_firstFault_14 (by omega) (by decide) (by decide) ?_
      refine pw_iconst_ (v := nI 1) dX2_firstFault_15 (by decide) ?_
      refine pn_ne (tgt := 39) dX2_firstFault_16 (by decide) (by omega) (by omega) (fun hod => ?_) (fun hod => ?_)
      · refine pw_aload_n dX2_firstFault_39 rfl ?_
        refine ps_getr (r := 78) dX2_firstFault_40 kf_X2_9 (by decide) (by decide +kernel) ?_
        refine pw_iload_n dX2_firstFault_43 rfl ?_
        refine ps_cald (j := i) (x := nI (pd i)) dX2_firstFault_44 rfl (ok_ar (n := 20) (by decide +kernel) (by omega)) (hR.2.2 i hi).1 ?_
        refine pw_bipush (v := nI 97) dX2_firstFault_45 (by decide) ?_
        refine pw_isub dX2_firstFault_47 ?_
        refine px_istore_n (ls' := [some (.ref 77), some (.int (nI (fmk pd i))), some (.int (nI i)), some (.int ((nI (pd i)) - (nI 97)))]) dX2_firstFault_48 rfl rfl (by decide) ?_
        refine pw_iload_n dX2_firstFault_49 rfl ?_
        refine ps_callSN (As := [.int ((nI (pd i)) - (nI 97))]) (st := []) (host := RX5) dX2_firstFault_50 yy_X5_isPlace (by simp [kv_NW]) st_isPlace rfl (Nat.le_of_ble_eq_true rfl) (Nat.le_of_ble_eq_true rfl) ?_
        refine c_isPlace ?_
        show PS l E D cA mX2_firstFault (d + 2) fin 53 [some (.ref 77), some (.int (nI (fmk pd i))), some (.int (nI i)), some (.int ((nI (pd i)) - (nI 97)))] [.int (kb (¬ nI (pd i) - nI 97 < nI 0 ∧ ¬ nI 7 < nI (pd i) - nI 97))] μ
        by_cases hpl : 97 ≤ pd i ∧ pd i ≤ 104
        · rw [kb_t ((plc _ (by omega) (by omega)).mpr hpl), pk_sub hpl.1]
          show PS l E D cA mX2_firstFault (d + 2) fin 53 [some (.ref 77), some (.int (nI (fmk pd i))), some (.int (nI i)), some (.int (nI (pd i - 97)))] [.int (nI 1)] μ
          refine pw_if_eq (tgt := 65) dX2_firstFault_53 (by decide) (fun h9 => absurd h9 nI1_ne) (fun _ => ?_)
          refine pw_iload_n dX2_firstFault_56 rfl ?_
          refine pw_iload_n dX2_firstFault_57 rfl ?_
          refine pw_ishr dX2_firstFault_58 ?_
          refine pw_iconst_ (v := nI 1) dX2_firstFault_59 (by decide) ?_
          refine pw_iand dX2_firstFault_60 ?_
          refine pw_iconst_ (v := nI 1) dX2_firstFault_61 (by decide) ?_
          rw [bit_shr _ hm.1 _ (by omega)]
          have hbb := bit_01 (fmk pd i) (pd i - 97)
          refine pn_ne (tgt := 67) dX2_firstFault_62 (by decide) (by omega) (by omega) (fun hbt => ?_) (fun hbt => ?_)
          · have h8 := or_m8 _ hm.1 (pd i - 97) (by omega) hbt
            refine pw_iload_n dX2_firstFault_67 rfl ?_
            refine pw_iconst_ (v := nI 1) dX2_firstFault_68 (by decide) ?_
            refine pw_iload_n dX2_firstFault_69 rfl ?_
            refine pw_ishl dX2_firstFault_70 ?_
            refine pw_ior dX2_firstFault_71 ?_
            rw [h8.1]
            refine px_istore_n (ls' := [some (.ref 77), some (.int (nI (fmk pd i + 2 ^ (pd i - 97)))), some (.int (nI i)), some (.int (nI (pd i - 97)))]) dX2_firstFault_72 rfl rfl (by decide) ?_
            refine px_iincn (n := 1) (a := i) (b := i + 1) (ls' := [some (.ref 77), some (.int (nI (fmk pd i + 2 ^ (pd i - 97)))), some (.int (nI (i + 1))), some (.int (nI (pd i - 97)))]) dX2_firstFault_73 rfl rfl rfl (by omega) ?_
            refine pw_goto (tgt := 4) dX2_firstFault_76 (by decide) ?_
            rw [show fmk pd i + 2 ^ (pd i - 97) = fmk pd (i + 1) by rw [fmk, if_pos (by omega)]]
            exact ih _ (fun j h9 => by
              rcases Nat.lt_or_eq_of_le (Nat.le_of_lt_succ h9) with h | rfl
              · exact hN j h
              · unfold okc
                rw [if_pos (by omega)]
                simp only [decide_eq_true_eq]
                exact ⟨hpl.1, hpl.2, hbt⟩)
          · refine pw_iload_n dX2_firstFault_65 rfl ?_
            exact ps_iret dX2_firstFault_66 rfl (rfl) (by rw [ffp_some hi hN (by unfold okc; rw [if_pos (by omega)]; simp only [decide_eq_false_iff_not]; exact fun q => q.2.2 hbt)] at hf; exact hf)
        · rw [kb_f (fun q => hpl ((plc _ (by omega) (by omega)).mp q))]
          refine pw_if_eq (tgt := 65) dX2_firstFault_53 (by decide) (fun _ => ?_) (fun h9 => absurd h9 (fun q => q nI_0))
          refine pw_iload_n dX2_firstFault_65 rfl ?_
          exact ps_iret dX2_firstFault_66 rfl (rfl) (by rw [ffp_some hi hN (by unfold okc; rw [if_pos (by omega)]; simp only [decide_eq_false_iff_not]; exact fun q => hpl ⟨q.1, q.2.1⟩)] at hf; exact hf)
      · refine pw_aload_n dX2_firstFault_19 rfl ?_
        refine ps_getr (r := 78) dX2_firstFault_20 kf_X2_9 (by decide) (by decide +kernel) ?_
        refine pw_iload_n dX2_firstFault_23 rfl ?_
        refine ps_cald (j := i) (x := nI (pd i)) dX2_firstFault_24 rfl (ok_ar (n := 20) (by decide +kernel) (by omega)) (hR.2.2 i hi).1 ?_
        refine pw_bipush (v := nI 62) dX2_firstFault_25 (by decide) ?_
        refine pn_ne (tgt := 37) dX2_firstFault_27 (by decide) (by omega) (by omega) (fun h62 => ?_) (fun h62 => ?_)
        · refine pw_iload_n dX2_firstFault_37 rfl ?_
          exact ps_iret dX2_firstFault_38 rfl (rfl) (by rw [ffp_some hi hN (by unfold okc; rw [if_neg (by omega)]; simp; omega)] at hf; exact hf)
        · refine pw_iload_n dX2_firstFault_30 rfl ?_
          refine pw_sipush (v := nI 255) dX2_firstFault_31 (by decide) ?_
          refine pn_ne (tgt := 73) dX2_firstFault_34 (by decide) (by omega) (by omega) (fun h255 => ?_) (fun h255 => ?_)
          · refine px_iincn (n := 1) (a := i) (b := i + 1) (ls' := [some (.ref 77), some (.int (nI (fmk pd i))), some (.int (nI (i + 1))), l3]) dX2_firstFault_73 rfl rfl rfl (by omega) ?_
            refine pw_goto (tgt := 4) dX2_firstFault_76 (by decide) ?_
            rw [show fmk pd i = fmk pd (i + 1) by rw [fmk, if_neg (by omega)]]
            exact ih _ (fun j h9 => by
              rcases Nat.lt_or_eq_of_le (Nat.le_of_lt_succ h9) with h | rfl
              · exact hN j h
              · unfold okc
                rw [if_neg (by omega)]
                simp
                omega)
          · refine pw_iload_n dX2_firstFault_37 rfl ?_
            exact ps_iret dX2_firstFault_38 rfl (rfl) (by rw [ffp_some hi hN (by unfold okc; rw [if_neg (by omega)]; simp; omega)] at hf; exact hf)
  exact lp 0 (Nat.zero_le _) _ (fun j hj => absurd hj (Nat.not_lt_zero _))
set_option maxRecDepth 100000 in
set_option maxHeartbeats 4000000 in
theorem c_moveTo {s t ln : Nat} {pd : Nat → Nat} (hs : isS s) (ht : t < 6) (hR : RP μ pd ln) (hff : ffp pd ln = none) (hf : ∀ ν : Mu, ν 77 1 = nI 0 → ν (s + 6 + 2 * t) 1 = nI ((ln + 1) / 2) → (∀ j, 2 ≤ j → ν (s + 6 + 2 * t) j = μ (s + 6 + 2 * t) j) → (∀ j, j < (ln + 1) / 2 → ν (s + 7 + 2 * t) j = nI (pd (2 * j) - 97)) → (∀ q j, q ≠ s + 6 + 2 * t → q ≠ s + 7 + 2 * t → (q = 77 → j ≠ 1) → ν q j = μ q j) → fin none ν) : PS l E D cA mX2_moveTo (d + 1) fin 0 [some (.ref 77), some (.ref (s + 6 + 2 * t)), none] [] μ := by
  have hs9 := isS_odd hs
  have hl20 := hR.2.1
  obtain ⟨hok, hodd, hn8, hpl⟩ := ffp_none hff
  have hsp : s + 18 ≤ 37 ∨ 81 ≤ s := isS_g hs
  obtain ⟨n, hn⟩ : ∃ n, n = (ln + 1) / 2 := ⟨_, rfl⟩
  refine pw_aload_n dX2_moveTo_0 rfl ?_
  refine pw_aload_n dX2_moveTo_1 rfl ?_
  refine ps_geti (x := nI ln) dX2_moveTo_2 kf_X2_21 (by decide) (by decide +kernel) (hR.1) ?_
  refine pw_iconst_ (v := nI 1) dX2_moveTo_5 (by decide) ?_
  refine px_iaddn (c := ln + 1) dX2_moveTo_6 (by omega) ?_
  refine pw_iconst_ (v := nI 2) dX2_moveTo_7 (by decide) ?_
  refine px_idivn dX2_moveTo_8 (by omega) (by omega) (by omega) ?_
  rw [← hn] at hn8 hpl ⊢
  refine pw_bipush (v := nI 8) dX2_moveTo_9 (by decide) ?_
  refine pw_mmin dX2_moveTo_11 cm_X2_30 (by rw [emy_len]; exact Nat.le_refl _) (by rw [emy_sum]; exact Nat.le_refl _) (Nat.le_of_ble_eq_true rfl) ?_
  rw [show (if nI 8 < nI n then nI 8 else nI n) = nI n from if_neg (nI_nlt hn8 (by omega))]
  refine ps_puti dX2_moveTo_14 kf_X2_36 (by decide) rfl ((ok_T hs ht).2.2.1) ?_
  refine pw_iconst_ (v := nI 0) dX2_moveTo_17 (by decide) ?_
  refine px_istore_n (ls' := [some (.ref 77), some (.ref (s + 6 + 2 * t)), some (.int (nI 0))]) dX2_moveTo_18 rfl rfl (by decide) ?_
  have lp : ∀ k : Nat, k ≤ n → ∀ ν : Mu, (ν (s + 6 + 2 * t) 1 = nI n ∧ (∀ j, 2 ≤ j → ν (s + 6 + 2 * t) j = μ (s + 6 + 2 * t) j) ∧ (∀ j, j < k → ν (s + 7 + 2 * t) j = nI (pd (2 * j) - 97)) ∧ ∀ q j, q ≠ s + 6 + 2 * t → q ≠ s + 7 + 2 * t → ν q j = μ q j) → PS l E D cA mX2_moveTo (d + 1) fin 19 [some (.ref 77), some (.ref (s + 6 + 2 * t)), some (.int (nI k))] [] ν := by
    refine ps_for _ ?_ ?_
    · rintro ν ⟨h1, h2, h3, h4⟩
      refine pw_iload_n dX2_moveTo_19 rfl ?_
      refine pw_aload_n dX2_moveTo_20 rfl ?_
      refine ps_geti (x := nI n) dX2_moveTo_21 kf_X2_36 (by decide) ((ok_T hs ht).2.2.1) h1 ?_
      refine pn_ge (tgt := 50) dX2_moveTo_24 (by decide) (by omega) (by omega) (fun _ => ?_) (fun h9 => absurd h9 (by omega))
      refine pw_aload_n dX2_moveTo_50 rfl ?_
      refine pw_iconst_ (v := nI 0) dX2_moveTo_51 (by decide) ?_
      refine ps_puti dX2_moveTo_52 kf_X2_21 (by decide) rfl (by decide +kernel) ?_
      refine ps_ret dX2_moveTo_55 rfl (hf _ ?_ ?_ ?_ ?_ ?_)
      · rw [u2_s]
      · rw [u2_a (by omega), h1, hn]
      · intro j g1
        rw [u2_a (by omega)]
        exact h2 j g1
      · intro j g1
        rw [u2_a (by omega)]
        exact h3 j (by omega)
      · intro q j g1 g2 g3
        by_cases e : q = 77
        · subst e
          rw [u2_b (fun h => g3 rfl h)]
          exact h4 _ _ g1 g2
        · rw [u2_a e]
          exact h4 _ _ g1 g2
    · rintro k hk ih ν ⟨h1, h2, h3, h4⟩
      have hpk := hpl k hk
      refine pw_iload_n dX2_moveTo_19 rfl ?_
      refine pw_aload_n dX2_moveTo_20 rfl ?_
      refine ps_geti (x := nI n) dX2_moveTo_21 kf_X2_36 (by decide) ((ok_T hs ht).2.2.1) h1 ?_
      refine pn_ge (tgt := 50) dX2_moveTo_24 (by decide) (by omega) (by omega) (fun h9 => absurd h9 (by omega)) (fun _ => ?_)
      refine pw_aload_n dX2_moveTo_27 rfl ?_
      refine ps_getr (r := s + 7 + 2 * t) dX2_moveTo_28 kf_X2_39 (by decide) ((ok_T hs ht).2.1) ?_
      refine pw_iload_n dX2_moveTo_31 rfl ?_
      refine pw_aload_n dX2_moveTo_32 rfl ?_
      refine ps_getr (r := 78) dX2_moveTo_33 kf_X2_9 (by decide) (by decide +kernel) ?_
      refine pw_iconst_ (v := nI 2) dX2_moveTo_36 (by decide) ?_
      refine pw_iload_n dX2_moveTo_37 rfl ?_
      refine px_imuln (c := 2 * k) dX2_moveTo_38 (by omega) ?_
      refine ps_cald (j := 2 * k) (x := nI (pd (2 * k))) dX2_moveTo_39 rfl (ok_ar (n := 20) (by decide +kernel) (by omega)) ((h4 _ _ (by omega) (by omega)).trans (hR.2.2 _ (by omega)).1) ?_
      refine pw_bipush (v := nI 97) dX2_moveTo_40 (by decide) ?_
      refine pn_isub hpk.1 dX2_moveTo_42 ?_
      refine ps_iast (j := k) dX2_moveTo_43 rfl (ok_ar (n := 8) ((ok_T hs ht).2.2.2.2.2.2) (by omega)) ?_
      refine px_iincn (n := 1) (a := k) (b := k + 1) (ls' := [some (.ref 77), some (.ref (s + 6 + 2 * t)), some (.int (nI (k + 1)))]) dX2_moveTo_44 rfl rfl rfl (by omega) ?_
      refine pw_goto (tgt := 19) dX2_moveTo_47 (by decide) ?_
      refine ih _ ⟨?_, fun j g1 => ?_, fun j g1 => ?_, fun q j g1 g2 => ?_⟩
      · rw [u2_a (by omega)]
        exact h1
      · rw [u2_a (by omega)]
        exact h2 j g1
      · by_cases e : j = k
        · subst e
          rw [u2_s]
        · rw [u2_b e]
          exact h3 j (by omega)
      · rw [u2_a g2]
        exact h4 q j g1 g2
  exact lp 0 (Nat.zero_le _) _ ⟨u2_s, fun j g1 => u2_b (by omega), fun j g1 => absurd g1 (Nat.not_lt_zero _), fun q j g1 g2 => u2_a g1⟩
end PAD2
