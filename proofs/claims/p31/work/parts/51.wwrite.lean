/-! the law: a route is written into the pad and into r -/
/-- what stands in the pad and in the row once a route is written: n places that differ -/

def WR (c c2 : CS) (r r2 : Nat → Int32) (m n : Nat) (pl : Nat → Nat) : Prop := na c2 = na c ∧ PP (pD c2) (pL c2) n pl ∧ PI pl n ∧ 1 ≤ n ∧ n ≤ 8 ∧ (∀ j, ¬ (m ≤ j ∧ j < m + 8) → r2 j = r j) ∧ ∀ k, k < 8 → r2 (m + k) = if k < n then nI (pl k) else -1
theorem CW.pad {c : CS} {U : Nat} (hw : CW c) : CW (o_put c U).2 := w_put hw
section WRITE
variable {l : Launch} {E : EV} {D : va_G} {cA : Nat → ClassId} {fin : Option Value → Mu → List PE → Prop} {μ : Mu} {Y : List PE} {d : Nat}
set_option maxRecDepth 100000 in
set_option maxHeartbeats 4000000 in
theorem y_write {c : CS} (hw : CW c) (hx : CX μ c) {r : Nat → Int32} (h0 : Y[0]? = some (yr r 48)) {m : Nat} (hm : m + 8 ≤ 48) {v : Int32} (hf : ∀ (ν : Mu) (c2 : CS) (Y' : List PE) (r2 : Nat → Int32) (n : Nat) (pl : Nat → Nat), CX ν c2 → CW c2 → Y'.length = Y.length → kv_sum Y' = kv_sum Y → (∀ q, q ≠ 0 → Y'[q]? = Y[q]?) → Y'[0]? = some (yr r2 48) → WR c c2 r r2 m n pl → fin none ν Y') : PL l E D cA Y.length (kv_sum Y) mL_write (d + 7) fin 0 [some (.ref 0), some (.ref (227 + 0)), some (.int (nI m)), some (.int v), none, none, none, none] [] μ Y := by
  refine pw_iconst_ (v := nI 1) dL_write_0 (by decide) ?_
  refine pw_iload_n dL_write_1 rfl ?_
  refine pw_bipush (v := nI 8) dL_write_2 (by decide) ?_
  refine pl_callS (k' := Y.length) (z' := kv_sum Y) (As := [.int v, .int (nI 8)]) (st := [.int (nI 1)]) dL_write_4 cs_L_49 rfl (Nat.le_of_ble_eq_true rfl) (Nat.le_of_ble_eq_true rfl) ⟨Nat.le_refl _, (Nat.le_refl _)⟩ ⟨Nat.le_refl _, (Nat.le_refl _)⟩ ?_
  refine l_low (by decide) (by decide) ?_
  show PL l E D cA Y.length (kv_sum Y) mL_write (d + 7) fin 7 [some (.ref 0), some (.ref (227 + 0)), some (.int (nI m)), some (.int v), none, none, none, none] [.int (nI (lwN v 8)), .int (nI 1)] μ Y
  have hl8 := lwN_lt (x := v) (n := 8) (by decide)
  obtain ⟨n, hn, hn1, hn8⟩ : ∃ n, n = 1 + lwN v 8 ∧ 1 ≤ n ∧ n ≤ 8 := ⟨_, rfl, by omega, by omega⟩
  refine px_iaddn (c := n) dL_write_7 hn.symm ?_
  refine px_istore (ls' := [some (.ref 0), some (.ref (227 + 0)), some (.int (nI m)), some (.int v), some (.int (nI n)), none, none, none]) dL_write_8 rfl rfl (by decide) ?_
  refine pw_iconst_ (v := nI 0) dL_write_10 (by decide) ?_
  refine px_istore (ls' := [some (.ref 0), some (.ref (227 + 0)), some (.int (nI m)), some (.int v), some (.int (nI n)), some (.int (nI 0)), none, none]) dL_write_11 rfl rfl (by decide) ?_
  refine pw_aload_n dL_write_13 rfl ?_
  refine pl_callV (b := 0) (As := []) (st := []) dL_write_14 cv_L_52 rfl ⟨by decide, by decide +kernel⟩ (Nat.le_of_ble_eq_true rfl) (Nat.le_of_ble_eq_true rfl) (Nat.le_refl _) (Nat.le_refl _) ?_
  refine x_wipe hw hx (fun ν1 v1 _ => ?_)
  show PL l E D cA Y.length (kv_sum Y) mL_write (d + 7) fin 17 [some (.ref 0), some (.ref (227 + 0)), some (.int (nI m)), some (.int v), some (.int (nI n)), some (.int (nI 0)), none, none] [.int (nI (pL c))] ν1 Y
  refine pw_pop dL_write_17 ?_
  refine pw_iconst_ (v := nI 0) dL_write_18 (by decide) ?_
  refine px_istore (ls' := [some (.ref 0), some (.ref (227 + 0)), some (.int (nI m)), some (.int v), some (.int (nI n)), some (.int (nI 0)), some (.int (nI 0)), none]) dL_write_19 rfl rfl (by decide) ?_
  have lq : ∀ k : Nat, k ≤ n → ∀ (ν : Mu) (c2 : CS) (Y' : List PE) (r2 : Nat → Int32) (pl : Nat → Nat) (l7 : Option Value), CX ν c2 → CW c2 → na c2 = na c → PP (pD c2) (pL c2) k pl → PI pl k → Y'.length = Y.length → kv_sum Y' = kv_sum Y → (∀ q, q ≠ 0 → Y'[q]? = Y[q]?) → Y'[0]? = some (yr r2 48) → (∀ j, ¬ (m ≤ j ∧ j < m + 8) → r2 j = r j) → (∀ j, j < 8 → r2 (m + j) = if j < k then nI (pl j) else -1) → PL l E D cA Y.length (kv_sum Y) mL_write (d + 7) fin 44 [some (.ref 0), some (.ref (227 + 0)), some (.int (nI m)), some (.int v), some (.int (nI n)), some (.int (nI (msk (us pl k) 8))), some (.int (nI k)), l7] [] ν Y' := by
    refine ps_for _ ?_ ?_
    · intro ν c2 Y' r2 pl l7 h1 h2 h3 h4 h5 ya yb yd hr hr1 hr2
      refine pw_iload dL_write_44 rfl ?_
      refine pw_iload dL_write_46 rfl ?_
      refine pn_ge (tgt := 136) dL_write_48 (by decide) (by omega) (by omega) (fun _ => ?_) (fun h9 => absurd h9 (Nat.lt_irrefl _))
      exact pl_ret dL_write_136 rfl ya yb (hf ν c2 Y' r2 n pl h1 h2 ya yb yd hr ⟨h3, h4, h5, hn1, hn8, hr1, hr2⟩)
    · intro k hk ih ν c2 Y' r2 pl l7 h1 h2 h3 h4 h5 ya yb yd hr hr1 hr2
      have hpl := h4.1
      refine pw_iload dL_write_44 rfl ?_
      refine pw_iload dL_write_46 rfl ?_
      refine pn_ge (tgt := 136) dL_write_48 (by decide) (by omega) (by omega) (fun h9 => absurd h9 (by omega)) (fun _ => ?_)
      refine pw_iload_n dL_write_51 rfl ?_
      refine pw_iconst_ (v := nI 3) dL_write_52 (by decide) ?_
      refine pw_iconst_ (v := nI 2) dL_write_53 (by decide) ?_
      refine pw_iload dL_write_54 rfl ?_
      refine px_imuln (c := 2 * k) dL_write_56 (by omega) ?_
      refine px_iaddn (c := 3 + 2 * k) dL_write_57 (by omega) ?_
      refine pw_ishr dL_write_58 ?_
      refine pw_bipush (v := nI 8) dL_write_59 (by decide) ?_
      refine pl_callS (k' := Y'.length) (z' := kv_sum Y') (As := [.int (v >>> ((nI (3 + 2 * k)) &&& 31)), .int (nI 8)]) (st := []) dL_write_61 cs_L_49 rfl (Nat.le_of_ble_eq_true rfl) (Nat.le_of_ble_eq_true rfl) ⟨Nat.le_refl _, (by omega)⟩ ⟨Nat.le_refl _, (by omega)⟩ ?_
      refine l_low (by decide) (by decide) ?_
      show PL l E D cA Y.length (kv_sum Y) mL_write (d + 7) fin 64 [some (.ref 0), some (.ref (227 + 0)), some (.int (nI m)), some (.int v), some (.int (nI n)), some (.int (nI (msk (us pl k) 8))), some (.int (nI k)), l7] [.int (nI (lwN (v >>> (nI (3 + 2 * k) &&& 31)) 8))] ν Y'
      have hp0 := lwN_lt (x := v >>> (nI (3 + 2 * k) &&& 31)) (n := 8) (by decide)
      generalize lwN (v >>> (nI (3 + 2 * k) &&& 31)) 8 = p0 at hp0 ⊢
      show PL l E D cA Y.length (kv_sum Y) mL_write (d + 7) fin 64 [some (.ref 0), some (.ref (227 + 0)), some (.int (nI m)), some (.int v), some (.int (nI n)), some (.int (nI (msk (us pl k) 8))), some (.int (nI k)), l7] [.int (nI p0)] ν Y'
      refine px_istore (ls' := [some (.ref 0), some (.ref (227 + 0)), some (.int (nI m)), some (.int v), some (.int (nI n)), some (.int (nI (msk (us pl k) 8))), some (.int (nI k)), some (.int (nI p0))]) dL_write_64 rfl rfl (by decide) ?_
      have k89 : ∀ p : Nat, p < 8 → ¬ us pl k p = true → PL l E D cA Y.length (kv_sum Y) mL_write (d + 7) fin 89 [some (.ref 0), some (.ref (227 + 0)), some (.int (nI m)), some (.int v), some (.int (nI n)), some (.int (nI (msk (us pl k) 8))), some (.int (nI k)), some (.int (nI p))] [] ν Y' := by
        intro p hp hfree
        have hadd := h5.add hp hfree
        refine pw_iload dL_write_89 rfl ?_
        refine pw_iconst_ (v := nI 1) dL_write_91 (by decide) ?_
        refine pw_iload dL_write_92 rfl ?_
        refine pw_ishl dL_write_94 ?_
        refine pw_ior dL_write_95 ?_
        rw [or_us hp]
        show PL l E D cA Y.length (kv_sum Y) mL_write (d + 7) fin 96 [some (.ref 0), some (.ref (227 + 0)), some (.int (nI m)), some (.int v), some (.int (nI n)), some (.int (nI (msk (us pl k) 8))), some (.int (nI k)), some (.int (nI p))] [.int (nI (msk (us (up1 pl k p) (k + 1)) 8))] ν Y'
        refine px_istore (ls' := [some (.ref 0), some (.ref (227 + 0)), some (.int (nI m)), some (.int v), some (.int (nI n)), some (.int (nI (msk (us (up1 pl k p) (k + 1)) 8))), some (.int (nI k)), some (.int (nI p))]) dL_write_96 rfl rfl (by decide) ?_
        refine pw_aload_n dL_write_98 rfl ?_
        refine pw_iload_n dL_write_99 rfl ?_
        refine pw_iload dL_write_100 rfl ?_
        refine px_iaddn (c := m + k) dL_write_102 (by omega) ?_
        refine pw_iload dL_write_103 rfl ?_
        refine pl_iast (i := 0) (j := m + k) (n := 48) (f := r2) dL_write_105 rfl (by omega) (by decide) hr (fun Y3 sa sb sc sd => ?_)
        have hr1' : ∀ j, ¬ (m ≤ j ∧ j < m + 8) → upi r2 (m + k) (nI p) j = r j := fun j hj => by rw [upi_n (by omega)]; exact hr1 j hj
        have hr2' : ∀ j, j < 8 → upi r2 (m + k) (nI p) (m + j) = if j < k + 1 then nI (up1 pl k p j) else -1 := fun j hj => by
          by_cases e : j = k
          · rw [e, upi_s, if_pos (Nat.lt_succ_self _), up1_s]
          · rw [upi_n (by omega), hr2 j hj, up1_n e]
            by_cases e2 : j < k
            · rw [if_pos e2, if_pos (by omega)]
            · rw [if_neg e2, if_neg (by omega)]
        refine pw_iload dL_write_106 rfl ?_
        refine pw_if_le (tgt := 119) dL_write_108 (by decide) (fun hc => ?_) (fun hc => ?_)
        · have hk0 : k = 0 := Classical.byContradiction (fun q => by
            have : ¬ nI k ≤ 0 := fun q2 => absurd ((nI_ltI (a := 0) (b := k) (by decide) (by omega)).mpr (by omega)) (Int32.not_lt.mpr q2)
            exact this hc)
          have hl0 : pL c2 = 0 := by omega
          refine pw_aload_n dL_write_119 rfl ?_
          refine pw_bipush (v := nI 97) dL_write_120 (by decide) ?_
          refine pw_iload dL_write_122 rfl ?_
          refine px_iaddn (c := 97 + p) dL_write_124 (by omega) ?_
          refine pw_i2l dL_write_125 (put_long p hp) ?_
          refine pl_callV (b := 0) (As := [.long (lN (97 + p))]) (st := []) dL_write_126 cv_L_58 rfl ⟨by decide, by decide +kernel⟩ (Nat.le_of_ble_eq_true rfl) (Nat.le_of_ble_eq_true rfl) (by omega) (by omega) ?_
          refine x_put (U := 97 + p) h2 h1 (by omega) (fun κ zx _ => ?_)
          have zw : CW (o_put c2 (97 + p)).2 := w_put h2
          rw [put_is (loU_a p hp) (by omega)] at zx zw ⊢
          show PL l E D cA Y.length (kv_sum Y) mL_write (d + 7) fin 129 [some (.ref 0), some (.ref (227 + 0)), some (.int (nI m)), some (.int v), some (.int (nI n)), some (.int (nI (msk (us (up1 pl k p) (k + 1)) 8))), some (.int (nI k)), some (.int (nI p))] [.int (nI (pL c2 + 1))] κ Y3
          rw [hl0] at zx zw ⊢
          show PL l E D cA Y.length (kv_sum Y) mL_write (d + 7) fin 129 [some (.ref 0), some (.ref (227 + 0)), some (.int (nI m)), some (.int v), some (.int (nI n)), some (.int (nI (msk (us (up1 pl k p) (k + 1)) 8))), some (.int (nI k)), some (.int (nI p))] [.int (nI (0 + 1))] κ Y3
          subst hk0
          refine pw_pop dL_write_129 ?_
          refine px_iincn (n := 1) (a := 0) (b := 1) (ls' := [some (.ref 0), some (.ref (227 + 0)), some (.int (nI m)), some (.int v), some (.int (nI n)), some (.int (nI (msk (us (up1 pl 0 p) (0 + 1)) 8))), some (.int (nI 1)), some (.int (nI p))]) dL_write_130 rfl rfl rfl (by omega) ?_
          refine pw_goto (tgt := 44) dL_write_133 (by decide) ?_
          exact ih _ _ Y3 _ _ _ zx zw h3 (PP.one (pd := pD c2) hp) hadd (sa.trans ya) (sb.trans yb) (fun q hq => (sd q hq).trans (yd q hq)) sc hr1' hr2'
        · have hk0 : 0 < k := Nat.pos_of_ne_zero (fun q => hc (by rw [q]; decide))
          refine pw_aload_n dL_write_111 rfl ?_
          refine pw_ldc2_w dL_write_112 kl_L_56 ?_
          show PL l E D cA Y.length (kv_sum Y) mL_write (d + 7) fin 115 [some (.ref 0), some (.ref (227 + 0)), some (.int (nI m)), some (.int v), some (.int (nI n)), some (.int (nI (msk (us (up1 pl k p) (k + 1)) 8))), some (.int (nI k)), some (.int (nI p))] [.long (lN 62), .ref 0] ν Y3
          refine pl_callV (b := 0) (As := [.long (lN 62)]) (st := []) dL_write_115 cv_L_58 rfl ⟨by decide, by decide +kernel⟩ (Nat.le_of_ble_eq_true rfl) (Nat.le_of_ble_eq_true rfl) (by omega) (by omega) ?_
          refine x_put (U := 62) h2 h1 (by omega) (fun κ1 yx _ => ?_)
          have yw : CW (o_put c2 (62)).2 := w_put h2
          rw [put_is loU_gt (by omega)] at yx yw ⊢
          show PL l E D cA Y.length (kv_sum Y) mL_write (d + 7) fin 118 [some (.ref 0), some (.ref (227 + 0)), some (.int (nI m)), some (.int v), some (.int (nI n)), some (.int (nI (msk (us (up1 pl k p) (k + 1)) 8))), some (.int (nI k)), some (.int (nI p))] [.int (nI (pL c2 + 1))] κ1 Y3
          refine pw_pop dL_write_118 ?_
          refine pw_aload_n dL_write_119 rfl ?_
          refine pw_bipush (v := nI 97) dL_write_120 (by decide) ?_
          refine pw_iload dL_write_122 rfl ?_
          refine px_iaddn (c := 97 + p) dL_write_124 (by omega) ?_
          refine pw_i2l dL_write_125 (put_long p hp) ?_
          refine pl_callV (b := 0) (As := [.long (lN (97 + p))]) (st := []) dL_write_126 cv_L_58 rfl ⟨by decide, by decide +kernel⟩ (Nat.le_of_ble_eq_true rfl) (Nat.le_of_ble_eq_true rfl) (by omega) (by omega) ?_
          refine x_put (U := 97 + p) yw yx (by omega) (fun κ zx _ => ?_)
          have zw : CW (o_put (na c2, hH c2, hN c2, sS c2, sV c2, app (pD c2) (pL c2) 62 1, pL c2 + 1) (97 + p)).2 := w_put yw
          rw [put_is (loU_a p hp) (by show pL c2 + 1 + 1 ≤ 20; omega)] at zx zw ⊢
          show PL l E D cA Y.length (kv_sum Y) mL_write (d + 7) fin 129 [some (.ref 0), some (.ref (227 + 0)), some (.int (nI m)), some (.int v), some (.int (nI n)), some (.int (nI (msk (us (up1 pl k p) (k + 1)) 8))), some (.int (nI k)), some (.int (nI p))] [.int (nI (pL (na c2, hH c2, hN c2, sS c2, sV c2, app (pD c2) (pL c2) 62 1, pL c2 + 1) + 1))] κ Y3
          refine pw_pop dL_write_129 ?_
          refine px_iincn (n := 1) (a := k) (b := k + 1) (ls' := [some (.ref 0), some (.ref (227 + 0)), some (.int (nI m)), some (.int v), some (.int (nI n)), some (.int (nI (msk (us (up1 pl k p) (k + 1)) 8))), some (.int (nI (k + 1))), some (.int (nI p))]) dL_write_130 rfl rfl rfl (by omega) ?_
          refine pw_goto (tgt := 44) dL_write_133 (by decide) ?_
          exact ih _ _ Y3 _ _ _ zx zw h3 (h4.more hk0 hp) hadd (sa.trans ya) (sb.trans yb) (fun q hq => (sd q hq).trans (yd q hq)) sc hr1' hr2'
      have k66a : ∀ p : Nat, p < 8 → (us pl k p = true → PL l E D cA Y.length (kv_sum Y) mL_write (d + 7) fin 66 [some (.ref 0), some (.ref (227 + 0)), some (.int (nI m)), some (.int v), some (.int (nI n)), some (.int (nI (msk (us pl k) 8))), some (.int (nI k)), some (.int (nI ((p + 1) % 8)))] [] ν Y') → PL l E D cA Y.length (kv_sum Y) mL_write (d + 7) fin 66 [some (.ref 0), some (.ref (227 + 0)), some (.int (nI m)), some (.int v), some (.int (nI n)), some (.int (nI (msk (us pl k) 8))), some (.int (nI k)), some (.int (nI p))] [] ν Y' := by
        intro p hp hgo
        refine pw_iload dL_write_66 rfl ?_
        refine pw_iload dL_write_68 rfl ?_
        refine pw_ishr dL_write_70 ?_
        refine pw_iconst_ (v := nI 1) dL_write_71 (by decide) ?_
        refine pw_iand dL_write_72 ?_
        rw [bit_shr _ us_256 p hp, msk_bit hp]
        refine pw_iconst_ (v := nI 1) dL_write_73 (by decide) ?_
        refine pn_ne (tgt := 89) dL_write_74 (by decide) (by split <;> decide) (by decide) (fun hd => ?_) (fun hd => ?_)
        · exact k89 p hp (fun q => hd (if_pos q))
        · refine pw_iload dL_write_77 rfl ?_
          refine pw_iconst_ (v := nI 1) dL_write_79 (by decide) ?_
          refine px_iaddn (c := p + 1) dL_write_80 (by omega) ?_
          refine pw_bipush (v := nI 8) dL_write_81 (by decide) ?_
          refine px_iremn dL_write_83 (by omega) (by decide) (by decide) ?_
          refine px_istore (ls' := [some (.ref 0), some (.ref (227 + 0)), some (.int (nI m)), some (.int v), some (.int (nI n)), some (.int (nI (msk (us pl k) 8))), some (.int (nI k)), some (.int (nI ((p + 1) % 8)))]) dL_write_84 rfl rfl (by decide) ?_
          refine pw_goto (tgt := 66) dL_write_86 (by decide) ?_
          exact hgo (by
            by_cases e : us pl k p = true
            · exact e
            · rw [if_neg e] at hd
              cases hd)
      have k66 : ∀ s p : Nat, p < 8 → ¬ us pl k ((p + s) % 8) = true → PL l E D cA Y.length (kv_sum Y) mL_write (d + 7) fin 66 [some (.ref 0), some (.ref (227 + 0)), some (.int (nI m)), some (.int v), some (.int (nI n)), some (.int (nI (msk (us pl k) 8))), some (.int (nI k)), some (.int (nI p))] [] ν Y' := by
        intro s
        induction s with
        | zero =>
          intro p hp hu
          rw [Nat.add_zero, Nat.mod_eq_of_lt hp] at hu
          exact k66a p hp (fun q => absurd q hu)
        | succ s ihs =>
          intro p hp hu
          refine k66a p hp (fun hq => ?_)
          exact ihs ((p + 1) % 8) (Nat.mod_lt _ (by decide)) (by rw [show ((p + 1) % 8 + s) % 8 = (p + (s + 1)) % 8 by omega]; exact hu)
      obtain ⟨x, hx8, hxf⟩ := h5.free (by omega)
      exact k66 ((x + 8 - p0) % 8) p0 hp0 (by rw [show (p0 + (x + 8 - p0) % 8) % 8 = x by omega]; exact hxf)
  have lp : ∀ i : Nat, i ≤ 8 → ∀ (Y' : List PE) (r2 : Nat → Int32), Y'.length = Y.length → kv_sum Y' = kv_sum Y → (∀ q, q ≠ 0 → Y'[q]? = Y[q]?) → Y'[0]? = some (yr r2 48) → (∀ j, r2 j = if m ≤ j ∧ j < m + i then -1 else r j) → PL l E D cA Y.length (kv_sum Y) mL_write (d + 7) fin 21 [some (.ref 0), some (.ref (227 + 0)), some (.int (nI m)), some (.int v), some (.int (nI n)), some (.int (nI 0)), some (.int (nI i)), none] [] ν1 Y' := by
    refine ps_for _ ?_ ?_
    · intro Y' r2 ya yb yd hr hi
      refine pw_iload dL_write_21 rfl ?_
      refine pw_bipush (v := nI 8) dL_write_23 (by decide) ?_
      refine pn_ge (tgt := 41) dL_write_25 (by decide) (by omega) (by omega) (fun _ => ?_) (fun h9 => absurd h9 (by decide))
      refine pw_iconst_ (v := nI 0) dL_write_41 (by decide) ?_
      refine px_istore (ls' := [some (.ref 0), some (.ref (227 + 0)), some (.int (nI m)), some (.int v), some (.int (nI n)), some (.int (nI 0)), some (.int (nI 0)), none]) dL_write_42 rfl rfl (by decide) ?_
      rw [show nI 0 = nI (msk (us (fun _ => 0) 0) 8) from rfl]
      exact lq 0 (Nat.zero_le _) ν1 _ Y' r2 (fun _ => 0) none v1 (w_wipe hw) rfl ⟨rfl, fun i hi => absurd hi (Nat.not_lt_zero _), fun i hi => absurd hi (Nat.not_lt_zero _)⟩ ⟨fun i hi => absurd hi (Nat.not_lt_zero _), fun i j hi => absurd hi (Nat.not_lt_zero _)⟩ ya yb yd hr (fun j hj => by rw [hi j, if_neg hj]) (fun j hj => by rw [hi, if_pos (by omega), if_neg (Nat.not_lt_zero _)])
    · intro i hi9 ih Y' r2 ya yb yd hr hi
      refine pw_iload dL_write_21 rfl ?_
      refine pw_bipush (v := nI 8) dL_write_23 (by decide) ?_
      refine pn_ge (tgt := 41) dL_write_25 (by decide) (by omega) (by omega) (fun h9 => absurd h9 (by omega)) (fun _ => ?_)
      refine pw_aload_n dL_write_28 rfl ?_
      refine pw_iload_n dL_write_29 rfl ?_
      refine pw_iload dL_write_30 rfl ?_
      refine px_iaddn (c := m + i) dL_write_32 (by omega) ?_
      refine pw_iconst_ (v := (-1)) dL_write_33 (by decide) ?_
      refine pl_iast (i := 0) (j := m + i) (n := 48) (f := r2) dL_write_34 rfl (by omega) (by decide) hr (fun Y3 sa sb sc sd => ?_)
      refine px_iincn (n := 1) (a := i) (b := i + 1) (ls' := [some (.ref 0), some (.ref (227 + 0)), some (.int (nI m)), some (.int v), some (.int (nI n)), some (.int (nI 0)), some (.int (nI (i + 1))), none]) dL_write_35 rfl rfl rfl (by omega) ?_
      refine pw_goto (tgt := 21) dL_write_38 (by decide) ?_
      exact ih Y3 _ (sa.trans ya) (sb.trans yb) (fun q hq => (sd q hq).trans (yd q hq)) sc (fun j => by
        by_cases e : j = m + i
        · rw [e, upi_s, if_pos (by omega)]
        · rw [upi_n e, hi j]
          by_cases e2 : m ≤ j ∧ j < m + i
          · rw [if_pos e2, if_pos (by omega)]
          · rw [if_neg e2, if_neg (by omega)])
  exact lp 0 (Nat.zero_le _) Y r rfl rfl (fun _ _ => rfl) h0 (fun j => by rw [if_neg (by omega)])
end WRITE
