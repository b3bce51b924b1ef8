/-! the model: its game: size, walk, hasLost -/
theorem siz_nI {x y : Nat} (hx : x < 2 ^ 30) (hy : y < 2 ^ 30) : (if nI x - nI y < 0 then -(nI x - nI y) else nI x - nI y) = nI (dist x y) := by
  rw [← abs_nI hx hy]
  by_cases h : nI x - nI y < 0
  · rw [if_pos h, if_neg (fun q => absurd h (Int32.not_lt.mpr q)), Int32.zero_sub]
  · rw [if_neg h, if_pos (Int32.not_lt.mp h)]
/-- a team's part of the model's game: its trail, how many visits are done, when it goes on -/
def MT0 (μ : Mu) (a : AS) (g : GT) (t : Nat) : Prop := μ 237 t = nI (tl a t) ∧ μ 244 t = nI (dn g t) ∧ μ 243 t = nI (ov g t) ∧ (∀ v, v < tl a t → μ 238 (8 * t + v) = nI (trv a t v)) ∧ ∀ v, v < dn g t → μ 239 (8 * t + v) = nI (cm g t v) ∧ μ 240 (8 * t + v) = nI (bg g t v) ∧ μ 241 (8 * t + v) = nI (en g t v) ∧ μ 242 (8 * t + v) = nI (wk a t v)
/-- its next visit -/
def MT1 (μ : Mu) (a : AS) (g : GT) (t : Nat) : Prop := dn g t < tl a t → μ 239 (8 * t + dn g t) = nI (come a g t) ∧ μ 242 (8 * t + dn g t) = nI (wk a t (dn g t))
def MJ (μ : Mu) (a : AS) (n : Nat) (g : GT) : Prop := μ 227 13 = nI n ∧ (∀ t, t < n → MT0 μ a g t ∧ MT1 μ a g t) ∧ ∀ p, p < 8 → μ 245 p = nI (fr g p)
/-- the game as it ends -/
def PM (μ : Mu) (a : AS) (n : Nat) : Prop := μ 227 13 = nI n ∧ ∀ t, t < n → MT0 μ a (gf a n) t
/-- nothing is changed but the game -/
def PF (ν μ : Mu) : Prop := ∀ q k, q < 237 → (q = 227 → k ≠ 13) → ν q k = μ q k
theorem PF.rfl {μ : Mu} : PF μ μ := fun _ _ _ _ => Eq.refl _
theorem PF.tr {ρ κ μ : Mu} (h1 : PF ρ κ) (h2 : PF κ μ) : PF ρ μ := fun q k g1 g2 => (h1 q k g1 g2).trans (h2 q k g1 g2)
theorem PF.up {ν μ : Mu} {i k : Nat} {x : Int32} (h : PF ν μ) (hi : 237 ≤ i) : PF (u2 ν i k x) μ := fun q j g1 g2 => (u2_a (by omega)).trans (h q j g1 g2)
theorem PF.rm {ν μ : Mu} {a : AS} (h : PF ν μ) (hR : RM μ a) : RM ν a := fun k hk => (h _ _ (by decide) (by omega)).trans (hR k hk)
theorem PF.kg {ν μ : Mu} (h : PF ν μ) : KG ν μ := fun q k g => h q k (by omega) (by omega)
theorem MT0.same {ν μ : Mu} {a : AS} {g : GT} {t : Nat} (h : MT0 μ a g t) (h1 : ν 237 t = μ 237 t) (h2 : ν 244 t = μ 244 t) (h3 : ν 243 t = μ 243 t) (h4 : ∀ v, v < tl a t → ν 238 (8 * t + v) = μ 238 (8 * t + v)) (h5 : ∀ q v, 239 ≤ q → q ≤ 242 → v < dn g t → ν q (8 * t + v) = μ q (8 * t + v)) : MT0 ν a g t :=
  ⟨h1.trans h.1, h2.trans h.2.1, h3.trans h.2.2.1, fun v hv => (h4 v hv).trans (h.2.2.2.1 v hv), fun v hv => ⟨(h5 _ v (by decide) (by decide) hv).trans (h.2.2.2.2 v hv).1, (h5 _ v (by decide) (by decide) hv).trans (h.2.2.2.2 v hv).2.1, (h5 _ v (by decide) (by decide) hv).trans (h.2.2.2.2 v hv).2.2.1, (h5 _ v (by decide) (by decide) hv).trans (h.2.2.2.2 v hv).2.2.2⟩⟩
theorem lost_eq : ∀ p, p < 8 → ∀ m, m ≤ 8 → ((nI p = nI m - nI 1) ↔ p + 1 = m) := by decide
theorem kb_nI {p : Prop} [Decidable p] : kb p = nI (if p then 1 else 0) := by unfold kb; split <;> rfl
section MODM
variable {l : Launch} {E : EV} {D : va_G} {cA : Nat → ClassId} {fin : Option Value → Mu → Prop} {μ : Mu} {d : Nat}
set_option maxRecDepth 100000 in
set_option maxHeartbeats 4000000 in
theorem m_size {z : Int32} (hf : fin (some (.int (if z < 0 then -z else z))) μ) : PS l E D cA mX6_size d fin 0 [some (.int z)] [] μ := by
  refine pw_iload_n dX6_size_0 rfl ?_
  refine pw_if_ge (tgt := 9) dX6_size_1 (by decide) (fun h9 => ?_) (fun h9 => ?_)
  · refine pw_iload_n dX6_size_9 rfl ?_
    exact ps_iret dX6_size_10 rfl (rfl) (by rw [if_neg (Int32.not_lt.mpr h9)] at hf; exact hf)
  · refine pw_iload_n dX6_size_4 rfl ?_
    refine pw_ineg dX6_size_5 ?_
    refine pw_goto (tgt := 10) dX6_size_6 (by decide) ?_
    exact ps_iret dX6_size_10 rfl (rfl) (by rw [if_pos (Int32.not_le.mp h9)] at hf; exact hf)
set_option maxRecDepth 100000 in
set_option maxHeartbeats 4000000 in
theorem m_hasLost {t v : Nat} {a : AS} (hw : Wf a) (ht : t < a 3) (hR : RM μ a) (hv : μ 244 t = nI v) (hv8 : v ≤ 8) (hp : ∀ i, i < v → μ 238 (8 * t + i) = nI (trv a t i)) (ht8 : ∀ i, i < v → trv a t i < 8) (hf : fin (some (.int (kb (lob a t v = true)))) μ) : PS l E D cA mX6_hasLost (d + 1) fin 0 [some (.ref 227), some (.int (nI t)), none, none] [] μ := by
  have t6 : t < 6 := Nat.lt_of_lt_of_le ht hw.t6
  refine pw_iconst_ (v := nI 0) dX6_hasLost_0 (by decide) ?_
  refine px_istore_n (ls' := [some (.ref 227), some (.int (nI t)), some (.int (nI 0)), none]) dX6_hasLost_1 rfl rfl (by decide) ?_
  refine pw_iconst_ (v := nI 0) dX6_hasLost_2 (by decide) ?_
  refine px_istore_n (ls' := [some (.ref 227), some (.int (nI t)), some (.int (nI 0)), some (.int (nI 0))]) dX6_hasLost_3 rfl rfl (by decide) ?_
  have lp : ∀ i : Nat, i ≤ v → PS l E D cA mX6_hasLost (d + 1) fin 4 [some (.ref 227), some (.int (nI t)), some (.int (nI (if lob a t i = true then 1 else 0))), some (.int (nI i))] [] μ := by
    refine ps_for _ ?_ ?_
    · skip
      refine pw_iload_n dX6_hasLost_4 rfl ?_
      refine pw_aload_n dX6_hasLost_5 rfl ?_
      refine ps_getr (r := 244) dX6_hasLost_6 kf_X6_59 (by decide) (by decide +kernel) ?_
      refine pw_iload_n dX6_hasLost_9 rfl ?_
      refine ps_iald (j := t) (x := nI v) dX6_hasLost_10 rfl (ok_ar (n := 6) (by decide +kernel) (by omega)) hv ?_
      refine pn_ge (tgt := 52) dX6_hasLost_11 (by decide) (by omega) (by omega) (fun _ => ?_) (fun h9 => absurd h9 (by omega))
      refine pw_iload_n dX6_hasLost_52 rfl ?_
      rw [← kb_nI]
      exact ps_iret dX6_hasLost_53 rfl (kb_nar) hf
    · intro i hi ih
      have h8 := ht8 i hi
      have hl8 := (hw.tm ht).2.2.1
      refine pw_iload_n dX6_hasLost_4 rfl ?_
      refine pw_aload_n dX6_hasLost_5 rfl ?_
      refine ps_getr (r := 244) dX6_hasLost_6 kf_X6_59 (by decide) (by decide +kernel) ?_
      refine pw_iload_n dX6_hasLost_9 rfl ?_
      refine ps_iald (j := t) (x := nI v) dX6_hasLost_10 rfl (ok_ar (n := 6) (by decide +kernel) (by omega)) hv ?_
      refine pn_ge (tgt := 52) dX6_hasLost_11 (by decide) (by omega) (by omega) (fun h9 => absurd h9 (by omega)) (fun _ => ?_)
      refine pw_iload_n dX6_hasLost_14 rfl ?_
      by_cases hl : lob a t i = true
      · rw [if_pos hl]
        show PS l E D cA mX6_hasLost (d + 1) fin 15 [some (.ref 227), some (.int (nI t)), some (.int (nI 1)), some (.int (nI i))] [.int (nI 1)] μ
        refine pw_if_ne (tgt := 40) dX6_hasLost_15 (by decide) (fun _ => ?_) (fun h9 => absurd h9 nI1_ne)
        refine pw_iconst_ (v := nI 1) dX6_hasLost_40 (by decide) ?_
        refine pw_goto (tgt := 45) dX6_hasLost_41 (by decide) ?_
        refine px_istore_n (ls' := [some (.ref 227), some (.int (nI t)), some (.int (nI 1)), some (.int (nI i))]) dX6_hasLost_45 rfl rfl (by decide) ?_
        refine px_iincn (n := 1) (a := i) (b := i + 1) (ls' := [some (.ref 227), some (.int (nI t)), some (.int (nI 1)), some (.int (nI (i + 1)))]) dX6_hasLost_46 rfl rfl rfl (by omega) ?_
        refine pw_goto (tgt := 4) dX6_hasLost_49 (by decide) ?_
        have e1 : (if lob a t (i + 1) = true then 1 else 0) = 1 := if_pos (by show (lob a t i || _) = true; rw [hl]; rfl)
        rw [e1] at ih
        exact ih
      · rw [if_neg hl]
        show PS l E D cA mX6_hasLost (d + 1) fin 15 [some (.ref 227), some (.int (nI t)), some (.int (nI 0)), some (.int (nI i))] [.int (nI 0)] μ
        refine pw_if_ne (tgt := 40) dX6_hasLost_15 (by decide) (fun h9 => absurd nI_0 h9) (fun _ => ?_)
        refine pw_aload_n dX6_hasLost_18 rfl ?_
        refine ps_getr (r := 238) dX6_hasLost_19 kf_X6_41 (by decide) (by decide +kernel) ?_
        refine pw_bipush (v := nI 8) dX6_hasLost_22 (by decide) ?_
        refine pw_iload_n dX6_hasLost_24 rfl ?_
        refine px_imuln (c := 8 * t) dX6_hasLost_25 (by omega) ?_
        refine pw_iload_n dX6_hasLost_26 rfl ?_
        refine px_iaddn (c := 8 * t + i) dX6_hasLost_27 (by omega) ?_
        refine ps_iald (j := 8 * t + i) (x := nI (trv a t i)) dX6_hasLost_28 rfl (ok_ar (n := 48) (by decide +kernel) (by omega)) (hp i hi) ?_
        refine pw_aload_n dX6_hasLost_29 rfl ?_
        refine pw_iload_n dX6_hasLost_30 rfl ?_
        refine pw_iconst_ (v := nI 2) dX6_hasLost_31 (by decide) ?_
        refine ps_callV (b := 227) (As := [.int (nI t), .int (nI 2)]) (st := [.int (nI (trv a t i))]) dX6_hasLost_32 cv_X6_85 rfl ⟨by decide, by decide +kernel⟩ (Nat.le_of_ble_eq_true rfl) (Nat.le_of_ble_eq_true rfl) ?_
        refine m_its (t := t) (w := 2) (by omega) ((hR _ (by omega)).trans (by rw [show 36 + 12 * t + 2 = 38 + 12 * t by omega])) ?_
        refine pw_iconst_ (v := nI 1) dX6_hasLost_35 (by decide) ?_
        refine pw_isub dX6_hasLost_36 ?_
        refine pw_icmp_ne (tgt := 44) dX6_hasLost_37 (by decide) (fun h9 => ?_) (fun h9 => ?_)
        · refine pw_iconst_ (v := nI 0) dX6_hasLost_44 (by decide) ?_
          refine px_istore_n (ls' := [some (.ref 227), some (.int (nI t)), some (.int (nI 0)), some (.int (nI i))]) dX6_hasLost_45 rfl rfl (by decide) ?_
          refine px_iincn (n := 1) (a := i) (b := i + 1) (ls' := [some (.ref 227), some (.int (nI t)), some (.int (nI 0)), some (.int (nI (i + 1)))]) dX6_hasLost_46 rfl rfl rfl (by omega) ?_
          refine pw_goto (tgt := 4) dX6_hasLost_49 (by decide) ?_
          have e1 : (if lob a t (i + 1) = true then 1 else 0) = 0 := if_neg (by
            show ¬ (lob a t i || (trv a t i + 1 == a (38 + 12 * t))) = true
            have h10 : ¬ trv a t i + 1 = a (38 + 12 * t) := fun q9 => h9 ((lost_eq _ h8 _ hl8).mpr q9)
            simp [hl, h10])
          rw [e1] at ih
          exact ih
        · refine pw_iconst_ (v := nI 1) dX6_hasLost_40 (by decide) ?_
          refine pw_goto (tgt := 45) dX6_hasLost_41 (by decide) ?_
          refine px_istore_n (ls' := [some (.ref 227), some (.int (nI t)), some (.int (nI 1)), some (.int (nI i))]) dX6_hasLost_45 rfl rfl (by decide) ?_
          refine px_iincn (n := 1) (a := i) (b := i + 1) (ls' := [some (.ref 227), some (.int (nI t)), some (.int (nI 1)), some (.int (nI (i + 1)))]) dX6_hasLost_46 rfl rfl rfl (by omega) ?_
          refine pw_goto (tgt := 4) dX6_hasLost_49 (by decide) ?_
          have e1 : (if lob a t (i + 1) = true then 1 else 0) = 1 := if_pos (by
            show (lob a t i || (trv a t i + 1 == a (38 + 12 * t))) = true
            have h10 := (lost_eq _ h8 _ hl8).mp h9
            simp [h10])
          rw [e1] at ih
          exact ih
  exact lp 0 (Nat.zero_le _)
set_option maxRecDepth 100000 in
set_option maxHeartbeats 4000000 in
theorem m_walk {t : Nat} {a : AS} {g : GT} {z : Int32} (hw : Wf a) (ht : t < a 3) (hR : RM μ a) (h0 : MT0 μ a g t) (hd : dn g t ≤ tl a t) (hz : z ≠ 0 ↔ lob a t (dn g t) = true) (hf : ∀ ν : Mu, MT1 ν a g t → (∀ q k, ¬ ((q = 239 ∨ q = 242) ∧ k = 8 * t + dn g t ∧ dn g t < tl a t) → ν q k = μ q k) → fin none ν) : PS l E D cA mX6_walk (d + 1) fin 0 [some (.ref 227), some (.int (nI t)), some (.int z), none, none, none] [] μ := by
  obtain ⟨v, hv⟩ : ∃ v, v = dn g t := ⟨_, rfl⟩
  obtain ⟨j1, j2, j3, j4, j5⟩ := h0
  have t6 : t < 6 := Nat.lt_of_lt_of_le ht hw.t6
  have l8 := tl_le hw ht
  rw [← hv] at hz hd j2
  refine pw_bipush (v := nI 8) dX6_walk_0 (by decide) ?_
  refine pw_iload_n dX6_walk_2 rfl ?_
  refine px_imuln (c := 8 * t) dX6_walk_3 (by omega) ?_
  refine pw_aload_n dX6_walk_4 rfl ?_
  refine ps_getr (r := 244) dX6_walk_5 kf_X6_59 (by decide) (by decide +kernel) ?_
  refine pw_iload_n dX6_walk_8 rfl ?_
  refine ps_iald (j := t) (x := nI v) dX6_walk_9 rfl (ok_ar (n := 6) (by decide +kernel) (by omega)) j2 ?_
  refine px_iaddn (c := 8 * t + v) dX6_walk_10 (by omega) ?_
  refine px_istore_n (ls' := [some (.ref 227), some (.int (nI t)), some (.int z), some (.int (nI (8 * t + v))), none, none]) dX6_walk_11 rfl rfl (by decide) ?_
  refine pw_aload_n dX6_walk_12 rfl ?_
  refine ps_getr (r := 244) dX6_walk_13 kf_X6_59 (by decide) (by decide +kernel) ?_
  refine pw_iload_n dX6_walk_16 rfl ?_
  refine ps_iald (j := t) (x := nI v) dX6_walk_17 rfl (ok_ar (n := 6) (by decide +kernel) (by omega)) j2 ?_
  refine pw_aload_n dX6_walk_18 rfl ?_
  refine ps_getr (r := 237) dX6_walk_19 kf_X6_38 (by decide) (by decide +kernel) ?_
  refine pw_iload_n dX6_walk_22 rfl ?_
  refine ps_iald (j := t) (x := nI (tl a t)) dX6_walk_23 rfl (ok_ar (n := 6) (by decide +kernel) (by omega)) j1 ?_
  refine pn_ne (tgt := 28) dX6_walk_24 (by decide) (by omega) (by omega) (fun hc => ?_) (fun hc => ?_)
  · have hvl : v < tl a t := by omega
    have p8 := trv_lt hw ht hvl
    have hP := hw.pl p8
    have hPx : px a (trv a t v) ≤ 20 := hP.1
    have hPy : py a (trv a t v) ≤ 20 := hP.2.1
    have hpv : pvx a t v ≤ 20 ∧ pvy a t v ≤ 20 := by
      unfold pvx pvy
      split
      · exact ⟨Nat.zero_le _, Nat.zero_le _⟩
      · have h2 := hw.pl (trv_lt hw ht (v := v - 1) (by omega))
        exact ⟨h2.1, h2.2.1⟩
    have tail : PS l E D cA mX6_walk (d + 1) fin 84 [some (.ref 227), some (.int (nI t)), some (.int z), some (.int (nI (8 * t + v))), some (.int (nI (pvx a t v))), some (.int (nI (pvy a t v)))] [] μ := by
      refine pw_aload_n dX6_walk_84 rfl ?_
      refine ps_getr (r := 242) dX6_walk_85 kf_X6_53 (by decide) (by decide +kernel) ?_
      refine pw_iload_n dX6_walk_88 rfl ?_
      refine pw_aload_n dX6_walk_89 rfl ?_
      refine pw_aload_n dX6_walk_90 rfl ?_
      refine ps_getr (r := 238) dX6_walk_91 kf_X6_41 (by decide) (by decide +kernel) ?_
      refine pw_iload_n dX6_walk_94 rfl ?_
      refine ps_iald (j := 8 * t + v) (x := nI (trv a t v)) dX6_walk_95 rfl (ok_ar (n := 48) (by decide +kernel) (by omega)) (j4 v hvl) ?_
      refine pw_iconst_ (v := nI 0) dX6_walk_96 (by decide) ?_
      refine ps_callV (b := 227) (As := [.int (nI (trv a t v)), .int (nI 0)]) (st := [.int (nI (8 * t + v)), .ref 242]) dX6_walk_97 cv_X6_89 rfl ⟨by decide, by decide +kernel⟩ (Nat.le_of_ble_eq_true rfl) (Nat.le_of_ble_eq_true rfl) ?_
      refine m_of (p := trv a t v) (w := 0) (by omega) (hR _ (by omega)) ?_
      rw [Nat.add_zero]
      show PS l E D cA mX6_walk (d + 1) fin 100 [some (.ref 227), some (.int (nI t)), some (.int z), some (.int (nI (8 * t + v))), some (.int (nI (pvx a t v))), some (.int (nI (pvy a t v)))] [.int (nI (px a (trv a t v))), .int (nI (8 * t + v)), .ref 242] μ
      refine pw_iload dX6_walk_100 rfl ?_
      refine pw_isub dX6_walk_102 ?_
      refine ps_callS (As := [.int ((nI (px a (trv a t v))) - (nI (pvx a t v)))]) (st := [.int (nI (8 * t + v)), .ref 242]) dX6_walk_103 cs_X6_96 rfl (Nat.le_of_ble_eq_true rfl) (Nat.le_of_ble_eq_true rfl) ?_
      refine m_size ?_
      rw [siz_nI (by omega) (by omega)]
      show PS l E D cA mX6_walk (d + 1) fin 106 [some (.ref 227), some (.int (nI t)), some (.int z), some (.int (nI (8 * t + v))), some (.int (nI (pvx a t v))), some (.int (nI (pvy a t v)))] [.int (nI (dist (px a (trv a t v)) (pvx a t v))), .int (nI (8 * t + v)), .ref 242] μ
      refine pw_aload_n dX6_walk_106 rfl ?_
      refine pw_aload_n dX6_walk_107 rfl ?_
      refine ps_getr (r := 238) dX6_walk_108 kf_X6_41 (by decide) (by decide +kernel) ?_
      refine pw_iload_n dX6_walk_111 rfl ?_
      refine ps_iald (j := 8 * t + v) (x := nI (trv a t v)) dX6_walk_112 rfl (ok_ar (n := 48) (by decide +kernel) (by omega)) (j4 v hvl) ?_
      refine pw_iconst_ (v := nI 1) dX6_walk_113 (by decide) ?_
      refine ps_callV (b := 227) (As := [.int (nI (trv a t v)), .int (nI 1)]) (st := [.int (nI (dist (px a (trv a t v)) (pvx a t v))), .int (nI (8 * t + v)), .ref 242]) dX6_walk_114 cv_X6_89 rfl ⟨by decide, by decide +kernel⟩ (Nat.le_of_ble_eq_true rfl) (Nat.le_of_ble_eq_true rfl) ?_
      refine m_of (p := trv a t v) (w := 1) (by omega) (hR _ (by omega)) ?_
      rw [show 4 + 4 * trv a t v + 1 = 5 + 4 * trv a t v by omega]
      show PS l E D cA mX6_walk (d + 1) fin 117 [some (.ref 227), some (.int (nI t)), some (.int z), some (.int (nI (8 * t + v))), some (.int (nI (pvx a t v))), some (.int (nI (pvy a t v)))] [.int (nI (py a (trv a t v))), .int (nI (dist (px a (trv a t v)) (pvx a t v))), .int (nI (8 * t + v)), .ref 242] μ
      refine pw_iload dX6_walk_117 rfl ?_
      refine pw_isub dX6_walk_119 ?_
      refine ps_callS (As := [.int ((nI (py a (trv a t v))) - (nI (pvy a t v)))]) (st := [.int (nI (dist (px a (trv a t v)) (pvx a t v))), .int (nI (8 * t + v)), .ref 242]) dX6_walk_120 cs_X6_96 rfl (Nat.le_of_ble_eq_true rfl) (Nat.le_of_ble_eq_true rfl) ?_
      refine m_size ?_
      rw [siz_nI (by omega) (by omega)]
      show PS l E D cA mX6_walk (d + 1) fin 123 [some (.ref 227), some (.int (nI t)), some (.int z), some (.int (nI (8 * t + v))), some (.int (nI (pvx a t v))), some (.int (nI (pvy a t v)))] [.int (nI (dist (py a (trv a t v)) (pvy a t v))), .int (nI (dist (px a (trv a t v)) (pvx a t v))), .int (nI (8 * t + v)), .ref 242] μ
      refine px_iaddn (c := dist (px a (trv a t v)) (pvx a t v) + dist (py a (trv a t v)) (pvy a t v)) dX6_walk_123 (by omega) ?_
      refine pw_iload_n dX6_walk_124 rfl ?_
      refine pw_if_eq (tgt := 137) dX6_walk_125 (by decide) (fun h9 => ?_) (fun h9 => ?_)
      · refine pw_iconst_ (v := nI 1) dX6_walk_137 (by decide) ?_
        refine px_imuln (c := wk a t v) dX6_walk_138 (by unfold wk slo; rw [if_neg (fun q9 => (hz.mpr q9) h9), Nat.mul_comm]) ?_
        refine ps_iast (j := 8 * t + v) dX6_walk_139 rfl (ok_ar (n := 48) (by decide +kernel) (by omega)) ?_
        refine pw_aload_n dX6_walk_140 rfl ?_
        refine ps_getr (r := 239) dX6_walk_141 kf_X6_44 (by decide) (by decide +kernel) ?_
        refine pw_iload_n dX6_walk_144 rfl ?_
        refine pw_aload_n dX6_walk_145 rfl ?_
        refine ps_getr (r := 243) dX6_walk_146 kf_X6_56 (by decide) (by decide +kernel) ?_
        refine pw_iload_n dX6_walk_149 rfl ?_
        refine ps_iald (j := t) (x := nI (ov g t)) dX6_walk_150 rfl (ok_ar (n := 6) (by decide +kernel) (by omega)) ((u2_a (by omega)).trans j3) ?_
        refine pw_aload_n dX6_walk_151 rfl ?_
        refine ps_getr (r := 242) dX6_walk_152 kf_X6_53 (by decide) (by decide +kernel) ?_
        refine pw_iload_n dX6_walk_155 rfl ?_
        refine ps_iald (j := 8 * t + v) (x := nI (wk a t v)) dX6_walk_156 rfl (ok_ar (n := 48) (by decide +kernel) (by omega)) u2_s ?_
        refine px_iaddn (c := ov g t + wk a t v) dX6_walk_157 (by omega) ?_
        refine ps_iast (j := 8 * t + v) dX6_walk_158 rfl (ok_ar (n := 48) (by decide +kernel) (by omega)) ?_
        refine ps_ret dX6_walk_159 rfl (hf _ (fun _ => ⟨?_, ?_⟩) (fun q k g1 => ?_))
        · rw [← hv, u2_s]
          unfold come
          rw [← hv]
        · rw [← hv, u2_a (by decide), u2_s]
        · rw [← hv] at g1
          by_cases e9 : k = 8 * t + v
          · rw [u2_a (fun q9 => g1 ⟨Or.inl q9, e9, hvl⟩), u2_a (fun q9 => g1 ⟨Or.inr q9, e9, hvl⟩)]
          · by_cases e8 : q = 239
            · subst e8
              rw [u2_b e9, u2_a (by decide)]
            · rw [u2_a e8]
              by_cases e7 : q = 242
              · subst e7
                rw [u2_b e9]
              · rw [u2_a e7]
      · refine pw_aload_n dX6_walk_128 rfl ?_
        refine ps_getr (r := 228) dX6_walk_129 kf_X6_7 (by decide) (by decide +kernel) ?_
        refine pw_iconst_ (v := nI 2) dX6_walk_132 (by decide) ?_
        refine ps_iald (j := 2) (x := nI (a 2)) dX6_walk_133 rfl (ok_ar (n := 108) (by decide +kernel) (by decide)) (hR 2 (by decide)) ?_
        refine pw_goto (tgt := 138) dX6_walk_134 (by decide) ?_
        refine px_imuln (c := wk a t v) dX6_walk_138 (by unfold wk slo; rw [if_pos (hz.mp h9), Nat.mul_comm]) ?_
        refine ps_iast (j := 8 * t + v) dX6_walk_139 rfl (ok_ar (n := 48) (by decide +kernel) (by omega)) ?_
        refine pw_aload_n dX6_walk_140 rfl ?_
        refine ps_getr (r := 239) dX6_walk_141 kf_X6_44 (by decide) (by decide +kernel) ?_
        refine pw_iload_n dX6_walk_144 rfl ?_
        refine pw_aload_n dX6_walk_145 rfl ?_
        refine ps_getr (r := 243) dX6_walk_146 kf_X6_56 (by decide) (by decide +kernel) ?_
        refine pw_iload_n dX6_walk_149 rfl ?_
        refine ps_iald (j := t) (x := nI (ov g t)) dX6_walk_150 rfl (ok_ar (n := 6) (by decide +kernel) (by omega)) ((u2_a (by omega)).trans j3) ?_
        refine pw_aload_n dX6_walk_151 rfl ?_
        refine ps_getr (r := 242) dX6_walk_152 kf_X6_53 (by decide) (by decide +kernel) ?_
        refine pw_iload_n dX6_walk_155 rfl ?_
        refine ps_iald (j := 8 * t + v) (x := nI (wk a t v)) dX6_walk_156 rfl (ok_ar (n := 48) (by decide +kernel) (by omega)) u2_s ?_
        refine px_iaddn (c := ov g t + wk a t v) dX6_walk_157 (by omega) ?_
        refine ps_iast (j := 8 * t + v) dX6_walk_158 rfl (ok_ar (n := 48) (by decide +kernel) (by omega)) ?_
        refine ps_ret dX6_walk_159 rfl (hf _ (fun _ => ⟨?_, ?_⟩) (fun q k g1 => ?_))
        · rw [← hv, u2_s]
          unfold come
          rw [← hv]
        · rw [← hv, u2_a (by decide), u2_s]
        · rw [← hv] at g1
          by_cases e9 : k = 8 * t + v
          · rw [u2_a (fun q9 => g1 ⟨Or.inl q9, e9, hvl⟩), u2_a (fun q9 => g1 ⟨Or.inr q9, e9, hvl⟩)]
          · by_cases e8 : q = 239
            · subst e8
              rw [u2_b e9, u2_a (by decide)]
            · rw [u2_a e8]
              by_cases e7 : q = 242
              · subst e7
                rw [u2_b e9]
              · rw [u2_a e7]
    refine pw_aload_n dX6_walk_28 rfl ?_
    refine ps_getr (r := 244) dX6_walk_29 kf_X6_59 (by decide) (by decide +kernel) ?_
    refine pw_iload_n dX6_walk_32 rfl ?_
    refine ps_iald (j := t) (x := nI v) dX6_walk_33 rfl (ok_ar (n := 6) (by decide +kernel) (by omega)) j2 ?_
    by_cases hv0 : v = 0
    · refine pw_if_ne (tgt := 41) dX6_walk_34 (by decide) (fun h9 => absurd (by rw [hv0]; exact nI_0) h9) (fun _ => ?_)
      refine pw_iconst_ (v := nI 0) dX6_walk_37 (by decide) ?_
      refine pw_goto (tgt := 54) dX6_walk_38 (by decide) ?_
      refine px_istore (ls' := [some (.ref 227), some (.int (nI t)), some (.int z), some (.int (nI (8 * t + v))), some (.int (nI 0)), none]) dX6_walk_54 rfl rfl (by decide) ?_
      refine pw_aload_n dX6_walk_56 rfl ?_
      refine ps_getr (r := 244) dX6_walk_57 kf_X6_59 (by decide) (by decide +kernel) ?_
      refine pw_iload_n dX6_walk_60 rfl ?_
      refine ps_iald (j := t) (x := nI v) dX6_walk_61 rfl (ok_ar (n := 6) (by decide +kernel) (by omega)) j2 ?_
      refine pw_if_ne (tgt := 69) dX6_walk_62 (by decide) (fun h9 => absurd (by rw [hv0]; exact nI_0) h9) (fun _ => ?_)
      refine pw_iconst_ (v := nI 0) dX6_walk_65 (by decide) ?_
      refine pw_goto (tgt := 82) dX6_walk_66 (by decide) ?_
      refine px_istore (ls' := [some (.ref 227), some (.int (nI t)), some (.int z), some (.int (nI (8 * t + v))), some (.int (nI 0)), some (.int (nI 0))]) dX6_walk_82 rfl rfl (by decide) ?_
      have ex : pvx a t v = 0 := if_pos hv0
      have ey : pvy a t v = 0 := if_pos hv0
      rw [ex, ey] at tail
      exact tail
    · have hz0 : ∀ n, n ≤ 8 → (nI n = 0 ↔ n = 0) := by decide
      have hvn : ¬ nI v = 0 := fun q => hv0 ((hz0 _ (by omega)).mp q)
      refine pw_if_ne (tgt := 41) dX6_walk_34 (by decide) (fun _ => ?_) (fun h9 => absurd h9 hvn)
      obtain ⟨u, hu⟩ : ∃ u, v = u + 1 := ⟨v - 1, by omega⟩
      have p7 := trv_lt hw ht (v := u) (by omega)
      have ex : pvx a t v = px a (trv a t u) := by unfold pvx; rw [if_neg hv0, hu]; rfl
      have ey : pvy a t v = py a (trv a t u) := by unfold pvy; rw [if_neg hv0, hu]; rfl
      refine pw_aload_n dX6_walk_41 rfl ?_
      refine pw_aload_n dX6_walk_42 rfl ?_
      refine ps_getr (r := 238) dX6_walk_43 kf_X6_41 (by decide) (by decide +kernel) ?_
      refine pw_iload_n dX6_walk_46 rfl ?_
      refine pw_iconst_ (v := nI 1) dX6_walk_47 (by decide) ?_
      refine pn_isub (by omega) dX6_walk_48 ?_
      rw [show 8 * t + v - 1 = 8 * t + u by omega]
      refine ps_iald (j := 8 * t + u) (x := nI (trv a t u)) dX6_walk_49 rfl (ok_ar (n := 48) (by decide +kernel) (by omega)) (j4 u (by omega)) ?_
      refine pw_iconst_ (v := nI 0) dX6_walk_50 (by decide) ?_
      refine ps_callV (b := 227) (As := [.int (nI (trv a t u)), .int (nI 0)]) (st := []) dX6_walk_51 cv_X6_89 rfl ⟨by decide, by decide +kernel⟩ (Nat.le_of_ble_eq_true rfl) (Nat.le_of_ble_eq_true rfl) ?_
      refine m_of (p := trv a t u) (w := 0) (by omega) (hR _ (by omega)) ?_
      rw [show 4 + 4 * trv a t u + 0 = 4 + 4 * trv a t u by omega]
      show PS l E D cA mX6_walk (d + 1) fin 54 [some (.ref 227), some (.int (nI t)), some (.int z), some (.int (nI (8 * t + v))), none, none] [.int (nI (px a (trv a t u)))] μ
      refine px_istore (ls' := [some (.ref 227), some (.int (nI t)), some (.int z), some (.int (nI (8 * t + v))), some (.int (nI (px a (trv a t u)))), none]) dX6_walk_54 rfl rfl (by decide) ?_
      refine pw_aload_n dX6_walk_56 rfl ?_
      refine ps_getr (r := 244) dX6_walk_57 kf_X6_59 (by decide) (by decide +kernel) ?_
      refine pw_iload_n dX6_walk_60 rfl ?_
      refine ps_iald (j := t) (x := nI v) dX6_walk_61 rfl (ok_ar (n := 6) (by decide +kernel) (by omega)) j2 ?_
      refine pw_if_ne (tgt := 69) dX6_walk_62 (by decide) (fun _ => ?_) (fun h9 => absurd h9 hvn)
      refine pw_aload_n dX6_walk_69 rfl ?_
      refine pw_aload_n dX6_walk_70 rfl ?_
      refine ps_getr (r := 238) dX6_walk_71 kf_X6_41 (by decide) (by decide +kernel) ?_
      refine pw_iload_n dX6_walk_74 rfl ?_
      refine pw_iconst_ (v := nI 1) dX6_walk_75 (by decide) ?_
      refine pn_isub (by omega) dX6_walk_76 ?_
      rw [show 8 * t + v - 1 = 8 * t + u by omega]
      refine ps_iald (j := 8 * t + u) (x := nI (trv a t u)) dX6_walk_77 rfl (ok_ar (n := 48) (by decide +kernel) (by omega)) (j4 u (by omega)) ?_
      refine pw_iconst_ (v := nI 1) dX6_walk_78 (by decide) ?_
      refine ps_callV (b := 227) (As := [.int (nI (trv a t u)), .int (nI 1)]) (st := []) dX6_walk_79 cv_X6_89 rfl ⟨by decide, by decide +kernel⟩ (Nat.le_of_ble_eq_true rfl) (Nat.le_of_ble_eq_true rfl) ?_
      refine m_of (p := trv a t u) (w := 1) (by omega) (hR _ (by omega)) ?_
      rw [show 4 + 4 * trv a t u + 1 = 5 + 4 * trv a t u by omega]
      show PS l E D cA mX6_walk (d + 1) fin 82 [some (.ref 227), some (.int (nI t)), some (.int z), some (.int (nI (8 * t + v))), some (.int (nI (px a (trv a t u)))), none] [.int (nI (py a (trv a t u)))] μ
      refine px_istore (ls' := [some (.ref 227), some (.int (nI t)), some (.int z), some (.int (nI (8 * t + v))), some (.int (nI (px a (trv a t u)))), some (.int (nI (py a (trv a t u))))]) dX6_walk_82 rfl rfl (by decide) ?_
      rw [ex, ey] at tail
      exact tail
  · exact ps_ret dX6_walk_27 rfl (hf μ (fun h => absurd h (by omega)) (fun _ _ _ => rfl))
end MODM
