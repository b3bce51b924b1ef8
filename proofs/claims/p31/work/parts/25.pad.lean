/-! told, where, winner; the pad -/
theorem wb_tb (n : Nat) : (lN n).toBitVec = BitVec.ofNat 64 n := rfl
theorem wb_inj {a b : Int64} (h : a.toBitVec = b.toBitVec) : a = b := Int64.toBitVec_inj.mp h
theorem wb_tn {n : Nat} (h : n < 2 ^ 64) : (lN n).toBitVec.toNat = n := by rw [wb_tb, BitVec.toNat_ofNat, Nat.mod_eq_of_lt h]
theorem wb_of (x : Int64) : ∃ n, n < 2 ^ 64 ∧ x = lN n := ⟨x.toBitVec.toNat, x.toBitVec.isLt, wb_inj (by rw [wb_tb]; simp)⟩
theorem wb_of32 (x : Int32) : ∃ n, n < 2 ^ 32 ∧ x = nI n := ⟨x.toBitVec.toNat, x.toBitVec.isLt, Int32.toBitVec_inj.mp (by show _ = BitVec.ofNat 32 _; simp)⟩
theorem wb_c : ∀ k, k < 64 → ((nI k).toInt64 &&& 63) = lN k := by decide +kernel
theorem wb_cu : ∀ k, k < 64 → ((nI k).toInt64.toUInt64 &&& Int64.toUInt64 63) = UInt64.ofNat k := by decide +kernel
theorem wb_sm : ∀ k, k < 64 → (BitVec.ofNat 64 k).smod 64 = BitVec.ofNat 64 k := by decide +kernel
theorem wb_pw {a b : Nat} (h : a ≤ b) : 2 ^ b = 2 ^ a * 2 ^ (b - a) := by rw [← Nat.pow_add]; congr 1; omega
theorem wb_lt2 {a b : Nat} (h : a < b) : 2 ^ a < 2 ^ b := Nat.pow_lt_pow_right (by decide) h
theorem wb_mod (n : Nat) : lN n = lN (n % 2 ^ 64) := wb_inj (by rw [wb_tb, wb_tb]; apply BitVec.eq_of_toNat_eq; rw [BitVec.toNat_ofNat, BitVec.toNat_ofNat, Nat.mod_mod])
theorem wb_shr {n k : Nat} (hn : n < 2 ^ 64) (hk : k < 64) : ((lN n).toUInt64 >>> ((nI k).toInt64.toUInt64 &&& Int64.toUInt64 63)).toInt64 = lN (n / 2 ^ k) := by
  rw [wb_cu k hk]
  apply wb_inj
  apply BitVec.eq_of_toNat_eq
  show ((lN n).toUInt64 >>> UInt64.ofNat k).toNat = (BitVec.ofNat 64 _).toNat
  have h1 : (UInt64.ofNat k).toNat = k := by
    show (BitVec.ofNat 64 k).toNat = k
    rw [BitVec.toNat_ofNat, Nat.mod_eq_of_lt (by omega)]
  have h2 : (lN n).toUInt64.toNat = n := wb_tn hn
  rw [UInt64.toNat_shiftRight, h1, h2, Nat.mod_eq_of_lt hk, Nat.shiftRight_eq_div_pow, BitVec.toNat_ofNat, Nat.mod_eq_of_lt (Nat.lt_of_le_of_lt (Nat.div_le_self _ _) hn)]
theorem wb_shl (n : Nat) {k : Nat} (hk : k < 64) : lN n <<< ((nI k).toInt64 &&& 63) = lN (n * 2 ^ k) := by
  rw [wb_c k hk]
  apply wb_inj
  rw [Int64.toBitVec_shiftLeft, wb_tb, wb_tb, wb_tb, wb_sm k hk]
  apply BitVec.eq_of_toNat_eq
  rw [BitVec.shiftLeft_eq', BitVec.toNat_shiftLeft, BitVec.toNat_ofNat, BitVec.toNat_ofNat, BitVec.toNat_ofNat, Nat.mod_eq_of_lt (show k < 2 ^ 64 by omega), Nat.shiftLeft_eq, Nat.mul_mod, Nat.mod_mod, ← Nat.mul_mod]
theorem wb_and {a b : Nat} (ha : a < 2 ^ 64) (hb : b < 2 ^ 64) : lN a &&& lN b = lN (a &&& b) := by
  apply wb_inj
  rw [Int64.toBitVec_and, wb_tb, wb_tb, wb_tb]
  apply BitVec.eq_of_toNat_eq
  rw [BitVec.toNat_and, BitVec.toNat_ofNat, BitVec.toNat_ofNat, BitVec.toNat_ofNat, Nat.mod_eq_of_lt ha, Nat.mod_eq_of_lt hb, Nat.mod_eq_of_lt (Nat.and_lt_two_pow _ hb)]
theorem wb_or {a b : Nat} (ha : a < 2 ^ 64) (hb : b < 2 ^ 64) : lN a ||| lN b = lN (a ||| b) := by
  apply wb_inj
  rw [Int64.toBitVec_or, wb_tb, wb_tb, wb_tb]
  apply BitVec.eq_of_toNat_eq
  rw [BitVec.toNat_or, BitVec.toNat_ofNat, BitVec.toNat_ofNat, BitVec.toNat_ofNat, Nat.mod_eq_of_lt ha, Nat.mod_eq_of_lt hb, Nat.mod_eq_of_lt (Nat.or_lt_two_pow ha hb)]
theorem wb_mask {n k : Nat} (hn : n < 2 ^ 64) (hk : k < 64) : lN n &&& lN (2 ^ k - 1) = lN (n % 2 ^ k) := by
  rw [wb_and hn (by have := wb_lt2 hk; omega), Nat.and_two_pow_sub_one_eq_mod]
theorem wb_a1 {n : Nat} (hn : n < 2 ^ 64) : lN n &&& 1 = lN (n % 2) := wb_mask (k := 1) hn (by decide)
theorem wb_bit {n k : Nat} (hn : n < 2 ^ 64) (hk : k < 64) : ((lN n).toUInt64 >>> ((nI k).toInt64.toUInt64 &&& Int64.toUInt64 63)).toInt64 &&& 1 = lN (n / 2 ^ k % 2) := by
  rw [wb_shr hn hk, wb_a1 (Nat.lt_of_le_of_lt (Nat.div_le_self _ _) hn)]
theorem cm_min : Cond.static Lib.Math.min.name ∈ TB ∧ Cond.initialized "java/lang/Math" ∈ TB ∧ Cond.code Lib.Math.min.name Lib.Math.min.code 2 (some .int) ∈ TB := ⟨(tb_t 505 (by decide +kernel) rfl), (tb_t 9 (by decide +kernel) rfl), (tb_t 506 (by decide +kernel) rfl)⟩
section PSX2
variable {l : Launch} {E : EV} {D : va_G} {cA : Nat → ClassId} {N Z : Nat} {X : MT} {d : Nat} {fin : Option Value → List PE → Prop} {pc : Nat} {ls : List (Option Value)} {st : List Value} {M : List PE}
theorem pw_mmin {idx : Nat} {x y : Int32} (hd : decode X.2.2.1 pc = .ok (.invokestatic idx, 3)) (hl : Cond.methodLink X.1 idx Lib.Math.min.name ∈ TB) (hN : M.length ≤ N) (hZ : kv_sum M ≤ Z) (hw : (st.map fun v => v.category).sum ≤ 8) (kk : PW l E D cA N Z X (d + 1) fin (pc + 3) ls (.int (if y < x then y else x) :: st) M) : PW l E D cA N Z X (d + 1) fin pc ls (.int y :: .int x :: st) M := by
  intro p e R s m args below meth c Q n0 z0 H locs cells slots la B P
  have hcat : (((st.map (kv_v E)).map fun v => v.category).sum) ≤ 8 := by rw [List.map_map, show ((fun v : Value => v.category) ∘ kv_v E) = (fun v => v.category) from funext fun v => kv_cat E v]; exact hw
  have h1 := B.2.2.2.1
  have h2 := B.2.2.2.2.1
  have h3 := B.2.2.2.2.2.1
  have h4 := B.2.2.2.2.2.2.1
  have h5 := P.2.2.2.1
  have h6 := P.2.2.2.2
  exact va_mmin B.1.1 B.1.2.1 (B.1.2.2.1.trans P.2.2.1.1.symm) B.1.2.2.2.1 (B.1.2.2.2.2.1 _ hl) (B.1.2.2.2.2.1 _ cm_min.1) (B.1.2.2.2.2.1 _ cm_min.2.1) (B.1.2.2.2.2.1 _ cm_min.2.2) (by omega) (by omega) (by omega) (by omega) hd (by first | exact kk B P | (have h9 := kk B P; simpa using h9))
theorem px_iremn {a b : Nat} (hd : decode X.2.2.1 pc = .ok (.irem, 1)) (ha : a < 2 ^ 31) (h0 : 0 < b) (hb : b < 2 ^ 31) (kk : PW l E D cA N Z X d fin (pc + 1) ls (.int (nI (a % b)) :: st) M) : PW l E D cA N Z X d fin pc ls (.int (nI b) :: .int (nI a) :: st) M :=
  pw_irem hd (fun h => absurd h (nI_ne0 h0 hb)) (by rw [pk_rem ha h0 hb]; exact kk)
end PSX2
/-! longs of eight characters -/
theorem lcmp0 {U : Nat} (h : U < 2 ^ 64) : lg_cmp (lN U) 0 = 0 ↔ U = 0 := by
  have e : lN U = 0 ↔ U = 0 := by
    constructor
    · intro q
      have h1 : (lN U).toBitVec.toNat = (0 : Int64).toBitVec.toNat := congrArg (fun x : Int64 => x.toBitVec.toNat) q
      rw [wb_tn h] at h1
      exact h1
    · rintro rfl
      rfl
  unfold lg_cmp
  by_cases h1 : lN U > 0
  · rw [if_pos h1]
    have : U ≠ 0 := by
      rintro rfl
      exact absurd h1 (by decide)
    simp [this]
  · rw [if_neg h1]
    by_cases h2 : lN U = 0
    · rw [if_pos h2]
      simp [e.mp h2]
    · rw [if_neg h2]
      have : U ≠ 0 := fun q => h2 (e.mpr q)
      simp [this]
theorem l255 {U : Nat} (h : U < 2 ^ 64) : lN U &&& 255 = lN (U % 256) := wb_mask (k := 8) h (by decide)
/-- the character i from the last one on -/
def byt (U i : Nat) : Nat := U / 256 ^ i % 256
def okb (x : Nat) : Bool := decide (33 ≤ x ∧ x ≤ 126)
def loR (U : Nat) : Nat → Nat → Nat
  | 0, i => i
  | f + 1, i => if U / 256 ^ i = 0 then i else if okb (byt U i) = true then loR U f (i + 1) else 0
def loU (U : Nat) : Nat := loR U 8 0
theorem okb_kb (x : Nat) (hx : x < 256) : (¬ nI x < nI 33 ∧ ¬ nI 126 < nI x) ↔ okb x = true := by
  rw [nI_ltI (by omega) (by omega), nI_ltI (by omega) (by omega)]
  simp only [okb, decide_eq_true_eq]
  omega
/-! the pad: a text -/
def fmk (pd : Nat → Nat) : Nat → Nat
  | 0 => 0
  | i + 1 => if i % 2 = 0 then fmk pd i + 2 ^ (pd i - 97) else fmk pd i
def okc (pd : Nat → Nat) (i : Nat) : Bool := if i % 2 = 0 then decide (97 ≤ pd i ∧ pd i ≤ 104 ∧ fmk pd i / 2 ^ (pd i - 97) % 2 ≠ 1) else decide (pd i = 62 ∧ fmk pd i ≠ 255)
def ffp (pd : Nat → Nat) (ln : Nat) : Option Nat := match fstN (fun i => !okc pd i) ln with
  | some i => some i
  | none => if ln % 2 = 0 then some ln else none
def eF : Option Nat → Int32
  | none => -100006
  | some i => nI i
/-- the Pad holds ln codes pd -/
def RP (μ : Mu) (pd : Nat → Nat) (ln : Nat) : Prop := μ 77 1 = nI ln ∧ ln ≤ 20 ∧ ∀ k, k < ln → μ 78 k = nI (pd k) ∧ 33 ≤ pd k ∧ pd k ≤ 126
section PAD
variable {l : Launch} {E : EY} {D : va_G} {cA : Nat → ClassId} {fin : Option Value → Mu → Prop} {μ : Mu} {d : Nat}
set_option maxRecDepth 100000 in
set_option maxHeartbeats 4000000 in
theorem c_placeWithTeam {n : Nat} {a : AS} (hw : Wf a) (hna : n ≤ a 3) (hP : PX μ a n) {t m : Nat} (ht : t < n) (hm : m < 2 ^ 31) (hf : fin (some (.int (eP a t (whr a n t m)))) μ) : PS l E D cA mX0_placeWithTeam (d + 1) fin 0 [some (.ref 37), some (.int (nI t)), some (.int (nI m)), none] [] μ := by
  have hn6 : n ≤ 6 := Nat.le_trans hna hw.2.2.2.1
  have hPt := hP.t hw hna ht
  refine pw_iconst_ (v := nI 0) dX0_placeWithTeam_0 (by decide) ?_
  refine px_istore_n (ls' := [some (.ref 37), some (.int (nI t)), some (.int (nI m)), some (.int (nI 0))]) dX0_placeWithTeam_1 rfl rfl (by decide) ?_
  have lp : ∀ i : Nat, i ≤ tl a t → ((∀ v, v < i → ¬ (CM a n t v ≤ m ∧ m < EN a n t v)) → PS l E D cA mX0_placeWithTeam (d + 1) fin 2 [some (.ref 37), some (.int (nI t)), some (.int (nI m)), some (.int (nI i))] [] μ) := by
    refine ps_for _ ?_ ?_
    · intro hN
      refine pw_iload_n dX0_placeWithTeam_2 rfl ?_
      refine pw_aload_n dX0_placeWithTeam_3 rfl ?_
      refine ps_getr (r := 38) dX0_placeWithTeam_4 kf_X0_9 (by decide) (by decide +kernel) ?_
      refine pw_iload_n dX0_placeWithTeam_7 rfl ?_
      refine ps_iald (j := t) (x := nI (tl a t)) dX0_placeWithTeam_8 rfl (ok_ar (n := 6) (by decide +kernel) (by omega)) (hP.t hw hna ht).1 ?_
      refine pn_ge (tgt := 37) dX0_placeWithTeam_9 (by decide) (by omega) (by omega) (fun _ => ?_) (fun h9 => absurd h9 (by omega))
      refine pw_ldc dX0_placeWithTeam_37 kc_X0_129 ?_
      exact ps_iret dX0_placeWithTeam_39 rfl (rfl) (by rw [show whr a n t m = none from fstN_none.mpr (fun v hv => by simpa using hN v hv)] at hf; exact hf)
    · intro i hv ih hN
      refine pw_iload_n dX0_placeWithTeam_2 rfl ?_
      refine pw_aload_n dX0_placeWithTeam_3 rfl ?_
      refine ps_getr (r := 38) dX0_placeWithTeam_4 kf_X0_9 (by decide) (by decide +kernel) ?_
      refine pw_iload_n dX0_placeWithTeam_7 rfl ?_
      refine ps_iald (j := t) (x := nI (tl a t)) dX0_placeWithTeam_8 rfl (ok_ar (n := 6) (by decide +kernel) (by omega)) (hP.t hw hna ht).1 ?_
      refine pn_ge (tgt := 37) dX0_placeWithTeam_9 (by decide) (by omega) (by omega) (fun h9 => absurd h9 (by omega)) (fun _ => ?_)
      refine pw_aload_n dX0_placeWithTeam_12 rfl ?_
      refine pw_iload_n dX0_placeWithTeam_13 rfl ?_
      refine pw_iload_n dX0_placeWithTeam_14 rfl ?_
      refine pw_iload_n dX0_placeWithTeam_15 rfl ?_
      refine ps_callV (b := 37) (As := [.int (nI t), .int (nI i), .int (nI m)]) (st := []) dX0_placeWithTeam_16 cv_X0_125 rfl ⟨by decide, by decide +kernel⟩ (Nat.le_of_ble_eq_true rfl) (Nat.le_of_ble_eq_true rfl) ?_
      refine c_isThere hw hna hP ht hv hm ?_
      show PS l E D cA mX0_placeWithTeam (d + 1) fin 19 [some (.ref 37), some (.int (nI t)), some (.int (nI m)), some (.int (nI i))] [.int (kb (CM a n t i ≤ m ∧ m < EN a n t i))] μ
      by_cases hc : CM a n t i ≤ m ∧ m < EN a n t i
      · rw [kb_t hc]
        refine pw_if_eq (tgt := 31) dX0_placeWithTeam_19 (by decide) (fun h9 => absurd h9 nI1_ne) (fun _ => ?_)
        refine pw_aload_n dX0_placeWithTeam_22 rfl ?_
        refine ps_getr (r := 39) dX0_placeWithTeam_23 kf_X0_17 (by decide) (by decide +kernel) ?_
        refine pw_iload_n dX0_placeWithTeam_26 rfl ?_
        refine ps_aald (t := 3) (j := t) (r := 40 + t) dX0_placeWithTeam_27 rfl (ok_g (b := 39) (by decide) (by omega)) (by decide) ?_
        refine pw_iload_n dX0_placeWithTeam_28 rfl ?_
        refine ps_iald (j := i) (x := nI (trv a t i)) dX0_placeWithTeam_29 rfl (ok_ar (n := 8) (ok_gr (b := 39) (by decide) (by omega)) (by omega)) (hP.v hw hna ht hv).1.1 ?_
        exact ps_iret dX0_placeWithTeam_30 rfl (rfl) (by rw [show whr a n t m = some i from fstN_some.mpr ⟨hv, by simpa using hc, fun v h9 => by simpa using hN v h9⟩] at hf; exact hf)
      · rw [kb_f hc]
        refine pw_if_eq (tgt := 31) dX0_placeWithTeam_19 (by decide) (fun _ => ?_) (fun h9 => absurd h9 (fun q => q nI_0))
        refine px_iincn (n := 1) (a := i) (b := i + 1) (ls' := [some (.ref 37), some (.int (nI t)), some (.int (nI m)), some (.int (nI (i + 1)))]) dX0_placeWithTeam_31 rfl rfl rfl (by omega) ?_
        refine pw_goto (tgt := 2) dX0_placeWithTeam_34 (by decide) ?_
        exact ih (fun v h9 => by
          rcases Nat.lt_or_eq_of_le (Nat.le_of_lt_succ h9) with h | rfl
          · exact hN v h
          · exact hc)
  exact lp 0 (Nat.zero_le _) (fun v hv => absurd hv (Nat.not_lt_zero _))
set_option maxRecDepth 100000 in
set_option maxHeartbeats 4000000 in
theorem c_placeToldTo {n : Nat} {a : AS} (hw : Wf a) (hna : n ≤ a 3) (hP : PX μ a n) {s : Nat} (hs : isS s) (hst : μ 37 0 = nI s) (hR : RS μ s a) {t m : Nat} (ht : t < n) (hm : m < 2 ^ 31) (hf : fin (some (.int (eP a t (tld a n t m)))) μ) : PS l E D cA mX0_placeToldTo d fin 0 [some (.ref 37), some (.int (nI t)), some (.int (nI m)), none] [] μ := by
  have hn6 : n ≤ 6 := Nat.le_trans hna hw.2.2.2.1
  have hPt := hP.t hw hna ht
  have hs9 := isS_odd hs
  have hs31 : s < 2 ^ 31 := by omega
  have hT := hR.2.2.2.2 t (by omega)
  have hwt := hw.2.2.2.2.2 t (by omega)
  refine pw_iload_n dX0_placeToldTo_0 rfl ?_
  refine pw_aload_n dX0_placeToldTo_1 rfl ?_
  refine ps_getd (r := s) dX0_placeToldTo_2 kf_X0_41 (by decide) (by decide +kernel) hs31 hst ?_
  refine ps_getr (r := s + 5) dX0_placeToldTo_5 kf_X0_59 (by decide) ((ok_S hs).2.2.2.2.2.1) ?_
  refine pw_iload_n dX0_placeToldTo_8 rfl ?_
  refine ps_aald (t := 5) (j := t) (r := s + 6 + 2 * t) dX0_placeToldTo_9 rfl (ok_T hs (by omega)).1 (by decide) ?_
  refine ps_geti (x := nI (a (36 + 12 * t))) dX0_placeToldTo_10 kf_X0_65 (by decide) ((ok_T hs (by omega)).2.2.2.1) (hT.2.1) ?_
  refine pn_ge (tgt := 19) dX0_placeToldTo_13 (by decide) (by omega) (by omega) (fun h0 => ?_) (fun h0 => ?_)
  · have htl : tld a n t m = fstN (fun v => decide (m < EN a n t v)) (tl a t) := if_neg (by omega)
    refine pw_iconst_ (v := nI 0) dX0_placeToldTo_19 (by decide) ?_
    refine px_istore_n (ls' := [some (.ref 37), some (.int (nI t)), some (.int (nI m)), some (.int (nI 0))]) dX0_placeToldTo_20 rfl rfl (by decide) ?_
    have lp : ∀ i : Nat, i ≤ tl a t → ((∀ v, v < i → ¬ m < EN a n t v) → PS l E D cA mX0_placeToldTo d fin 21 [some (.ref 37), some (.int (nI t)), some (.int (nI m)), some (.int (nI i))] [] μ) := by
      refine ps_for _ ?_ ?_
      · intro hN
        refine pw_iload_n dX0_placeToldTo_21 rfl ?_
        refine pw_aload_n dX0_placeToldTo_22 rfl ?_
        refine ps_getr (r := 38) dX0_placeToldTo_23 kf_X0_9 (by decide) (by decide +kernel) ?_
        refine pw_iload_n dX0_placeToldTo_26 rfl ?_
        refine ps_iald (j := t) (x := nI (tl a t)) dX0_placeToldTo_27 rfl (ok_ar (n := 6) (by decide +kernel) (by omega)) (hP.t hw hna ht).1 ?_
        refine pn_ge (tgt := 58) dX0_placeToldTo_28 (by decide) (by omega) (by omega) (fun _ => ?_) (fun h9 => absurd h9 (by omega))
        refine pw_ldc dX0_placeToldTo_58 kc_X0_129 ?_
        exact ps_iret dX0_placeToldTo_60 rfl (rfl) (by rw [htl, show fstN (fun v => decide (m < EN a n t v)) (tl a t) = none from fstN_none.mpr (fun v hv => by simpa using hN v hv)] at hf; exact hf)
      · intro i hv ih hN
        have hV := hP.v hw hna ht hv
        refine pw_iload_n dX0_placeToldTo_21 rfl ?_
        refine pw_aload_n dX0_placeToldTo_22 rfl ?_
        refine ps_getr (r := 38) dX0_placeToldTo_23 kf_X0_9 (by decide) (by decide +kernel) ?_
        refine pw_iload_n dX0_placeToldTo_26 rfl ?_
        refine ps_iald (j := t) (x := nI (tl a t)) dX0_placeToldTo_27 rfl (ok_ar (n := 6) (by decide +kernel) (by omega)) (hP.t hw hna ht).1 ?_
        refine pn_ge (tgt := 58) dX0_placeToldTo_28 (by decide) (by omega) (by omega) (fun h9 => absurd h9 (by omega)) (fun _ => ?_)
        refine pw_iload_n dX0_placeToldTo_31 rfl ?_
        refine pw_aload_n dX0_placeToldTo_32 rfl ?_
        refine ps_getr (r := 67) dX0_placeToldTo_33 kf_X0_29 (by decide) (by decide +kernel) ?_
        refine pw_iload_n dX0_placeToldTo_36 rfl ?_
        refine ps_aald (t := 3) (j := t) (r := 68 + t) dX0_placeToldTo_37 rfl (ok_g (b := 67) (by decide) (by omega)) (by decide) ?_
        refine pw_iload_n dX0_placeToldTo_38 rfl ?_
        refine ps_iald (j := i) (x := nI (EN a n t i)) dX0_placeToldTo_39 rfl (ok_ar (n := 8) (ok_gr (b := 67) (by decide) (by omega)) (by omega)) (hP.v hw hna ht hv).2.2.2.2.1 ?_
        refine pn_ge (tgt := 52) dX0_placeToldTo_40 (by decide) (by omega) (by omega) (fun hc => ?_) (fun hc => ?_)
        · refine px_iincn (n := 1) (a := i) (b := i + 1) (ls' := [some (.ref 37), some (.int (nI t)), some (.int (nI m)), some (.int (nI (i + 1)))]) dX0_placeToldTo_52 rfl rfl rfl (by omega) ?_
          refine pw_goto (tgt := 21) dX0_placeToldTo_55 (by decide) ?_
          exact ih (fun v h9 => by
            rcases Nat.lt_or_eq_of_le (Nat.le_of_lt_succ h9) with h | rfl
            · exact hN v h
            · omega)
        · refine pw_aload_n dX0_placeToldTo_43 rfl ?_
          refine ps_getr (r := 39) dX0_placeToldTo_44 kf_X0_17 (by decide) (by decide +kernel) ?_
          refine pw_iload_n dX0_placeToldTo_47 rfl ?_
          refine ps_aald (t := 3) (j := t) (r := 40 + t) dX0_placeToldTo_48 rfl (ok_g (b := 39) (by decide) (by omega)) (by decide) ?_
          refine pw_iload_n dX0_placeToldTo_49 rfl ?_
          refine ps_iald (j := i) (x := nI (trv a t i)) dX0_placeToldTo_50 rfl (ok_ar (n := 8) (ok_gr (b := 39) (by decide) (by omega)) (by omega)) (hP.v hw hna ht hv).1.1 ?_
          exact ps_iret dX0_placeToldTo_51 rfl (rfl) (by rw [htl, show fstN (fun v => decide (m < EN a n t v)) (tl a t) = some i from fstN_some.mpr ⟨hv, by simpa using hc, fun v h9 => by simpa using hN v h9⟩] at hf; exact hf)
    exact lp 0 (Nat.zero_le _) (fun v hv => absurd hv (Nat.not_lt_zero _))
  · refine pw_ldc dX0_placeToldTo_16 kc_X0_129 ?_
    exact ps_iret dX0_placeToldTo_18 rfl (rfl) (by rw [show tld a n t m = none from if_pos (by omega)] at hf; exact hf)
theorem wnp_lt {a : AS} {n : Nat} : ∀ {i b : Nat}, wnp a n i = some b → b < i
  | 0, b, h => by cases h
  | i + 1, b, h => by
    unfold wnp at h
    split at h
    · cases h
      exact Nat.lt_succ_self _
    · next c hc =>
      have := wnp_lt hc
      split at h
      · cases h
        exact Nat.lt_succ_self _
      · cases h
        omega
set_option maxRecDepth 100000 in
set_option maxHeartbeats 4000000 in
theorem c_winner {n : Nat} {a : AS} (hw : Wf a) (hna : n ≤ a 3) (hP : PX μ a n) {s : Nat} (hs : isS s) (hst : μ 37 0 = nI s) (hR : RS μ s a) (hf : fin (some (.int (eF (wnp a n n)))) μ) : PS l E D cA mX0_winner (d + 4) fin 0 [some (.ref 37), none, none] [] μ := by
  have hn6 : n ≤ 6 := Nat.le_trans hna hw.2.2.2.1
  refine pw_iconst_ (v := (-1)) dX0_winner_0 (by decide) ?_
  refine px_istore_n (ls' := [some (.ref 37), some (.int (-1)), none]) dX0_winner_1 rfl rfl (by decide) ?_
  refine pw_iconst_ (v := nI 0) dX0_winner_2 (by decide) ?_
  refine px_istore_n (ls' := [some (.ref 37), some (.int (-1)), some (.int (nI 0))]) dX0_winner_3 rfl rfl (by decide) ?_
  have lp : ∀ i : Nat, i ≤ n → PS l E D cA mX0_winner (d + 4) fin 4 [some (.ref 37), some (.int (eN (wnp a n i))), some (.int (nI i))] [] μ := by
    refine ps_for _ ?_ ?_
    · skip
      refine pw_iload_n dX0_winner_4 rfl ?_
      refine pw_aload_n dX0_winner_5 rfl ?_
      refine ps_geti (x := nI n) dX0_winner_6 kf_X0_45 (by decide) (by decide +kernel) (hP.2) ?_
      refine pn_ge (tgt := 34) dX0_winner_9 (by decide) (by omega) (by omega) (fun _ => ?_) (fun h9 => absurd h9 (by omega))
      cases hN : wnp a n n with
      | none =>
        show PS l E D cA mX0_winner (d + 4) fin 34 [some (.ref 37), some (.int (-1)), some (.int (nI n))] [] μ
        refine pw_iload_n dX0_winner_34 rfl ?_
        refine pw_iconst_ (v := (-1)) dX0_winner_35 (by decide) ?_
        refine pw_icmp_ne (tgt := 44) dX0_winner_36 (by decide) (fun h9 => absurd rfl h9) (fun _ => ?_)
        refine pw_ldc dX0_winner_39 kc_X0_129 ?_
        refine pw_goto (tgt := 45) dX0_winner_41 (by decide) ?_
        exact ps_iret dX0_winner_45 rfl (rfl) (by rw [hN] at hf; exact hf)
      | some b =>
        have hb := wnp_lt hN
        show PS l E D cA mX0_winner (d + 4) fin 34 [some (.ref 37), some (.int (nI b)), some (.int (nI n))] [] μ
        refine pw_iload_n dX0_winner_34 rfl ?_
        refine pw_iconst_ (v := (-1)) dX0_winner_35 (by decide) ?_
        refine pw_icmp_ne (tgt := 44) dX0_winner_36 (by decide) (fun _ => ?_) (fun h9 => absurd h9 (nI_nm1 (by omega)))
        refine pw_iload_n dX0_winner_44 rfl ?_
        exact ps_iret dX0_winner_45 rfl (rfl) (by rw [hN] at hf; exact hf)
    · intro i hi ih
      refine pw_iload_n dX0_winner_4 rfl ?_
      refine pw_aload_n dX0_winner_5 rfl ?_
      refine ps_geti (x := nI n) dX0_winner_6 kf_X0_45 (by decide) (by decide +kernel) (hP.2) ?_
      refine pn_ge (tgt := 34) dX0_winner_9 (by decide) (by omega) (by omega) (fun h9 => absurd h9 (by omega)) (fun _ => ?_)
      cases hN : wnp a n i with
      | none =>
        rw [show wnp a n (i + 1) = some i by rw [wnp, hN]] at ih
        show PS l E D cA mX0_winner (d + 4) fin 12 [some (.ref 37), some (.int (-1)), some (.int (nI i))] [] μ
        refine pw_iload_n dX0_winner_12 rfl ?_
        refine pw_iconst_ (v := (-1)) dX0_winner_13 (by decide) ?_
        refine pw_icmp_eq (tgt := 26) dX0_winner_14 (by decide) (fun _ => ?_) (fun h9 => absurd rfl h9)
        refine pw_iload_n dX0_winner_26 rfl ?_
        refine px_istore_n (ls' := [some (.ref 37), some (.int (nI i)), some (.int (nI i))]) dX0_winner_27 rfl rfl (by decide) ?_
        refine px_iincn (n := 1) (a := i) (b := i + 1) (ls' := [some (.ref 37), some (.int (nI i)), some (.int (nI (i + 1)))]) dX0_winner_28 rfl rfl rfl (by omega) ?_
        refine pw_goto (tgt := 4) dX0_winner_31 (by decide) ?_
        exact ih
      | some b =>
        have hb := wnp_lt hN
        have e9 : wnp a n (i + 1) = if ah a n i b = true then some i else some b := by rw [wnp, hN]
        show PS l E D cA mX0_winner (d + 4) fin 12 [some (.ref 37), some (.int (nI b)), some (.int (nI i))] [] μ
        refine pw_iload_n dX0_winner_12 rfl ?_
        refine pw_iconst_ (v := (-1)) dX0_winner_13 (by decide) ?_
        refine pw_icmp_eq (tgt := 26) dX0_winner_14 (by decide) (fun h9 => absurd h9 (nI_nm1 (by omega))) (fun _ => ?_)
        refine pw_aload_n dX0_winner_17 rfl ?_
        refine pw_iload_n dX0_winner_18 rfl ?_
        refine pw_iload_n dX0_winner_19 rfl ?_
        refine ps_callV (b := 37) (As := [.int (nI i), .int (nI b)]) (st := []) dX0_winner_20 cv_X0_118 rfl ⟨by decide, by decide +kernel⟩ (Nat.le_of_ble_eq_true rfl) (Nat.le_of_ble_eq_true rfl) ?_
        refine c_isAhead hw hna hP hs hst hR hi (by omega) ?_
        show PS l E D cA mX0_winner (d + 4) fin 23 [some (.ref 37), some (.int (nI b)), some (.int (nI i))] [.int (kb (ah a n i b = true))] μ
        by_cases hc : ah a n i b = true
        · rw [kb_t hc]
          refine pw_if_eq (tgt := 28) dX0_winner_23 (by decide) (fun h9 => absurd h9 nI1_ne) (fun _ => ?_)
          refine pw_iload_n dX0_winner_26 rfl ?_
          refine px_istore_n (ls' := [some (.ref 37), some (.int (nI i)), some (.int (nI i))]) dX0_winner_27 rfl rfl (by decide) ?_
          refine px_iincn (n := 1) (a := i) (b := i + 1) (ls' := [some (.ref 37), some (.int (nI i)), some (.int (nI (i + 1)))]) dX0_winner_28 rfl rfl rfl (by omega) ?_
          refine pw_goto (tgt := 4) dX0_winner_31 (by decide) ?_
          rw [e9, if_pos hc] at ih
          exact ih
        · rw [kb_f hc]
          refine pw_if_eq (tgt := 28) dX0_winner_23 (by decide) (fun _ => ?_) (fun h9 => absurd h9 (fun q => q nI_0))
          refine px_iincn (n := 1) (a := i) (b := i + 1) (ls' := [some (.ref 37), some (.int (nI b)), some (.int (nI (i + 1)))]) dX0_winner_28 rfl rfl rfl (by omega) ?_
          refine pw_goto (tgt := 4) dX0_winner_31 (by decide) ?_
          rw [e9, if_neg hc] at ih
          exact ih
  exact lp 0 (Nat.zero_le _)
set_option maxRecDepth 100000 in
set_option maxHeartbeats 4000000 in
theorem c_lengthOf {U : Nat} (hU : U < 2 ^ 64) (hf : fin (some (.int (nI (loU U)))) μ) : PS l E D cA mX2_lengthOf (d + 1) fin 0 [some (.long (lN U)), none, none, none, none, none] [] μ := by
  refine pw_iconst_ (v := nI 0) dX2_lengthOf_0 (by decide) ?_
  refine px_istore_n (ls' := [some (.long (lN U)), none, some (.int (nI 0)), none, none, none]) dX2_lengthOf_1 rfl rfl (by decide) ?_
  refine pw_lload_n dX2_lengthOf_2 rfl ?_
  refine px_lstore_n (ls' := [some (.long (lN U)), none, some (.int (nI 0)), some (.long (lN U)), none, none]) dX2_lengthOf_3 rfl rfl (by decide) ?_
  have lp : ∀ i : Nat, i ≤ 8 → ∀ l5 : Option Value, (fin (some (.int (nI (loR U (8 - i) i)))) μ) → PS l E D cA mX2_lengthOf (d + 1) fin 4 [some (.long (lN U)), none, some (.int (nI i)), some (.long (lN (U / 256 ^ i))), none, l5] [] μ := by
    refine ps_for _ ?_ ?_
    · intro l5 hf
      refine pw_lload_n dX2_lengthOf_4 rfl ?_
      refine pw_lconst (v := 0) dX2_lengthOf_5 (by decide) ?_
      refine pw_lcmp dX2_lengthOf_6 ?_
      have hUi : U / 256 ^ 8 < 2 ^ 64 := Nat.lt_of_le_of_lt (Nat.div_le_self _ _) hU
      refine pw_if_eq (tgt := 49) dX2_lengthOf_7 (by decide) (fun h9 => ?_) (fun h9 => ?_)
      · refine pw_iload_n dX2_lengthOf_49 rfl ?_
        exact ps_iret dX2_lengthOf_50 rfl (rfl) hf
      · refine pw_iload_n dX2_lengthOf_10 rfl ?_
        refine pw_bipush (v := nI 8) dX2_lengthOf_11 (by decide) ?_
        refine pn_ge (tgt := 49) dX2_lengthOf_13 (by decide) (by omega) (by omega) (fun _ => ?_) (fun h9 => absurd h9 (by omega))
        refine pw_iload_n dX2_lengthOf_49 rfl ?_
        exact ps_iret dX2_lengthOf_50 rfl (rfl) hf
    · intro i hi ih l5 hf
      obtain ⟨f, hf8⟩ : ∃ f, 8 - i = f + 1 := ⟨7 - i, by omega⟩
      rw [hf8, loR] at hf
      refine pw_lload_n dX2_lengthOf_4 rfl ?_
      refine pw_lconst (v := 0) dX2_lengthOf_5 (by decide) ?_
      refine pw_lcmp dX2_lengthOf_6 ?_
      have hUi : U / 256 ^ i < 2 ^ 64 := Nat.lt_of_le_of_lt (Nat.div_le_self _ _) hU
      refine pw_if_eq (tgt := 49) dX2_lengthOf_7 (by decide) (fun h9 => ?_) (fun h9 => ?_)
      · rw [if_pos ((lcmp0 hUi).mp h9)] at hf
        refine pw_iload_n dX2_lengthOf_49 rfl ?_
        exact ps_iret dX2_lengthOf_50 rfl (rfl) hf
      · rw [if_neg (fun q => h9 ((lcmp0 hUi).mpr q))] at hf
        refine pw_iload_n dX2_lengthOf_10 rfl ?_
        refine pw_bipush (v := nI 8) dX2_lengthOf_11 (by decide) ?_
        refine pn_ge (tgt := 49) dX2_lengthOf_13 (by decide) (by omega) (by omega) (fun h9 => absurd h9 (by omega)) (fun _ => ?_)
        refine pw_lload_n dX2_lengthOf_16 rfl ?_
        refine pw_ldc2_w dX2_lengthOf_17 kl_X2_15 ?_
        refine pw_land dX2_lengthOf_20 ?_
        rw [l255 hUi]
        show PS l E D cA mX2_lengthOf (d + 1) fin 21 [some (.long (lN U)), none, some (.int (nI i)), some (.long (lN (U / 256 ^ i))), none, l5] [.long (lN (byt U i))] μ
        refine pw_l2i (v := nI (byt U i)) dX2_lengthOf_21 (lN_i _) ?_
        have hb8 : byt U i < 256 := Nat.mod_lt _ (by decide)
        refine px_istore (ls' := [some (.long (lN U)), none, some (.int (nI i)), some (.long (lN (U / 256 ^ i))), none, some (.int (nI (byt U i)))]) dX2_lengthOf_22 rfl rfl (by decide) ?_
        refine pw_iload dX2_lengthOf_24 rfl ?_
        refine pw_bipush (v := nI 33) dX2_lengthOf_26 (by decide) ?_
        refine pw_bipush (v := nI 126) dX2_lengthOf_28 (by decide) ?_
        refine ps_callSN (As := [.int (nI (byt U i)), .int (nI 33), .int (nI 126)]) (st := []) (host := RX5) dX2_lengthOf_30 yy_X5_isFrom (by simp [kv_NW]) st_isFrom rfl (Nat.le_of_ble_eq_true rfl) (Nat.le_of_ble_eq_true rfl) ?_
        refine c_isFrom ?_
        show PS l E D cA mX2_lengthOf (d + 1) fin 33 [some (.long (lN U)), none, some (.int (nI i)), some (.long (lN (U / 256 ^ i))), none, some (.int (nI (byt U i)))] [.int (kb (¬ nI (byt U i) < nI 33 ∧ ¬ nI 126 < nI (byt U i)))] μ
        by_cases hc : okb (byt U i) = true
        · rw [kb_t ((okb_kb _ hb8).mpr hc)]
          rw [if_pos hc] at hf
          refine pw_if_ne (tgt := 38) dX2_lengthOf_33 (by decide) (fun _ => ?_) (fun h9 => absurd h9 nI1_ne)
          refine pw_lload_n dX2_lengthOf_38 rfl ?_
          refine pw_bipush (v := nI 8) dX2_lengthOf_39 (by decide) ?_
          refine pw_lushr dX2_lengthOf_41 rfl ?_
          rw [wb_shr hUi (by decide : 8 < 64), Nat.div_div_eq_div_mul, show 256 ^ i * 2 ^ 8 = 256 ^ (i + 1) from rfl]
          refine px_lstore_n (ls' := [some (.long (lN U)), none, some (.int (nI i)), some (.long (lN (U / 256 ^ (i + 1)))), none, some (.int (nI (byt U i)))]) dX2_lengthOf_42 rfl rfl (by decide) ?_
          refine px_iincn (n := 1) (a := i) (b := i + 1) (ls' := [some (.long (lN U)), none, some (.int (nI (i + 1))), some (.long (lN (U / 256 ^ (i + 1)))), none, some (.int (nI (byt U i)))]) dX2_lengthOf_43 rfl rfl rfl (by omega) ?_
          refine pw_goto (tgt := 4) dX2_lengthOf_46 (by decide) ?_
          exact ih _ (by rw [show 8 - (i + 1) = f by omega]; exact hf)
        · rw [kb_f (fun q => hc ((okb_kb _ hb8).mp q))]
          rw [if_neg hc] at hf
          refine pw_if_ne (tgt := 38) dX2_lengthOf_33 (by decide) (fun h9 => absurd nI_0 h9) (fun _ => ?_)
          refine pw_iconst_ (v := nI 0) dX2_lengthOf_36 (by decide) ?_
          exact ps_iret dX2_lengthOf_37 rfl (rfl) hf
  have h9 := lp 0 (Nat.zero_le _) none hf
  rw [Nat.pow_zero, Nat.div_one] at h9
  exact h9
end PAD
