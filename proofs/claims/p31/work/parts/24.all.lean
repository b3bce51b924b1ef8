/-! what comes of the game: ranks, places, all teams -/
theorem sub2_toInt {x y w : Nat} (hx : x < 2 ^ 28) (hy : y < 2 ^ 28) (hw : w < 2 ^ 28) : (nI x - nI y - nI w).toInt = (x : Int) - y - w := by
  rw [Int32.toInt_sub, pk_sub_toInt (by omega) (by omega), nI_toInt (by omega)]
  unfold Int.bmod
  dsimp only
  split <;> omega
theorem pt_int {a : AS} (hw : Wf a) {n t : Nat} (ht : t < a 3) (ho : OV a n t ≤ 10520) : (pt a n t).toInt = pz a n t := by
  have h1 := tl_le hw ht
  have h2 := hd_le a t (tl a t)
  have h3 : a 1 * tl a t ≤ 500 * 8 := Nat.mul_le_mul hw.2.1 h1
  have h4 : a 0 * hd a t (tl a t) ≤ 50 * 8 := Nat.mul_le_mul hw.1 (by omega)
  exact sub2_toInt (by omega) (by omega) (by omega)
/-- is u ahead of t? -/
def ah (a : AS) (n u t : Nat) : Bool := decide (pz a n t < pz a n u ∨ (pz a n u = pz a n t ∧ (OV a n u < OV a n t ∨ (OV a n u = OV a n t ∧ u < t))))
def rk (a : AS) (n t : Nat) : Nat := cntN (fun u => ah a n u t) n
def wnp (a : AS) (n : Nat) : Nat → Option Nat
  | 0 => none
  | i + 1 => match wnp a n i with
    | none => some i
    | some b => if ah a n i b = true then some i else some b
def cntR (p : Nat → Bool) (lo hi : Nat) : Nat := cntN (fun j => decide (lo ≤ j) && p j) hi
def prs (f : Nat → Nat → Bool) (m n : Nat) : Nat := smN (fun i => cntR (f i) (i + 1) n) m
def msk (p : Nat → Bool) (n : Nat) : Nat := smN (fun u => if p u = true then 2 ^ u else 0) n
def metp (a : AS) (n t u : Nat) : Bool := !(u == t) && mt a n t u
def qat (a : AS) (n p t : Nat) : Nat := match vis a t p with
  | some v => BG a n t v - CM a n t v
  | none => 0
def thr (a : AS) (n p m u : Nat) : Bool := match vis a u p with
  | some w => decide (CM a n u w ≤ m ∧ m < EN a n u w)
  | none => false
def mo (a : AS) (n p : Nat) : Nat → Nat
  | 0 => 0
  | t + 1 => match vis a t p with
    | some v => if mo a n p t < cntN (thr a n p (CM a n t v)) n then cntN (thr a n p (CM a n t v)) n else mo a n p t
    | none => mo a n p t
def lse (a : AS) (n : Nat) : Nat → Nat
  | 0 => 0
  | t + 1 => if lse a n t < OV a n t then OV a n t else lse a n t
def psm (a : AS) (n : Nat) : Nat → Int32
  | 0 => nI 0
  | t + 1 => psm a n t + pt a n t
def eP (a : AS) (t : Nat) : Option Nat → Int32
  | none => -100006
  | some v => nI (trv a t v)
def whr (a : AS) (n t m : Nat) : Option Nat := fstN (fun v => decide (CM a n t v ≤ m ∧ m < EN a n t v)) (tl a t)
def tld (a : AS) (n t m : Nat) : Option Nat := if m < a (36 + 12 * t) then none else fstN (fun v => decide (m < EN a n t v)) (tl a t)
theorem msk_s {p : Nat → Bool} {n : Nat} : msk p (n + 1) = msk p n + (if p n = true then 2 ^ n else 0) := rfl
theorem msk_f {p : Nat → Bool} {n : Nat} (h : ¬ p n = true) : msk p (n + 1) = msk p n := by rw [msk_s, if_neg h]; rfl
theorem msk_lt {p : Nat → Bool} : ∀ n, msk p n < 2 ^ n
  | 0 => by simp [msk, smN]
  | n + 1 => by
    have h := msk_lt (p := p) n
    rw [msk_s, Nat.pow_succ]
    split <;> omega
theorem or_bit : ∀ u, u < 6 → ∀ m, m < 64 → m < 2 ^ u → nI m ||| (nI 1 <<< (nI u &&& 31)) = nI (m + 2 ^ u) := by decide +kernel
theorem or_msk {p : Nat → Bool} {u : Nat} (hu : u < 6) (hp : p u = true) : nI (msk p u) ||| (nI 1 <<< (nI u &&& 31)) = nI (msk p (u + 1)) := by
  have h1 := msk_lt (p := p) u
  have h2 : 2 ^ u ≤ 2 ^ 6 := Nat.pow_le_pow_right (by decide) (by omega)
  rw [or_bit u hu _ (by omega) h1]
  rw [msk_s, if_pos hp]
theorem cntR_0 {p : Nat → Bool} {lo : Nat} : ∀ {hi : Nat}, hi ≤ lo → cntR p lo hi = 0
  | 0, _ => rfl
  | hi + 1, h => by
    show cntR p lo hi + _ = 0
    rw [cntR_0 (by omega), if_neg (by simp; omega)]
theorem cntR_s {p : Nat → Bool} {lo hi : Nat} (h : lo ≤ hi) : cntR p lo (hi + 1) = cntR p lo hi + (if p hi = true then 1 else 0) := by
  show cntR p lo hi + _ = _
  simp [h]
theorem cntR_le {p : Nat → Bool} {lo hi : Nat} : cntR p lo hi ≤ hi := cntN_le hi
theorem prs_le {f : Nat → Nat → Bool} {m n : Nat} : prs f m n ≤ m * n := smN_le (fun i _ => cntR_le)
theorem prs_sym {f : Nat → Nat → Bool} (hs : ∀ i j, f i j = f j i) : ∀ n, prs f n n = smN (fun t => cntN (f t) t) n
  | 0 => rfl
  | n + 1 => by
    have ih := prs_sym hs n
    have key : ∀ m, m ≤ n → prs f m (n + 1) = prs f m n + cntN (f n) m := by
      intro m
      induction m with
      | zero => intro _; rfl
      | succ m ihm =>
        intro hm
        show prs f m (n + 1) + cntR (f m) (m + 1) (n + 1) = (prs f m n + cntR (f m) (m + 1) n) + (cntN (f n) m + _)
        rw [ihm (by omega), cntR_s (by omega), hs m n]
        omega
    show prs f n (n + 1) + cntR (f n) (n + 1) (n + 1) = smN _ n + cntN (f n) n
    rw [cntR_0 (Nat.le_refl _), key n (Nat.le_refl _), ih]
    rfl
section ALL
variable {l : Launch} {E : EY} {D : va_G} {cA : Nat → ClassId} {fin : Option Value → Mu → Prop} {μ : Mu} {d : Nat}
set_option maxRecDepth 100000 in
set_option maxHeartbeats 4000000 in
theorem c_isAhead {n : Nat} {a : AS} (hw : Wf a) (hna : n ≤ a 3) (hP : PX μ a n) {s : Nat} (hs : isS s) (hst : μ 37 0 = nI s) (hR : RS μ s a) {t u : Nat} (ht : t < n) (hu : u < n) (hf : fin (some (.int (kb (ah a n t u = true)))) μ) : PS l E D cA mX0_isAhead (d + 3) fin 0 [some (.ref 37), some (.int (nI t)), some (.int (nI u)), none, none] [] μ := by
  have hn6 : n ≤ 6 := Nat.le_trans hna hw.2.2.2.1
  have hPt := hP.t hw hna ht
  have hPu := hP.t hw hna hu
  have e1 := pt_int hw (n := n) (t := t) (by omega) hPt.2.2.2.1
  have e2 := pt_int hw (n := n) (t := u) (by omega) hPu.2.2.2.1
  refine pw_aload_n dX0_isAhead_0 rfl ?_
  refine pw_iload_n dX0_isAhead_1 rfl ?_
  refine ps_callV (b := 37) (As := [.int (nI t)]) (st := []) dX0_isAhead_2 cv_X0_122 rfl ⟨by decide, by decide +kernel⟩ (Nat.le_of_ble_eq_true rfl) (Nat.le_of_ble_eq_true rfl) ?_
  refine c_pointsOf hw hna hP ht hs hst hR ?_
  show PS l E D cA mX0_isAhead (d + 3) fin 5 [some (.ref 37), some (.int (nI t)), some (.int (nI u)), none, none] [.int (pt a n t)] μ
  refine px_istore_n (ls' := [some (.ref 37), some (.int (nI t)), some (.int (nI u)), some (.int (pt a n t)), none]) dX0_isAhead_5 rfl rfl (by decide) ?_
  refine pw_aload_n dX0_isAhead_6 rfl ?_
  refine pw_iload_n dX0_isAhead_7 rfl ?_
  refine ps_callV (b := 37) (As := [.int (nI u)]) (st := []) dX0_isAhead_8 cv_X0_122 rfl ⟨by decide, by decide +kernel⟩ (Nat.le_of_ble_eq_true rfl) (Nat.le_of_ble_eq_true rfl) ?_
  refine c_pointsOf hw hna hP hu hs hst hR ?_
  show PS l E D cA mX0_isAhead (d + 3) fin 11 [some (.ref 37), some (.int (nI t)), some (.int (nI u)), some (.int (pt a n t)), none] [.int (pt a n u)] μ
  refine px_istore (ls' := [some (.ref 37), some (.int (nI t)), some (.int (nI u)), some (.int (pt a n t)), some (.int (pt a n u))]) dX0_isAhead_11 rfl rfl (by decide) ?_
  refine pw_iload_n dX0_isAhead_13 rfl ?_
  refine pw_iload dX0_isAhead_14 rfl ?_
  refine pw_icmp_eq (tgt := 31) dX0_isAhead_16 (by decide) (fun h1 => ?_) (fun h1 => ?_)
  · have h1z : pz a n t = pz a n u := by rw [← e1, ← e2, h1]
    refine pw_aload_n dX0_isAhead_31 rfl ?_
    refine ps_getr (r := 75) dX0_isAhead_32 kf_X0_35 (by decide) (by decide +kernel) ?_
    refine pw_iload_n dX0_isAhead_35 rfl ?_
    refine ps_iald (j := t) (x := nI (OV a n t)) dX0_isAhead_36 rfl (ok_ar (n := 6) (by decide +kernel) (by omega)) (hP.t hw hna ht).2.2.1 ?_
    refine pw_aload_n dX0_isAhead_37 rfl ?_
    refine ps_getr (r := 75) dX0_isAhead_38 kf_X0_35 (by decide) (by decide +kernel) ?_
    refine pw_iload_n dX0_isAhead_41 rfl ?_
    refine ps_iald (j := u) (x := nI (OV a n u)) dX0_isAhead_42 rfl (ok_ar (n := 6) (by decide +kernel) (by omega)) (hP.t hw hna hu).2.2.1 ?_
    refine pn_eq (tgt := 67) dX0_isAhead_43 (by decide) (by omega) (by omega) (fun h2 => ?_) (fun h2 => ?_)
    · refine pw_iload_n dX0_isAhead_67 rfl ?_
      refine pw_iload_n dX0_isAhead_68 rfl ?_
      refine pn_ge (tgt := 76) dX0_isAhead_69 (by decide) (by omega) (by omega) (fun h3 => ?_) (fun h3 => ?_)
      · refine pw_iconst_ (v := nI 0) dX0_isAhead_76 (by decide) ?_
        exact ps_iret dX0_isAhead_77 rfl (by decide) (by rw [kb_f (by simp only [ah, decide_eq_true_eq]; omega)] at hf; exact hf)
      · refine pw_iconst_ (v := nI 1) dX0_isAhead_72 (by decide) ?_
        refine pw_goto (tgt := 77) dX0_isAhead_73 (by decide) ?_
        exact ps_iret dX0_isAhead_77 rfl (by decide) (by rw [kb_t (by simp only [ah, decide_eq_true_eq]; omega)] at hf; exact hf)
    · refine pw_aload_n dX0_isAhead_46 rfl ?_
      refine ps_getr (r := 75) dX0_isAhead_47 kf_X0_35 (by decide) (by decide +kernel) ?_
      refine pw_iload_n dX0_isAhead_50 rfl ?_
      refine ps_iald (j := t) (x := nI (OV a n t)) dX0_isAhead_51 rfl (ok_ar (n := 6) (by decide +kernel) (by omega)) (hP.t hw hna ht).2.2.1 ?_
      refine pw_aload_n dX0_isAhead_52 rfl ?_
      refine ps_getr (r := 75) dX0_isAhead_53 kf_X0_35 (by decide) (by decide +kernel) ?_
      refine pw_iload_n dX0_isAhead_56 rfl ?_
      refine ps_iald (j := u) (x := nI (OV a n u)) dX0_isAhead_57 rfl (ok_ar (n := 6) (by decide +kernel) (by omega)) (hP.t hw hna hu).2.2.1 ?_
      refine pn_ge (tgt := 65) dX0_isAhead_58 (by decide) (by omega) (by omega) (fun h3 => ?_) (fun h3 => ?_)
      · refine pw_iconst_ (v := nI 0) dX0_isAhead_65 (by decide) ?_
        exact ps_iret dX0_isAhead_66 rfl (by decide) (by rw [kb_f (by simp only [ah, decide_eq_true_eq]; omega)] at hf; exact hf)
      · refine pw_iconst_ (v := nI 1) dX0_isAhead_61 (by decide) ?_
        refine pw_goto (tgt := 66) dX0_isAhead_62 (by decide) ?_
        exact ps_iret dX0_isAhead_66 rfl (by decide) (by rw [kb_t (by simp only [ah, decide_eq_true_eq]; omega)] at hf; exact hf)
  · have h1z : ¬ pz a n t = pz a n u := fun q => h1 (Int32.toInt_inj.mp (by rw [e1, e2]; exact q))
    refine pw_iload_n dX0_isAhead_19 rfl ?_
    refine pw_iload dX0_isAhead_20 rfl ?_
    refine pw_icmp_le (tgt := 29) dX0_isAhead_22 (by decide) (fun h2 => ?_) (fun h2 => ?_)
    · refine pw_iconst_ (v := nI 0) dX0_isAhead_29 (by decide) ?_
      exact ps_iret dX0_isAhead_30 rfl (by decide) (by rw [kb_f (by have := Int32.le_iff_toInt_le.mp h2; rw [e1, e2] at this; simp only [ah, decide_eq_true_eq]; omega)] at hf; exact hf)
    · refine pw_iconst_ (v := nI 1) dX0_isAhead_25 (by decide) ?_
      refine pw_goto (tgt := 30) dX0_isAhead_26 (by decide) ?_
      exact ps_iret dX0_isAhead_30 rfl (by decide) (by rw [kb_t (by have h3 : ¬ (pt a n t).toInt ≤ (pt a n u).toInt := fun q => h2 (Int32.le_iff_toInt_le.mpr q); rw [e1, e2] at h3; simp only [ah, decide_eq_true_eq]; omega)] at hf; exact hf)
set_option maxRecDepth 100000 in
set_option maxHeartbeats 4000000 in
theorem c_rankOf {n : Nat} {a : AS} (hw : Wf a) (hna : n ≤ a 3) (hP : PX μ a n) {s : Nat} (hs : isS s) (hst : μ 37 0 = nI s) (hR : RS μ s a) {t : Nat} (ht : t < n) (hf : fin (some (.int (nI (rk a n t)))) μ) : PS l E D cA mX0_rankOf (d + 4) fin 0 [some (.ref 37), some (.int (nI t)), none, none] [] μ := by
  have hn6 : n ≤ 6 := Nat.le_trans hna hw.2.2.2.1
  refine pw_iconst_ (v := nI 0) dX0_rankOf_0 (by decide) ?_
  refine px_istore_n (ls' := [some (.ref 37), some (.int (nI t)), some (.int (nI 0)), none]) dX0_rankOf_1 rfl rfl (by decide) ?_
  refine pw_iconst_ (v := nI 0) dX0_rankOf_2 (by decide) ?_
  refine px_istore_n (ls' := [some (.ref 37), some (.int (nI t)), some (.int (nI 0)), some (.int (nI 0))]) dX0_rankOf_3 rfl rfl (by decide) ?_
  have lp : ∀ i : Nat, i ≤ n → PS l E D cA mX0_rankOf (d + 4) fin 4 [some (.ref 37), some (.int (nI t)), some (.int (nI (cntN (fun u => ah a n u t) i))), some (.int (nI i))] [] μ := by
    refine ps_for _ ?_ ?_
    · skip
      refine pw_iload_n dX0_rankOf_4 rfl ?_
      refine pw_aload_n dX0_rankOf_5 rfl ?_
      refine ps_geti (x := nI n) dX0_rankOf_6 kf_X0_45 (by decide) (by decide +kernel) (hP.2) ?_
      refine pn_ge (tgt := 30) dX0_rankOf_9 (by decide) (by omega) (by omega) (fun _ => ?_) (fun h9 => absurd h9 (by omega))
      refine pw_iload_n dX0_rankOf_30 rfl ?_
      exact ps_iret dX0_rankOf_31 rfl (rfl) hf
    · intro i hi ih
      have hPi := hP.t hw hna hi
      refine pw_iload_n dX0_rankOf_4 rfl ?_
      refine pw_aload_n dX0_rankOf_5 rfl ?_
      refine ps_geti (x := nI n) dX0_rankOf_6 kf_X0_45 (by decide) (by decide +kernel) (hP.2) ?_
      refine pn_ge (tgt := 30) dX0_rankOf_9 (by decide) (by omega) (by omega) (fun h9 => absurd h9 (by omega)) (fun _ => ?_)
      have hl9 := cntN_le (p := fun u => ah a n u t) i
      refine pw_aload_n dX0_rankOf_12 rfl ?_
      refine pw_iload_n dX0_rankOf_13 rfl ?_
      refine pw_iload_n dX0_rankOf_14 rfl ?_
      refine ps_callV (b := 37) (As := [.int (nI i), .int (nI t)]) (st := []) dX0_rankOf_15 cv_X0_118 rfl ⟨by decide, by decide +kernel⟩ (Nat.le_of_ble_eq_true rfl) (Nat.le_of_ble_eq_true rfl) ?_
      refine c_isAhead hw hna hP hs hst hR hi ht ?_
      show PS l E D cA mX0_rankOf (d + 4) fin 18 [some (.ref 37), some (.int (nI t)), some (.int (nI (cntN (fun u => ah a n u t) i))), some (.int (nI i))] [.int (kb (ah a n i t = true))] μ
      by_cases hc : ah a n i t = true
      · rw [kb_t hc]
        refine pw_if_eq (tgt := 24) dX0_rankOf_18 (by decide) (fun h9 => absurd h9 nI1_ne) (fun _ => ?_)
        refine px_iincn (n := 1) (a := cntN (fun u => ah a n u t) i) (b := cntN (fun u => ah a n u t) i + 1) (ls' := [some (.ref 37), some (.int (nI t)), some (.int (nI (cntN (fun u => ah a n u t) i + 1))), some (.int (nI i))]) dX0_rankOf_21 rfl rfl rfl (by omega) ?_
        refine px_iincn (n := 1) (a := i) (b := i + 1) (ls' := [some (.ref 37), some (.int (nI t)), some (.int (nI (cntN (fun u => ah a n u t) i + 1))), some (.int (nI (i + 1)))]) dX0_rankOf_24 rfl rfl rfl (by omega) ?_
        refine pw_goto (tgt := 4) dX0_rankOf_27 (by decide) ?_
        rw [show cntN (fun u => ah a n u t) i + 1 = cntN (fun u => ah a n u t) (i + 1) by show _ = _ + _; rw [if_pos hc]]
        exact ih
      · rw [kb_f hc]
        refine pw_if_eq (tgt := 24) dX0_rankOf_18 (by decide) (fun _ => ?_) (fun h9 => absurd h9 (fun q => q nI_0))
        refine px_iincn (n := 1) (a := i) (b := i + 1) (ls' := [some (.ref 37), some (.int (nI t)), some (.int (nI (cntN (fun u => ah a n u t) i))), some (.int (nI (i + 1)))]) dX0_rankOf_24 rfl rfl rfl (by omega) ?_
        refine pw_goto (tgt := 4) dX0_rankOf_27 (by decide) ?_
        rw [show cntN (fun u => ah a n u t) i = cntN (fun u => ah a n u t) (i + 1) by show _ = _ + _; rw [if_neg hc]; rfl]
        exact ih
  exact lp 0 (Nat.zero_le _)
set_option maxRecDepth 100000 in
set_option maxHeartbeats 4000000 in
theorem c_queueing {n : Nat} {a : AS} (hw : Wf a) (hna : n ≤ a 3) (hP : PX μ a n) (hf : fin (some (.int (nI (smN (fun t => qd a n t (tl a t)) n)))) μ) : PS l E D cA mX0_queueing (d + 1) fin 0 [some (.ref 37), none, none] [] μ := by
  have hn6 : n ≤ 6 := Nat.le_trans hna hw.2.2.2.1
  refine pw_iconst_ (v := nI 0) dX0_queueing_0 (by decide) ?_
  refine px_istore_n (ls' := [some (.ref 37), some (.int (nI 0)), none]) dX0_queueing_1 rfl rfl (by decide) ?_
  refine pw_iconst_ (v := nI 0) dX0_queueing_2 (by decide) ?_
  refine px_istore_n (ls' := [some (.ref 37), some (.int (nI 0)), some (.int (nI 0))]) dX0_queueing_3 rfl rfl (by decide) ?_
  have lp : ∀ i : Nat, i ≤ n → PS l E D cA mX0_queueing (d + 1) fin 4 [some (.ref 37), some (.int (nI (smN (fun t => qd a n t (tl a t)) i))), some (.int (nI i))] [] μ := by
    refine ps_for _ ?_ ?_
    · skip
      refine pw_iload_n dX0_queueing_4 rfl ?_
      refine pw_aload_n dX0_queueing_5 rfl ?_
      refine ps_geti (x := nI n) dX0_queueing_6 kf_X0_45 (by decide) (by decide +kernel) (hP.2) ?_
      refine pn_ge (tgt := 26) dX0_queueing_9 (by decide) (by omega) (by omega) (fun _ => ?_) (fun h9 => absurd h9 (by omega))
      refine pw_iload_n dX0_queueing_26 rfl ?_
      exact ps_iret dX0_queueing_27 rfl (rfl) hf
    · intro i hi ih
      have hPi := hP.t hw hna hi
      refine pw_iload_n dX0_queueing_4 rfl ?_
      refine pw_aload_n dX0_queueing_5 rfl ?_
      refine ps_geti (x := nI n) dX0_queueing_6 kf_X0_45 (by decide) (by decide +kernel) (hP.2) ?_
      refine pn_ge (tgt := 26) dX0_queueing_9 (by decide) (by omega) (by omega) (fun h9 => absurd h9 (by omega)) (fun _ => ?_)
      have hq1 : qd a n i (tl a i) ≤ 8 * 10520 := Nat.le_trans (smN_le (c := 10520) (fun v hv => by have := hP.v hw hna hi hv; omega)) (Nat.mul_le_mul_right _ hPi.2.1)
      refine pw_iload_n dX0_queueing_12 rfl ?_
      refine pw_aload_n dX0_queueing_13 rfl ?_
      refine pw_iload_n dX0_queueing_14 rfl ?_
      refine ps_callV (b := 37) (As := [.int (nI i)]) (st := [.int (nI (smN (fun t => qd a n t (tl a t)) i))]) dX0_queueing_15 cv_X0_142 rfl ⟨by decide, by decide +kernel⟩ (Nat.le_of_ble_eq_true rfl) (Nat.le_of_ble_eq_true rfl) ?_
      refine c_queueingOf hw hna hP hi ?_
      show PS l E D cA mX0_queueing (d + 1) fin 18 [some (.ref 37), some (.int (nI (smN (fun t => qd a n t (tl a t)) i))), some (.int (nI i))] [.int (nI (qd a n i (tl a i))), .int (nI (smN (fun t => qd a n t (tl a t)) i))] μ
      refine px_iaddn (c := smN (fun t => qd a n t (tl a t)) (i + 1)) dX0_queueing_18 rfl ?_
      refine px_istore_n (ls' := [some (.ref 37), some (.int (nI (smN (fun t => qd a n t (tl a t)) (i + 1)))), some (.int (nI i))]) dX0_queueing_19 rfl rfl (by decide) ?_
      refine px_iincn (n := 1) (a := i) (b := i + 1) (ls' := [some (.ref 37), some (.int (nI (smN (fun t => qd a n t (tl a t)) (i + 1)))), some (.int (nI (i + 1)))]) dX0_queueing_20 rfl rfl rfl (by omega) ?_
      refine pw_goto (tgt := 4) dX0_queueing_23 (by decide) ?_
      exact ih
  exact lp 0 (Nat.zero_le _)
set_option maxRecDepth 100000 in
set_option maxHeartbeats 4000000 in
theorem c_visits {n : Nat} {a : AS} (hw : Wf a) (hna : n ≤ a 3) (hP : PX μ a n) (hf : fin (some (.int (nI (smN (tl a) n)))) μ) : PS l E D cA mX0_visits d fin 0 [some (.ref 37), none, none] [] μ := by
  have hn6 : n ≤ 6 := Nat.le_trans hna hw.2.2.2.1
  refine pw_iconst_ (v := nI 0) dX0_visits_0 (by decide) ?_
  refine px_istore_n (ls' := [some (.ref 37), some (.int (nI 0)), none]) dX0_visits_1 rfl rfl (by decide) ?_
  refine pw_iconst_ (v := nI 0) dX0_visits_2 (by decide) ?_
  refine px_istore_n (ls' := [some (.ref 37), some (.int (nI 0)), some (.int (nI 0))]) dX0_visits_3 rfl rfl (by decide) ?_
  have lp : ∀ i : Nat, i ≤ n → PS l E D cA mX0_visits d fin 4 [some (.ref 37), some (.int (nI (smN (tl a) i))), some (.int (nI i))] [] μ := by
    refine ps_for _ ?_ ?_
    · skip
      refine pw_iload_n dX0_visits_4 rfl ?_
      refine pw_aload_n dX0_visits_5 rfl ?_
      refine ps_geti (x := nI n) dX0_visits_6 kf_X0_45 (by decide) (by decide +kernel) (hP.2) ?_
      refine pn_ge (tgt := 27) dX0_visits_9 (by decide) (by omega) (by omega) (fun _ => ?_) (fun h9 => absurd h9 (by omega))
      refine pw_iload_n dX0_visits_27 rfl ?_
      exact ps_iret dX0_visits_28 rfl (rfl) hf
    · intro i hi ih
      have hPi := hP.t hw hna hi
      refine pw_iload_n dX0_visits_4 rfl ?_
      refine pw_aload_n dX0_visits_5 rfl ?_
      refine ps_geti (x := nI n) dX0_visits_6 kf_X0_45 (by decide) (by decide +kernel) (hP.2) ?_
      refine pn_ge (tgt := 27) dX0_visits_9 (by decide) (by omega) (by omega) (fun h9 => absurd h9 (by omega)) (fun _ => ?_)
      refine pw_iload_n dX0_visits_12 rfl ?_
      refine pw_aload_n dX0_visits_13 rfl ?_
      refine ps_getr (r := 38) dX0_visits_14 kf_X0_9 (by decide) (by decide +kernel) ?_
      refine pw_iload_n dX0_visits_17 rfl ?_
      refine ps_iald (j := i) (x := nI (tl a i)) dX0_visits_18 rfl (ok_ar (n := 6) (by decide +kernel) (by omega)) (hP.t hw hna hi).1 ?_
      refine px_iaddn (c := smN (tl a) (i + 1)) dX0_visits_19 rfl ?_
      refine px_istore_n (ls' := [some (.ref 37), some (.int (nI (smN (tl a) (i + 1)))), some (.int (nI i))]) dX0_visits_20 rfl rfl (by decide) ?_
      refine px_iincn (n := 1) (a := i) (b := i + 1) (ls' := [some (.ref 37), some (.int (nI (smN (tl a) (i + 1)))), some (.int (nI (i + 1)))]) dX0_visits_21 rfl rfl rfl (by omega) ?_
      refine pw_goto (tgt := 4) dX0_visits_24 (by decide) ?_
      exact ih
  exact lp 0 (Nat.zero_le _)
theorem lse_le {a : AS} {n : Nat} (h : ∀ t, t < n → OV a n t ≤ 10520) : ∀ t, t ≤ n → lse a n t ≤ 10520
  | 0, _ => Nat.zero_le _
  | t + 1, ht => by
    have h1 := lse_le h t (by omega)
    have h2 := h t (by omega)
    unfold lse
    split <;> omega
set_option maxRecDepth 100000 in
set_option maxHeartbeats 4000000 in
theorem c_lastEnd {n : Nat} {a : AS} (hw : Wf a) (hna : n ≤ a 3) (hP : PX μ a n) (hf : fin (some (.int (nI (lse a n n)))) μ) : PS l E D cA mX0_lastEnd (d + 1) fin 0 [some (.ref 37), none, none] [] μ := by
  have hn6 : n ≤ 6 := Nat.le_trans hna hw.2.2.2.1
  refine pw_iconst_ (v := nI 0) dX0_lastEnd_0 (by decide) ?_
  refine px_istore_n (ls' := [some (.ref 37), some (.int (nI 0)), none]) dX0_lastEnd_1 rfl rfl (by decide) ?_
  refine pw_iconst_ (v := nI 0) dX0_lastEnd_2 (by decide) ?_
  refine px_istore_n (ls' := [some (.ref 37), some (.int (nI 0)), some (.int (nI 0))]) dX0_lastEnd_3 rfl rfl (by decide) ?_
  have lp : ∀ i : Nat, i ≤ n → PS l E D cA mX0_lastEnd (d + 1) fin 4 [some (.ref 37), some (.int (nI (lse a n i))), some (.int (nI i))] [] μ := by
    refine ps_for _ ?_ ?_
    · skip
      refine pw_iload_n dX0_lastEnd_4 rfl ?_
      refine pw_aload_n dX0_lastEnd_5 rfl ?_
      refine ps_geti (x := nI n) dX0_lastEnd_6 kf_X0_45 (by decide) (by decide +kernel) (hP.2) ?_
      refine pn_ge (tgt := 29) dX0_lastEnd_9 (by decide) (by omega) (by omega) (fun _ => ?_) (fun h9 => absurd h9 (by omega))
      refine pw_iload_n dX0_lastEnd_29 rfl ?_
      exact ps_iret dX0_lastEnd_30 rfl (rfl) hf
    · intro i hi ih
      have hPi := hP.t hw hna hi
      refine pw_iload_n dX0_lastEnd_4 rfl ?_
      refine pw_aload_n dX0_lastEnd_5 rfl ?_
      refine ps_geti (x := nI n) dX0_lastEnd_6 kf_X0_45 (by decide) (by decide +kernel) (hP.2) ?_
      refine pn_ge (tgt := 29) dX0_lastEnd_9 (by decide) (by omega) (by omega) (fun h9 => absurd h9 (by omega)) (fun _ => ?_)
      have hl9 := lse_le (a := a) (n := n) (fun t ht => (hP.t hw hna ht).2.2.2.1) i (by omega)
      refine pw_iload_n dX0_lastEnd_12 rfl ?_
      refine pw_aload_n dX0_lastEnd_13 rfl ?_
      refine ps_getr (r := 75) dX0_lastEnd_14 kf_X0_35 (by decide) (by decide +kernel) ?_
      refine pw_iload_n dX0_lastEnd_17 rfl ?_
      refine ps_iald (j := i) (x := nI (OV a n i)) dX0_lastEnd_18 rfl (ok_ar (n := 6) (by decide +kernel) (by omega)) (hP.t hw hna hi).2.2.1 ?_
      refine pw_mmax dX0_lastEnd_19 cm_X0_105 (by rw [emy_len]; exact Nat.le_refl _) (by rw [emy_sum]; exact Nat.le_refl _) (Nat.le_of_ble_eq_true rfl) ?_
      rw [max_nI (by omega) (by omega)]
      show PS l E D cA mX0_lastEnd (d + 1) fin 22 [some (.ref 37), some (.int (nI (lse a n i))), some (.int (nI i))] [.int (nI (lse a n (i + 1)))] μ
      refine px_istore_n (ls' := [some (.ref 37), some (.int (nI (lse a n (i + 1)))), some (.int (nI i))]) dX0_lastEnd_22 rfl rfl (by decide) ?_
      refine px_iincn (n := 1) (a := i) (b := i + 1) (ls' := [some (.ref 37), some (.int (nI (lse a n (i + 1)))), some (.int (nI (i + 1)))]) dX0_lastEnd_23 rfl rfl rfl (by omega) ?_
      refine pw_goto (tgt := 4) dX0_lastEnd_26 (by decide) ?_
      exact ih
  exact lp 0 (Nat.zero_le _)
set_option maxRecDepth 100000 in
set_option maxHeartbeats 4000000 in
theorem c_points {n : Nat} {a : AS} (hw : Wf a) (hna : n ≤ a 3) (hP : PX μ a n) {s : Nat} (hs : isS s) (hst : μ 37 0 = nI s) (hR : RS μ s a) (hf : fin (some (.int (psm a n n))) μ) : PS l E D cA mX0_points (d + 3) fin 0 [some (.ref 37), none, none] [] μ := by
  have hn6 : n ≤ 6 := Nat.le_trans hna hw.2.2.2.1
  refine pw_iconst_ (v := nI 0) dX0_points_0 (by decide) ?_
  refine px_istore_n (ls' := [some (.ref 37), some (.int (nI 0)), none]) dX0_points_1 rfl rfl (by decide) ?_
  refine pw_iconst_ (v := nI 0) dX0_points_2 (by decide) ?_
  refine px_istore_n (ls' := [some (.ref 37), some (.int (nI 0)), some (.int (nI 0))]) dX0_points_3 rfl rfl (by decide) ?_
  have lp : ∀ i : Nat, i ≤ n → PS l E D cA mX0_points (d + 3) fin 4 [some (.ref 37), some (.int (psm a n i)), some (.int (nI i))] [] μ := by
    refine ps_for _ ?_ ?_
    · skip
      refine pw_iload_n dX0_points_4 rfl ?_
      refine pw_aload_n dX0_points_5 rfl ?_
      refine ps_geti (x := nI n) dX0_points_6 kf_X0_45 (by decide) (by decide +kernel) (hP.2) ?_
      refine pn_ge (tgt := 26) dX0_points_9 (by decide) (by omega) (by omega) (fun _ => ?_) (fun h9 => absurd h9 (by omega))
      refine pw_iload_n dX0_points_26 rfl ?_
      exact ps_iret dX0_points_27 rfl (rfl) hf
    · intro i hi ih
      have hPi := hP.t hw hna hi
      refine pw_iload_n dX0_points_4 rfl ?_
      refine pw_aload_n dX0_points_5 rfl ?_
      refine ps_geti (x := nI n) dX0_points_6 kf_X0_45 (by decide) (by decide +kernel) (hP.2) ?_
      refine pn_ge (tgt := 26) dX0_points_9 (by decide) (by omega) (by omega) (fun h9 => absurd h9 (by omega)) (fun _ => ?_)
      refine pw_iload_n dX0_points_12 rfl ?_
      refine pw_aload_n dX0_points_13 rfl ?_
      refine pw_iload_n dX0_points_14 rfl ?_
      refine ps_callV (b := 37) (As := [.int (nI i)]) (st := [.int (psm a n i)]) dX0_points_15 cv_X0_122 rfl ⟨by decide, by decide +kernel⟩ (Nat.le_of_ble_eq_true rfl) (Nat.le_of_ble_eq_true rfl) ?_
      refine c_pointsOf hw hna hP hi hs hst hR ?_
      show PS l E D cA mX0_points (d + 3) fin 18 [some (.ref 37), some (.int (psm a n i)), some (.int (nI i))] [.int (pt a n i), .int (psm a n i)] μ
      refine pw_iadd dX0_points_18 ?_
      show PS l E D cA mX0_points (d + 3) fin 19 [some (.ref 37), some (.int (psm a n i)), some (.int (nI i))] [.int (psm a n (i + 1))] μ
      refine px_istore_n (ls' := [some (.ref 37), some (.int (psm a n (i + 1))), some (.int (nI i))]) dX0_points_19 rfl rfl (by decide) ?_
      refine px_iincn (n := 1) (a := i) (b := i + 1) (ls' := [some (.ref 37), some (.int (psm a n (i + 1))), some (.int (nI (i + 1)))]) dX0_points_20 rfl rfl rfl (by omega) ?_
      refine pw_goto (tgt := 4) dX0_points_23 (by decide) ?_
      exact ih
  exact lp 0 (Nat.zero_le _)
set_option maxRecDepth 100000 in
set_option maxHeartbeats 4000000 in
theorem c_teamsAt {n : Nat} {a : AS} (hw : Wf a) (hna : n ≤ a 3) (hP : PX μ a n) {p : Nat} (hp : p < 8) (hf : fin (some (.int (nI (msk (fun t => (vis a t p).isSome) n)))) μ) : PS l E D cA mX0_teamsAt (d + 1) fin 0 [some (.ref 37), some (.int (nI p)), none, none] [] μ := by
  have hn6 : n ≤ 6 := Nat.le_trans hna hw.2.2.2.1
  refine pw_iconst_ (v := nI 0) dX0_teamsAt_0 (by decide) ?_
  refine px_istore_n (ls' := [some (.ref 37), some (.int (nI p)), some (.int (nI 0)), none]) dX0_teamsAt_1 rfl rfl (by decide) ?_
  refine pw_iconst_ (v := nI 0) dX0_teamsAt_2 (by decide) ?_
  refine px_istore_n (ls' := [some (.ref 37), some (.int (nI p)), some (.int (nI 0)), some (.int (nI 0))]) dX0_teamsAt_3 rfl rfl (by decide) ?_
  have lp : ∀ i : Nat, i ≤ n → PS l E D cA mX0_teamsAt (d + 1) fin 4 [some (.ref 37), some (.int (nI p)), some (.int (nI (msk (fun t => (vis a t p).isSome) i))), some (.int (nI i))] [] μ := by
    refine ps_for _ ?_ ?_
    · skip
      refine pw_iload_n dX0_teamsAt_4 rfl ?_
      refine pw_aload_n dX0_teamsAt_5 rfl ?_
      refine ps_geti (x := nI n) dX0_teamsAt_6 kf_X0_45 (by decide) (by decide +kernel) (hP.2) ?_
      refine pn_ge (tgt := 34) dX0_teamsAt_9 (by decide) (by omega) (by omega) (fun _ => ?_) (fun h9 => absurd h9 (by omega))
      refine pw_iload_n dX0_teamsAt_34 rfl ?_
      exact ps_iret dX0_teamsAt_35 rfl (rfl) hf
    · intro i hi ih
      have hPi := hP.t hw hna hi
      refine pw_iload_n dX0_teamsAt_4 rfl ?_
      refine pw_aload_n dX0_teamsAt_5 rfl ?_
      refine ps_geti (x := nI n) dX0_teamsAt_6 kf_X0_45 (by decide) (by decide +kernel) (hP.2) ?_
      refine pn_ge (tgt := 34) dX0_teamsAt_9 (by decide) (by omega) (by omega) (fun h9 => absurd h9 (by omega)) (fun _ => ?_)
      refine pw_aload_n dX0_teamsAt_12 rfl ?_
      refine pw_iload_n dX0_teamsAt_13 rfl ?_
      refine pw_iload_n dX0_teamsAt_14 rfl ?_
      refine ps_callV (b := 37) (As := [.int (nI i), .int (nI p)]) (st := []) dX0_teamsAt_15 cv_X0_130 rfl ⟨by decide, by decide +kernel⟩ (Nat.le_of_ble_eq_true rfl) (Nat.le_of_ble_eq_true rfl) ?_
      refine c_visitAt hw hna hP hi hp ?_
      show PS l E D cA mX0_teamsAt (d + 1) fin 18 [some (.ref 37), some (.int (nI p)), some (.int (nI (msk (fun t => (vis a t p).isSome) i))), some (.int (nI i))] [.int (eN (vis a i p))] μ
      cases hv0 : vis a i p with
      | none =>
        show PS l E D cA mX0_teamsAt (d + 1) fin 18 [some (.ref 37), some (.int (nI p)), some (.int (nI (msk (fun t => (vis a t p).isSome) i))), some (.int (nI i))] [.int (-1)] μ
        refine pw_iconst_ (v := (-1)) dX0_teamsAt_18 (by decide) ?_
        refine pw_icmp_eq (tgt := 28) dX0_teamsAt_19 (by decide) (fun _ => ?_) (fun h9 => absurd rfl h9)
        refine px_iincn (n := 1) (a := i) (b := i + 1) (ls' := [some (.ref 37), some (.int (nI p)), some (.int (nI (msk (fun t => (vis a t p).isSome) i))), some (.int (nI (i + 1)))]) dX0_teamsAt_28 rfl rfl rfl (by omega) ?_
        refine pw_goto (tgt := 4) dX0_teamsAt_31 (by decide) ?_
        rw [show msk (fun t => (vis a t p).isSome) (i + 1) = msk (fun t => (vis a t p).isSome) i from msk_f (by simp [hv0])] at ih
        exact ih
      | some w =>
        have hw8 := (vis_some hv0).1
        show PS l E D cA mX0_teamsAt (d + 1) fin 18 [some (.ref 37), some (.int (nI p)), some (.int (nI (msk (fun t => (vis a t p).isSome) i))), some (.int (nI i))] [.int (nI w)] μ
        refine pw_iconst_ (v := (-1)) dX0_teamsAt_18 (by decide) ?_
        refine pw_icmp_eq (tgt := 28) dX0_teamsAt_19 (by decide) (fun h9 => absurd h9 (nI_nm1 (by omega))) (fun _ => ?_)
        refine pw_iload_n dX0_teamsAt_22 rfl ?_
        refine pw_iconst_ (v := nI 1) dX0_teamsAt_23 (by decide) ?_
        refine pw_iload_n dX0_teamsAt_24 rfl ?_
        refine pw_ishl dX0_teamsAt_25 ?_
        refine pw_ior dX0_teamsAt_26 ?_
        rw [or_msk (p := fun t => (vis a t p).isSome) (by omega) (by rw [hv0]; rfl)]
        refine px_istore_n (ls' := [some (.ref 37), some (.int (nI p)), some (.int (nI (msk (fun t => (vis a t p).isSome) (i + 1)))), some (.int (nI i))]) dX0_teamsAt_27 rfl rfl (by decide) ?_
        refine px_iincn (n := 1) (a := i) (b := i + 1) (ls' := [some (.ref 37), some (.int (nI p)), some (.int (nI (msk (fun t => (vis a t p).isSome) (i + 1)))), some (.int (nI (i + 1)))]) dX0_teamsAt_28 rfl rfl rfl (by omega) ?_
        refine pw_goto (tgt := 4) dX0_teamsAt_31 (by decide) ?_
        exact ih
  exact lp 0 (Nat.zero_le _)
set_option maxRecDepth 100000 in
set_option maxHeartbeats 4000000 in
theorem c_teamsMetBy {n : Nat} {a : AS} (hw : Wf a) (hna : n ≤ a 3) (hP : PX μ a n) {t : Nat} (ht : t < n) (hf : fin (some (.int (nI (msk (metp a n t) n)))) μ) : PS l E D cA mX0_teamsMetBy (d + 3) fin 0 [some (.ref 37), some (.int (nI t)), none, none] [] μ := by
  have hn6 : n ≤ 6 := Nat.le_trans hna hw.2.2.2.1
  refine pw_iconst_ (v := nI 0) dX0_teamsMetBy_0 (by decide) ?_
  refine px_istore_n (ls' := [some (.ref 37), some (.int (nI t)), some (.int (nI 0)), none]) dX0_teamsMetBy_1 rfl rfl (by decide) ?_
  refine pw_iconst_ (v := nI 0) dX0_teamsMetBy_2 (by decide) ?_
  refine px_istore_n (ls' := [some (.ref 37), some (.int (nI t)), some (.int (nI 0)), some (.int (nI 0))]) dX0_teamsMetBy_3 rfl rfl (by decide) ?_
  have lp : ∀ i : Nat, i ≤ n → PS l E D cA mX0_teamsMetBy (d + 3) fin 4 [some (.ref 37), some (.int (nI t)), some (.int (nI (msk (metp a n t) i))), some (.int (nI i))] [] μ := by
    refine ps_for _ ?_ ?_
    · skip
      refine pw_iload_n dX0_teamsMetBy_4 rfl ?_
      refine pw_aload_n dX0_teamsMetBy_5 rfl ?_
      refine ps_geti (x := nI n) dX0_teamsMetBy_6 kf_X0_45 (by decide) (by decide +kernel) (hP.2) ?_
      refine pn_ge (tgt := 38) dX0_teamsMetBy_9 (by decide) (by omega) (by omega) (fun _ => ?_) (fun h9 => absurd h9 (by omega))
      refine pw_iload_n dX0_teamsMetBy_38 rfl ?_
      exact ps_iret dX0_teamsMetBy_39 rfl (rfl) hf
    · intro i hi ih
      have hPi := hP.t hw hna hi
      refine pw_iload_n dX0_teamsMetBy_4 rfl ?_
      refine pw_aload_n dX0_teamsMetBy_5 rfl ?_
      refine ps_geti (x := nI n) dX0_teamsMetBy_6 kf_X0_45 (by decide) (by decide +kernel) (hP.2) ?_
      refine pn_ge (tgt := 38) dX0_teamsMetBy_9 (by decide) (by omega) (by omega) (fun h9 => absurd h9 (by omega)) (fun _ => ?_)
      refine pw_iload_n dX0_teamsMetBy_12 rfl ?_
      refine pw_iload_n dX0_teamsMetBy_13 rfl ?_
      refine pn_eq (tgt := 32) dX0_teamsMetBy_14 (by decide) (by omega) (by omega) (fun he => ?_) (fun he => ?_)
      · refine px_iincn (n := 1) (a := i) (b := i + 1) (ls' := [some (.ref 37), some (.int (nI t)), some (.int (nI (msk (metp a n t) i))), some (.int (nI (i + 1)))]) dX0_teamsMetBy_32 rfl rfl rfl (by omega) ?_
        refine pw_goto (tgt := 4) dX0_teamsMetBy_35 (by decide) ?_
        rw [show msk (metp a n t) (i + 1) = msk (metp a n t) i from msk_f (by simp [metp, he])] at ih
        exact ih
      · refine pw_aload_n dX0_teamsMetBy_17 rfl ?_
        refine pw_iload_n dX0_teamsMetBy_18 rfl ?_
        refine pw_iload_n dX0_teamsMetBy_19 rfl ?_
        refine ps_callV (b := 37) (As := [.int (nI t), .int (nI i)]) (st := []) dX0_teamsMetBy_20 cv_X0_136 rfl ⟨by decide, by decide +kernel⟩ (Nat.le_of_ble_eq_true rfl) (Nat.le_of_ble_eq_true rfl) ?_
        refine c_meet hw hna hP ht hi ?_
        show PS l E D cA mX0_teamsMetBy (d + 3) fin 23 [some (.ref 37), some (.int (nI t)), some (.int (nI (msk (metp a n t) i))), some (.int (nI i))] [.int (kb (mt a n t i = true))] μ
        by_cases hc : mt a n t i = true
        · rw [kb_t hc]
          refine pw_if_eq (tgt := 32) dX0_teamsMetBy_23 (by decide) (fun h9 => absurd h9 nI1_ne) (fun _ => ?_)
          refine pw_iload_n dX0_teamsMetBy_26 rfl ?_
          refine pw_iconst_ (v := nI 1) dX0_teamsMetBy_27 (by decide) ?_
          refine pw_iload_n dX0_teamsMetBy_28 rfl ?_
          refine pw_ishl dX0_teamsMetBy_29 ?_
          refine pw_ior dX0_teamsMetBy_30 ?_
          rw [or_msk (p := metp a n t) (by omega) (by simp [metp, he, hc])]
          refine px_istore_n (ls' := [some (.ref 37), some (.int (nI t)), some (.int (nI (msk (metp a n t) (i + 1)))), some (.int (nI i))]) dX0_teamsMetBy_31 rfl rfl (by decide) ?_
          refine px_iincn (n := 1) (a := i) (b := i + 1) (ls' := [some (.ref 37), some (.int (nI t)), some (.int (nI (msk (metp a n t) (i + 1)))), some (.int (nI (i + 1)))]) dX0_teamsMetBy_32 rfl rfl rfl (by omega) ?_
          refine pw_goto (tgt := 4) dX0_teamsMetBy_35 (by decide) ?_
          exact ih
        · rw [kb_f hc]
          refine pw_if_eq (tgt := 32) dX0_teamsMetBy_23 (by decide) (fun _ => ?_) (fun h9 => absurd h9 (fun q => q nI_0))
          refine px_iincn (n := 1) (a := i) (b := i + 1) (ls' := [some (.ref 37), some (.int (nI t)), some (.int (nI (msk (metp a n t) i))), some (.int (nI (i + 1)))]) dX0_teamsMetBy_32 rfl rfl rfl (by omega) ?_
          refine pw_goto (tgt := 4) dX0_teamsMetBy_35 (by decide) ?_
          rw [show msk (metp a n t) (i + 1) = msk (metp a n t) i from msk_f (by simp [metp, hc])] at ih
          exact ih
  exact lp 0 (Nat.zero_le _)
theorem qat_some {a : AS} {n p t v : Nat} (h : vis a t p = some v) : qat a n p t = BG a n t v - CM a n t v := by unfold qat; rw [h]
theorem qat_none {a : AS} {n p t : Nat} (h : vis a t p = none) : qat a n p t = 0 := by unfold qat; rw [h]
theorem thr_some {a : AS} {n p m t v : Nat} (h : vis a t p = some v) : thr a n p m t = decide (CM a n t v ≤ m ∧ m < EN a n t v) := by unfold thr; rw [h]
theorem thr_none {a : AS} {n p m t : Nat} (h : vis a t p = none) : thr a n p m t = false := by unfold thr; rw [h]
set_option maxRecDepth 100000 in
set_option maxHeartbeats 4000000 in
theorem c_queueingAt {n : Nat} {a : AS} (hw : Wf a) (hna : n ≤ a 3) (hP : PX μ a n) {p : Nat} (hp : p < 8) (hf : fin (some (.int (nI (smN (qat a n p) n)))) μ) : PS l E D cA mX0_queueingAt (d + 1) fin 0 [some (.ref 37), some (.int (nI p)), none, none, none] [] μ := by
  have hn6 : n ≤ 6 := Nat.le_trans hna hw.2.2.2.1
  refine pw_iconst_ (v := nI 0) dX0_queueingAt_0 (by decide) ?_
  refine px_istore_n (ls' := [some (.ref 37), some (.int (nI p)), some (.int (nI 0)), none, none]) dX0_queueingAt_1 rfl rfl (by decide) ?_
  refine pw_iconst_ (v := nI 0) dX0_queueingAt_2 (by decide) ?_
  refine px_istore_n (ls' := [some (.ref 37), some (.int (nI p)), some (.int (nI 0)), some (.int (nI 0)), none]) dX0_queueingAt_3 rfl rfl (by decide) ?_
  have lp : ∀ i : Nat, i ≤ n → ∀ (l4 : Option Value), PS l E D cA mX0_queueingAt (d + 1) fin 4 [some (.ref 37), some (.int (nI p)), some (.int (nI (smN (qat a n p) i))), some (.int (nI i)), l4] [] μ := by
    refine ps_for _ ?_ ?_
    · intro l4
      refine pw_iload_n dX0_queueingAt_4 rfl ?_
      refine pw_aload_n dX0_queueingAt_5 rfl ?_
      refine ps_geti (x := nI n) dX0_queueingAt_6 kf_X0_45 (by decide) (by decide +kernel) (hP.2) ?_
      refine pn_ge (tgt := 54) dX0_queueingAt_9 (by decide) (by omega) (by omega) (fun _ => ?_) (fun h9 => absurd h9 (by omega))
      refine pw_iload_n dX0_queueingAt_54 rfl ?_
      exact ps_iret dX0_queueingAt_55 rfl (rfl) hf
    · intro i hi ih l4
      have hPi := hP.t hw hna hi
      refine pw_iload_n dX0_queueingAt_4 rfl ?_
      refine pw_aload_n dX0_queueingAt_5 rfl ?_
      refine ps_geti (x := nI n) dX0_queueingAt_6 kf_X0_45 (by decide) (by decide +kernel) (hP.2) ?_
      refine pn_ge (tgt := 54) dX0_queueingAt_9 (by decide) (by omega) (by omega) (fun h9 => absurd h9 (by omega)) (fun _ => ?_)
      refine pw_aload_n dX0_queueingAt_12 rfl ?_
      refine pw_iload_n dX0_queueingAt_13 rfl ?_
      refine pw_iload_n dX0_queueingAt_14 rfl ?_
      refine ps_callV (b := 37) (As := [.int (nI i), .int (nI p)]) (st := []) dX0_queueingAt_15 cv_X0_130 rfl ⟨by decide, by decide +kernel⟩ (Nat.le_of_ble_eq_true rfl) (Nat.le_of_ble_eq_true rfl) ?_
      refine c_visitAt hw hna hP hi hp ?_
      show PS l E D cA mX0_queueingAt (d + 1) fin 18 [some (.ref 37), some (.int (nI p)), some (.int (nI (smN (qat a n p) i))), some (.int (nI i)), l4] [.int (eN (vis a i p))] μ
      refine px_istore (ls' := [some (.ref 37), some (.int (nI p)), some (.int (nI (smN (qat a n p) i))), some (.int (nI i)), some (.int (eN (vis a i p)))]) dX0_queueingAt_18 rfl rfl (by decide) ?_
      cases hv0 : vis a i p with
      | none =>
        show PS l E D cA mX0_queueingAt (d + 1) fin 20 [some (.ref 37), some (.int (nI p)), some (.int (nI (smN (qat a n p) i))), some (.int (nI i)), some (.int (-1))] [] μ
        refine pw_iload dX0_queueingAt_20 rfl ?_
        refine pw_iconst_ (v := (-1)) dX0_queueingAt_22 (by decide) ?_
        refine pw_icmp_eq (tgt := 48) dX0_queueingAt_23 (by decide) (fun _ => ?_) (fun h9 => absurd rfl h9)
        refine px_iincn (n := 1) (a := i) (b := i + 1) (ls' := [some (.ref 37), some (.int (nI p)), some (.int (nI (smN (qat a n p) i))), some (.int (nI (i + 1))), some (.int (-1))]) dX0_queueingAt_48 rfl rfl rfl (by omega) ?_
        refine pw_goto (tgt := 4) dX0_queueingAt_51 (by decide) ?_
        rw [show smN (qat a n p) (i + 1) = smN (qat a n p) i by show _ + _ = _; rw [qat_none hv0]; rfl] at ih
        exact ih _
      | some v =>
        have hv := (vis_some hv0).1
        have hV := hP.v hw hna hi hv
        show PS l E D cA mX0_queueingAt (d + 1) fin 20 [some (.ref 37), some (.int (nI p)), some (.int (nI (smN (qat a n p) i))), some (.int (nI i)), some (.int (nI v))] [] μ
        refine pw_iload dX0_queueingAt_20 rfl ?_
        refine pw_iconst_ (v := (-1)) dX0_queueingAt_22 (by decide) ?_
        refine pw_icmp_eq (tgt := 48) dX0_queueingAt_23 (by decide) (fun h9 => absurd h9 (nI_nm1 (by omega))) (fun _ => ?_)
        refine pw_iload_n dX0_queueingAt_26 rfl ?_
        refine pw_aload_n dX0_queueingAt_27 rfl ?_
        refine ps_getr (r := 60) dX0_queueingAt_28 kf_X0_26 (by decide) (by decide +kernel) ?_
        refine pw_iload_n dX0_queueingAt_31 rfl ?_
        refine ps_aald (t := 3) (j := i) (r := 61 + i) dX0_queueingAt_32 rfl (ok_g (b := 60) (by decide) (by omega)) (by decide) ?_
        refine pw_iload dX0_queueingAt_33 rfl ?_
        refine ps_iald (j := v) (x := nI (BG a n i v)) dX0_queueingAt_35 rfl (ok_ar (n := 8) (ok_gr (b := 60) (by decide) (by omega)) (by omega)) (hP.v hw hna hi hv).2.2.2.1 ?_
        refine pw_aload_n dX0_queueingAt_36 rfl ?_
        refine ps_getr (r := 53) dX0_queueingAt_37 kf_X0_23 (by decide) (by decide +kernel) ?_
        refine pw_iload_n dX0_queueingAt_40 rfl ?_
        refine ps_aald (t := 3) (j := i) (r := 54 + i) dX0_queueingAt_41 rfl (ok_g (b := 53) (by decide) (by omega)) (by decide) ?_
        refine pw_iload dX0_queueingAt_42 rfl ?_
        refine ps_iald (j := v) (x := nI (CM a n i v)) dX0_queueingAt_44 rfl (ok_ar (n := 8) (ok_gr (b := 53) (by decide) (by omega)) (by omega)) (hP.v hw hna hi hv).2.2.1 ?_
        refine pn_isub hV.2.2.2.2.2.1 dX0_queueingAt_45 ?_
        refine px_iaddn (c := smN (qat a n p) (i + 1)) dX0_queueingAt_46 (by show _ = _ + _; rw [qat_some hv0]) ?_
        refine px_istore_n (ls' := [some (.ref 37), some (.int (nI p)), some (.int (nI (smN (qat a n p) (i + 1)))), some (.int (nI i)), some (.int (nI v))]) dX0_queueingAt_47 rfl rfl (by decide) ?_
        refine px_iincn (n := 1) (a := i) (b := i + 1) (ls' := [some (.ref 37), some (.int (nI p)), some (.int (nI (smN (qat a n p) (i + 1)))), some (.int (nI (i + 1))), some (.int (nI v))]) dX0_queueingAt_48 rfl rfl rfl (by omega) ?_
        refine pw_goto (tgt := 4) dX0_queueingAt_51 (by decide) ?_
        exact ih _
  exact lp 0 (Nat.zero_le _) _
set_option maxRecDepth 100000 in
set_option maxHeartbeats 4000000 in
theorem c_teamsThere {n : Nat} {a : AS} (hw : Wf a) (hna : n ≤ a 3) (hP : PX μ a n) {p m : Nat} (hp : p < 8) (hm : m < 2 ^ 31) (hf : fin (some (.int (nI (cntN (thr a n p m) n)))) μ) : PS l E D cA mX0_teamsThere (d + 1) fin 0 [some (.ref 37), some (.int (nI p)), some (.int (nI m)), none, none, none] [] μ := by
  have hn6 : n ≤ 6 := Nat.le_trans hna hw.2.2.2.1
  refine pw_iconst_ (v := nI 0) dX0_teamsThere_0 (by decide) ?_
  refine px_istore_n (ls' := [some (.ref 37), some (.int (nI p)), some (.int (nI m)), some (.int (nI 0)), none, none]) dX0_teamsThere_1 rfl rfl (by decide) ?_
  refine pw_iconst_ (v := nI 0) dX0_teamsThere_2 (by decide) ?_
  refine px_istore (ls' := [some (.ref 37), some (.int (nI p)), some (.int (nI m)), some (.int (nI 0)), some (.int (nI 0)), none]) dX0_teamsThere_3 rfl rfl (by decide) ?_
  have lp : ∀ i : Nat, i ≤ n → ∀ (l5 : Option Value), PS l E D cA mX0_teamsThere (d + 1) fin 5 [some (.ref 37), some (.int (nI p)), some (.int (nI m)), some (.int (nI (cntN (thr a n p m) i))), some (.int (nI i)), l5] [] μ := by
    refine ps_for _ ?_ ?_
    · intro l5
      refine pw_iload dX0_teamsThere_5 rfl ?_
      refine pw_aload_n dX0_teamsThere_7 rfl ?_
      refine ps_geti (x := nI n) dX0_teamsThere_8 kf_X0_45 (by decide) (by decide +kernel) (hP.2) ?_
      refine pn_ge (tgt := 50) dX0_teamsThere_11 (by decide) (by omega) (by omega) (fun _ => ?_) (fun h9 => absurd h9 (by omega))
      refine pw_iload_n dX0_teamsThere_50 rfl ?_
      exact ps_iret dX0_teamsThere_51 rfl (rfl) hf
    · intro i hi ih l5
      have hPi := hP.t hw hna hi
      refine pw_iload dX0_teamsThere_5 rfl ?_
      refine pw_aload_n dX0_teamsThere_7 rfl ?_
      refine ps_geti (x := nI n) dX0_teamsThere_8 kf_X0_45 (by decide) (by decide +kernel) (hP.2) ?_
      refine pn_ge (tgt := 50) dX0_teamsThere_11 (by decide) (by omega) (by omega) (fun h9 => absurd h9 (by omega)) (fun _ => ?_)
      have hl9 := cntN_le (p := thr a n p m) i
      refine pw_aload_n dX0_teamsThere_14 rfl ?_
      refine pw_iload dX0_teamsThere_15 rfl ?_
      refine pw_iload_n dX0_teamsThere_17 rfl ?_
      refine ps_callV (b := 37) (As := [.int (nI i), .int (nI p)]) (st := []) dX0_teamsThere_18 cv_X0_130 rfl ⟨by decide, by decide +kernel⟩ (Nat.le_of_ble_eq_true rfl) (Nat.le_of_ble_eq_true rfl) ?_
      refine c_visitAt hw hna hP hi hp ?_
      show PS l E D cA mX0_teamsThere (d + 1) fin 21 [some (.ref 37), some (.int (nI p)), some (.int (nI m)), some (.int (nI (cntN (thr a n p m) i))), some (.int (nI i)), l5] [.int (eN (vis a i p))] μ
      refine px_istore (ls' := [some (.ref 37), some (.int (nI p)), some (.int (nI m)), some (.int (nI (cntN (thr a n p m) i))), some (.int (nI i)), some (.int (eN (vis a i p)))]) dX0_teamsThere_21 rfl rfl (by decide) ?_
      cases hv0 : vis a i p with
      | none =>
        show PS l E D cA mX0_teamsThere (d + 1) fin 23 [some (.ref 37), some (.int (nI p)), some (.int (nI m)), some (.int (nI (cntN (thr a n p m) i))), some (.int (nI i)), some (.int (-1))] [] μ
        refine pw_iload dX0_teamsThere_23 rfl ?_
        refine pw_iconst_ (v := (-1)) dX0_teamsThere_25 (by decide) ?_
        refine pw_icmp_eq (tgt := 44) dX0_teamsThere_26 (by decide) (fun _ => ?_) (fun h9 => absurd rfl h9)
        refine px_iincn (n := 1) (a := i) (b := i + 1) (ls' := [some (.ref 37), some (.int (nI p)), some (.int (nI m)), some (.int (nI (cntN (thr a n p m) i))), some (.int (nI (i + 1))), some (.int (-1))]) dX0_teamsThere_44 rfl rfl rfl (by omega) ?_
        refine pw_goto (tgt := 5) dX0_teamsThere_47 (by decide) ?_
        rw [show cntN (thr a n p m) (i + 1) = cntN (thr a n p m) i by show _ + _ = _; rw [thr_none hv0]; rfl] at ih
        exact ih _
      | some v =>
        have hv := (vis_some hv0).1
        show PS l E D cA mX0_teamsThere (d + 1) fin 23 [some (.ref 37), some (.int (nI p)), some (.int (nI m)), some (.int (nI (cntN (thr a n p m) i))), some (.int (nI i)), some (.int (nI v))] [] μ
        refine pw_iload dX0_teamsThere_23 rfl ?_
        refine pw_iconst_ (v := (-1)) dX0_teamsThere_25 (by decide) ?_
        refine pw_icmp_eq (tgt := 44) dX0_teamsThere_26 (by decide) (fun h9 => absurd h9 (nI_nm1 (by omega))) (fun _ => ?_)
        refine pw_aload_n dX0_teamsThere_29 rfl ?_
        refine pw_iload dX0_teamsThere_30 rfl ?_
        refine pw_iload dX0_teamsThere_32 rfl ?_
        refine pw_iload_n dX0_teamsThere_34 rfl ?_
        refine ps_callV (b := 37) (As := [.int (nI i), .int (nI v), .int (nI m)]) (st := []) dX0_teamsThere_35 cv_X0_125 rfl ⟨by decide, by decide +kernel⟩ (Nat.le_of_ble_eq_true rfl) (Nat.le_of_ble_eq_true rfl) ?_
        refine c_isThere hw hna hP hi hv hm ?_
        show PS l E D cA mX0_teamsThere (d + 1) fin 38 [some (.ref 37), some (.int (nI p)), some (.int (nI m)), some (.int (nI (cntN (thr a n p m) i))), some (.int (nI i)), some (.int (nI v))] [.int (kb (CM a n i v ≤ m ∧ m < EN a n i v))] μ
        by_cases hc : CM a n i v ≤ m ∧ m < EN a n i v
        · rw [kb_t hc]
          refine pw_if_eq (tgt := 44) dX0_teamsThere_38 (by decide) (fun h9 => absurd h9 nI1_ne) (fun _ => ?_)
          refine px_iincn (n := 1) (a := cntN (thr a n p m) i) (b := cntN (thr a n p m) i + 1) (ls' := [some (.ref 37), some (.int (nI p)), some (.int (nI m)), some (.int (nI (cntN (thr a n p m) i + 1))), some (.int (nI i)), some (.int (nI v))]) dX0_teamsThere_41 rfl rfl rfl (by omega) ?_
          refine px_iincn (n := 1) (a := i) (b := i + 1) (ls' := [some (.ref 37), some (.int (nI p)), some (.int (nI m)), some (.int (nI (cntN (thr a n p m) i + 1))), some (.int (nI (i + 1))), some (.int (nI v))]) dX0_teamsThere_44 rfl rfl rfl (by omega) ?_
          refine pw_goto (tgt := 5) dX0_teamsThere_47 (by decide) ?_
          rw [show cntN (thr a n p m) i + 1 = cntN (thr a n p m) (i + 1) by show _ = _ + _; rw [thr_some hv0, if_pos (by simpa using hc)]]
          exact ih _
        · rw [kb_f hc]
          refine pw_if_eq (tgt := 44) dX0_teamsThere_38 (by decide) (fun _ => ?_) (fun h9 => absurd h9 (fun q => q nI_0))
          refine px_iincn (n := 1) (a := i) (b := i + 1) (ls' := [some (.ref 37), some (.int (nI p)), some (.int (nI m)), some (.int (nI (cntN (thr a n p m) i))), some (.int (nI (i + 1))), some (.int (nI v))]) dX0_teamsThere_44 rfl rfl rfl (by omega) ?_
          refine pw_goto (tgt := 5) dX0_teamsThere_47 (by decide) ?_
          rw [show cntN (thr a n p m) (i + 1) = cntN (thr a n p m) i by show _ + _ = _; rw [thr_some hv0, if_neg (by simpa using hc)]; rfl] at ih
          exact ih _
  exact lp 0 (Nat.zero_le _) _
theorem mo_le {a : AS} {n p : Nat} : ∀ t, mo a n p t ≤ n
  | 0 => Nat.zero_le _
  | t + 1 => by
    have h1 := mo_le (a := a) (n := n) (p := p) t
    unfold mo
    split
    · next v hv =>
      have h2 := cntN_le (p := thr a n p (CM a n t v)) n
      split <;> omega
    · exact h1
theorem mo_some {a : AS} {n p t v : Nat} (h : vis a t p = some v) : mo a n p (t + 1) = if mo a n p t < cntN (thr a n p (CM a n t v)) n then cntN (thr a n p (CM a n t v)) n else mo a n p t := by rw [mo, h]
theorem mo_none {a : AS} {n p t : Nat} (h : vis a t p = none) : mo a n p (t + 1) = mo a n p t := by rw [mo, h]
set_option maxRecDepth 100000 in
set_option maxHeartbeats 4000000 in
theorem c_mostAt {n : Nat} {a : AS} (hw : Wf a) (hna : n ≤ a 3) (hP : PX μ a n) {p : Nat} (hp : p < 8) (hf : fin (some (.int (nI (mo a n p n)))) μ) : PS l E D cA mX0_mostAt (d + 2) fin 0 [some (.ref 37), some (.int (nI p)), none, none, none] [] μ := by
  have hn6 : n ≤ 6 := Nat.le_trans hna hw.2.2.2.1
  refine pw_iconst_ (v := nI 0) dX0_mostAt_0 (by decide) ?_
  refine px_istore_n (ls' := [some (.ref 37), some (.int (nI p)), some (.int (nI 0)), none, none]) dX0_mostAt_1 rfl rfl (by decide) ?_
  refine pw_iconst_ (v := nI 0) dX0_mostAt_2 (by decide) ?_
  refine px_istore_n (ls' := [some (.ref 37), some (.int (nI p)), some (.int (nI 0)), some (.int (nI 0)), none]) dX0_mostAt_3 rfl rfl (by decide) ?_
  have lp : ∀ i : Nat, i ≤ n → ∀ (l4 : Option Value), PS l E D cA mX0_mostAt (d + 2) fin 4 [some (.ref 37), some (.int (nI p)), some (.int (nI (mo a n p i))), some (.int (nI i)), l4] [] μ := by
    refine ps_for _ ?_ ?_
    · intro l4
      refine pw_iload_n dX0_mostAt_4 rfl ?_
      refine pw_aload_n dX0_mostAt_5 rfl ?_
      refine ps_geti (x := nI n) dX0_mostAt_6 kf_X0_45 (by decide) (by decide +kernel) (hP.2) ?_
      refine pn_ge (tgt := 51) dX0_mostAt_9 (by decide) (by omega) (by omega) (fun _ => ?_) (fun h9 => absurd h9 (by omega))
      refine pw_iload_n dX0_mostAt_51 rfl ?_
      exact ps_iret dX0_mostAt_52 rfl (rfl) hf
    · intro i hi ih l4
      have hPi := hP.t hw hna hi
      refine pw_iload_n dX0_mostAt_4 rfl ?_
      refine pw_aload_n dX0_mostAt_5 rfl ?_
      refine ps_geti (x := nI n) dX0_mostAt_6 kf_X0_45 (by decide) (by decide +kernel) (hP.2) ?_
      refine pn_ge (tgt := 51) dX0_mostAt_9 (by decide) (by omega) (by omega) (fun h9 => absurd h9 (by omega)) (fun _ => ?_)
      have hl9 := mo_le (a := a) (n := n) (p := p) i
      refine pw_aload_n dX0_mostAt_12 rfl ?_
      refine pw_iload_n dX0_mostAt_13 rfl ?_
      refine pw_iload_n dX0_mostAt_14 rfl ?_
      refine ps_callV (b := 37) (As := [.int (nI i), .int (nI p)]) (st := []) dX0_mostAt_15 cv_X0_130 rfl ⟨by decide, by decide +kernel⟩ (Nat.le_of_ble_eq_true rfl) (Nat.le_of_ble_eq_true rfl) ?_
      refine c_visitAt hw hna hP hi hp ?_
      show PS l E D cA mX0_mostAt (d + 2) fin 18 [some (.ref 37), some (.int (nI p)), some (.int (nI (mo a n p i))), some (.int (nI i)), l4] [.int (eN (vis a i p))] μ
      refine px_istore (ls' := [some (.ref 37), some (.int (nI p)), some (.int (nI (mo a n p i))), some (.int (nI i)), some (.int (eN (vis a i p)))]) dX0_mostAt_18 rfl rfl (by decide) ?_
      cases hv0 : vis a i p with
      | none =>
        show PS l E D cA mX0_mostAt (d + 2) fin 20 [some (.ref 37), some (.int (nI p)), some (.int (nI (mo a n p i))), some (.int (nI i)), some (.int (-1))] [] μ
        refine pw_iload dX0_mostAt_20 rfl ?_
        refine pw_iconst_ (v := (-1)) dX0_mostAt_22 (by decide) ?_
        refine pw_icmp_eq (tgt := 45) dX0_mostAt_23 (by decide) (fun _ => ?_) (fun h9 => absurd rfl h9)
        refine px_iincn (n := 1) (a := i) (b := i + 1) (ls' := [some (.ref 37), some (.int (nI p)), some (.int (nI (mo a n p i))), some (.int (nI (i + 1))), some (.int (-1))]) dX0_mostAt_45 rfl rfl rfl (by omega) ?_
        refine pw_goto (tgt := 4) dX0_mostAt_48 (by decide) ?_
        rw [mo_none hv0] at ih
        exact ih _
      | some v =>
        have hv := (vis_some hv0).1
        have hV := hP.v hw hna hi hv
        have hl8 := cntN_le (p := thr a n p (CM a n i v)) n
        show PS l E D cA mX0_mostAt (d + 2) fin 20 [some (.ref 37), some (.int (nI p)), some (.int (nI (mo a n p i))), some (.int (nI i)), some (.int (nI v))] [] μ
        refine pw_iload dX0_mostAt_20 rfl ?_
        refine pw_iconst_ (v := (-1)) dX0_mostAt_22 (by decide) ?_
        refine pw_icmp_eq (tgt := 45) dX0_mostAt_23 (by decide) (fun h9 => absurd h9 (nI_nm1 (by omega))) (fun _ => ?_)
        refine pw_iload_n dX0_mostAt_26 rfl ?_
        refine pw_aload_n dX0_mostAt_27 rfl ?_
        refine pw_iload_n dX0_mostAt_28 rfl ?_
        refine pw_aload_n dX0_mostAt_29 rfl ?_
        refine ps_getr (r := 53) dX0_mostAt_30 kf_X0_23 (by decide) (by decide +kernel) ?_
        refine pw_iload_n dX0_mostAt_33 rfl ?_
        refine ps_aald (t := 3) (j := i) (r := 54 + i) dX0_mostAt_34 rfl (ok_g (b := 53) (by decide) (by omega)) (by decide) ?_
        refine pw_iload dX0_mostAt_35 rfl ?_
        refine ps_iald (j := v) (x := nI (CM a n i v)) dX0_mostAt_37 rfl (ok_ar (n := 8) (ok_gr (b := 53) (by decide) (by omega)) (by omega)) (hP.v hw hna hi hv).2.2.1 ?_
        refine ps_callV (b := 37) (As := [.int (nI p), .int (nI (CM a n i v))]) (st := [.int (nI (mo a n p i))]) dX0_mostAt_38 cv_X0_139 rfl ⟨by decide, by decide +kernel⟩ (Nat.le_of_ble_eq_true rfl) (Nat.le_of_ble_eq_true rfl) ?_
        refine c_teamsThere hw hna hP hp (show CM a n i v < 2 ^ 31 by omega) ?_
        show PS l E D cA mX0_mostAt (d + 2) fin 41 [some (.ref 37), some (.int (nI p)), some (.int (nI (mo a n p i))), some (.int (nI i)), some (.int (nI v))] [.int (nI (cntN (thr a n p (CM a n i v)) n)), .int (nI (mo a n p i))] μ
        refine pw_mmax dX0_mostAt_41 cm_X0_105 (by rw [emy_len]; exact Nat.le_refl _) (by rw [emy_sum]; exact Nat.le_refl _) (Nat.le_of_ble_eq_true rfl) ?_
        rw [max_nI (by omega) (by omega), ← mo_some hv0]
        refine px_istore_n (ls' := [some (.ref 37), some (.int (nI p)), some (.int (nI (mo a n p (i + 1)))), some (.int (nI i)), some (.int (nI v))]) dX0_mostAt_44 rfl rfl (by decide) ?_
        refine px_iincn (n := 1) (a := i) (b := i + 1) (ls' := [some (.ref 37), some (.int (nI p)), some (.int (nI (mo a n p (i + 1)))), some (.int (nI (i + 1))), some (.int (nI v))]) dX0_mostAt_45 rfl rfl rfl (by omega) ?_
        refine pw_goto (tgt := 4) dX0_mostAt_48 (by decide) ?_
        exact ih _
  exact lp 0 (Nat.zero_le _) _
set_option maxRecDepth 100000 in
set_option maxHeartbeats 4000000 in
theorem c_pairs {n : Nat} {a : AS} (hw : Wf a) (hna : n ≤ a 3) (hP : PX μ a n) (hf : fin (some (.int (nI (prs (mt a n) n n)))) μ) : PS l E D cA mX0_pairs (d + 3) fin 0 [some (.ref 37), none, none, none] [] μ := by
  have hn6 : n ≤ 6 := Nat.le_trans hna hw.2.2.2.1
  refine pw_iconst_ (v := nI 0) dX0_pairs_0 (by decide) ?_
  refine px_istore_n (ls' := [some (.ref 37), some (.int (nI 0)), none, none]) dX0_pairs_1 rfl rfl (by decide) ?_
  refine pw_iconst_ (v := nI 0) dX0_pairs_2 (by decide) ?_
  refine px_istore_n (ls' := [some (.ref 37), some (.int (nI 0)), some (.int (nI 0)), none]) dX0_pairs_3 rfl rfl (by decide) ?_
  have lp : ∀ i : Nat, i ≤ n → ∀ (l3 : Option Value), PS l E D cA mX0_pairs (d + 3) fin 4 [some (.ref 37), some (.int (nI (prs (mt a n) i n))), some (.int (nI i)), l3] [] μ := by
    refine ps_for _ ?_ ?_
    · intro l3
      refine pw_iload_n dX0_pairs_4 rfl ?_
      refine pw_aload_n dX0_pairs_5 rfl ?_
      refine ps_geti (x := nI n) dX0_pairs_6 kf_X0_45 (by decide) (by decide +kernel) (hP.2) ?_
      refine pn_ge (tgt := 48) dX0_pairs_9 (by decide) (by omega) (by omega) (fun _ => ?_) (fun h9 => absurd h9 (by omega))
      refine pw_iload_n dX0_pairs_48 rfl ?_
      exact ps_iret dX0_pairs_49 rfl (rfl) hf
    · intro i hi ih l3
      have hPi := hP.t hw hna hi
      refine pw_iload_n dX0_pairs_4 rfl ?_
      refine pw_aload_n dX0_pairs_5 rfl ?_
      refine ps_geti (x := nI n) dX0_pairs_6 kf_X0_45 (by decide) (by decide +kernel) (hP.2) ?_
      refine pn_ge (tgt := 48) dX0_pairs_9 (by decide) (by omega) (by omega) (fun h9 => absurd h9 (by omega)) (fun _ => ?_)
      have hl9 := prs_le (f := mt a n) (m := i) (n := n)
      have hl8 : i * n ≤ 6 * 6 := Nat.mul_le_mul (by omega) hn6
      refine pw_iload_n dX0_pairs_12 rfl ?_
      refine pw_iconst_ (v := nI 1) dX0_pairs_13 (by decide) ?_
      refine px_iaddn (c := i + 1) dX0_pairs_14 (by omega) ?_
      refine px_istore_n (ls' := [some (.ref 37), some (.int (nI (prs (mt a n) i n))), some (.int (nI i)), some (.int (nI (i + 1)))]) dX0_pairs_15 rfl rfl (by decide) ?_
      have lq : ∀ j : Nat, j ≤ n → (i + 1 ≤ j → PS l E D cA mX0_pairs (d + 3) fin 16 [some (.ref 37), some (.int (nI (prs (mt a n) i n + cntR ((mt a n) i) (i + 1) j))), some (.int (nI i)), some (.int (nI j))] [] μ) := by
        refine ps_for _ ?_ ?_
        · intro hj0
          show PS l E D cA mX0_pairs (d + 3) fin 16 [some (.ref 37), some (.int (nI (prs (mt a n) (i + 1) n))), some (.int (nI i)), some (.int (nI n))] [] μ
          refine pw_iload_n dX0_pairs_16 rfl ?_
          refine pw_aload_n dX0_pairs_17 rfl ?_
          refine ps_geti (x := nI n) dX0_pairs_18 kf_X0_45 (by decide) (by decide +kernel) (hP.2) ?_
          refine pn_ge (tgt := 42) dX0_pairs_21 (by decide) (by omega) (by omega) (fun _ => ?_) (fun h9 => absurd h9 (by omega))
          refine px_iincn (n := 1) (a := i) (b := i + 1) (ls' := [some (.ref 37), some (.int (nI (prs (mt a n) (i + 1) n))), some (.int (nI (i + 1))), some (.int (nI n))]) dX0_pairs_42 rfl rfl rfl (by omega) ?_
          refine pw_goto (tgt := 4) dX0_pairs_45 (by decide) ?_
          exact ih _
        · intro j hj ihj hj0
          have hl7 := cntR_le (p := (mt a n) i) (lo := i + 1) (hi := j)
          refine pw_iload_n dX0_pairs_16 rfl ?_
          refine pw_aload_n dX0_pairs_17 rfl ?_
          refine ps_geti (x := nI n) dX0_pairs_18 kf_X0_45 (by decide) (by decide +kernel) (hP.2) ?_
          refine pn_ge (tgt := 42) dX0_pairs_21 (by decide) (by omega) (by omega) (fun h9 => absurd h9 (by omega)) (fun _ => ?_)
          refine pw_aload_n dX0_pairs_24 rfl ?_
          refine pw_iload_n dX0_pairs_25 rfl ?_
          refine pw_iload_n dX0_pairs_26 rfl ?_
          refine ps_callV (b := 37) (As := [.int (nI i), .int (nI j)]) (st := []) dX0_pairs_27 cv_X0_136 rfl ⟨by decide, by decide +kernel⟩ (Nat.le_of_ble_eq_true rfl) (Nat.le_of_ble_eq_true rfl) ?_
          refine c_meet hw hna hP hi hj ?_
          show PS l E D cA mX0_pairs (d + 3) fin 30 [some (.ref 37), some (.int (nI (prs (mt a n) i n + cntR ((mt a n) i) (i + 1) j))), some (.int (nI i)), some (.int (nI j))] [.int (kb (mt a n i j = true))] μ
          by_cases hc : mt a n i j = true
          · rw [kb_t hc]
            refine pw_if_eq (tgt := 36) dX0_pairs_30 (by decide) (fun h9 => absurd h9 nI1_ne) (fun _ => ?_)
            refine px_iincn (n := 1) (a := prs (mt a n) i n + cntR ((mt a n) i) (i + 1) j) (b := prs (mt a n) i n + cntR ((mt a n) i) (i + 1) j + 1) (ls' := [some (.ref 37), some (.int (nI (prs (mt a n) i n + cntR ((mt a n) i) (i + 1) j + 1))), some (.int (nI i)), some (.int (nI j))]) dX0_pairs_33 rfl rfl rfl (by omega) ?_
            refine px_iincn (n := 1) (a := j) (b := j + 1) (ls' := [some (.ref 37), some (.int (nI (prs (mt a n) i n + cntR ((mt a n) i) (i + 1) j + 1))), some (.int (nI i)), some (.int (nI (j + 1)))]) dX0_pairs_36 rfl rfl rfl (by omega) ?_
            refine pw_goto (tgt := 16) dX0_pairs_39 (by decide) ?_
            have h9 := ihj (by omega)
            rw [cntR_s hj0, if_pos (show (mt a n) i j = true from hc)] at h9
            exact h9
          · rw [kb_f hc]
            refine pw_if_eq (tgt := 36) dX0_pairs_30 (by decide) (fun _ => ?_) (fun h9 => absurd h9 (fun q => q nI_0))
            refine px_iincn (n := 1) (a := j) (b := j + 1) (ls' := [some (.ref 37), some (.int (nI (prs (mt a n) i n + cntR ((mt a n) i) (i + 1) j))), some (.int (nI i)), some (.int (nI (j + 1)))]) dX0_pairs_36 rfl rfl rfl (by omega) ?_
            refine pw_goto (tgt := 16) dX0_pairs_39 (by decide) ?_
            have h9 := ihj (by omega)
            rw [cntR_s hj0, if_neg (show ¬ (mt a n) i j = true from hc), Nat.add_zero] at h9
            exact h9
      have h9 := lq (i + 1) (by omega) (Nat.le_refl _)
      rw [cntR_0 (Nat.le_refl _), Nat.add_zero] at h9
      exact h9
  exact lp 0 (Nat.zero_le _) _
set_option maxRecDepth 100000 in
set_option maxHeartbeats 4000000 in
theorem c_pairsAt {n : Nat} {a : AS} (hw : Wf a) (hna : n ≤ a 3) (hP : PX μ a n) {p : Nat} (hp : p < 8) (hf : fin (some (.int (nI (prs (fun t u => mtp a n t u p) n n)))) μ) : PS l E D cA mX0_pairsAt (d + 2) fin 0 [some (.ref 37), some (.int (nI p)), none, none, none] [] μ := by
  have hn6 : n ≤ 6 := Nat.le_trans hna hw.2.2.2.1
  refine pw_iconst_ (v := nI 0) dX0_pairsAt_0 (by decide) ?_
  refine px_istore_n (ls' := [some (.ref 37), some (.int (nI p)), some (.int (nI 0)), none, none]) dX0_pairsAt_1 rfl rfl (by decide) ?_
  refine pw_iconst_ (v := nI 0) dX0_pairsAt_2 (by decide) ?_
  refine px_istore_n (ls' := [some (.ref 37), some (.int (nI p)), some (.int (nI 0)), some (.int (nI 0)), none]) dX0_pairsAt_3 rfl rfl (by decide) ?_
  have lp : ∀ i : Nat, i ≤ n → ∀ (l4 : Option Value), PS l E D cA mX0_pairsAt (d + 2) fin 4 [some (.ref 37), some (.int (nI p)), some (.int (nI (prs (fun t u => mtp a n t u p) i n))), some (.int (nI i)), l4] [] μ := by
    refine ps_for _ ?_ ?_
    · intro l4
      refine pw_iload_n dX0_pairsAt_4 rfl ?_
      refine pw_aload_n dX0_pairsAt_5 rfl ?_
      refine ps_geti (x := nI n) dX0_pairsAt_6 kf_X0_45 (by decide) (by decide +kernel) (hP.2) ?_
      refine pn_ge (tgt := 52) dX0_pairsAt_9 (by decide) (by omega) (by omega) (fun _ => ?_) (fun h9 => absurd h9 (by omega))
      refine pw_iload_n dX0_pairsAt_52 rfl ?_
      exact ps_iret dX0_pairsAt_53 rfl (rfl) hf
    · intro i hi ih l4
      have hPi := hP.t hw hna hi
      refine pw_iload_n dX0_pairsAt_4 rfl ?_
      refine pw_aload_n dX0_pairsAt_5 rfl ?_
      refine ps_geti (x := nI n) dX0_pairsAt_6 kf_X0_45 (by decide) (by decide +kernel) (hP.2) ?_
      refine pn_ge (tgt := 52) dX0_pairsAt_9 (by decide) (by omega) (by omega) (fun h9 => absurd h9 (by omega)) (fun _ => ?_)
      have hl9 := prs_le (f := fun t u => mtp a n t u p) (m := i) (n := n)
      have hl8 : i * n ≤ 6 * 6 := Nat.mul_le_mul (by omega) hn6
      refine pw_iload_n dX0_pairsAt_12 rfl ?_
      refine pw_iconst_ (v := nI 1) dX0_pairsAt_13 (by decide) ?_
      refine px_iaddn (c := i + 1) dX0_pairsAt_14 (by omega) ?_
      refine px_istore (ls' := [some (.ref 37), some (.int (nI p)), some (.int (nI (prs (fun t u => mtp a n t u p) i n))), some (.int (nI i)), some (.int (nI (i + 1)))]) dX0_pairsAt_15 rfl rfl (by decide) ?_
      have lq : ∀ j : Nat, j ≤ n → (i + 1 ≤ j → PS l E D cA mX0_pairsAt (d + 2) fin 17 [some (.ref 37), some (.int (nI p)), some (.int (nI (prs (fun t u => mtp a n t u p) i n + cntR ((fun t u => mtp a n t u p) i) (i + 1) j))), some (.int (nI i)), some (.int (nI j))] [] μ) := by
        refine ps_for _ ?_ ?_
        · intro hj0
          show PS l E D cA mX0_pairsAt (d + 2) fin 17 [some (.ref 37), some (.int (nI p)), some (.int (nI (prs (fun t u => mtp a n t u p) (i + 1) n))), some (.int (nI i)), some (.int (nI n))] [] μ
          refine pw_iload dX0_pairsAt_17 rfl ?_
          refine pw_aload_n dX0_pairsAt_19 rfl ?_
          refine ps_geti (x := nI n) dX0_pairsAt_20 kf_X0_45 (by decide) (by decide +kernel) (hP.2) ?_
          refine pn_ge (tgt := 46) dX0_pairsAt_23 (by decide) (by omega) (by omega) (fun _ => ?_) (fun h9 => absurd h9 (by omega))
          refine px_iincn (n := 1) (a := i) (b := i + 1) (ls' := [some (.ref 37), some (.int (nI p)), some (.int (nI (prs (fun t u => mtp a n t u p) (i + 1) n))), some (.int (nI (i + 1))), some (.int (nI n))]) dX0_pairsAt_46 rfl rfl rfl (by omega) ?_
          refine pw_goto (tgt := 4) dX0_pairsAt_49 (by decide) ?_
          exact ih _
        · intro j hj ihj hj0
          have hl7 := cntR_le (p := (fun t u => mtp a n t u p) i) (lo := i + 1) (hi := j)
          refine pw_iload dX0_pairsAt_17 rfl ?_
          refine pw_aload_n dX0_pairsAt_19 rfl ?_
          refine ps_geti (x := nI n) dX0_pairsAt_20 kf_X0_45 (by decide) (by decide +kernel) (hP.2) ?_
          refine pn_ge (tgt := 46) dX0_pairsAt_23 (by decide) (by omega) (by omega) (fun h9 => absurd h9 (by omega)) (fun _ => ?_)
          refine pw_aload_n dX0_pairsAt_26 rfl ?_
          refine pw_iload_n dX0_pairsAt_27 rfl ?_
          refine pw_iload dX0_pairsAt_28 rfl ?_
          refine pw_iload_n dX0_pairsAt_30 rfl ?_
          refine ps_callV (b := 37) (As := [.int (nI i), .int (nI j), .int (nI p)]) (st := []) dX0_pairsAt_31 cv_X0_133 rfl ⟨by decide, by decide +kernel⟩ (Nat.le_of_ble_eq_true rfl) (Nat.le_of_ble_eq_true rfl) ?_
          refine c_meetAt hw hna hP hi hj hp ?_
          show PS l E D cA mX0_pairsAt (d + 2) fin 34 [some (.ref 37), some (.int (nI p)), some (.int (nI (prs (fun t u => mtp a n t u p) i n + cntR ((fun t u => mtp a n t u p) i) (i + 1) j))), some (.int (nI i)), some (.int (nI j))] [.int (kb (mtp a n i j p = true))] μ
          by_cases hc : mtp a n i j p = true
          · rw [kb_t hc]
            refine pw_if_eq (tgt := 40) dX0_pairsAt_34 (by decide) (fun h9 => absurd h9 nI1_ne) (fun _ => ?_)
            refine px_iincn (n := 1) (a := prs (fun t u => mtp a n t u p) i n + cntR ((fun t u => mtp a n t u p) i) (i + 1) j) (b := prs (fun t u => mtp a n t u p) i n + cntR ((fun t u => mtp a n t u p) i) (i + 1) j + 1) (ls' := [some (.ref 37), some (.int (nI p)), some (.int (nI (prs (fun t u => mtp a n t u p) i n + cntR ((fun t u => mtp a n t u p) i) (i + 1) j + 1))), some (.int (nI i)), some (.int (nI j))]) dX0_pairsAt_37 rfl rfl rfl (by omega) ?_
            refine px_iincn (n := 1) (a := j) (b := j + 1) (ls' := [some (.ref 37), some (.int (nI p)), some (.int (nI (prs (fun t u => mtp a n t u p) i n + cntR ((fun t u => mtp a n t u p) i) (i + 1) j + 1))), some (.int (nI i)), some (.int (nI (j + 1)))]) dX0_pairsAt_40 rfl rfl rfl (by omega) ?_
            refine pw_goto (tgt := 17) dX0_pairsAt_43 (by decide) ?_
            have h9 := ihj (by omega)
            rw [cntR_s hj0, if_pos (show (fun t u => mtp a n t u p) i j = true from hc)] at h9
            exact h9
          · rw [kb_f hc]
            refine pw_if_eq (tgt := 40) dX0_pairsAt_34 (by decide) (fun _ => ?_) (fun h9 => absurd h9 (fun q => q nI_0))
            refine px_iincn (n := 1) (a := j) (b := j + 1) (ls' := [some (.ref 37), some (.int (nI p)), some (.int (nI (prs (fun t u => mtp a n t u p) i n + cntR ((fun t u => mtp a n t u p) i) (i + 1) j))), some (.int (nI i)), some (.int (nI (j + 1)))]) dX0_pairsAt_40 rfl rfl rfl (by omega) ?_
            refine pw_goto (tgt := 17) dX0_pairsAt_43 (by decide) ?_
            have h9 := ihj (by omega)
            rw [cntR_s hj0, if_neg (show ¬ (fun t u => mtp a n t u p) i j = true from hc), Nat.add_zero] at h9
            exact h9
      have h9 := lq (i + 1) (by omega) (Nat.le_refl _)
      rw [cntR_0 (Nat.le_refl _), Nat.add_zero] at h9
      exact h9
  exact lp 0 (Nat.zero_le _) _
end ALL
