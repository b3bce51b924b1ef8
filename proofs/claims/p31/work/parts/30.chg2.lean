/-! changes: close, start, hint, lose, turn, exchange -/
def opn (a : AS) : Nat := cntN (fun p => a (7 + 4 * p) == 0) 8
theorem ite_b {x : Nat} (h : x ≤ 1) : (if (x == 0) = true then 1 else 0) = 1 - x := by
  rcases (show x = 0 ∨ x = 1 by omega) with rfl | rfl <;> rfl
theorem opn_pop {a : AS} {m : Nat} (hb : ∀ p, p < 8 → m / 2 ^ p % 2 = a (7 + 4 * p)) : 8 - pop8 m = opn a := by
  have b : ∀ p, p < 8 → a (7 + 4 * p) ≤ 1 := fun p hp => by rw [← hb p hp]; omega
  have h0 := hb 0 (by decide)
  have h1 := hb 1 (by decide)
  have h2 := hb 2 (by decide)
  have h3 := hb 3 (by decide)
  have h4 := hb 4 (by decide)
  have h5 := hb 5 (by decide)
  have h6 := hb 6 (by decide)
  have h7 := hb 7 (by decide)
  have b0 := b 0 (by decide)
  have b1 := b 1 (by decide)
  have b2 := b 2 (by decide)
  have b3 := b 3 (by decide)
  have b4 := b 4 (by decide)
  have b5 := b 5 (by decide)
  have b6 := b 6 (by decide)
  have b7 := b 7 (by decide)
  simp only [opn, cntN]
  rw [ite_b b0, ite_b b1, ite_b b2, ite_b b3, ite_b b4, ite_b b5, ite_b b6, ite_b b7]
  unfold pop8
  simp only [Nat.reducePow] at h0 h1 h2 h3 h4 h5 h6 h7
  omega
theorem bit_xor : ∀ m, m < 256 → ∀ p, p < 8 → nI m ^^^ (nI 1 <<< (nI p &&& 31)) = nI (m ^^^ 2 ^ p) ∧ m ^^^ 2 ^ p < 256 := by decide +kernel
theorem bit_xor2 : ∀ m, m < 256 → ∀ p, p < 8 → ∀ q, q < 8 → (m ^^^ 2 ^ p) / 2 ^ q % 2 = if q = p then 1 - m / 2 ^ p % 2 else m / 2 ^ q % 2 := by decide +kernel
theorem RS.closed {μ : Mu} {s n v : Nat} {q : Nat} {a : AS} (hq : q < 8) (hn : n < 256) (hb : ∀ p, p < 8 → n / 2 ^ p % 2 = up1 a (7 + 4 * q) v (7 + 4 * p)) (hw : Wf a) (h : RS μ s a) : RS (u2 μ s 4 (nI n)) s (up1 a (7 + 4 * q) v) := by
  obtain ⟨g1, g2, g3, ⟨m, g4, g5, g6⟩, g7⟩ := h
  refine ⟨fun j hj => ?_, ?_, fun p hp => ⟨?_, ?_, ?_⟩, ⟨n, hn, u2_s, hb⟩, fun t ht => ?_⟩
  · rw [u2_a (by omega), up1_n (by omega)]
    exact g1 j hj
  · rw [u2_b (by omega), up1_n (by omega)]
    exact g2
  · rw [u2_a (by omega), up1_n (by omega)]
    exact (g3 p hp).1
  · rw [u2_a (by omega), up1_n (by omega)]
    exact (g3 p hp).2.1
  · rw [u2_a (by omega), up1_n (by omega)]
    exact (g3 p hp).2.2
  · rw [up1_n (by omega)] at ht
    have hl := (hw.tm ht).2.2.2.1.2
    refine ((g7 t ht).of (fun k _ _ => u2_a (by omega)) (fun k => u2_a (by omega))).ext hl (fun i _ _ => up1_n (by omega))
theorem wf_team {a : AS} {t i v : Nat} (hw : Wf a) (ht : t < a 3) (h : (v ≤ 200 ∧ i = 36 + 12 * t) ∨ (v < 256 ∧ i = 37 + 12 * t) ∨ (v ≤ 8 ∧ i = 38 + 12 * t)) : Wf (up1 a i v) := by
  refine ⟨by rw [up1_n (by omega)]; exact hw.1, by rw [up1_n (by omega)]; exact hw.2.1, by rw [up1_n (by omega)]; exact hw.2.2.1, by rw [up1_n (by omega)]; exact hw.t6, fun p hp => by rw [up1_n (by omega), up1_n (by omega), up1_n (by omega), up1_n (by omega)]; exact hw.pl hp, fun u hu => ?_⟩
  rw [up1_n (by omega)] at hu
  have q := hw.tm hu
  have e5 : ∀ k, up1 a i v (39 + 12 * u) = a (39 + 12 * u) := fun _ => up1_n (by omega)
  refine ⟨?_, ?_, ?_, by rw [up1_n (by omega)]; exact q.2.2.2.1, fun k hk => ?_⟩
  · simp only [up1]
    split <;> omega
  · simp only [up1]
    split <;> omega
  · simp only [up1]
    split <;> omega
  · rw [up1_n (by omega)] at hk
    rw [up1_n (by have := q.2.2.2.1; omega)]
    exact q.2.2.2.2 k hk
/-- team t's route anew -/
def rt (a : AS) (t n : Nat) (f : Nat → Nat) : AS := fun j => if 40 + 12 * t ≤ j ∧ j < 40 + 12 * t + n then f (j - (40 + 12 * t)) else a j
theorem rt_n {a : AS} {t n j : Nat} {f : Nat → Nat} (h : ¬ (40 + 12 * t ≤ j ∧ j < 40 + 12 * t + n)) : rt a t n f j = a j := if_neg h
theorem rt_s {a : AS} {t n k : Nat} {f : Nat → Nat} (h : k < n) : rt a t n f (40 + 12 * t + k) = f k := by
  unfold rt
  rw [if_pos (by omega), show 40 + 12 * t + k - (40 + 12 * t) = k by omega]
theorem RS.route {μ ν : Mu} {s u : Nat} {a : AS} {f : Nat → Nat} (hu : u < a 3) (hw : Wf a) (h : RS μ s a) (h1 : ∀ q k, q ≠ s + 7 + 2 * u → ν q k = μ q k) (h2 : ∀ k, k < a (39 + 12 * u) → ν (s + 7 + 2 * u) k = nI (f k)) : RS ν s (rt a u (a (39 + 12 * u)) f) := by
  obtain ⟨g1, g2, g3, ⟨m, g4, g5, g6⟩, g7⟩ := h
  have n8 := (hw.tm hu).2.2.2.1
  refine ⟨fun j hj => ?_, ?_, fun p hp => ⟨?_, ?_, ?_⟩, ⟨m, g4, ?_, fun p hp => ?_⟩, fun t ht => ?_⟩
  · rw [h1 _ _ (by omega), rt_n (by omega)]
    exact g1 j hj
  · rw [h1 _ _ (by omega), rt_n (by omega)]
    exact g2
  · rw [h1 _ _ (by omega), rt_n (by omega)]
    exact (g3 p hp).1
  · rw [h1 _ _ (by omega), rt_n (by omega)]
    exact (g3 p hp).2.1
  · rw [h1 _ _ (by omega), rt_n (by omega)]
    exact (g3 p hp).2.2
  · rw [h1 _ _ (by omega)]
    exact g5
  · rw [rt_n (by omega)]
    exact g6 p hp
  · rw [rt_n (by omega)] at ht
    have hl := (hw.tm ht).2.2.2.1.2
    by_cases e : t = u
    · subst e
      obtain ⟨q1, q2, q3, q4, q5⟩ := g7 t ht
      refine ⟨by rw [h1 _ _ (by omega), rt_n (by omega)]; exact q1, by rw [h1 _ _ (by omega), rt_n (by omega)]; exact q2, by rw [h1 _ _ (by omega), rt_n (by omega)]; exact q3, by rw [h1 _ _ (by omega), rt_n (by omega)]; exact q4, fun k hk => ?_⟩
      rw [rt_n (by omega)] at hk
      rw [rt_s hk]
      exact h2 k hk
    · exact ((g7 t ht).of (fun k _ _ => h1 _ _ (by omega)) (fun k => h1 _ _ (by omega))).ext hl (fun i _ _ => rt_n (by omega))
theorem wf_rt {a : AS} {t : Nat} {f : Nat → Nat} (hw : Wf a) (ht : t < a 3) (hf : ∀ k, k < a (39 + 12 * t) → f k < 8) : Wf (rt a t (a (39 + 12 * t)) f) := by
  have n8 := (hw.tm ht).2.2.2.1
  refine ⟨by rw [rt_n (by omega)]; exact hw.1, by rw [rt_n (by omega)]; exact hw.2.1, by rw [rt_n (by omega)]; exact hw.2.2.1, by rw [rt_n (by omega)]; exact hw.t6, fun p hp => by rw [rt_n (by omega), rt_n (by omega), rt_n (by omega), rt_n (by omega)]; exact hw.pl hp, fun u hu => ?_⟩
  rw [rt_n (by omega)] at hu
  have q := hw.tm hu
  refine ⟨by rw [rt_n (by omega)]; exact q.1, by rw [rt_n (by omega)]; exact q.2.1, by rw [rt_n (by omega)]; exact q.2.2.1, by rw [rt_n (by omega)]; exact q.2.2.2.1, fun k hk => ?_⟩
  rw [rt_n (by omega)] at hk
  by_cases e : u = t
  · subst e
    rw [rt_s hk]
    exact hf k hk
  · rw [rt_n (by have := q.2.2.2.1; omega)]
    exact q.2.2.2.2 k hk
theorem CX.off {μ ν : Mu} {c : CS} (hw : CW c) (h : ∀ q k, ¬ (19 ≤ q ∧ q < 77) → q < 227 → ν q k = μ q k) (hR : CX μ c) : CX ν c :=
  ⟨RS.same hw.1.t6 (fun i k g1 g2 => h i k (by omega) (by omega)) hR.1, CO.off hw (fun q k g1 g2 => h q k (by omega) g2) hR.2⟩
theorem CX.put {μ ν : Mu} {c : CS} {b : AS} (hw : CW c) (hx : CX μ c) (hb : RS ν 1 b) (h : ∀ q k, 77 ≤ q → ν q k = μ q k) : CX ν (cnow c b) := ⟨hb, (show CO ν c from CO.off hw (fun q k g1 g2 => h q k g1) hx.2)⟩
def o_close (c : CS) (v z : Int32) : Int32 × CS := if inR v 7 then (if kb (na c (7 + 4 * iN v) = 1) = z then (-100005, c) else (nI (opn (up1 (na c) (7 + 4 * iN v) (1 - na c (7 + 4 * iN v)))), cnow (crec c) (up1 (na c) (7 + 4 * iN v) (1 - na c (7 + 4 * iN v))))) else (-100001, c)
def o_start (c : CS) (v w : Int32) : Int32 × CS := if inT v (na c 3) then (if inR w 200 then (nI (na c (36 + 12 * iN v)), cnow (crec c) (up1 (na c) (36 + 12 * iN v) (iN w))) else (-100002, c)) else (-100001, c)
/-- the end of team t in the game of all teams -/
def edA (a : AS) (t : Nat) : Nat := OV a (a 3) t
def o_hint (c : CS) (v w z : Int32) : Int32 × CS := if inT v (na c 3) then (if inR w 7 then (if kb (na c (37 + 12 * iN v) / 2 ^ iN w % 2 = 1) = z then (-100005, c) else (nI (edA (up1 (na c) (37 + 12 * iN v) (na c (37 + 12 * iN v) ^^^ 2 ^ iN w)) (iN v)), cnow (crec c) (up1 (na c) (37 + 12 * iN v) (na c (37 + 12 * iN v) ^^^ 2 ^ iN w)))) else (-100001, c)) else (-100001, c)
def o_lose (c : CS) (v w : Int32) : Int32 × CS := if inT v (na c 3) then (if w = -1 ∨ inR w 7 then (nI (edA (up1 (na c) (38 + 12 * iN v) (iN (w + nI 1))) (iN v)), cnow (crec c) (up1 (na c) (38 + 12 * iN v) (iN (w + nI 1)))) else (-100001, c)) else (-100001, c)
/-- team t's route turned by b -/
def trn (a : AS) (t b : Nat) : AS := rt a t (a (39 + 12 * t)) (fun k => a (40 + 12 * t + (k + b) % a (39 + 12 * t)))
/-- two of team t's places exchanged -/
def xch (a : AS) (t i j : Nat) : AS := rt a t (a (39 + 12 * t)) (up1 (up1 (fun k => a (40 + 12 * t + k)) i (a (40 + 12 * t + j))) j (a (40 + 12 * t + i)))
def o_turn (c : CS) (v w : Int32) : Int32 × CS := if inT v (na c 3) then (if ¬ w < nI 1 ∧ w < nI (na c (39 + 12 * iN v)) then (nI (trn (na c) (iN v) (iN w) (40 + 12 * iN v)), cnow (crec c) (trn (na c) (iN v) (iN w))) else (-100002, c)) else (-100001, c)
def o_exchange (c : CS) (v x y : Int32) : Int32 × CS := if inT v (na c 3) then (if inT x (na c (39 + 12 * iN v)) then (if inT y (na c (39 + 12 * iN v)) then (if x = y then (-100002, c) else (nI (edA (xch (na c) (iN v) (iN x) (iN y)) (iN v)), cnow (crec c) (xch (na c) (iN v) (iN x) (iN y)))) else (-100001, c)) else (-100001, c)) else (-100001, c)
section CHGB
variable {l : Launch} {E : EY} {D : va_G} {cA : Nat → ClassId} {fin : Option Value → Mu → Prop} {μ : Mu} {d : Nat}
set_option maxRecDepth 100000 in
set_option maxHeartbeats 4000000 in
theorem x_close {c : CS} (hw : CW c) (hx : CX μ c) {v z : Int32} (hf : ∀ ν : Mu, CX ν (o_close c v z).2 → SM ν μ → fin (some (.int (o_close c v z).1)) ν) : PS l E D cA mX5_close (d + 4) fin 0 [some (.ref 0), some (.int v), some (.int z)] [] μ := by
  have hq := hx
  refine pw_iload_n dX5_close_0 rfl ?_
  refine ps_callS (As := [.int v]) (st := []) dX5_close_1 cs_X5_67 rfl (Nat.le_of_ble_eq_true rfl) (Nat.le_of_ble_eq_true rfl) ?_
  refine c_isPlace ?_
  refine pw_if_ne (tgt := 10) dX5_close_4 (by decide) (fun h9 => ?_) (fun h9 => ?_)
  · have h1 := kb_ne0.mp h9
    obtain ⟨p, hp, rfl⟩ := (rg_to (by decide)).mp h1
    have hp8 : p < 8 := by omega
    have hpn : iN (nI p) = p := iN_nI (by omega)
    obtain ⟨m, hm8, hm, hb⟩ := hx.1.2.2.2.1
    refine pw_aload_n dX5_close_10 rfl ?_
    refine ps_getr (r := 1) dX5_close_11 kf_X5_10 (by decide) (by decide +kernel) ?_
    refine pw_iload_n dX5_close_14 rfl ?_
    refine ps_callV (b := 1) (As := [.int (nI p)]) (st := []) dX5_close_15 cv_X5_81 rfl ⟨by decide, by decide +kernel⟩ (Nat.le_of_ble_eq_true rfl) (Nat.le_of_ble_eq_true rfl) ?_
    refine c_S_isClosed isS_1 hm8 hp8 hm ?_
    refine pw_iload_n dX5_close_18 rfl ?_
    rw [hb p hp8]
    refine pw_icmp_ne (tgt := 25) dX5_close_19 (by decide) (fun h2 => ?_) (fun h2 => ?_)
    · refine pw_aload_n dX5_close_25 rfl ?_
      refine ps_getr (r := 79) dX5_close_26 kf_X5_36 (by decide) (by decide +kernel) ?_
      refine pw_aload_n dX5_close_29 rfl ?_
      refine ps_getr (r := 1) dX5_close_30 kf_X5_10 (by decide) (by decide +kernel) ?_
      refine ps_callV (b := 79) (As := [.ref 1]) (st := []) dX5_close_33 cv_X5_60 rfl ⟨by decide, by decide +kernel⟩ (Nat.le_of_ble_eq_true rfl) (Nat.le_of_ble_eq_true rfl) ?_
      refine c_record hw.1.t6 (fun j hj => (hw.2.1 j hj).t6) hx.1 hx.2.1 ?_
      intro ν hR ν9
      have hz := hx.rec hw hR ν9
      have hwz := hw.rec
      have hS : SM ν μ := fun q k g => ν9 q k (by omega) (by omega)
      show PS l E D cA mX5_close (d + 4) fin 36 [some (.ref 0), some (.int (nI p)), some (.int z)] [] ν
      refine pw_aload_n dX5_close_36 rfl ?_
      refine ps_getr (r := 1) dX5_close_37 kf_X5_10 (by decide) (by decide +kernel) ?_
      refine pw_aload_n dX5_close_40 rfl ?_
      refine ps_getr (r := 1) dX5_close_41 kf_X5_10 (by decide) (by decide +kernel) ?_
      refine ps_geti (x := nI m) dX5_close_44 kf_X5_85 (by decide) (by decide +kernel) ((ν9 1 4 (by decide) (by decide)).trans hm) ?_
      refine pw_iconst_ (v := nI 1) dX5_close_47 (by decide) ?_
      refine pw_iload_n dX5_close_48 rfl ?_
      refine pw_ishl dX5_close_49 ?_
      refine pw_ixor dX5_close_50 ?_
      rw [(bit_xor m hm8 p hp8).1]
      refine ps_puti dX5_close_51 kf_X5_85 (by decide) rfl (by decide +kernel) ?_
      refine pw_aload_n dX5_close_54 rfl ?_
      refine ps_getr (r := 1) dX5_close_55 kf_X5_10 (by decide) (by decide +kernel) ?_
      have x8 := (bit_xor m hm8 p hp8).2
      have hb2 : ∀ q, q < 8 → (m ^^^ 2 ^ p) / 2 ^ q % 2 = up1 (na c) (7 + 4 * p) (1 - na c (7 + 4 * p)) (7 + 4 * q) := fun q hq => by
        rw [bit_xor2 m hm8 p hp8 q hq, hb p hp8]
        by_cases e : q = p
        · subst e
          rw [if_pos rfl, up1_s]
        · rw [if_neg e, up1_n (by omega)]
          exact hb q hq
      have e9 : o_close c (nI p) z = (nI (8 - pop8 (m ^^^ 2 ^ p)), cnow (crec c) (up1 (na c) (7 + 4 * p) (1 - na c (7 + 4 * p)))) := by
        unfold o_close
        rw [if_pos h1, hpn, if_neg h2, opn_pop hb2]
      rw [e9] at hf
      refine ps_callV (b := 1) (As := []) (st := []) dX5_close_58 cv_X5_89 rfl ⟨by decide, by decide +kernel⟩ (Nat.le_of_ble_eq_true rfl) (Nat.le_of_ble_eq_true rfl) ?_
      refine c_S_openPlaces isS_1 x8 u2_s ?_
      exact ps_iret dX5_close_61 rfl (rfl) (hf _ (hz.put hwz (RS.closed hp8 x8 hb2 hw.1 hz.1) (fun q k g => u2_a (by omega))) (hS.up (by decide)))
    · refine pw_ldc dX5_close_22 kc_X5_84 ?_
      have e9 : o_close c (nI p) z = ((-100005), c) := by
        unfold o_close
        rw [if_pos h1, hpn, if_pos h2]
      rw [e9] at hf
      exact ps_iret dX5_close_24 rfl (rfl) (hf _ hx SM.rfl)
  · have h1 := kb_eq0.mp h9
    refine pw_ldc dX5_close_7 kc_X5_71 ?_
    have e9 : o_close c v z = ((-100001), c) := by
      unfold o_close
      rw [if_neg h1]
    rw [e9] at hf
    exact ps_iret dX5_close_9 rfl (rfl) (hf _ hx SM.rfl)
set_option maxRecDepth 100000 in
set_option maxHeartbeats 4000000 in
theorem x_start {c : CS} (hw : CW c) (hx : CX μ c) {v w : Int32} (hf : ∀ ν : Mu, CX ν (o_start c v w).2 → SM ν μ → fin (some (.int (o_start c v w).1)) ν) : PS l E D cA mX5_start (d + 4) fin 0 [some (.ref 0), some (.int v), some (.int w), none] [] μ := by
  have hq := hx
  refine pw_aload_n dX5_start_0 rfl ?_
  refine pw_iload_n dX5_start_1 rfl ?_
  refine ps_callV (b := 0) (As := [.int v]) (st := []) dX5_start_2 cv_X5_121 rfl ⟨by decide, by decide +kernel⟩ (Nat.le_of_ble_eq_true rfl) (Nat.le_of_ble_eq_true rfl) ?_
  refine c_isTeam hx.1.2.1 ?_
  refine pw_if_ne (tgt := 11) dX5_start_5 (by decide) (fun h9 => ?_) (fun h9 => ?_)
  · have h1 := kb_ne0.mp h9
    obtain ⟨t, ht, rfl⟩ := (rg_nat (by have := hw.1.t6; omega)).mp h1
    have t6 : t < 6 := Nat.lt_of_lt_of_le ht hw.1.t6
    have htn : iN (nI t) = t := iN_nI (by omega)
    refine pw_iload_n dX5_start_11 rfl ?_
    refine pw_iconst_ (v := nI 0) dX5_start_12 (by decide) ?_
    refine pw_sipush (v := nI 200) dX5_start_13 (by decide) ?_
    refine ps_callS (As := [.int w, .int (nI 0), .int (nI 200)]) (st := []) dX5_start_16 cs_X5_48 rfl (Nat.le_of_ble_eq_true rfl) (Nat.le_of_ble_eq_true rfl) ?_
    refine c_isFrom ?_
    refine pw_if_ne (tgt := 25) dX5_start_19 (by decide) (fun h9 => ?_) (fun h9 => ?_)
    · have h2 := kb_ne0.mp h9
      obtain ⟨k, hk, rfl⟩ := (rg_to (by decide)).mp h2
      refine pw_aload_n dX5_start_25 rfl ?_
      refine ps_getr (r := 79) dX5_start_26 kf_X5_36 (by decide) (by decide +kernel) ?_
      refine pw_aload_n dX5_start_29 rfl ?_
      refine ps_getr (r := 1) dX5_start_30 kf_X5_10 (by decide) (by decide +kernel) ?_
      refine ps_callV (b := 79) (As := [.ref 1]) (st := []) dX5_start_33 cv_X5_60 rfl ⟨by decide, by decide +kernel⟩ (Nat.le_of_ble_eq_true rfl) (Nat.le_of_ble_eq_true rfl) ?_
      refine c_record hw.1.t6 (fun j hj => (hw.2.1 j hj).t6) hx.1 hx.2.1 ?_
      intro ν hR ν9
      have hz := hx.rec hw hR ν9
      have hwz := hw.rec
      have hS : SM ν μ := fun q k g => ν9 q k (by omega) (by omega)
      show PS l E D cA mX5_start (d + 4) fin 36 [some (.ref 0), some (.int (nI t)), some (.int (nI k)), none] [] ν
      refine pw_aload_n dX5_start_36 rfl ?_
      refine ps_getr (r := 1) dX5_start_37 kf_X5_10 (by decide) (by decide +kernel) ?_
      refine ps_getr (r := 6) dX5_start_40 kf_X5_102 (by decide) (by decide +kernel) ?_
      refine pw_iload_n dX5_start_43 rfl ?_
      refine ps_aald (t := 5) (j := t) (r := 7 + 2 * t) dX5_start_44 rfl (ok_T (by unfold isS; decide : isS 1) (by omega)).1 (by decide) ?_
      refine ps_geti (x := nI (na c (36 + 12 * t))) dX5_start_45 kf_X5_110 (by decide) ((ok_T (by unfold isS; decide : isS 1) (by omega)).2.2.2.1) (hz.1.2.2.2.2 t ht).2.1 ?_
      refine px_istore_n (ls' := [some (.ref 0), some (.int (nI t)), some (.int (nI k)), some (.int (nI (na c (36 + 12 * t))))]) dX5_start_48 rfl rfl (by decide) ?_
      refine pw_aload_n dX5_start_49 rfl ?_
      refine ps_getr (r := 1) dX5_start_50 kf_X5_10 (by decide) (by decide +kernel) ?_
      refine ps_getr (r := 6) dX5_start_53 kf_X5_102 (by decide) (by decide +kernel) ?_
      refine pw_iload_n dX5_start_56 rfl ?_
      refine ps_aald (t := 5) (j := t) (r := 7 + 2 * t) dX5_start_57 rfl (ok_T (by unfold isS; decide : isS 1) (by omega)).1 (by decide) ?_
      refine pw_iload_n dX5_start_58 rfl ?_
      refine ps_puti dX5_start_59 kf_X5_110 (by decide) rfl ((ok_T (by unfold isS; decide : isS 1) (by omega)).2.2.2.1) ?_
      refine pw_iload_n dX5_start_62 rfl ?_
      have e9 : o_start c (nI t) (nI k) = (nI (na c (36 + 12 * t)), cnow (crec c) (up1 (na c) (36 + 12 * t) k)) := by
        unfold o_start
        rw [if_pos h1, htn, if_pos h2, iN_nI (by omega)]
      rw [e9] at hf
      exact ps_iret dX5_start_63 rfl (rfl) (hf _ (hz.put hwz (RS.start t6 hw.1 hz.1) (fun q k g => u2_a (by omega))) (hS.up (by omega)))
    · have h2 := kb_eq0.mp h9
      refine pw_ldc dX5_start_22 kc_X5_52 ?_
      have e9 : o_start c (nI t) w = ((-100002), c) := by
        unfold o_start
        rw [if_pos h1, if_neg h2]
      rw [e9] at hf
      exact ps_iret dX5_start_24 rfl (rfl) (hf _ hx SM.rfl)
  · have h1 := kb_eq0.mp h9
    refine pw_ldc dX5_start_8 kc_X5_71 ?_
    have e9 : o_start c v w = ((-100001), c) := by
      unfold o_start
      rw [if_neg h1]
    rw [e9] at hf
    exact ps_iret dX5_start_10 rfl (rfl) (hf _ hx SM.rfl)
end CHGB
