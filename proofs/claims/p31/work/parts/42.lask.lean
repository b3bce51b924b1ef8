/-! the law asks: the class by numbers; cell, low, size, visit -/
theorem inT_iff {v : Int32} {n : Nat} (hn : n < 2 ^ 30) : inT v n ↔ 0 ≤ v.toInt ∧ v.toInt < (n : Int) := by
  show (¬ v < nI 0 ∧ ¬ nI n - nI 1 < v) ↔ _
  rw [Int32.lt_iff_toInt_lt, Int32.lt_iff_toInt_lt, pk_sub_toInt (by omega) (by decide), nI_toInt (by decide)]
  omega
theorem inR_iff {v : Int32} {n : Nat} (hn : n < 2 ^ 30) : inR v n ↔ 0 ≤ v.toInt ∧ v.toInt ≤ (n : Int) := by
  show (¬ v < nI 0 ∧ ¬ nI n < v) ↔ _
  rw [Int32.lt_iff_toInt_lt, Int32.lt_iff_toInt_lt, nI_toInt (by decide), nI_toInt (by omega)]
  omega
theorem inT_nI {t n : Nat} (h : t < n) (hn : n < 2 ^ 30) : inT (nI t) n := by
  rw [inT_iff hn, nI_toInt (by omega)]
  omega
theorem inR_nI {t n : Nat} (h : t ≤ n) (hn : n < 2 ^ 30) : inR (nI t) n := by
  rw [inR_iff hn, nI_toInt (by omega)]
  omega
theorem inT_no {t n : Nat} (h : n ≤ t) (ht : t < 2 ^ 30) : ¬ inT (nI t) n := by
  rw [inT_iff (by omega), nI_toInt (by omega)]
  omega
theorem inR_no {t n : Nat} (h : n < t) (ht : t < 2 ^ 30) : ¬ inR (nI t) n := by
  rw [inR_iff (by omega), nI_toInt (by omega)]
  omega
theorem inT_neg {n : Nat} (hn : n < 2 ^ 30) : ¬ inT (-1) n := by
  rw [inT_iff hn]
  have : (-1 : Int32).toInt = -1 := by decide
  omega
theorem wk_mx {a : AS} (hw : Wf a) {t v : Nat} (ht : t < a 3) (h : v < tl a t) : wk a t v ≤ 200 := wk_le hw ht h
section LASK
variable {l : Launch} {E : EY} {D : va_G} {cA : Nat → ClassId} {fin : Option Value → Mu → Prop} {μ : Mu} {d : Nat}
theorem l_teamOf {x : Int32} {c : CS} (hw : CW c) (hx : CX μ c) {t k : Nat} (ht : t < na c 3) (hk : k ≤ 9) (e : tmN (na c) t k = x) (hf : ∀ ν : Mu, CX ν c → fin (some (.int x)) ν) : PS l E D cA mX5_teamOf (d + 5) fin 0 [some (.ref 0), some (.int (nI t)), some (.int (nI k))] [] μ := by
  have h6 := hw.1.t6
  have e2 : o_teamOf c (nI t) (nI k) = (x, c) := by
    unfold o_teamOf
    rw [if_pos (inT_nI ht (by omega)), if_pos (inR_nI hk (by decide)), iN_nI (by omega), iN_nI (by omega), e]
  refine x_teamOf hw hx (fun ν h1 _ => ?_)
  rw [e2] at h1 ⊢
  exact hf ν h1
theorem l_placeOf {x : Int32} {c : CS} (hw : CW c) (hx : CX μ c) {p k : Nat} (hp : p < 8) (hk : k ≤ 7) (e : plN (na c) p k = x) (hf : ∀ ν : Mu, CX ν c → fin (some (.int x)) ν) : PS l E D cA mX5_placeOf (d + 5) fin 0 [some (.ref 0), some (.int (nI p)), some (.int (nI k))] [] μ := by
  have e2 : o_placeOf c (nI p) (nI k) = (x, c) := by
    unfold o_placeOf
    rw [if_pos (inR_nI (by omega) (by decide)), if_pos (inR_nI hk (by decide)), iN_nI (by omega), iN_nI (by omega), e]
  refine x_placeOf hw hx (fun ν h1 _ => ?_)
  rw [e2] at h1 ⊢
  exact hf ν h1
theorem l_visit {x : Int32} {c : CS} (hw : CW c) (hx : CX μ c) {t v k : Nat} (ht : t < na c 3) (hv : v < tl (na c) t) (hk : k ≤ 4) (e : vsN (na c) t v k = x) (hf : ∀ ν : Mu, CX ν c → fin (some (.int x)) ν) : PS l E D cA mX5_visit (d + 5) fin 0 [some (.ref 0), some (.int (nI t)), some (.int (nI v)), some (.int (nI k))] [] μ := by
  have h6 := hw.1.t6
  have h8 := tl_le hw.1 ht
  have e2 : o_visit c (nI t) (nI v) (nI k) = (x, c) := by
    unfold o_visit
    rw [if_pos (inT_nI ht (by omega)), if_pos (inR_nI hk (by decide)), iN_nI (by omega), if_pos (inT_nI hv (by omega)), iN_nI (by omega), iN_nI (by omega), e]
  refine x_visit hw hx (fun ν h1 _ => ?_)
  rw [e2] at h1 ⊢
  exact hf ν h1
theorem l_visitN {x : Int32} {c : CS} (hw : CW c) (hx : CX μ c) {t k : Nat} {u : Int32} (ht : t < na c 3) (hv : ¬ inT u (tl (na c) t)) (hk : k ≤ 4) (e : -100006 = x) (hf : ∀ ν : Mu, CX ν c → fin (some (.int x)) ν) : PS l E D cA mX5_visit (d + 5) fin 0 [some (.ref 0), some (.int (nI t)), some (.int u), some (.int (nI k))] [] μ := by
  have h6 := hw.1.t6
  have e2 : o_visit c (nI t) u (nI k) = (x, c) := by
    unfold o_visit
    rw [if_pos (inT_nI ht (by omega)), if_pos (inR_nI hk (by decide)), iN_nI (by omega), if_neg hv, e]
  refine x_visit hw hx (fun ν h1 _ => ?_)
  rw [e2] at h1 ⊢
  exact hf ν h1
theorem l_count {x : Int32} {c : CS} (hw : CW c) (hx : CX μ c) {k : Nat} (hk : k ≤ 12) (e : ctN c k = x) (hf : ∀ ν : Mu, CX ν c → fin (some (.int x)) ν) : PS l E D cA mX5_count (d + 5) fin 0 [some (.ref 0), some (.int (nI k))] [] μ := by
  have e2 : o_count c (nI k) = (x, c) := by
    unfold o_count
    rw [if_pos (inR_nI hk (by decide)), iN_nI (by omega), e]
  refine x_count hw hx (fun ν h1 _ => ?_)
  rw [e2] at h1 ⊢
  exact hf ν h1
theorem l_told {x : Int32} {c : CS} (hw : CW c) (hx : CX μ c) {t m : Nat} (ht : t < na c 3) (hm : m < 2 ^ 31) (e : eP (na c) t (tld (na c) (na c 3) t m) = x) (hf : ∀ ν : Mu, CX ν c → fin (some (.int x)) ν) : PS l E D cA mX5_told (d + 5) fin 0 [some (.ref 0), some (.int (nI t)), some (.int (nI m))] [] μ := by
  have h6 := hw.1.t6
  have e2 : o_told c (nI t) (nI m) = (x, c) := by
    unfold o_told
    rw [if_pos (inT_nI ht (by omega)), if_pos (nI_pos hm), iN_nI (by omega), iN_nI hm, e]
  refine x_told hw hx (fun ν h1 _ => ?_)
  rw [e2] at h1 ⊢
  exact hf ν h1
theorem l_where {x : Int32} {c : CS} (hw : CW c) (hx : CX μ c) {t m : Nat} (ht : t < na c 3) (hm : m < 2 ^ 31) (e : eP (na c) t (whr (na c) (na c 3) t m) = x) (hf : ∀ ν : Mu, CX ν c → fin (some (.int x)) ν) : PS l E D cA mX5_where (d + 5) fin 0 [some (.ref 0), some (.int (nI t)), some (.int (nI m))] [] μ := by
  have h6 := hw.1.t6
  have e2 : o_where c (nI t) (nI m) = (x, c) := by
    unfold o_where
    rw [if_pos (inT_nI ht (by omega)), if_pos (nI_pos hm), iN_nI (by omega), iN_nI hm, e]
  refine x_where hw hx (fun ν h1 _ => ?_)
  rw [e2] at h1 ⊢
  exact hf ν h1
end LASK
/-- the law's low -/
def lwM (x : Int32) : Nat := (x &&& 2147483647).toBitVec.toNat
def lwN (x : Int32) (n : Nat) : Nat := lwM x % n
theorem lwN_lt {x : Int32} {n : Nat} (h : 0 < n) : lwN x n < n := Nat.mod_lt _ h
theorem and_max (x : Int32) : lwM x < 2 ^ 31 ∧ x &&& 2147483647 = nI (lwM x) := by
  unfold lwM
  refine ⟨?_, ?_⟩
  · show ((x.toBitVec &&& (2147483647 : Int32).toBitVec) : BitVec 32).toNat < 2 ^ 31
    rw [BitVec.toNat_and]
    exact Nat.lt_of_le_of_lt Nat.and_le_right (by decide)
  · apply Int32.toBitVec_inj.mp
    show _ = BitVec.ofNat 32 _
    simp
section LSM
variable {l : Launch} {E : EV} {D : va_G} {cA : Nat → ClassId} {fin : Option Value → Mu → List PE → Prop} {μ : Mu} {Y : List PE} {d : Nat}
set_option maxRecDepth 100000 in
set_option maxHeartbeats 4000000 in
theorem l_low {v : Int32} {n : Nat} (h0 : 0 < n) (hn : n < 2 ^ 31) (hf : fin (some (.int (nI (lwN v n)))) μ Y) : PL l E D cA Y.length (kv_sum Y) mL_low d fin 0 [some (.int v), some (.int (nI n))] [] μ Y := by
  refine pw_iload_n dL_low_0 rfl ?_
  refine pw_ldc dL_low_1 kc_L_8 ?_
  obtain ⟨hm, hme⟩ := and_max v
  refine pw_iand dL_low_3 ?_
  rw [hme]
  refine pw_iload_n dL_low_4 rfl ?_
  refine px_iremn dL_low_5 (by omega) h0 (by omega) ?_
  show PL l E D cA Y.length (kv_sum Y) mL_low d fin 6 [some (.int v), some (.int (nI n))] [.int (nI (lwN v n))] μ Y
  exact pl_iret dL_low_6 rfl (rfl) rfl rfl hf
set_option maxRecDepth 100000 in
set_option maxHeartbeats 4000000 in
theorem l_size {x y : Nat} (hx : x < 2 ^ 30) (hy : y < 2 ^ 30) (hf : fin (some (.int (nI (dist x y)))) μ Y) : PL l E D cA Y.length (kv_sum Y) mL_size d fin 0 [some (.int (nI x - nI y))] [] μ Y := by
  refine pw_iload_n dL_size_0 rfl ?_
  have hd := abs_nI (x := x) (y := y) hx hy
  refine pw_if_ge (tgt := 9) dL_size_1 (by decide) (fun hc => ?_) (fun hc => ?_)
  · refine pw_iload_n dL_size_9 rfl ?_
    rw [if_pos hc] at hd
    rw [hd]
    exact pl_iret dL_size_10 rfl (rfl) rfl rfl hf
  · refine pw_iload_n dL_size_4 rfl ?_
    refine pw_ineg dL_size_5 ?_
    refine pw_goto (tgt := 10) dL_size_6 (by decide) ?_
    rw [if_neg hc, Int32.zero_sub] at hd
    rw [hd]
    exact pl_iret dL_size_10 rfl (rfl) rfl rfl hf
end LSM
