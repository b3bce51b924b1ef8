/-! State and Team: copies of states, bits, trails -/
theorem px_idivn {l : Launch} {E : EV} {D : va_G} {cA : Nat → ClassId} {N Z : Nat} {X : MT} {d : Nat} {fin : Option Value → List PE → Prop} {pc : Nat} {ls : List (Option Value)} {st : List Value} {M : List PE} {a b : Nat} (hd : decode X.2.2.1 pc = .ok (.idiv, 1)) (ha : a < 2 ^ 31) (h0 : 0 < b) (hb : b < 2 ^ 31) (kk : PW l E D cA N Z X d fin (pc + 1) ls (.int (nI (a / b)) :: st) M) : PW l E D cA N Z X d fin pc ls (.int (nI b) :: .int (nI a) :: st) M :=
  pw_idiv hd (fun h => absurd h (nI_ne0 h0 hb)) (by rw [pk_div ha h0 hb]; exact kk)
/-- how many of eight bits -/
def pop8 (m : Nat) : Nat := m / 1 % 2 + m / 2 % 2 + m / 4 % 2 + m / 8 % 2 + m / 16 % 2 + m / 32 % 2 + m / 64 % 2 + m / 128 % 2
/-- the places of the first i of a team's route that are open -/
def trp (a : AS) (t i : Nat) : List Nat := ((List.range i).map (fun k => a (40 + 12 * t + k))).filter (fun p => a (7 + 4 * p) == 0)
def tr (a : AS) (t : Nat) : List Nat := trp a t (a (39 + 12 * t))
theorem trp_0 (a : AS) (t : Nat) : trp a t 0 = [] := rfl
theorem trp_s (a : AS) (t i : Nat) : trp a t (i + 1) = trp a t i ++ (if a (7 + 4 * a (40 + 12 * t + i)) = 0 then [a (40 + 12 * t + i)] else []) := by
  unfold trp
  rw [List.range_succ, List.map_append, List.filter_append]
  congr 1
  by_cases h : a (7 + 4 * a (40 + 12 * t + i)) = 0
  · simp [h]
  · simp [h]
theorem trp_len (a : AS) (t i : Nat) : (trp a t i).length ≤ i := by
  unfold trp
  refine Nat.le_trans (List.length_filter_le _ _) ?_
  simp
section STATE2
variable {l : Launch} {E : EY} {D : va_G} {cA : Nat → ClassId} {fin : Option Value → Mu → Prop} {μ : Mu} {d : Nat}
set_option maxRecDepth 100000 in
set_option maxHeartbeats 4000000 in
theorem c_T_hasHint {s t h p : Nat} (hs : isS s) (ht : t < 6) (hh : h < 256) (hp : p < 8) (hv : μ (s + 6 + 2 * t) 3 = nI h) (hf : fin (some (.int (kb (h / 2 ^ p % 2 = 1)))) μ) : PS l E D cA mX4_hasHint d fin 0 [some (.ref (s + 6 + 2 * t)), some (.int (nI p))] [] μ := by
  refine pw_aload_n dX4_hasHint_0 rfl ?_
  refine ps_geti (x := nI h) dX4_hasHint_1 kf_X4_31 (by decide) ((ok_T hs ht).2.2.2.2.1) hv ?_
  refine pw_iload_n dX4_hasHint_4 rfl ?_
  refine pw_ishr dX4_hasHint_5 ?_
  refine pw_iconst_ (v := nI 1) dX4_hasHint_6 (by decide) ?_
  refine pw_iand dX4_hasHint_7 ?_
  refine pw_iconst_ (v := nI 1) dX4_hasHint_8 (by decide) ?_
  rw [bit_shr h hh p hp]
  have hb := bit_01 h p
  refine pn_ne (tgt := 16) dX4_hasHint_9 (by decide) (by omega) (by omega) (fun h1 => ?_) (fun h1 => ?_)
  · refine pw_iconst_ (v := nI 0) dX4_hasHint_16 (by decide) ?_
    exact ps_iret dX4_hasHint_17 rfl (by decide) (by rw [kb_f h1] at hf; exact hf)
  · refine pw_iconst_ (v := nI 1) dX4_hasHint_12 (by decide) ?_
    refine pw_goto (tgt := 17) dX4_hasHint_13 (by decide) ?_
    exact ps_iret dX4_hasHint_17 rfl (by decide) (by rw [kb_t h1] at hf; exact hf)
set_option maxRecDepth 100000 in
set_option maxHeartbeats 4000000 in
theorem c_S_isClosed {s h p : Nat} (hs : isS s) (hh : h < 256) (hp : p < 8) (hv : μ s 4 = nI h) (hf : fin (some (.int (kb (h / 2 ^ p % 2 = 1)))) μ) : PS l E D cA mX3_isClosed d fin 0 [some (.ref s), some (.int (nI p))] [] μ := by
  refine pw_aload_n dX3_isClosed_0 rfl ?_
  refine ps_geti (x := nI h) dX3_isClosed_1 kf_X3_40 (by decide) ((ok_S hs).2.2.2.2.1) hv ?_
  refine pw_iload_n dX3_isClosed_4 rfl ?_
  refine pw_ishr dX3_isClosed_5 ?_
  refine pw_iconst_ (v := nI 1) dX3_isClosed_6 (by decide) ?_
  refine pw_iand dX3_isClosed_7 ?_
  refine pw_iconst_ (v := nI 1) dX3_isClosed_8 (by decide) ?_
  rw [bit_shr h hh p hp]
  have hb := bit_01 h p
  refine pn_ne (tgt := 16) dX3_isClosed_9 (by decide) (by omega) (by omega) (fun h1 => ?_) (fun h1 => ?_)
  · refine pw_iconst_ (v := nI 0) dX3_isClosed_16 (by decide) ?_
    exact ps_iret dX3_isClosed_17 rfl (by decide) (by rw [kb_f h1] at hf; exact hf)
  · refine pw_iconst_ (v := nI 1) dX3_isClosed_12 (by decide) ?_
    refine pw_goto (tgt := 17) dX3_isClosed_13 (by decide) ?_
    exact ps_iret dX3_isClosed_17 rfl (by decide) (by rw [kb_t h1] at hf; exact hf)
set_option maxRecDepth 100000 in
theorem bc8 : ∀ m, m < 256 → ((((((((nI m) - ((((nI m).toUInt32 >>> ((nI 1).toUInt32 &&& Int32.toUInt32 31)).toInt32) &&& (1431655765))) &&& (858993459)) + (((((nI m) - ((((nI m).toUInt32 >>> ((nI 1).toUInt32 &&& Int32.toUInt32 31)).toInt32) &&& (1431655765))).toUInt32 >>> ((nI 2).toUInt32 &&& Int32.toUInt32 31)).toInt32) &&& (858993459))) + ((((((nI m) - ((((nI m).toUInt32 >>> ((nI 1).toUInt32 &&& Int32.toUInt32 31)).toInt32) &&& (1431655765))) &&& (858993459)) + (((((nI m) - ((((nI m).toUInt32 >>> ((nI 1).toUInt32 &&& Int32.toUInt32 31)).toInt32) &&& (1431655765))).toUInt32 >>> ((nI 2).toUInt32 &&& Int32.toUInt32 31)).toInt32) &&& (858993459))).toUInt32 >>> ((nI 4).toUInt32 &&& Int32.toUInt32 31)).toInt32)) &&& (252645135)) + ((((((((nI m) - ((((nI m).toUInt32 >>> ((nI 1).toUInt32 &&& Int32.toUInt32 31)).toInt32) &&& (1431655765))) &&& (858993459)) + (((((nI m) - ((((nI m).toUInt32 >>> ((nI 1).toUInt32 &&& Int32.toUInt32 31)).toInt32) &&& (1431655765))).toUInt32 >>> ((nI 2).toUInt32 &&& Int32.toUInt32 31)).toInt32) &&& (858993459))) + ((((((nI m) - ((((nI m).toUInt32 >>> ((nI 1).toUInt32 &&& Int32.toUInt32 31)).toInt32) &&& (1431655765))) &&& (858993459)) + (((((nI m) - ((((nI m).toUInt32 >>> ((nI 1).toUInt32 &&& Int32.toUInt32 31)).toInt32) &&& (1431655765))).toUInt32 >>> ((nI 2).toUInt32 &&& Int32.toUInt32 31)).toInt32) &&& (858993459))).toUInt32 >>> ((nI 4).toUInt32 &&& Int32.toUInt32 31)).toInt32)) &&& (252645135)).toUInt32 >>> ((nI 8).toUInt32 &&& Int32.toUInt32 31)).toInt32)) + (((((((((nI m) - ((((nI m).toUInt32 >>> ((nI 1).toUInt32 &&& Int32.toUInt32 31)).toInt32) &&& (1431655765))) &&& (858993459)) + (((((nI m) - ((((nI m).toUInt32 >>> ((nI 1).toUInt32 &&& Int32.toUInt32 31)).toInt32) &&& (1431655765))).toUInt32 >>> ((nI 2).toUInt32 &&& Int32.toUInt32 31)).toInt32) &&& (858993459))) + ((((((nI m) - ((((nI m).toUInt32 >>> ((nI 1).toUInt32 &&& Int32.toUInt32 31)).toInt32) &&& (1431655765))) &&& (858993459)) + (((((nI m) - ((((nI m).toUInt32 >>> ((nI 1).toUInt32 &&& Int32.toUInt32 31)).toInt32) &&& (1431655765))).toUInt32 >>> ((nI 2).toUInt32 &&& Int32.toUInt32 31)).toInt32) &&& (858993459))).toUInt32 >>> ((nI 4).toUInt32 &&& Int32.toUInt32 31)).toInt32)) &&& (252645135)) + ((((((((nI m) - ((((nI m).toUInt32 >>> ((nI 1).toUInt32 &&& Int32.toUInt32 31)).toInt32) &&& (1431655765))) &&& (858993459)) + (((((nI m) - ((((nI m).toUInt32 >>> ((nI 1).toUInt32 &&& Int32.toUInt32 31)).toInt32) &&& (1431655765))).toUInt32 >>> ((nI 2).toUInt32 &&& Int32.toUInt32 31)).toInt32) &&& (858993459))) + ((((((nI m) - ((((nI m).toUInt32 >>> ((nI 1).toUInt32 &&& Int32.toUInt32 31)).toInt32) &&& (1431655765))) &&& (858993459)) + (((((nI m) - ((((nI m).toUInt32 >>> ((nI 1).toUInt32 &&& Int32.toUInt32 31)).toInt32) &&& (1431655765))).toUInt32 >>> ((nI 2).toUInt32 &&& Int32.toUInt32 31)).toInt32) &&& (858993459))).toUInt32 >>> ((nI 4).toUInt32 &&& Int32.toUInt32 31)).toInt32)) &&& (252645135)).toUInt32 >>> ((nI 8).toUInt32 &&& Int32.toUInt32 31)).toInt32)).toUInt32 >>> ((nI 16).toUInt32 &&& Int32.toUInt32 31)).toInt32)) &&& (nI 63) = nI (pop8 m) := by decide +kernel
theorem pop8_le : ∀ m, pop8 m ≤ 8 := by
  intro m
  unfold pop8
  omega
set_option maxRecDepth 100000 in
set_option maxHeartbeats 4000000 in
theorem c_bitCount {m : Nat} (hm : m < 256) (hf : fin (some (.int (nI (pop8 m)))) μ) : PS l E D cA mJ6_bitCount_0f7a4 d fin 0 [some (.int (nI m))] [] μ := by
  refine pw_iload_n dJ6_bitCount_0f7a4_0 rfl ?_
  refine pw_iload_n dJ6_bitCount_0f7a4_1 rfl ?_
  refine pw_iconst_ (v := nI 1) dJ6_bitCount_0f7a4_2 (by decide) ?_
  refine pw_iushr dJ6_bitCount_0f7a4_3 rfl ?_
  refine pw_ldc_w dJ6_bitCount_0f7a4_4 kc_J6_265 ?_
  refine pw_iand dJ6_bitCount_0f7a4_7 ?_
  refine pw_isub dJ6_bitCount_0f7a4_8 ?_
  refine px_istore_n (ls' := [some (.int ((nI m) - ((((nI m).toUInt32 >>> ((nI 1).toUInt32 &&& Int32.toUInt32 31)).toInt32) &&& (1431655765))))]) dJ6_bitCount_0f7a4_9 rfl rfl (by decide) ?_
  refine pw_iload_n dJ6_bitCount_0f7a4_10 rfl ?_
  refine pw_ldc_w dJ6_bitCount_0f7a4_11 kc_J6_266 ?_
  refine pw_iand dJ6_bitCount_0f7a4_14 ?_
  refine pw_iload_n dJ6_bitCount_0f7a4_15 rfl ?_
  refine pw_iconst_ (v := nI 2) dJ6_bitCount_0f7a4_16 (by decide) ?_
  refine pw_iushr dJ6_bitCount_0f7a4_17 rfl ?_
  refine pw_ldc_w dJ6_bitCount_0f7a4_18 kc_J6_266 ?_
  refine pw_iand dJ6_bitCount_0f7a4_21 ?_
  refine pw_iadd dJ6_bitCount_0f7a4_22 ?_
  refine px_istore_n (ls' := [some (.int ((((nI m) - ((((nI m).toUInt32 >>> ((nI 1).toUInt32 &&& Int32.toUInt32 31)).toInt32) &&& (1431655765))) &&& (858993459)) + (((((nI m) - ((((nI m).toUInt32 >>> ((nI 1).toUInt32 &&& Int32.toUInt32 31)).toInt32) &&& (1431655765))).toUInt32 >>> ((nI 2).toUInt32 &&& Int32.toUInt32 31)).toInt32) &&& (858993459))))]) dJ6_bitCount_0f7a4_23 rfl rfl (by decide) ?_
  refine pw_iload_n dJ6_bitCount_0f7a4_24 rfl ?_
  refine pw_iload_n dJ6_bitCount_0f7a4_25 rfl ?_
  refine pw_iconst_ (v := nI 4) dJ6_bitCount_0f7a4_26 (by decide) ?_
  refine pw_iushr dJ6_bitCount_0f7a4_27 rfl ?_
  refine pw_iadd dJ6_bitCount_0f7a4_28 ?_
  refine pw_ldc_w dJ6_bitCount_0f7a4_29 kc_J6_267 ?_
  refine pw_iand dJ6_bitCount_0f7a4_32 ?_
  refine px_istore_n (ls' := [some (.int ((((((nI m) - ((((nI m).toUInt32 >>> ((nI 1).toUInt32 &&& Int32.toUInt32 31)).toInt32) &&& (1431655765))) &&& (858993459)) + (((((nI m) - ((((nI m).toUInt32 >>> ((nI 1).toUInt32 &&& Int32.toUInt32 31)).toInt32) &&& (1431655765))).toUInt32 >>> ((nI 2).toUInt32 &&& Int32.toUInt32 31)).toInt32) &&& (858993459))) + ((((((nI m) - ((((nI m).toUInt32 >>> ((nI 1).toUInt32 &&& Int32.toUInt32 31)).toInt32) &&& (1431655765))) &&& (858993459)) + (((((nI m) - ((((nI m).toUInt32 >>> ((nI 1).toUInt32 &&& Int32.toUInt32 31)).toInt32) &&& (1431655765))).toUInt32 >>> ((nI 2).toUInt32 &&& Int32.toUInt32 31)).toInt32) &&& (858993459))).toUInt32 >>> ((nI 4).toUInt32 &&& Int32.toUInt32 31)).toInt32)) &&& (252645135)))]) dJ6_bitCount_0f7a4_33 rfl rfl (by decide) ?_
  refine pw_iload_n dJ6_bitCount_0f7a4_34 rfl ?_
  refine pw_iload_n dJ6_bitCount_0f7a4_35 rfl ?_
  refine pw_bipush (v := nI 8) dJ6_bitCount_0f7a4_36 (by decide) ?_
  refine pw_iushr dJ6_bitCount_0f7a4_38 rfl ?_
  refine pw_iadd dJ6_bitCount_0f7a4_39 ?_
  refine px_istore_n (ls' := [some (.int (((((((nI m) - ((((nI m).toUInt32 >>> ((nI 1).toUInt32 &&& Int32.toUInt32 31)).toInt32) &&& (1431655765))) &&& (858993459)) + (((((nI m) - ((((nI m).toUInt32 >>> ((nI 1).toUInt32 &&& Int32.toUInt32 31)).toInt32) &&& (1431655765))).toUInt32 >>> ((nI 2).toUInt32 &&& Int32.toUInt32 31)).toInt32) &&& (858993459))) + ((((((nI m) - ((((nI m).toUInt32 >>> ((nI 1).toUInt32 &&& Int32.toUInt32 31)).toInt32) &&& (1431655765))) &&& (858993459)) + (((((nI m) - ((((nI m).toUInt32 >>> ((nI 1).toUInt32 &&& Int32.toUInt32 31)).toInt32) &&& (1431655765))).toUInt32 >>> ((nI 2).toUInt32 &&& Int32.toUInt32 31)).toInt32) &&& (858993459))).toUInt32 >>> ((nI 4).toUInt32 &&& Int32.toUInt32 31)).toInt32)) &&& (252645135)) + ((((((((nI m) - ((((nI m).toUInt32 >>> ((nI 1).toUInt32 &&& Int32.toUInt32 31)).toInt32) &&& (1431655765))) &&& (858993459)) + (((((nI m) - ((((nI m).toUInt32 >>> ((nI 1).toUInt32 &&& Int32.toUInt32 31)).toInt32) &&& (1431655765))).toUInt32 >>> ((nI 2).toUInt32 &&& Int32.toUInt32 31)).toInt32) &&& (858993459))) + ((((((nI m) - ((((nI m).toUInt32 >>> ((nI 1).toUInt32 &&& Int32.toUInt32 31)).toInt32) &&& (1431655765))) &&& (858993459)) + (((((nI m) - ((((nI m).toUInt32 >>> ((nI 1).toUInt32 &&& Int32.toUInt32 31)).toInt32) &&& (1431655765))).toUInt32 >>> ((nI 2).toUInt32 &&& Int32.toUInt32 31)).toInt32) &&& (858993459))).toUInt32 >>> ((nI 4).toUInt32 &&& Int32.toUInt32 31)).toInt32)) &&& (252645135)).toUInt32 >>> ((nI 8).toUInt32 &&& Int32.toUInt32 31)).toInt32)))]) dJ6_bitCount_0f7a4_40 rfl rfl (by decide) ?_
  refine pw_iload_n dJ6_bitCount_0f7a4_41 rfl ?_
  refine pw_iload_n dJ6_bitCount_0f7a4_42 rfl ?_
  refine pw_bipush (v := nI 16) dJ6_bitCount_0f7a4_43 (by decide) ?_
  refine pw_iushr dJ6_bitCount_0f7a4_45 rfl ?_
  refine pw_iadd dJ6_bitCount_0f7a4_46 ?_
  refine px_istore_n (ls' := [some (.int ((((((((nI m) - ((((nI m).toUInt32 >>> ((nI 1).toUInt32 &&& Int32.toUInt32 31)).toInt32) &&& (1431655765))) &&& (858993459)) + (((((nI m) - ((((nI m).toUInt32 >>> ((nI 1).toUInt32 &&& Int32.toUInt32 31)).toInt32) &&& (1431655765))).toUInt32 >>> ((nI 2).toUInt32 &&& Int32.toUInt32 31)).toInt32) &&& (858993459))) + ((((((nI m) - ((((nI m).toUInt32 >>> ((nI 1).toUInt32 &&& Int32.toUInt32 31)).toInt32) &&& (1431655765))) &&& (858993459)) + (((((nI m) - ((((nI m).toUInt32 >>> ((nI 1).toUInt32 &&& Int32.toUInt32 31)).toInt32) &&& (1431655765))).toUInt32 >>> ((nI 2).toUInt32 &&& Int32.toUInt32 31)).toInt32) &&& (858993459))).toUInt32 >>> ((nI 4).toUInt32 &&& Int32.toUInt32 31)).toInt32)) &&& (252645135)) + ((((((((nI m) - ((((nI m).toUInt32 >>> ((nI 1).toUInt32 &&& Int32.toUInt32 31)).toInt32) &&& (1431655765))) &&& (858993459)) + (((((nI m) - ((((nI m).toUInt32 >>> ((nI 1).toUInt32 &&& Int32.toUInt32 31)).toInt32) &&& (1431655765))).toUInt32 >>> ((nI 2).toUInt32 &&& Int32.toUInt32 31)).toInt32) &&& (858993459))) + ((((((nI m) - ((((nI m).toUInt32 >>> ((nI 1).toUInt32 &&& Int32.toUInt32 31)).toInt32) &&& (1431655765))) &&& (858993459)) + (((((nI m) - ((((nI m).toUInt32 >>> ((nI 1).toUInt32 &&& Int32.toUInt32 31)).toInt32) &&& (1431655765))).toUInt32 >>> ((nI 2).toUInt32 &&& Int32.toUInt32 31)).toInt32) &&& (858993459))).toUInt32 >>> ((nI 4).toUInt32 &&& Int32.toUInt32 31)).toInt32)) &&& (252645135)).toUInt32 >>> ((nI 8).toUInt32 &&& Int32.toUInt32 31)).toInt32)) + (((((((((nI m) - ((((nI m).toUInt32 >>> ((nI 1).toUInt32 &&& Int32.toUInt32 31)).toInt32) &&& (1431655765))) &&& (858993459)) + (((((nI m) - ((((nI m).toUInt32 >>> ((nI 1).toUInt32 &&& Int32.toUInt32 31)).toInt32) &&& (1431655765))).toUInt32 >>> ((nI 2).toUInt32 &&& Int32.toUInt32 31)).toInt32) &&& (858993459))) + ((((((nI m) - ((((nI m).toUInt32 >>> ((nI 1).toUInt32 &&& Int32.toUInt32 31)).toInt32) &&& (1431655765))) &&& (858993459)) + (((((nI m) - ((((nI m).toUInt32 >>> ((nI 1).toUInt32 &&& Int32.toUInt32 31)).toInt32) &&& (1431655765))).toUInt32 >>> ((nI 2).toUInt32 &&& Int32.toUInt32 31)).toInt32) &&& (858993459))).toUInt32 >>> ((nI 4).toUInt32 &&& Int32.toUInt32 31)).toInt32)) &&& (252645135)) + ((((((((nI m) - ((((nI m).toUInt32 >>> ((nI 1).toUInt32 &&& Int32.toUInt32 31)).toInt32) &&& (1431655765))) &&& (858993459)) + (((((nI m) - ((((nI m).toUInt32 >>> ((nI 1).toUInt32 &&& Int32.toUInt32 31)).toInt32) &&& (1431655765))).toUInt32 >>> ((nI 2).toUInt32 &&& Int32.toUInt32 31)).toInt32) &&& (858993459))) + ((((((nI m) - ((((nI m).toUInt32 >>> ((nI 1).toUInt32 &&& Int32.toUInt32 31)).toInt32) &&& (1431655765))) &&& (858993459)) + (((((nI m) - ((((nI m).toUInt32 >>> ((nI 1).toUInt32 &&& Int32.toUInt32 31)).toInt32) &&& (1431655765))).toUInt32 >>> ((nI 2).toUInt32 &&& Int32.toUInt32 31)).toInt32) &&& (858993459))).toUInt32 >>> ((nI 4).toUInt32 &&& Int32.toUInt32 31)).toInt32)) &&& (252645135)).toUInt32 >>> ((nI 8).toUInt32 &&& Int32.toUInt32 31)).toInt32)).toUInt32 >>> ((nI 16).toUInt32 &&& Int32.toUInt32 31)).toInt32)))]) dJ6_bitCount_0f7a4_47 rfl rfl (by decide) ?_
  refine pw_iload_n dJ6_bitCount_0f7a4_48 rfl ?_
  refine pw_bipush (v := nI 63) dJ6_bitCount_0f7a4_49 (by decide) ?_
  refine pw_iand dJ6_bitCount_0f7a4_51 ?_
  rw [bc8 m hm]
  exact ps_iret dJ6_bitCount_0f7a4_52 rfl (rfl) hf
set_option maxRecDepth 100000 in
set_option maxHeartbeats 4000000 in
theorem c_S_openPlaces {s m : Nat} (hs : isS s) (hm : m < 256) (hv : μ s 4 = nI m) (hf : fin (some (.int (nI (8 - pop8 m)))) μ) : PS l E D cA mX3_openPlaces (d + 1) fin 0 [some (.ref s)] [] μ := by
  refine pw_bipush (v := nI 8) dX3_openPlaces_0 (by decide) ?_
  refine pw_aload_n dX3_openPlaces_2 rfl ?_
  refine ps_geti (x := nI m) dX3_openPlaces_3 kf_X3_40 (by decide) ((ok_S hs).2.2.2.2.1) hv ?_
  refine ps_callS (As := [.int (nI m)]) (st := [.int (nI 8)]) dX3_openPlaces_6 cs_X3_51 rfl (Nat.le_of_ble_eq_true rfl) (Nat.le_of_ble_eq_true rfl) ?_
  refine c_bitCount hm ?_
  show PS l E D cA mX3_openPlaces (d + 1) fin 9 [some (.ref s)] [.int (nI (pop8 m)), .int (nI 8)] μ
  refine pn_isub (pop8_le m) dX3_openPlaces_9 ?_
  exact ps_iret dX3_openPlaces_10 rfl (rfl) hf
theorem nI1_ne : nI 1 ≠ 0 := by decide
set_option maxRecDepth 100000 in
set_option maxHeartbeats 4000000 in
theorem c_S_lookOf {s t p h k : Nat} (hs : isS s) (ht : t < 6) (hh : h < 256) (hp : p < 8) (hv : μ (s + 6 + 2 * t) 3 = nI h) (hk : μ (s + 4) p = nI k) (hks : k ≤ 15) (hf : fin (some (.int (nI (if h / 2 ^ p % 2 = 1 then (k + 1) / 2 else k)))) μ) : PS l E D cA mX3_lookOf (d + 1) fin 0 [some (.ref s), some (.int (nI t)), some (.int (nI p))] [] μ := by
  refine pw_aload_n dX3_lookOf_0 rfl ?_
  refine ps_getr (r := s + 5) dX3_lookOf_1 kf_X3_26 (by decide) ((ok_S hs).2.2.2.2.2.1) ?_
  refine pw_iload_n dX3_lookOf_4 rfl ?_
  refine ps_aald (t := 5) (j := t) (r := s + 6 + 2 * t) dX3_lookOf_5 rfl (ok_T hs ht).1 (by decide) ?_
  refine pw_iload_n dX3_lookOf_6 rfl ?_
  refine ps_callV (b := s + 6 + 2 * t) (As := [.int (nI p)]) (st := []) dX3_lookOf_7 cv_X3_67 rfl ⟨(okk_of (ok_T hs ht).2.1).1, (okk_of (ok_T hs ht).2.1).2.1⟩ (Nat.le_of_ble_eq_true rfl) (Nat.le_of_ble_eq_true rfl) ?_
  refine c_T_hasHint hs ht hh hp hv ?_
  show PS l E D cA mX3_lookOf (d + 1) fin 10 [some (.ref s), some (.int (nI t)), some (.int (nI p))] [.int (kb (h / 2 ^ p % 2 = 1))] μ
  by_cases hc : h / 2 ^ p % 2 = 1
  · rw [kb_t hc]
    refine pw_if_eq (tgt := 26) dX3_lookOf_10 (by decide) (fun h9 => absurd h9 nI1_ne) (fun _ => ?_)
    refine pw_aload_n dX3_lookOf_13 rfl ?_
    refine ps_getr (r := s + 4) dX3_lookOf_14 kf_X3_21 (by decide) ((ok_S hs).2.2.2.1) ?_
    refine pw_iload_n dX3_lookOf_17 rfl ?_
    refine ps_iald (j := p) (x := nI k) dX3_lookOf_18 rfl (ok_ar (n := 8) ((ok_S hs).2.2.2.2.2.2.2.2.2.2) (by omega)) hk ?_
    refine pw_iconst_ (v := nI 1) dX3_lookOf_19 (by decide) ?_
    refine px_iaddn (c := k + 1) dX3_lookOf_20 (by omega) ?_
    refine pw_iconst_ (v := nI 2) dX3_lookOf_21 (by decide) ?_
    refine px_idivn dX3_lookOf_22 (by omega) (by omega) (by omega) ?_
    refine pw_goto (tgt := 32) dX3_lookOf_23 (by decide) ?_
    exact ps_iret dX3_lookOf_32 rfl (rfl) (by rw [if_pos hc] at hf; exact hf)
  · rw [kb_f hc]
    refine pw_if_eq (tgt := 26) dX3_lookOf_10 (by decide) (fun _ => ?_) (fun h9 => absurd h9 (fun q => q nI_0))
    refine pw_aload_n dX3_lookOf_26 rfl ?_
    refine ps_getr (r := s + 4) dX3_lookOf_27 kf_X3_21 (by decide) ((ok_S hs).2.2.2.1) ?_
    refine pw_iload_n dX3_lookOf_30 rfl ?_
    refine ps_iald (j := p) (x := nI k) dX3_lookOf_31 rfl (ok_ar (n := 8) ((ok_S hs).2.2.2.2.2.2.2.2.2.2) (by omega)) hk ?_
    exact ps_iret dX3_lookOf_32 rfl (rfl) (by rw [if_neg hc] at hf; exact hf)
set_option maxRecDepth 100000 in
set_option maxHeartbeats 4000000 in
theorem c_S_trailLength {s t m : Nat} {a : AS} (hs : isS s) (ht : t < 6) (hm : m < 256) (hv : μ s 4 = nI m) (hb : ∀ p, p < 8 → m / 2 ^ p % 2 = a (7 + 4 * p)) (hT : RT μ (s + 6 + 2 * t) (s + 7 + 2 * t) a t) (hw : a (39 + 12 * t) ≤ 8 ∧ ∀ k, k < a (39 + 12 * t) → a (40 + 12 * t + k) < 8) (hz : ∀ p, p < 8 → a (7 + 4 * p) ≤ 1) (hf : fin (some (.int (nI (tr a t).length))) μ) : PS l E D cA mX3_trailLength (d + 1) fin 0 [some (.ref s), some (.int (nI t)), none, none] [] μ := by
  refine pw_iconst_ (v := nI 0) dX3_trailLength_0 (by decide) ?_
  refine px_istore_n (ls' := [some (.ref s), some (.int (nI t)), some (.int (nI 0)), none]) dX3_trailLength_1 rfl rfl (by decide) ?_
  refine pw_iconst_ (v := nI 0) dX3_trailLength_2 (by decide) ?_
  refine px_istore_n (ls' := [some (.ref s), some (.int (nI t)), some (.int (nI 0)), some (.int (nI 0))]) dX3_trailLength_3 rfl rfl (by decide) ?_
  have lp : ∀ i : Nat, i ≤ a (39 + 12 * t) → PS l E D cA mX3_trailLength (d + 1) fin 4 [some (.ref s), some (.int (nI t)), some (.int (nI ((trp a t i).length))), some (.int (nI i))] [] μ := by
    refine ps_for _ ?_ ?_
    · skip
      have hl9 := trp_len a t (a (39 + 12 * t))
      refine pw_iload_n dX3_trailLength_4 rfl ?_
      refine pw_aload_n dX3_trailLength_5 rfl ?_
      refine ps_getr (r := s + 5) dX3_trailLength_6 kf_X3_26 (by decide) ((ok_S hs).2.2.2.2.2.1) ?_
      refine pw_iload_n dX3_trailLength_9 rfl ?_
      refine ps_aald (t := 5) (j := t) (r := s + 6 + 2 * t) dX3_trailLength_10 rfl (ok_T hs ht).1 (by decide) ?_
      refine ps_geti (x := nI (a (39 + 12 * t))) dX3_trailLength_11 kf_X3_57 (by decide) ((ok_T hs ht).2.2.1) (hT.1) ?_
      refine pn_ge (tgt := 44) dX3_trailLength_14 (by decide) (by omega) (by omega) (fun _ => ?_) (fun h9 => absurd h9 (by omega))
      refine pw_iload_n dX3_trailLength_44 rfl ?_
      exact ps_iret dX3_trailLength_45 rfl (rfl) hf
    · intro i hi ih
      have hl9 := trp_len a t i
      have hr := (hw.2 i hi)
      refine pw_iload_n dX3_trailLength_4 rfl ?_
      refine pw_aload_n dX3_trailLength_5 rfl ?_
      refine ps_getr (r := s + 5) dX3_trailLength_6 kf_X3_26 (by decide) ((ok_S hs).2.2.2.2.2.1) ?_
      refine pw_iload_n dX3_trailLength_9 rfl ?_
      refine ps_aald (t := 5) (j := t) (r := s + 6 + 2 * t) dX3_trailLength_10 rfl (ok_T hs ht).1 (by decide) ?_
      refine ps_geti (x := nI (a (39 + 12 * t))) dX3_trailLength_11 kf_X3_57 (by decide) ((ok_T hs ht).2.2.1) (hT.1) ?_
      refine pn_ge (tgt := 44) dX3_trailLength_14 (by decide) (by omega) (by omega) (fun h9 => absurd h9 (by omega)) (fun _ => ?_)
      refine pw_aload_n dX3_trailLength_17 rfl ?_
      refine pw_aload_n dX3_trailLength_18 rfl ?_
      refine ps_getr (r := s + 5) dX3_trailLength_19 kf_X3_26 (by decide) ((ok_S hs).2.2.2.2.2.1) ?_
      refine pw_iload_n dX3_trailLength_22 rfl ?_
      refine ps_aald (t := 5) (j := t) (r := s + 6 + 2 * t) dX3_trailLength_23 rfl (ok_T hs ht).1 (by decide) ?_
      refine ps_getr (r := s + 7 + 2 * t) dX3_trailLength_24 kf_X3_60 (by decide) ((ok_T hs ht).2.1) ?_
      refine pw_iload_n dX3_trailLength_27 rfl ?_
      refine ps_iald (j := i) (x := nI (a (40 + 12 * t + i))) dX3_trailLength_28 rfl (ok_ar (n := 8) ((ok_T hs ht).2.2.2.2.2.2) (by omega)) (hT.2.2.2.2 i hi) ?_
      refine ps_callV (b := s) (As := [.int (nI (a (40 + 12 * t + i)))]) (st := []) dX3_trailLength_29 cv_X3_63 rfl ⟨(okk_of (ok_S hs).1).1, (okk_of (ok_S hs).1).2.1⟩ (Nat.le_of_ble_eq_true rfl) (Nat.le_of_ble_eq_true rfl) ?_
      refine c_S_isClosed hs hm hr hv ?_
      show PS l E D cA mX3_trailLength (d + 1) fin 32 [some (.ref s), some (.int (nI t)), some (.int (nI ((trp a t i).length))), some (.int (nI i))] [.int (kb (m / 2 ^ a (40 + 12 * t + i) % 2 = 1))] μ
      have hz8 := hz _ hr
      by_cases hc : a (7 + 4 * a (40 + 12 * t + i)) = 1
      · rw [kb_t ((hb _ hr).trans hc)]
        refine pw_if_ne (tgt := 38) dX3_trailLength_32 (by decide) (fun _ => ?_) (fun h9 => absurd h9 nI1_ne)
        refine px_iincn (n := 1) (a := i) (b := i + 1) (ls' := [some (.ref s), some (.int (nI t)), some (.int (nI ((trp a t i).length))), some (.int (nI (i + 1)))]) dX3_trailLength_38 rfl rfl rfl (by omega) ?_
        refine pw_goto (tgt := 4) dX3_trailLength_41 (by decide) ?_
        rw [show (trp a t i).length = (trp a t (i + 1)).length by rw [trp_s, if_neg (by omega), List.append_nil]]
        exact ih
      · rw [kb_f (fun q => hc ((hb _ hr).symm.trans q))]
        refine pw_if_ne (tgt := 38) dX3_trailLength_32 (by decide) (fun h9 => absurd h9 (fun q => q nI_0)) (fun _ => ?_)
        refine px_iincn (n := 1) (a := (trp a t i).length) (b := (trp a t i).length + 1) (ls' := [some (.ref s), some (.int (nI t)), some (.int (nI ((trp a t i).length + 1))), some (.int (nI i))]) dX3_trailLength_35 rfl rfl rfl (by omega) ?_
        refine px_iincn (n := 1) (a := i) (b := i + 1) (ls' := [some (.ref s), some (.int (nI t)), some (.int (nI ((trp a t i).length + 1))), some (.int (nI (i + 1)))]) dX3_trailLength_38 rfl rfl rfl (by omega) ?_
        refine pw_goto (tgt := 4) dX3_trailLength_41 (by decide) ?_
        rw [show (trp a t i).length + 1 = (trp a t (i + 1)).length by rw [trp_s, if_pos (by omega), List.length_append]; rfl]
        exact ih
  exact lp 0 (Nat.zero_le _)
end STATE2
