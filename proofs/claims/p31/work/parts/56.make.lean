/-! the constructors: Team, State -/
def TBK (b : Nat) : List PE := [(4, [.ref (b + 1), .int 0, .int 0, .int 0, .int (-1)]), (100, List.replicate 8 (.int 0))]
theorem TBK_len (b : Nat) : (TBK b).length = 2 := rfl
theorem TBK_sum (b : Nat) : kv_sum (TBK b) = 13 := by unfold TBK; simp only [kv_sum_cons, kv_sum_nil, List.length_cons, List.length_nil, List.length_replicate]
def SBK (b : Nat) : List PE := [(3, [.ref (b + 1), .ref (b + 2), .ref (b + 3), .ref (b + 4), .int 0, .ref (b + 5), .int 0]), (100, [.int (nI 10), .int (nI 200), .int (nI 2)]), (100, [.int (nI 0), .int (nI 2), .int (nI 4), .int (nI 6), .int (nI 8), .int (nI 10), .int (nI 12), .int (nI 14)]), (100, List.replicate 8 (.int 0)), (100, [.int (nI 5), .int (nI 5), .int (nI 5), .int (nI 5), .int (nI 5), .int (nI 5), .int (nI 5), .int (nI 5)]), (105, [.ref (b + 6), .ref (b + 8), .ref (b + 10), .ref (b + 12), .ref (b + 14), .ref (b + 16)])] ++ (((((TBK (b + 6) ++ TBK (b + 8)) ++ TBK (b + 10)) ++ TBK (b + 12)) ++ TBK (b + 14)) ++ TBK (b + 16))
section MAKE
variable {l : Launch} {E : EV} {D : va_G} {cA : Nat → ClassId} {N Z : Nat} {X : MT} {d : Nat} {fin : Option Value → List PE → Prop} {pc : Nat} {ls : List (Option Value)} {st : List Value} {M0 L L' S : List PE} {b z : Nat}
theorem pa_copy0 {idx i j : Nat} {ys : List Value} (hE : ESV E) (hb : M0.length = b) (hi : b + j = i) (hd : decode X.2.2.1 pc = .ok (.invokestatic idx, 3)) (hl : Cond.methodLink X.1 idx arraycopyName ∈ TB) (hj : L[j]? = some (100, ys)) (hy : ys.length = 3) (hw : (st.map fun v => v.category).sum ≤ 8) (hL : L.set j (100, [.int (nI 10), .int (nI 200), .int (nI 2)]) = L')
    (kk : PW l E D cA N Z X (d + 1) fin (pc + 3) ls st (M0 ++ L')) : PW l E D cA N Z X (d + 1) fin pc ls (.int (nI 3) :: .int (nI 0) :: .ref i :: .int (nI 0) :: .ref 1000 :: st) (M0 ++ L) := by
  subst hi
  have e3 : (nI 3).toNatClampNeg = 3 := nI_clamp (by decide)
  rw [nI_0]
  refine pw_copy_s (k := 0) hd hl ca_native ca_static ca_init (by decide) (by rw [pa_at hb]; exact hj) (by decide) (by rw [e3]; exact hE.1.symm) (by rw [e3]; exact hy.symm) hw ?_
  rw [pa_set hb]
  have e : (List.range (E.2.2.1 0)).map (fun q => Value.int (E.2.2.2 0 q)) = [.int (nI 10), .int (nI 200), .int (nI 2)] := by
    rw [hE.1]
    show [Value.int (E.2.2.2 0 0), Value.int (E.2.2.2 0 1), Value.int (E.2.2.2 0 2)] = _
    rw [(hE.2.2.2 0 (by decide)).1, (hE.2.2.2 1 (by decide)).1, (hE.2.2.2 2 (by decide)).1]
    rfl
  rw [e, hL]
  exact kk
set_option maxRecDepth 100000 in
set_option maxHeartbeats 8000000 in
theorem k_Team (hb : M0.length = b) (hz : kv_sum M0 = z) (hb9 : b + 2 ≤ 1000) (hf : fin none (M0 ++ TBK b)) : PW l E D cA (b + 2) (z + 13) mX4_init (d + 1) fin 0 [some (.ref b)] [] (M0 ++ [(4, fz4)]) := by
  show PW l E D cA (b + 2) (z + 13) mX4_init (d + 1) fin 0 [some (.ref b)] [] (M0 ++ ([(4, [.null, .int 0, .int 0, .int 0, .int 0])]))
  refine pw_aload_n dX4_init_0 rfl ?_
  refine pw_objInit dX4_init_1 co_X4_3 co_inst co_code (Nat.le_of_ble_eq_true rfl) ?_
  refine pw_aload_n dX4_init_4 rfl ?_
  refine pw_bipush (v := nI 8) dX4_init_5 (by decide) ?_
  have hA1 : (M0 ++ ([(4, [.null, .int 0, .int 0, .int 0, .int 0])] : List PE)).length = b + 1 := pa_len hb (by simp only [-List.reduceReplicate, List.length_append, List.length_cons, List.length_nil, TBK_len] <;> omega)
  have hS1 : kv_sum (M0 ++ ([(4, [.null, .int 0, .int 0, .int 0, .int 0])] : List PE)) = z + 5 := pa_sum hz (by simp only [-List.reduceReplicate, kv_sum_app2, kv_sum_cons, kv_sum_nil, TBK_sum, List.length_cons, List.length_nil, List.length_replicate, List.length_set] <;> omega)
  refine pa_arr (L' := [(4, [.null, .int 0, .int 0, .int 0, .int 0]), (100, List.replicate 8 (.int 0))]) (t := 0) (k := 8) hA1 hS1 dX4_init_7 (by simp) ak_int rfl (by decide) (by clear hA1 hS1; omega) (by clear hA1 hS1; omega) (by clear hA1 hS1; omega) rfl ?_
  clear hA1 hS1
  refine pa_putf (L' := [(4, [.ref (b + 1), .int 0, .int 0, .int 0, .int 0]), (100, List.replicate 8 (.int 0))]) (j := 0) hb rfl dX4_init_9 kf_X4_9 (by decide) rfl (Nat.le_of_ble_eq_true rfl) (fun q hq => by cases hq; exact ⟨tyX4 0, by decide +kernel, rfl, rfl⟩) (fun q hq => by cases hq; exact Or.inr ⟨rfl, rfl, rfl⟩) rfl ?_
  refine pw_aload_n dX4_init_12 rfl ?_
  refine pw_iconst_ (v := (-1)) dX4_init_13 (by decide) ?_
  refine pa_putf (L' := [(4, [.ref (b + 1), .int 0, .int 0, .int 0, .int (-1)]), (100, List.replicate 8 (.int 0))]) (j := 0) hb rfl dX4_init_14 kf_X4_15 (by decide) rfl (Nat.le_of_ble_eq_true rfl) (fun q hq => by cases hq; exact ⟨tyX4 4, by decide +kernel, rfl, rfl⟩) (fun q hq => by cases hq; exact Or.inl rfl) rfl ?_
  have hA2 : (M0 ++ ([(4, [.ref (b + 1), .int 0, .int 0, .int 0, .int (-1)]), (100, List.replicate 8 (.int 0))] : List PE)).length = b + 2 := pa_len hb (by simp only [-List.reduceReplicate, List.length_append, List.length_cons, List.length_nil, TBK_len] <;> omega)
  have hS2 : kv_sum (M0 ++ ([(4, [.ref (b + 1), .int 0, .int 0, .int 0, .int (-1)]), (100, List.replicate 8 (.int 0))] : List PE)) = z + 13 := pa_sum hz (by simp only [-List.reduceReplicate, kv_sum_app2, kv_sum_cons, kv_sum_nil, TBK_sum, List.length_cons, List.length_nil, List.length_replicate, List.length_set] <;> omega)
  exact pw_return dX4_init_17 rfl hA2 hS2 hf
set_option maxRecDepth 100000 in
set_option maxHeartbeats 8000000 in
theorem k_State (hE : ESV E) (hb : M0.length = b) (hz : kv_sum M0 = z) (hb9 : b + 18 ≤ 1000) (hf : fin none (M0 ++ SBK b)) : PW l E D cA (b + 18) (z + 118) mX3_init (d + 2) fin 0 [some (.ref b), none] [] (M0 ++ [(3, fz3)]) := by
  show PW l E D cA (b + 18) (z + 118) mX3_init (d + 2) fin 0 [some (.ref b), none] [] (M0 ++ ([(3, [.null, .null, .null, .null, .int 0, .null, .int 0])]))
  refine pw_aload_n dX3_init_0 rfl ?_
  refine pw_objInit dX3_init_1 co_X3_3 co_inst co_code (Nat.le_of_ble_eq_true rfl) ?_
  refine pw_aload_n dX3_init_4 rfl ?_
  refine pw_iconst_ (v := nI 3) dX3_init_5 (by decide) ?_
  have hA1 : (M0 ++ ([(3, [.null, .null, .null, .null, .int 0, .null, .int 0])] : List PE)).length = b + 1 := pa_len hb (by simp only [-List.reduceReplicate, List.length_append, List.length_cons, List.length_nil, TBK_len] <;> omega)
  have hS1 : kv_sum (M0 ++ ([(3, [.null, .null, .null, .null, .int 0, .null, .int 0])] : List PE)) = z + 7 := pa_sum hz (by simp only [-List.reduceReplicate, kv_sum_app2, kv_sum_cons, kv_sum_nil, TBK_sum, List.length_cons, List.length_nil, List.length_replicate, List.length_set] <;> omega)
  refine pa_arr (L' := [(3, [.null, .null, .null, .null, .int 0, .null, .int 0]), (100, List.replicate 3 (.int 0))]) (t := 0) (k := 3) hA1 hS1 dX3_init_6 (by simp) ak_int rfl (by decide) (by clear hA1 hS1; omega) (by clear hA1 hS1; omega) (by clear hA1 hS1; omega) rfl ?_
  clear hA1 hS1
  refine pa_putf (L' := [(3, [.ref (b + 1), .null, .null, .null, .int 0, .null, .int 0]), (100, List.replicate 3 (.int 0))]) (j := 0) hb rfl dX3_init_8 kf_X3_9 (by decide) rfl (Nat.le_of_ble_eq_true rfl) (fun q hq => by cases hq; exact ⟨tyX3 0, by decide +kernel, rfl, rfl⟩) (fun q hq => by cases hq; exact Or.inr ⟨rfl, rfl, rfl⟩) rfl ?_
  refine pw_aload_n dX3_init_11 rfl ?_
  refine pw_bipush (v := nI 8) dX3_init_12 (by decide) ?_
  have hA2 : (M0 ++ ([(3, [.ref (b + 1), .null, .null, .null, .int 0, .null, .int 0]), (100, List.replicate 3 (.int 0))] : List PE)).length = b + 2 := pa_len hb (by simp only [-List.reduceReplicate, List.length_append, List.length_cons, List.length_nil, TBK_len] <;> omega)
  have hS2 : kv_sum (M0 ++ ([(3, [.ref (b + 1), .null, .null, .null, .int 0, .null, .int 0]), (100, List.replicate 3 (.int 0))] : List PE)) = z + 10 := pa_sum hz (by simp only [-List.reduceReplicate, kv_sum_app2, kv_sum_cons, kv_sum_nil, TBK_sum, List.length_cons, List.length_nil, List.length_replicate, List.length_set] <;> omega)
  refine pa_arr (L' := [(3, [.ref (b + 1), .null, .null, .null, .int 0, .null, .int 0]), (100, List.replicate 3 (.int 0)), (100, List.replicate 8 (.int 0))]) (t := 0) (k := 8) hA2 hS2 dX3_init_14 (by simp) ak_int rfl (by decide) (by clear hA2 hS2; omega) (by clear hA2 hS2; omega) (by clear hA2 hS2; omega) rfl ?_
  clear hA2 hS2
  refine pa_putf (L' := [(3, [.ref (b + 1), .ref (b + 2), .null, .null, .int 0, .null, .int 0]), (100, List.replicate 3 (.int 0)), (100, List.replicate 8 (.int 0))]) (j := 0) hb rfl dX3_init_16 kf_X3_15 (by decide) rfl (Nat.le_of_ble_eq_true rfl) (fun q hq => by cases hq; exact ⟨tyX3 1, by decide +kernel, rfl, rfl⟩) (fun q hq => by cases hq; exact Or.inr ⟨rfl, rfl, rfl⟩) rfl ?_
  refine pw_aload_n dX3_init_19 rfl ?_
  refine pw_bipush (v := nI 8) dX3_init_20 (by decide) ?_
  have hA3 : (M0 ++ ([(3, [.ref (b + 1), .ref (b + 2), .null, .null, .int 0, .null, .int 0]), (100, List.replicate 3 (.int 0)), (100, List.replicate 8 (.int 0))] : List PE)).length = b + 3 := pa_len hb (by simp only [-List.reduceReplicate, List.length_append, List.length_cons, List.length_nil, TBK_len] <;> omega)
  have hS3 : kv_sum (M0 ++ ([(3, [.ref (b + 1), .ref (b + 2), .null, .null, .int 0, .null, .int 0]), (100, List.replicate 3 (.int 0)), (100, List.replicate 8 (.int 0))] : List PE)) = z + 18 := pa_sum hz (by simp only [-List.reduceReplicate, kv_sum_app2, kv_sum_cons, kv_sum_nil, TBK_sum, List.length_cons, List.length_nil, List.length_replicate, List.length_set] <;> omega)
  refine pa_arr (L' := [(3, [.ref (b + 1), .ref (b + 2), .null, .null, .int 0, .null, .int 0]), (100, List.replicate 3 (.int 0)), (100, List.replicate 8 (.int 0)), (100, List.replicate 8 (.int 0))]) (t := 0) (k := 8) hA3 hS3 dX3_init_22 (by simp) ak_int rfl (by decide) (by clear hA3 hS3; omega) (by clear hA3 hS3; omega) (by clear hA3 hS3; omega) rfl ?_
  clear hA3 hS3
  refine pa_putf (L' := [(3, [.ref (b + 1), .ref (b + 2), .ref (b + 3), .null, .int 0, .null, .int 0]), (100, List.replicate 3 (.int 0)), (100, List.replicate 8 (.int 0)), (100, List.replicate 8 (.int 0))]) (j := 0) hb rfl dX3_init_24 kf_X3_18 (by decide) rfl (Nat.le_of_ble_eq_true rfl) (fun q hq => by cases hq; exact ⟨tyX3 2, by decide +kernel, rfl, rfl⟩) (fun q hq => by cases hq; exact Or.inr ⟨rfl, rfl, rfl⟩) rfl ?_
  refine pw_aload_n dX3_init_27 rfl ?_
  refine pw_bipush (v := nI 8) dX3_init_28 (by decide) ?_
  have hA4 : (M0 ++ ([(3, [.ref (b + 1), .ref (b + 2), .ref (b + 3), .null, .int 0, .null, .int 0]), (100, List.replicate 3 (.int 0)), (100, List.replicate 8 (.int 0)), (100, List.replicate 8 (.int 0))] : List PE)).length = b + 4 := pa_len hb (by simp only [-List.reduceReplicate, List.length_append, List.length_cons, List.length_nil, TBK_len] <;> omega)
  have hS4 : kv_sum (M0 ++ ([(3, [.ref (b + 1), .ref (b + 2), .ref (b + 3), .null, .int 0, .null, .int 0]), (100, List.replicate 3 (.int 0)), (100, List.replicate 8 (.int 0)), (100, List.replicate 8 (.int 0))] : List PE)) = z + 26 := pa_sum hz (by simp only [-List.reduceReplicate, kv_sum_app2, kv_sum_cons, kv_sum_nil, TBK_sum, List.length_cons, List.length_nil, List.length_replicate, List.length_set] <;> omega)
  refine pa_arr (L' := [(3, [.ref (b + 1), .ref (b + 2), .ref (b + 3), .null, .int 0, .null, .int 0]), (100, List.replicate 3 (.int 0)), (100, List.replicate 8 (.int 0)), (100, List.replicate 8 (.int 0)), (100, List.replicate 8 (.int 0))]) (t := 0) (k := 8) hA4 hS4 dX3_init_30 (by simp) ak_int rfl (by decide) (by clear hA4 hS4; omega) (by clear hA4 hS4; omega) (by clear hA4 hS4; omega) rfl ?_
  clear hA4 hS4
  refine pa_putf (L' := [(3, [.ref (b + 1), .ref (b + 2), .ref (b + 3), .ref (b + 4), .int 0, .null, .int 0]), (100, List.replicate 3 (.int 0)), (100, List.replicate 8 (.int 0)), (100, List.replicate 8 (.int 0)), (100, List.replicate 8 (.int 0))]) (j := 0) hb rfl dX3_init_32 kf_X3_21 (by decide) rfl (Nat.le_of_ble_eq_true rfl) (fun q hq => by cases hq; exact ⟨tyX3 3, by decide +kernel, rfl, rfl⟩) (fun q hq => by cases hq; exact Or.inr ⟨rfl, rfl, rfl⟩) rfl ?_
  refine pw_aload_n dX3_init_35 rfl ?_
  refine pw_bipush (v := nI 6) dX3_init_36 (by decide) ?_
  have hA5 : (M0 ++ ([(3, [.ref (b + 1), .ref (b + 2), .ref (b + 3), .ref (b + 4), .int 0, .null, .int 0]), (100, List.replicate 3 (.int 0)), (100, List.replicate 8 (.int 0)), (100, List.replicate 8 (.int 0)), (100, List.replicate 8 (.int 0))] : List PE)).length = b + 5 := pa_len hb (by simp only [-List.reduceReplicate, List.length_append, List.length_cons, List.length_nil, TBK_len] <;> omega)
  have hS5 : kv_sum (M0 ++ ([(3, [.ref (b + 1), .ref (b + 2), .ref (b + 3), .ref (b + 4), .int 0, .null, .int 0]), (100, List.replicate 3 (.int 0)), (100, List.replicate 8 (.int 0)), (100, List.replicate 8 (.int 0)), (100, List.replicate 8 (.int 0))] : List PE)) = z + 34 := pa_sum hz (by simp only [-List.reduceReplicate, kv_sum_app2, kv_sum_cons, kv_sum_nil, TBK_sum, List.length_cons, List.length_nil, List.length_replicate, List.length_set] <;> omega)
  refine pa_anew (L' := [(3, [.ref (b + 1), .ref (b + 2), .ref (b + 3), .ref (b + 4), .int 0, .null, .int 0]), (100, List.replicate 3 (.int 0)), (100, List.replicate 8 (.int 0)), (100, List.replicate 8 (.int 0)), (100, List.replicate 8 (.int 0)), (105, List.replicate 6 .null)]) (t := 5) (k := 6) (C := RX4) hA5 hS5 dX3_init_38 (by simp) cl_X3_24 rfl (by decide) (by clear hA5 hS5; omega) (by clear hA5 hS5; omega) (by clear hA5 hS5; omega) rfl ?_
  clear hA5 hS5
  refine pa_putf (L' := [(3, [.ref (b + 1), .ref (b + 2), .ref (b + 3), .ref (b + 4), .int 0, .ref (b + 5), .int 0]), (100, List.replicate 3 (.int 0)), (100, List.replicate 8 (.int 0)), (100, List.replicate 8 (.int 0)), (100, List.replicate 8 (.int 0)), (105, List.replicate 6 .null)]) (j := 0) hb rfl dX3_init_41 kf_X3_26 (by decide) rfl (Nat.le_of_ble_eq_true rfl) (fun q hq => by cases hq; exact ⟨tyX3 5, by decide +kernel, rfl, rfl⟩) (fun q hq => by cases hq; exact Or.inr ⟨rfl, rfl, rfl⟩) rfl ?_
  refine pw_getsN dX3_init_44 rfl ?_
  refine pw_iconst_ (v := nI 0) dX3_init_47 (by decide) ?_
  refine pw_aload_n dX3_init_48 rfl ?_
  refine pa_getf (j := 0) (v := .ref (b + 1)) hb rfl (by omega) dX3_init_49 kf_X3_9 (by decide) rfl rfl ?_
  refine pw_iconst_ (v := nI 0) dX3_init_52 (by decide) ?_
  refine pw_iconst_ (v := nI 3) dX3_init_53 (by decide) ?_
  refine pa_copy0 (L' := [(3, [.ref (b + 1), .ref (b + 2), .ref (b + 3), .ref (b + 4), .int 0, .ref (b + 5), .int 0]), (100, [.int (nI 10), .int (nI 200), .int (nI 2)]), (100, List.replicate 8 (.int 0)), (100, List.replicate 8 (.int 0)), (100, List.replicate 8 (.int 0)), (105, List.replicate 6 .null)]) (j := 1) hE hb rfl dX3_init_54 ca_X3_33 rfl rfl (Nat.le_of_ble_eq_true rfl) rfl ?_
  refine pw_iconst_ (v := nI 0) dX3_init_57 (by decide) ?_
  refine px_istore_n (ls' := [some (.ref b), some (.int (nI 0))]) dX3_init_58 rfl rfl (by decide) ?_
  refine pw_iload_n dX3_init_59 rfl ?_
  refine pw_bipush (v := nI 8) dX3_init_60 (by decide) ?_
  refine pn_ge (tgt := 87) dX3_init_62 (by decide) (by decide) (by decide) (fun h9 => absurd h9 (by decide)) (fun _ => ?_)
  refine pw_aload_n dX3_init_65 rfl ?_
  refine pa_getf (j := 0) (v := .ref (b + 2)) hb rfl (by omega) dX3_init_66 kf_X3_15 (by decide) rfl rfl ?_
  refine pw_iload_n dX3_init_69 rfl ?_
  refine pw_iconst_ (v := nI 2) dX3_init_70 (by decide) ?_
  refine pw_iload_n dX3_init_71 rfl ?_
  refine px_imuln (c := 0) dX3_init_72 rfl ?_
  refine pa_iast (L' := [(3, [.ref (b + 1), .ref (b + 2), .ref (b + 3), .ref (b + 4), .int 0, .ref (b + 5), .int 0]), (100, [.int (nI 10), .int (nI 200), .int (nI 2)]), (100, [.int (nI 0), .int 0, .int 0, .int 0, .int 0, .int 0, .int 0, .int 0]), (100, List.replicate 8 (.int 0)), (100, List.replicate 8 (.int 0)), (105, List.replicate 6 .null)]) (j := 2) (k := 0) hb rfl dX3_init_73 rfl rfl (by decide) (Nat.le_of_ble_eq_true rfl) rfl ?_
  refine pw_aload_n dX3_init_74 rfl ?_
  refine pa_getf (j := 0) (v := .ref (b + 4)) hb rfl (by omega) dX3_init_75 kf_X3_21 (by decide) rfl rfl ?_
  refine pw_iload_n dX3_init_78 rfl ?_
  refine pw_iconst_ (v := nI 5) dX3_init_79 (by decide) ?_
  refine pa_iast (L' := [(3, [.ref (b + 1), .ref (b + 2), .ref (b + 3), .ref (b + 4), .int 0, .ref (b + 5), .int 0]), (100, [.int (nI 10), .int (nI 200), .int (nI 2)]), (100, [.int (nI 0), .int 0, .int 0, .int 0, .int 0, .int 0, .int 0, .int 0]), (100, List.replicate 8 (.int 0)), (100, [.int (nI 5), .int 0, .int 0, .int 0, .int 0, .int 0, .int 0, .int 0]), (105, List.replicate 6 .null)]) (j := 4) (k := 0) hb rfl dX3_init_80 rfl rfl (by decide) (Nat.le_of_ble_eq_true rfl) rfl ?_
  refine px_iincn (n := 1) (a := 0) (b := 1) (ls' := [some (.ref b), some (.int (nI 1))]) dX3_init_81 rfl rfl rfl rfl ?_
  refine pw_goto (tgt := 59) dX3_init_84 (by decide) ?_
  refine pw_iload_n dX3_init_59 rfl ?_
  refine pw_bipush (v := nI 8) dX3_init_60 (by decide) ?_
  refine pn_ge (tgt := 87) dX3_init_62 (by decide) (by decide) (by decide) (fun h9 => absurd h9 (by decide)) (fun _ => ?_)
  refine pw_aload_n dX3_init_65 rfl ?_
  refine pa_getf (j := 0) (v := .ref (b + 2)) hb rfl (by omega) dX3_init_66 kf_X3_15 (by decide) rfl rfl ?_
  refine pw_iload_n dX3_init_69 rfl ?_
  refine pw_iconst_ (v := nI 2) dX3_init_70 (by decide) ?_
  refine pw_iload_n dX3_init_71 rfl ?_
  refine px_imuln (c := 2) dX3_init_72 rfl ?_
  refine pa_iast (L' := [(3, [.ref (b + 1), .ref (b + 2), .ref (b + 3), .ref (b + 4), .int 0, .ref (b + 5), .int 0]), (100, [.int (nI 10), .int (nI 200), .int (nI 2)]), (100, [.int (nI 0), .int (nI 2), .int 0, .int 0, .int 0, .int 0, .int 0, .int 0]), (100, List.replicate 8 (.int 0)), (100, [.int (nI 5), .int 0, .int 0, .int 0, .int 0, .int 0, .int 0, .int 0]), (105, List.replicate 6 .null)]) (j := 2) (k := 1) hb rfl dX3_init_73 rfl rfl (by decide) (Nat.le_of_ble_eq_true rfl) rfl ?_
  refine pw_aload_n dX3_init_74 rfl ?_
  refine pa_getf (j := 0) (v := .ref (b + 4)) hb rfl (by omega) dX3_init_75 kf_X3_21 (by decide) rfl rfl ?_
  refine pw_iload_n dX3_init_78 rfl ?_
  refine pw_iconst_ (v := nI 5) dX3_init_79 (by decide) ?_
  refine pa_iast (L' := [(3, [.ref (b + 1), .ref (b + 2), .ref (b + 3), .ref (b + 4), .int 0, .ref (b + 5), .int 0]), (100, [.int (nI 10), .int (nI 200), .int (nI 2)]), (100, [.int (nI 0), .int (nI 2), .int 0, .int 0, .int 0, .int 0, .int 0, .int 0]), (100, List.replicate 8 (.int 0)), (100, [.int (nI 5), .int (nI 5), .int 0, .int 0, .int 0, .int 0, .int 0, .int 0]), (105, List.replicate 6 .null)]) (j := 4) (k := 1) hb rfl dX3_init_80 rfl rfl (by decide) (Nat.le_of_ble_eq_true rfl) rfl ?_
  refine px_iincn (n := 1) (a := 1) (b := 2) (ls' := [some (.ref b), some (.int (nI 2))]) dX3_init_81 rfl rfl rfl rfl ?_
  refine pw_goto (tgt := 59) dX3_init_84 (by decide) ?_
  refine pw_iload_n dX3_init_59 rfl ?_
  refine pw_bipush (v := nI 8) dX3_init_60 (by decide) ?_
  refine pn_ge (tgt := 87) dX3_init_62 (by decide) (by decide) (by decide) (fun h9 => absurd h9 (by decide)) (fun _ => ?_)
  refine pw_aload_n dX3_init_65 rfl ?_
  refine pa_getf (j := 0) (v := .ref (b + 2)) hb rfl (by omega) dX3_init_66 kf_X3_15 (by decide) rfl rfl ?_
  refine pw_iload_n dX3_init_69 rfl ?_
  refine pw_iconst_ (v := nI 2) dX3_init_70 (by decide) ?_
  refine pw_iload_n dX3_init_71 rfl ?_
  refine px_imuln (c := 4) dX3_init_72 rfl ?_
  refine pa_iast (L' := [(3, [.ref (b + 1), .ref (b + 2), .ref (b + 3), .ref (b + 4), .int 0, .ref (b + 5), .int 0]), (100, [.int (nI 10), .int (nI 200), .int (nI 2)]), (100, [.int (nI 0), .int (nI 2), .int (nI 4), .int 0, .int 0, .int 0, .int 0, .int 0]), (100, List.replicate 8 (.int 0)), (100, [.int (nI 5), .int (nI 5), .int 0, .int 0, .int 0, .int 0, .int 0, .int 0]), (105, List.replicate 6 .null)]) (j := 2) (k := 2) hb rfl dX3_init_73 rfl rfl (by decide) (Nat.le_of_ble_eq_true rfl) rfl ?_
  refine pw_aload_n dX3_init_74 rfl ?_
  refine pa_getf (j := 0) (v := .ref (b + 4)) hb rfl (by omega) dX3_init_75 kf_X3_21 (by decide) rfl rfl ?_
  refine pw_iload_n dX3_init_78 rfl ?_
  refine pw_iconst_ (v := nI 5) dX3_init_79 (by decide) ?_
  refine pa_iast (L' := [(3, [.ref (b + 1), .ref (b + 2), .ref (b + 3), .ref (b + 4), .int 0, .ref (b + 5), .int 0]), (100, [.int (nI 10), .int (nI 200), .int (nI 2)]), (100, [.int (nI 0), .int (nI 2), .int (nI 4), .int 0, .int 0, .int 0, .int 0, .int 0]), (100, List.replicate 8 (.int 0)), (100, [.int (nI 5), .int (nI 5), .int (nI 5), .int 0, .int 0, .int 0, .int 0, .int 0]), (105, List.replicate 6 .null)]) (j := 4) (k := 2) hb rfl dX3_init_80 rfl rfl (by decide) (Nat.le_of_ble_eq_true rfl) rfl ?_
  refine px_iincn (n := 1) (a := 2) (b := 3) (ls' := [some (.ref b), some (.int (nI 3))]) dX3_init_81 rfl rfl rfl rfl ?_
  refine pw_goto (tgt := 59) dX3_init_84 (by decide) ?_
  refine pw_iload_n dX3_init_59 rfl ?_
  refine pw_bipush (v := nI 8) dX3_init_60 (by decide) ?_
  refine pn_ge (tgt := 87) dX3_init_62 (by decide) (by decide) (by decide) (fun h9 => absurd h9 (by decide)) (fun _ => ?_)
  refine pw_aload_n dX3_init_65 rfl ?_
  refine pa_getf (j := 0) (v := .ref (b + 2)) hb rfl (by omega) dX3_init_66 kf_X3_15 (by decide) rfl rfl ?_
  refine pw_iload_n dX3_init_69 rfl ?_
  refine pw_iconst_ (v := nI 2) dX3_init_70 (by decide) ?_
  refine pw_iload_n dX3_init_71 rfl ?_
  refine px_imuln (c := 6) dX3_init_72 rfl ?_
  refine pa_iast (L' := [(3, [.ref (b + 1), .ref (b + 2), .ref (b + 3), .ref (b + 4), .int 0, .ref (b + 5), .int 0]), (100, [.int (nI 10), .int (nI 200), .int (nI 2)]), (100, [.int (nI 0), .int (nI 2), .int (nI 4), .int (nI 6), .int 0, .int 0, .int 0, .int 0]), (100, List.replicate 8 (.int 0)), (100, [.int (nI 5), .int (nI 5), .int (nI 5), .int 0, .int 0, .int 0, .int 0, .int 0]), (105, List.replicate 6 .null)]) (j := 2) (k := 3) hb rfl dX3_init_73 rfl rfl (by decide) (Nat.le_of_ble_eq_true rfl) rfl ?_
  refine pw_aload_n dX3_init_74 rfl ?_
  refine pa_getf (j := 0) (v := .ref (b + 4)) hb rfl (by omega) dX3_init_75 kf_X3_21 (by decide) rfl rfl ?_
  refine pw_iload_n dX3_init_78 rfl ?_
  refine pw_iconst_ (v := nI 5) dX3_init_79 (by decide) ?_
  refine pa_iast (L' := [(3, [.ref (b + 1), .ref (b + 2), .ref (b + 3), .ref (b + 4), .int 0, .ref (b + 5), .int 0]), (100, [.int (nI 10), .int (nI 200), .int (nI 2)]), (100, [.int (nI 0), .int (nI 2), .int (nI 4), .int (nI 6), .int 0, .int 0, .int 0, .int 0]), (100, List.replicate 8 (.int 0)), (100, [.int (nI 5), .int (nI 5), .int (nI 5), .int (nI 5), .int 0, .int 0, .int 0, .int 0]), (105, List.replicate 6 .null)]) (j := 4) (k := 3) hb rfl dX3_init_80 rfl rfl (by decide) (Nat.le_of_ble_eq_true rfl) rfl ?_
  refine px_iincn (n := 1) (a := 3) (b := 4) (ls' := [some (.ref b), some (.int (nI 4))]) dX3_init_81 rfl rfl rfl rfl ?_
  refine pw_goto (tgt := 59) dX3_init_84 (by decide) ?_
  refine pw_iload_n dX3_init_59 rfl ?_
  refine pw_bipush (v := nI 8) dX3_init_60 (by decide) ?_
  refine pn_ge (tgt := 87) dX3_init_62 (by decide) (by decide) (by decide) (fun h9 => absurd h9 (by decide)) (fun _ => ?_)
  refine pw_aload_n dX3_init_65 rfl ?_
  refine pa_getf (j := 0) (v := .ref (b + 2)) hb rfl (by omega) dX3_init_66 kf_X3_15 (by decide) rfl rfl ?_
  refine pw_iload_n dX3_init_69 rfl ?_
  refine pw_iconst_ (v := nI 2) dX3_init_70 (by decide) ?_
  refine pw_iload_n dX3_init_71 rfl ?_
  refine px_imuln (c := 8) dX3_init_72 rfl ?_
  refine pa_iast (L' := [(3, [.ref (b + 1), .ref (b + 2), .ref (b + 3), .ref (b + 4), .int 0, .ref (b + 5), .int 0]), (100, [.int (nI 10), .int (nI 200), .int (nI 2)]), (100, [.int (nI 0), .int (nI 2), .int (nI 4), .int (nI 6), .int (nI 8), .int 0, .int 0, .int 0]), (100, List.replicate 8 (.int 0)), (100, [.int (nI 5), .int (nI 5), .int (nI 5), .int (nI 5), .int 0, .int 0, .int 0, .int 0]), (105, List.replicate 6 .null)]) (j := 2) (k := 4) hb rfl dX3_init_73 rfl rfl (by decide) (Nat.le_of_ble_eq_true rfl) rfl ?_
  refine pw_aload_n dX3_init_74 rfl ?_
  refine pa_getf (j := 0) (v := .ref (b + 4)) hb rfl (by omega) dX3_init_75 kf_X3_21 (by decide) rfl rfl ?_
  refine pw_iload_n dX3_init_78 rfl ?_
  refine pw_iconst_ (v := nI 5) dX3_init_79 (by decide) ?_
  refine pa_iast (L' := [(3, [.ref (b + 1), .ref (b + 2), .ref (b + 3), .ref (b + 4), .int 0, .ref (b + 5), .int 0]), (100, [.int (nI 10), .int (nI 200), .int (nI 2)]), (100, [.int (nI 0), .int (nI 2), .int (nI 4), .int (nI 6), .int (nI 8), .int 0, .int 0, .int 0]), (100, List.replicate 8 (.int 0)), (100, [.int (nI 5), .int (nI 5), .int (nI 5), .int (nI 5), .int (nI 5), .int 0, .int 0, .int 0]), (105, List.replicate 6 .null)]) (j := 4) (k := 4) hb rfl dX3_init_80 rfl rfl (by decide) (Nat.le_of_ble_eq_true rfl) rfl ?_
  refine px_iincn (n := 1) (a := 4) (b := 5) (ls' := [some (.ref b), some (.int (nI 5))]) dX3_init_81 rfl rfl rfl rfl ?_
  refine pw_goto (tgt := 59) dX3_init_84 (by decide) ?_
  refine pw_iload_n dX3_init_59 rfl ?_
  refine pw_bipush (v := nI 8) dX3_init_60 (by decide) ?_
  refine pn_ge (tgt := 87) dX3_init_62 (by decide) (by decide) (by decide) (fun h9 => absurd h9 (by decide)) (fun _ => ?_)
  refine pw_aload_n dX3_init_65 rfl ?_
  refine pa_getf (j := 0) (v := .ref (b + 2)) hb rfl (by omega) dX3_init_66 kf_X3_15 (by decide) rfl rfl ?_
  refine pw_iload_n dX3_init_69 rfl ?_
  refine pw_iconst_ (v := nI 2) dX3_init_70 (by decide) ?_
  refine pw_iload_n dX3_init_71 rfl ?_
  refine px_imuln (c := 10) dX3_init_72 rfl ?_
  refine pa_iast (L' := [(3, [.ref (b + 1), .ref (b + 2), .ref (b + 3), .ref (b + 4), .int 0, .ref (b + 5), .int 0]), (100, [.int (nI 10), .int (nI 200), .int (nI 2)]), (100, [.int (nI 0), .int (nI 2), .int (nI 4), .int (nI 6), .int (nI 8), .int (nI 10), .int 0, .int 0]), (100, List.replicate 8 (.int 0)), (100, [.int (nI 5), .int (nI 5), .int (nI 5), .int (nI 5), .int (nI 5), .int 0, .int 0, .int 0]), (105, List.replicate 6 .null)]) (j := 2) (k := 5) hb rfl dX3_init_73 rfl rfl (by decide) (Nat.le_of_ble_eq_true rfl) rfl ?_
  refine pw_aload_n dX3_init_74 rfl ?_
  refine pa_getf (j := 0) (v := .ref (b + 4)) hb rfl (by omega) dX3_init_75 kf_X3_21 (by decide) rfl rfl ?_
  refine pw_iload_n dX3_init_78 rfl ?_
  refine pw_iconst_ (v := nI 5) dX3_init_79 (by decide) ?_
  refine pa_iast (L' := [(3, [.ref (b + 1), .ref (b + 2), .ref (b + 3), .ref (b + 4), .int 0, .ref (b + 5), .int 0]), (100, [.int (nI 10), .int (nI 200), .int (nI 2)]), (100, [.int (nI 0), .int (nI 2), .int (nI 4), .int (nI 6), .int (nI 8), .int (nI 10), .int 0, .int 0]), (100, List.replicate 8 (.int 0)), (100, [.int (nI 5), .int (nI 5), .int (nI 5), .int (nI 5), .int (nI 5), .int (nI 5), .int 0, .int 0]), (105, List.replicate 6 .null)]) (j := 4) (k := 5) hb rfl dX3_init_80 rfl rfl (by decide) (Nat.le_of_ble_eq_true rfl) rfl ?_
  refine px_iincn (n := 1) (a := 5) (b := 6) (ls' := [some (.ref b), some (.int (nI 6))]) dX3_init_81 rfl rfl rfl rfl ?_
  refine pw_goto (tgt := 59) dX3_init_84 (by decide) ?_
  refine pw_iload_n dX3_init_59 rfl ?_
  refine pw_bipush (v := nI 8) dX3_init_60 (by decide) ?_
  refine pn_ge (tgt := 87) dX3_init_62 (by decide) (by decide) (by decide) (fun h9 => absurd h9 (by decide)) (fun _ => ?_)
  refine pw_aload_n dX3_init_65 rfl ?_
  refine pa_getf (j := 0) (v := .ref (b + 2)) hb rfl (by omega) dX3_init_66 kf_X3_15 (by decide) rfl rfl ?_
  refine pw_iload_n dX3_init_69 rfl ?_
  refine pw_iconst_ (v := nI 2) dX3_init_70 (by decide) ?_
  refine pw_iload_n dX3_init_71 rfl ?_
  refine px_imuln (c := 12) dX3_init_72 rfl ?_
  refine pa_iast (L' := [(3, [.ref (b + 1), .ref (b + 2), .ref (b + 3), .ref (b + 4), .int 0, .ref (b + 5), .int 0]), (100, [.int (nI 10), .int (nI 200), .int (nI 2)]), (100, [.int (nI 0), .int (nI 2), .int (nI 4), .int (nI 6), .int (nI 8), .int (nI 10), .int (nI 12), .int 0]), (100, List.replicate 8 (.int 0)), (100, [.int (nI 5), .int (nI 5), .int (nI 5), .int (nI 5), .int (nI 5), .int (nI 5), .int 0, .int 0]), (105, List.replicate 6 .null)]) (j := 2) (k := 6) hb rfl dX3_init_73 rfl rfl (by decide) (Nat.le_of_ble_eq_true rfl) rfl ?_
  refine pw_aload_n dX3_init_74 rfl ?_
  refine pa_getf (j := 0) (v := .ref (b + 4)) hb rfl (by omega) dX3_init_75 kf_X3_21 (by decide) rfl rfl ?_
  refine pw_iload_n dX3_init_78 rfl ?_
  refine pw_iconst_ (v := nI 5) dX3_init_79 (by decide) ?_
  refine pa_iast (L' := [(3, [.ref (b + 1), .ref (b + 2), .ref (b + 3), .ref (b + 4), .int 0, .ref (b + 5), .int 0]), (100, [.int (nI 10), .int (nI 200), .int (nI 2)]), (100, [.int (nI 0), .int (nI 2), .int (nI 4), .int (nI 6), .int (nI 8), .int (nI 10), .int (nI 12), .int 0]), (100, List.replicate 8 (.int 0)), (100, [.int (nI 5), .int (nI 5), .int (nI 5), .int (nI 5), .int (nI 5), .int (nI 5), .int (nI 5), .int 0]), (105, List.replicate 6 .null)]) (j := 4) (k := 6) hb rfl dX3_init_80 rfl rfl (by decide) (Nat.le_of_ble_eq_true rfl) rfl ?_
  refine px_iincn (n := 1) (a := 6) (b := 7) (ls' := [some (.ref b), some (.int (nI 7))]) dX3_init_81 rfl rfl rfl rfl ?_
  refine pw_goto (tgt := 59) dX3_init_84 (by decide) ?_
  refine pw_iload_n dX3_init_59 rfl ?_
  refine pw_bipush (v := nI 8) dX3_init_60 (by decide) ?_
  refine pn_ge (tgt := 87) dX3_init_62 (by decide) (by decide) (by decide) (fun h9 => absurd h9 (by decide)) (fun _ => ?_)
  refine pw_aload_n dX3_init_65 rfl ?_
  refine pa_getf (j := 0) (v := .ref (b + 2)) hb rfl (by omega) dX3_init_66 kf_X3_15 (by decide) rfl rfl ?_
  refine pw_iload_n dX3_init_69 rfl ?_
  refine pw_iconst_ (v := nI 2) dX3_init_70 (by decide) ?_
  refine pw_iload_n dX3_init_71 rfl ?_
  refine px_imuln (c := 14) dX3_init_72 rfl ?_
  refine pa_iast (L' := [(3, [.ref (b + 1), .ref (b + 2), .ref (b + 3), .ref (b + 4), .int 0, .ref (b + 5), .int 0]), (100, [.int (nI 10), .int (nI 200), .int (nI 2)]), (100, [.int (nI 0), .int (nI 2), .int (nI 4), .int (nI 6), .int (nI 8), .int (nI 10), .int (nI 12), .int (nI 14)]), (100, List.replicate 8 (.int 0)), (100, [.int (nI 5), .int (nI 5), .int (nI 5), .int (nI 5), .int (nI 5), .int (nI 5), .int (nI 5), .int 0]), (105, List.replicate 6 .null)]) (j := 2) (k := 7) hb rfl dX3_init_73 rfl rfl (by decide) (Nat.le_of_ble_eq_true rfl) rfl ?_
  refine pw_aload_n dX3_init_74 rfl ?_
  refine pa_getf (j := 0) (v := .ref (b + 4)) hb rfl (by omega) dX3_init_75 kf_X3_21 (by decide) rfl rfl ?_
  refine pw_iload_n dX3_init_78 rfl ?_
  refine pw_iconst_ (v := nI 5) dX3_init_79 (by decide) ?_
  refine pa_iast (L' := [(3, [.ref (b + 1), .ref (b + 2), .ref (b + 3), .ref (b + 4), .int 0, .ref (b + 5), .int 0]), (100, [.int (nI 10), .int (nI 200), .int (nI 2)]), (100, [.int (nI 0), .int (nI 2), .int (nI 4), .int (nI 6), .int (nI 8), .int (nI 10), .int (nI 12), .int (nI 14)]), (100, List.replicate 8 (.int 0)), (100, [.int (nI 5), .int (nI 5), .int (nI 5), .int (nI 5), .int (nI 5), .int (nI 5), .int (nI 5), .int (nI 5)]), (105, List.replicate 6 .null)]) (j := 4) (k := 7) hb rfl dX3_init_80 rfl rfl (by decide) (Nat.le_of_ble_eq_true rfl) rfl ?_
  refine px_iincn (n := 1) (a := 7) (b := 8) (ls' := [some (.ref b), some (.int (nI 8))]) dX3_init_81 rfl rfl rfl rfl ?_
  refine pw_goto (tgt := 59) dX3_init_84 (by decide) ?_
  refine pw_iload_n dX3_init_59 rfl ?_
  refine pw_bipush (v := nI 8) dX3_init_60 (by decide) ?_
  refine pn_ge (tgt := 87) dX3_init_62 (by decide) (by decide) (by decide) (fun _ => ?_) (fun h9 => absurd h9 (by decide))
  refine pw_iconst_ (v := nI 0) dX3_init_87 (by decide) ?_
  refine px_istore_n (ls' := [some (.ref b), some (.int (nI 0))]) dX3_init_88 rfl rfl (by decide) ?_
  refine pw_iload_n dX3_init_89 rfl ?_
  refine pw_bipush (v := nI 6) dX3_init_90 (by decide) ?_
  refine pn_ge (tgt := 114) dX3_init_92 (by decide) (by decide) (by decide) (fun h9 => absurd h9 (by decide)) (fun _ => ?_)
  refine pw_aload_n dX3_init_95 rfl ?_
  refine pa_getf (j := 0) (v := .ref (b + 5)) hb rfl (by omega) dX3_init_96 kf_X3_26 (by decide) rfl rfl ?_
  refine pw_iload_n dX3_init_99 rfl ?_
  have hA6 : (M0 ++ ([(3, [.ref (b + 1), .ref (b + 2), .ref (b + 3), .ref (b + 4), .int 0, .ref (b + 5), .int 0]), (100, [.int (nI 10), .int (nI 200), .int (nI 2)]), (100, [.int (nI 0), .int (nI 2), .int (nI 4), .int (nI 6), .int (nI 8), .int (nI 10), .int (nI 12), .int (nI 14)]), (100, List.replicate 8 (.int 0)), (100, [.int (nI 5), .int (nI 5), .int (nI 5), .int (nI 5), .int (nI 5), .int (nI 5), .int (nI 5), .int (nI 5)]), (105, List.replicate 6 .null)] : List PE)).length = b + 6 := pa_len hb (by simp only [-List.reduceReplicate, List.length_append, List.length_cons, List.length_nil, TBK_len] <;> omega)
  have hS6 : kv_sum (M0 ++ ([(3, [.ref (b + 1), .ref (b + 2), .ref (b + 3), .ref (b + 4), .int 0, .ref (b + 5), .int 0]), (100, [.int (nI 10), .int (nI 200), .int (nI 2)]), (100, [.int (nI 0), .int (nI 2), .int (nI 4), .int (nI 6), .int (nI 8), .int (nI 10), .int (nI 12), .int (nI 14)]), (100, List.replicate 8 (.int 0)), (100, [.int (nI 5), .int (nI 5), .int (nI 5), .int (nI 5), .int (nI 5), .int (nI 5), .int (nI 5), .int (nI 5)]), (105, List.replicate 6 .null)] : List PE)) = z + 40 := pa_sum hz (by simp only [-List.reduceReplicate, kv_sum_app2, kv_sum_cons, kv_sum_nil, TBK_sum, List.length_cons, List.length_nil, List.length_replicate, List.length_set] <;> omega)
  refine pa_newo hA6 hS6 dX3_init_100 kn_X3_24 (by clear hA6 hS6; omega) (by clear hA6 hS6; omega) (by clear hA6 hS6; show z + 40 + 5 ≤ _; omega) ?_
  refine pw_dup dX3_init_103 rfl ?_
  refine pw_callIN (N' := b + 6 + 2) (Z' := z + 40 + 13) (b := b + 6) (As := []) (st := [.ref (b + 6), .int (nI 0), .ref (b + 5)]) (host := RX5) dX3_init_104 yy_X4_init rfl rfl (by simp [kv_NW]) in_yX4_init rfl (Nat.le_of_ble_eq_true rfl) (Nat.le_of_ble_eq_true rfl) ⟨by rw [List.length_append, hA6]; show b + 6 + 1 ≤ _; clear hA6 hS6; omega, by clear hA6 hS6; omega⟩ ⟨by rw [kv_sum_app2, hS6]; show z + 40 + 5 ≤ _; clear hA6 hS6; omega, by clear hA6 hS6; omega⟩ ?_
  refine k_Team (M0 := (M0 ++ ([(3, [.ref (b + 1), .ref (b + 2), .ref (b + 3), .ref (b + 4), .int 0, .ref (b + 5), .int 0]), (100, [.int (nI 10), .int (nI 200), .int (nI 2)]), (100, [.int (nI 0), .int (nI 2), .int (nI 4), .int (nI 6), .int (nI 8), .int (nI 10), .int (nI 12), .int (nI 14)]), (100, List.replicate 8 (.int 0)), (100, [.int (nI 5), .int (nI 5), .int (nI 5), .int (nI 5), .int (nI 5), .int (nI 5), .int (nI 5), .int (nI 5)]), (105, List.replicate 6 .null)] : List PE))) hA6 hS6 (by clear hA6 hS6; omega) ?_
  clear hA6 hS6
  refine pa_aastS (L' := [(3, [.ref (b + 1), .ref (b + 2), .ref (b + 3), .ref (b + 4), .int 0, .ref (b + 5), .int 0]), (100, [.int (nI 10), .int (nI 200), .int (nI 2)]), (100, [.int (nI 0), .int (nI 2), .int (nI 4), .int (nI 6), .int (nI 8), .int (nI 10), .int (nI 12), .int (nI 14)]), (100, List.replicate 8 (.int 0)), (100, [.int (nI 5), .int (nI 5), .int (nI 5), .int (nI 5), .int (nI 5), .int (nI 5), .int (nI 5), .int (nI 5)]), (105, [.ref (b + 6), .null, .null, .null, .null, .null])] ++ TBK (b + 6)) (j := 5) (k := 0) (t := 5) (ci := 4) hb rfl (by simp only [List.length_append, List.length_cons, List.length_nil, TBK_len] <;> omega) dX3_init_107 rfl rfl (by decide) rfl (by decide) (Nat.le_of_ble_eq_true rfl) rfl (by decide) rfl rfl ?_
  refine px_iincn (n := 1) (a := 0) (b := 1) (ls' := [some (.ref b), some (.int (nI 1))]) dX3_init_108 rfl rfl rfl rfl ?_
  refine pw_goto (tgt := 89) dX3_init_111 (by decide) ?_
  refine pw_iload_n dX3_init_89 rfl ?_
  refine pw_bipush (v := nI 6) dX3_init_90 (by decide) ?_
  refine pn_ge (tgt := 114) dX3_init_92 (by decide) (by decide) (by decide) (fun h9 => absurd h9 (by decide)) (fun _ => ?_)
  refine pw_aload_n dX3_init_95 rfl ?_
  refine pa_getf (j := 0) (v := .ref (b + 5)) hb rfl (by omega) dX3_init_96 kf_X3_26 (by decide) (gg rfl) rfl ?_
  refine pw_iload_n dX3_init_99 rfl ?_
  have hA7 : (M0 ++ ([(3, [.ref (b + 1), .ref (b + 2), .ref (b + 3), .ref (b + 4), .int 0, .ref (b + 5), .int 0]), (100, [.int (nI 10), .int (nI 200), .int (nI 2)]), (100, [.int (nI 0), .int (nI 2), .int (nI 4), .int (nI 6), .int (nI 8), .int (nI 10), .int (nI 12), .int (nI 14)]), (100, List.replicate 8 (.int 0)), (100, [.int (nI 5), .int (nI 5), .int (nI 5), .int (nI 5), .int (nI 5), .int (nI 5), .int (nI 5), .int (nI 5)]), (105, [.ref (b + 6), .null, .null, .null, .null, .null])] ++ TBK (b + 6) : List PE)).length = b + 8 := pa_len hb (by simp only [-List.reduceReplicate, List.length_append, List.length_cons, List.length_nil, TBK_len] <;> omega)
  have hS7 : kv_sum (M0 ++ ([(3, [.ref (b + 1), .ref (b + 2), .ref (b + 3), .ref (b + 4), .int 0, .ref (b + 5), .int 0]), (100, [.int (nI 10), .int (nI 200), .int (nI 2)]), (100, [.int (nI 0), .int (nI 2), .int (nI 4), .int (nI 6), .int (nI 8), .int (nI 10), .int (nI 12), .int (nI 14)]), (100, List.replicate 8 (.int 0)), (100, [.int (nI 5), .int (nI 5), .int (nI 5), .int (nI 5), .int (nI 5), .int (nI 5), .int (nI 5), .int (nI 5)]), (105, [.ref (b + 6), .null, .null, .null, .null, .null])] ++ TBK (b + 6) : List PE)) = z + 53 := pa_sum hz (by simp only [-List.reduceReplicate, kv_sum_app2, kv_sum_cons, kv_sum_nil, TBK_sum, List.length_cons, List.length_nil, List.length_replicate, List.length_set] <;> omega)
  refine pa_newo hA7 hS7 dX3_init_100 kn_X3_24 (by clear hA7 hS7; omega) (by clear hA7 hS7; omega) (by clear hA7 hS7; show z + 53 + 5 ≤ _; omega) ?_
  refine pw_dup dX3_init_103 rfl ?_
  refine pw_callIN (N' := b + 8 + 2) (Z' := z + 53 + 13) (b := b + 8) (As := []) (st := [.ref (b + 8), .int (nI 1), .ref (b + 5)]) (host := RX5) dX3_init_104 yy_X4_init rfl rfl (by simp [kv_NW]) in_yX4_init rfl (Nat.le_of_ble_eq_true rfl) (Nat.le_of_ble_eq_true rfl) ⟨by rw [List.length_append, hA7]; show b + 8 + 1 ≤ _; clear hA7 hS7; omega, by clear hA7 hS7; omega⟩ ⟨by rw [kv_sum_app2, hS7]; show z + 53 + 5 ≤ _; clear hA7 hS7; omega, by clear hA7 hS7; omega⟩ ?_
  refine k_Team (M0 := (M0 ++ ([(3, [.ref (b + 1), .ref (b + 2), .ref (b + 3), .ref (b + 4), .int 0, .ref (b + 5), .int 0]), (100, [.int (nI 10), .int (nI 200), .int (nI 2)]), (100, [.int (nI 0), .int (nI 2), .int (nI 4), .int (nI 6), .int (nI 8), .int (nI 10), .int (nI 12), .int (nI 14)]), (100, List.replicate 8 (.int 0)), (100, [.int (nI 5), .int (nI 5), .int (nI 5), .int (nI 5), .int (nI 5), .int (nI 5), .int (nI 5), .int (nI 5)]), (105, [.ref (b + 6), .null, .null, .null, .null, .null])] ++ TBK (b + 6) : List PE))) hA7 hS7 (by clear hA7 hS7; omega) ?_
  clear hA7 hS7
  refine pa_aastS (L' := [(3, [.ref (b + 1), .ref (b + 2), .ref (b + 3), .ref (b + 4), .int 0, .ref (b + 5), .int 0]), (100, [.int (nI 10), .int (nI 200), .int (nI 2)]), (100, [.int (nI 0), .int (nI 2), .int (nI 4), .int (nI 6), .int (nI 8), .int (nI 10), .int (nI 12), .int (nI 14)]), (100, List.replicate 8 (.int 0)), (100, [.int (nI 5), .int (nI 5), .int (nI 5), .int (nI 5), .int (nI 5), .int (nI 5), .int (nI 5), .int (nI 5)]), (105, [.ref (b + 6), .ref (b + 8), .null, .null, .null, .null])] ++ (TBK (b + 6) ++ TBK (b + 8))) (j := 5) (k := 1) (t := 5) (ci := 4) hb rfl (by simp only [List.length_append, List.length_cons, List.length_nil, TBK_len] <;> omega) dX3_init_107 (gg rfl) rfl (by decide) rfl (by decide) (Nat.le_of_ble_eq_true rfl) rfl (by decide) rfl (gs (Nat.le_of_ble_eq_true rfl) rfl) ?_
  refine px_iincn (n := 1) (a := 1) (b := 2) (ls' := [some (.ref b), some (.int (nI 2))]) dX3_init_108 rfl rfl rfl rfl ?_
  refine pw_goto (tgt := 89) dX3_init_111 (by decide) ?_
  refine pw_iload_n dX3_init_89 rfl ?_
  refine pw_bipush (v := nI 6) dX3_init_90 (by decide) ?_
  refine pn_ge (tgt := 114) dX3_init_92 (by decide) (by decide) (by decide) (fun h9 => absurd h9 (by decide)) (fun _ => ?_)
  refine pw_aload_n dX3_init_95 rfl ?_
  refine pa_getf (j := 0) (v := .ref (b + 5)) hb rfl (by omega) dX3_init_96 kf_X3_26 (by decide) (gg rfl) rfl ?_
  refine pw_iload_n dX3_init_99 rfl ?_
  have hA8 : (M0 ++ ([(3, [.ref (b + 1), .ref (b + 2), .ref (b + 3), .ref (b + 4), .int 0, .ref (b + 5), .int 0]), (100, [.int (nI 10), .int (nI 200), .int (nI 2)]), (100, [.int (nI 0), .int (nI 2), .int (nI 4), .int (nI 6), .int (nI 8), .int (nI 10), .int (nI 12), .int (nI 14)]), (100, List.replicate 8 (.int 0)), (100, [.int (nI 5), .int (nI 5), .int (nI 5), .int (nI 5), .int (nI 5), .int (nI 5), .int (nI 5), .int (nI 5)]), (105, [.ref (b + 6), .ref (b + 8), .null, .null, .null, .null])] ++ (TBK (b + 6) ++ TBK (b + 8)) : List PE)).length = b + 10 := pa_len hb (by simp only [-List.reduceReplicate, List.length_append, List.length_cons, List.length_nil, TBK_len] <;> omega)
  have hS8 : kv_sum (M0 ++ ([(3, [.ref (b + 1), .ref (b + 2), .ref (b + 3), .ref (b + 4), .int 0, .ref (b + 5), .int 0]), (100, [.int (nI 10), .int (nI 200), .int (nI 2)]), (100, [.int (nI 0), .int (nI 2), .int (nI 4), .int (nI 6), .int (nI 8), .int (nI 10), .int (nI 12), .int (nI 14)]), (100, List.replicate 8 (.int 0)), (100, [.int (nI 5), .int (nI 5), .int (nI 5), .int (nI 5), .int (nI 5), .int (nI 5), .int (nI 5), .int (nI 5)]), (105, [.ref (b + 6), .ref (b + 8), .null, .null, .null, .null])] ++ (TBK (b + 6) ++ TBK (b + 8)) : List PE)) = z + 66 := pa_sum hz (by simp only [-List.reduceReplicate, kv_sum_app2, kv_sum_cons, kv_sum_nil, TBK_sum, List.length_cons, List.length_nil, List.length_replicate, List.length_set] <;> omega)
  refine pa_newo hA8 hS8 dX3_init_100 kn_X3_24 (by clear hA8 hS8; omega) (by clear hA8 hS8; omega) (by clear hA8 hS8; show z + 66 + 5 ≤ _; omega) ?_
  refine pw_dup dX3_init_103 rfl ?_
  refine pw_callIN (N' := b + 10 + 2) (Z' := z + 66 + 13) (b := b + 10) (As := []) (st := [.ref (b + 10), .int (nI 2), .ref (b + 5)]) (host := RX5) dX3_init_104 yy_X4_init rfl rfl (by simp [kv_NW]) in_yX4_init rfl (Nat.le_of_ble_eq_true rfl) (Nat.le_of_ble_eq_true rfl) ⟨by rw [List.length_append, hA8]; show b + 10 + 1 ≤ _; clear hA8 hS8; omega, by clear hA8 hS8; omega⟩ ⟨by rw [kv_sum_app2, hS8]; show z + 66 + 5 ≤ _; clear hA8 hS8; omega, by clear hA8 hS8; omega⟩ ?_
  refine k_Team (M0 := (M0 ++ ([(3, [.ref (b + 1), .ref (b + 2), .ref (b + 3), .ref (b + 4), .int 0, .ref (b + 5), .int 0]), (100, [.int (nI 10), .int (nI 200), .int (nI 2)]), (100, [.int (nI 0), .int (nI 2), .int (nI 4), .int (nI 6), .int (nI 8), .int (nI 10), .int (nI 12), .int (nI 14)]), (100, List.replicate 8 (.int 0)), (100, [.int (nI 5), .int (nI 5), .int (nI 5), .int (nI 5), .int (nI 5), .int (nI 5), .int (nI 5), .int (nI 5)]), (105, [.ref (b + 6), .ref (b + 8), .null, .null, .null, .null])] ++ (TBK (b + 6) ++ TBK (b + 8)) : List PE))) hA8 hS8 (by clear hA8 hS8; omega) ?_
  clear hA8 hS8
  refine pa_aastS (L' := [(3, [.ref (b + 1), .ref (b + 2), .ref (b + 3), .ref (b + 4), .int 0, .ref (b + 5), .int 0]), (100, [.int (nI 10), .int (nI 200), .int (nI 2)]), (100, [.int (nI 0), .int (nI 2), .int (nI 4), .int (nI 6), .int (nI 8), .int (nI 10), .int (nI 12), .int (nI 14)]), (100, List.replicate 8 (.int 0)), (100, [.int (nI 5), .int (nI 5), .int (nI 5), .int (nI 5), .int (nI 5), .int (nI 5), .int (nI 5), .int (nI 5)]), (105, [.ref (b + 6), .ref (b + 8), .ref (b + 10), .null, .null, .null])] ++ ((TBK (b + 6) ++ TBK (b + 8)) ++ TBK (b + 10))) (j := 5) (k := 2) (t := 5) (ci := 4) hb rfl (by simp only [List.length_append, List.length_cons, List.length_nil, TBK_len] <;> omega) dX3_init_107 (gg rfl) rfl (by decide) rfl (by decide) (Nat.le_of_ble_eq_true rfl) rfl (by decide) rfl (gs (Nat.le_of_ble_eq_true rfl) rfl) ?_
  refine px_iincn (n := 1) (a := 2) (b := 3) (ls' := [some (.ref b), some (.int (nI 3))]) dX3_init_108 rfl rfl rfl rfl ?_
  refine pw_goto (tgt := 89) dX3_init_111 (by decide) ?_
  refine pw_iload_n dX3_init_89 rfl ?_
  refine pw_bipush (v := nI 6) dX3_init_90 (by decide) ?_
  refine pn_ge (tgt := 114) dX3_init_92 (by decide) (by decide) (by decide) (fun h9 => absurd h9 (by decide)) (fun _ => ?_)
  refine pw_aload_n dX3_init_95 rfl ?_
  refine pa_getf (j := 0) (v := .ref (b + 5)) hb rfl (by omega) dX3_init_96 kf_X3_26 (by decide) (gg rfl) rfl ?_
  refine pw_iload_n dX3_init_99 rfl ?_
  have hA9 : (M0 ++ ([(3, [.ref (b + 1), .ref (b + 2), .ref (b + 3), .ref (b + 4), .int 0, .ref (b + 5), .int 0]), (100, [.int (nI 10), .int (nI 200), .int (nI 2)]), (100, [.int (nI 0), .int (nI 2), .int (nI 4), .int (nI 6), .int (nI 8), .int (nI 10), .int (nI 12), .int (nI 14)]), (100, List.replicate 8 (.int 0)), (100, [.int (nI 5), .int (nI 5), .int (nI 5), .int (nI 5), .int (nI 5), .int (nI 5), .int (nI 5), .int (nI 5)]), (105, [.ref (b + 6), .ref (b + 8), .ref (b + 10), .null, .null, .null])] ++ ((TBK (b + 6) ++ TBK (b + 8)) ++ TBK (b + 10)) : List PE)).length = b + 12 := pa_len hb (by simp only [-List.reduceReplicate, List.length_append, List.length_cons, List.length_nil, TBK_len] <;> omega)
  have hS9 : kv_sum (M0 ++ ([(3, [.ref (b + 1), .ref (b + 2), .ref (b + 3), .ref (b + 4), .int 0, .ref (b + 5), .int 0]), (100, [.int (nI 10), .int (nI 200), .int (nI 2)]), (100, [.int (nI 0), .int (nI 2), .int (nI 4), .int (nI 6), .int (nI 8), .int (nI 10), .int (nI 12), .int (nI 14)]), (100, List.replicate 8 (.int 0)), (100, [.int (nI 5), .int (nI 5), .int (nI 5), .int (nI 5), .int (nI 5), .int (nI 5), .int (nI 5), .int (nI 5)]), (105, [.ref (b + 6), .ref (b + 8), .ref (b + 10), .null, .null, .null])] ++ ((TBK (b + 6) ++ TBK (b + 8)) ++ TBK (b + 10)) : List PE)) = z + 79 := pa_sum hz (by simp only [-List.reduceReplicate, kv_sum_app2, kv_sum_cons, kv_sum_nil, TBK_sum, List.length_cons, List.length_nil, List.length_replicate, List.length_set] <;> omega)
  refine pa_newo hA9 hS9 dX3_init_100 kn_X3_24 (by clear hA9 hS9; omega) (by clear hA9 hS9; omega) (by clear hA9 hS9; show z + 79 + 5 ≤ _; omega) ?_
  refine pw_dup dX3_init_103 rfl ?_
  refine pw_callIN (N' := b + 12 + 2) (Z' := z + 79 + 13) (b := b + 12) (As := []) (st := [.ref (b + 12), .int (nI 3), .ref (b + 5)]) (host := RX5) dX3_init_104 yy_X4_init rfl rfl (by simp [kv_NW]) in_yX4_init rfl (Nat.le_of_ble_eq_true rfl) (Nat.le_of_ble_eq_true rfl) ⟨by rw [List.length_append, hA9]; show b + 12 + 1 ≤ _; clear hA9 hS9; omega, by clear hA9 hS9; omega⟩ ⟨by rw [kv_sum_app2, hS9]; show z + 79 + 5 ≤ _; clear hA9 hS9; omega, by clear hA9 hS9; omega⟩ ?_
  refine k_Team (M0 := (M0 ++ ([(3, [.ref (b + 1), .ref (b + 2), .ref (b + 3), .ref (b + 4), .int 0, .ref (b + 5), .int 0]), (100, [.int (nI 10), .int (nI 200), .int (nI 2)]), (100, [.int (nI 0), .int (nI 2), .int (nI 4), .int (nI 6), .int (nI 8), .int (nI 10), .int (nI 12), .int (nI 14)]), (100, List.replicate 8 (.int 0)), (100, [.int (nI 5), .int (nI 5), .int (nI 5), .int (nI 5), .int (nI 5), .int (nI 5), .int (nI 5), .int (nI 5)]), (105, [.ref (b + 6), .ref (b + 8), .ref (b + 10), .null, .null, .null])] ++ ((TBK (b + 6) ++ TBK (b + 8)) ++ TBK (b + 10)) : List PE))) hA9 hS9 (by clear hA9 hS9; omega) ?_
  clear hA9 hS9
  refine pa_aastS (L' := [(3, [.ref (b + 1), .ref (b + 2), .ref (b + 3), .ref (b + 4), .int 0, .ref (b + 5), .int 0]), (100, [.int (nI 10), .int (nI 200), .int (nI 2)]), (100, [.int (nI 0), .int (nI 2), .int (nI 4), .int (nI 6), .int (nI 8), .int (nI 10), .int (nI 12), .int (nI 14)]), (100, List.replicate 8 (.int 0)), (100, [.int (nI 5), .int (nI 5), .int (nI 5), .int (nI 5), .int (nI 5), .int (nI 5), .int (nI 5), .int (nI 5)]), (105, [.ref (b + 6), .ref (b + 8), .ref (b + 10), .ref (b + 12), .null, .null])] ++ (((TBK (b + 6) ++ TBK (b + 8)) ++ TBK (b + 10)) ++ TBK (b + 12))) (j := 5) (k := 3) (t := 5) (ci := 4) hb rfl (by simp only [List.length_append, List.length_cons, List.length_nil, TBK_len] <;> omega) dX3_init_107 (gg rfl) rfl (by decide) rfl (by decide) (Nat.le_of_ble_eq_true rfl) rfl (by decide) rfl (gs (Nat.le_of_ble_eq_true rfl) rfl) ?_
  refine px_iincn (n := 1) (a := 3) (b := 4) (ls' := [some (.ref b), some (.int (nI 4))]) dX3_init_108 rfl rfl rfl rfl ?_
  refine pw_goto (tgt := 89) dX3_init_111 (by decide) ?_
  refine pw_iload_n dX3_init_89 rfl ?_
  refine pw_bipush (v := nI 6) dX3_init_90 (by decide) ?_
  refine pn_ge (tgt := 114) dX3_init_92 (by decide) (by decide) (by decide) (fun h9 => absurd h9 (by decide)) (fun _ => ?_)
  refine pw_aload_n dX3_init_95 rfl ?_
  refine pa_getf (j := 0) (v := .ref (b + 5)) hb rfl (by omega) dX3_init_96 kf_X3_26 (by decide) (gg rfl) rfl ?_
  refine pw_iload_n dX3_init_99 rfl ?_
  have hA10 : (M0 ++ ([(3, [.ref (b + 1), .ref (b + 2), .ref (b + 3), .ref (b + 4), .int 0, .ref (b + 5), .int 0]), (100, [.int (nI 10), .int (nI 200), .int (nI 2)]), (100, [.int (nI 0), .int (nI 2), .int (nI 4), .int (nI 6), .int (nI 8), .int (nI 10), .int (nI 12), .int (nI 14)]), (100, List.replicate 8 (.int 0)), (100, [.int (nI 5), .int (nI 5), .int (nI 5), .int (nI 5), .int (nI 5), .int (nI 5), .int (nI 5), .int (nI 5)]), (105, [.ref (b + 6), .ref (b + 8), .ref (b + 10), .ref (b + 12), .null, .null])] ++ (((TBK (b + 6) ++ TBK (b + 8)) ++ TBK (b + 10)) ++ TBK (b + 12)) : List PE)).length = b + 14 := pa_len hb (by simp only [-List.reduceReplicate, List.length_append, List.length_cons, List.length_nil, TBK_len] <;> omega)
  have hS10 : kv_sum (M0 ++ ([(3, [.ref (b + 1), .ref (b + 2), .ref (b + 3), .ref (b + 4), .int 0, .ref (b + 5), .int 0]), (100, [.int (nI 10), .int (nI 200), .int (nI 2)]), (100, [.int (nI 0), .int (nI 2), .int (nI 4), .int (nI 6), .int (nI 8), .int (nI 10), .int (nI 12), .int (nI 14)]), (100, List.replicate 8 (.int 0)), (100, [.int (nI 5), .int (nI 5), .int (nI 5), .int (nI 5), .int (nI 5), .int (nI 5), .int (nI 5), .int (nI 5)]), (105, [.ref (b + 6), .ref (b + 8), .ref (b + 10), .ref (b + 12), .null, .null])] ++ (((TBK (b + 6) ++ TBK (b + 8)) ++ TBK (b + 10)) ++ TBK (b + 12)) : List PE)) = z + 92 := pa_sum hz (by simp only [-List.reduceReplicate, kv_sum_app2, kv_sum_cons, kv_sum_nil, TBK_sum, List.length_cons, List.length_nil, List.length_replicate, List.length_set] <;> omega)
  refine pa_newo hA10 hS10 dX3_init_100 kn_X3_24 (by clear hA10 hS10; omega) (by clear hA10 hS10; omega) (by clear hA10 hS10; show z + 92 + 5 ≤ _; omega) ?_
  refine pw_dup dX3_init_103 rfl ?_
  refine pw_callIN (N' := b + 14 + 2) (Z' := z + 92 + 13) (b := b + 14) (As := []) (st := [.ref (b + 14), .int (nI 4), .ref (b + 5)]) (host := RX5) dX3_init_104 yy_X4_init rfl rfl (by simp [kv_NW]) in_yX4_init rfl (Nat.le_of_ble_eq_true rfl) (Nat.le_of_ble_eq_true rfl) ⟨by rw [List.length_append, hA10]; show b + 14 + 1 ≤ _; clear hA10 hS10; omega, by clear hA10 hS10; omega⟩ ⟨by rw [kv_sum_app2, hS10]; show z + 92 + 5 ≤ _; clear hA10 hS10; omega, by clear hA10 hS10; omega⟩ ?_
  refine k_Team (M0 := (M0 ++ ([(3, [.ref (b + 1), .ref (b + 2), .ref (b + 3), .ref (b + 4), .int 0, .ref (b + 5), .int 0]), (100, [.int (nI 10), .int (nI 200), .int (nI 2)]), (100, [.int (nI 0), .int (nI 2), .int (nI 4), .int (nI 6), .int (nI 8), .int (nI 10), .int (nI 12), .int (nI 14)]), (100, List.replicate 8 (.int 0)), (100, [.int (nI 5), .int (nI 5), .int (nI 5), .int (nI 5), .int (nI 5), .int (nI 5), .int (nI 5), .int (nI 5)]), (105, [.ref (b + 6), .ref (b + 8), .ref (b + 10), .ref (b + 12), .null, .null])] ++ (((TBK (b + 6) ++ TBK (b + 8)) ++ TBK (b + 10)) ++ TBK (b + 12)) : List PE))) hA10 hS10 (by clear hA10 hS10; omega) ?_
  clear hA10 hS10
  refine pa_aastS (L' := [(3, [.ref (b + 1), .ref (b + 2), .ref (b + 3), .ref (b + 4), .int 0, .ref (b + 5), .int 0]), (100, [.int (nI 10), .int (nI 200), .int (nI 2)]), (100, [.int (nI 0), .int (nI 2), .int (nI 4), .int (nI 6), .int (nI 8), .int (nI 10), .int (nI 12), .int (nI 14)]), (100, List.replicate 8 (.int 0)), (100, [.int (nI 5), .int (nI 5), .int (nI 5), .int (nI 5), .int (nI 5), .int (nI 5), .int (nI 5), .int (nI 5)]), (105, [.ref (b + 6), .ref (b + 8), .ref (b + 10), .ref (b + 12), .ref (b + 14), .null])] ++ ((((TBK (b + 6) ++ TBK (b + 8)) ++ TBK (b + 10)) ++ TBK (b + 12)) ++ TBK (b + 14))) (j := 5) (k := 4) (t := 5) (ci := 4) hb rfl (by simp only [List.length_append, List.length_cons, List.length_nil, TBK_len] <;> omega) dX3_init_107 (gg rfl) rfl (by decide) rfl (by decide) (Nat.le_of_ble_eq_true rfl) rfl (by decide) rfl (gs (Nat.le_of_ble_eq_true rfl) rfl) ?_
  refine px_iincn (n := 1) (a := 4) (b := 5) (ls' := [some (.ref b), some (.int (nI 5))]) dX3_init_108 rfl rfl rfl rfl ?_
  refine pw_goto (tgt := 89) dX3_init_111 (by decide) ?_
  refine pw_iload_n dX3_init_89 rfl ?_
  refine pw_bipush (v := nI 6) dX3_init_90 (by decide) ?_
  refine pn_ge (tgt := 114) dX3_init_92 (by decide) (by decide) (by decide) (fun h9 => absurd h9 (by decide)) (fun _ => ?_)
  refine pw_aload_n dX3_init_95 rfl ?_
  refine pa_getf (j := 0) (v := .ref (b + 5)) hb rfl (by omega) dX3_init_96 kf_X3_26 (by decide) (gg rfl) rfl ?_
  refine pw_iload_n dX3_init_99 rfl ?_
  have hA11 : (M0 ++ ([(3, [.ref (b + 1), .ref (b + 2), .ref (b + 3), .ref (b + 4), .int 0, .ref (b + 5), .int 0]), (100, [.int (nI 10), .int (nI 200), .int (nI 2)]), (100, [.int (nI 0), .int (nI 2), .int (nI 4), .int (nI 6), .int (nI 8), .int (nI 10), .int (nI 12), .int (nI 14)]), (100, List.replicate 8 (.int 0)), (100, [.int (nI 5), .int (nI 5), .int (nI 5), .int (nI 5), .int (nI 5), .int (nI 5), .int (nI 5), .int (nI 5)]), (105, [.ref (b + 6), .ref (b + 8), .ref (b + 10), .ref (b + 12), .ref (b + 14), .null])] ++ ((((TBK (b + 6) ++ TBK (b + 8)) ++ TBK (b + 10)) ++ TBK (b + 12)) ++ TBK (b + 14)) : List PE)).length = b + 16 := pa_len hb (by simp only [-List.reduceReplicate, List.length_append, List.length_cons, List.length_nil, TBK_len] <;> omega)
  have hS11 : kv_sum (M0 ++ ([(3, [.ref (b + 1), .ref (b + 2), .ref (b + 3), .ref (b + 4), .int 0, .ref (b + 5), .int 0]), (100, [.int (nI 10), .int (nI 200), .int (nI 2)]), (100, [.int (nI 0), .int (nI 2), .int (nI 4), .int (nI 6), .int (nI 8), .int (nI 10), .int (nI 12), .int (nI 14)]), (100, List.replicate 8 (.int 0)), (100, [.int (nI 5), .int (nI 5), .int (nI 5), .int (nI 5), .int (nI 5), .int (nI 5), .int (nI 5), .int (nI 5)]), (105, [.ref (b + 6), .ref (b + 8), .ref (b + 10), .ref (b + 12), .ref (b + 14), .null])] ++ ((((TBK (b + 6) ++ TBK (b + 8)) ++ TBK (b + 10)) ++ TBK (b + 12)) ++ TBK (b + 14)) : List PE)) = z + 105 := pa_sum hz (by simp only [-List.reduceReplicate, kv_sum_app2, kv_sum_cons, kv_sum_nil, TBK_sum, List.length_cons, List.length_nil, List.length_replicate, List.length_set] <;> omega)
  refine pa_newo hA11 hS11 dX3_init_100 kn_X3_24 (by clear hA11 hS11; omega) (by clear hA11 hS11; omega) (by clear hA11 hS11; show z + 105 + 5 ≤ _; omega) ?_
  refine pw_dup dX3_init_103 rfl ?_
  refine pw_callIN (N' := b + 16 + 2) (Z' := z + 105 + 13) (b := b + 16) (As := []) (st := [.ref (b + 16), .int (nI 5), .ref (b + 5)]) (host := RX5) dX3_init_104 yy_X4_init rfl rfl (by simp [kv_NW]) in_yX4_init rfl (Nat.le_of_ble_eq_true rfl) (Nat.le_of_ble_eq_true rfl) ⟨by rw [List.length_append, hA11]; show b + 16 + 1 ≤ _; clear hA11 hS11; omega, by clear hA11 hS11; omega⟩ ⟨by rw [kv_sum_app2, hS11]; show z + 105 + 5 ≤ _; clear hA11 hS11; omega, by clear hA11 hS11; omega⟩ ?_
  refine k_Team (M0 := (M0 ++ ([(3, [.ref (b + 1), .ref (b + 2), .ref (b + 3), .ref (b + 4), .int 0, .ref (b + 5), .int 0]), (100, [.int (nI 10), .int (nI 200), .int (nI 2)]), (100, [.int (nI 0), .int (nI 2), .int (nI 4), .int (nI 6), .int (nI 8), .int (nI 10), .int (nI 12), .int (nI 14)]), (100, List.replicate 8 (.int 0)), (100, [.int (nI 5), .int (nI 5), .int (nI 5), .int (nI 5), .int (nI 5), .int (nI 5), .int (nI 5), .int (nI 5)]), (105, [.ref (b + 6), .ref (b + 8), .ref (b + 10), .ref (b + 12), .ref (b + 14), .null])] ++ ((((TBK (b + 6) ++ TBK (b + 8)) ++ TBK (b + 10)) ++ TBK (b + 12)) ++ TBK (b + 14)) : List PE))) hA11 hS11 (by clear hA11 hS11; omega) ?_
  clear hA11 hS11
  refine pa_aastS (L' := [(3, [.ref (b + 1), .ref (b + 2), .ref (b + 3), .ref (b + 4), .int 0, .ref (b + 5), .int 0]), (100, [.int (nI 10), .int (nI 200), .int (nI 2)]), (100, [.int (nI 0), .int (nI 2), .int (nI 4), .int (nI 6), .int (nI 8), .int (nI 10), .int (nI 12), .int (nI 14)]), (100, List.replicate 8 (.int 0)), (100, [.int (nI 5), .int (nI 5), .int (nI 5), .int (nI 5), .int (nI 5), .int (nI 5), .int (nI 5), .int (nI 5)]), (105, [.ref (b + 6), .ref (b + 8), .ref (b + 10), .ref (b + 12), .ref (b + 14), .ref (b + 16)])] ++ (((((TBK (b + 6) ++ TBK (b + 8)) ++ TBK (b + 10)) ++ TBK (b + 12)) ++ TBK (b + 14)) ++ TBK (b + 16))) (j := 5) (k := 5) (t := 5) (ci := 4) hb rfl (by simp only [List.length_append, List.length_cons, List.length_nil, TBK_len] <;> omega) dX3_init_107 (gg rfl) rfl (by decide) rfl (by decide) (Nat.le_of_ble_eq_true rfl) rfl (by decide) rfl (gs (Nat.le_of_ble_eq_true rfl) rfl) ?_
  refine px_iincn (n := 1) (a := 5) (b := 6) (ls' := [some (.ref b), some (.int (nI 6))]) dX3_init_108 rfl rfl rfl rfl ?_
  refine pw_goto (tgt := 89) dX3_init_111 (by decide) ?_
  refine pw_iload_n dX3_init_89 rfl ?_
  refine pw_bipush (v := nI 6) dX3_init_90 (by decide) ?_
  refine pn_ge (tgt := 114) dX3_init_92 (by decide) (by decide) (by decide) (fun _ => ?_) (fun h9 => absurd h9 (by decide))
  have hA12 : (M0 ++ ([(3, [.ref (b + 1), .ref (b + 2), .ref (b + 3), .ref (b + 4), .int 0, .ref (b + 5), .int 0]), (100, [.int (nI 10), .int (nI 200), .int (nI 2)]), (100, [.int (nI 0), .int (nI 2), .int (nI 4), .int (nI 6), .int (nI 8), .int (nI 10), .int (nI 12), .int (nI 14)]), (100, List.replicate 8 (.int 0)), (100, [.int (nI 5), .int (nI 5), .int (nI 5), .int (nI 5), .int (nI 5), .int (nI 5), .int (nI 5), .int (nI 5)]), (105, [.ref (b + 6), .ref (b + 8), .ref (b + 10), .ref (b + 12), .ref (b + 14), .ref (b + 16)])] ++ (((((TBK (b + 6) ++ TBK (b + 8)) ++ TBK (b + 10)) ++ TBK (b + 12)) ++ TBK (b + 14)) ++ TBK (b + 16)) : List PE)).length = b + 18 := pa_len hb (by simp only [-List.reduceReplicate, List.length_append, List.length_cons, List.length_nil, TBK_len] <;> omega)
  have hS12 : kv_sum (M0 ++ ([(3, [.ref (b + 1), .ref (b + 2), .ref (b + 3), .ref (b + 4), .int 0, .ref (b + 5), .int 0]), (100, [.int (nI 10), .int (nI 200), .int (nI 2)]), (100, [.int (nI 0), .int (nI 2), .int (nI 4), .int (nI 6), .int (nI 8), .int (nI 10), .int (nI 12), .int (nI 14)]), (100, List.replicate 8 (.int 0)), (100, [.int (nI 5), .int (nI 5), .int (nI 5), .int (nI 5), .int (nI 5), .int (nI 5), .int (nI 5), .int (nI 5)]), (105, [.ref (b + 6), .ref (b + 8), .ref (b + 10), .ref (b + 12), .ref (b + 14), .ref (b + 16)])] ++ (((((TBK (b + 6) ++ TBK (b + 8)) ++ TBK (b + 10)) ++ TBK (b + 12)) ++ TBK (b + 14)) ++ TBK (b + 16)) : List PE)) = z + 118 := pa_sum hz (by simp only [-List.reduceReplicate, kv_sum_app2, kv_sum_cons, kv_sum_nil, TBK_sum, List.length_cons, List.length_nil, List.length_replicate, List.length_set] <;> omega)
  exact pw_return dX3_init_114 rfl hA12 hS12 hf
end MAKE
