/-! the constructors: TrailTeams -/
def TTM : List PE := (([] : List PE) ++ ([(5, (((((((fz5).set 0 (.ref (1))).set 1 (.ref (19))).set 2 (.ref (37))).set 3 (.ref (77))).set 4 (.ref (79))).set 5 (.ref (189))).set 6 (.ref (190)))] ++ ((((SBK (1) ++ SBK (19)) ++ GBK (37)) ++ PBK (77)) ++ HBK (79)) : List PE)) ++ ([(104, [.ref (191), .ref (209)]), (102, List.replicate 2 (.int 0))] ++ (SBK (191) ++ SBK (209)))
section MAKE3
variable {l : Launch} {E : EV} {D : va_G} {cA : Nat → ClassId} {N Z : Nat} {X : MT} {d : Nat} {fin : Option Value → List PE → Prop} {pc : Nat} {ls : List (Option Value)} {st : List Value} {M0 L L' S : List PE} {b z : Nat}
set_option maxRecDepth 100000 in
set_option maxHeartbeats 8000000 in
theorem k_TT (hE : ESV E) (hf : fin none TTM) : PW l E D cA 227 1529 mX5_init (d + 4) fin 0 [some (.ref 0), none] [] [(5, fz5)] := by
  obtain ⟨f5, hf5⟩ : ∃ x : List Value, x = fz5 := ⟨_, rfl⟩
  have lf : f5.length = 7 := by rw [hf5]; rfl
  rw [← hf5]
  show PW l E D cA 227 1529 mX5_init (d + 4) fin 0 [some (.ref 0), none] [] (([] : List PE) ++ ([(5, f5)]))
  refine pw_aload_n dX5_init_0 rfl ?_
  refine pw_objInit dX5_init_1 co_X5_1 co_inst co_code (Nat.le_of_ble_eq_true rfl) ?_
  refine pw_aload_n dX5_init_4 rfl ?_
  have hA1 : (([] : List PE) ++ ([(5, f5)] : List PE)).length = 1 := pa_len (rfl : ([] : List PE).length = 0) (by simp only [-List.reduceReplicate, List.length_append, List.length_cons, List.length_nil, SBK_len, GBK_len, PBK_len, HBK_len] <;> omega)
  have hS1 : kv_sum (([] : List PE) ++ ([(5, f5)] : List PE)) = 7 := pa_sum kv_sum_nil (by simp only [-List.reduceReplicate, kv_sum_app2, kv_sum_cons, kv_sum_nil, SBK_sum, GBK_sum, PBK_sum, HBK_sum, lf, List.length_cons, List.length_nil, List.length_replicate, List.length_set] <;> omega)
  refine pa_newo hA1 hS1 dX5_init_5 kn_X5_7 (by clear hA1 hS1; omega) (by clear hA1 hS1; omega) (by clear hA1 hS1; show 7 + 7 ≤ _; omega) ?_
  refine pw_dup dX5_init_8 rfl ?_
  refine pw_callI (N' := 19) (Z' := 125) (b := 1) (As := []) (st := [.ref (1), .ref 0]) dX5_init_9 yy_X3_init rfl rfl ci_X5_9.1 ci_X5_9.2 rfl (Nat.le_of_ble_eq_true rfl) (Nat.le_of_ble_eq_true rfl) ⟨by rw [List.length_append, hA1]; show 1 + 1 ≤ _; clear hA1 hS1; omega, by clear hA1 hS1; omega⟩ ⟨by rw [kv_sum_app2, hS1]; show 7 + 7 ≤ _; clear hA1 hS1; omega, by clear hA1 hS1; omega⟩ ?_
  refine k_State hE (M0 := (([] : List PE) ++ ([(5, f5)] : List PE))) hA1 hS1 (by clear hA1 hS1; omega) ?_
  clear hA1 hS1
  have qL1 := SBK_len 1
  have qS1 := SBK_sum 1
  generalize hB1 : SBK (1) = B1 at qL1 qS1 ⊢
  refine pa_putfS (L' := [(5, (f5).set 0 (.ref (1)))] ++ B1) (j := 0) (rfl : ([] : List PE).length = 0) rfl dX5_init_12 kf_X5_10 (by decide) rfl (by simp only [List.length_set, lf] <;> decide) (fun q hq => by cases hq; exact ⟨tyX5 0, by decide +kernel, rfl, rfl⟩) (fun q hq => by cases hq; exact Or.inr ⟨rfl, rfl, rfl⟩) rfl ?_
  refine pw_aload_n dX5_init_15 rfl ?_
  have hA2 : (([] : List PE) ++ ([(5, (f5).set 0 (.ref (1)))] ++ B1 : List PE)).length = 19 := pa_len (rfl : ([] : List PE).length = 0) (by simp only [-List.reduceReplicate, List.length_append, List.length_cons, List.length_nil, SBK_len, GBK_len, PBK_len, HBK_len, qL1] <;> omega)
  have hS2 : kv_sum (([] : List PE) ++ ([(5, (f5).set 0 (.ref (1)))] ++ B1 : List PE)) = 125 := pa_sum kv_sum_nil (by simp only [-List.reduceReplicate, kv_sum_app2, kv_sum_cons, kv_sum_nil, SBK_sum, GBK_sum, PBK_sum, HBK_sum, lf, qS1, List.length_cons, List.length_nil, List.length_replicate, List.length_set] <;> omega)
  refine pa_newo hA2 hS2 dX5_init_16 kn_X5_7 (by clear hA2 hS2; omega) (by clear hA2 hS2; omega) (by clear hA2 hS2; show 125 + 7 ≤ _; omega) ?_
  refine pw_dup dX5_init_19 rfl ?_
  refine pw_callI (N' := 37) (Z' := 243) (b := 19) (As := []) (st := [.ref (19), .ref 0]) dX5_init_20 yy_X3_init rfl rfl ci_X5_9.1 ci_X5_9.2 rfl (Nat.le_of_ble_eq_true rfl) (Nat.le_of_ble_eq_true rfl) ⟨by rw [List.length_append, hA2]; show 19 + 1 ≤ _; clear hA2 hS2; omega, by clear hA2 hS2; omega⟩ ⟨by rw [kv_sum_app2, hS2]; show 125 + 7 ≤ _; clear hA2 hS2; omega, by clear hA2 hS2; omega⟩ ?_
  refine k_State hE (M0 := (([] : List PE) ++ ([(5, (f5).set 0 (.ref (1)))] ++ B1 : List PE))) hA2 hS2 (by clear hA2 hS2; omega) ?_
  clear hA2 hS2
  have qL2 := SBK_len 19
  have qS2 := SBK_sum 19
  generalize hB2 : SBK (19) = B2 at qL2 qS2 ⊢
  refine pa_putfS (L' := [(5, ((f5).set 0 (.ref (1))).set 1 (.ref (19)))] ++ (B1 ++ B2)) (j := 0) (rfl : ([] : List PE).length = 0) rfl dX5_init_23 kf_X5_16 (by decide) (gg rfl) (by simp only [List.length_set, lf] <;> decide) (fun q hq => by cases hq; exact ⟨tyX5 1, by decide +kernel, rfl, rfl⟩) (fun q hq => by cases hq; exact Or.inr ⟨rfl, rfl, rfl⟩) (gs (Nat.le_of_ble_eq_true rfl) rfl) ?_
  refine pw_aload_n dX5_init_26 rfl ?_
  have hA3 : (([] : List PE) ++ ([(5, ((f5).set 0 (.ref (1))).set 1 (.ref (19)))] ++ (B1 ++ B2) : List PE)).length = 37 := pa_len (rfl : ([] : List PE).length = 0) (by simp only [-List.reduceReplicate, List.length_append, List.length_cons, List.length_nil, SBK_len, GBK_len, PBK_len, HBK_len, qL1, qL2] <;> omega)
  have hS3 : kv_sum (([] : List PE) ++ ([(5, ((f5).set 0 (.ref (1))).set 1 (.ref (19)))] ++ (B1 ++ B2) : List PE)) = 243 := pa_sum kv_sum_nil (by simp only [-List.reduceReplicate, kv_sum_app2, kv_sum_cons, kv_sum_nil, SBK_sum, GBK_sum, PBK_sum, HBK_sum, lf, qS1, qS2, List.length_cons, List.length_nil, List.length_replicate, List.length_set] <;> omega)
  refine pa_newo hA3 hS3 dX5_init_27 kn_X5_19 (by clear hA3 hS3; omega) (by clear hA3 hS3; omega) (by clear hA3 hS3; show 243 + 11 ≤ _; omega) ?_
  refine pw_dup dX5_init_30 rfl ?_
  refine pw_callIN (N' := 77) (Z' := 550) (b := 37) (As := []) (st := [.ref (37), .ref 0]) (host := RX5) dX5_init_31 yy_X0_init rfl rfl (by simp [kv_NW]) in_yX0_init rfl (Nat.le_of_ble_eq_true rfl) (Nat.le_of_ble_eq_true rfl) ⟨by rw [List.length_append, hA3]; show 37 + 1 ≤ _; clear hA3 hS3; omega, by clear hA3 hS3; omega⟩ ⟨by rw [kv_sum_app2, hS3]; show 243 + 11 ≤ _; clear hA3 hS3; omega, by clear hA3 hS3; omega⟩ ?_
  refine k_Game (M0 := (([] : List PE) ++ ([(5, ((f5).set 0 (.ref (1))).set 1 (.ref (19)))] ++ (B1 ++ B2) : List PE))) hA3 hS3 (by clear hA3 hS3; omega) ?_
  clear hA3 hS3
  have qL3 := GBK_len 37
  have qS3 := GBK_sum 37
  generalize hB3 : GBK (37) = B3 at qL3 qS3 ⊢
  refine pa_putfS (L' := [(5, (((f5).set 0 (.ref (1))).set 1 (.ref (19))).set 2 (.ref (37)))] ++ ((B1 ++ B2) ++ B3)) (j := 0) (rfl : ([] : List PE).length = 0) rfl dX5_init_34 kf_X5_22 (by decide) (gg rfl) (by simp only [List.length_set, lf] <;> decide) (fun q hq => by cases hq; exact ⟨tyX5 2, by decide +kernel, rfl, rfl⟩) (fun q hq => by cases hq; exact Or.inr ⟨rfl, rfl, rfl⟩) (gs (Nat.le_of_ble_eq_true rfl) rfl) ?_
  refine pw_aload_n dX5_init_37 rfl ?_
  have hA4 : (([] : List PE) ++ ([(5, (((f5).set 0 (.ref (1))).set 1 (.ref (19))).set 2 (.ref (37)))] ++ ((B1 ++ B2) ++ B3) : List PE)).length = 77 := pa_len (rfl : ([] : List PE).length = 0) (by simp only [-List.reduceReplicate, List.length_append, List.length_cons, List.length_nil, SBK_len, GBK_len, PBK_len, HBK_len, qL1, qL2, qL3] <;> omega)
  have hS4 : kv_sum (([] : List PE) ++ ([(5, (((f5).set 0 (.ref (1))).set 1 (.ref (19))).set 2 (.ref (37)))] ++ ((B1 ++ B2) ++ B3) : List PE)) = 550 := pa_sum kv_sum_nil (by simp only [-List.reduceReplicate, kv_sum_app2, kv_sum_cons, kv_sum_nil, SBK_sum, GBK_sum, PBK_sum, HBK_sum, lf, qS1, qS2, qS3, List.length_cons, List.length_nil, List.length_replicate, List.length_set] <;> omega)
  refine pa_newo hA4 hS4 dX5_init_38 kn_X5_26 (by clear hA4 hS4; omega) (by clear hA4 hS4; omega) (by clear hA4 hS4; show 550 + 2 ≤ _; omega) ?_
  refine pw_dup dX5_init_41 rfl ?_
  refine pw_callIN (N' := 79) (Z' := 572) (b := 77) (As := []) (st := [.ref (77), .ref 0]) (host := RX5) dX5_init_42 yy_X2_init rfl rfl (by simp [kv_NW]) in_yX2_init rfl (Nat.le_of_ble_eq_true rfl) (Nat.le_of_ble_eq_true rfl) ⟨by rw [List.length_append, hA4]; show 77 + 1 ≤ _; clear hA4 hS4; omega, by clear hA4 hS4; omega⟩ ⟨by rw [kv_sum_app2, hS4]; show 550 + 2 ≤ _; clear hA4 hS4; omega, by clear hA4 hS4; omega⟩ ?_
  refine k_Pad (M0 := (([] : List PE) ++ ([(5, (((f5).set 0 (.ref (1))).set 1 (.ref (19))).set 2 (.ref (37)))] ++ ((B1 ++ B2) ++ B3) : List PE))) hA4 hS4 (by clear hA4 hS4; omega) ?_
  clear hA4 hS4
  have qL4 := PBK_len 77
  have qS4 := PBK_sum 77
  generalize hB4 : PBK (77) = B4 at qL4 qS4 ⊢
  refine pa_putfS (L' := [(5, ((((f5).set 0 (.ref (1))).set 1 (.ref (19))).set 2 (.ref (37))).set 3 (.ref (77)))] ++ (((B1 ++ B2) ++ B3) ++ B4)) (j := 0) (rfl : ([] : List PE).length = 0) rfl dX5_init_45 kf_X5_29 (by decide) (gg rfl) (by simp only [List.length_set, lf] <;> decide) (fun q hq => by cases hq; exact ⟨tyX5 3, by decide +kernel, rfl, rfl⟩) (fun q hq => by cases hq; exact Or.inr ⟨rfl, rfl, rfl⟩) (gs (Nat.le_of_ble_eq_true rfl) rfl) ?_
  refine pw_aload_n dX5_init_48 rfl ?_
  have hA5 : (([] : List PE) ++ ([(5, ((((f5).set 0 (.ref (1))).set 1 (.ref (19))).set 2 (.ref (37))).set 3 (.ref (77)))] ++ (((B1 ++ B2) ++ B3) ++ B4) : List PE)).length = 79 := pa_len (rfl : ([] : List PE).length = 0) (by simp only [-List.reduceReplicate, List.length_append, List.length_cons, List.length_nil, SBK_len, GBK_len, PBK_len, HBK_len, qL1, qL2, qL3, qL4] <;> omega)
  have hS5 : kv_sum (([] : List PE) ++ ([(5, ((((f5).set 0 (.ref (1))).set 1 (.ref (19))).set 2 (.ref (37))).set 3 (.ref (77)))] ++ (((B1 ++ B2) ++ B3) ++ B4) : List PE)) = 572 := pa_sum kv_sum_nil (by simp only [-List.reduceReplicate, kv_sum_app2, kv_sum_cons, kv_sum_nil, SBK_sum, GBK_sum, PBK_sum, HBK_sum, lf, qS1, qS2, qS3, qS4, List.length_cons, List.length_nil, List.length_replicate, List.length_set] <;> omega)
  refine pa_newo hA5 hS5 dX5_init_49 kn_X5_33 (by clear hA5 hS5; omega) (by clear hA5 hS5; omega) (by clear hA5 hS5; show 572 + 3 ≤ _; omega) ?_
  refine pw_dup dX5_init_52 rfl ?_
  refine pw_callI (N' := 189) (Z' := 1289) (b := 79) (As := []) (st := [.ref (79), .ref 0]) dX5_init_53 yy_X1_init rfl rfl ci_X5_35.1 ci_X5_35.2 rfl (Nat.le_of_ble_eq_true rfl) (Nat.le_of_ble_eq_true rfl) ⟨by rw [List.length_append, hA5]; show 79 + 1 ≤ _; clear hA5 hS5; omega, by clear hA5 hS5; omega⟩ ⟨by rw [kv_sum_app2, hS5]; show 572 + 3 ≤ _; clear hA5 hS5; omega, by clear hA5 hS5; omega⟩ ?_
  refine k_History hE (M0 := (([] : List PE) ++ ([(5, ((((f5).set 0 (.ref (1))).set 1 (.ref (19))).set 2 (.ref (37))).set 3 (.ref (77)))] ++ (((B1 ++ B2) ++ B3) ++ B4) : List PE))) hA5 hS5 (by clear hA5 hS5; omega) ?_
  clear hA5 hS5
  have qL5 := HBK_len 79
  have qS5 := HBK_sum 79
  generalize hB5 : HBK (79) = B5 at qL5 qS5 ⊢
  refine pa_putfS (L' := [(5, (((((f5).set 0 (.ref (1))).set 1 (.ref (19))).set 2 (.ref (37))).set 3 (.ref (77))).set 4 (.ref (79)))] ++ ((((B1 ++ B2) ++ B3) ++ B4) ++ B5)) (j := 0) (rfl : ([] : List PE).length = 0) rfl dX5_init_56 kf_X5_36 (by decide) (gg rfl) (by simp only [List.length_set, lf] <;> decide) (fun q hq => by cases hq; exact ⟨tyX5 4, by decide +kernel, rfl, rfl⟩) (fun q hq => by cases hq; exact Or.inr ⟨rfl, rfl, rfl⟩) (gs (Nat.le_of_ble_eq_true rfl) rfl) ?_
  refine pw_aload_n dX5_init_59 rfl ?_
  refine pw_iconst_ (v := nI 2) dX5_init_60 (by decide) ?_
  have hA6 : (([] : List PE) ++ ([(5, (((((f5).set 0 (.ref (1))).set 1 (.ref (19))).set 2 (.ref (37))).set 3 (.ref (77))).set 4 (.ref (79)))] ++ ((((B1 ++ B2) ++ B3) ++ B4) ++ B5) : List PE)).length = 189 := pa_len (rfl : ([] : List PE).length = 0) (by simp only [-List.reduceReplicate, List.length_append, List.length_cons, List.length_nil, SBK_len, GBK_len, PBK_len, HBK_len, qL1, qL2, qL3, qL4, qL5] <;> omega)
  have hS6 : kv_sum (([] : List PE) ++ ([(5, (((((f5).set 0 (.ref (1))).set 1 (.ref (19))).set 2 (.ref (37))).set 3 (.ref (77))).set 4 (.ref (79)))] ++ ((((B1 ++ B2) ++ B3) ++ B4) ++ B5) : List PE)) = 1289 := pa_sum kv_sum_nil (by simp only [-List.reduceReplicate, kv_sum_app2, kv_sum_cons, kv_sum_nil, SBK_sum, GBK_sum, PBK_sum, HBK_sum, lf, qS1, qS2, qS3, qS4, qS5, List.length_cons, List.length_nil, List.length_replicate, List.length_set] <;> omega)
  refine pa_anew (L' := [(5, (((((f5).set 0 (.ref (1))).set 1 (.ref (19))).set 2 (.ref (37))).set 3 (.ref (77))).set 4 (.ref (79)))] ++ (((((B1 ++ B2) ++ B3) ++ B4) ++ B5) ++ [(104, List.replicate 2 .null)])) (t := 4) (k := 2) (C := RX3) hA6 hS6 dX5_init_61 (by simp) cl_X5_7 rfl (by decide) (by clear hA6 hS6; omega) (by clear hA6 hS6; omega) (by clear hA6 hS6; omega) (List.append_assoc _ _ _) ?_
  clear hA6 hS6
  refine pa_putf (L' := [(5, ((((((f5).set 0 (.ref (1))).set 1 (.ref (19))).set 2 (.ref (37))).set 3 (.ref (77))).set 4 (.ref (79))).set 5 (.ref (189)))] ++ (((((B1 ++ B2) ++ B3) ++ B4) ++ B5) ++ [(104, List.replicate 2 .null)])) (j := 0) (rfl : ([] : List PE).length = 0) rfl dX5_init_64 kf_X5_40 (by decide) (gg rfl) (by simp only [List.length_set, lf] <;> decide) (fun q hq => by cases hq; exact ⟨tyX5 5, by decide +kernel, rfl, rfl⟩) (fun q hq => by cases hq; exact Or.inr ⟨rfl, rfl, rfl⟩) (gw (Nat.le_of_ble_eq_true rfl) rfl) ?_
  refine pw_aload_n dX5_init_67 rfl ?_
  refine pw_iconst_ (v := nI 2) dX5_init_68 (by decide) ?_
  have hA7 : (([] : List PE) ++ ([(5, ((((((f5).set 0 (.ref (1))).set 1 (.ref (19))).set 2 (.ref (37))).set 3 (.ref (77))).set 4 (.ref (79))).set 5 (.ref (189)))] ++ (((((B1 ++ B2) ++ B3) ++ B4) ++ B5) ++ [(104, List.replicate 2 .null)]) : List PE)).length = 190 := pa_len (rfl : ([] : List PE).length = 0) (by simp only [-List.reduceReplicate, List.length_append, List.length_cons, List.length_nil, SBK_len, GBK_len, PBK_len, HBK_len, qL1, qL2, qL3, qL4, qL5] <;> omega)
  have hS7 : kv_sum (([] : List PE) ++ ([(5, ((((((f5).set 0 (.ref (1))).set 1 (.ref (19))).set 2 (.ref (37))).set 3 (.ref (77))).set 4 (.ref (79))).set 5 (.ref (189)))] ++ (((((B1 ++ B2) ++ B3) ++ B4) ++ B5) ++ [(104, List.replicate 2 .null)]) : List PE)) = 1291 := pa_sum kv_sum_nil (by simp only [-List.reduceReplicate, kv_sum_app2, kv_sum_cons, kv_sum_nil, SBK_sum, GBK_sum, PBK_sum, HBK_sum, lf, qS1, qS2, qS3, qS4, qS5, List.length_cons, List.length_nil, List.length_replicate, List.length_set] <;> omega)
  refine pa_arr (L' := [(5, ((((((f5).set 0 (.ref (1))).set 1 (.ref (19))).set 2 (.ref (37))).set 3 (.ref (77))).set 4 (.ref (79))).set 5 (.ref (189)))] ++ ((((((B1 ++ B2) ++ B3) ++ B4) ++ B5) ++ [(104, List.replicate 2 .null)]) ++ [(102, List.replicate 2 (.int 0))])) (t := 2) (k := 2) hA7 hS7 dX5_init_69 (by simp) ak_bool rfl (by decide) (by clear hA7 hS7; omega) (by clear hA7 hS7; omega) (by clear hA7 hS7; omega) (List.append_assoc _ _ _) ?_
  clear hA7 hS7
  refine pa_putf (L' := [(5, (((((((f5).set 0 (.ref (1))).set 1 (.ref (19))).set 2 (.ref (37))).set 3 (.ref (77))).set 4 (.ref (79))).set 5 (.ref (189))).set 6 (.ref (190)))] ++ ((((((B1 ++ B2) ++ B3) ++ B4) ++ B5) ++ [(104, List.replicate 2 .null)]) ++ [(102, List.replicate 2 (.int 0))])) (j := 0) (rfl : ([] : List PE).length = 0) rfl dX5_init_71 kf_X5_44 (by decide) (gg rfl) (by simp only [List.length_set, lf] <;> decide) (fun q hq => by cases hq; exact ⟨tyX5 6, by decide +kernel, rfl, rfl⟩) (fun q hq => by cases hq; exact Or.inr ⟨rfl, rfl, rfl⟩) (gw (Nat.le_of_ble_eq_true rfl) rfl) ?_
  refine pw_iconst_ (v := nI 0) dX5_init_74 (by decide) ?_
  refine px_istore_n (ls' := [some (.ref 0), some (.int (nI 0))]) dX5_init_75 rfl rfl (by decide) ?_
  have hB : (([] : List PE) ++ ([(5, (((((((f5).set 0 (.ref (1))).set 1 (.ref (19))).set 2 (.ref (37))).set 3 (.ref (77))).set 4 (.ref (79))).set 5 (.ref (189))).set 6 (.ref (190)))] ++ ((((B1 ++ B2) ++ B3) ++ B4) ++ B5) : List PE)).length = 189 := pa_len rfl (by simp only [List.length_append, List.length_cons, List.length_nil, SBK_len, GBK_len, PBK_len, HBK_len, qL1, qL2, qL3, qL4, qL5] <;> omega)
  have hZB : kv_sum (([] : List PE) ++ ([(5, (((((((f5).set 0 (.ref (1))).set 1 (.ref (19))).set 2 (.ref (37))).set 3 (.ref (77))).set 4 (.ref (79))).set 5 (.ref (189))).set 6 (.ref (190)))] ++ ((((B1 ++ B2) ++ B3) ++ B4) ++ B5) : List PE)) = 1289 := pa_sum kv_sum_nil (by simp only [kv_sum_app2, kv_sum_cons, kv_sum_nil, SBK_sum, GBK_sum, PBK_sum, HBK_sum, qS1, qS2, qS3, qS4, qS5, lf, List.length_set, List.length_cons, List.length_nil, List.length_replicate] <;> omega)
  have hre : (([] : List PE) ++ ([(5, (((((((f5).set 0 (.ref (1))).set 1 (.ref (19))).set 2 (.ref (37))).set 3 (.ref (77))).set 4 (.ref (79))).set 5 (.ref (189))).set 6 (.ref (190)))] ++ ((((((B1 ++ B2) ++ B3) ++ B4) ++ B5) ++ [(104, List.replicate 2 .null)]) ++ [(102, List.replicate 2 (.int 0))]))) = (([] : List PE) ++ ([(5, (((((((f5).set 0 (.ref (1))).set 1 (.ref (19))).set 2 (.ref (37))).set 3 (.ref (77))).set 4 (.ref (79))).set 5 (.ref (189))).set 6 (.ref (190)))] ++ ((((B1 ++ B2) ++ B3) ++ B4) ++ B5) : List PE)) ++ ([(104, List.replicate 2 .null), (102, List.replicate 2 (.int 0))] : List PE) := by simp only [List.append_assoc, List.cons_append, List.nil_append]
  rw [hre]
  clear hre
  refine pw_iload_n dX5_init_76 rfl ?_
  refine pw_iconst_ (v := nI 2) dX5_init_77 (by decide) ?_
  refine pn_ge (tgt := 100) dX5_init_78 (by decide) (by decide) (by decide) (fun h9 => absurd h9 (by decide)) (fun _ => ?_)
  refine pw_aload_n dX5_init_81 rfl ?_
  refine pw_getf dX5_init_82 kf_X5_40 (by decide) (gg (gg0 (gg rfl))) (by rw [hf5]; rfl) ?_ (by decide)
  refine pw_iload_n dX5_init_85 rfl ?_
  have hA51 : ((([] : List PE) ++ ([(5, (((((((f5).set 0 (.ref (1))).set 1 (.ref (19))).set 2 (.ref (37))).set 3 (.ref (77))).set 4 (.ref (79))).set 5 (.ref (189))).set 6 (.ref (190)))] ++ ((((B1 ++ B2) ++ B3) ++ B4) ++ B5) : List PE)) ++ ([(104, List.replicate 2 .null), (102, List.replicate 2 (.int 0))] : List PE)).length = 191 := pa_len hB (by simp only [-List.reduceReplicate, List.length_append, List.length_cons, List.length_nil, SBK_len, GBK_len, PBK_len, HBK_len, qL1, qL2, qL3, qL4, qL5] <;> omega)
  have hS51 : kv_sum ((([] : List PE) ++ ([(5, (((((((f5).set 0 (.ref (1))).set 1 (.ref (19))).set 2 (.ref (37))).set 3 (.ref (77))).set 4 (.ref (79))).set 5 (.ref (189))).set 6 (.ref (190)))] ++ ((((B1 ++ B2) ++ B3) ++ B4) ++ B5) : List PE)) ++ ([(104, List.replicate 2 .null), (102, List.replicate 2 (.int 0))] : List PE)) = 1293 := pa_sum hZB (by simp only [-List.reduceReplicate, kv_sum_app2, kv_sum_cons, kv_sum_nil, SBK_sum, GBK_sum, PBK_sum, HBK_sum, qS1, qS2, qS3, qS4, qS5, lf, List.length_cons, List.length_nil, List.length_replicate, List.length_set] <;> omega)
  refine pa_newo hA51 hS51 dX5_init_86 kn_X5_7 (by clear hA51 hS51; omega) (by clear hA51 hS51; omega) (by clear hA51 hS51; show 1293 + 7 ≤ _; omega) ?_
  refine pw_dup dX5_init_89 rfl ?_
  refine pw_callI (N' := 209) (Z' := 1411) (b := 191) (As := []) (st := [.ref (191), .int (nI 0), .ref 189]) dX5_init_90 yy_X3_init rfl rfl ci_X5_9.1 ci_X5_9.2 rfl (Nat.le_of_ble_eq_true rfl) (Nat.le_of_ble_eq_true rfl) ⟨by rw [List.length_append, hA51]; show 191 + 1 ≤ _; clear hA51 hS51; omega, by clear hA51 hS51; omega⟩ ⟨by rw [kv_sum_app2, hS51]; show 1293 + 7 ≤ _; clear hA51 hS51; omega, by clear hA51 hS51; omega⟩ ?_
  refine k_State hE (M0 := ((([] : List PE) ++ ([(5, (((((((f5).set 0 (.ref (1))).set 1 (.ref (19))).set 2 (.ref (37))).set 3 (.ref (77))).set 4 (.ref (79))).set 5 (.ref (189))).set 6 (.ref (190)))] ++ ((((B1 ++ B2) ++ B3) ++ B4) ++ B5) : List PE)) ++ ([(104, List.replicate 2 .null), (102, List.replicate 2 (.int 0))] : List PE))) hA51 hS51 (by clear hA51 hS51; omega) ?_
  clear hA51 hS51
  refine pa_aastS (L' := [(104, [.ref (191), .null]), (102, List.replicate 2 (.int 0))] ++ SBK (191)) (j := 0) (k := 0) (t := 4) (ci := 3) hB rfl (by simp only [List.length_append, List.length_cons, List.length_nil, SBK_len, GBK_len, PBK_len, HBK_len, qL1, qL2, qL3, qL4, qL5] <;> omega) dX5_init_93 rfl rfl (by decide) rfl (by decide) (Nat.le_of_ble_eq_true rfl) rfl (by decide) rfl rfl ?_
  refine px_iincn (n := 1) (a := 0) (b := 1) (ls' := [some (.ref 0), some (.int (nI 1))]) dX5_init_94 rfl rfl rfl rfl ?_
  refine pw_goto (tgt := 76) dX5_init_97 (by decide) ?_
  refine pw_iload_n dX5_init_76 rfl ?_
  refine pw_iconst_ (v := nI 2) dX5_init_77 (by decide) ?_
  refine pn_ge (tgt := 100) dX5_init_78 (by decide) (by decide) (by decide) (fun h9 => absurd h9 (by decide)) (fun _ => ?_)
  refine pw_aload_n dX5_init_81 rfl ?_
  refine pw_getf dX5_init_82 kf_X5_40 (by decide) (gg (gg0 (gg rfl))) (by rw [hf5]; rfl) ?_ (by decide)
  refine pw_iload_n dX5_init_85 rfl ?_
  have hA52 : ((([] : List PE) ++ ([(5, (((((((f5).set 0 (.ref (1))).set 1 (.ref (19))).set 2 (.ref (37))).set 3 (.ref (77))).set 4 (.ref (79))).set 5 (.ref (189))).set 6 (.ref (190)))] ++ ((((B1 ++ B2) ++ B3) ++ B4) ++ B5) : List PE)) ++ ([(104, [.ref (191), .null]), (102, List.replicate 2 (.int 0))] ++ SBK (191) : List PE)).length = 209 := pa_len hB (by simp only [-List.reduceReplicate, List.length_append, List.length_cons, List.length_nil, SBK_len, GBK_len, PBK_len, HBK_len, qL1, qL2, qL3, qL4, qL5] <;> omega)
  have hS52 : kv_sum ((([] : List PE) ++ ([(5, (((((((f5).set 0 (.ref (1))).set 1 (.ref (19))).set 2 (.ref (37))).set 3 (.ref (77))).set 4 (.ref (79))).set 5 (.ref (189))).set 6 (.ref (190)))] ++ ((((B1 ++ B2) ++ B3) ++ B4) ++ B5) : List PE)) ++ ([(104, [.ref (191), .null]), (102, List.replicate 2 (.int 0))] ++ SBK (191) : List PE)) = 1411 := pa_sum hZB (by simp only [-List.reduceReplicate, kv_sum_app2, kv_sum_cons, kv_sum_nil, SBK_sum, GBK_sum, PBK_sum, HBK_sum, qS1, qS2, qS3, qS4, qS5, lf, List.length_cons, List.length_nil, List.length_replicate, List.length_set] <;> omega)
  refine pa_newo hA52 hS52 dX5_init_86 kn_X5_7 (by clear hA52 hS52; omega) (by clear hA52 hS52; omega) (by clear hA52 hS52; show 1411 + 7 ≤ _; omega) ?_
  refine pw_dup dX5_init_89 rfl ?_
  refine pw_callI (N' := 227) (Z' := 1529) (b := 209) (As := []) (st := [.ref (209), .int (nI 1), .ref 189]) dX5_init_90 yy_X3_init rfl rfl ci_X5_9.1 ci_X5_9.2 rfl (Nat.le_of_ble_eq_true rfl) (Nat.le_of_ble_eq_true rfl) ⟨by rw [List.length_append, hA52]; show 209 + 1 ≤ _; clear hA52 hS52; omega, by clear hA52 hS52; omega⟩ ⟨by rw [kv_sum_app2, hS52]; show 1411 + 7 ≤ _; clear hA52 hS52; omega, by clear hA52 hS52; omega⟩ ?_
  refine k_State hE (M0 := ((([] : List PE) ++ ([(5, (((((((f5).set 0 (.ref (1))).set 1 (.ref (19))).set 2 (.ref (37))).set 3 (.ref (77))).set 4 (.ref (79))).set 5 (.ref (189))).set 6 (.ref (190)))] ++ ((((B1 ++ B2) ++ B3) ++ B4) ++ B5) : List PE)) ++ ([(104, [.ref (191), .null]), (102, List.replicate 2 (.int 0))] ++ SBK (191) : List PE))) hA52 hS52 (by clear hA52 hS52; omega) ?_
  clear hA52 hS52
  refine pa_aastS (L' := [(104, [.ref (191), .ref (209)]), (102, List.replicate 2 (.int 0))] ++ (SBK (191) ++ SBK (209))) (j := 0) (k := 1) (t := 4) (ci := 3) hB rfl (by simp only [List.length_append, List.length_cons, List.length_nil, SBK_len, GBK_len, PBK_len, HBK_len, qL1, qL2, qL3, qL4, qL5] <;> omega) dX5_init_93 (gg rfl) rfl (by decide) rfl (by decide) (Nat.le_of_ble_eq_true rfl) rfl (by decide) rfl (gs (Nat.le_of_ble_eq_true rfl) rfl) ?_
  refine px_iincn (n := 1) (a := 1) (b := 2) (ls' := [some (.ref 0), some (.int (nI 2))]) dX5_init_94 rfl rfl rfl rfl ?_
  refine pw_goto (tgt := 76) dX5_init_97 (by decide) ?_
  refine pw_iload_n dX5_init_76 rfl ?_
  refine pw_iconst_ (v := nI 2) dX5_init_77 (by decide) ?_
  refine pn_ge (tgt := 100) dX5_init_78 (by decide) (by decide) (by decide) (fun _ => ?_) (fun h9 => absurd h9 (by decide))
  have hA53 : ((([] : List PE) ++ ([(5, (((((((f5).set 0 (.ref (1))).set 1 (.ref (19))).set 2 (.ref (37))).set 3 (.ref (77))).set 4 (.ref (79))).set 5 (.ref (189))).set 6 (.ref (190)))] ++ ((((B1 ++ B2) ++ B3) ++ B4) ++ B5) : List PE)) ++ ([(104, [.ref (191), .ref (209)]), (102, List.replicate 2 (.int 0))] ++ (SBK (191) ++ SBK (209)) : List PE)).length = 227 := pa_len hB (by simp only [-List.reduceReplicate, List.length_append, List.length_cons, List.length_nil, SBK_len, GBK_len, PBK_len, HBK_len, qL1, qL2, qL3, qL4, qL5] <;> omega)
  have hS53 : kv_sum ((([] : List PE) ++ ([(5, (((((((f5).set 0 (.ref (1))).set 1 (.ref (19))).set 2 (.ref (37))).set 3 (.ref (77))).set 4 (.ref (79))).set 5 (.ref (189))).set 6 (.ref (190)))] ++ ((((B1 ++ B2) ++ B3) ++ B4) ++ B5) : List PE)) ++ ([(104, [.ref (191), .ref (209)]), (102, List.replicate 2 (.int 0))] ++ (SBK (191) ++ SBK (209)) : List PE)) = 1529 := pa_sum hZB (by simp only [-List.reduceReplicate, kv_sum_app2, kv_sum_cons, kv_sum_nil, SBK_sum, GBK_sum, PBK_sum, HBK_sum, qS1, qS2, qS3, qS4, qS5, lf, List.length_cons, List.length_nil, List.length_replicate, List.length_set] <;> omega)
  subst hB1 hB2 hB3 hB4 hB5 hf5
  exact pw_return dX5_init_100 rfl hA53 hS53 hf
end MAKE3
