/-! the constructors: Pad, Game, History -/
theorem SBK_len (b : Nat) : (SBK b).length = 18 := by unfold SBK; simp only [List.length_append, List.length_cons, List.length_nil, TBK_len]
theorem SBK_sum (b : Nat) : kv_sum (SBK b) = 118 := by unfold SBK; simp only [kv_sum_app2, kv_sum_cons, kv_sum_nil, TBK_sum, List.length_cons, List.length_nil, List.length_replicate]
theorem grid_len (b : Nat) : (kv_grid b 6 8).length = 7 := by unfold kv_grid; simp
theorem grid_sum (b : Nat) : kv_sum (kv_grid b 6 8) = 54 := by unfold kv_grid; simp [kv_sum]
def PBK (b : Nat) : List PE := [(2, [.ref (b + 1), .int 0])] ++ [(101, List.replicate 20 (.int 0))]
def GBK (b : Nat) : List PE := [(0, [.null, .int 0, .ref (b + 1), .ref (b + 2), .ref (b + 9), .ref (b + 16), .ref (b + 23), .ref (b + 30), .ref (b + 37), .ref (b + 38), .ref (b + 39)])] ++ (((((((([(100, List.replicate 6 (.int 0))] ++ kv_grid (b + 2) 6 8) ++ kv_grid (b + 9) 6 8) ++ kv_grid (b + 16) 6 8) ++ kv_grid (b + 23) 6 8) ++ kv_grid (b + 30) 6 8) ++ [(100, List.replicate 6 (.int 0))]) ++ [(100, List.replicate 6 (.int 0))]) ++ [(100, List.replicate 8 (.int 0))])
def HBK (b : Nat) : List PE := [(1, [.ref (b + 1), .int 0, .int 0]), (104, [.ref (b + 2), .ref (b + 20), .ref (b + 38), .ref (b + 56), .ref (b + 74), .ref (b + 92)])] ++ (((((SBK (b + 2) ++ SBK (b + 20)) ++ SBK (b + 38)) ++ SBK (b + 56)) ++ SBK (b + 74)) ++ SBK (b + 92))
theorem PBK_len (b : Nat) : (PBK b).length = 2 := rfl
theorem PBK_sum (b : Nat) : kv_sum (PBK b) = 22 := by unfold PBK; simp only [kv_sum_app2, kv_sum_cons, kv_sum_nil, List.length_cons, List.length_nil, List.length_replicate]
theorem GBK_len (b : Nat) : (GBK b).length = 40 := by unfold GBK; simp only [List.length_append, List.length_cons, List.length_nil, grid_len]
theorem GBK_sum (b : Nat) : kv_sum (GBK b) = 307 := by unfold GBK; simp only [kv_sum_app2, kv_sum_cons, kv_sum_nil, grid_sum, List.length_cons, List.length_nil, List.length_replicate]
theorem HBK_len (b : Nat) : (HBK b).length = 110 := by unfold HBK; simp only [List.length_append, List.length_cons, List.length_nil, SBK_len]
theorem HBK_sum (b : Nat) : kv_sum (HBK b) = 717 := by unfold HBK; simp only [kv_sum_app2, kv_sum_cons, kv_sum_nil, SBK_sum, List.length_cons, List.length_nil]
section MAKE2
variable {l : Launch} {E : EV} {D : va_G} {cA : Nat → ClassId} {N Z : Nat} {X : MT} {d : Nat} {fin : Option Value → List PE → Prop} {pc : Nat} {ls : List (Option Value)} {st : List Value} {M0 L L' S : List PE} {b z : Nat}
set_option maxRecDepth 100000 in
set_option maxHeartbeats 8000000 in
theorem k_Pad (hb : M0.length = b) (hz : kv_sum M0 = z) (hb9 : b + 2 ≤ 1000) (hf : fin none (M0 ++ PBK b)) : PW l E D cA (b + 2) (z + 22) mX2_init (d + 1) fin 0 [some (.ref b)] [] (M0 ++ [(2, fz2)]) := by
  show PW l E D cA (b + 2) (z + 22) mX2_init (d + 1) fin 0 [some (.ref b)] [] (M0 ++ ([(2, [.null, .int 0])]))
  refine pw_aload_n dX2_init_0 rfl ?_
  refine pw_objInit dX2_init_1 co_X2_3 co_inst co_code (Nat.le_of_ble_eq_true rfl) ?_
  refine pw_aload_n dX2_init_4 rfl ?_
  refine pw_bipush (v := nI 20) dX2_init_5 (by decide) ?_
  have hA1 : (M0 ++ ([(2, [.null, .int 0])] : List PE)).length = b + 1 := pa_len hb (by simp only [-List.reduceReplicate, List.length_append, List.length_cons, List.length_nil, SBK_len, grid_len] <;> omega)
  have hS1 : kv_sum (M0 ++ ([(2, [.null, .int 0])] : List PE)) = z + 2 := pa_sum hz (by simp only [-List.reduceReplicate, kv_sum_app2, kv_sum_cons, kv_sum_nil, SBK_sum, grid_sum, List.length_cons, List.length_nil, List.length_replicate, List.length_set] <;> omega)
  refine pa_arr (L' := [(2, [.null, .int 0])] ++ [(101, List.replicate 20 (.int 0))]) (t := 1) (k := 20) hA1 hS1 dX2_init_7 (by simp) ak_char rfl (by decide) (by clear hA1 hS1; omega) (by clear hA1 hS1; omega) (by clear hA1 hS1; omega) rfl ?_
  clear hA1 hS1
  refine pa_putf (L' := [(2, [.ref (b + 1), .int 0])] ++ [(101, List.replicate 20 (.int 0))]) (j := 0) hb rfl dX2_init_9 kf_X2_9 (by decide) (gg rfl) (Nat.le_of_ble_eq_true rfl) (fun q hq => by cases hq; exact ⟨tyX2 0, by decide +kernel, rfl, rfl⟩) (fun q hq => by cases hq; exact Or.inr ⟨rfl, rfl, rfl⟩) (gw (Nat.le_of_ble_eq_true rfl) rfl) ?_
  have hA2 : (M0 ++ ([(2, [.ref (b + 1), .int 0])] ++ [(101, List.replicate 20 (.int 0))] : List PE)).length = b + 2 := pa_len hb (by simp only [-List.reduceReplicate, List.length_append, List.length_cons, List.length_nil, SBK_len, grid_len] <;> omega)
  have hS2 : kv_sum (M0 ++ ([(2, [.ref (b + 1), .int 0])] ++ [(101, List.replicate 20 (.int 0))] : List PE)) = z + 22 := pa_sum hz (by simp only [-List.reduceReplicate, kv_sum_app2, kv_sum_cons, kv_sum_nil, SBK_sum, grid_sum, List.length_cons, List.length_nil, List.length_replicate, List.length_set] <;> omega)
  exact pw_return dX2_init_12 rfl hA2 hS2 hf
set_option maxRecDepth 100000 in
set_option maxHeartbeats 8000000 in
theorem k_Game (hb : M0.length = b) (hz : kv_sum M0 = z) (hb9 : b + 40 ≤ 1000) (hf : fin none (M0 ++ GBK b)) : PW l E D cA (b + 40) (z + 307) mX0_init (d + 1) fin 0 [some (.ref b)] [] (M0 ++ [(0, fz0)]) := by
  show PW l E D cA (b + 40) (z + 307) mX0_init (d + 1) fin 0 [some (.ref b)] [] (M0 ++ ([(0, [.null, .int 0, .null, .null, .null, .null, .null, .null, .null, .null, .null])]))
  refine pw_aload_n dX0_init_0 rfl ?_
  refine pw_objInit dX0_init_1 co_X0_3 co_inst co_code (Nat.le_of_ble_eq_true rfl) ?_
  refine pw_aload_n dX0_init_4 rfl ?_
  refine pw_bipush (v := nI 6) dX0_init_5 (by decide) ?_
  have hA1 : (M0 ++ ([(0, [.null, .int 0, .null, .null, .null, .null, .null, .null, .null, .null, .null])] : List PE)).length = b + 1 := pa_len hb (by simp only [-List.reduceReplicate, List.length_append, List.length_cons, List.length_nil, SBK_len, grid_len] <;> omega)
  have hS1 : kv_sum (M0 ++ ([(0, [.null, .int 0, .null, .null, .null, .null, .null, .null, .null, .null, .null])] : List PE)) = z + 11 := pa_sum hz (by simp only [-List.reduceReplicate, kv_sum_app2, kv_sum_cons, kv_sum_nil, SBK_sum, grid_sum, List.length_cons, List.length_nil, List.length_replicate, List.length_set] <;> omega)
  refine pa_arr (L' := [(0, [.null, .int 0, .null, .null, .null, .null, .null, .null, .null, .null, .null])] ++ [(100, List.replicate 6 (.int 0))]) (t := 0) (k := 6) hA1 hS1 dX0_init_7 (by simp) ak_int rfl (by decide) (by clear hA1 hS1; omega) (by clear hA1 hS1; omega) (by clear hA1 hS1; omega) rfl ?_
  clear hA1 hS1
  refine pa_putf (L' := [(0, [.null, .int 0, .ref (b + 1), .null, .null, .null, .null, .null, .null, .null, .null])] ++ [(100, List.replicate 6 (.int 0))]) (j := 0) hb rfl dX0_init_9 kf_X0_9 (by decide) (gg rfl) (Nat.le_of_ble_eq_true rfl) (fun q hq => by cases hq; exact ⟨tyX0 2, by decide +kernel, rfl, rfl⟩) (fun q hq => by cases hq; exact Or.inr ⟨rfl, rfl, rfl⟩) (gw (Nat.le_of_ble_eq_true rfl) rfl) ?_
  refine pw_aload_n dX0_init_12 rfl ?_
  refine pw_bipush (v := nI 6) dX0_init_13 (by decide) ?_
  refine pw_bipush (v := nI 8) dX0_init_15 (by decide) ?_
  have hA2 : (M0 ++ ([(0, [.null, .int 0, .ref (b + 1), .null, .null, .null, .null, .null, .null, .null, .null])] ++ [(100, List.replicate 6 (.int 0))] : List PE)).length = b + 2 := pa_len hb (by simp only [-List.reduceReplicate, List.length_append, List.length_cons, List.length_nil, SBK_len, grid_len] <;> omega)
  have hS2 : kv_sum (M0 ++ ([(0, [.null, .int 0, .ref (b + 1), .null, .null, .null, .null, .null, .null, .null, .null])] ++ [(100, List.replicate 6 (.int 0))] : List PE)) = z + 17 := pa_sum hz (by simp only [-List.reduceReplicate, kv_sum_app2, kv_sum_cons, kv_sum_nil, SBK_sum, grid_sum, List.length_cons, List.length_nil, List.length_replicate, List.length_set] <;> omega)
  refine pa_mnew (L' := [(0, [.null, .int 0, .ref (b + 1), .null, .null, .null, .null, .null, .null, .null, .null])] ++ ([(100, List.replicate 6 (.int 0))] ++ kv_grid (b + 2) 6 8)) hA2 hS2 dX0_init_17 cl_X0_15 (by clear hA2 hS2; omega) (by clear hA2 hS2; omega) (by clear hA2 hS2; omega) (List.append_assoc _ _ _) ?_
  clear hA2 hS2
  refine pa_putf (L' := [(0, [.null, .int 0, .ref (b + 1), .ref (b + 2), .null, .null, .null, .null, .null, .null, .null])] ++ ([(100, List.replicate 6 (.int 0))] ++ kv_grid (b + 2) 6 8)) (j := 0) hb rfl dX0_init_21 kf_X0_17 (by decide) (gg rfl) (Nat.le_of_ble_eq_true rfl) (fun q hq => by cases hq; exact ⟨tyX0 3, by decide +kernel, rfl, rfl⟩) (fun q hq => by cases hq; exact Or.inr ⟨rfl, rfl, rfl⟩) (gw (Nat.le_of_ble_eq_true rfl) rfl) ?_
  refine pw_aload_n dX0_init_24 rfl ?_
  refine pw_bipush (v := nI 6) dX0_init_25 (by decide) ?_
  refine pw_bipush (v := nI 8) dX0_init_27 (by decide) ?_
  have hA3 : (M0 ++ ([(0, [.null, .int 0, .ref (b + 1), .ref (b + 2), .null, .null, .null, .null, .null, .null, .null])] ++ ([(100, List.replicate 6 (.int 0))] ++ kv_grid (b + 2) 6 8) : List PE)).length = b + 9 := pa_len hb (by simp only [-List.reduceReplicate, List.length_append, List.length_cons, List.length_nil, SBK_len, grid_len] <;> omega)
  have hS3 : kv_sum (M0 ++ ([(0, [.null, .int 0, .ref (b + 1), .ref (b + 2), .null, .null, .null, .null, .null, .null, .null])] ++ ([(100, List.replicate 6 (.int 0))] ++ kv_grid (b + 2) 6 8) : List PE)) = z + 71 := pa_sum hz (by simp only [-List.reduceReplicate, kv_sum_app2, kv_sum_cons, kv_sum_nil, SBK_sum, grid_sum, List.length_cons, List.length_nil, List.length_replicate, List.length_set] <;> omega)
  refine pa_mnew (L' := [(0, [.null, .int 0, .ref (b + 1), .ref (b + 2), .null, .null, .null, .null, .null, .null, .null])] ++ (([(100, List.replicate 6 (.int 0))] ++ kv_grid (b + 2) 6 8) ++ kv_grid (b + 9) 6 8)) hA3 hS3 dX0_init_29 cl_X0_15 (by clear hA3 hS3; omega) (by clear hA3 hS3; omega) (by clear hA3 hS3; omega) (List.append_assoc _ _ _) ?_
  clear hA3 hS3
  refine pa_putf (L' := [(0, [.null, .int 0, .ref (b + 1), .ref (b + 2), .ref (b + 9), .null, .null, .null, .null, .null, .null])] ++ (([(100, List.replicate 6 (.int 0))] ++ kv_grid (b + 2) 6 8) ++ kv_grid (b + 9) 6 8)) (j := 0) hb rfl dX0_init_33 kf_X0_20 (by decide) (gg rfl) (Nat.le_of_ble_eq_true rfl) (fun q hq => by cases hq; exact ⟨tyX0 4, by decide +kernel, rfl, rfl⟩) (fun q hq => by cases hq; exact Or.inr ⟨rfl, rfl, rfl⟩) (gw (Nat.le_of_ble_eq_true rfl) rfl) ?_
  refine pw_aload_n dX0_init_36 rfl ?_
  refine pw_bipush (v := nI 6) dX0_init_37 (by decide) ?_
  refine pw_bipush (v := nI 8) dX0_init_39 (by decide) ?_
  have hA4 : (M0 ++ ([(0, [.null, .int 0, .ref (b + 1), .ref (b + 2), .ref (b + 9), .null, .null, .null, .null, .null, .null])] ++ (([(100, List.replicate 6 (.int 0))] ++ kv_grid (b + 2) 6 8) ++ kv_grid (b + 9) 6 8) : List PE)).length = b + 16 := pa_len hb (by simp only [-List.reduceReplicate, List.length_append, List.length_cons, List.length_nil, SBK_len, grid_len] <;> omega)
  have hS4 : kv_sum (M0 ++ ([(0, [.null, .int 0, .ref (b + 1), .ref (b + 2), .ref (b + 9), .null, .null, .null, .null, .null, .null])] ++ (([(100, List.replicate 6 (.int 0))] ++ kv_grid (b + 2) 6 8) ++ kv_grid (b + 9) 6 8) : List PE)) = z + 125 := pa_sum hz (by simp only [-List.reduceReplicate, kv_sum_app2, kv_sum_cons, kv_sum_nil, SBK_sum, grid_sum, List.length_cons, List.length_nil, List.length_replicate, List.length_set] <;> omega)
  refine pa_mnew (L' := [(0, [.null, .int 0, .ref (b + 1), .ref (b + 2), .ref (b + 9), .null, .null, .null, .null, .null, .null])] ++ ((([(100, List.replicate 6 (.int 0))] ++ kv_grid (b + 2) 6 8) ++ kv_grid (b + 9) 6 8) ++ kv_grid (b + 16) 6 8)) hA4 hS4 dX0_init_41 cl_X0_15 (by clear hA4 hS4; omega) (by clear hA4 hS4; omega) (by clear hA4 hS4; omega) (List.append_assoc _ _ _) ?_
  clear hA4 hS4
  refine pa_putf (L' := [(0, [.null, .int 0, .ref (b + 1), .ref (b + 2), .ref (b + 9), .ref (b + 16), .null, .null, .null, .null, .null])] ++ ((([(100, List.replicate 6 (.int 0))] ++ kv_grid (b + 2) 6 8) ++ kv_grid (b + 9) 6 8) ++ kv_grid (b + 16) 6 8)) (j := 0) hb rfl dX0_init_45 kf_X0_23 (by decide) (gg rfl) (Nat.le_of_ble_eq_true rfl) (fun q hq => by cases hq; exact ⟨tyX0 5, by decide +kernel, rfl, rfl⟩) (fun q hq => by cases hq; exact Or.inr ⟨rfl, rfl, rfl⟩) (gw (Nat.le_of_ble_eq_true rfl) rfl) ?_
  refine pw_aload_n dX0_init_48 rfl ?_
  refine pw_bipush (v := nI 6) dX0_init_49 (by decide) ?_
  refine pw_bipush (v := nI 8) dX0_init_51 (by decide) ?_
  have hA5 : (M0 ++ ([(0, [.null, .int 0, .ref (b + 1), .ref (b + 2), .ref (b + 9), .ref (b + 16), .null, .null, .null, .null, .null])] ++ ((([(100, List.replicate 6 (.int 0))] ++ kv_grid (b + 2) 6 8) ++ kv_grid (b + 9) 6 8) ++ kv_grid (b + 16) 6 8) : List PE)).length = b + 23 := pa_len hb (by simp only [-List.reduceReplicate, List.length_append, List.length_cons, List.length_nil, SBK_len, grid_len] <;> omega)
  have hS5 : kv_sum (M0 ++ ([(0, [.null, .int 0, .ref (b + 1), .ref (b + 2), .ref (b + 9), .ref (b + 16), .null, .null, .null, .null, .null])] ++ ((([(100, List.replicate 6 (.int 0))] ++ kv_grid (b + 2) 6 8) ++ kv_grid (b + 9) 6 8) ++ kv_grid (b + 16) 6 8) : List PE)) = z + 179 := pa_sum hz (by simp only [-List.reduceReplicate, kv_sum_app2, kv_sum_cons, kv_sum_nil, SBK_sum, grid_sum, List.length_cons, List.length_nil, List.length_replicate, List.length_set] <;> omega)
  refine pa_mnew (L' := [(0, [.null, .int 0, .ref (b + 1), .ref (b + 2), .ref (b + 9), .ref (b + 16), .null, .null, .null, .null, .null])] ++ (((([(100, List.replicate 6 (.int 0))] ++ kv_grid (b + 2) 6 8) ++ kv_grid (b + 9) 6 8) ++ kv_grid (b + 16) 6 8) ++ kv_grid (b + 23) 6 8)) hA5 hS5 dX0_init_53 cl_X0_15 (by clear hA5 hS5; omega) (by clear hA5 hS5; omega) (by clear hA5 hS5; omega) (List.append_assoc _ _ _) ?_
  clear hA5 hS5
  refine pa_putf (L' := [(0, [.null, .int 0, .ref (b + 1), .ref (b + 2), .ref (b + 9), .ref (b + 16), .ref (b + 23), .null, .null, .null, .null])] ++ (((([(100, List.replicate 6 (.int 0))] ++ kv_grid (b + 2) 6 8) ++ kv_grid (b + 9) 6 8) ++ kv_grid (b + 16) 6 8) ++ kv_grid (b + 23) 6 8)) (j := 0) hb rfl dX0_init_57 kf_X0_26 (by decide) (gg rfl) (Nat.le_of_ble_eq_true rfl) (fun q hq => by cases hq; exact ⟨tyX0 6, by decide +kernel, rfl, rfl⟩) (fun q hq => by cases hq; exact Or.inr ⟨rfl, rfl, rfl⟩) (gw (Nat.le_of_ble_eq_true rfl) rfl) ?_
  refine pw_aload_n dX0_init_60 rfl ?_
  refine pw_bipush (v := nI 6) dX0_init_61 (by decide) ?_
  refine pw_bipush (v := nI 8) dX0_init_63 (by decide) ?_
  have hA6 : (M0 ++ ([(0, [.null, .int 0, .ref (b + 1), .ref (b + 2), .ref (b + 9), .ref (b + 16), .ref (b + 23), .null, .null, .null, .null])] ++ (((([(100, List.replicate 6 (.int 0))] ++ kv_grid (b + 2) 6 8) ++ kv_grid (b + 9) 6 8) ++ kv_grid (b + 16) 6 8) ++ kv_grid (b + 23) 6 8) : List PE)).length = b + 30 := pa_len hb (by simp only [-List.reduceReplicate, List.length_append, List.length_cons, List.length_nil, SBK_len, grid_len] <;> omega)
  have hS6 : kv_sum (M0 ++ ([(0, [.null, .int 0, .ref (b + 1), .ref (b + 2), .ref (b + 9), .ref (b + 16), .ref (b + 23), .null, .null, .null, .null])] ++ (((([(100, List.replicate 6 (.int 0))] ++ kv_grid (b + 2) 6 8) ++ kv_grid (b + 9) 6 8) ++ kv_grid (b + 16) 6 8) ++ kv_grid (b + 23) 6 8) : List PE)) = z + 233 := pa_sum hz (by simp only [-List.reduceReplicate, kv_sum_app2, kv_sum_cons, kv_sum_nil, SBK_sum, grid_sum, List.length_cons, List.length_nil, List.length_replicate, List.length_set] <;> omega)
  refine pa_mnew (L' := [(0, [.null, .int 0, .ref (b + 1), .ref (b + 2), .ref (b + 9), .ref (b + 16), .ref (b + 23), .null, .null, .null, .null])] ++ ((((([(100, List.replicate 6 (.int 0))] ++ kv_grid (b + 2) 6 8) ++ kv_grid (b + 9) 6 8) ++ kv_grid (b + 16) 6 8) ++ kv_grid (b + 23) 6 8) ++ kv_grid (b + 30) 6 8)) hA6 hS6 dX0_init_65 cl_X0_15 (by clear hA6 hS6; omega) (by clear hA6 hS6; omega) (by clear hA6 hS6; omega) (List.append_assoc _ _ _) ?_
  clear hA6 hS6
  refine pa_putf (L' := [(0, [.null, .int 0, .ref (b + 1), .ref (b + 2), .ref (b + 9), .ref (b + 16), .ref (b + 23), .ref (b + 30), .null, .null, .null])] ++ ((((([(100, List.replicate 6 (.int 0))] ++ kv_grid (b + 2) 6 8) ++ kv_grid (b + 9) 6 8) ++ kv_grid (b + 16) 6 8) ++ kv_grid (b + 23) 6 8) ++ kv_grid (b + 30) 6 8)) (j := 0) hb rfl dX0_init_69 kf_X0_29 (by decide) (gg rfl) (Nat.le_of_ble_eq_true rfl) (fun q hq => by cases hq; exact ⟨tyX0 7, by decide +kernel, rfl, rfl⟩) (fun q hq => by cases hq; exact Or.inr ⟨rfl, rfl, rfl⟩) (gw (Nat.le_of_ble_eq_true rfl) rfl) ?_
  refine pw_aload_n dX0_init_72 rfl ?_
  refine pw_bipush (v := nI 6) dX0_init_73 (by decide) ?_
  have hA7 : (M0 ++ ([(0, [.null, .int 0, .ref (b + 1), .ref (b + 2), .ref (b + 9), .ref (b + 16), .ref (b + 23), .ref (b + 30), .null, .null, .null])] ++ ((((([(100, List.replicate 6 (.int 0))] ++ kv_grid (b + 2) 6 8) ++ kv_grid (b + 9) 6 8) ++ kv_grid (b + 16) 6 8) ++ kv_grid (b + 23) 6 8) ++ kv_grid (b + 30) 6 8) : List PE)).length = b + 37 := pa_len hb (by simp only [-List.reduceReplicate, List.length_append, List.length_cons, List.length_nil, SBK_len, grid_len] <;> omega)
  have hS7 : kv_sum (M0 ++ ([(0, [.null, .int 0, .ref (b + 1), .ref (b + 2), .ref (b + 9), .ref (b + 16), .ref (b + 23), .ref (b + 30), .null, .null, .null])] ++ ((((([(100, List.replicate 6 (.int 0))] ++ kv_grid (b + 2) 6 8) ++ kv_grid (b + 9) 6 8) ++ kv_grid (b + 16) 6 8) ++ kv_grid (b + 23) 6 8) ++ kv_grid (b + 30) 6 8) : List PE)) = z + 287 := pa_sum hz (by simp only [-List.reduceReplicate, kv_sum_app2, kv_sum_cons, kv_sum_nil, SBK_sum, grid_sum, List.length_cons, List.length_nil, List.length_replicate, List.length_set] <;> omega)
  refine pa_arr (L' := [(0, [.null, .int 0, .ref (b + 1), .ref (b + 2), .ref (b + 9), .ref (b + 16), .ref (b + 23), .ref (b + 30), .null, .null, .null])] ++ (((((([(100, List.replicate 6 (.int 0))] ++ kv_grid (b + 2) 6 8) ++ kv_grid (b + 9) 6 8) ++ kv_grid (b + 16) 6 8) ++ kv_grid (b + 23) 6 8) ++ kv_grid (b + 30) 6 8) ++ [(100, List.replicate 6 (.int 0))])) (t := 0) (k := 6) hA7 hS7 dX0_init_75 (by simp) ak_int rfl (by decide) (by clear hA7 hS7; omega) (by clear hA7 hS7; omega) (by clear hA7 hS7; omega) (List.append_assoc _ _ _) ?_
  clear hA7 hS7
  refine pa_putf (L' := [(0, [.null, .int 0, .ref (b + 1), .ref (b + 2), .ref (b + 9), .ref (b + 16), .ref (b + 23), .ref (b + 30), .ref (b + 37), .null, .null])] ++ (((((([(100, List.replicate 6 (.int 0))] ++ kv_grid (b + 2) 6 8) ++ kv_grid (b + 9) 6 8) ++ kv_grid (b + 16) 6 8) ++ kv_grid (b + 23) 6 8) ++ kv_grid (b + 30) 6 8) ++ [(100, List.replicate 6 (.int 0))])) (j := 0) hb rfl dX0_init_77 kf_X0_32 (by decide) (gg rfl) (Nat.le_of_ble_eq_true rfl) (fun q hq => by cases hq; exact ⟨tyX0 8, by decide +kernel, rfl, rfl⟩) (fun q hq => by cases hq; exact Or.inr ⟨rfl, rfl, rfl⟩) (gw (Nat.le_of_ble_eq_true rfl) rfl) ?_
  refine pw_aload_n dX0_init_80 rfl ?_
  refine pw_bipush (v := nI 6) dX0_init_81 (by decide) ?_
  have hA8 : (M0 ++ ([(0, [.null, .int 0, .ref (b + 1), .ref (b + 2), .ref (b + 9), .ref (b + 16), .ref (b + 23), .ref (b + 30), .ref (b + 37), .null, .null])] ++ (((((([(100, List.replicate 6 (.int 0))] ++ kv_grid (b + 2) 6 8) ++ kv_grid (b + 9) 6 8) ++ kv_grid (b + 16) 6 8) ++ kv_grid (b + 23) 6 8) ++ kv_grid (b + 30) 6 8) ++ [(100, List.replicate 6 (.int 0))]) : List PE)).length = b + 38 := pa_len hb (by simp only [-List.reduceReplicate, List.length_append, List.length_cons, List.length_nil, SBK_len, grid_len] <;> omega)
  have hS8 : kv_sum (M0 ++ ([(0, [.null, .int 0, .ref (b + 1), .ref (b + 2), .ref (b + 9), .ref (b + 16), .ref (b + 23), .ref (b + 30), .ref (b + 37), .null, .null])] ++ (((((([(100, List.replicate 6 (.int 0))] ++ kv_grid (b + 2) 6 8) ++ kv_grid (b + 9) 6 8) ++ kv_grid (b + 16) 6 8) ++ kv_grid (b + 23) 6 8) ++ kv_grid (b + 30) 6 8) ++ [(100, List.replicate 6 (.int 0))]) : List PE)) = z + 293 := pa_sum hz (by simp only [-List.reduceReplicate, kv_sum_app2, kv_sum_cons, kv_sum_nil, SBK_sum, grid_sum, List.length_cons, List.length_nil, List.length_replicate, List.length_set] <;> omega)
  refine pa_arr (L' := [(0, [.null, .int 0, .ref (b + 1), .ref (b + 2), .ref (b + 9), .ref (b + 16), .ref (b + 23), .ref (b + 30), .ref (b + 37), .null, .null])] ++ ((((((([(100, List.replicate 6 (.int 0))] ++ kv_grid (b + 2) 6 8) ++ kv_grid (b + 9) 6 8) ++ kv_grid (b + 16) 6 8) ++ kv_grid (b + 23) 6 8) ++ kv_grid (b + 30) 6 8) ++ [(100, List.replicate 6 (.int 0))]) ++ [(100, List.replicate 6 (.int 0))])) (t := 0) (k := 6) hA8 hS8 dX0_init_83 (by simp) ak_int rfl (by decide) (by clear hA8 hS8; omega) (by clear hA8 hS8; omega) (by clear hA8 hS8; omega) (List.append_assoc _ _ _) ?_
  clear hA8 hS8
  refine pa_putf (L' := [(0, [.null, .int 0, .ref (b + 1), .ref (b + 2), .ref (b + 9), .ref (b + 16), .ref (b + 23), .ref (b + 30), .ref (b + 37), .ref (b + 38), .null])] ++ ((((((([(100, List.replicate 6 (.int 0))] ++ kv_grid (b + 2) 6 8) ++ kv_grid (b + 9) 6 8) ++ kv_grid (b + 16) 6 8) ++ kv_grid (b + 23) 6 8) ++ kv_grid (b + 30) 6 8) ++ [(100, List.replicate 6 (.int 0))]) ++ [(100, List.replicate 6 (.int 0))])) (j := 0) hb rfl dX0_init_85 kf_X0_35 (by decide) (gg rfl) (Nat.le_of_ble_eq_true rfl) (fun q hq => by cases hq; exact ⟨tyX0 9, by decide +kernel, rfl, rfl⟩) (fun q hq => by cases hq; exact Or.inr ⟨rfl, rfl, rfl⟩) (gw (Nat.le_of_ble_eq_true rfl) rfl) ?_
  refine pw_aload_n dX0_init_88 rfl ?_
  refine pw_bipush (v := nI 8) dX0_init_89 (by decide) ?_
  have hA9 : (M0 ++ ([(0, [.null, .int 0, .ref (b + 1), .ref (b + 2), .ref (b + 9), .ref (b + 16), .ref (b + 23), .ref (b + 30), .ref (b + 37), .ref (b + 38), .null])] ++ ((((((([(100, List.replicate 6 (.int 0))] ++ kv_grid (b + 2) 6 8) ++ kv_grid (b + 9) 6 8) ++ kv_grid (b + 16) 6 8) ++ kv_grid (b + 23) 6 8) ++ kv_grid (b + 30) 6 8) ++ [(100, List.replicate 6 (.int 0))]) ++ [(100, List.replicate 6 (.int 0))]) : List PE)).length = b + 39 := pa_len hb (by simp only [-List.reduceReplicate, List.length_append, List.length_cons, List.length_nil, SBK_len, grid_len] <;> omega)
  have hS9 : kv_sum (M0 ++ ([(0, [.null, .int 0, .ref (b + 1), .ref (b + 2), .ref (b + 9), .ref (b + 16), .ref (b + 23), .ref (b + 30), .ref (b + 37), .ref (b + 38), .null])] ++ ((((((([(100, List.replicate 6 (.int 0))] ++ kv_grid (b + 2) 6 8) ++ kv_grid (b + 9) 6 8) ++ kv_grid (b + 16) 6 8) ++ kv_grid (b + 23) 6 8) ++ kv_grid (b + 30) 6 8) ++ [(100, List.replicate 6 (.int 0))]) ++ [(100, List.replicate 6 (.int 0))]) : List PE)) = z + 299 := pa_sum hz (by simp only [-List.reduceReplicate, kv_sum_app2, kv_sum_cons, kv_sum_nil, SBK_sum, grid_sum, List.length_cons, List.length_nil, List.length_replicate, List.length_set] <;> omega)
  refine pa_arr (L' := [(0, [.null, .int 0, .ref (b + 1), .ref (b + 2), .ref (b + 9), .ref (b + 16), .ref (b + 23), .ref (b + 30), .ref (b + 37), .ref (b + 38), .null])] ++ (((((((([(100, List.replicate 6 (.int 0))] ++ kv_grid (b + 2) 6 8) ++ kv_grid (b + 9) 6 8) ++ kv_grid (b + 16) 6 8) ++ kv_grid (b + 23) 6 8) ++ kv_grid (b + 30) 6 8) ++ [(100, List.replicate 6 (.int 0))]) ++ [(100, List.replicate 6 (.int 0))]) ++ [(100, List.replicate 8 (.int 0))])) (t := 0) (k := 8) hA9 hS9 dX0_init_91 (by simp) ak_int rfl (by decide) (by clear hA9 hS9; omega) (by clear hA9 hS9; omega) (by clear hA9 hS9; omega) (List.append_assoc _ _ _) ?_
  clear hA9 hS9
  refine pa_putf (L' := [(0, [.null, .int 0, .ref (b + 1), .ref (b + 2), .ref (b + 9), .ref (b + 16), .ref (b + 23), .ref (b + 30), .ref (b + 37), .ref (b + 38), .ref (b + 39)])] ++ (((((((([(100, List.replicate 6 (.int 0))] ++ kv_grid (b + 2) 6 8) ++ kv_grid (b + 9) 6 8) ++ kv_grid (b + 16) 6 8) ++ kv_grid (b + 23) 6 8) ++ kv_grid (b + 30) 6 8) ++ [(100, List.replicate 6 (.int 0))]) ++ [(100, List.replicate 6 (.int 0))]) ++ [(100, List.replicate 8 (.int 0))])) (j := 0) hb rfl dX0_init_93 kf_X0_38 (by decide) (gg rfl) (Nat.le_of_ble_eq_true rfl) (fun q hq => by cases hq; exact ⟨tyX0 10, by decide +kernel, rfl, rfl⟩) (fun q hq => by cases hq; exact Or.inr ⟨rfl, rfl, rfl⟩) (gw (Nat.le_of_ble_eq_true rfl) rfl) ?_
  have hA10 : (M0 ++ ([(0, [.null, .int 0, .ref (b + 1), .ref (b + 2), .ref (b + 9), .ref (b + 16), .ref (b + 23), .ref (b + 30), .ref (b + 37), .ref (b + 38), .ref (b + 39)])] ++ (((((((([(100, List.replicate 6 (.int 0))] ++ kv_grid (b + 2) 6 8) ++ kv_grid (b + 9) 6 8) ++ kv_grid (b + 16) 6 8) ++ kv_grid (b + 23) 6 8) ++ kv_grid (b + 30) 6 8) ++ [(100, List.replicate 6 (.int 0))]) ++ [(100, List.replicate 6 (.int 0))]) ++ [(100, List.replicate 8 (.int 0))]) : List PE)).length = b + 40 := pa_len hb (by simp only [-List.reduceReplicate, List.length_append, List.length_cons, List.length_nil, SBK_len, grid_len] <;> omega)
  have hS10 : kv_sum (M0 ++ ([(0, [.null, .int 0, .ref (b + 1), .ref (b + 2), .ref (b + 9), .ref (b + 16), .ref (b + 23), .ref (b + 30), .ref (b + 37), .ref (b + 38), .ref (b + 39)])] ++ (((((((([(100, List.replicate 6 (.int 0))] ++ kv_grid (b + 2) 6 8) ++ kv_grid (b + 9) 6 8) ++ kv_grid (b + 16) 6 8) ++ kv_grid (b + 23) 6 8) ++ kv_grid (b + 30) 6 8) ++ [(100, List.replicate 6 (.int 0))]) ++ [(100, List.replicate 6 (.int 0))]) ++ [(100, List.replicate 8 (.int 0))]) : List PE)) = z + 307 := pa_sum hz (by simp only [-List.reduceReplicate, kv_sum_app2, kv_sum_cons, kv_sum_nil, SBK_sum, grid_sum, List.length_cons, List.length_nil, List.length_replicate, List.length_set] <;> omega)
  exact pw_return dX0_init_96 rfl hA10 hS10 hf
set_option maxRecDepth 100000 in
set_option maxHeartbeats 8000000 in
theorem k_History (hE : ESV E) (hb : M0.length = b) (hz : kv_sum M0 = z) (hb9 : b + 110 ≤ 1000) (hf : fin none (M0 ++ HBK b)) : PW l E D cA (b + 110) (z + 717) mX1_init (d + 3) fin 0 [some (.ref b), none] [] (M0 ++ [(1, fz1)]) := by
  show PW l E D cA (b + 110) (z + 717) mX1_init (d + 3) fin 0 [some (.ref b), none] [] (M0 ++ ([(1, [.null, .int 0, .int 0])]))
  refine pw_aload_n dX1_init_0 rfl ?_
  refine pw_objInit dX1_init_1 co_X1_3 co_inst co_code (Nat.le_of_ble_eq_true rfl) ?_
  refine pw_aload_n dX1_init_4 rfl ?_
  refine pw_bipush (v := nI 6) dX1_init_5 (by decide) ?_
  have hA1 : (M0 ++ ([(1, [.null, .int 0, .int 0])] : List PE)).length = b + 1 := pa_len hb (by simp only [-List.reduceReplicate, List.length_append, List.length_cons, List.length_nil, SBK_len, grid_len] <;> omega)
  have hS1 : kv_sum (M0 ++ ([(1, [.null, .int 0, .int 0])] : List PE)) = z + 3 := pa_sum hz (by simp only [-List.reduceReplicate, kv_sum_app2, kv_sum_cons, kv_sum_nil, SBK_sum, grid_sum, List.length_cons, List.length_nil, List.length_replicate, List.length_set] <;> omega)
  refine pa_anew (L' := [(1, [.null, .int 0, .int 0]), (104, List.replicate 6 .null)]) (t := 4) (k := 6) (C := RX3) hA1 hS1 dX1_init_7 (by simp) cl_X1_9 rfl (by decide) (by clear hA1 hS1; omega) (by clear hA1 hS1; omega) (by clear hA1 hS1; omega) rfl ?_
  clear hA1 hS1
  refine pa_putf (L' := [(1, [.ref (b + 1), .int 0, .int 0]), (104, List.replicate 6 .null)]) (j := 0) hb rfl dX1_init_10 kf_X1_11 (by decide) rfl (Nat.le_of_ble_eq_true rfl) (fun q hq => by cases hq; exact ⟨tyX1 0, by decide +kernel, rfl, rfl⟩) (fun q hq => by cases hq; exact Or.inr ⟨rfl, rfl, rfl⟩) rfl ?_
  refine pw_iconst_ (v := nI 0) dX1_init_13 (by decide) ?_
  refine px_istore_n (ls' := [some (.ref b), some (.int (nI 0))]) dX1_init_14 rfl rfl (by decide) ?_
  refine pw_iload_n dX1_init_15 rfl ?_
  refine pw_bipush (v := nI 6) dX1_init_16 (by decide) ?_
  refine pn_ge (tgt := 40) dX1_init_18 (by decide) (by decide) (by decide) (fun h9 => absurd h9 (by decide)) (fun _ => ?_)
  refine pw_aload_n dX1_init_21 rfl ?_
  refine pa_getf (j := 0) (v := .ref (b + 1)) hb rfl (by omega) dX1_init_22 kf_X1_11 (by decide) rfl rfl ?_
  refine pw_iload_n dX1_init_25 rfl ?_
  have hA2 : (M0 ++ ([(1, [.ref (b + 1), .int 0, .int 0]), (104, List.replicate 6 .null)] : List PE)).length = b + 2 := pa_len hb (by simp only [-List.reduceReplicate, List.length_append, List.length_cons, List.length_nil, SBK_len, grid_len] <;> omega)
  have hS2 : kv_sum (M0 ++ ([(1, [.ref (b + 1), .int 0, .int 0]), (104, List.replicate 6 .null)] : List PE)) = z + 9 := pa_sum hz (by simp only [-List.reduceReplicate, kv_sum_app2, kv_sum_cons, kv_sum_nil, SBK_sum, grid_sum, List.length_cons, List.length_nil, List.length_replicate, List.length_set] <;> omega)
  refine pa_newo hA2 hS2 dX1_init_26 kn_X1_9 (by clear hA2 hS2; omega) (by clear hA2 hS2; omega) (by clear hA2 hS2; show z + 9 + 7 ≤ _; omega) ?_
  refine pw_dup dX1_init_29 rfl ?_
  refine pw_callI (N' := b + 2 + 18) (Z' := z + 9 + 118) (b := b + 2) (As := []) (st := [.ref (b + 2), .int (nI 0), .ref (b + 1)]) dX1_init_30 yy_X3_init rfl rfl ci_X1_17.1 ci_X1_17.2 rfl (Nat.le_of_ble_eq_true rfl) (Nat.le_of_ble_eq_true rfl) ⟨by rw [List.length_append, hA2]; show b + 2 + 1 ≤ _; clear hA2 hS2; omega, by clear hA2 hS2; omega⟩ ⟨by rw [kv_sum_app2, hS2]; show z + 9 + 7 ≤ _; clear hA2 hS2; omega, by clear hA2 hS2; omega⟩ ?_
  refine k_State hE (M0 := (M0 ++ ([(1, [.ref (b + 1), .int 0, .int 0]), (104, List.replicate 6 .null)] : List PE))) hA2 hS2 (by clear hA2 hS2; omega) ?_
  clear hA2 hS2
  refine pa_aastS (L' := [(1, [.ref (b + 1), .int 0, .int 0]), (104, [.ref (b + 2), .null, .null, .null, .null, .null])] ++ SBK (b + 2)) (j := 1) (k := 0) (t := 4) (ci := 3) hb rfl (by simp only [List.length_append, List.length_cons, List.length_nil, SBK_len] <;> omega) dX1_init_33 rfl rfl (by decide) rfl (by decide) (Nat.le_of_ble_eq_true rfl) rfl (by decide) rfl rfl ?_
  refine px_iincn (n := 1) (a := 0) (b := 1) (ls' := [some (.ref b), some (.int (nI 1))]) dX1_init_34 rfl rfl rfl rfl ?_
  refine pw_goto (tgt := 15) dX1_init_37 (by decide) ?_
  refine pw_iload_n dX1_init_15 rfl ?_
  refine pw_bipush (v := nI 6) dX1_init_16 (by decide) ?_
  refine pn_ge (tgt := 40) dX1_init_18 (by decide) (by decide) (by decide) (fun h9 => absurd h9 (by decide)) (fun _ => ?_)
  refine pw_aload_n dX1_init_21 rfl ?_
  refine pa_getf (j := 0) (v := .ref (b + 1)) hb rfl (by omega) dX1_init_22 kf_X1_11 (by decide) (gg rfl) rfl ?_
  refine pw_iload_n dX1_init_25 rfl ?_
  have hA3 : (M0 ++ ([(1, [.ref (b + 1), .int 0, .int 0]), (104, [.ref (b + 2), .null, .null, .null, .null, .null])] ++ SBK (b + 2) : List PE)).length = b + 20 := pa_len hb (by simp only [-List.reduceReplicate, List.length_append, List.length_cons, List.length_nil, SBK_len, grid_len] <;> omega)
  have hS3 : kv_sum (M0 ++ ([(1, [.ref (b + 1), .int 0, .int 0]), (104, [.ref (b + 2), .null, .null, .null, .null, .null])] ++ SBK (b + 2) : List PE)) = z + 127 := pa_sum hz (by simp only [-List.reduceReplicate, kv_sum_app2, kv_sum_cons, kv_sum_nil, SBK_sum, grid_sum, List.length_cons, List.length_nil, List.length_replicate, List.length_set] <;> omega)
  refine pa_newo hA3 hS3 dX1_init_26 kn_X1_9 (by clear hA3 hS3; omega) (by clear hA3 hS3; omega) (by clear hA3 hS3; show z + 127 + 7 ≤ _; omega) ?_
  refine pw_dup dX1_init_29 rfl ?_
  refine pw_callI (N' := b + 20 + 18) (Z' := z + 127 + 118) (b := b + 20) (As := []) (st := [.ref (b + 20), .int (nI 1), .ref (b + 1)]) dX1_init_30 yy_X3_init rfl rfl ci_X1_17.1 ci_X1_17.2 rfl (Nat.le_of_ble_eq_true rfl) (Nat.le_of_ble_eq_true rfl) ⟨by rw [List.length_append, hA3]; show b + 20 + 1 ≤ _; clear hA3 hS3; omega, by clear hA3 hS3; omega⟩ ⟨by rw [kv_sum_app2, hS3]; show z + 127 + 7 ≤ _; clear hA3 hS3; omega, by clear hA3 hS3; omega⟩ ?_
  refine k_State hE (M0 := (M0 ++ ([(1, [.ref (b + 1), .int 0, .int 0]), (104, [.ref (b + 2), .null, .null, .null, .null, .null])] ++ SBK (b + 2) : List PE))) hA3 hS3 (by clear hA3 hS3; omega) ?_
  clear hA3 hS3
  refine pa_aastS (L' := [(1, [.ref (b + 1), .int 0, .int 0]), (104, [.ref (b + 2), .ref (b + 20), .null, .null, .null, .null])] ++ (SBK (b + 2) ++ SBK (b + 20))) (j := 1) (k := 1) (t := 4) (ci := 3) hb rfl (by simp only [List.length_append, List.length_cons, List.length_nil, SBK_len] <;> omega) dX1_init_33 (gg rfl) rfl (by decide) rfl (by decide) (Nat.le_of_ble_eq_true rfl) rfl (by decide) rfl (gs (Nat.le_of_ble_eq_true rfl) rfl) ?_
  refine px_iincn (n := 1) (a := 1) (b := 2) (ls' := [some (.ref b), some (.int (nI 2))]) dX1_init_34 rfl rfl rfl rfl ?_
  refine pw_goto (tgt := 15) dX1_init_37 (by decide) ?_
  refine pw_iload_n dX1_init_15 rfl ?_
  refine pw_bipush (v := nI 6) dX1_init_16 (by decide) ?_
  refine pn_ge (tgt := 40) dX1_init_18 (by decide) (by decide) (by decide) (fun h9 => absurd h9 (by decide)) (fun _ => ?_)
  refine pw_aload_n dX1_init_21 rfl ?_
  refine pa_getf (j := 0) (v := .ref (b + 1)) hb rfl (by omega) dX1_init_22 kf_X1_11 (by decide) (gg rfl) rfl ?_
  refine pw_iload_n dX1_init_25 rfl ?_
  have hA4 : (M0 ++ ([(1, [.ref (b + 1), .int 0, .int 0]), (104, [.ref (b + 2), .ref (b + 20), .null, .null, .null, .null])] ++ (SBK (b + 2) ++ SBK (b + 20)) : List PE)).length = b + 38 := pa_len hb (by simp only [-List.reduceReplicate, List.length_append, List.length_cons, List.length_nil, SBK_len, grid_len] <;> omega)
  have hS4 : kv_sum (M0 ++ ([(1, [.ref (b + 1), .int 0, .int 0]), (104, [.ref (b + 2), .ref (b + 20), .null, .null, .null, .null])] ++ (SBK (b + 2) ++ SBK (b + 20)) : List PE)) = z + 245 := pa_sum hz (by simp only [-List.reduceReplicate, kv_sum_app2, kv_sum_cons, kv_sum_nil, SBK_sum, grid_sum, List.length_cons, List.length_nil, List.length_replicate, List.length_set] <;> omega)
  refine pa_newo hA4 hS4 dX1_init_26 kn_X1_9 (by clear hA4 hS4; omega) (by clear hA4 hS4; omega) (by clear hA4 hS4; show z + 245 + 7 ≤ _; omega) ?_
  refine pw_dup dX1_init_29 rfl ?_
  refine pw_callI (N' := b + 38 + 18) (Z' := z + 245 + 118) (b := b + 38) (As := []) (st := [.ref (b + 38), .int (nI 2), .ref (b + 1)]) dX1_init_30 yy_X3_init rfl rfl ci_X1_17.1 ci_X1_17.2 rfl (Nat.le_of_ble_eq_true rfl) (Nat.le_of_ble_eq_true rfl) ⟨by rw [List.length_append, hA4]; show b + 38 + 1 ≤ _; clear hA4 hS4; omega, by clear hA4 hS4; omega⟩ ⟨by rw [kv_sum_app2, hS4]; show z + 245 + 7 ≤ _; clear hA4 hS4; omega, by clear hA4 hS4; omega⟩ ?_
  refine k_State hE (M0 := (M0 ++ ([(1, [.ref (b + 1), .int 0, .int 0]), (104, [.ref (b + 2), .ref (b + 20), .null, .null, .null, .null])] ++ (SBK (b + 2) ++ SBK (b + 20)) : List PE))) hA4 hS4 (by clear hA4 hS4; omega) ?_
  clear hA4 hS4
  refine pa_aastS (L' := [(1, [.ref (b + 1), .int 0, .int 0]), (104, [.ref (b + 2), .ref (b + 20), .ref (b + 38), .null, .null, .null])] ++ ((SBK (b + 2) ++ SBK (b + 20)) ++ SBK (b + 38))) (j := 1) (k := 2) (t := 4) (ci := 3) hb rfl (by simp only [List.length_append, List.length_cons, List.length_nil, SBK_len] <;> omega) dX1_init_33 (gg rfl) rfl (by decide) rfl (by decide) (Nat.le_of_ble_eq_true rfl) rfl (by decide) rfl (gs (Nat.le_of_ble_eq_true rfl) rfl) ?_
  refine px_iincn (n := 1) (a := 2) (b := 3) (ls' := [some (.ref b), some (.int (nI 3))]) dX1_init_34 rfl rfl rfl rfl ?_
  refine pw_goto (tgt := 15) dX1_init_37 (by decide) ?_
  refine pw_iload_n dX1_init_15 rfl ?_
  refine pw_bipush (v := nI 6) dX1_init_16 (by decide) ?_
  refine pn_ge (tgt := 40) dX1_init_18 (by decide) (by decide) (by decide) (fun h9 => absurd h9 (by decide)) (fun _ => ?_)
  refine pw_aload_n dX1_init_21 rfl ?_
  refine pa_getf (j := 0) (v := .ref (b + 1)) hb rfl (by omega) dX1_init_22 kf_X1_11 (by decide) (gg rfl) rfl ?_
  refine pw_iload_n dX1_init_25 rfl ?_
  have hA5 : (M0 ++ ([(1, [.ref (b + 1), .int 0, .int 0]), (104, [.ref (b + 2), .ref (b + 20), .ref (b + 38), .null, .null, .null])] ++ ((SBK (b + 2) ++ SBK (b + 20)) ++ SBK (b + 38)) : List PE)).length = b + 56 := pa_len hb (by simp only [-List.reduceReplicate, List.length_append, List.length_cons, List.length_nil, SBK_len, grid_len] <;> omega)
  have hS5 : kv_sum (M0 ++ ([(1, [.ref (b + 1), .int 0, .int 0]), (104, [.ref (b + 2), .ref (b + 20), .ref (b + 38), .null, .null, .null])] ++ ((SBK (b + 2) ++ SBK (b + 20)) ++ SBK (b + 38)) : List PE)) = z + 363 := pa_sum hz (by simp only [-List.reduceReplicate, kv_sum_app2, kv_sum_cons, kv_sum_nil, SBK_sum, grid_sum, List.length_cons, List.length_nil, List.length_replicate, List.length_set] <;> omega)
  refine pa_newo hA5 hS5 dX1_init_26 kn_X1_9 (by clear hA5 hS5; omega) (by clear hA5 hS5; omega) (by clear hA5 hS5; show z + 363 + 7 ≤ _; omega) ?_
  refine pw_dup dX1_init_29 rfl ?_
  refine pw_callI (N' := b + 56 + 18) (Z' := z + 363 + 118) (b := b + 56) (As := []) (st := [.ref (b + 56), .int (nI 3), .ref (b + 1)]) dX1_init_30 yy_X3_init rfl rfl ci_X1_17.1 ci_X1_17.2 rfl (Nat.le_of_ble_eq_true rfl) (Nat.le_of_ble_eq_true rfl) ⟨by rw [List.length_append, hA5]; show b + 56 + 1 ≤ _; clear hA5 hS5; omega, by clear hA5 hS5; omega⟩ ⟨by rw [kv_sum_app2, hS5]; show z + 363 + 7 ≤ _; clear hA5 hS5; omega, by clear hA5 hS5; omega⟩ ?_
  refine k_State hE (M0 := (M0 ++ ([(1, [.ref (b + 1), .int 0, .int 0]), (104, [.ref (b + 2), .ref (b + 20), .ref (b + 38), .null, .null, .null])] ++ ((SBK (b + 2) ++ SBK (b + 20)) ++ SBK (b + 38)) : List PE))) hA5 hS5 (by clear hA5 hS5; omega) ?_
  clear hA5 hS5
  refine pa_aastS (L' := [(1, [.ref (b + 1), .int 0, .int 0]), (104, [.ref (b + 2), .ref (b + 20), .ref (b + 38), .ref (b + 56), .null, .null])] ++ (((SBK (b + 2) ++ SBK (b + 20)) ++ SBK (b + 38)) ++ SBK (b + 56))) (j := 1) (k := 3) (t := 4) (ci := 3) hb rfl (by simp only [List.length_append, List.length_cons, List.length_nil, SBK_len] <;> omega) dX1_init_33 (gg rfl) rfl (by decide) rfl (by decide) (Nat.le_of_ble_eq_true rfl) rfl (by decide) rfl (gs (Nat.le_of_ble_eq_true rfl) rfl) ?_
  refine px_iincn (n := 1) (a := 3) (b := 4) (ls' := [some (.ref b), some (.int (nI 4))]) dX1_init_34 rfl rfl rfl rfl ?_
  refine pw_goto (tgt := 15) dX1_init_37 (by decide) ?_
  refine pw_iload_n dX1_init_15 rfl ?_
  refine pw_bipush (v := nI 6) dX1_init_16 (by decide) ?_
  refine pn_ge (tgt := 40) dX1_init_18 (by decide) (by decide) (by decide) (fun h9 => absurd h9 (by decide)) (fun _ => ?_)
  refine pw_aload_n dX1_init_21 rfl ?_
  refine pa_getf (j := 0) (v := .ref (b + 1)) hb rfl (by omega) dX1_init_22 kf_X1_11 (by decide) (gg rfl) rfl ?_
  refine pw_iload_n dX1_init_25 rfl ?_
  have hA6 : (M0 ++ ([(1, [.ref (b + 1), .int 0, .int 0]), (104, [.ref (b + 2), .ref (b + 20), .ref (b + 38), .ref (b + 56), .null, .null])] ++ (((SBK (b + 2) ++ SBK (b + 20)) ++ SBK (b + 38)) ++ SBK (b + 56)) : List PE)).length = b + 74 := pa_len hb (by simp only [-List.reduceReplicate, List.length_append, List.length_cons, List.length_nil, SBK_len, grid_len] <;> omega)
  have hS6 : kv_sum (M0 ++ ([(1, [.ref (b + 1), .int 0, .int 0]), (104, [.ref (b + 2), .ref (b + 20), .ref (b + 38), .ref (b + 56), .null, .null])] ++ (((SBK (b + 2) ++ SBK (b + 20)) ++ SBK (b + 38)) ++ SBK (b + 56)) : List PE)) = z + 481 := pa_sum hz (by simp only [-List.reduceReplicate, kv_sum_app2, kv_sum_cons, kv_sum_nil, SBK_sum, grid_sum, List.length_cons, List.length_nil, List.length_replicate, List.length_set] <;> omega)
  refine pa_newo hA6 hS6 dX1_init_26 kn_X1_9 (by clear hA6 hS6; omega) (by clear hA6 hS6; omega) (by clear hA6 hS6; show z + 481 + 7 ≤ _; omega) ?_
  refine pw_dup dX1_init_29 rfl ?_
  refine pw_callI (N' := b + 74 + 18) (Z' := z + 481 + 118) (b := b + 74) (As := []) (st := [.ref (b + 74), .int (nI 4), .ref (b + 1)]) dX1_init_30 yy_X3_init rfl rfl ci_X1_17.1 ci_X1_17.2 rfl (Nat.le_of_ble_eq_true rfl) (Nat.le_of_ble_eq_true rfl) ⟨by rw [List.length_append, hA6]; show b + 74 + 1 ≤ _; clear hA6 hS6; omega, by clear hA6 hS6; omega⟩ ⟨by rw [kv_sum_app2, hS6]; show z + 481 + 7 ≤ _; clear hA6 hS6; omega, by clear hA6 hS6; omega⟩ ?_
  refine k_State hE (M0 := (M0 ++ ([(1, [.ref (b + 1), .int 0, .int 0]), (104, [.ref (b + 2), .ref (b + 20), .ref (b + 38), .ref (b + 56), .null, .null])] ++ (((SBK (b + 2) ++ SBK (b + 20)) ++ SBK (b + 38)) ++ SBK (b + 56)) : List PE))) hA6 hS6 (by clear hA6 hS6; omega) ?_
  clear hA6 hS6
  refine pa_aastS (L' := [(1, [.ref (b + 1), .int 0, .int 0]), (104, [.ref (b + 2), .ref (b + 20), .ref (b + 38), .ref (b + 56), .ref (b + 74), .null])] ++ ((((SBK (b + 2) ++ SBK (b + 20)) ++ SBK (b + 38)) ++ SBK (b + 56)) ++ SBK (b + 74))) (j := 1) (k := 4) (t := 4) (ci := 3) hb rfl (by simp only [List.length_append, List.length_cons, List.length_nil, SBK_len] <;> omega) dX1_init_33 (gg rfl) rfl (by decide) rfl (by decide) (Nat.le_of_ble_eq_true rfl) rfl (by decide) rfl (gs (Nat.le_of_ble_eq_true rfl) rfl) ?_
  refine px_iincn (n := 1) (a := 4) (b := 5) (ls' := [some (.ref b), some (.int (nI 5))]) dX1_init_34 rfl rfl rfl rfl ?_
  refine pw_goto (tgt := 15) dX1_init_37 (by decide) ?_
  refine pw_iload_n dX1_init_15 rfl ?_
  refine pw_bipush (v := nI 6) dX1_init_16 (by decide) ?_
  refine pn_ge (tgt := 40) dX1_init_18 (by decide) (by decide) (by decide) (fun h9 => absurd h9 (by decide)) (fun _ => ?_)
  refine pw_aload_n dX1_init_21 rfl ?_
  refine pa_getf (j := 0) (v := .ref (b + 1)) hb rfl (by omega) dX1_init_22 kf_X1_11 (by decide) (gg rfl) rfl ?_
  refine pw_iload_n dX1_init_25 rfl ?_
  have hA7 : (M0 ++ ([(1, [.ref (b + 1), .int 0, .int 0]), (104, [.ref (b + 2), .ref (b + 20), .ref (b + 38), .ref (b + 56), .ref (b + 74), .null])] ++ ((((SBK (b + 2) ++ SBK (b + 20)) ++ SBK (b + 38)) ++ SBK (b + 56)) ++ SBK (b + 74)) : List PE)).length = b + 92 := pa_len hb (by simp only [-List.reduceReplicate, List.length_append, List.length_cons, List.length_nil, SBK_len, grid_len] <;> omega)
  have hS7 : kv_sum (M0 ++ ([(1, [.ref (b + 1), .int 0, .int 0]), (104, [.ref (b + 2), .ref (b + 20), .ref (b + 38), .ref (b + 56), .ref (b + 74), .null])] ++ ((((SBK (b + 2) ++ SBK (b + 20)) ++ SBK (b + 38)) ++ SBK (b + 56)) ++ SBK (b + 74)) : List PE)) = z + 599 := pa_sum hz (by simp only [-List.reduceReplicate, kv_sum_app2, kv_sum_cons, kv_sum_nil, SBK_sum, grid_sum, List.length_cons, List.length_nil, List.length_replicate, List.length_set] <;> omega)
  refine pa_newo hA7 hS7 dX1_init_26 kn_X1_9 (by clear hA7 hS7; omega) (by clear hA7 hS7; omega) (by clear hA7 hS7; show z + 599 + 7 ≤ _; omega) ?_
  refine pw_dup dX1_init_29 rfl ?_
  refine pw_callI (N' := b + 92 + 18) (Z' := z + 599 + 118) (b := b + 92) (As := []) (st := [.ref (b + 92), .int (nI 5), .ref (b + 1)]) dX1_init_30 yy_X3_init rfl rfl ci_X1_17.1 ci_X1_17.2 rfl (Nat.le_of_ble_eq_true rfl) (Nat.le_of_ble_eq_true rfl) ⟨by rw [List.length_append, hA7]; show b + 92 + 1 ≤ _; clear hA7 hS7; omega, by clear hA7 hS7; omega⟩ ⟨by rw [kv_sum_app2, hS7]; show z + 599 + 7 ≤ _; clear hA7 hS7; omega, by clear hA7 hS7; omega⟩ ?_
  refine k_State hE (M0 := (M0 ++ ([(1, [.ref (b + 1), .int 0, .int 0]), (104, [.ref (b + 2), .ref (b + 20), .ref (b + 38), .ref (b + 56), .ref (b + 74), .null])] ++ ((((SBK (b + 2) ++ SBK (b + 20)) ++ SBK (b + 38)) ++ SBK (b + 56)) ++ SBK (b + 74)) : List PE))) hA7 hS7 (by clear hA7 hS7; omega) ?_
  clear hA7 hS7
  refine pa_aastS (L' := [(1, [.ref (b + 1), .int 0, .int 0]), (104, [.ref (b + 2), .ref (b + 20), .ref (b + 38), .ref (b + 56), .ref (b + 74), .ref (b + 92)])] ++ (((((SBK (b + 2) ++ SBK (b + 20)) ++ SBK (b + 38)) ++ SBK (b + 56)) ++ SBK (b + 74)) ++ SBK (b + 92))) (j := 1) (k := 5) (t := 4) (ci := 3) hb rfl (by simp only [List.length_append, List.length_cons, List.length_nil, SBK_len] <;> omega) dX1_init_33 (gg rfl) rfl (by decide) rfl (by decide) (Nat.le_of_ble_eq_true rfl) rfl (by decide) rfl (gs (Nat.le_of_ble_eq_true rfl) rfl) ?_
  refine px_iincn (n := 1) (a := 5) (b := 6) (ls' := [some (.ref b), some (.int (nI 6))]) dX1_init_34 rfl rfl rfl rfl ?_
  refine pw_goto (tgt := 15) dX1_init_37 (by decide) ?_
  refine pw_iload_n dX1_init_15 rfl ?_
  refine pw_bipush (v := nI 6) dX1_init_16 (by decide) ?_
  refine pn_ge (tgt := 40) dX1_init_18 (by decide) (by decide) (by decide) (fun _ => ?_) (fun h9 => absurd h9 (by decide))
  have hA8 : (M0 ++ ([(1, [.ref (b + 1), .int 0, .int 0]), (104, [.ref (b + 2), .ref (b + 20), .ref (b + 38), .ref (b + 56), .ref (b + 74), .ref (b + 92)])] ++ (((((SBK (b + 2) ++ SBK (b + 20)) ++ SBK (b + 38)) ++ SBK (b + 56)) ++ SBK (b + 74)) ++ SBK (b + 92)) : List PE)).length = b + 110 := pa_len hb (by simp only [-List.reduceReplicate, List.length_append, List.length_cons, List.length_nil, SBK_len, grid_len] <;> omega)
  have hS8 : kv_sum (M0 ++ ([(1, [.ref (b + 1), .int 0, .int 0]), (104, [.ref (b + 2), .ref (b + 20), .ref (b + 38), .ref (b + 56), .ref (b + 74), .ref (b + 92)])] ++ (((((SBK (b + 2) ++ SBK (b + 20)) ++ SBK (b + 38)) ++ SBK (b + 56)) ++ SBK (b + 74)) ++ SBK (b + 92)) : List PE)) = z + 717 := pa_sum hz (by simp only [-List.reduceReplicate, kv_sum_app2, kv_sum_cons, kv_sum_nil, SBK_sum, grid_sum, List.length_cons, List.length_nil, List.length_replicate, List.length_set] <;> omega)
  exact pw_return dX1_init_40 rfl hA8 hS8 hf
end MAKE2
