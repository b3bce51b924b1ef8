/-! Math.max, Math.abs -/
section PSX
variable {l : Launch} {E : EV} {D : va_G} {cA : Nat → ClassId} {N Z : Nat} {X : MT} {d : Nat} {fin : Option Value → List PE → Prop} {pc : Nat} {ls : List (Option Value)} {st : List Value} {M : List PE}
theorem pw_mmax {idx : Nat} {x y : Int32} (hd : decode X.2.2.1 pc = .ok (.invokestatic idx, 3)) (hl : Cond.methodLink X.1 idx Lib.Math.max.name ∈ TB) (hN : M.length ≤ N) (hZ : kv_sum M ≤ Z) (hw : (st.map fun v => v.category).sum ≤ 8) (kk : PW l E D cA N Z X (d + 1) fin (pc + 3) ls (.int (if x < y then y else x) :: st) M) : PW l E D cA N Z X (d + 1) fin pc ls (.int y :: .int x :: st) M := by
  intro p e R s m args below meth c Q n0 z0 H locs cells slots la B P
  have hcat : (((st.map (kv_v E)).map fun v => v.category).sum) ≤ 8 := by rw [List.map_map, show ((fun v : Value => v.category) ∘ kv_v E) = (fun v => v.category) from funext fun v => kv_cat E v]; exact hw
  have h1 := B.2.2.2.1
  have h2 := B.2.2.2.2.1
  have h3 := B.2.2.2.2.2.1
  have h4 := B.2.2.2.2.2.2.1
  have h5 := P.2.2.2.1
  have h6 := P.2.2.2.2
  exact va_mmax B.1.1 B.1.2.1 (B.1.2.2.1.trans P.2.2.1.1.symm) B.1.2.2.2.1 (B.1.2.2.2.2.1 _ hl) (B.1.2.2.2.2.1 _ cm_max.1) (B.1.2.2.2.2.1 _ cm_max.2.1) (B.1.2.2.2.2.1 _ cm_max.2.2) (by omega) (by omega) (by omega) (by omega) hd (kk B P)
theorem pw_mabs {idx : Nat} {x : Int32} (hd : decode X.2.2.1 pc = .ok (.invokestatic idx, 3)) (hl : Cond.methodLink X.1 idx Lib.Math.abs.name ∈ TB) (hN : M.length ≤ N) (hZ : kv_sum M ≤ Z) (hw : (st.map fun v => v.category).sum ≤ 8) (kk : PW l E D cA N Z X (d + 1) fin (pc + 3) ls (.int (if 0 ≤ x then x else 0 - x) :: st) M) : PW l E D cA N Z X (d + 1) fin pc ls (.int x :: st) M := by
  intro p e R s m args below meth c Q n0 z0 H locs cells slots la B P
  have hcat : (((st.map (kv_v E)).map fun v => v.category).sum) ≤ 8 := by rw [List.map_map, show ((fun v : Value => v.category) ∘ kv_v E) = (fun v => v.category) from funext fun v => kv_cat E v]; exact hw
  have h1 := B.2.2.2.1
  have h2 := B.2.2.2.2.1
  have h3 := B.2.2.2.2.2.1
  have h4 := B.2.2.2.2.2.2.1
  have h5 := P.2.2.2.1
  have h6 := P.2.2.2.2
  exact va_mabs B.1.1 B.1.2.1 (B.1.2.2.1.trans P.2.2.1.1.symm) B.1.2.2.2.1 (B.1.2.2.2.2.1 _ hl) (B.1.2.2.2.2.1 _ cm_abs.1) (B.1.2.2.2.2.1 _ cm_abs.2.1) (B.1.2.2.2.2.1 _ cm_abs.2.2) (by omega) (by omega) (by omega) (by omega) hd (kk B P)
end PSX
