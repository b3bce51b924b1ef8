/-! the constructors: the model -/
def RWK (zz : List Value) : List Value := (((((((((((((((((((zz).set 0 (.int (nI 10))).set 1 (.int (nI 200))).set 2 (.int (nI 2))).set 4 (.int (nI 0))).set 6 (.int (nI 5))).set 8 (.int (nI 2))).set 10 (.int (nI 5))).set 12 (.int (nI 4))).set 14 (.int (nI 5))).set 16 (.int (nI 6))).set 18 (.int (nI 5))).set 20 (.int (nI 8))).set 22 (.int (nI 5))).set 24 (.int (nI 10))).set 26 (.int (nI 5))).set 28 (.int (nI 12))).set 30 (.int (nI 5))).set 32 (.int (nI 14))).set 34 (.int (nI 5))
theorem RWK_len {zz : List Value} (h : zz.length = 108) : (RWK zz).length = 108 := by unfold RWK; simp only [List.length_set, h]
section MAKE4
variable {l : Launch} {E : EV} {D : va_G} {cA : Nat → ClassId} {N Z : Nat} {X : MT} {d : Nat} {fin : Option Value → List PE → Prop} {pc : Nat} {ls : List (Option Value)} {st : List Value} {M0 L L' S : List PE} {b z : Nat}
set_option maxRecDepth 100000 in
set_option maxHeartbeats 8000000 in
theorem k_Model2 {Y : List PE} {fs zz : List Value} (hb : M0.length = b) (hb9 : b + 19 ≤ 1000) (hfs : fs[0]? = some (.ref (b + 1))) (l108 : zz.length = 108) (hN : (M0 ++ ([(6, fs), (100, zz)] ++ Y)).length = N) (hZ : kv_sum (M0 ++ ([(6, fs), (100, zz)] ++ Y)) = Z) (hf : fin none (M0 ++ ([(6, fs), (100, RWK zz)] ++ Y))) : PW l E D cA N Z mX6_init d fin 149 [some (.ref b), none] [] (M0 ++ ([(6, fs), (100, zz)] ++ Y)) := by
  refine pw_aload_n dX6_init_149 rfl ?_
  refine pa_getf (j := 0) (v := .ref (b + 1)) hb rfl (by omega) dX6_init_150 kf_X6_7 (by decide) (gg rfl) hfs ?_
  refine pw_iconst_ (v := nI 0) dX6_init_153 (by decide) ?_
  refine pw_bipush (v := nI 10) dX6_init_154 (by decide) ?_
  refine pa_iast (L' := [(6, fs), (100, (zz).set 0 (.int (nI 10)))] ++ Y) (j := 1) (k := 0) hb rfl dX6_init_156 (gg rfl) rfl (by decide) (by simp only [List.length_set, l108] <;> decide) (gw (Nat.le_of_ble_eq_true rfl) rfl) ?_
  refine pw_aload_n dX6_init_157 rfl ?_
  refine pa_getf (j := 0) (v := .ref (b + 1)) hb rfl (by omega) dX6_init_158 kf_X6_7 (by decide) (gg rfl) hfs ?_
  refine pw_iconst_ (v := nI 1) dX6_init_161 (by decide) ?_
  refine pw_sipush (v := nI 200) dX6_init_162 (by decide) ?_
  refine pa_iast (L' := [(6, fs), (100, ((zz).set 0 (.int (nI 10))).set 1 (.int (nI 200)))] ++ Y) (j := 1) (k := 1) hb rfl dX6_init_165 (gg rfl) rfl (by decide) (by simp only [List.length_set, l108] <;> decide) (gw (Nat.le_of_ble_eq_true rfl) rfl) ?_
  refine pw_aload_n dX6_init_166 rfl ?_
  refine pa_getf (j := 0) (v := .ref (b + 1)) hb rfl (by omega) dX6_init_167 kf_X6_7 (by decide) (gg rfl) hfs ?_
  refine pw_iconst_ (v := nI 2) dX6_init_170 (by decide) ?_
  refine pw_iconst_ (v := nI 2) dX6_init_171 (by decide) ?_
  refine pa_iast (L' := [(6, fs), (100, (((zz).set 0 (.int (nI 10))).set 1 (.int (nI 200))).set 2 (.int (nI 2)))] ++ Y) (j := 1) (k := 2) hb rfl dX6_init_172 (gg rfl) rfl (by decide) (by simp only [List.length_set, l108] <;> decide) (gw (Nat.le_of_ble_eq_true rfl) rfl) ?_
  refine pw_iconst_ (v := nI 0) dX6_init_173 (by decide) ?_
  refine px_istore_n (ls' := [some (.ref b), some (.int (nI 0))]) dX6_init_174 rfl rfl (by decide) ?_
  refine pw_iload_n dX6_init_175 rfl ?_
  refine pw_bipush (v := nI 8) dX6_init_176 (by decide) ?_
  refine pn_ge (tgt := 215) dX6_init_178 (by decide) (by decide) (by decide) (fun h9 => absurd h9 (by decide)) (fun _ => ?_)
  refine pw_aload_n dX6_init_181 rfl ?_
  refine pa_getf (j := 0) (v := .ref (b + 1)) hb rfl (by omega) dX6_init_182 kf_X6_7 (by decide) (gg rfl) hfs ?_
  refine pw_iconst_ (v := nI 4) dX6_init_185 (by decide) ?_
  refine pw_iconst_ (v := nI 4) dX6_init_186 (by decide) ?_
  refine pw_iload_n dX6_init_187 rfl ?_
  refine px_imuln (c := 0) dX6_init_188 rfl ?_
  refine px_iaddn (c := 4) dX6_init_189 rfl ?_
  refine pw_iconst_ (v := nI 0) dX6_init_190 (by decide) ?_
  refine px_iaddn (c := 4) dX6_init_191 rfl ?_
  refine pw_iconst_ (v := nI 2) dX6_init_192 (by decide) ?_
  refine pw_iload_n dX6_init_193 rfl ?_
  refine px_imuln (c := 0) dX6_init_194 rfl ?_
  refine pa_iast (L' := [(6, fs), (100, ((((zz).set 0 (.int (nI 10))).set 1 (.int (nI 200))).set 2 (.int (nI 2))).set 4 (.int (nI 0)))] ++ Y) (j := 1) (k := 4) hb rfl dX6_init_195 (gg rfl) rfl (by decide) (by simp only [List.length_set, l108] <;> decide) (gw (Nat.le_of_ble_eq_true rfl) rfl) ?_
  refine pw_aload_n dX6_init_196 rfl ?_
  refine pa_getf (j := 0) (v := .ref (b + 1)) hb rfl (by omega) dX6_init_197 kf_X6_7 (by decide) (gg rfl) hfs ?_
  refine pw_iconst_ (v := nI 4) dX6_init_200 (by decide) ?_
  refine pw_iconst_ (v := nI 4) dX6_init_201 (by decide) ?_
  refine pw_iload_n dX6_init_202 rfl ?_
  refine px_imuln (c := 0) dX6_init_203 rfl ?_
  refine px_iaddn (c := 4) dX6_init_204 rfl ?_
  refine pw_iconst_ (v := nI 2) dX6_init_205 (by decide) ?_
  refine px_iaddn (c := 6) dX6_init_206 rfl ?_
  refine pw_iconst_ (v := nI 5) dX6_init_207 (by decide) ?_
  refine pa_iast (L' := [(6, fs), (100, (((((zz).set 0 (.int (nI 10))).set 1 (.int (nI 200))).set 2 (.int (nI 2))).set 4 (.int (nI 0))).set 6 (.int (nI 5)))] ++ Y) (j := 1) (k := 6) hb rfl dX6_init_208 (gg rfl) rfl (by decide) (by simp only [List.length_set, l108] <;> decide) (gw (Nat.le_of_ble_eq_true rfl) rfl) ?_
  refine px_iincn (n := 1) (a := 0) (b := 1) (ls' := [some (.ref b), some (.int (nI 1))]) dX6_init_209 rfl rfl rfl rfl ?_
  refine pw_goto (tgt := 175) dX6_init_212 (by decide) ?_
  refine pw_iload_n dX6_init_175 rfl ?_
  refine pw_bipush (v := nI 8) dX6_init_176 (by decide) ?_
  refine pn_ge (tgt := 215) dX6_init_178 (by decide) (by decide) (by decide) (fun h9 => absurd h9 (by decide)) (fun _ => ?_)
  refine pw_aload_n dX6_init_181 rfl ?_
  refine pa_getf (j := 0) (v := .ref (b + 1)) hb rfl (by omega) dX6_init_182 kf_X6_7 (by decide) (gg rfl) hfs ?_
  refine pw_iconst_ (v := nI 4) dX6_init_185 (by decide) ?_
  refine pw_iconst_ (v := nI 4) dX6_init_186 (by decide) ?_
  refine pw_iload_n dX6_init_187 rfl ?_
  refine px_imuln (c := 4) dX6_init_188 rfl ?_
  refine px_iaddn (c := 8) dX6_init_189 rfl ?_
  refine pw_iconst_ (v := nI 0) dX6_init_190 (by decide) ?_
  refine px_iaddn (c := 8) dX6_init_191 rfl ?_
  refine pw_iconst_ (v := nI 2) dX6_init_192 (by decide) ?_
  refine pw_iload_n dX6_init_193 rfl ?_
  refine px_imuln (c := 2) dX6_init_194 rfl ?_
  refine pa_iast (L' := [(6, fs), (100, ((((((zz).set 0 (.int (nI 10))).set 1 (.int (nI 200))).set 2 (.int (nI 2))).set 4 (.int (nI 0))).set 6 (.int (nI 5))).set 8 (.int (nI 2)))] ++ Y) (j := 1) (k := 8) hb rfl dX6_init_195 (gg rfl) rfl (by decide) (by simp only [List.length_set, l108] <;> decide) (gw (Nat.le_of_ble_eq_true rfl) rfl) ?_
  refine pw_aload_n dX6_init_196 rfl ?_
  refine pa_getf (j := 0) (v := .ref (b + 1)) hb rfl (by omega) dX6_init_197 kf_X6_7 (by decide) (gg rfl) hfs ?_
  refine pw_iconst_ (v := nI 4) dX6_init_200 (by decide) ?_
  refine pw_iconst_ (v := nI 4) dX6_init_201 (by decide) ?_
  refine pw_iload_n dX6_init_202 rfl ?_
  refine px_imuln (c := 4) dX6_init_203 rfl ?_
  refine px_iaddn (c := 8) dX6_init_204 rfl ?_
  refine pw_iconst_ (v := nI 2) dX6_init_205 (by decide) ?_
  refine px_iaddn (c := 10) dX6_init_206 rfl ?_
  refine pw_iconst_ (v := nI 5) dX6_init_207 (by decide) ?_
  refine pa_iast (L' := [(6, fs), (100, (((((((zz).set 0 (.int (nI 10))).set 1 (.int (nI 200))).set 2 (.int (nI 2))).set 4 (.int (nI 0))).set 6 (.int (nI 5))).set 8 (.int (nI 2))).set 10 (.int (nI 5)))] ++ Y) (j := 1) (k := 10) hb rfl dX6_init_208 (gg rfl) rfl (by decide) (by simp only [List.length_set, l108] <;> decide) (gw (Nat.le_of_ble_eq_true rfl) rfl) ?_
  refine px_iincn (n := 1) (a := 1) (b := 2) (ls' := [some (.ref b), some (.int (nI 2))]) dX6_init_209 rfl rfl rfl rfl ?_
  refine pw_goto (tgt := 175) dX6_init_212 (by decide) ?_
  refine pw_iload_n dX6_init_175 rfl ?_
  refine pw_bipush (v := nI 8) dX6_init_176 (by decide) ?_
  refine pn_ge (tgt := 215) dX6_init_178 (by decide) (by decide) (by decide) (fun h9 => absurd h9 (by decide)) (fun _ => ?_)
  refine pw_aload_n dX6_init_181 rfl ?_
  refine pa_getf (j := 0) (v := .ref (b + 1)) hb rfl (by omega) dX6_init_182 kf_X6_7 (by decide) (gg rfl) hfs ?_
  refine pw_iconst_ (v := nI 4) dX6_init_185 (by decide) ?_
  refine pw_iconst_ (v := nI 4) dX6_init_186 (by decide) ?_
  refine pw_iload_n dX6_init_187 rfl ?_
  refine px_imuln (c := 8) dX6_init_188 rfl ?_
  refine px_iaddn (c := 12) dX6_init_189 rfl ?_
  refine pw_iconst_ (v := nI 0) dX6_init_190 (by decide) ?_
  refine px_iaddn (c := 12) dX6_init_191 rfl ?_
  refine pw_iconst_ (v := nI 2) dX6_init_192 (by decide) ?_
  refine pw_iload_n dX6_init_193 rfl ?_
  refine px_imuln (c := 4) dX6_init_194 rfl ?_
  refine pa_iast (L' := [(6, fs), (100, ((((((((zz).set 0 (.int (nI 10))).set 1 (.int (nI 200))).set 2 (.int (nI 2))).set 4 (.int (nI 0))).set 6 (.int (nI 5))).set 8 (.int (nI 2))).set 10 (.int (nI 5))).set 12 (.int (nI 4)))] ++ Y) (j := 1) (k := 12) hb rfl dX6_init_195 (gg rfl) rfl (by decide) (by simp only [List.length_set, l108] <;> decide) (gw (Nat.le_of_ble_eq_true rfl) rfl) ?_
  refine pw_aload_n dX6_init_196 rfl ?_
  refine pa_getf (j := 0) (v := .ref (b + 1)) hb rfl (by omega) dX6_init_197 kf_X6_7 (by decide) (gg rfl) hfs ?_
  refine pw_iconst_ (v := nI 4) dX6_init_200 (by decide) ?_
  refine pw_iconst_ (v := nI 4) dX6_init_201 (by decide) ?_
  refine pw_iload_n dX6_init_202 rfl ?_
  refine px_imuln (c := 8) dX6_init_203 rfl ?_
  refine px_iaddn (c := 12) dX6_init_204 rfl ?_
  refine pw_iconst_ (v := nI 2) dX6_init_205 (by decide) ?_
  refine px_iaddn (c := 14) dX6_init_206 rfl ?_
  refine pw_iconst_ (v := nI 5) dX6_init_207 (by decide) ?_
  refine pa_iast (L' := [(6, fs), (100, (((((((((zz).set 0 (.int (nI 10))).set 1 (.int (nI 200))).set 2 (.int (nI 2))).set 4 (.int (nI 0))).set 6 (.int (nI 5))).set 8 (.int (nI 2))).set 10 (.int (nI 5))).set 12 (.int (nI 4))).set 14 (.int (nI 5)))] ++ Y) (j := 1) (k := 14) hb rfl dX6_init_208 (gg rfl) rfl (by decide) (by simp only [List.length_set, l108] <;> decide) (gw (Nat.le_of_ble_eq_true rfl) rfl) ?_
  refine px_iincn (n := 1) (a := 2) (b := 3) (ls' := [some (.ref b), some (.int (nI 3))]) dX6_init_209 rfl rfl rfl rfl ?_
  refine pw_goto (tgt := 175) dX6_init_212 (by decide) ?_
  refine pw_iload_n dX6_init_175 rfl ?_
  refine pw_bipush (v := nI 8) dX6_init_176 (by decide) ?_
  refine pn_ge (tgt := 215) dX6_init_178 (by decide) (by decide) (by decide) (fun h9 => absurd h9 (by decide)) (fun _ => ?_)
  refine pw_aload_n dX6_init_181 rfl ?_
  refine pa_getf (j := 0) (v := .ref (b + 1)) hb rfl (by omega) dX6_init_182 kf_X6_7 (by decide) (gg rfl) hfs ?_
  refine pw_iconst_ (v := nI 4) dX6_init_185 (by decide) ?_
  refine pw_iconst_ (v := nI 4) dX6_init_186 (by decide) ?_
  refine pw_iload_n dX6_init_187 rfl ?_
  refine px_imuln (c := 12) dX6_init_188 rfl ?_
  refine px_iaddn (c := 16) dX6_init_189 rfl ?_
  refine pw_iconst_ (v := nI 0) dX6_init_190 (by decide) ?_
  refine px_iaddn (c := 16) dX6_init_191 rfl ?_
  refine pw_iconst_ (v := nI 2) dX6_init_192 (by decide) ?_
  refine pw_iload_n dX6_init_193 rfl ?_
  refine px_imuln (c := 6) dX6_init_194 rfl ?_
  refine pa_iast (L' := [(6, fs), (100, ((((((((((zz).set 0 (.int (nI 10))).set 1 (.int (nI 200))).set 2 (.int (nI 2))).set 4 (.int (nI 0))).set 6 (.int (nI 5))).set 8 (.int (nI 2))).set 10 (.int (nI 5))).set 12 (.int (nI 4))).set 14 (.int (nI 5))).set 16 (.int (nI 6)))] ++ Y) (j := 1) (k := 16) hb rfl dX6_init_195 (gg rfl) rfl (by decide) (by simp only [List.length_set, l108] <;> decide) (gw (Nat.le_of_ble_eq_true rfl) rfl) ?_
  refine pw_aload_n dX6_init_196 rfl ?_
  refine pa_getf (j := 0) (v := .ref (b + 1)) hb rfl (by omega) dX6_init_197 kf_X6_7 (by decide) (gg rfl) hfs ?_
  refine pw_iconst_ (v := nI 4) dX6_init_200 (by decide) ?_
  refine pw_iconst_ (v := nI 4) dX6_init_201 (by decide) ?_
  refine pw_iload_n dX6_init_202 rfl ?_
  refine px_imuln (c := 12) dX6_init_203 rfl ?_
  refine px_iaddn (c := 16) dX6_init_204 rfl ?_
  refine pw_iconst_ (v := nI 2) dX6_init_205 (by decide) ?_
  refine px_iaddn (c := 18) dX6_init_206 rfl ?_
  refine pw_iconst_ (v := nI 5) dX6_init_207 (by decide) ?_
  refine pa_iast (L' := [(6, fs), (100, (((((((((((zz).set 0 (.int (nI 10))).set 1 (.int (nI 200))).set 2 (.int (nI 2))).set 4 (.int (nI 0))).set 6 (.int (nI 5))).set 8 (.int (nI 2))).set 10 (.int (nI 5))).set 12 (.int (nI 4))).set 14 (.int (nI 5))).set 16 (.int (nI 6))).set 18 (.int (nI 5)))] ++ Y) (j := 1) (k := 18) hb rfl dX6_init_208 (gg rfl) rfl (by decide) (by simp only [List.length_set, l108] <;> decide) (gw (Nat.le_of_ble_eq_true rfl) rfl) ?_
  refine px_iincn (n := 1) (a := 3) (b := 4) (ls' := [some (.ref b), some (.int (nI 4))]) dX6_init_209 rfl rfl rfl rfl ?_
  refine pw_goto (tgt := 175) dX6_init_212 (by decide) ?_
  refine pw_iload_n dX6_init_175 rfl ?_
  refine pw_bipush (v := nI 8) dX6_init_176 (by decide) ?_
  refine pn_ge (tgt := 215) dX6_init_178 (by decide) (by decide) (by decide) (fun h9 => absurd h9 (by decide)) (fun _ => ?_)
  refine pw_aload_n dX6_init_181 rfl ?_
  refine pa_getf (j := 0) (v := .ref (b + 1)) hb rfl (by omega) dX6_init_182 kf_X6_7 (by decide) (gg rfl) hfs ?_
  refine pw_iconst_ (v := nI 4) dX6_init_185 (by decide) ?_
  refine pw_iconst_ (v := nI 4) dX6_init_186 (by decide) ?_
  refine pw_iload_n dX6_init_187 rfl ?_
  refine px_imuln (c := 16) dX6_init_188 rfl ?_
  refine px_iaddn (c := 20) dX6_init_189 rfl ?_
  refine pw_iconst_ (v := nI 0) dX6_init_190 (by decide) ?_
  refine px_iaddn (c := 20) dX6_init_191 rfl ?_
  refine pw_iconst_ (v := nI 2) dX6_init_192 (by decide) ?_
  refine pw_iload_n dX6_init_193 rfl ?_
  refine px_imuln (c := 8) dX6_init_194 rfl ?_
  refine pa_iast (L' := [(6, fs), (100, ((((((((((((zz).set 0 (.int (nI 10))).set 1 (.int (nI 200))).set 2 (.int (nI 2))).set 4 (.int (nI 0))).set 6 (.int (nI 5))).set 8 (.int (nI 2))).set 10 (.int (nI 5))).set 12 (.int (nI 4))).set 14 (.int (nI 5))).set 16 (.int (nI 6))).set 18 (.int (nI 5))).set 20 (.int (nI 8)))] ++ Y) (j := 1) (k := 20) hb rfl dX6_init_195 (gg rfl) rfl (by decide) (by simp only [List.length_set, l108] <;> decide) (gw (Nat.le_of_ble_eq_true rfl) rfl) ?_
  refine pw_aload_n dX6_init_196 rfl ?_
  refine pa_getf (j := 0) (v := .ref (b + 1)) hb rfl (by omega) dX6_init_197 kf_X6_7 (by decide) (gg rfl) hfs ?_
  refine pw_iconst_ (v := nI 4) dX6_init_200 (by decide) ?_
  refine pw_iconst_ (v := nI 4) dX6_init_201 (by decide) ?_
  refine pw_iload_n dX6_init_202 rfl ?_
  refine px_imuln (c := 16) dX6_init_203 rfl ?_
  refine px_iaddn (c := 20) dX6_init_204 rfl ?_
  refine pw_iconst_ (v := nI 2) dX6_init_205 (by decide) ?_
  refine px_iaddn (c := 22) dX6_init_206 rfl ?_
  refine pw_iconst_ (v := nI 5) dX6_init_207 (by decide) ?_
  refine pa_iast (L' := [(6, fs), (100, (((((((((((((zz).set 0 (.int (nI 10))).set 1 (.int (nI 200))).set 2 (.int (nI 2))).set 4 (.int (nI 0))).set 6 (.int (nI 5))).set 8 (.int (nI 2))).set 10 (.int (nI 5))).set 12 (.int (nI 4))).set 14 (.int (nI 5))).set 16 (.int (nI 6))).set 18 (.int (nI 5))).set 20 (.int (nI 8))).set 22 (.int (nI 5)))] ++ Y) (j := 1) (k := 22) hb rfl dX6_init_208 (gg rfl) rfl (by decide) (by simp only [List.length_set, l108] <;> decide) (gw (Nat.le_of_ble_eq_true rfl) rfl) ?_
  refine px_iincn (n := 1) (a := 4) (b := 5) (ls' := [some (.ref b), some (.int (nI 5))]) dX6_init_209 rfl rfl rfl rfl ?_
  refine pw_goto (tgt := 175) dX6_init_212 (by decide) ?_
  refine pw_iload_n dX6_init_175 rfl ?_
  refine pw_bipush (v := nI 8) dX6_init_176 (by decide) ?_
  refine pn_ge (tgt := 215) dX6_init_178 (by decide) (by decide) (by decide) (fun h9 => absurd h9 (by decide)) (fun _ => ?_)
  refine pw_aload_n dX6_init_181 rfl ?_
  refine pa_getf (j := 0) (v := .ref (b + 1)) hb rfl (by omega) dX6_init_182 kf_X6_7 (by decide) (gg rfl) hfs ?_
  refine pw_iconst_ (v := nI 4) dX6_init_185 (by decide) ?_
  refine pw_iconst_ (v := nI 4) dX6_init_186 (by decide) ?_
  refine pw_iload_n dX6_init_187 rfl ?_
  refine px_imuln (c := 20) dX6_init_188 rfl ?_
  refine px_iaddn (c := 24) dX6_init_189 rfl ?_
  refine pw_iconst_ (v := nI 0) dX6_init_190 (by decide) ?_
  refine px_iaddn (c := 24) dX6_init_191 rfl ?_
  refine pw_iconst_ (v := nI 2) dX6_init_192 (by decide) ?_
  refine pw_iload_n dX6_init_193 rfl ?_
  refine px_imuln (c := 10) dX6_init_194 rfl ?_
  refine pa_iast (L' := [(6, fs), (100, ((((((((((((((zz).set 0 (.int (nI 10))).set 1 (.int (nI 200))).set 2 (.int (nI 2))).set 4 (.int (nI 0))).set 6 (.int (nI 5))).set 8 (.int (nI 2))).set 10 (.int (nI 5))).set 12 (.int (nI 4))).set 14 (.int (nI 5))).set 16 (.int (nI 6))).set 18 (.int (nI 5))).set 20 (.int (nI 8))).set 22 (.int (nI 5))).set 24 (.int (nI 10)))] ++ Y) (j := 1) (k := 24) hb rfl dX6_init_195 (gg rfl) rfl (by decide) (by simp only [List.length_set, l108] <;> decide) (gw (Nat.le_of_ble_eq_true rfl) rfl) ?_
  refine pw_aload_n dX6_init_196 rfl ?_
  refine pa_getf (j := 0) (v := .ref (b + 1)) hb rfl (by omega) dX6_init_197 kf_X6_7 (by decide) (gg rfl) hfs ?_
  refine pw_iconst_ (v := nI 4) dX6_init_200 (by decide) ?_
  refine pw_iconst_ (v := nI 4) dX6_init_201 (by decide) ?_
  refine pw_iload_n dX6_init_202 rfl ?_
  refine px_imuln (c := 20) dX6_init_203 rfl ?_
  refine px_iaddn (c := 24) dX6_init_204 rfl ?_
  refine pw_iconst_ (v := nI 2) dX6_init_205 (by decide) ?_
  refine px_iaddn (c := 26) dX6_init_206 rfl ?_
  refine pw_iconst_ (v := nI 5) dX6_init_207 (by decide) ?_
  refine pa_iast (L' := [(6, fs), (100, (((((((((((((((zz).set 0 (.int (nI 10))).set 1 (.int (nI 200))).set 2 (.int (nI 2))).set 4 (.int (nI 0))).set 6 (.int (nI 5))).set 8 (.int (nI 2))).set 10 (.int (nI 5))).set 12 (.int (nI 4))).set 14 (.int (nI 5))).set 16 (.int (nI 6))).set 18 (.int (nI 5))).set 20 (.int (nI 8))).set 22 (.int (nI 5))).set 24 (.int (nI 10))).set 26 (.int (nI 5)))] ++ Y) (j := 1) (k := 26) hb rfl dX6_init_208 (gg rfl) rfl (by decide) (by simp only [List.length_set, l108] <;> decide) (gw (Nat.le_of_ble_eq_true rfl) rfl) ?_
  refine px_iincn (n := 1) (a := 5) (b := 6) (ls' := [some (.ref b), some (.int (nI 6))]) dX6_init_209 rfl rfl rfl rfl ?_
  refine pw_goto (tgt := 175) dX6_init_212 (by decide) ?_
  refine pw_iload_n dX6_init_175 rfl ?_
  refine pw_bipush (v := nI 8) dX6_init_176 (by decide) ?_
  refine pn_ge (tgt := 215) dX6_init_178 (by decide) (by decide) (by decide) (fun h9 => absurd h9 (by decide)) (fun _ => ?_)
  refine pw_aload_n dX6_init_181 rfl ?_
  refine pa_getf (j := 0) (v := .ref (b + 1)) hb rfl (by omega) dX6_init_182 kf_X6_7 (by decide) (gg rfl) hfs ?_
  refine pw_iconst_ (v := nI 4) dX6_init_185 (by decide) ?_
  refine pw_iconst_ (v := nI 4) dX6_init_186 (by decide) ?_
  refine pw_iload_n dX6_init_187 rfl ?_
  refine px_imuln (c := 24) dX6_init_188 rfl ?_
  refine px_iaddn (c := 28) dX6_init_189 rfl ?_
  refine pw_iconst_ (v := nI 0) dX6_init_190 (by decide) ?_
  refine px_iaddn (c := 28) dX6_init_191 rfl ?_
  refine pw_iconst_ (v := nI 2) dX6_init_192 (by decide) ?_
  refine pw_iload_n dX6_init_193 rfl ?_
  refine px_imuln (c := 12) dX6_init_194 rfl ?_
  refine pa_iast (L' := [(6, fs), (100, ((((((((((((((((zz).set 0 (.int (nI 10))).set 1 (.int (nI 200))).set 2 (.int (nI 2))).set 4 (.int (nI 0))).set 6 (.int (nI 5))).set 8 (.int (nI 2))).set 10 (.int (nI 5))).set 12 (.int (nI 4))).set 14 (.int (nI 5))).set 16 (.int (nI 6))).set 18 (.int (nI 5))).set 20 (.int (nI 8))).set 22 (.int (nI 5))).set 24 (.int (nI 10))).set 26 (.int (nI 5))).set 28 (.int (nI 12)))] ++ Y) (j := 1) (k := 28) hb rfl dX6_init_195 (gg rfl) rfl (by decide) (by simp only [List.length_set, l108] <;> decide) (gw (Nat.le_of_ble_eq_true rfl) rfl) ?_
  refine pw_aload_n dX6_init_196 rfl ?_
  refine pa_getf (j := 0) (v := .ref (b + 1)) hb rfl (by omega) dX6_init_197 kf_X6_7 (by decide) (gg rfl) hfs ?_
  refine pw_iconst_ (v := nI 4) dX6_init_200 (by decide) ?_
  refine pw_iconst_ (v := nI 4) dX6_init_201 (by decide) ?_
  refine pw_iload_n dX6_init_202 rfl ?_
  refine px_imuln (c := 24) dX6_init_203 rfl ?_
  refine px_iaddn (c := 28) dX6_init_204 rfl ?_
  refine pw_iconst_ (v := nI 2) dX6_init_205 (by decide) ?_
  refine px_iaddn (c := 30) dX6_init_206 rfl ?_
  refine pw_iconst_ (v := nI 5) dX6_init_207 (by decide) ?_
  refine pa_iast (L' := [(6, fs), (100, (((((((((((((((((zz).set 0 (.int (nI 10))).set 1 (.int (nI 200))).set 2 (.int (nI 2))).set 4 (.int (nI 0))).set 6 (.int (nI 5))).set 8 (.int (nI 2))).set 10 (.int (nI 5))).set 12 (.int (nI 4))).set 14 (.int (nI 5))).set 16 (.int (nI 6))).set 18 (.int (nI 5))).set 20 (.int (nI 8))).set 22 (.int (nI 5))).set 24 (.int (nI 10))).set 26 (.int (nI 5))).set 28 (.int (nI 12))).set 30 (.int (nI 5)))] ++ Y) (j := 1) (k := 30) hb rfl dX6_init_208 (gg rfl) rfl (by decide) (by simp only [List.length_set, l108] <;> decide) (gw (Nat.le_of_ble_eq_true rfl) rfl) ?_
  refine px_iincn (n := 1) (a := 6) (b := 7) (ls' := [some (.ref b), some (.int (nI 7))]) dX6_init_209 rfl rfl rfl rfl ?_
  refine pw_goto (tgt := 175) dX6_init_212 (by decide) ?_
  refine pw_iload_n dX6_init_175 rfl ?_
  refine pw_bipush (v := nI 8) dX6_init_176 (by decide) ?_
  refine pn_ge (tgt := 215) dX6_init_178 (by decide) (by decide) (by decide) (fun h9 => absurd h9 (by decide)) (fun _ => ?_)
  refine pw_aload_n dX6_init_181 rfl ?_
  refine pa_getf (j := 0) (v := .ref (b + 1)) hb rfl (by omega) dX6_init_182 kf_X6_7 (by decide) (gg rfl) hfs ?_
  refine pw_iconst_ (v := nI 4) dX6_init_185 (by decide) ?_
  refine pw_iconst_ (v := nI 4) dX6_init_186 (by decide) ?_
  refine pw_iload_n dX6_init_187 rfl ?_
  refine px_imuln (c := 28) dX6_init_188 rfl ?_
  refine px_iaddn (c := 32) dX6_init_189 rfl ?_
  refine pw_iconst_ (v := nI 0) dX6_init_190 (by decide) ?_
  refine px_iaddn (c := 32) dX6_init_191 rfl ?_
  refine pw_iconst_ (v := nI 2) dX6_init_192 (by decide) ?_
  refine pw_iload_n dX6_init_193 rfl ?_
  refine px_imuln (c := 14) dX6_init_194 rfl ?_
  refine pa_iast (L' := [(6, fs), (100, ((((((((((((((((((zz).set 0 (.int (nI 10))).set 1 (.int (nI 200))).set 2 (.int (nI 2))).set 4 (.int (nI 0))).set 6 (.int (nI 5))).set 8 (.int (nI 2))).set 10 (.int (nI 5))).set 12 (.int (nI 4))).set 14 (.int (nI 5))).set 16 (.int (nI 6))).set 18 (.int (nI 5))).set 20 (.int (nI 8))).set 22 (.int (nI 5))).set 24 (.int (nI 10))).set 26 (.int (nI 5))).set 28 (.int (nI 12))).set 30 (.int (nI 5))).set 32 (.int (nI 14)))] ++ Y) (j := 1) (k := 32) hb rfl dX6_init_195 (gg rfl) rfl (by decide) (by simp only [List.length_set, l108] <;> decide) (gw (Nat.le_of_ble_eq_true rfl) rfl) ?_
  refine pw_aload_n dX6_init_196 rfl ?_
  refine pa_getf (j := 0) (v := .ref (b + 1)) hb rfl (by omega) dX6_init_197 kf_X6_7 (by decide) (gg rfl) hfs ?_
  refine pw_iconst_ (v := nI 4) dX6_init_200 (by decide) ?_
  refine pw_iconst_ (v := nI 4) dX6_init_201 (by decide) ?_
  refine pw_iload_n dX6_init_202 rfl ?_
  refine px_imuln (c := 28) dX6_init_203 rfl ?_
  refine px_iaddn (c := 32) dX6_init_204 rfl ?_
  refine pw_iconst_ (v := nI 2) dX6_init_205 (by decide) ?_
  refine px_iaddn (c := 34) dX6_init_206 rfl ?_
  refine pw_iconst_ (v := nI 5) dX6_init_207 (by decide) ?_
  refine pa_iast (L' := [(6, fs), (100, (((((((((((((((((((zz).set 0 (.int (nI 10))).set 1 (.int (nI 200))).set 2 (.int (nI 2))).set 4 (.int (nI 0))).set 6 (.int (nI 5))).set 8 (.int (nI 2))).set 10 (.int (nI 5))).set 12 (.int (nI 4))).set 14 (.int (nI 5))).set 16 (.int (nI 6))).set 18 (.int (nI 5))).set 20 (.int (nI 8))).set 22 (.int (nI 5))).set 24 (.int (nI 10))).set 26 (.int (nI 5))).set 28 (.int (nI 12))).set 30 (.int (nI 5))).set 32 (.int (nI 14))).set 34 (.int (nI 5)))] ++ Y) (j := 1) (k := 34) hb rfl dX6_init_208 (gg rfl) rfl (by decide) (by simp only [List.length_set, l108] <;> decide) (gw (Nat.le_of_ble_eq_true rfl) rfl) ?_
  refine px_iincn (n := 1) (a := 7) (b := 8) (ls' := [some (.ref b), some (.int (nI 8))]) dX6_init_209 rfl rfl rfl rfl ?_
  refine pw_goto (tgt := 175) dX6_init_212 (by decide) ?_
  refine pw_iload_n dX6_init_175 rfl ?_
  refine pw_bipush (v := nI 8) dX6_init_176 (by decide) ?_
  refine pn_ge (tgt := 215) dX6_init_178 (by decide) (by decide) (by decide) (fun _ => ?_) (fun h9 => absurd h9 (by decide))
  exact pw_return dX6_init_215 rfl (by rw [← hN]; simp) (by rw [← hZ]; simp only [kv_sum_app2, kv_sum_cons, kv_sum_nil, List.length_set]) hf
end MAKE4
def MBK (b : Nat) : List PE := [(6, ((((((((((((((((((fz6).set 0 (.ref (b + 1))).set 1 (.ref (b + 2))).set 2 (.ref (b + 3))).set 3 (.ref (b + 4))).set 4 (.ref (b + 5))).set 5 (.ref (b + 6))).set 7 (.ref (b + 7))).set 10 (.ref (b + 8))).set 11 (.ref (b + 9))).set 14 (.ref (b + 10))).set 15 (.ref (b + 11))).set 16 (.ref (b + 12))).set 17 (.ref (b + 13))).set 18 (.ref (b + 14))).set 19 (.ref (b + 15))).set 20 (.ref (b + 16))).set 21 (.ref (b + 17))).set 22 (.ref (b + 18))), (100, RWK (List.replicate 108 (.int 0)))] ++ (((((((((((((((([(100, List.replicate 648 (.int 0))] ++ [(100, List.replicate 108 (.int 0))]) ++ [(100, List.replicate 108 (.int 0))]) ++ [(100, List.replicate 216 (.int 0))]) ++ [(102, List.replicate 2 (.int 0))]) ++ [(100, List.replicate 20 (.int 0))]) ++ [(100, List.replicate 8 (.int 0))]) ++ [(100, List.replicate 8 (.int 0))]) ++ [(100, List.replicate 6 (.int 0))]) ++ [(100, List.replicate 48 (.int 0))]) ++ [(100, List.replicate 48 (.int 0))]) ++ [(100, List.replicate 48 (.int 0))]) ++ [(100, List.replicate 48 (.int 0))]) ++ [(100, List.replicate 48 (.int 0))]) ++ [(100, List.replicate 6 (.int 0))]) ++ [(100, List.replicate 6 (.int 0))]) ++ [(100, List.replicate 8 (.int 0))])
section MAKE5
variable {l : Launch} {E : EV} {D : va_G} {cA : Nat → ClassId} {N Z : Nat} {X : MT} {d : Nat} {fin : Option Value → List PE → Prop} {pc : Nat} {ls : List (Option Value)} {st : List Value} {M0 L L' S : List PE} {b z : Nat}
set_option maxRecDepth 100000 in
set_option maxHeartbeats 8000000 in
theorem k_Model (hb : M0.length = b) (hz : kv_sum M0 = z) (hb9 : b + 19 ≤ 1000) (hf : fin none (M0 ++ MBK b)) : PW l E D cA (b + 19) (z + 1515) mX6_init (d + 1) fin 0 [some (.ref b), none] [] (M0 ++ [(6, fz6)]) := by
  obtain ⟨f6, hf6⟩ : ∃ x : List Value, x = fz6 := ⟨_, rfl⟩
  have lf : f6.length = 23 := by rw [hf6]; rfl
  rw [← hf6]
  obtain ⟨z108, h108⟩ : ∃ x : List Value, x = List.replicate 108 (.int 0) := ⟨_, rfl⟩
  have l108 : z108.length = 108 := by rw [h108]; exact List.length_replicate
  obtain ⟨z648, h648⟩ : ∃ x : List Value, x = List.replicate 648 (.int 0) := ⟨_, rfl⟩
  have l648 : z648.length = 648 := by rw [h648]; exact List.length_replicate
  obtain ⟨z216, h216⟩ : ∃ x : List Value, x = List.replicate 216 (.int 0) := ⟨_, rfl⟩
  have l216 : z216.length = 216 := by rw [h216]; exact List.length_replicate
  obtain ⟨z48, h48⟩ : ∃ x : List Value, x = List.replicate 48 (.int 0) := ⟨_, rfl⟩
  have l48 : z48.length = 48 := by rw [h48]; exact List.length_replicate
  obtain ⟨z20, h20⟩ : ∃ x : List Value, x = List.replicate 20 (.int 0) := ⟨_, rfl⟩
  have l20 : z20.length = 20 := by rw [h20]; exact List.length_replicate
  obtain ⟨z8, h8⟩ : ∃ x : List Value, x = List.replicate 8 (.int 0) := ⟨_, rfl⟩
  have l8 : z8.length = 8 := by rw [h8]; exact List.length_replicate
  obtain ⟨z6, h6⟩ : ∃ x : List Value, x = List.replicate 6 (.int 0) := ⟨_, rfl⟩
  have l6 : z6.length = 6 := by rw [h6]; exact List.length_replicate
  refine pw_aload_n dX6_init_0 rfl ?_
  refine pw_objInit dX6_init_1 co_X6_1 co_inst co_code (Nat.le_of_ble_eq_true rfl) ?_
  refine pw_aload_n dX6_init_4 rfl ?_
  refine pw_bipush (v := nI 108) dX6_init_5 (by decide) ?_
  have hA1 : (M0 ++ ([(6, f6)] : List PE)).length = b + 1 := pa_len hb (by simp only [-List.reduceReplicate, List.length_append, List.length_cons, List.length_nil, List.length_set] <;> omega)
  have hS1 : kv_sum (M0 ++ ([(6, f6)] : List PE)) = z + 23 := pa_sum hz (by simp only [-List.reduceReplicate, kv_sum_app2, kv_sum_cons, kv_sum_nil, l108, l648, l216, l48, l20, l8, l6, lf, List.length_cons, List.length_nil, List.length_replicate, List.length_set] <;> omega)
  refine pa_arr (L' := [(6, f6), (100, z108)]) (t := 0) (k := 108) hA1 hS1 dX6_init_7 (by simp) ak_int rfl (by decide) (by clear hA1 hS1; omega) (by clear hA1 hS1; omega) (by clear hA1 hS1; omega) (ga0 h108) ?_
  clear hA1 hS1
  refine pa_putf (L' := [(6, (f6).set 0 (.ref (b + 1))), (100, z108)]) (j := 0) hb rfl dX6_init_9 kf_X6_7 (by decide) rfl (by simp only [List.length_set, lf] <;> decide) (fun q hq => by cases hq; exact ⟨tyX6 0, by decide +kernel, rfl, rfl⟩) (fun q hq => by cases hq; exact Or.inr ⟨rfl, rfl, rfl⟩) rfl ?_
  refine pw_aload_n dX6_init_12 rfl ?_
  refine pw_sipush (v := nI 648) dX6_init_13 (by decide) ?_
  have hA2 : (M0 ++ ([(6, (f6).set 0 (.ref (b + 1))), (100, z108)] : List PE)).length = b + 2 := pa_len hb (by simp only [-List.reduceReplicate, List.length_append, List.length_cons, List.length_nil, List.length_set] <;> omega)
  have hS2 : kv_sum (M0 ++ ([(6, (f6).set 0 (.ref (b + 1))), (100, z108)] : List PE)) = z + 131 := pa_sum hz (by simp only [-List.reduceReplicate, kv_sum_app2, kv_sum_cons, kv_sum_nil, l108, l648, l216, l48, l20, l8, l6, lf, List.length_cons, List.length_nil, List.length_replicate, List.length_set] <;> omega)
  refine pa_arr (L' := [(6, (f6).set 0 (.ref (b + 1))), (100, z108)] ++ [(100, z648)]) (t := 0) (k := 648) hA2 hS2 dX6_init_16 (by simp) ak_int rfl (by decide) (by clear hA2 hS2; omega) (by clear hA2 hS2; omega) (by clear hA2 hS2; omega) (ga0 h648) ?_
  clear hA2 hS2
  refine pa_putf (L' := [(6, ((f6).set 0 (.ref (b + 1))).set 1 (.ref (b + 2))), (100, z108)] ++ [(100, z648)]) (j := 0) hb rfl dX6_init_18 kf_X6_13 (by decide) (gg rfl) (by simp only [List.length_set, lf] <;> decide) (fun q hq => by cases hq; exact ⟨tyX6 1, by decide +kernel, rfl, rfl⟩) (fun q hq => by cases hq; exact Or.inr ⟨rfl, rfl, rfl⟩) (gw (Nat.le_of_ble_eq_true rfl) rfl) ?_
  refine pw_aload_n dX6_init_21 rfl ?_
  refine pw_bipush (v := nI 108) dX6_init_22 (by decide) ?_
  have hA3 : (M0 ++ ([(6, ((f6).set 0 (.ref (b + 1))).set 1 (.ref (b + 2))), (100, z108)] ++ [(100, z648)] : List PE)).length = b + 3 := pa_len hb (by simp only [-List.reduceReplicate, List.length_append, List.length_cons, List.length_nil, List.length_set] <;> omega)
  have hS3 : kv_sum (M0 ++ ([(6, ((f6).set 0 (.ref (b + 1))).set 1 (.ref (b + 2))), (100, z108)] ++ [(100, z648)] : List PE)) = z + 779 := pa_sum hz (by simp only [-List.reduceReplicate, kv_sum_app2, kv_sum_cons, kv_sum_nil, l108, l648, l216, l48, l20, l8, l6, lf, List.length_cons, List.length_nil, List.length_replicate, List.length_set] <;> omega)
  refine pa_arr (L' := [(6, ((f6).set 0 (.ref (b + 1))).set 1 (.ref (b + 2))), (100, z108)] ++ ([(100, z648)] ++ [(100, z108)])) (t := 0) (k := 108) hA3 hS3 dX6_init_24 (by simp) ak_int rfl (by decide) (by clear hA3 hS3; omega) (by clear hA3 hS3; omega) (by clear hA3 hS3; omega) (ga h108) ?_
  clear hA3 hS3
  refine pa_putf (L' := [(6, (((f6).set 0 (.ref (b + 1))).set 1 (.ref (b + 2))).set 2 (.ref (b + 3))), (100, z108)] ++ ([(100, z648)] ++ [(100, z108)])) (j := 0) hb rfl dX6_init_26 kf_X6_16 (by decide) (gg rfl) (by simp only [List.length_set, lf] <;> decide) (fun q hq => by cases hq; exact ⟨tyX6 2, by decide +kernel, rfl, rfl⟩) (fun q hq => by cases hq; exact Or.inr ⟨rfl, rfl, rfl⟩) (gw (Nat.le_of_ble_eq_true rfl) rfl) ?_
  refine pw_aload_n dX6_init_29 rfl ?_
  refine pw_bipush (v := nI 108) dX6_init_30 (by decide) ?_
  have hA4 : (M0 ++ ([(6, (((f6).set 0 (.ref (b + 1))).set 1 (.ref (b + 2))).set 2 (.ref (b + 3))), (100, z108)] ++ ([(100, z648)] ++ [(100, z108)]) : List PE)).length = b + 4 := pa_len hb (by simp only [-List.reduceReplicate, List.length_append, List.length_cons, List.length_nil, List.length_set] <;> omega)
  have hS4 : kv_sum (M0 ++ ([(6, (((f6).set 0 (.ref (b + 1))).set 1 (.ref (b + 2))).set 2 (.ref (b + 3))), (100, z108)] ++ ([(100, z648)] ++ [(100, z108)]) : List PE)) = z + 887 := pa_sum hz (by simp only [-List.reduceReplicate, kv_sum_app2, kv_sum_cons, kv_sum_nil, l108, l648, l216, l48, l20, l8, l6, lf, List.length_cons, List.length_nil, List.length_replicate, List.length_set] <;> omega)
  refine pa_arr (L' := [(6, (((f6).set 0 (.ref (b + 1))).set 1 (.ref (b + 2))).set 2 (.ref (b + 3))), (100, z108)] ++ (([(100, z648)] ++ [(100, z108)]) ++ [(100, z108)])) (t := 0) (k := 108) hA4 hS4 dX6_init_32 (by simp) ak_int rfl (by decide) (by clear hA4 hS4; omega) (by clear hA4 hS4; omega) (by clear hA4 hS4; omega) (ga h108) ?_
  clear hA4 hS4
  refine pa_putf (L' := [(6, ((((f6).set 0 (.ref (b + 1))).set 1 (.ref (b + 2))).set 2 (.ref (b + 3))).set 3 (.ref (b + 4))), (100, z108)] ++ (([(100, z648)] ++ [(100, z108)]) ++ [(100, z108)])) (j := 0) hb rfl dX6_init_34 kf_X6_19 (by decide) (gg rfl) (by simp only [List.length_set, lf] <;> decide) (fun q hq => by cases hq; exact ⟨tyX6 3, by decide +kernel, rfl, rfl⟩) (fun q hq => by cases hq; exact Or.inr ⟨rfl, rfl, rfl⟩) (gw (Nat.le_of_ble_eq_true rfl) rfl) ?_
  refine pw_aload_n dX6_init_37 rfl ?_
  refine pw_sipush (v := nI 216) dX6_init_38 (by decide) ?_
  have hA5 : (M0 ++ ([(6, ((((f6).set 0 (.ref (b + 1))).set 1 (.ref (b + 2))).set 2 (.ref (b + 3))).set 3 (.ref (b + 4))), (100, z108)] ++ (([(100, z648)] ++ [(100, z108)]) ++ [(100, z108)]) : List PE)).length = b + 5 := pa_len hb (by simp only [-List.reduceReplicate, List.length_append, List.length_cons, List.length_nil, List.length_set] <;> omega)
  have hS5 : kv_sum (M0 ++ ([(6, ((((f6).set 0 (.ref (b + 1))).set 1 (.ref (b + 2))).set 2 (.ref (b + 3))).set 3 (.ref (b + 4))), (100, z108)] ++ (([(100, z648)] ++ [(100, z108)]) ++ [(100, z108)]) : List PE)) = z + 995 := pa_sum hz (by simp only [-List.reduceReplicate, kv_sum_app2, kv_sum_cons, kv_sum_nil, l108, l648, l216, l48, l20, l8, l6, lf, List.length_cons, List.length_nil, List.length_replicate, List.length_set] <;> omega)
  refine pa_arr (L' := [(6, ((((f6).set 0 (.ref (b + 1))).set 1 (.ref (b + 2))).set 2 (.ref (b + 3))).set 3 (.ref (b + 4))), (100, z108)] ++ ((([(100, z648)] ++ [(100, z108)]) ++ [(100, z108)]) ++ [(100, z216)])) (t := 0) (k := 216) hA5 hS5 dX6_init_41 (by simp) ak_int rfl (by decide) (by clear hA5 hS5; omega) (by clear hA5 hS5; omega) (by clear hA5 hS5; omega) (ga h216) ?_
  clear hA5 hS5
  refine pa_putf (L' := [(6, (((((f6).set 0 (.ref (b + 1))).set 1 (.ref (b + 2))).set 2 (.ref (b + 3))).set 3 (.ref (b + 4))).set 4 (.ref (b + 5))), (100, z108)] ++ ((([(100, z648)] ++ [(100, z108)]) ++ [(100, z108)]) ++ [(100, z216)])) (j := 0) hb rfl dX6_init_43 kf_X6_22 (by decide) (gg rfl) (by simp only [List.length_set, lf] <;> decide) (fun q hq => by cases hq; exact ⟨tyX6 4, by decide +kernel, rfl, rfl⟩) (fun q hq => by cases hq; exact Or.inr ⟨rfl, rfl, rfl⟩) (gw (Nat.le_of_ble_eq_true rfl) rfl) ?_
  refine pw_aload_n dX6_init_46 rfl ?_
  refine pw_iconst_ (v := nI 2) dX6_init_47 (by decide) ?_
  have hA6 : (M0 ++ ([(6, (((((f6).set 0 (.ref (b + 1))).set 1 (.ref (b + 2))).set 2 (.ref (b + 3))).set 3 (.ref (b + 4))).set 4 (.ref (b + 5))), (100, z108)] ++ ((([(100, z648)] ++ [(100, z108)]) ++ [(100, z108)]) ++ [(100, z216)]) : List PE)).length = b + 6 := pa_len hb (by simp only [-List.reduceReplicate, List.length_append, List.length_cons, List.length_nil, List.length_set] <;> omega)
  have hS6 : kv_sum (M0 ++ ([(6, (((((f6).set 0 (.ref (b + 1))).set 1 (.ref (b + 2))).set 2 (.ref (b + 3))).set 3 (.ref (b + 4))).set 4 (.ref (b + 5))), (100, z108)] ++ ((([(100, z648)] ++ [(100, z108)]) ++ [(100, z108)]) ++ [(100, z216)]) : List PE)) = z + 1211 := pa_sum hz (by simp only [-List.reduceReplicate, kv_sum_app2, kv_sum_cons, kv_sum_nil, l108, l648, l216, l48, l20, l8, l6, lf, List.length_cons, List.length_nil, List.length_replicate, List.length_set] <;> omega)
  refine pa_arr (L' := [(6, (((((f6).set 0 (.ref (b + 1))).set 1 (.ref (b + 2))).set 2 (.ref (b + 3))).set 3 (.ref (b + 4))).set 4 (.ref (b + 5))), (100, z108)] ++ (((([(100, z648)] ++ [(100, z108)]) ++ [(100, z108)]) ++ [(100, z216)]) ++ [(102, List.replicate 2 (.int 0))])) (t := 2) (k := 2) hA6 hS6 dX6_init_48 (by simp) ak_bool rfl (by decide) (by clear hA6 hS6; omega) (by clear hA6 hS6; omega) (by clear hA6 hS6; omega) (List.append_assoc _ _ _) ?_
  clear hA6 hS6
  refine pa_putf (L' := [(6, ((((((f6).set 0 (.ref (b + 1))).set 1 (.ref (b + 2))).set 2 (.ref (b + 3))).set 3 (.ref (b + 4))).set 4 (.ref (b + 5))).set 5 (.ref (b + 6))), (100, z108)] ++ (((([(100, z648)] ++ [(100, z108)]) ++ [(100, z108)]) ++ [(100, z216)]) ++ [(102, List.replicate 2 (.int 0))])) (j := 0) hb rfl dX6_init_50 kf_X6_25 (by decide) (gg rfl) (by simp only [List.length_set, lf] <;> decide) (fun q hq => by cases hq; exact ⟨tyX6 5, by decide +kernel, rfl, rfl⟩) (fun q hq => by cases hq; exact Or.inr ⟨rfl, rfl, rfl⟩) (gw (Nat.le_of_ble_eq_true rfl) rfl) ?_
  refine pw_aload_n dX6_init_53 rfl ?_
  refine pw_bipush (v := nI 20) dX6_init_54 (by decide) ?_
  have hA7 : (M0 ++ ([(6, ((((((f6).set 0 (.ref (b + 1))).set 1 (.ref (b + 2))).set 2 (.ref (b + 3))).set 3 (.ref (b + 4))).set 4 (.ref (b + 5))).set 5 (.ref (b + 6))), (100, z108)] ++ (((([(100, z648)] ++ [(100, z108)]) ++ [(100, z108)]) ++ [(100, z216)]) ++ [(102, List.replicate 2 (.int 0))]) : List PE)).length = b + 7 := pa_len hb (by simp only [-List.reduceReplicate, List.length_append, List.length_cons, List.length_nil, List.length_set] <;> omega)
  have hS7 : kv_sum (M0 ++ ([(6, ((((((f6).set 0 (.ref (b + 1))).set 1 (.ref (b + 2))).set 2 (.ref (b + 3))).set 3 (.ref (b + 4))).set 4 (.ref (b + 5))).set 5 (.ref (b + 6))), (100, z108)] ++ (((([(100, z648)] ++ [(100, z108)]) ++ [(100, z108)]) ++ [(100, z216)]) ++ [(102, List.replicate 2 (.int 0))]) : List PE)) = z + 1213 := pa_sum hz (by simp only [-List.reduceReplicate, kv_sum_app2, kv_sum_cons, kv_sum_nil, l108, l648, l216, l48, l20, l8, l6, lf, List.length_cons, List.length_nil, List.length_replicate, List.length_set] <;> omega)
  refine pa_arr (L' := [(6, ((((((f6).set 0 (.ref (b + 1))).set 1 (.ref (b + 2))).set 2 (.ref (b + 3))).set 3 (.ref (b + 4))).set 4 (.ref (b + 5))).set 5 (.ref (b + 6))), (100, z108)] ++ ((((([(100, z648)] ++ [(100, z108)]) ++ [(100, z108)]) ++ [(100, z216)]) ++ [(102, List.replicate 2 (.int 0))]) ++ [(100, z20)])) (t := 0) (k := 20) hA7 hS7 dX6_init_56 (by simp) ak_int rfl (by decide) (by clear hA7 hS7; omega) (by clear hA7 hS7; omega) (by clear hA7 hS7; omega) (ga h20) ?_
  clear hA7 hS7
  refine pa_putf (L' := [(6, (((((((f6).set 0 (.ref (b + 1))).set 1 (.ref (b + 2))).set 2 (.ref (b + 3))).set 3 (.ref (b + 4))).set 4 (.ref (b + 5))).set 5 (.ref (b + 6))).set 7 (.ref (b + 7))), (100, z108)] ++ ((((([(100, z648)] ++ [(100, z108)]) ++ [(100, z108)]) ++ [(100, z216)]) ++ [(102, List.replicate 2 (.int 0))]) ++ [(100, z20)])) (j := 0) hb rfl dX6_init_58 kf_X6_29 (by decide) (gg rfl) (by simp only [List.length_set, lf] <;> decide) (fun q hq => by cases hq; exact ⟨tyX6 7, by decide +kernel, rfl, rfl⟩) (fun q hq => by cases hq; exact Or.inr ⟨rfl, rfl, rfl⟩) (gw (Nat.le_of_ble_eq_true rfl) rfl) ?_
  refine pw_aload_n dX6_init_61 rfl ?_
  refine pw_bipush (v := nI 8) dX6_init_62 (by decide) ?_
  have hA8 : (M0 ++ ([(6, (((((((f6).set 0 (.ref (b + 1))).set 1 (.ref (b + 2))).set 2 (.ref (b + 3))).set 3 (.ref (b + 4))).set 4 (.ref (b + 5))).set 5 (.ref (b + 6))).set 7 (.ref (b + 7))), (100, z108)] ++ ((((([(100, z648)] ++ [(100, z108)]) ++ [(100, z108)]) ++ [(100, z216)]) ++ [(102, List.replicate 2 (.int 0))]) ++ [(100, z20)]) : List PE)).length = b + 8 := pa_len hb (by simp only [-List.reduceReplicate, List.length_append, List.length_cons, List.length_nil, List.length_set] <;> omega)
  have hS8 : kv_sum (M0 ++ ([(6, (((((((f6).set 0 (.ref (b + 1))).set 1 (.ref (b + 2))).set 2 (.ref (b + 3))).set 3 (.ref (b + 4))).set 4 (.ref (b + 5))).set 5 (.ref (b + 6))).set 7 (.ref (b + 7))), (100, z108)] ++ ((((([(100, z648)] ++ [(100, z108)]) ++ [(100, z108)]) ++ [(100, z216)]) ++ [(102, List.replicate 2 (.int 0))]) ++ [(100, z20)]) : List PE)) = z + 1233 := pa_sum hz (by simp only [-List.reduceReplicate, kv_sum_app2, kv_sum_cons, kv_sum_nil, l108, l648, l216, l48, l20, l8, l6, lf, List.length_cons, List.length_nil, List.length_replicate, List.length_set] <;> omega)
  refine pa_arr (L' := [(6, (((((((f6).set 0 (.ref (b + 1))).set 1 (.ref (b + 2))).set 2 (.ref (b + 3))).set 3 (.ref (b + 4))).set 4 (.ref (b + 5))).set 5 (.ref (b + 6))).set 7 (.ref (b + 7))), (100, z108)] ++ (((((([(100, z648)] ++ [(100, z108)]) ++ [(100, z108)]) ++ [(100, z216)]) ++ [(102, List.replicate 2 (.int 0))]) ++ [(100, z20)]) ++ [(100, z8)])) (t := 0) (k := 8) hA8 hS8 dX6_init_64 (by simp) ak_int rfl (by decide) (by clear hA8 hS8; omega) (by clear hA8 hS8; omega) (by clear hA8 hS8; omega) (ga h8) ?_
  clear hA8 hS8
  refine pa_putf (L' := [(6, ((((((((f6).set 0 (.ref (b + 1))).set 1 (.ref (b + 2))).set 2 (.ref (b + 3))).set 3 (.ref (b + 4))).set 4 (.ref (b + 5))).set 5 (.ref (b + 6))).set 7 (.ref (b + 7))).set 10 (.ref (b + 8))), (100, z108)] ++ (((((([(100, z648)] ++ [(100, z108)]) ++ [(100, z108)]) ++ [(100, z216)]) ++ [(102, List.replicate 2 (.int 0))]) ++ [(100, z20)]) ++ [(100, z8)])) (j := 0) hb rfl dX6_init_66 kf_X6_32 (by decide) (gg rfl) (by simp only [List.length_set, lf] <;> decide) (fun q hq => by cases hq; exact ⟨tyX6 10, by decide +kernel, rfl, rfl⟩) (fun q hq => by cases hq; exact Or.inr ⟨rfl, rfl, rfl⟩) (gw (Nat.le_of_ble_eq_true rfl) rfl) ?_
  refine pw_aload_n dX6_init_69 rfl ?_
  refine pw_bipush (v := nI 8) dX6_init_70 (by decide) ?_
  have hA9 : (M0 ++ ([(6, ((((((((f6).set 0 (.ref (b + 1))).set 1 (.ref (b + 2))).set 2 (.ref (b + 3))).set 3 (.ref (b + 4))).set 4 (.ref (b + 5))).set 5 (.ref (b + 6))).set 7 (.ref (b + 7))).set 10 (.ref (b + 8))), (100, z108)] ++ (((((([(100, z648)] ++ [(100, z108)]) ++ [(100, z108)]) ++ [(100, z216)]) ++ [(102, List.replicate 2 (.int 0))]) ++ [(100, z20)]) ++ [(100, z8)]) : List PE)).length = b + 9 := pa_len hb (by simp only [-List.reduceReplicate, List.length_append, List.length_cons, List.length_nil, List.length_set] <;> omega)
  have hS9 : kv_sum (M0 ++ ([(6, ((((((((f6).set 0 (.ref (b + 1))).set 1 (.ref (b + 2))).set 2 (.ref (b + 3))).set 3 (.ref (b + 4))).set 4 (.ref (b + 5))).set 5 (.ref (b + 6))).set 7 (.ref (b + 7))).set 10 (.ref (b + 8))), (100, z108)] ++ (((((([(100, z648)] ++ [(100, z108)]) ++ [(100, z108)]) ++ [(100, z216)]) ++ [(102, List.replicate 2 (.int 0))]) ++ [(100, z20)]) ++ [(100, z8)]) : List PE)) = z + 1241 := pa_sum hz (by simp only [-List.reduceReplicate, kv_sum_app2, kv_sum_cons, kv_sum_nil, l108, l648, l216, l48, l20, l8, l6, lf, List.length_cons, List.length_nil, List.length_replicate, List.length_set] <;> omega)
  refine pa_arr (L' := [(6, ((((((((f6).set 0 (.ref (b + 1))).set 1 (.ref (b + 2))).set 2 (.ref (b + 3))).set 3 (.ref (b + 4))).set 4 (.ref (b + 5))).set 5 (.ref (b + 6))).set 7 (.ref (b + 7))).set 10 (.ref (b + 8))), (100, z108)] ++ ((((((([(100, z648)] ++ [(100, z108)]) ++ [(100, z108)]) ++ [(100, z216)]) ++ [(102, List.replicate 2 (.int 0))]) ++ [(100, z20)]) ++ [(100, z8)]) ++ [(100, z8)])) (t := 0) (k := 8) hA9 hS9 dX6_init_72 (by simp) ak_int rfl (by decide) (by clear hA9 hS9; omega) (by clear hA9 hS9; omega) (by clear hA9 hS9; omega) (ga h8) ?_
  clear hA9 hS9
  refine pa_putf (L' := [(6, (((((((((f6).set 0 (.ref (b + 1))).set 1 (.ref (b + 2))).set 2 (.ref (b + 3))).set 3 (.ref (b + 4))).set 4 (.ref (b + 5))).set 5 (.ref (b + 6))).set 7 (.ref (b + 7))).set 10 (.ref (b + 8))).set 11 (.ref (b + 9))), (100, z108)] ++ ((((((([(100, z648)] ++ [(100, z108)]) ++ [(100, z108)]) ++ [(100, z216)]) ++ [(102, List.replicate 2 (.int 0))]) ++ [(100, z20)]) ++ [(100, z8)]) ++ [(100, z8)])) (j := 0) hb rfl dX6_init_74 kf_X6_35 (by decide) (gg rfl) (by simp only [List.length_set, lf] <;> decide) (fun q hq => by cases hq; exact ⟨tyX6 11, by decide +kernel, rfl, rfl⟩) (fun q hq => by cases hq; exact Or.inr ⟨rfl, rfl, rfl⟩) (gw (Nat.le_of_ble_eq_true rfl) rfl) ?_
  refine pw_aload_n dX6_init_77 rfl ?_
  refine pw_bipush (v := nI 6) dX6_init_78 (by decide) ?_
  have hA10 : (M0 ++ ([(6, (((((((((f6).set 0 (.ref (b + 1))).set 1 (.ref (b + 2))).set 2 (.ref (b + 3))).set 3 (.ref (b + 4))).set 4 (.ref (b + 5))).set 5 (.ref (b + 6))).set 7 (.ref (b + 7))).set 10 (.ref (b + 8))).set 11 (.ref (b + 9))), (100, z108)] ++ ((((((([(100, z648)] ++ [(100, z108)]) ++ [(100, z108)]) ++ [(100, z216)]) ++ [(102, List.replicate 2 (.int 0))]) ++ [(100, z20)]) ++ [(100, z8)]) ++ [(100, z8)]) : List PE)).length = b + 10 := pa_len hb (by simp only [-List.reduceReplicate, List.length_append, List.length_cons, List.length_nil, List.length_set] <;> omega)
  have hS10 : kv_sum (M0 ++ ([(6, (((((((((f6).set 0 (.ref (b + 1))).set 1 (.ref (b + 2))).set 2 (.ref (b + 3))).set 3 (.ref (b + 4))).set 4 (.ref (b + 5))).set 5 (.ref (b + 6))).set 7 (.ref (b + 7))).set 10 (.ref (b + 8))).set 11 (.ref (b + 9))), (100, z108)] ++ ((((((([(100, z648)] ++ [(100, z108)]) ++ [(100, z108)]) ++ [(100, z216)]) ++ [(102, List.replicate 2 (.int 0))]) ++ [(100, z20)]) ++ [(100, z8)]) ++ [(100, z8)]) : List PE)) = z + 1249 := pa_sum hz (by simp only [-List.reduceReplicate, kv_sum_app2, kv_sum_cons, kv_sum_nil, l108, l648, l216, l48, l20, l8, l6, lf, List.length_cons, List.length_nil, List.length_replicate, List.length_set] <;> omega)
  refine pa_arr (L' := [(6, (((((((((f6).set 0 (.ref (b + 1))).set 1 (.ref (b + 2))).set 2 (.ref (b + 3))).set 3 (.ref (b + 4))).set 4 (.ref (b + 5))).set 5 (.ref (b + 6))).set 7 (.ref (b + 7))).set 10 (.ref (b + 8))).set 11 (.ref (b + 9))), (100, z108)] ++ (((((((([(100, z648)] ++ [(100, z108)]) ++ [(100, z108)]) ++ [(100, z216)]) ++ [(102, List.replicate 2 (.int 0))]) ++ [(100, z20)]) ++ [(100, z8)]) ++ [(100, z8)]) ++ [(100, z6)])) (t := 0) (k := 6) hA10 hS10 dX6_init_80 (by simp) ak_int rfl (by decide) (by clear hA10 hS10; omega) (by clear hA10 hS10; omega) (by clear hA10 hS10; omega) (ga h6) ?_
  clear hA10 hS10
  refine pa_putf (L' := [(6, ((((((((((f6).set 0 (.ref (b + 1))).set 1 (.ref (b + 2))).set 2 (.ref (b + 3))).set 3 (.ref (b + 4))).set 4 (.ref (b + 5))).set 5 (.ref (b + 6))).set 7 (.ref (b + 7))).set 10 (.ref (b + 8))).set 11 (.ref (b + 9))).set 14 (.ref (b + 10))), (100, z108)] ++ (((((((([(100, z648)] ++ [(100, z108)]) ++ [(100, z108)]) ++ [(100, z216)]) ++ [(102, List.replicate 2 (.int 0))]) ++ [(100, z20)]) ++ [(100, z8)]) ++ [(100, z8)]) ++ [(100, z6)])) (j := 0) hb rfl dX6_init_82 kf_X6_38 (by decide) (gg rfl) (by simp only [List.length_set, lf] <;> decide) (fun q hq => by cases hq; exact ⟨tyX6 14, by decide +kernel, rfl, rfl⟩) (fun q hq => by cases hq; exact Or.inr ⟨rfl, rfl, rfl⟩) (gw (Nat.le_of_ble_eq_true rfl) rfl) ?_
  refine pw_aload_n dX6_init_85 rfl ?_
  refine pw_bipush (v := nI 48) dX6_init_86 (by decide) ?_
  have hA11 : (M0 ++ ([(6, ((((((((((f6).set 0 (.ref (b + 1))).set 1 (.ref (b + 2))).set 2 (.ref (b + 3))).set 3 (.ref (b + 4))).set 4 (.ref (b + 5))).set 5 (.ref (b + 6))).set 7 (.ref (b + 7))).set 10 (.ref (b + 8))).set 11 (.ref (b + 9))).set 14 (.ref (b + 10))), (100, z108)] ++ (((((((([(100, z648)] ++ [(100, z108)]) ++ [(100, z108)]) ++ [(100, z216)]) ++ [(102, List.replicate 2 (.int 0))]) ++ [(100, z20)]) ++ [(100, z8)]) ++ [(100, z8)]) ++ [(100, z6)]) : List PE)).length = b + 11 := pa_len hb (by simp only [-List.reduceReplicate, List.length_append, List.length_cons, List.length_nil, List.length_set] <;> omega)
  have hS11 : kv_sum (M0 ++ ([(6, ((((((((((f6).set 0 (.ref (b + 1))).set 1 (.ref (b + 2))).set 2 (.ref (b + 3))).set 3 (.ref (b + 4))).set 4 (.ref (b + 5))).set 5 (.ref (b + 6))).set 7 (.ref (b + 7))).set 10 (.ref (b + 8))).set 11 (.ref (b + 9))).set 14 (.ref (b + 10))), (100, z108)] ++ (((((((([(100, z648)] ++ [(100, z108)]) ++ [(100, z108)]) ++ [(100, z216)]) ++ [(102, List.replicate 2 (.int 0))]) ++ [(100, z20)]) ++ [(100, z8)]) ++ [(100, z8)]) ++ [(100, z6)]) : List PE)) = z + 1255 := pa_sum hz (by simp only [-List.reduceReplicate, kv_sum_app2, kv_sum_cons, kv_sum_nil, l108, l648, l216, l48, l20, l8, l6, lf, List.length_cons, List.length_nil, List.length_replicate, List.length_set] <;> omega)
  refine pa_arr (L' := [(6, ((((((((((f6).set 0 (.ref (b + 1))).set 1 (.ref (b + 2))).set 2 (.ref (b + 3))).set 3 (.ref (b + 4))).set 4 (.ref (b + 5))).set 5 (.ref (b + 6))).set 7 (.ref (b + 7))).set 10 (.ref (b + 8))).set 11 (.ref (b + 9))).set 14 (.ref (b + 10))), (100, z108)] ++ ((((((((([(100, z648)] ++ [(100, z108)]) ++ [(100, z108)]) ++ [(100, z216)]) ++ [(102, List.replicate 2 (.int 0))]) ++ [(100, z20)]) ++ [(100, z8)]) ++ [(100, z8)]) ++ [(100, z6)]) ++ [(100, z48)])) (t := 0) (k := 48) hA11 hS11 dX6_init_88 (by simp) ak_int rfl (by decide) (by clear hA11 hS11; omega) (by clear hA11 hS11; omega) (by clear hA11 hS11; omega) (ga h48) ?_
  clear hA11 hS11
  refine pa_putf (L' := [(6, (((((((((((f6).set 0 (.ref (b + 1))).set 1 (.ref (b + 2))).set 2 (.ref (b + 3))).set 3 (.ref (b + 4))).set 4 (.ref (b + 5))).set 5 (.ref (b + 6))).set 7 (.ref (b + 7))).set 10 (.ref (b + 8))).set 11 (.ref (b + 9))).set 14 (.ref (b + 10))).set 15 (.ref (b + 11))), (100, z108)] ++ ((((((((([(100, z648)] ++ [(100, z108)]) ++ [(100, z108)]) ++ [(100, z216)]) ++ [(102, List.replicate 2 (.int 0))]) ++ [(100, z20)]) ++ [(100, z8)]) ++ [(100, z8)]) ++ [(100, z6)]) ++ [(100, z48)])) (j := 0) hb rfl dX6_init_90 kf_X6_41 (by decide) (gg rfl) (by simp only [List.length_set, lf] <;> decide) (fun q hq => by cases hq; exact ⟨tyX6 15, by decide +kernel, rfl, rfl⟩) (fun q hq => by cases hq; exact Or.inr ⟨rfl, rfl, rfl⟩) (gw (Nat.le_of_ble_eq_true rfl) rfl) ?_
  refine pw_aload_n dX6_init_93 rfl ?_
  refine pw_bipush (v := nI 48) dX6_init_94 (by decide) ?_
  have hA12 : (M0 ++ ([(6, (((((((((((f6).set 0 (.ref (b + 1))).set 1 (.ref (b + 2))).set 2 (.ref (b + 3))).set 3 (.ref (b + 4))).set 4 (.ref (b + 5))).set 5 (.ref (b + 6))).set 7 (.ref (b + 7))).set 10 (.ref (b + 8))).set 11 (.ref (b + 9))).set 14 (.ref (b + 10))).set 15 (.ref (b + 11))), (100, z108)] ++ ((((((((([(100, z648)] ++ [(100, z108)]) ++ [(100, z108)]) ++ [(100, z216)]) ++ [(102, List.replicate 2 (.int 0))]) ++ [(100, z20)]) ++ [(100, z8)]) ++ [(100, z8)]) ++ [(100, z6)]) ++ [(100, z48)]) : List PE)).length = b + 12 := pa_len hb (by simp only [-List.reduceReplicate, List.length_append, List.length_cons, List.length_nil, List.length_set] <;> omega)
  have hS12 : kv_sum (M0 ++ ([(6, (((((((((((f6).set 0 (.ref (b + 1))).set 1 (.ref (b + 2))).set 2 (.ref (b + 3))).set 3 (.ref (b + 4))).set 4 (.ref (b + 5))).set 5 (.ref (b + 6))).set 7 (.ref (b + 7))).set 10 (.ref (b + 8))).set 11 (.ref (b + 9))).set 14 (.ref (b + 10))).set 15 (.ref (b + 11))), (100, z108)] ++ ((((((((([(100, z648)] ++ [(100, z108)]) ++ [(100, z108)]) ++ [(100, z216)]) ++ [(102, List.replicate 2 (.int 0))]) ++ [(100, z20)]) ++ [(100, z8)]) ++ [(100, z8)]) ++ [(100, z6)]) ++ [(100, z48)]) : List PE)) = z + 1303 := pa_sum hz (by simp only [-List.reduceReplicate, kv_sum_app2, kv_sum_cons, kv_sum_nil, l108, l648, l216, l48, l20, l8, l6, lf, List.length_cons, List.length_nil, List.length_replicate, List.length_set] <;> omega)
  refine pa_arr (L' := [(6, (((((((((((f6).set 0 (.ref (b + 1))).set 1 (.ref (b + 2))).set 2 (.ref (b + 3))).set 3 (.ref (b + 4))).set 4 (.ref (b + 5))).set 5 (.ref (b + 6))).set 7 (.ref (b + 7))).set 10 (.ref (b + 8))).set 11 (.ref (b + 9))).set 14 (.ref (b + 10))).set 15 (.ref (b + 11))), (100, z108)] ++ (((((((((([(100, z648)] ++ [(100, z108)]) ++ [(100, z108)]) ++ [(100, z216)]) ++ [(102, List.replicate 2 (.int 0))]) ++ [(100, z20)]) ++ [(100, z8)]) ++ [(100, z8)]) ++ [(100, z6)]) ++ [(100, z48)]) ++ [(100, z48)])) (t := 0) (k := 48) hA12 hS12 dX6_init_96 (by simp) ak_int rfl (by decide) (by clear hA12 hS12; omega) (by clear hA12 hS12; omega) (by clear hA12 hS12; omega) (ga h48) ?_
  clear hA12 hS12
  refine pa_putf (L' := [(6, ((((((((((((f6).set 0 (.ref (b + 1))).set 1 (.ref (b + 2))).set 2 (.ref (b + 3))).set 3 (.ref (b + 4))).set 4 (.ref (b + 5))).set 5 (.ref (b + 6))).set 7 (.ref (b + 7))).set 10 (.ref (b + 8))).set 11 (.ref (b + 9))).set 14 (.ref (b + 10))).set 15 (.ref (b + 11))).set 16 (.ref (b + 12))), (100, z108)] ++ (((((((((([(100, z648)] ++ [(100, z108)]) ++ [(100, z108)]) ++ [(100, z216)]) ++ [(102, List.replicate 2 (.int 0))]) ++ [(100, z20)]) ++ [(100, z8)]) ++ [(100, z8)]) ++ [(100, z6)]) ++ [(100, z48)]) ++ [(100, z48)])) (j := 0) hb rfl dX6_init_98 kf_X6_44 (by decide) (gg rfl) (by simp only [List.length_set, lf] <;> decide) (fun q hq => by cases hq; exact ⟨tyX6 16, by decide +kernel, rfl, rfl⟩) (fun q hq => by cases hq; exact Or.inr ⟨rfl, rfl, rfl⟩) (gw (Nat.le_of_ble_eq_true rfl) rfl) ?_
  refine pw_aload_n dX6_init_101 rfl ?_
  refine pw_bipush (v := nI 48) dX6_init_102 (by decide) ?_
  have hA13 : (M0 ++ ([(6, ((((((((((((f6).set 0 (.ref (b + 1))).set 1 (.ref (b + 2))).set 2 (.ref (b + 3))).set 3 (.ref (b + 4))).set 4 (.ref (b + 5))).set 5 (.ref (b + 6))).set 7 (.ref (b + 7))).set 10 (.ref (b + 8))).set 11 (.ref (b + 9))).set 14 (.ref (b + 10))).set 15 (.ref (b + 11))).set 16 (.ref (b + 12))), (100, z108)] ++ (((((((((([(100, z648)] ++ [(100, z108)]) ++ [(100, z108)]) ++ [(100, z216)]) ++ [(102, List.replicate 2 (.int 0))]) ++ [(100, z20)]) ++ [(100, z8)]) ++ [(100, z8)]) ++ [(100, z6)]) ++ [(100, z48)]) ++ [(100, z48)]) : List PE)).length = b + 13 := pa_len hb (by simp only [-List.reduceReplicate, List.length_append, List.length_cons, List.length_nil, List.length_set] <;> omega)
  have hS13 : kv_sum (M0 ++ ([(6, ((((((((((((f6).set 0 (.ref (b + 1))).set 1 (.ref (b + 2))).set 2 (.ref (b + 3))).set 3 (.ref (b + 4))).set 4 (.ref (b + 5))).set 5 (.ref (b + 6))).set 7 (.ref (b + 7))).set 10 (.ref (b + 8))).set 11 (.ref (b + 9))).set 14 (.ref (b + 10))).set 15 (.ref (b + 11))).set 16 (.ref (b + 12))), (100, z108)] ++ (((((((((([(100, z648)] ++ [(100, z108)]) ++ [(100, z108)]) ++ [(100, z216)]) ++ [(102, List.replicate 2 (.int 0))]) ++ [(100, z20)]) ++ [(100, z8)]) ++ [(100, z8)]) ++ [(100, z6)]) ++ [(100, z48)]) ++ [(100, z48)]) : List PE)) = z + 1351 := pa_sum hz (by simp only [-List.reduceReplicate, kv_sum_app2, kv_sum_cons, kv_sum_nil, l108, l648, l216, l48, l20, l8, l6, lf, List.length_cons, List.length_nil, List.length_replicate, List.length_set] <;> omega)
  refine pa_arr (L' := [(6, ((((((((((((f6).set 0 (.ref (b + 1))).set 1 (.ref (b + 2))).set 2 (.ref (b + 3))).set 3 (.ref (b + 4))).set 4 (.ref (b + 5))).set 5 (.ref (b + 6))).set 7 (.ref (b + 7))).set 10 (.ref (b + 8))).set 11 (.ref (b + 9))).set 14 (.ref (b + 10))).set 15 (.ref (b + 11))).set 16 (.ref (b + 12))), (100, z108)] ++ ((((((((((([(100, z648)] ++ [(100, z108)]) ++ [(100, z108)]) ++ [(100, z216)]) ++ [(102, List.replicate 2 (.int 0))]) ++ [(100, z20)]) ++ [(100, z8)]) ++ [(100, z8)]) ++ [(100, z6)]) ++ [(100, z48)]) ++ [(100, z48)]) ++ [(100, z48)])) (t := 0) (k := 48) hA13 hS13 dX6_init_104 (by simp) ak_int rfl (by decide) (by clear hA13 hS13; omega) (by clear hA13 hS13; omega) (by clear hA13 hS13; omega) (ga h48) ?_
  clear hA13 hS13
  refine pa_putf (L' := [(6, (((((((((((((f6).set 0 (.ref (b + 1))).set 1 (.ref (b + 2))).set 2 (.ref (b + 3))).set 3 (.ref (b + 4))).set 4 (.ref (b + 5))).set 5 (.ref (b + 6))).set 7 (.ref (b + 7))).set 10 (.ref (b + 8))).set 11 (.ref (b + 9))).set 14 (.ref (b + 10))).set 15 (.ref (b + 11))).set 16 (.ref (b + 12))).set 17 (.ref (b + 13))), (100, z108)] ++ ((((((((((([(100, z648)] ++ [(100, z108)]) ++ [(100, z108)]) ++ [(100, z216)]) ++ [(102, List.replicate 2 (.int 0))]) ++ [(100, z20)]) ++ [(100, z8)]) ++ [(100, z8)]) ++ [(100, z6)]) ++ [(100, z48)]) ++ [(100, z48)]) ++ [(100, z48)])) (j := 0) hb rfl dX6_init_106 kf_X6_47 (by decide) (gg rfl) (by simp only [List.length_set, lf] <;> decide) (fun q hq => by cases hq; exact ⟨tyX6 17, by decide +kernel, rfl, rfl⟩) (fun q hq => by cases hq; exact Or.inr ⟨rfl, rfl, rfl⟩) (gw (Nat.le_of_ble_eq_true rfl) rfl) ?_
  refine pw_aload_n dX6_init_109 rfl ?_
  refine pw_bipush (v := nI 48) dX6_init_110 (by decide) ?_
  have hA14 : (M0 ++ ([(6, (((((((((((((f6).set 0 (.ref (b + 1))).set 1 (.ref (b + 2))).set 2 (.ref (b + 3))).set 3 (.ref (b + 4))).set 4 (.ref (b + 5))).set 5 (.ref (b + 6))).set 7 (.ref (b + 7))).set 10 (.ref (b + 8))).set 11 (.ref (b + 9))).set 14 (.ref (b + 10))).set 15 (.ref (b + 11))).set 16 (.ref (b + 12))).set 17 (.ref (b + 13))), (100, z108)] ++ ((((((((((([(100, z648)] ++ [(100, z108)]) ++ [(100, z108)]) ++ [(100, z216)]) ++ [(102, List.replicate 2 (.int 0))]) ++ [(100, z20)]) ++ [(100, z8)]) ++ [(100, z8)]) ++ [(100, z6)]) ++ [(100, z48)]) ++ [(100, z48)]) ++ [(100, z48)]) : List PE)).length = b + 14 := pa_len hb (by simp only [-List.reduceReplicate, List.length_append, List.length_cons, List.length_nil, List.length_set] <;> omega)
  have hS14 : kv_sum (M0 ++ ([(6, (((((((((((((f6).set 0 (.ref (b + 1))).set 1 (.ref (b + 2))).set 2 (.ref (b + 3))).set 3 (.ref (b + 4))).set 4 (.ref (b + 5))).set 5 (.ref (b + 6))).set 7 (.ref (b + 7))).set 10 (.ref (b + 8))).set 11 (.ref (b + 9))).set 14 (.ref (b + 10))).set 15 (.ref (b + 11))).set 16 (.ref (b + 12))).set 17 (.ref (b + 13))), (100, z108)] ++ ((((((((((([(100, z648)] ++ [(100, z108)]) ++ [(100, z108)]) ++ [(100, z216)]) ++ [(102, List.replicate 2 (.int 0))]) ++ [(100, z20)]) ++ [(100, z8)]) ++ [(100, z8)]) ++ [(100, z6)]) ++ [(100, z48)]) ++ [(100, z48)]) ++ [(100, z48)]) : List PE)) = z + 1399 := pa_sum hz (by simp only [-List.reduceReplicate, kv_sum_app2, kv_sum_cons, kv_sum_nil, l108, l648, l216, l48, l20, l8, l6, lf, List.length_cons, List.length_nil, List.length_replicate, List.length_set] <;> omega)
  refine pa_arr (L' := [(6, (((((((((((((f6).set 0 (.ref (b + 1))).set 1 (.ref (b + 2))).set 2 (.ref (b + 3))).set 3 (.ref (b + 4))).set 4 (.ref (b + 5))).set 5 (.ref (b + 6))).set 7 (.ref (b + 7))).set 10 (.ref (b + 8))).set 11 (.ref (b + 9))).set 14 (.ref (b + 10))).set 15 (.ref (b + 11))).set 16 (.ref (b + 12))).set 17 (.ref (b + 13))), (100, z108)] ++ (((((((((((([(100, z648)] ++ [(100, z108)]) ++ [(100, z108)]) ++ [(100, z216)]) ++ [(102, List.replicate 2 (.int 0))]) ++ [(100, z20)]) ++ [(100, z8)]) ++ [(100, z8)]) ++ [(100, z6)]) ++ [(100, z48)]) ++ [(100, z48)]) ++ [(100, z48)]) ++ [(100, z48)])) (t := 0) (k := 48) hA14 hS14 dX6_init_112 (by simp) ak_int rfl (by decide) (by clear hA14 hS14; omega) (by clear hA14 hS14; omega) (by clear hA14 hS14; omega) (ga h48) ?_
  clear hA14 hS14
  refine pa_putf (L' := [(6, ((((((((((((((f6).set 0 (.ref (b + 1))).set 1 (.ref (b + 2))).set 2 (.ref (b + 3))).set 3 (.ref (b + 4))).set 4 (.ref (b + 5))).set 5 (.ref (b + 6))).set 7 (.ref (b + 7))).set 10 (.ref (b + 8))).set 11 (.ref (b + 9))).set 14 (.ref (b + 10))).set 15 (.ref (b + 11))).set 16 (.ref (b + 12))).set 17 (.ref (b + 13))).set 18 (.ref (b + 14))), (100, z108)] ++ (((((((((((([(100, z648)] ++ [(100, z108)]) ++ [(100, z108)]) ++ [(100, z216)]) ++ [(102, List.replicate 2 (.int 0))]) ++ [(100, z20)]) ++ [(100, z8)]) ++ [(100, z8)]) ++ [(100, z6)]) ++ [(100, z48)]) ++ [(100, z48)]) ++ [(100, z48)]) ++ [(100, z48)])) (j := 0) hb rfl dX6_init_114 kf_X6_50 (by decide) (gg rfl) (by simp only [List.length_set, lf] <;> decide) (fun q hq => by cases hq; exact ⟨tyX6 18, by decide +kernel, rfl, rfl⟩) (fun q hq => by cases hq; exact Or.inr ⟨rfl, rfl, rfl⟩) (gw (Nat.le_of_ble_eq_true rfl) rfl) ?_
  refine pw_aload_n dX6_init_117 rfl ?_
  refine pw_bipush (v := nI 48) dX6_init_118 (by decide) ?_
  have hA15 : (M0 ++ ([(6, ((((((((((((((f6).set 0 (.ref (b + 1))).set 1 (.ref (b + 2))).set 2 (.ref (b + 3))).set 3 (.ref (b + 4))).set 4 (.ref (b + 5))).set 5 (.ref (b + 6))).set 7 (.ref (b + 7))).set 10 (.ref (b + 8))).set 11 (.ref (b + 9))).set 14 (.ref (b + 10))).set 15 (.ref (b + 11))).set 16 (.ref (b + 12))).set 17 (.ref (b + 13))).set 18 (.ref (b + 14))), (100, z108)] ++ (((((((((((([(100, z648)] ++ [(100, z108)]) ++ [(100, z108)]) ++ [(100, z216)]) ++ [(102, List.replicate 2 (.int 0))]) ++ [(100, z20)]) ++ [(100, z8)]) ++ [(100, z8)]) ++ [(100, z6)]) ++ [(100, z48)]) ++ [(100, z48)]) ++ [(100, z48)]) ++ [(100, z48)]) : List PE)).length = b + 15 := pa_len hb (by simp only [-List.reduceReplicate, List.length_append, List.length_cons, List.length_nil, List.length_set] <;> omega)
  have hS15 : kv_sum (M0 ++ ([(6, ((((((((((((((f6).set 0 (.ref (b + 1))).set 1 (.ref (b + 2))).set 2 (.ref (b + 3))).set 3 (.ref (b + 4))).set 4 (.ref (b + 5))).set 5 (.ref (b + 6))).set 7 (.ref (b + 7))).set 10 (.ref (b + 8))).set 11 (.ref (b + 9))).set 14 (.ref (b + 10))).set 15 (.ref (b + 11))).set 16 (.ref (b + 12))).set 17 (.ref (b + 13))).set 18 (.ref (b + 14))), (100, z108)] ++ (((((((((((([(100, z648)] ++ [(100, z108)]) ++ [(100, z108)]) ++ [(100, z216)]) ++ [(102, List.replicate 2 (.int 0))]) ++ [(100, z20)]) ++ [(100, z8)]) ++ [(100, z8)]) ++ [(100, z6)]) ++ [(100, z48)]) ++ [(100, z48)]) ++ [(100, z48)]) ++ [(100, z48)]) : List PE)) = z + 1447 := pa_sum hz (by simp only [-List.reduceReplicate, kv_sum_app2, kv_sum_cons, kv_sum_nil, l108, l648, l216, l48, l20, l8, l6, lf, List.length_cons, List.length_nil, List.length_replicate, List.length_set] <;> omega)
  refine pa_arr (L' := [(6, ((((((((((((((f6).set 0 (.ref (b + 1))).set 1 (.ref (b + 2))).set 2 (.ref (b + 3))).set 3 (.ref (b + 4))).set 4 (.ref (b + 5))).set 5 (.ref (b + 6))).set 7 (.ref (b + 7))).set 10 (.ref (b + 8))).set 11 (.ref (b + 9))).set 14 (.ref (b + 10))).set 15 (.ref (b + 11))).set 16 (.ref (b + 12))).set 17 (.ref (b + 13))).set 18 (.ref (b + 14))), (100, z108)] ++ ((((((((((((([(100, z648)] ++ [(100, z108)]) ++ [(100, z108)]) ++ [(100, z216)]) ++ [(102, List.replicate 2 (.int 0))]) ++ [(100, z20)]) ++ [(100, z8)]) ++ [(100, z8)]) ++ [(100, z6)]) ++ [(100, z48)]) ++ [(100, z48)]) ++ [(100, z48)]) ++ [(100, z48)]) ++ [(100, z48)])) (t := 0) (k := 48) hA15 hS15 dX6_init_120 (by simp) ak_int rfl (by decide) (by clear hA15 hS15; omega) (by clear hA15 hS15; omega) (by clear hA15 hS15; omega) (ga h48) ?_
  clear hA15 hS15
  refine pa_putf (L' := [(6, (((((((((((((((f6).set 0 (.ref (b + 1))).set 1 (.ref (b + 2))).set 2 (.ref (b + 3))).set 3 (.ref (b + 4))).set 4 (.ref (b + 5))).set 5 (.ref (b + 6))).set 7 (.ref (b + 7))).set 10 (.ref (b + 8))).set 11 (.ref (b + 9))).set 14 (.ref (b + 10))).set 15 (.ref (b + 11))).set 16 (.ref (b + 12))).set 17 (.ref (b + 13))).set 18 (.ref (b + 14))).set 19 (.ref (b + 15))), (100, z108)] ++ ((((((((((((([(100, z648)] ++ [(100, z108)]) ++ [(100, z108)]) ++ [(100, z216)]) ++ [(102, List.replicate 2 (.int 0))]) ++ [(100, z20)]) ++ [(100, z8)]) ++ [(100, z8)]) ++ [(100, z6)]) ++ [(100, z48)]) ++ [(100, z48)]) ++ [(100, z48)]) ++ [(100, z48)]) ++ [(100, z48)])) (j := 0) hb rfl dX6_init_122 kf_X6_53 (by decide) (gg rfl) (by simp only [List.length_set, lf] <;> decide) (fun q hq => by cases hq; exact ⟨tyX6 19, by decide +kernel, rfl, rfl⟩) (fun q hq => by cases hq; exact Or.inr ⟨rfl, rfl, rfl⟩) (gw (Nat.le_of_ble_eq_true rfl) rfl) ?_
  refine pw_aload_n dX6_init_125 rfl ?_
  refine pw_bipush (v := nI 6) dX6_init_126 (by decide) ?_
  have hA16 : (M0 ++ ([(6, (((((((((((((((f6).set 0 (.ref (b + 1))).set 1 (.ref (b + 2))).set 2 (.ref (b + 3))).set 3 (.ref (b + 4))).set 4 (.ref (b + 5))).set 5 (.ref (b + 6))).set 7 (.ref (b + 7))).set 10 (.ref (b + 8))).set 11 (.ref (b + 9))).set 14 (.ref (b + 10))).set 15 (.ref (b + 11))).set 16 (.ref (b + 12))).set 17 (.ref (b + 13))).set 18 (.ref (b + 14))).set 19 (.ref (b + 15))), (100, z108)] ++ ((((((((((((([(100, z648)] ++ [(100, z108)]) ++ [(100, z108)]) ++ [(100, z216)]) ++ [(102, List.replicate 2 (.int 0))]) ++ [(100, z20)]) ++ [(100, z8)]) ++ [(100, z8)]) ++ [(100, z6)]) ++ [(100, z48)]) ++ [(100, z48)]) ++ [(100, z48)]) ++ [(100, z48)]) ++ [(100, z48)]) : List PE)).length = b + 16 := pa_len hb (by simp only [-List.reduceReplicate, List.length_append, List.length_cons, List.length_nil, List.length_set] <;> omega)
  have hS16 : kv_sum (M0 ++ ([(6, (((((((((((((((f6).set 0 (.ref (b + 1))).set 1 (.ref (b + 2))).set 2 (.ref (b + 3))).set 3 (.ref (b + 4))).set 4 (.ref (b + 5))).set 5 (.ref (b + 6))).set 7 (.ref (b + 7))).set 10 (.ref (b + 8))).set 11 (.ref (b + 9))).set 14 (.ref (b + 10))).set 15 (.ref (b + 11))).set 16 (.ref (b + 12))).set 17 (.ref (b + 13))).set 18 (.ref (b + 14))).set 19 (.ref (b + 15))), (100, z108)] ++ ((((((((((((([(100, z648)] ++ [(100, z108)]) ++ [(100, z108)]) ++ [(100, z216)]) ++ [(102, List.replicate 2 (.int 0))]) ++ [(100, z20)]) ++ [(100, z8)]) ++ [(100, z8)]) ++ [(100, z6)]) ++ [(100, z48)]) ++ [(100, z48)]) ++ [(100, z48)]) ++ [(100, z48)]) ++ [(100, z48)]) : List PE)) = z + 1495 := pa_sum hz (by simp only [-List.reduceReplicate, kv_sum_app2, kv_sum_cons, kv_sum_nil, l108, l648, l216, l48, l20, l8, l6, lf, List.length_cons, List.length_nil, List.length_replicate, List.length_set] <;> omega)
  refine pa_arr (L' := [(6, (((((((((((((((f6).set 0 (.ref (b + 1))).set 1 (.ref (b + 2))).set 2 (.ref (b + 3))).set 3 (.ref (b + 4))).set 4 (.ref (b + 5))).set 5 (.ref (b + 6))).set 7 (.ref (b + 7))).set 10 (.ref (b + 8))).set 11 (.ref (b + 9))).set 14 (.ref (b + 10))).set 15 (.ref (b + 11))).set 16 (.ref (b + 12))).set 17 (.ref (b + 13))).set 18 (.ref (b + 14))).set 19 (.ref (b + 15))), (100, z108)] ++ (((((((((((((([(100, z648)] ++ [(100, z108)]) ++ [(100, z108)]) ++ [(100, z216)]) ++ [(102, List.replicate 2 (.int 0))]) ++ [(100, z20)]) ++ [(100, z8)]) ++ [(100, z8)]) ++ [(100, z6)]) ++ [(100, z48)]) ++ [(100, z48)]) ++ [(100, z48)]) ++ [(100, z48)]) ++ [(100, z48)]) ++ [(100, z6)])) (t := 0) (k := 6) hA16 hS16 dX6_init_128 (by simp) ak_int rfl (by decide) (by clear hA16 hS16; omega) (by clear hA16 hS16; omega) (by clear hA16 hS16; omega) (ga h6) ?_
  clear hA16 hS16
  refine pa_putf (L' := [(6, ((((((((((((((((f6).set 0 (.ref (b + 1))).set 1 (.ref (b + 2))).set 2 (.ref (b + 3))).set 3 (.ref (b + 4))).set 4 (.ref (b + 5))).set 5 (.ref (b + 6))).set 7 (.ref (b + 7))).set 10 (.ref (b + 8))).set 11 (.ref (b + 9))).set 14 (.ref (b + 10))).set 15 (.ref (b + 11))).set 16 (.ref (b + 12))).set 17 (.ref (b + 13))).set 18 (.ref (b + 14))).set 19 (.ref (b + 15))).set 20 (.ref (b + 16))), (100, z108)] ++ (((((((((((((([(100, z648)] ++ [(100, z108)]) ++ [(100, z108)]) ++ [(100, z216)]) ++ [(102, List.replicate 2 (.int 0))]) ++ [(100, z20)]) ++ [(100, z8)]) ++ [(100, z8)]) ++ [(100, z6)]) ++ [(100, z48)]) ++ [(100, z48)]) ++ [(100, z48)]) ++ [(100, z48)]) ++ [(100, z48)]) ++ [(100, z6)])) (j := 0) hb rfl dX6_init_130 kf_X6_56 (by decide) (gg rfl) (by simp only [List.length_set, lf] <;> decide) (fun q hq => by cases hq; exact ⟨tyX6 20, by decide +kernel, rfl, rfl⟩) (fun q hq => by cases hq; exact Or.inr ⟨rfl, rfl, rfl⟩) (gw (Nat.le_of_ble_eq_true rfl) rfl) ?_
  refine pw_aload_n dX6_init_133 rfl ?_
  refine pw_bipush (v := nI 6) dX6_init_134 (by decide) ?_
  have hA17 : (M0 ++ ([(6, ((((((((((((((((f6).set 0 (.ref (b + 1))).set 1 (.ref (b + 2))).set 2 (.ref (b + 3))).set 3 (.ref (b + 4))).set 4 (.ref (b + 5))).set 5 (.ref (b + 6))).set 7 (.ref (b + 7))).set 10 (.ref (b + 8))).set 11 (.ref (b + 9))).set 14 (.ref (b + 10))).set 15 (.ref (b + 11))).set 16 (.ref (b + 12))).set 17 (.ref (b + 13))).set 18 (.ref (b + 14))).set 19 (.ref (b + 15))).set 20 (.ref (b + 16))), (100, z108)] ++ (((((((((((((([(100, z648)] ++ [(100, z108)]) ++ [(100, z108)]) ++ [(100, z216)]) ++ [(102, List.replicate 2 (.int 0))]) ++ [(100, z20)]) ++ [(100, z8)]) ++ [(100, z8)]) ++ [(100, z6)]) ++ [(100, z48)]) ++ [(100, z48)]) ++ [(100, z48)]) ++ [(100, z48)]) ++ [(100, z48)]) ++ [(100, z6)]) : List PE)).length = b + 17 := pa_len hb (by simp only [-List.reduceReplicate, List.length_append, List.length_cons, List.length_nil, List.length_set] <;> omega)
  have hS17 : kv_sum (M0 ++ ([(6, ((((((((((((((((f6).set 0 (.ref (b + 1))).set 1 (.ref (b + 2))).set 2 (.ref (b + 3))).set 3 (.ref (b + 4))).set 4 (.ref (b + 5))).set 5 (.ref (b + 6))).set 7 (.ref (b + 7))).set 10 (.ref (b + 8))).set 11 (.ref (b + 9))).set 14 (.ref (b + 10))).set 15 (.ref (b + 11))).set 16 (.ref (b + 12))).set 17 (.ref (b + 13))).set 18 (.ref (b + 14))).set 19 (.ref (b + 15))).set 20 (.ref (b + 16))), (100, z108)] ++ (((((((((((((([(100, z648)] ++ [(100, z108)]) ++ [(100, z108)]) ++ [(100, z216)]) ++ [(102, List.replicate 2 (.int 0))]) ++ [(100, z20)]) ++ [(100, z8)]) ++ [(100, z8)]) ++ [(100, z6)]) ++ [(100, z48)]) ++ [(100, z48)]) ++ [(100, z48)]) ++ [(100, z48)]) ++ [(100, z48)]) ++ [(100, z6)]) : List PE)) = z + 1501 := pa_sum hz (by simp only [-List.reduceReplicate, kv_sum_app2, kv_sum_cons, kv_sum_nil, l108, l648, l216, l48, l20, l8, l6, lf, List.length_cons, List.length_nil, List.length_replicate, List.length_set] <;> omega)
  refine pa_arr (L' := [(6, ((((((((((((((((f6).set 0 (.ref (b + 1))).set 1 (.ref (b + 2))).set 2 (.ref (b + 3))).set 3 (.ref (b + 4))).set 4 (.ref (b + 5))).set 5 (.ref (b + 6))).set 7 (.ref (b + 7))).set 10 (.ref (b + 8))).set 11 (.ref (b + 9))).set 14 (.ref (b + 10))).set 15 (.ref (b + 11))).set 16 (.ref (b + 12))).set 17 (.ref (b + 13))).set 18 (.ref (b + 14))).set 19 (.ref (b + 15))).set 20 (.ref (b + 16))), (100, z108)] ++ ((((((((((((((([(100, z648)] ++ [(100, z108)]) ++ [(100, z108)]) ++ [(100, z216)]) ++ [(102, List.replicate 2 (.int 0))]) ++ [(100, z20)]) ++ [(100, z8)]) ++ [(100, z8)]) ++ [(100, z6)]) ++ [(100, z48)]) ++ [(100, z48)]) ++ [(100, z48)]) ++ [(100, z48)]) ++ [(100, z48)]) ++ [(100, z6)]) ++ [(100, z6)])) (t := 0) (k := 6) hA17 hS17 dX6_init_136 (by simp) ak_int rfl (by decide) (by clear hA17 hS17; omega) (by clear hA17 hS17; omega) (by clear hA17 hS17; omega) (ga h6) ?_
  clear hA17 hS17
  refine pa_putf (L' := [(6, (((((((((((((((((f6).set 0 (.ref (b + 1))).set 1 (.ref (b + 2))).set 2 (.ref (b + 3))).set 3 (.ref (b + 4))).set 4 (.ref (b + 5))).set 5 (.ref (b + 6))).set 7 (.ref (b + 7))).set 10 (.ref (b + 8))).set 11 (.ref (b + 9))).set 14 (.ref (b + 10))).set 15 (.ref (b + 11))).set 16 (.ref (b + 12))).set 17 (.ref (b + 13))).set 18 (.ref (b + 14))).set 19 (.ref (b + 15))).set 20 (.ref (b + 16))).set 21 (.ref (b + 17))), (100, z108)] ++ ((((((((((((((([(100, z648)] ++ [(100, z108)]) ++ [(100, z108)]) ++ [(100, z216)]) ++ [(102, List.replicate 2 (.int 0))]) ++ [(100, z20)]) ++ [(100, z8)]) ++ [(100, z8)]) ++ [(100, z6)]) ++ [(100, z48)]) ++ [(100, z48)]) ++ [(100, z48)]) ++ [(100, z48)]) ++ [(100, z48)]) ++ [(100, z6)]) ++ [(100, z6)])) (j := 0) hb rfl dX6_init_138 kf_X6_59 (by decide) (gg rfl) (by simp only [List.length_set, lf] <;> decide) (fun q hq => by cases hq; exact ⟨tyX6 21, by decide +kernel, rfl, rfl⟩) (fun q hq => by cases hq; exact Or.inr ⟨rfl, rfl, rfl⟩) (gw (Nat.le_of_ble_eq_true rfl) rfl) ?_
  refine pw_aload_n dX6_init_141 rfl ?_
  refine pw_bipush (v := nI 8) dX6_init_142 (by decide) ?_
  have hA18 : (M0 ++ ([(6, (((((((((((((((((f6).set 0 (.ref (b + 1))).set 1 (.ref (b + 2))).set 2 (.ref (b + 3))).set 3 (.ref (b + 4))).set 4 (.ref (b + 5))).set 5 (.ref (b + 6))).set 7 (.ref (b + 7))).set 10 (.ref (b + 8))).set 11 (.ref (b + 9))).set 14 (.ref (b + 10))).set 15 (.ref (b + 11))).set 16 (.ref (b + 12))).set 17 (.ref (b + 13))).set 18 (.ref (b + 14))).set 19 (.ref (b + 15))).set 20 (.ref (b + 16))).set 21 (.ref (b + 17))), (100, z108)] ++ ((((((((((((((([(100, z648)] ++ [(100, z108)]) ++ [(100, z108)]) ++ [(100, z216)]) ++ [(102, List.replicate 2 (.int 0))]) ++ [(100, z20)]) ++ [(100, z8)]) ++ [(100, z8)]) ++ [(100, z6)]) ++ [(100, z48)]) ++ [(100, z48)]) ++ [(100, z48)]) ++ [(100, z48)]) ++ [(100, z48)]) ++ [(100, z6)]) ++ [(100, z6)]) : List PE)).length = b + 18 := pa_len hb (by simp only [-List.reduceReplicate, List.length_append, List.length_cons, List.length_nil, List.length_set] <;> omega)
  have hS18 : kv_sum (M0 ++ ([(6, (((((((((((((((((f6).set 0 (.ref (b + 1))).set 1 (.ref (b + 2))).set 2 (.ref (b + 3))).set 3 (.ref (b + 4))).set 4 (.ref (b + 5))).set 5 (.ref (b + 6))).set 7 (.ref (b + 7))).set 10 (.ref (b + 8))).set 11 (.ref (b + 9))).set 14 (.ref (b + 10))).set 15 (.ref (b + 11))).set 16 (.ref (b + 12))).set 17 (.ref (b + 13))).set 18 (.ref (b + 14))).set 19 (.ref (b + 15))).set 20 (.ref (b + 16))).set 21 (.ref (b + 17))), (100, z108)] ++ ((((((((((((((([(100, z648)] ++ [(100, z108)]) ++ [(100, z108)]) ++ [(100, z216)]) ++ [(102, List.replicate 2 (.int 0))]) ++ [(100, z20)]) ++ [(100, z8)]) ++ [(100, z8)]) ++ [(100, z6)]) ++ [(100, z48)]) ++ [(100, z48)]) ++ [(100, z48)]) ++ [(100, z48)]) ++ [(100, z48)]) ++ [(100, z6)]) ++ [(100, z6)]) : List PE)) = z + 1507 := pa_sum hz (by simp only [-List.reduceReplicate, kv_sum_app2, kv_sum_cons, kv_sum_nil, l108, l648, l216, l48, l20, l8, l6, lf, List.length_cons, List.length_nil, List.length_replicate, List.length_set] <;> omega)
  refine pa_arr (L' := [(6, (((((((((((((((((f6).set 0 (.ref (b + 1))).set 1 (.ref (b + 2))).set 2 (.ref (b + 3))).set 3 (.ref (b + 4))).set 4 (.ref (b + 5))).set 5 (.ref (b + 6))).set 7 (.ref (b + 7))).set 10 (.ref (b + 8))).set 11 (.ref (b + 9))).set 14 (.ref (b + 10))).set 15 (.ref (b + 11))).set 16 (.ref (b + 12))).set 17 (.ref (b + 13))).set 18 (.ref (b + 14))).set 19 (.ref (b + 15))).set 20 (.ref (b + 16))).set 21 (.ref (b + 17))), (100, z108)] ++ (((((((((((((((([(100, z648)] ++ [(100, z108)]) ++ [(100, z108)]) ++ [(100, z216)]) ++ [(102, List.replicate 2 (.int 0))]) ++ [(100, z20)]) ++ [(100, z8)]) ++ [(100, z8)]) ++ [(100, z6)]) ++ [(100, z48)]) ++ [(100, z48)]) ++ [(100, z48)]) ++ [(100, z48)]) ++ [(100, z48)]) ++ [(100, z6)]) ++ [(100, z6)]) ++ [(100, z8)])) (t := 0) (k := 8) hA18 hS18 dX6_init_144 (by simp) ak_int rfl (by decide) (by clear hA18 hS18; omega) (by clear hA18 hS18; omega) (by clear hA18 hS18; omega) (ga h8) ?_
  clear hA18 hS18
  refine pa_putf (L' := [(6, ((((((((((((((((((f6).set 0 (.ref (b + 1))).set 1 (.ref (b + 2))).set 2 (.ref (b + 3))).set 3 (.ref (b + 4))).set 4 (.ref (b + 5))).set 5 (.ref (b + 6))).set 7 (.ref (b + 7))).set 10 (.ref (b + 8))).set 11 (.ref (b + 9))).set 14 (.ref (b + 10))).set 15 (.ref (b + 11))).set 16 (.ref (b + 12))).set 17 (.ref (b + 13))).set 18 (.ref (b + 14))).set 19 (.ref (b + 15))).set 20 (.ref (b + 16))).set 21 (.ref (b + 17))).set 22 (.ref (b + 18))), (100, z108)] ++ (((((((((((((((([(100, z648)] ++ [(100, z108)]) ++ [(100, z108)]) ++ [(100, z216)]) ++ [(102, List.replicate 2 (.int 0))]) ++ [(100, z20)]) ++ [(100, z8)]) ++ [(100, z8)]) ++ [(100, z6)]) ++ [(100, z48)]) ++ [(100, z48)]) ++ [(100, z48)]) ++ [(100, z48)]) ++ [(100, z48)]) ++ [(100, z6)]) ++ [(100, z6)]) ++ [(100, z8)])) (j := 0) hb rfl dX6_init_146 kf_X6_62 (by decide) (gg rfl) (by simp only [List.length_set, lf] <;> decide) (fun q hq => by cases hq; exact ⟨tyX6 22, by decide +kernel, rfl, rfl⟩) (fun q hq => by cases hq; exact Or.inr ⟨rfl, rfl, rfl⟩) (gw (Nat.le_of_ble_eq_true rfl) rfl) ?_
  have hA19 : (M0 ++ ([(6, ((((((((((((((((((f6).set 0 (.ref (b + 1))).set 1 (.ref (b + 2))).set 2 (.ref (b + 3))).set 3 (.ref (b + 4))).set 4 (.ref (b + 5))).set 5 (.ref (b + 6))).set 7 (.ref (b + 7))).set 10 (.ref (b + 8))).set 11 (.ref (b + 9))).set 14 (.ref (b + 10))).set 15 (.ref (b + 11))).set 16 (.ref (b + 12))).set 17 (.ref (b + 13))).set 18 (.ref (b + 14))).set 19 (.ref (b + 15))).set 20 (.ref (b + 16))).set 21 (.ref (b + 17))).set 22 (.ref (b + 18))), (100, z108)] ++ (((((((((((((((([(100, z648)] ++ [(100, z108)]) ++ [(100, z108)]) ++ [(100, z216)]) ++ [(102, List.replicate 2 (.int 0))]) ++ [(100, z20)]) ++ [(100, z8)]) ++ [(100, z8)]) ++ [(100, z6)]) ++ [(100, z48)]) ++ [(100, z48)]) ++ [(100, z48)]) ++ [(100, z48)]) ++ [(100, z48)]) ++ [(100, z6)]) ++ [(100, z6)]) ++ [(100, z8)]) : List PE)).length = b + 19 := pa_len hb (by simp only [-List.reduceReplicate, List.length_append, List.length_cons, List.length_nil, List.length_set] <;> omega)
  have hS19 : kv_sum (M0 ++ ([(6, ((((((((((((((((((f6).set 0 (.ref (b + 1))).set 1 (.ref (b + 2))).set 2 (.ref (b + 3))).set 3 (.ref (b + 4))).set 4 (.ref (b + 5))).set 5 (.ref (b + 6))).set 7 (.ref (b + 7))).set 10 (.ref (b + 8))).set 11 (.ref (b + 9))).set 14 (.ref (b + 10))).set 15 (.ref (b + 11))).set 16 (.ref (b + 12))).set 17 (.ref (b + 13))).set 18 (.ref (b + 14))).set 19 (.ref (b + 15))).set 20 (.ref (b + 16))).set 21 (.ref (b + 17))).set 22 (.ref (b + 18))), (100, z108)] ++ (((((((((((((((([(100, z648)] ++ [(100, z108)]) ++ [(100, z108)]) ++ [(100, z216)]) ++ [(102, List.replicate 2 (.int 0))]) ++ [(100, z20)]) ++ [(100, z8)]) ++ [(100, z8)]) ++ [(100, z6)]) ++ [(100, z48)]) ++ [(100, z48)]) ++ [(100, z48)]) ++ [(100, z48)]) ++ [(100, z48)]) ++ [(100, z6)]) ++ [(100, z6)]) ++ [(100, z8)]) : List PE)) = z + 1515 := pa_sum hz (by simp only [-List.reduceReplicate, kv_sum_app2, kv_sum_cons, kv_sum_nil, l108, l648, l216, l48, l20, l8, l6, lf, List.length_cons, List.length_nil, List.length_replicate, List.length_set] <;> omega)
  refine k_Model2 hb hb9 (by rw [hf6]; rfl) l108 hA19 hS19 ?_
  subst h108 h648 h216 h48 h20 h8 h6 hf6
  exact hf
end MAKE5
