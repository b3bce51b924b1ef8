/-! the law: one case each -/
abbrev mL_law : MT := (RL, ⟨"TrailTeamsLaw", "law", "([I)Z"⟩, cL_law, 4, some .boolean)
theorem MX.sm {ν μ : Mu} {c : CS} (hx : MX μ c) (h : SM ν μ) : MX ν c := by
  obtain ⟨s0, ⟨t1, t2, t3⟩, ⟨s1, s2⟩, s3, s4, s5⟩ := hx
  exact ⟨fun k hk => (h _ _ (by decide)).trans (s0 k hk), ⟨t1, (h _ _ (by decide)).trans t2, fun i k a b => (h _ _ (by decide)).trans (t3 i k a b)⟩, ⟨fun j hj => (h _ _ (by decide)).trans (s1 j hj), fun j k a b e => (h _ _ (by decide)).trans (s2 j k a b e)⟩, (h _ _ (by decide)).trans s3, s4, fun k hk => ⟨(h _ _ (by decide)).trans (s5 k hk).1, (s5 k hk).2⟩⟩
theorem CX.sx {ν μ : Mu} {c : CS} (hx : CX μ c) (hw : CW c) (h : SX ν μ) : CX ν c := hx.off hw (fun q k _ g => h q k g)
theorem and31 (x : Int32) : ∃ k : Nat, k < 32 ∧ x &&& nI 31 = nI k := by
  refine ⟨(x &&& nI 31).toBitVec.toNat, ?_, ?_⟩
  · show ((x.toBitVec &&& (nI 31).toBitVec) : BitVec 32).toNat < 32
    rw [BitVec.toNat_and]
    exact Nat.lt_of_le_of_lt Nat.and_le_right (by decide)
  · apply Int32.toBitVec_inj.mp
    show _ = BitVec.ofNat 32 _
    simp
section LAWS
variable {l : Launch} {E : EV} {D : va_G} {cA : Nat → ClassId} {fin : Option Value → Mu → Prop} {μ : Mu} {d : Nat}
set_option maxRecDepth 100000 in
set_option maxHeartbeats 4000000 in
theorem lw_c0 {L j : Nat} (hL : E.2.2.1 3 = L) (hj : 5 * j + 5 ≤ L) (hL2 : L ≤ 2560) (hE : ES E) {c : CS} (hw : CW c) (hx : CX μ c) (hm : MX μ c) (ih : ∀ (ν : Mu) (c : CS), CX ν c → MX ν c → CW c → PS l E D cA mL_law 8 fin 18 [some (.ref (1000 + 3)), some (.ref 0), some (.ref 227), some (.int (nI (5 * (j + 1))))] [] ν) : PS l E D cA mL_law 8 fin 160 [some (.ref (1000 + 3)), some (.ref 0), some (.ref 227), some (.int (nI (5 * j)))] [] μ := by
  refine pw_aload_n dL_law_160 rfl ?_
  refine pw_aload_n dL_law_161 rfl ?_
  refine pw_iload_n dL_law_162 rfl ?_
  refine pw_iconst_ (v := nI 1) dL_law_163 (by decide) ?_
  refine px_iaddn (c := 5 * j + 1) dL_law_164 (by omega) ?_
  refine ps_iald_s (k := 3) (j := 5 * j + 1) (x := E.2.2.2 3 (5 * j + 1)) dL_law_165 (by decide) (by omega) rfl (by omega) rfl ?_
  refine pw_aload_n dL_law_166 rfl ?_
  refine pw_iload_n dL_law_167 rfl ?_
  refine pw_iconst_ (v := nI 2) dL_law_168 (by decide) ?_
  refine px_iaddn (c := 5 * j + 2) dL_law_169 (by omega) ?_
  refine ps_iald_s (k := 3) (j := 5 * j + 2) (x := E.2.2.2 3 (5 * j + 2)) dL_law_170 (by decide) (by omega) rfl (by omega) rfl ?_
  refine ps_callV (b := 0) (As := [.int (E.2.2.2 3 (5 * j + 1)), .int (E.2.2.2 3 (5 * j + 2))]) (st := []) dL_law_171 cv_L_13 rfl ⟨by decide, by decide +kernel⟩ (Nat.le_of_ble_eq_true rfl) (Nat.le_of_ble_eq_true rfl) ?_
  refine x_set hw hx hE (fun ν v1 v2 => ?_)
  show PS l E D cA mL_law 8 fin 174 [some (.ref (1000 + 3)), some (.ref 0), some (.ref 227), some (.int (nI (5 * j)))] [.int ((o_set c (E.2.2.2 3 (5 * j + 1)) (E.2.2.2 3 (5 * j + 2))).1)] ν
  refine pw_aload_n dL_law_174 rfl ?_
  refine pw_aload_n dL_law_175 rfl ?_
  refine pw_iload_n dL_law_176 rfl ?_
  refine pw_iconst_ (v := nI 1) dL_law_177 (by decide) ?_
  refine px_iaddn (c := 5 * j + 1) dL_law_178 (by omega) ?_
  refine ps_iald_s (k := 3) (j := 5 * j + 1) (x := E.2.2.2 3 (5 * j + 1)) dL_law_179 (by decide) (by omega) rfl (by omega) rfl ?_
  refine pw_aload_n dL_law_180 rfl ?_
  refine pw_iload_n dL_law_181 rfl ?_
  refine pw_iconst_ (v := nI 2) dL_law_182 (by decide) ?_
  refine px_iaddn (c := 5 * j + 2) dL_law_183 (by omega) ?_
  refine ps_iald_s (k := 3) (j := 5 * j + 2) (x := E.2.2.2 3 (5 * j + 2)) dL_law_184 (by decide) (by omega) rfl (by omega) rfl ?_
  refine ps_callV (b := 227) (As := [.int (E.2.2.2 3 (5 * j + 1)), .int (E.2.2.2 3 (5 * j + 2))]) (st := [.int ((o_set c (E.2.2.2 3 (5 * j + 1)) (E.2.2.2 3 (5 * j + 2))).1)]) dL_law_185 cv_L_17 rfl ⟨by decide, by decide +kernel⟩ (Nat.le_of_ble_eq_true rfl) (Nat.le_of_ble_eq_true rfl) ?_
  refine m_set hw (hm.sm v2) (fun κ u1 u2 => ?_)
  show PS l E D cA mL_law 8 fin 188 [some (.ref (1000 + 3)), some (.ref 0), some (.ref 227), some (.int (nI (5 * j)))] [.int ((o_set c (E.2.2.2 3 (5 * j + 1)) (E.2.2.2 3 (5 * j + 2))).1), .int ((o_set c (E.2.2.2 3 (5 * j + 1)) (E.2.2.2 3 (5 * j + 2))).1)] κ
  refine pw_icmp_eq (tgt := 1026) dL_law_188 (by decide) (fun _ => ?_) (fun h9 => absurd rfl h9)
  refine px_iincn (n := 5) (a := 5 * j) (b := 5 * j + 5) (ls' := [some (.ref (1000 + 3)), some (.ref 0), some (.ref 227), some (.int (nI (5 * j + 5)))]) dL_law_1026 rfl rfl rfl rfl ?_
  refine pw_goto (tgt := 18) dL_law_1029 (by decide) ?_
  exact ih κ (o_set c (E.2.2.2 3 (5 * j + 1)) (E.2.2.2 3 (5 * j + 2))).2 (v1.sx (w_set hw) u2) u1 (w_set hw)
set_option maxRecDepth 100000 in
set_option maxHeartbeats 4000000 in
theorem lw_c1 {L j : Nat} (hL : E.2.2.1 3 = L) (hj : 5 * j + 5 ≤ L) (hL2 : L ≤ 2560) (hE : ES E) {c : CS} (hw : CW c) (hx : CX μ c) (hm : MX μ c) (ih : ∀ (ν : Mu) (c : CS), CX ν c → MX ν c → CW c → PS l E D cA mL_law 8 fin 18 [some (.ref (1000 + 3)), some (.ref 0), some (.ref 227), some (.int (nI (5 * (j + 1))))] [] ν) : PS l E D cA mL_law 8 fin 193 [some (.ref (1000 + 3)), some (.ref 0), some (.ref 227), some (.int (nI (5 * j)))] [] μ := by
  refine pw_aload_n dL_law_193 rfl ?_
  refine pw_aload_n dL_law_194 rfl ?_
  refine pw_iload_n dL_law_195 rfl ?_
  refine pw_iconst_ (v := nI 1) dL_law_196 (by decide) ?_
  refine px_iaddn (c := 5 * j + 1) dL_law_197 (by omega) ?_
  refine ps_iald_s (k := 3) (j := 5 * j + 1) (x := E.2.2.2 3 (5 * j + 1)) dL_law_198 (by decide) (by omega) rfl (by omega) rfl ?_
  refine pw_aload_n dL_law_199 rfl ?_
  refine pw_iload_n dL_law_200 rfl ?_
  refine pw_iconst_ (v := nI 2) dL_law_201 (by decide) ?_
  refine px_iaddn (c := 5 * j + 2) dL_law_202 (by omega) ?_
  refine ps_iald_s (k := 3) (j := 5 * j + 2) (x := E.2.2.2 3 (5 * j + 2)) dL_law_203 (by decide) (by omega) rfl (by omega) rfl ?_
  refine pw_aload_n dL_law_204 rfl ?_
  refine pw_iload_n dL_law_205 rfl ?_
  refine pw_iconst_ (v := nI 3) dL_law_206 (by decide) ?_
  refine px_iaddn (c := 5 * j + 3) dL_law_207 (by omega) ?_
  refine ps_iald_s (k := 3) (j := 5 * j + 3) (x := E.2.2.2 3 (5 * j + 3)) dL_law_208 (by decide) (by omega) rfl (by omega) rfl ?_
  refine pw_aload_n dL_law_209 rfl ?_
  refine pw_iload_n dL_law_210 rfl ?_
  refine pw_iconst_ (v := nI 4) dL_law_211 (by decide) ?_
  refine px_iaddn (c := 5 * j + 4) dL_law_212 (by omega) ?_
  refine ps_iald_s (k := 3) (j := 5 * j + 4) (x := E.2.2.2 3 (5 * j + 4)) dL_law_213 (by decide) (by omega) rfl (by omega) rfl ?_
  refine ps_callV (b := 0) (As := [.int (E.2.2.2 3 (5 * j + 1)), .int (E.2.2.2 3 (5 * j + 2)), .int (E.2.2.2 3 (5 * j + 3)), .int (E.2.2.2 3 (5 * j + 4))]) (st := []) dL_law_214 cv_L_18 rfl ⟨by decide, by decide +kernel⟩ (Nat.le_of_ble_eq_true rfl) (Nat.le_of_ble_eq_true rfl) ?_
  refine x_place hw hx (fun ν v1 v2 => ?_)
  show PS l E D cA mL_law 8 fin 217 [some (.ref (1000 + 3)), some (.ref 0), some (.ref 227), some (.int (nI (5 * j)))] [.int ((o_place c (E.2.2.2 3 (5 * j + 1)) (E.2.2.2 3 (5 * j + 2)) (E.2.2.2 3 (5 * j + 3)) (E.2.2.2 3 (5 * j + 4))).1)] ν
  refine pw_aload_n dL_law_217 rfl ?_
  refine pw_aload_n dL_law_218 rfl ?_
  refine pw_iload_n dL_law_219 rfl ?_
  refine pw_iconst_ (v := nI 1) dL_law_220 (by decide) ?_
  refine px_iaddn (c := 5 * j + 1) dL_law_221 (by omega) ?_
  refine ps_iald_s (k := 3) (j := 5 * j + 1) (x := E.2.2.2 3 (5 * j + 1)) dL_law_222 (by decide) (by omega) rfl (by omega) rfl ?_
  refine pw_aload_n dL_law_223 rfl ?_
  refine pw_iload_n dL_law_224 rfl ?_
  refine pw_iconst_ (v := nI 2) dL_law_225 (by decide) ?_
  refine px_iaddn (c := 5 * j + 2) dL_law_226 (by omega) ?_
  refine ps_iald_s (k := 3) (j := 5 * j + 2) (x := E.2.2.2 3 (5 * j + 2)) dL_law_227 (by decide) (by omega) rfl (by omega) rfl ?_
  refine pw_aload_n dL_law_228 rfl ?_
  refine pw_iload_n dL_law_229 rfl ?_
  refine pw_iconst_ (v := nI 3) dL_law_230 (by decide) ?_
  refine px_iaddn (c := 5 * j + 3) dL_law_231 (by omega) ?_
  refine ps_iald_s (k := 3) (j := 5 * j + 3) (x := E.2.2.2 3 (5 * j + 3)) dL_law_232 (by decide) (by omega) rfl (by omega) rfl ?_
  refine pw_aload_n dL_law_233 rfl ?_
  refine pw_iload_n dL_law_234 rfl ?_
  refine pw_iconst_ (v := nI 4) dL_law_235 (by decide) ?_
  refine px_iaddn (c := 5 * j + 4) dL_law_236 (by omega) ?_
  refine ps_iald_s (k := 3) (j := 5 * j + 4) (x := E.2.2.2 3 (5 * j + 4)) dL_law_237 (by decide) (by omega) rfl (by omega) rfl ?_
  refine ps_callV (b := 227) (As := [.int (E.2.2.2 3 (5 * j + 1)), .int (E.2.2.2 3 (5 * j + 2)), .int (E.2.2.2 3 (5 * j + 3)), .int (E.2.2.2 3 (5 * j + 4))]) (st := [.int ((o_place c (E.2.2.2 3 (5 * j + 1)) (E.2.2.2 3 (5 * j + 2)) (E.2.2.2 3 (5 * j + 3)) (E.2.2.2 3 (5 * j + 4))).1)]) dL_law_238 cv_L_22 rfl ⟨by decide, by decide +kernel⟩ (Nat.le_of_ble_eq_true rfl) (Nat.le_of_ble_eq_true rfl) ?_
  refine m_place hw (hm.sm v2) (fun κ u1 u2 => ?_)
  show PS l E D cA mL_law 8 fin 241 [some (.ref (1000 + 3)), some (.ref 0), some (.ref 227), some (.int (nI (5 * j)))] [.int ((o_place c (E.2.2.2 3 (5 * j + 1)) (E.2.2.2 3 (5 * j + 2)) (E.2.2.2 3 (5 * j + 3)) (E.2.2.2 3 (5 * j + 4))).1), .int ((o_place c (E.2.2.2 3 (5 * j + 1)) (E.2.2.2 3 (5 * j + 2)) (E.2.2.2 3 (5 * j + 3)) (E.2.2.2 3 (5 * j + 4))).1)] κ
  refine pw_icmp_eq (tgt := 1026) dL_law_241 (by decide) (fun _ => ?_) (fun h9 => absurd rfl h9)
  refine px_iincn (n := 5) (a := 5 * j) (b := 5 * j + 5) (ls' := [some (.ref (1000 + 3)), some (.ref 0), some (.ref 227), some (.int (nI (5 * j + 5)))]) dL_law_1026 rfl rfl rfl rfl ?_
  refine pw_goto (tgt := 18) dL_law_1029 (by decide) ?_
  exact ih κ (o_place c (E.2.2.2 3 (5 * j + 1)) (E.2.2.2 3 (5 * j + 2)) (E.2.2.2 3 (5 * j + 3)) (E.2.2.2 3 (5 * j + 4))).2 (v1.sx (w_place hw) u2) u1 (w_place hw)
set_option maxRecDepth 100000 in
set_option maxHeartbeats 4000000 in
theorem lw_c2 {L j : Nat} (hL : E.2.2.1 3 = L) (hj : 5 * j + 5 ≤ L) (hL2 : L ≤ 2560) (hE : ES E) {c : CS} (hw : CW c) (hx : CX μ c) (hm : MX μ c) (ih : ∀ (ν : Mu) (c : CS), CX ν c → MX ν c → CW c → PS l E D cA mL_law 8 fin 18 [some (.ref (1000 + 3)), some (.ref 0), some (.ref 227), some (.int (nI (5 * (j + 1))))] [] ν) : PS l E D cA mL_law 8 fin 246 [some (.ref (1000 + 3)), some (.ref 0), some (.ref 227), some (.int (nI (5 * j)))] [] μ := by
  refine pw_aload_n dL_law_246 rfl ?_
  refine pw_aload_n dL_law_247 rfl ?_
  refine pw_iload_n dL_law_248 rfl ?_
  refine pw_iconst_ (v := nI 1) dL_law_249 (by decide) ?_
  refine px_iaddn (c := 5 * j + 1) dL_law_250 (by omega) ?_
  refine ps_iald_s (k := 3) (j := 5 * j + 1) (x := E.2.2.2 3 (5 * j + 1)) dL_law_251 (by decide) (by omega) rfl (by omega) rfl ?_
  refine pw_aload_n dL_law_252 rfl ?_
  refine pw_iload_n dL_law_253 rfl ?_
  refine pw_iconst_ (v := nI 2) dL_law_254 (by decide) ?_
  refine px_iaddn (c := 5 * j + 2) dL_law_255 (by omega) ?_
  refine ps_iald_s (k := 3) (j := 5 * j + 2) (x := E.2.2.2 3 (5 * j + 2)) dL_law_256 (by decide) (by omega) rfl (by omega) rfl ?_
  by_cases hz : E.2.2.2 3 (5 * j + 2) = 0
  · refine pw_if_eq (tgt := 264) dL_law_257 (by decide) (fun _ => ?_) (fun h9 => absurd hz h9)
    refine pw_iconst_ (v := nI 0) dL_law_264 (by decide) ?_
    refine ps_callV (b := 0) (As := [.int (E.2.2.2 3 (5 * j + 1)), .int (nI 0)]) (st := []) dL_law_265 cv_L_23 rfl ⟨by decide, by decide +kernel⟩ (Nat.le_of_ble_eq_true rfl) (Nat.le_of_ble_eq_true rfl) ?_
    refine x_close hw hx (fun ν v1 v2 => ?_)
    show PS l E D cA mL_law 8 fin 268 [some (.ref (1000 + 3)), some (.ref 0), some (.ref 227), some (.int (nI (5 * j)))] [.int ((o_close c (E.2.2.2 3 (5 * j + 1)) (nI 0)).1)] ν
    refine pw_aload_n dL_law_268 rfl ?_
    refine pw_aload_n dL_law_269 rfl ?_
    refine pw_iload_n dL_law_270 rfl ?_
    refine pw_iconst_ (v := nI 1) dL_law_271 (by decide) ?_
    refine px_iaddn (c := 5 * j + 1) dL_law_272 (by omega) ?_
    refine ps_iald_s (k := 3) (j := 5 * j + 1) (x := E.2.2.2 3 (5 * j + 1)) dL_law_273 (by decide) (by omega) rfl (by omega) rfl ?_
    refine pw_aload_n dL_law_274 rfl ?_
    refine pw_iload_n dL_law_275 rfl ?_
    refine pw_iconst_ (v := nI 2) dL_law_276 (by decide) ?_
    refine px_iaddn (c := 5 * j + 2) dL_law_277 (by omega) ?_
    refine ps_iald_s (k := 3) (j := 5 * j + 2) (x := E.2.2.2 3 (5 * j + 2)) dL_law_278 (by decide) (by omega) rfl (by omega) rfl ?_
    refine pw_if_eq (tgt := 286) dL_law_279 (by decide) (fun _ => ?_) (fun h9 => absurd hz h9)
    refine pw_iconst_ (v := nI 0) dL_law_286 (by decide) ?_
    refine ps_callV (b := 227) (As := [.int (E.2.2.2 3 (5 * j + 1)), .int (nI 0)]) (st := [.int ((o_close c (E.2.2.2 3 (5 * j + 1)) (nI 0)).1)]) dL_law_287 cv_L_27 rfl ⟨by decide, by decide +kernel⟩ (Nat.le_of_ble_eq_true rfl) (Nat.le_of_ble_eq_true rfl) ?_
    refine m_close hw (hm.sm v2) (Or.inl rfl) (fun κ u1 u2 => ?_)
    show PS l E D cA mL_law 8 fin 290 [some (.ref (1000 + 3)), some (.ref 0), some (.ref 227), some (.int (nI (5 * j)))] [.int ((o_close c (E.2.2.2 3 (5 * j + 1)) (nI 0)).1), .int ((o_close c (E.2.2.2 3 (5 * j + 1)) (nI 0)).1)] κ
    refine pw_icmp_eq (tgt := 1026) dL_law_290 (by decide) (fun _ => ?_) (fun h9 => absurd rfl h9)
    refine px_iincn (n := 5) (a := 5 * j) (b := 5 * j + 5) (ls' := [some (.ref (1000 + 3)), some (.ref 0), some (.ref 227), some (.int (nI (5 * j + 5)))]) dL_law_1026 rfl rfl rfl rfl ?_
    refine pw_goto (tgt := 18) dL_law_1029 (by decide) ?_
    exact ih κ (o_close c (E.2.2.2 3 (5 * j + 1)) (nI 0)).2 (v1.sx (w_close hw) u2) u1 (w_close hw)
  · refine pw_if_eq (tgt := 264) dL_law_257 (by decide) (fun h9 => absurd h9 hz) (fun _ => ?_)
    refine pw_iconst_ (v := nI 1) dL_law_260 (by decide) ?_
    refine pw_goto (tgt := 265) dL_law_261 (by decide) ?_
    refine ps_callV (b := 0) (As := [.int (E.2.2.2 3 (5 * j + 1)), .int (nI 1)]) (st := []) dL_law_265 cv_L_23 rfl ⟨by decide, by decide +kernel⟩ (Nat.le_of_ble_eq_true rfl) (Nat.le_of_ble_eq_true rfl) ?_
    refine x_close hw hx (fun ν v1 v2 => ?_)
    show PS l E D cA mL_law 8 fin 268 [some (.ref (1000 + 3)), some (.ref 0), some (.ref 227), some (.int (nI (5 * j)))] [.int ((o_close c (E.2.2.2 3 (5 * j + 1)) (nI 1)).1)] ν
    refine pw_aload_n dL_law_268 rfl ?_
    refine pw_aload_n dL_law_269 rfl ?_
    refine pw_iload_n dL_law_270 rfl ?_
    refine pw_iconst_ (v := nI 1) dL_law_271 (by decide) ?_
    refine px_iaddn (c := 5 * j + 1) dL_law_272 (by omega) ?_
    refine ps_iald_s (k := 3) (j := 5 * j + 1) (x := E.2.2.2 3 (5 * j + 1)) dL_law_273 (by decide) (by omega) rfl (by omega) rfl ?_
    refine pw_aload_n dL_law_274 rfl ?_
    refine pw_iload_n dL_law_275 rfl ?_
    refine pw_iconst_ (v := nI 2) dL_law_276 (by decide) ?_
    refine px_iaddn (c := 5 * j + 2) dL_law_277 (by omega) ?_
    refine ps_iald_s (k := 3) (j := 5 * j + 2) (x := E.2.2.2 3 (5 * j + 2)) dL_law_278 (by decide) (by omega) rfl (by omega) rfl ?_
    refine pw_if_eq (tgt := 286) dL_law_279 (by decide) (fun h9 => absurd h9 hz) (fun _ => ?_)
    refine pw_iconst_ (v := nI 1) dL_law_282 (by decide) ?_
    refine pw_goto (tgt := 287) dL_law_283 (by decide) ?_
    refine ps_callV (b := 227) (As := [.int (E.2.2.2 3 (5 * j + 1)), .int (nI 1)]) (st := [.int ((o_close c (E.2.2.2 3 (5 * j + 1)) (nI 1)).1)]) dL_law_287 cv_L_27 rfl ⟨by decide, by decide +kernel⟩ (Nat.le_of_ble_eq_true rfl) (Nat.le_of_ble_eq_true rfl) ?_
    refine m_close hw (hm.sm v2) (Or.inr rfl) (fun κ u1 u2 => ?_)
    show PS l E D cA mL_law 8 fin 290 [some (.ref (1000 + 3)), some (.ref 0), some (.ref 227), some (.int (nI (5 * j)))] [.int ((o_close c (E.2.2.2 3 (5 * j + 1)) (nI 1)).1), .int ((o_close c (E.2.2.2 3 (5 * j + 1)) (nI 1)).1)] κ
    refine pw_icmp_eq (tgt := 1026) dL_law_290 (by decide) (fun _ => ?_) (fun h9 => absurd rfl h9)
    refine px_iincn (n := 5) (a := 5 * j) (b := 5 * j + 5) (ls' := [some (.ref (1000 + 3)), some (.ref 0), some (.ref 227), some (.int (nI (5 * j + 5)))]) dL_law_1026 rfl rfl rfl rfl ?_
    refine pw_goto (tgt := 18) dL_law_1029 (by decide) ?_
    exact ih κ (o_close c (E.2.2.2 3 (5 * j + 1)) (nI 1)).2 (v1.sx (w_close hw) u2) u1 (w_close hw)
set_option maxRecDepth 100000 in
set_option maxHeartbeats 4000000 in
theorem lw_c3 {L j : Nat} (hL : E.2.2.1 3 = L) (hj : 5 * j + 5 ≤ L) (hL2 : L ≤ 2560) (hE : ES E) {c : CS} (hw : CW c) (hx : CX μ c) (hm : MX μ c) (ih : ∀ (ν : Mu) (c : CS), CX ν c → MX ν c → CW c → PS l E D cA mL_law 8 fin 18 [some (.ref (1000 + 3)), some (.ref 0), some (.ref 227), some (.int (nI (5 * (j + 1))))] [] ν) : PS l E D cA mL_law 8 fin 295 [some (.ref (1000 + 3)), some (.ref 0), some (.ref 227), some (.int (nI (5 * j)))] [] μ := by
  refine pw_aload_n dL_law_295 rfl ?_
  refine pw_aload_n dL_law_296 rfl ?_
  refine pw_iload_n dL_law_297 rfl ?_
  refine pw_iconst_ (v := nI 1) dL_law_298 (by decide) ?_
  refine px_iaddn (c := 5 * j + 1) dL_law_299 (by omega) ?_
  refine ps_iald_s (k := 3) (j := 5 * j + 1) (x := E.2.2.2 3 (5 * j + 1)) dL_law_300 (by decide) (by omega) rfl (by omega) rfl ?_
  refine ps_callV (b := 0) (As := [.int (E.2.2.2 3 (5 * j + 1))]) (st := []) dL_law_301 cv_L_28 rfl ⟨by decide, by decide +kernel⟩ (Nat.le_of_ble_eq_true rfl) (Nat.le_of_ble_eq_true rfl) ?_
  refine x_team hw hx (fun ν v1 v2 => ?_)
  show PS l E D cA mL_law 8 fin 304 [some (.ref (1000 + 3)), some (.ref 0), some (.ref 227), some (.int (nI (5 * j)))] [.int ((o_team c (E.2.2.2 3 (5 * j + 1))).1)] ν
  refine pw_aload_n dL_law_304 rfl ?_
  refine pw_aload_n dL_law_305 rfl ?_
  refine pw_iload_n dL_law_306 rfl ?_
  refine pw_iconst_ (v := nI 1) dL_law_307 (by decide) ?_
  refine px_iaddn (c := 5 * j + 1) dL_law_308 (by omega) ?_
  refine ps_iald_s (k := 3) (j := 5 * j + 1) (x := E.2.2.2 3 (5 * j + 1)) dL_law_309 (by decide) (by omega) rfl (by omega) rfl ?_
  refine ps_callV (b := 227) (As := [.int (E.2.2.2 3 (5 * j + 1))]) (st := [.int ((o_team c (E.2.2.2 3 (5 * j + 1))).1)]) dL_law_310 cv_L_32 rfl ⟨by decide, by decide +kernel⟩ (Nat.le_of_ble_eq_true rfl) (Nat.le_of_ble_eq_true rfl) ?_
  refine m_team hw (hm.sm v2) (fun κ u1 u2 => ?_)
  show PS l E D cA mL_law 8 fin 313 [some (.ref (1000 + 3)), some (.ref 0), some (.ref 227), some (.int (nI (5 * j)))] [.int ((o_team c (E.2.2.2 3 (5 * j + 1))).1), .int ((o_team c (E.2.2.2 3 (5 * j + 1))).1)] κ
  refine pw_icmp_eq (tgt := 1026) dL_law_313 (by decide) (fun _ => ?_) (fun h9 => absurd rfl h9)
  refine px_iincn (n := 5) (a := 5 * j) (b := 5 * j + 5) (ls' := [some (.ref (1000 + 3)), some (.ref 0), some (.ref 227), some (.int (nI (5 * j + 5)))]) dL_law_1026 rfl rfl rfl rfl ?_
  refine pw_goto (tgt := 18) dL_law_1029 (by decide) ?_
  exact ih κ (o_team c (E.2.2.2 3 (5 * j + 1))).2 (v1.sx (w_team hw) u2) u1 (w_team hw)
set_option maxRecDepth 100000 in
set_option maxHeartbeats 4000000 in
theorem lw_c4 {L j : Nat} (hL : E.2.2.1 3 = L) (hj : 5 * j + 5 ≤ L) (hL2 : L ≤ 2560) (hE : ES E) {c : CS} (hw : CW c) (hx : CX μ c) (hm : MX μ c) (ih : ∀ (ν : Mu) (c : CS), CX ν c → MX ν c → CW c → PS l E D cA mL_law 8 fin 18 [some (.ref (1000 + 3)), some (.ref 0), some (.ref 227), some (.int (nI (5 * (j + 1))))] [] ν) : PS l E D cA mL_law 8 fin 318 [some (.ref (1000 + 3)), some (.ref 0), some (.ref 227), some (.int (nI (5 * j)))] [] μ := by
  refine pw_aload_n dL_law_318 rfl ?_
  refine pw_aload_n dL_law_319 rfl ?_
  refine pw_iload_n dL_law_320 rfl ?_
  refine pw_iconst_ (v := nI 1) dL_law_321 (by decide) ?_
  refine px_iaddn (c := 5 * j + 1) dL_law_322 (by omega) ?_
  refine ps_iald_s (k := 3) (j := 5 * j + 1) (x := E.2.2.2 3 (5 * j + 1)) dL_law_323 (by decide) (by omega) rfl (by omega) rfl ?_
  refine ps_callV (b := 0) (As := [.int (E.2.2.2 3 (5 * j + 1))]) (st := []) dL_law_324 cv_L_33 rfl ⟨by decide, by decide +kernel⟩ (Nat.le_of_ble_eq_true rfl) (Nat.le_of_ble_eq_true rfl) ?_
  refine x_route hw hx (fun ν v1 v2 => ?_)
  show PS l E D cA mL_law 8 fin 327 [some (.ref (1000 + 3)), some (.ref 0), some (.ref 227), some (.int (nI (5 * j)))] [.int ((o_route c (E.2.2.2 3 (5 * j + 1))).1)] ν
  refine pw_aload_n dL_law_327 rfl ?_
  refine pw_aload_n dL_law_328 rfl ?_
  refine pw_iload_n dL_law_329 rfl ?_
  refine pw_iconst_ (v := nI 1) dL_law_330 (by decide) ?_
  refine px_iaddn (c := 5 * j + 1) dL_law_331 (by omega) ?_
  refine ps_iald_s (k := 3) (j := 5 * j + 1) (x := E.2.2.2 3 (5 * j + 1)) dL_law_332 (by decide) (by omega) rfl (by omega) rfl ?_
  refine ps_callV (b := 227) (As := [.int (E.2.2.2 3 (5 * j + 1))]) (st := [.int ((o_route c (E.2.2.2 3 (5 * j + 1))).1)]) dL_law_333 cv_L_36 rfl ⟨by decide, by decide +kernel⟩ (Nat.le_of_ble_eq_true rfl) (Nat.le_of_ble_eq_true rfl) ?_
  refine m_route hw (hm.sm v2) (fun κ u1 u2 => ?_)
  show PS l E D cA mL_law 8 fin 336 [some (.ref (1000 + 3)), some (.ref 0), some (.ref 227), some (.int (nI (5 * j)))] [.int ((o_route c (E.2.2.2 3 (5 * j + 1))).1), .int ((o_route c (E.2.2.2 3 (5 * j + 1))).1)] κ
  refine pw_icmp_eq (tgt := 1026) dL_law_336 (by decide) (fun _ => ?_) (fun h9 => absurd rfl h9)
  refine px_iincn (n := 5) (a := 5 * j) (b := 5 * j + 5) (ls' := [some (.ref (1000 + 3)), some (.ref 0), some (.ref 227), some (.int (nI (5 * j + 5)))]) dL_law_1026 rfl rfl rfl rfl ?_
  refine pw_goto (tgt := 18) dL_law_1029 (by decide) ?_
  exact ih κ (o_route c (E.2.2.2 3 (5 * j + 1))).2 (v1.sx (w_route hw) u2) u1 (w_route hw)
set_option maxRecDepth 100000 in
set_option maxHeartbeats 4000000 in
theorem lw_c5 {L j : Nat} (hL : E.2.2.1 3 = L) (hj : 5 * j + 5 ≤ L) (hL2 : L ≤ 2560) (hE : ES E) {c : CS} (hw : CW c) (hx : CX μ c) (hm : MX μ c) (ih : ∀ (ν : Mu) (c : CS), CX ν c → MX ν c → CW c → PS l E D cA mL_law 8 fin 18 [some (.ref (1000 + 3)), some (.ref 0), some (.ref 227), some (.int (nI (5 * (j + 1))))] [] ν) : PS l E D cA mL_law 8 fin 341 [some (.ref (1000 + 3)), some (.ref 0), some (.ref 227), some (.int (nI (5 * j)))] [] μ := by
  refine pw_aload_n dL_law_341 rfl ?_
  refine pw_aload_n dL_law_342 rfl ?_
  refine pw_iload_n dL_law_343 rfl ?_
  refine pw_iconst_ (v := nI 1) dL_law_344 (by decide) ?_
  refine px_iaddn (c := 5 * j + 1) dL_law_345 (by omega) ?_
  refine ps_iald_s (k := 3) (j := 5 * j + 1) (x := E.2.2.2 3 (5 * j + 1)) dL_law_346 (by decide) (by omega) rfl (by omega) rfl ?_
  refine ps_callV (b := 0) (As := [.int (E.2.2.2 3 (5 * j + 1))]) (st := []) dL_law_347 cv_L_37 rfl ⟨by decide, by decide +kernel⟩ (Nat.le_of_ble_eq_true rfl) (Nat.le_of_ble_eq_true rfl) ?_
  refine x_leave hw hx (fun ν v1 v2 => ?_)
  show PS l E D cA mL_law 8 fin 350 [some (.ref (1000 + 3)), some (.ref 0), some (.ref 227), some (.int (nI (5 * j)))] [.int ((o_leave c (E.2.2.2 3 (5 * j + 1))).1)] ν
  refine pw_aload_n dL_law_350 rfl ?_
  refine pw_aload_n dL_law_351 rfl ?_
  refine pw_iload_n dL_law_352 rfl ?_
  refine pw_iconst_ (v := nI 1) dL_law_353 (by decide) ?_
  refine px_iaddn (c := 5 * j + 1) dL_law_354 (by omega) ?_
  refine ps_iald_s (k := 3) (j := 5 * j + 1) (x := E.2.2.2 3 (5 * j + 1)) dL_law_355 (by decide) (by omega) rfl (by omega) rfl ?_
  refine ps_callV (b := 227) (As := [.int (E.2.2.2 3 (5 * j + 1))]) (st := [.int ((o_leave c (E.2.2.2 3 (5 * j + 1))).1)]) dL_law_356 cv_L_40 rfl ⟨by decide, by decide +kernel⟩ (Nat.le_of_ble_eq_true rfl) (Nat.le_of_ble_eq_true rfl) ?_
  refine m_leave hw (hm.sm v2) (fun κ u1 u2 => ?_)
  show PS l E D cA mL_law 8 fin 359 [some (.ref (1000 + 3)), some (.ref 0), some (.ref 227), some (.int (nI (5 * j)))] [.int ((o_leave c (E.2.2.2 3 (5 * j + 1))).1), .int ((o_leave c (E.2.2.2 3 (5 * j + 1))).1)] κ
  refine pw_icmp_eq (tgt := 1026) dL_law_359 (by decide) (fun _ => ?_) (fun h9 => absurd rfl h9)
  refine px_iincn (n := 5) (a := 5 * j) (b := 5 * j + 5) (ls' := [some (.ref (1000 + 3)), some (.ref 0), some (.ref 227), some (.int (nI (5 * j + 5)))]) dL_law_1026 rfl rfl rfl rfl ?_
  refine pw_goto (tgt := 18) dL_law_1029 (by decide) ?_
  exact ih κ (o_leave c (E.2.2.2 3 (5 * j + 1))).2 (v1.sx (w_leave hw) u2) u1 (w_leave hw)
set_option maxRecDepth 100000 in
set_option maxHeartbeats 4000000 in
theorem lw_c6 {L j : Nat} (hL : E.2.2.1 3 = L) (hj : 5 * j + 5 ≤ L) (hL2 : L ≤ 2560) (hE : ES E) {c : CS} (hw : CW c) (hx : CX μ c) (hm : MX μ c) (ih : ∀ (ν : Mu) (c : CS), CX ν c → MX ν c → CW c → PS l E D cA mL_law 8 fin 18 [some (.ref (1000 + 3)), some (.ref 0), some (.ref 227), some (.int (nI (5 * (j + 1))))] [] ν) : PS l E D cA mL_law 8 fin 364 [some (.ref (1000 + 3)), some (.ref 0), some (.ref 227), some (.int (nI (5 * j)))] [] μ := by
  refine pw_aload_n dL_law_364 rfl ?_
  refine pw_aload_n dL_law_365 rfl ?_
  refine pw_iload_n dL_law_366 rfl ?_
  refine pw_iconst_ (v := nI 1) dL_law_367 (by decide) ?_
  refine px_iaddn (c := 5 * j + 1) dL_law_368 (by omega) ?_
  refine ps_iald_s (k := 3) (j := 5 * j + 1) (x := E.2.2.2 3 (5 * j + 1)) dL_law_369 (by decide) (by omega) rfl (by omega) rfl ?_
  refine pw_aload_n dL_law_370 rfl ?_
  refine pw_iload_n dL_law_371 rfl ?_
  refine pw_iconst_ (v := nI 2) dL_law_372 (by decide) ?_
  refine px_iaddn (c := 5 * j + 2) dL_law_373 (by omega) ?_
  refine ps_iald_s (k := 3) (j := 5 * j + 2) (x := E.2.2.2 3 (5 * j + 2)) dL_law_374 (by decide) (by omega) rfl (by omega) rfl ?_
  refine ps_callV (b := 0) (As := [.int (E.2.2.2 3 (5 * j + 1)), .int (E.2.2.2 3 (5 * j + 2))]) (st := []) dL_law_375 cv_L_41 rfl ⟨by decide, by decide +kernel⟩ (Nat.le_of_ble_eq_true rfl) (Nat.le_of_ble_eq_true rfl) ?_
  refine x_start hw hx (fun ν v1 v2 => ?_)
  show PS l E D cA mL_law 8 fin 378 [some (.ref (1000 + 3)), some (.ref 0), some (.ref 227), some (.int (nI (5 * j)))] [.int ((o_start c (E.2.2.2 3 (5 * j + 1)) (E.2.2.2 3 (5 * j + 2))).1)] ν
  refine pw_aload_n dL_law_378 rfl ?_
  refine pw_aload_n dL_law_379 rfl ?_
  refine pw_iload_n dL_law_380 rfl ?_
  refine pw_iconst_ (v := nI 1) dL_law_381 (by decide) ?_
  refine px_iaddn (c := 5 * j + 1) dL_law_382 (by omega) ?_
  refine ps_iald_s (k := 3) (j := 5 * j + 1) (x := E.2.2.2 3 (5 * j + 1)) dL_law_383 (by decide) (by omega) rfl (by omega) rfl ?_
  refine pw_aload_n dL_law_384 rfl ?_
  refine pw_iload_n dL_law_385 rfl ?_
  refine pw_iconst_ (v := nI 2) dL_law_386 (by decide) ?_
  refine px_iaddn (c := 5 * j + 2) dL_law_387 (by omega) ?_
  refine ps_iald_s (k := 3) (j := 5 * j + 2) (x := E.2.2.2 3 (5 * j + 2)) dL_law_388 (by decide) (by omega) rfl (by omega) rfl ?_
  refine ps_callV (b := 227) (As := [.int (E.2.2.2 3 (5 * j + 1)), .int (E.2.2.2 3 (5 * j + 2))]) (st := [.int ((o_start c (E.2.2.2 3 (5 * j + 1)) (E.2.2.2 3 (5 * j + 2))).1)]) dL_law_389 cv_L_44 rfl ⟨by decide, by decide +kernel⟩ (Nat.le_of_ble_eq_true rfl) (Nat.le_of_ble_eq_true rfl) ?_
  refine m_start hw (hm.sm v2) (fun κ u1 u2 => ?_)
  show PS l E D cA mL_law 8 fin 392 [some (.ref (1000 + 3)), some (.ref 0), some (.ref 227), some (.int (nI (5 * j)))] [.int ((o_start c (E.2.2.2 3 (5 * j + 1)) (E.2.2.2 3 (5 * j + 2))).1), .int ((o_start c (E.2.2.2 3 (5 * j + 1)) (E.2.2.2 3 (5 * j + 2))).1)] κ
  refine pw_icmp_eq (tgt := 1026) dL_law_392 (by decide) (fun _ => ?_) (fun h9 => absurd rfl h9)
  refine px_iincn (n := 5) (a := 5 * j) (b := 5 * j + 5) (ls' := [some (.ref (1000 + 3)), some (.ref 0), some (.ref 227), some (.int (nI (5 * j + 5)))]) dL_law_1026 rfl rfl rfl rfl ?_
  refine pw_goto (tgt := 18) dL_law_1029 (by decide) ?_
  exact ih κ (o_start c (E.2.2.2 3 (5 * j + 1)) (E.2.2.2 3 (5 * j + 2))).2 (v1.sx (w_start hw) u2) u1 (w_start hw)
set_option maxRecDepth 100000 in
set_option maxHeartbeats 4000000 in
theorem lw_c7 {L j : Nat} (hL : E.2.2.1 3 = L) (hj : 5 * j + 5 ≤ L) (hL2 : L ≤ 2560) (hE : ES E) {c : CS} (hw : CW c) (hx : CX μ c) (hm : MX μ c) (ih : ∀ (ν : Mu) (c : CS), CX ν c → MX ν c → CW c → PS l E D cA mL_law 8 fin 18 [some (.ref (1000 + 3)), some (.ref 0), some (.ref 227), some (.int (nI (5 * (j + 1))))] [] ν) : PS l E D cA mL_law 8 fin 397 [some (.ref (1000 + 3)), some (.ref 0), some (.ref 227), some (.int (nI (5 * j)))] [] μ := by
  refine pw_aload_n dL_law_397 rfl ?_
  refine pw_aload_n dL_law_398 rfl ?_
  refine pw_iload_n dL_law_399 rfl ?_
  refine pw_iconst_ (v := nI 1) dL_law_400 (by decide) ?_
  refine px_iaddn (c := 5 * j + 1) dL_law_401 (by omega) ?_
  refine ps_iald_s (k := 3) (j := 5 * j + 1) (x := E.2.2.2 3 (5 * j + 1)) dL_law_402 (by decide) (by omega) rfl (by omega) rfl ?_
  refine pw_aload_n dL_law_403 rfl ?_
  refine pw_iload_n dL_law_404 rfl ?_
  refine pw_iconst_ (v := nI 2) dL_law_405 (by decide) ?_
  refine px_iaddn (c := 5 * j + 2) dL_law_406 (by omega) ?_
  refine ps_iald_s (k := 3) (j := 5 * j + 2) (x := E.2.2.2 3 (5 * j + 2)) dL_law_407 (by decide) (by omega) rfl (by omega) rfl ?_
  refine pw_aload_n dL_law_408 rfl ?_
  refine pw_iload_n dL_law_409 rfl ?_
  refine pw_iconst_ (v := nI 3) dL_law_410 (by decide) ?_
  refine px_iaddn (c := 5 * j + 3) dL_law_411 (by omega) ?_
  refine ps_iald_s (k := 3) (j := 5 * j + 3) (x := E.2.2.2 3 (5 * j + 3)) dL_law_412 (by decide) (by omega) rfl (by omega) rfl ?_
  by_cases hz : E.2.2.2 3 (5 * j + 3) = 0
  · refine pw_if_eq (tgt := 420) dL_law_413 (by decide) (fun _ => ?_) (fun h9 => absurd hz h9)
    refine pw_iconst_ (v := nI 0) dL_law_420 (by decide) ?_
    refine ps_callV (b := 0) (As := [.int (E.2.2.2 3 (5 * j + 1)), .int (E.2.2.2 3 (5 * j + 2)), .int (nI 0)]) (st := []) dL_law_421 cv_L_45 rfl ⟨by decide, by decide +kernel⟩ (Nat.le_of_ble_eq_true rfl) (Nat.le_of_ble_eq_true rfl) ?_
    refine x_hint hw hx (fun ν v1 v2 => ?_)
    show PS l E D cA mL_law 8 fin 424 [some (.ref (1000 + 3)), some (.ref 0), some (.ref 227), some (.int (nI (5 * j)))] [.int ((o_hint c (E.2.2.2 3 (5 * j + 1)) (E.2.2.2 3 (5 * j + 2)) (nI 0)).1)] ν
    refine pw_aload_n dL_law_424 rfl ?_
    refine pw_aload_n dL_law_425 rfl ?_
    refine pw_iload_n dL_law_426 rfl ?_
    refine pw_iconst_ (v := nI 1) dL_law_427 (by decide) ?_
    refine px_iaddn (c := 5 * j + 1) dL_law_428 (by omega) ?_
    refine ps_iald_s (k := 3) (j := 5 * j + 1) (x := E.2.2.2 3 (5 * j + 1)) dL_law_429 (by decide) (by omega) rfl (by omega) rfl ?_
    refine pw_aload_n dL_law_430 rfl ?_
    refine pw_iload_n dL_law_431 rfl ?_
    refine pw_iconst_ (v := nI 2) dL_law_432 (by decide) ?_
    refine px_iaddn (c := 5 * j + 2) dL_law_433 (by omega) ?_
    refine ps_iald_s (k := 3) (j := 5 * j + 2) (x := E.2.2.2 3 (5 * j + 2)) dL_law_434 (by decide) (by omega) rfl (by omega) rfl ?_
    refine pw_aload_n dL_law_435 rfl ?_
    refine pw_iload_n dL_law_436 rfl ?_
    refine pw_iconst_ (v := nI 3) dL_law_437 (by decide) ?_
    refine px_iaddn (c := 5 * j + 3) dL_law_438 (by omega) ?_
    refine ps_iald_s (k := 3) (j := 5 * j + 3) (x := E.2.2.2 3 (5 * j + 3)) dL_law_439 (by decide) (by omega) rfl (by omega) rfl ?_
    refine pw_if_eq (tgt := 447) dL_law_440 (by decide) (fun _ => ?_) (fun h9 => absurd hz h9)
    refine pw_iconst_ (v := nI 0) dL_law_447 (by decide) ?_
    refine ps_callV (b := 227) (As := [.int (E.2.2.2 3 (5 * j + 1)), .int (E.2.2.2 3 (5 * j + 2)), .int (nI 0)]) (st := [.int ((o_hint c (E.2.2.2 3 (5 * j + 1)) (E.2.2.2 3 (5 * j + 2)) (nI 0)).1)]) dL_law_448 cv_L_49 rfl ⟨by decide, by decide +kernel⟩ (Nat.le_of_ble_eq_true rfl) (Nat.le_of_ble_eq_true rfl) ?_
    refine m_hint hw (hm.sm v2) (Or.inl rfl) (fun κ u1 u2 => ?_)
    show PS l E D cA mL_law 8 fin 451 [some (.ref (1000 + 3)), some (.ref 0), some (.ref 227), some (.int (nI (5 * j)))] [.int ((o_hint c (E.2.2.2 3 (5 * j + 1)) (E.2.2.2 3 (5 * j + 2)) (nI 0)).1), .int ((o_hint c (E.2.2.2 3 (5 * j + 1)) (E.2.2.2 3 (5 * j + 2)) (nI 0)).1)] κ
    refine pw_icmp_eq (tgt := 1026) dL_law_451 (by decide) (fun _ => ?_) (fun h9 => absurd rfl h9)
    refine px_iincn (n := 5) (a := 5 * j) (b := 5 * j + 5) (ls' := [some (.ref (1000 + 3)), some (.ref 0), some (.ref 227), some (.int (nI (5 * j + 5)))]) dL_law_1026 rfl rfl rfl rfl ?_
    refine pw_goto (tgt := 18) dL_law_1029 (by decide) ?_
    exact ih κ (o_hint c (E.2.2.2 3 (5 * j + 1)) (E.2.2.2 3 (5 * j + 2)) (nI 0)).2 (v1.sx (w_hint hw) u2) u1 (w_hint hw)
  · refine pw_if_eq (tgt := 420) dL_law_413 (by decide) (fun h9 => absurd h9 hz) (fun _ => ?_)
    refine pw_iconst_ (v := nI 1) dL_law_416 (by decide) ?_
    refine pw_goto (tgt := 421) dL_law_417 (by decide) ?_
    refine ps_callV (b := 0) (As := [.int (E.2.2.2 3 (5 * j + 1)), .int (E.2.2.2 3 (5 * j + 2)), .int (nI 1)]) (st := []) dL_law_421 cv_L_45 rfl ⟨by decide, by decide +kernel⟩ (Nat.le_of_ble_eq_true rfl) (Nat.le_of_ble_eq_true rfl) ?_
    refine x_hint hw hx (fun ν v1 v2 => ?_)
    show PS l E D cA mL_law 8 fin 424 [some (.ref (1000 + 3)), some (.ref 0), some (.ref 227), some (.int (nI (5 * j)))] [.int ((o_hint c (E.2.2.2 3 (5 * j + 1)) (E.2.2.2 3 (5 * j + 2)) (nI 1)).1)] ν
    refine pw_aload_n dL_law_424 rfl ?_
    refine pw_aload_n dL_law_425 rfl ?_
    refine pw_iload_n dL_law_426 rfl ?_
    refine pw_iconst_ (v := nI 1) dL_law_427 (by decide) ?_
    refine px_iaddn (c := 5 * j + 1) dL_law_428 (by omega) ?_
    refine ps_iald_s (k := 3) (j := 5 * j + 1) (x := E.2.2.2 3 (5 * j + 1)) dL_law_429 (by decide) (by omega) rfl (by omega) rfl ?_
    refine pw_aload_n dL_law_430 rfl ?_
    refine pw_iload_n dL_law_431 rfl ?_
    refine pw_iconst_ (v := nI 2) dL_law_432 (by decide) ?_
    refine px_iaddn (c := 5 * j + 2) dL_law_433 (by omega) ?_
    refine ps_iald_s (k := 3) (j := 5 * j + 2) (x := E.2.2.2 3 (5 * j + 2)) dL_law_434 (by decide) (by omega) rfl (by omega) rfl ?_
    refine pw_aload_n dL_law_435 rfl ?_
    refine pw_iload_n dL_law_436 rfl ?_
    refine pw_iconst_ (v := nI 3) dL_law_437 (by decide) ?_
    refine px_iaddn (c := 5 * j + 3) dL_law_438 (by omega) ?_
    refine ps_iald_s (k := 3) (j := 5 * j + 3) (x := E.2.2.2 3 (5 * j + 3)) dL_law_439 (by decide) (by omega) rfl (by omega) rfl ?_
    refine pw_if_eq (tgt := 447) dL_law_440 (by decide) (fun h9 => absurd h9 hz) (fun _ => ?_)
    refine pw_iconst_ (v := nI 1) dL_law_443 (by decide) ?_
    refine pw_goto (tgt := 448) dL_law_444 (by decide) ?_
    refine ps_callV (b := 227) (As := [.int (E.2.2.2 3 (5 * j + 1)), .int (E.2.2.2 3 (5 * j + 2)), .int (nI 1)]) (st := [.int ((o_hint c (E.2.2.2 3 (5 * j + 1)) (E.2.2.2 3 (5 * j + 2)) (nI 1)).1)]) dL_law_448 cv_L_49 rfl ⟨by decide, by decide +kernel⟩ (Nat.le_of_ble_eq_true rfl) (Nat.le_of_ble_eq_true rfl) ?_
    refine m_hint hw (hm.sm v2) (Or.inr rfl) (fun κ u1 u2 => ?_)
    show PS l E D cA mL_law 8 fin 451 [some (.ref (1000 + 3)), some (.ref 0), some (.ref 227), some (.int (nI (5 * j)))] [.int ((o_hint c (E.2.2.2 3 (5 * j + 1)) (E.2.2.2 3 (5 * j + 2)) (nI 1)).1), .int ((o_hint c (E.2.2.2 3 (5 * j + 1)) (E.2.2.2 3 (5 * j + 2)) (nI 1)).1)] κ
    refine pw_icmp_eq (tgt := 1026) dL_law_451 (by decide) (fun _ => ?_) (fun h9 => absurd rfl h9)
    refine px_iincn (n := 5) (a := 5 * j) (b := 5 * j + 5) (ls' := [some (.ref (1000 + 3)), some (.ref 0), some (.ref 227), some (.int (nI (5 * j + 5)))]) dL_law_1026 rfl rfl rfl rfl ?_
    refine pw_goto (tgt := 18) dL_law_1029 (by decide) ?_
    exact ih κ (o_hint c (E.2.2.2 3 (5 * j + 1)) (E.2.2.2 3 (5 * j + 2)) (nI 1)).2 (v1.sx (w_hint hw) u2) u1 (w_hint hw)
set_option maxRecDepth 100000 in
set_option maxHeartbeats 4000000 in
theorem lw_c8 {L j : Nat} (hL : E.2.2.1 3 = L) (hj : 5 * j + 5 ≤ L) (hL2 : L ≤ 2560) (hE : ES E) {c : CS} (hw : CW c) (hx : CX μ c) (hm : MX μ c) (ih : ∀ (ν : Mu) (c : CS), CX ν c → MX ν c → CW c → PS l E D cA mL_law 8 fin 18 [some (.ref (1000 + 3)), some (.ref 0), some (.ref 227), some (.int (nI (5 * (j + 1))))] [] ν) : PS l E D cA mL_law 8 fin 456 [some (.ref (1000 + 3)), some (.ref 0), some (.ref 227), some (.int (nI (5 * j)))] [] μ := by
  refine pw_aload_n dL_law_456 rfl ?_
  refine pw_aload_n dL_law_457 rfl ?_
  refine pw_iload_n dL_law_458 rfl ?_
  refine pw_iconst_ (v := nI 1) dL_law_459 (by decide) ?_
  refine px_iaddn (c := 5 * j + 1) dL_law_460 (by omega) ?_
  refine ps_iald_s (k := 3) (j := 5 * j + 1) (x := E.2.2.2 3 (5 * j + 1)) dL_law_461 (by decide) (by omega) rfl (by omega) rfl ?_
  refine pw_aload_n dL_law_462 rfl ?_
  refine pw_iload_n dL_law_463 rfl ?_
  refine pw_iconst_ (v := nI 2) dL_law_464 (by decide) ?_
  refine px_iaddn (c := 5 * j + 2) dL_law_465 (by omega) ?_
  refine ps_iald_s (k := 3) (j := 5 * j + 2) (x := E.2.2.2 3 (5 * j + 2)) dL_law_466 (by decide) (by omega) rfl (by omega) rfl ?_
  refine ps_callV (b := 0) (As := [.int (E.2.2.2 3 (5 * j + 1)), .int (E.2.2.2 3 (5 * j + 2))]) (st := []) dL_law_467 cv_L_50 rfl ⟨by decide, by decide +kernel⟩ (Nat.le_of_ble_eq_true rfl) (Nat.le_of_ble_eq_true rfl) ?_
  refine x_lose hw hx (fun ν v1 v2 => ?_)
  show PS l E D cA mL_law 8 fin 470 [some (.ref (1000 + 3)), some (.ref 0), some (.ref 227), some (.int (nI (5 * j)))] [.int ((o_lose c (E.2.2.2 3 (5 * j + 1)) (E.2.2.2 3 (5 * j + 2))).1)] ν
  refine pw_aload_n dL_law_470 rfl ?_
  refine pw_aload_n dL_law_471 rfl ?_
  refine pw_iload_n dL_law_472 rfl ?_
  refine pw_iconst_ (v := nI 1) dL_law_473 (by decide) ?_
  refine px_iaddn (c := 5 * j + 1) dL_law_474 (by omega) ?_
  refine ps_iald_s (k := 3) (j := 5 * j + 1) (x := E.2.2.2 3 (5 * j + 1)) dL_law_475 (by decide) (by omega) rfl (by omega) rfl ?_
  refine pw_aload_n dL_law_476 rfl ?_
  refine pw_iload_n dL_law_477 rfl ?_
  refine pw_iconst_ (v := nI 2) dL_law_478 (by decide) ?_
  refine px_iaddn (c := 5 * j + 2) dL_law_479 (by omega) ?_
  refine ps_iald_s (k := 3) (j := 5 * j + 2) (x := E.2.2.2 3 (5 * j + 2)) dL_law_480 (by decide) (by omega) rfl (by omega) rfl ?_
  refine ps_callV (b := 227) (As := [.int (E.2.2.2 3 (5 * j + 1)), .int (E.2.2.2 3 (5 * j + 2))]) (st := [.int ((o_lose c (E.2.2.2 3 (5 * j + 1)) (E.2.2.2 3 (5 * j + 2))).1)]) dL_law_481 cv_L_53 rfl ⟨by decide, by decide +kernel⟩ (Nat.le_of_ble_eq_true rfl) (Nat.le_of_ble_eq_true rfl) ?_
  refine m_lose hw (hm.sm v2) (fun κ u1 u2 => ?_)
  show PS l E D cA mL_law 8 fin 484 [some (.ref (1000 + 3)), some (.ref 0), some (.ref 227), some (.int (nI (5 * j)))] [.int ((o_lose c (E.2.2.2 3 (5 * j + 1)) (E.2.2.2 3 (5 * j + 2))).1), .int ((o_lose c (E.2.2.2 3 (5 * j + 1)) (E.2.2.2 3 (5 * j + 2))).1)] κ
  refine pw_icmp_eq (tgt := 1026) dL_law_484 (by decide) (fun _ => ?_) (fun h9 => absurd rfl h9)
  refine px_iincn (n := 5) (a := 5 * j) (b := 5 * j + 5) (ls' := [some (.ref (1000 + 3)), some (.ref 0), some (.ref 227), some (.int (nI (5 * j + 5)))]) dL_law_1026 rfl rfl rfl rfl ?_
  refine pw_goto (tgt := 18) dL_law_1029 (by decide) ?_
  exact ih κ (o_lose c (E.2.2.2 3 (5 * j + 1)) (E.2.2.2 3 (5 * j + 2))).2 (v1.sx (w_lose hw) u2) u1 (w_lose hw)
set_option maxRecDepth 100000 in
set_option maxHeartbeats 4000000 in
theorem lw_c9 {L j : Nat} (hL : E.2.2.1 3 = L) (hj : 5 * j + 5 ≤ L) (hL2 : L ≤ 2560) (hE : ES E) {c : CS} (hw : CW c) (hx : CX μ c) (hm : MX μ c) (ih : ∀ (ν : Mu) (c : CS), CX ν c → MX ν c → CW c → PS l E D cA mL_law 8 fin 18 [some (.ref (1000 + 3)), some (.ref 0), some (.ref 227), some (.int (nI (5 * (j + 1))))] [] ν) : PS l E D cA mL_law 8 fin 489 [some (.ref (1000 + 3)), some (.ref 0), some (.ref 227), some (.int (nI (5 * j)))] [] μ := by
  refine pw_aload_n dL_law_489 rfl ?_
  refine pw_aload_n dL_law_490 rfl ?_
  refine pw_iload_n dL_law_491 rfl ?_
  refine pw_iconst_ (v := nI 1) dL_law_492 (by decide) ?_
  refine px_iaddn (c := 5 * j + 1) dL_law_493 (by omega) ?_
  refine ps_iald_s (k := 3) (j := 5 * j + 1) (x := E.2.2.2 3 (5 * j + 1)) dL_law_494 (by decide) (by omega) rfl (by omega) rfl ?_
  refine pw_aload_n dL_law_495 rfl ?_
  refine pw_iload_n dL_law_496 rfl ?_
  refine pw_iconst_ (v := nI 2) dL_law_497 (by decide) ?_
  refine px_iaddn (c := 5 * j + 2) dL_law_498 (by omega) ?_
  refine ps_iald_s (k := 3) (j := 5 * j + 2) (x := E.2.2.2 3 (5 * j + 2)) dL_law_499 (by decide) (by omega) rfl (by omega) rfl ?_
  refine ps_callV (b := 0) (As := [.int (E.2.2.2 3 (5 * j + 1)), .int (E.2.2.2 3 (5 * j + 2))]) (st := []) dL_law_500 cv_L_54 rfl ⟨by decide, by decide +kernel⟩ (Nat.le_of_ble_eq_true rfl) (Nat.le_of_ble_eq_true rfl) ?_
  refine x_turn hw hx (fun ν v1 v2 => ?_)
  show PS l E D cA mL_law 8 fin 503 [some (.ref (1000 + 3)), some (.ref 0), some (.ref 227), some (.int (nI (5 * j)))] [.int ((o_turn c (E.2.2.2 3 (5 * j + 1)) (E.2.2.2 3 (5 * j + 2))).1)] ν
  refine pw_aload_n dL_law_503 rfl ?_
  refine pw_aload_n dL_law_504 rfl ?_
  refine pw_iload_n dL_law_505 rfl ?_
  refine pw_iconst_ (v := nI 1) dL_law_506 (by decide) ?_
  refine px_iaddn (c := 5 * j + 1) dL_law_507 (by omega) ?_
  refine ps_iald_s (k := 3) (j := 5 * j + 1) (x := E.2.2.2 3 (5 * j + 1)) dL_law_508 (by decide) (by omega) rfl (by omega) rfl ?_
  refine pw_aload_n dL_law_509 rfl ?_
  refine pw_iload_n dL_law_510 rfl ?_
  refine pw_iconst_ (v := nI 2) dL_law_511 (by decide) ?_
  refine px_iaddn (c := 5 * j + 2) dL_law_512 (by omega) ?_
  refine ps_iald_s (k := 3) (j := 5 * j + 2) (x := E.2.2.2 3 (5 * j + 2)) dL_law_513 (by decide) (by omega) rfl (by omega) rfl ?_
  refine ps_callV (b := 227) (As := [.int (E.2.2.2 3 (5 * j + 1)), .int (E.2.2.2 3 (5 * j + 2))]) (st := [.int ((o_turn c (E.2.2.2 3 (5 * j + 1)) (E.2.2.2 3 (5 * j + 2))).1)]) dL_law_514 cv_L_57 rfl ⟨by decide, by decide +kernel⟩ (Nat.le_of_ble_eq_true rfl) (Nat.le_of_ble_eq_true rfl) ?_
  refine m_turn hw (hm.sm v2) (fun κ u1 u2 => ?_)
  show PS l E D cA mL_law 8 fin 517 [some (.ref (1000 + 3)), some (.ref 0), some (.ref 227), some (.int (nI (5 * j)))] [.int ((o_turn c (E.2.2.2 3 (5 * j + 1)) (E.2.2.2 3 (5 * j + 2))).1), .int ((o_turn c (E.2.2.2 3 (5 * j + 1)) (E.2.2.2 3 (5 * j + 2))).1)] κ
  refine pw_icmp_eq (tgt := 1026) dL_law_517 (by decide) (fun _ => ?_) (fun h9 => absurd rfl h9)
  refine px_iincn (n := 5) (a := 5 * j) (b := 5 * j + 5) (ls' := [some (.ref (1000 + 3)), some (.ref 0), some (.ref 227), some (.int (nI (5 * j + 5)))]) dL_law_1026 rfl rfl rfl rfl ?_
  refine pw_goto (tgt := 18) dL_law_1029 (by decide) ?_
  exact ih κ (o_turn c (E.2.2.2 3 (5 * j + 1)) (E.2.2.2 3 (5 * j + 2))).2 (v1.sx (w_turn hw) u2) u1 (w_turn hw)
set_option maxRecDepth 100000 in
set_option maxHeartbeats 4000000 in
theorem lw_c10 {L j : Nat} (hL : E.2.2.1 3 = L) (hj : 5 * j + 5 ≤ L) (hL2 : L ≤ 2560) (hE : ES E) {c : CS} (hw : CW c) (hx : CX μ c) (hm : MX μ c) (ih : ∀ (ν : Mu) (c : CS), CX ν c → MX ν c → CW c → PS l E D cA mL_law 8 fin 18 [some (.ref (1000 + 3)), some (.ref 0), some (.ref 227), some (.int (nI (5 * (j + 1))))] [] ν) : PS l E D cA mL_law 8 fin 522 [some (.ref (1000 + 3)), some (.ref 0), some (.ref 227), some (.int (nI (5 * j)))] [] μ := by
  refine pw_aload_n dL_law_522 rfl ?_
  refine pw_aload_n dL_law_523 rfl ?_
  refine pw_iload_n dL_law_524 rfl ?_
  refine pw_iconst_ (v := nI 1) dL_law_525 (by decide) ?_
  refine px_iaddn (c := 5 * j + 1) dL_law_526 (by omega) ?_
  refine ps_iald_s (k := 3) (j := 5 * j + 1) (x := E.2.2.2 3 (5 * j + 1)) dL_law_527 (by decide) (by omega) rfl (by omega) rfl ?_
  refine pw_aload_n dL_law_528 rfl ?_
  refine pw_iload_n dL_law_529 rfl ?_
  refine pw_iconst_ (v := nI 2) dL_law_530 (by decide) ?_
  refine px_iaddn (c := 5 * j + 2) dL_law_531 (by omega) ?_
  refine ps_iald_s (k := 3) (j := 5 * j + 2) (x := E.2.2.2 3 (5 * j + 2)) dL_law_532 (by decide) (by omega) rfl (by omega) rfl ?_
  refine pw_aload_n dL_law_533 rfl ?_
  refine pw_iload_n dL_law_534 rfl ?_
  refine pw_iconst_ (v := nI 3) dL_law_535 (by decide) ?_
  refine px_iaddn (c := 5 * j + 3) dL_law_536 (by omega) ?_
  refine ps_iald_s (k := 3) (j := 5 * j + 3) (x := E.2.2.2 3 (5 * j + 3)) dL_law_537 (by decide) (by omega) rfl (by omega) rfl ?_
  refine ps_callV (b := 0) (As := [.int (E.2.2.2 3 (5 * j + 1)), .int (E.2.2.2 3 (5 * j + 2)), .int (E.2.2.2 3 (5 * j + 3))]) (st := []) dL_law_538 cv_L_58 rfl ⟨by decide, by decide +kernel⟩ (Nat.le_of_ble_eq_true rfl) (Nat.le_of_ble_eq_true rfl) ?_
  refine x_exchange hw hx (fun ν v1 v2 => ?_)
  show PS l E D cA mL_law 8 fin 541 [some (.ref (1000 + 3)), some (.ref 0), some (.ref 227), some (.int (nI (5 * j)))] [.int ((o_exchange c (E.2.2.2 3 (5 * j + 1)) (E.2.2.2 3 (5 * j + 2)) (E.2.2.2 3 (5 * j + 3))).1)] ν
  refine pw_aload_n dL_law_541 rfl ?_
  refine pw_aload_n dL_law_542 rfl ?_
  refine pw_iload_n dL_law_543 rfl ?_
  refine pw_iconst_ (v := nI 1) dL_law_544 (by decide) ?_
  refine px_iaddn (c := 5 * j + 1) dL_law_545 (by omega) ?_
  refine ps_iald_s (k := 3) (j := 5 * j + 1) (x := E.2.2.2 3 (5 * j + 1)) dL_law_546 (by decide) (by omega) rfl (by omega) rfl ?_
  refine pw_aload_n dL_law_547 rfl ?_
  refine pw_iload_n dL_law_548 rfl ?_
  refine pw_iconst_ (v := nI 2) dL_law_549 (by decide) ?_
  refine px_iaddn (c := 5 * j + 2) dL_law_550 (by omega) ?_
  refine ps_iald_s (k := 3) (j := 5 * j + 2) (x := E.2.2.2 3 (5 * j + 2)) dL_law_551 (by decide) (by omega) rfl (by omega) rfl ?_
  refine pw_aload_n dL_law_552 rfl ?_
  refine pw_iload_n dL_law_553 rfl ?_
  refine pw_iconst_ (v := nI 3) dL_law_554 (by decide) ?_
  refine px_iaddn (c := 5 * j + 3) dL_law_555 (by omega) ?_
  refine ps_iald_s (k := 3) (j := 5 * j + 3) (x := E.2.2.2 3 (5 * j + 3)) dL_law_556 (by decide) (by omega) rfl (by omega) rfl ?_
  refine ps_callV (b := 227) (As := [.int (E.2.2.2 3 (5 * j + 1)), .int (E.2.2.2 3 (5 * j + 2)), .int (E.2.2.2 3 (5 * j + 3))]) (st := [.int ((o_exchange c (E.2.2.2 3 (5 * j + 1)) (E.2.2.2 3 (5 * j + 2)) (E.2.2.2 3 (5 * j + 3))).1)]) dL_law_557 cv_L_62 rfl ⟨by decide, by decide +kernel⟩ (Nat.le_of_ble_eq_true rfl) (Nat.le_of_ble_eq_true rfl) ?_
  refine m_exchange hw (hm.sm v2) (fun κ u1 u2 => ?_)
  show PS l E D cA mL_law 8 fin 560 [some (.ref (1000 + 3)), some (.ref 0), some (.ref 227), some (.int (nI (5 * j)))] [.int ((o_exchange c (E.2.2.2 3 (5 * j + 1)) (E.2.2.2 3 (5 * j + 2)) (E.2.2.2 3 (5 * j + 3))).1), .int ((o_exchange c (E.2.2.2 3 (5 * j + 1)) (E.2.2.2 3 (5 * j + 2)) (E.2.2.2 3 (5 * j + 3))).1)] κ
  refine pw_icmp_eq (tgt := 1026) dL_law_560 (by decide) (fun _ => ?_) (fun h9 => absurd rfl h9)
  refine px_iincn (n := 5) (a := 5 * j) (b := 5 * j + 5) (ls' := [some (.ref (1000 + 3)), some (.ref 0), some (.ref 227), some (.int (nI (5 * j + 5)))]) dL_law_1026 rfl rfl rfl rfl ?_
  refine pw_goto (tgt := 18) dL_law_1029 (by decide) ?_
  exact ih κ (o_exchange c (E.2.2.2 3 (5 * j + 1)) (E.2.2.2 3 (5 * j + 2)) (E.2.2.2 3 (5 * j + 3))).2 (v1.sx (w_exchange hw) u2) u1 (w_exchange hw)
set_option maxRecDepth 100000 in
set_option maxHeartbeats 4000000 in
theorem lw_c11 {L j : Nat} (hL : E.2.2.1 3 = L) (hj : 5 * j + 5 ≤ L) (hL2 : L ≤ 2560) (hE : ES E) {c : CS} (hw : CW c) (hx : CX μ c) (hm : MX μ c) (ih : ∀ (ν : Mu) (c : CS), CX ν c → MX ν c → CW c → PS l E D cA mL_law 8 fin 18 [some (.ref (1000 + 3)), some (.ref 0), some (.ref 227), some (.int (nI (5 * (j + 1))))] [] ν) : PS l E D cA mL_law 8 fin 565 [some (.ref (1000 + 3)), some (.ref 0), some (.ref 227), some (.int (nI (5 * j)))] [] μ := by
  refine pw_aload_n dL_law_565 rfl ?_
  refine ps_callV (b := 0) (As := []) (st := []) dL_law_566 cv_L_63 rfl ⟨by decide, by decide +kernel⟩ (Nat.le_of_ble_eq_true rfl) (Nat.le_of_ble_eq_true rfl) ?_
  refine x_part hw hx (fun ν v1 v2 => ?_)
  show PS l E D cA mL_law 8 fin 569 [some (.ref (1000 + 3)), some (.ref 0), some (.ref 227), some (.int (nI (5 * j)))] [.int ((o_part c).1)] ν
  refine pw_aload_n dL_law_569 rfl ?_
  refine ps_callV (b := 227) (As := []) (st := [.int ((o_part c).1)]) dL_law_570 cv_L_67 rfl ⟨by decide, by decide +kernel⟩ (Nat.le_of_ble_eq_true rfl) (Nat.le_of_ble_eq_true rfl) ?_
  refine m_part hw (hm.sm v2) (fun κ u1 u2 => ?_)
  show PS l E D cA mL_law 8 fin 573 [some (.ref (1000 + 3)), some (.ref 0), some (.ref 227), some (.int (nI (5 * j)))] [.int ((o_part c).1), .int ((o_part c).1)] κ
  refine pw_icmp_eq (tgt := 1026) dL_law_573 (by decide) (fun _ => ?_) (fun h9 => absurd rfl h9)
  refine px_iincn (n := 5) (a := 5 * j) (b := 5 * j + 5) (ls' := [some (.ref (1000 + 3)), some (.ref 0), some (.ref 227), some (.int (nI (5 * j + 5)))]) dL_law_1026 rfl rfl rfl rfl ?_
  refine pw_goto (tgt := 18) dL_law_1029 (by decide) ?_
  exact ih κ (o_part c).2 (v1.sx (w_part hw) u2) u1 (w_part hw)
set_option maxRecDepth 100000 in
set_option maxHeartbeats 4000000 in
theorem lw_c12 {L j : Nat} (hL : E.2.2.1 3 = L) (hj : 5 * j + 5 ≤ L) (hL2 : L ≤ 2560) (hE : ES E) {c : CS} (hw : CW c) (hx : CX μ c) (hm : MX μ c) (ih : ∀ (ν : Mu) (c : CS), CX ν c → MX ν c → CW c → PS l E D cA mL_law 8 fin 18 [some (.ref (1000 + 3)), some (.ref 0), some (.ref 227), some (.int (nI (5 * (j + 1))))] [] ν) : PS l E D cA mL_law 8 fin 578 [some (.ref (1000 + 3)), some (.ref 0), some (.ref 227), some (.int (nI (5 * j)))] [] μ := by
  refine pw_aload_n dL_law_578 rfl ?_
  refine pw_aload_n dL_law_579 rfl ?_
  refine pw_iload_n dL_law_580 rfl ?_
  refine pw_iconst_ (v := nI 1) dL_law_581 (by decide) ?_
  refine px_iaddn (c := 5 * j + 1) dL_law_582 (by omega) ?_
  refine ps_iald_s (k := 3) (j := 5 * j + 1) (x := E.2.2.2 3 (5 * j + 1)) dL_law_583 (by decide) (by omega) rfl (by omega) rfl ?_
  refine pw_aload_n dL_law_584 rfl ?_
  refine pw_iload_n dL_law_585 rfl ?_
  refine pw_iconst_ (v := nI 2) dL_law_586 (by decide) ?_
  refine px_iaddn (c := 5 * j + 2) dL_law_587 (by omega) ?_
  refine ps_iald_s (k := 3) (j := 5 * j + 2) (x := E.2.2.2 3 (5 * j + 2)) dL_law_588 (by decide) (by omega) rfl (by omega) rfl ?_
  refine pw_aload_n dL_law_589 rfl ?_
  refine pw_iload_n dL_law_590 rfl ?_
  refine pw_iconst_ (v := nI 3) dL_law_591 (by decide) ?_
  refine px_iaddn (c := 5 * j + 3) dL_law_592 (by omega) ?_
  refine ps_iald_s (k := 3) (j := 5 * j + 3) (x := E.2.2.2 3 (5 * j + 3)) dL_law_593 (by decide) (by omega) rfl (by omega) rfl ?_
  refine ps_callV (b := 0) (As := [.int (E.2.2.2 3 (5 * j + 1)), .int (E.2.2.2 3 (5 * j + 2)), .int (E.2.2.2 3 (5 * j + 3))]) (st := []) dL_law_594 cv_L_68 rfl ⟨by decide, by decide +kernel⟩ (Nat.le_of_ble_eq_true rfl) (Nat.le_of_ble_eq_true rfl) ?_
  refine x_visit hw hx (fun ν v1 v2 => ?_)
  show PS l E D cA mL_law 8 fin 597 [some (.ref (1000 + 3)), some (.ref 0), some (.ref 227), some (.int (nI (5 * j)))] [.int ((o_visit c (E.2.2.2 3 (5 * j + 1)) (E.2.2.2 3 (5 * j + 2)) (E.2.2.2 3 (5 * j + 3))).1)] ν
  refine pw_aload_n dL_law_597 rfl ?_
  refine pw_aload_n dL_law_598 rfl ?_
  refine pw_iload_n dL_law_599 rfl ?_
  refine pw_iconst_ (v := nI 1) dL_law_600 (by decide) ?_
  refine px_iaddn (c := 5 * j + 1) dL_law_601 (by omega) ?_
  refine ps_iald_s (k := 3) (j := 5 * j + 1) (x := E.2.2.2 3 (5 * j + 1)) dL_law_602 (by decide) (by omega) rfl (by omega) rfl ?_
  refine pw_aload_n dL_law_603 rfl ?_
  refine pw_iload_n dL_law_604 rfl ?_
  refine pw_iconst_ (v := nI 2) dL_law_605 (by decide) ?_
  refine px_iaddn (c := 5 * j + 2) dL_law_606 (by omega) ?_
  refine ps_iald_s (k := 3) (j := 5 * j + 2) (x := E.2.2.2 3 (5 * j + 2)) dL_law_607 (by decide) (by omega) rfl (by omega) rfl ?_
  refine pw_aload_n dL_law_608 rfl ?_
  refine pw_iload_n dL_law_609 rfl ?_
  refine pw_iconst_ (v := nI 3) dL_law_610 (by decide) ?_
  refine px_iaddn (c := 5 * j + 3) dL_law_611 (by omega) ?_
  refine ps_iald_s (k := 3) (j := 5 * j + 3) (x := E.2.2.2 3 (5 * j + 3)) dL_law_612 (by decide) (by omega) rfl (by omega) rfl ?_
  refine ps_callV (b := 227) (As := [.int (E.2.2.2 3 (5 * j + 1)), .int (E.2.2.2 3 (5 * j + 2)), .int (E.2.2.2 3 (5 * j + 3))]) (st := [.int ((o_visit c (E.2.2.2 3 (5 * j + 1)) (E.2.2.2 3 (5 * j + 2)) (E.2.2.2 3 (5 * j + 3))).1)]) dL_law_613 cv_L_71 rfl ⟨by decide, by decide +kernel⟩ (Nat.le_of_ble_eq_true rfl) (Nat.le_of_ble_eq_true rfl) ?_
  refine m_visit hw (hm.sm v2) (fun κ u1 u2 => ?_)
  show PS l E D cA mL_law 8 fin 616 [some (.ref (1000 + 3)), some (.ref 0), some (.ref 227), some (.int (nI (5 * j)))] [.int ((o_visit c (E.2.2.2 3 (5 * j + 1)) (E.2.2.2 3 (5 * j + 2)) (E.2.2.2 3 (5 * j + 3))).1), .int ((o_visit c (E.2.2.2 3 (5 * j + 1)) (E.2.2.2 3 (5 * j + 2)) (E.2.2.2 3 (5 * j + 3))).1)] κ
  refine pw_icmp_eq (tgt := 1026) dL_law_616 (by decide) (fun _ => ?_) (fun h9 => absurd rfl h9)
  refine px_iincn (n := 5) (a := 5 * j) (b := 5 * j + 5) (ls' := [some (.ref (1000 + 3)), some (.ref 0), some (.ref 227), some (.int (nI (5 * j + 5)))]) dL_law_1026 rfl rfl rfl rfl ?_
  refine pw_goto (tgt := 18) dL_law_1029 (by decide) ?_
  exact ih κ (o_visit c (E.2.2.2 3 (5 * j + 1)) (E.2.2.2 3 (5 * j + 2)) (E.2.2.2 3 (5 * j + 3))).2 (v1.sx (by rw [w_visit]; exact hw) u2) u1 (by rw [w_visit]; exact hw)
set_option maxRecDepth 100000 in
set_option maxHeartbeats 4000000 in
theorem lw_c13 {L j : Nat} (hL : E.2.2.1 3 = L) (hj : 5 * j + 5 ≤ L) (hL2 : L ≤ 2560) (hE : ES E) {c : CS} (hw : CW c) (hx : CX μ c) (hm : MX μ c) (ih : ∀ (ν : Mu) (c : CS), CX ν c → MX ν c → CW c → PS l E D cA mL_law 8 fin 18 [some (.ref (1000 + 3)), some (.ref 0), some (.ref 227), some (.int (nI (5 * (j + 1))))] [] ν) : PS l E D cA mL_law 8 fin 621 [some (.ref (1000 + 3)), some (.ref 0), some (.ref 227), some (.int (nI (5 * j)))] [] μ := by
  refine pw_aload_n dL_law_621 rfl ?_
  refine pw_aload_n dL_law_622 rfl ?_
  refine pw_iload_n dL_law_623 rfl ?_
  refine pw_iconst_ (v := nI 1) dL_law_624 (by decide) ?_
  refine px_iaddn (c := 5 * j + 1) dL_law_625 (by omega) ?_
  refine ps_iald_s (k := 3) (j := 5 * j + 1) (x := E.2.2.2 3 (5 * j + 1)) dL_law_626 (by decide) (by omega) rfl (by omega) rfl ?_
  refine pw_aload_n dL_law_627 rfl ?_
  refine pw_iload_n dL_law_628 rfl ?_
  refine pw_iconst_ (v := nI 2) dL_law_629 (by decide) ?_
  refine px_iaddn (c := 5 * j + 2) dL_law_630 (by omega) ?_
  refine ps_iald_s (k := 3) (j := 5 * j + 2) (x := E.2.2.2 3 (5 * j + 2)) dL_law_631 (by decide) (by omega) rfl (by omega) rfl ?_
  refine ps_callV (b := 0) (As := [.int (E.2.2.2 3 (5 * j + 1)), .int (E.2.2.2 3 (5 * j + 2))]) (st := []) dL_law_632 cv_L_72 rfl ⟨by decide, by decide +kernel⟩ (Nat.le_of_ble_eq_true rfl) (Nat.le_of_ble_eq_true rfl) ?_
  refine x_teamOf hw hx (fun ν v1 v2 => ?_)
  show PS l E D cA mL_law 8 fin 635 [some (.ref (1000 + 3)), some (.ref 0), some (.ref 227), some (.int (nI (5 * j)))] [.int ((o_teamOf c (E.2.2.2 3 (5 * j + 1)) (E.2.2.2 3 (5 * j + 2))).1)] ν
  refine pw_aload_n dL_law_635 rfl ?_
  refine pw_aload_n dL_law_636 rfl ?_
  refine pw_iload_n dL_law_637 rfl ?_
  refine pw_iconst_ (v := nI 1) dL_law_638 (by decide) ?_
  refine px_iaddn (c := 5 * j + 1) dL_law_639 (by omega) ?_
  refine ps_iald_s (k := 3) (j := 5 * j + 1) (x := E.2.2.2 3 (5 * j + 1)) dL_law_640 (by decide) (by omega) rfl (by omega) rfl ?_
  refine pw_aload_n dL_law_641 rfl ?_
  refine pw_iload_n dL_law_642 rfl ?_
  refine pw_iconst_ (v := nI 2) dL_law_643 (by decide) ?_
  refine px_iaddn (c := 5 * j + 2) dL_law_644 (by omega) ?_
  refine ps_iald_s (k := 3) (j := 5 * j + 2) (x := E.2.2.2 3 (5 * j + 2)) dL_law_645 (by decide) (by omega) rfl (by omega) rfl ?_
  refine ps_callV (b := 227) (As := [.int (E.2.2.2 3 (5 * j + 1)), .int (E.2.2.2 3 (5 * j + 2))]) (st := [.int ((o_teamOf c (E.2.2.2 3 (5 * j + 1)) (E.2.2.2 3 (5 * j + 2))).1)]) dL_law_646 cv_L_75 rfl ⟨by decide, by decide +kernel⟩ (Nat.le_of_ble_eq_true rfl) (Nat.le_of_ble_eq_true rfl) ?_
  refine m_teamOf hw (hm.sm v2) (fun κ u1 u2 => ?_)
  show PS l E D cA mL_law 8 fin 649 [some (.ref (1000 + 3)), some (.ref 0), some (.ref 227), some (.int (nI (5 * j)))] [.int ((o_teamOf c (E.2.2.2 3 (5 * j + 1)) (E.2.2.2 3 (5 * j + 2))).1), .int ((o_teamOf c (E.2.2.2 3 (5 * j + 1)) (E.2.2.2 3 (5 * j + 2))).1)] κ
  refine pw_icmp_eq (tgt := 1026) dL_law_649 (by decide) (fun _ => ?_) (fun h9 => absurd rfl h9)
  refine px_iincn (n := 5) (a := 5 * j) (b := 5 * j + 5) (ls' := [some (.ref (1000 + 3)), some (.ref 0), some (.ref 227), some (.int (nI (5 * j + 5)))]) dL_law_1026 rfl rfl rfl rfl ?_
  refine pw_goto (tgt := 18) dL_law_1029 (by decide) ?_
  exact ih κ (o_teamOf c (E.2.2.2 3 (5 * j + 1)) (E.2.2.2 3 (5 * j + 2))).2 (v1.sx (by rw [w_teamOf]; exact hw) u2) u1 (by rw [w_teamOf]; exact hw)
set_option maxRecDepth 100000 in
set_option maxHeartbeats 4000000 in
theorem lw_c14 {L j : Nat} (hL : E.2.2.1 3 = L) (hj : 5 * j + 5 ≤ L) (hL2 : L ≤ 2560) (hE : ES E) {c : CS} (hw : CW c) (hx : CX μ c) (hm : MX μ c) (ih : ∀ (ν : Mu) (c : CS), CX ν c → MX ν c → CW c → PS l E D cA mL_law 8 fin 18 [some (.ref (1000 + 3)), some (.ref 0), some (.ref 227), some (.int (nI (5 * (j + 1))))] [] ν) : PS l E D cA mL_law 8 fin 654 [some (.ref (1000 + 3)), some (.ref 0), some (.ref 227), some (.int (nI (5 * j)))] [] μ := by
  refine pw_aload_n dL_law_654 rfl ?_
  refine pw_aload_n dL_law_655 rfl ?_
  refine pw_iload_n dL_law_656 rfl ?_
  refine pw_iconst_ (v := nI 1) dL_law_657 (by decide) ?_
  refine px_iaddn (c := 5 * j + 1) dL_law_658 (by omega) ?_
  refine ps_iald_s (k := 3) (j := 5 * j + 1) (x := E.2.2.2 3 (5 * j + 1)) dL_law_659 (by decide) (by omega) rfl (by omega) rfl ?_
  refine pw_aload_n dL_law_660 rfl ?_
  refine pw_iload_n dL_law_661 rfl ?_
  refine pw_iconst_ (v := nI 2) dL_law_662 (by decide) ?_
  refine px_iaddn (c := 5 * j + 2) dL_law_663 (by omega) ?_
  refine ps_iald_s (k := 3) (j := 5 * j + 2) (x := E.2.2.2 3 (5 * j + 2)) dL_law_664 (by decide) (by omega) rfl (by omega) rfl ?_
  refine ps_callV (b := 0) (As := [.int (E.2.2.2 3 (5 * j + 1)), .int (E.2.2.2 3 (5 * j + 2))]) (st := []) dL_law_665 cv_L_76 rfl ⟨by decide, by decide +kernel⟩ (Nat.le_of_ble_eq_true rfl) (Nat.le_of_ble_eq_true rfl) ?_
  refine x_placeOf hw hx (fun ν v1 v2 => ?_)
  show PS l E D cA mL_law 8 fin 668 [some (.ref (1000 + 3)), some (.ref 0), some (.ref 227), some (.int (nI (5 * j)))] [.int ((o_placeOf c (E.2.2.2 3 (5 * j + 1)) (E.2.2.2 3 (5 * j + 2))).1)] ν
  refine pw_aload_n dL_law_668 rfl ?_
  refine pw_aload_n dL_law_669 rfl ?_
  refine pw_iload_n dL_law_670 rfl ?_
  refine pw_iconst_ (v := nI 1) dL_law_671 (by decide) ?_
  refine px_iaddn (c := 5 * j + 1) dL_law_672 (by omega) ?_
  refine ps_iald_s (k := 3) (j := 5 * j + 1) (x := E.2.2.2 3 (5 * j + 1)) dL_law_673 (by decide) (by omega) rfl (by omega) rfl ?_
  refine pw_aload_n dL_law_674 rfl ?_
  refine pw_iload_n dL_law_675 rfl ?_
  refine pw_iconst_ (v := nI 2) dL_law_676 (by decide) ?_
  refine px_iaddn (c := 5 * j + 2) dL_law_677 (by omega) ?_
  refine ps_iald_s (k := 3) (j := 5 * j + 2) (x := E.2.2.2 3 (5 * j + 2)) dL_law_678 (by decide) (by omega) rfl (by omega) rfl ?_
  refine ps_callV (b := 227) (As := [.int (E.2.2.2 3 (5 * j + 1)), .int (E.2.2.2 3 (5 * j + 2))]) (st := [.int ((o_placeOf c (E.2.2.2 3 (5 * j + 1)) (E.2.2.2 3 (5 * j + 2))).1)]) dL_law_679 cv_L_79 rfl ⟨by decide, by decide +kernel⟩ (Nat.le_of_ble_eq_true rfl) (Nat.le_of_ble_eq_true rfl) ?_
  refine m_placeOf hw (hm.sm v2) (fun κ u1 u2 => ?_)
  show PS l E D cA mL_law 8 fin 682 [some (.ref (1000 + 3)), some (.ref 0), some (.ref 227), some (.int (nI (5 * j)))] [.int ((o_placeOf c (E.2.2.2 3 (5 * j + 1)) (E.2.2.2 3 (5 * j + 2))).1), .int ((o_placeOf c (E.2.2.2 3 (5 * j + 1)) (E.2.2.2 3 (5 * j + 2))).1)] κ
  refine pw_icmp_eq (tgt := 1026) dL_law_682 (by decide) (fun _ => ?_) (fun h9 => absurd rfl h9)
  refine px_iincn (n := 5) (a := 5 * j) (b := 5 * j + 5) (ls' := [some (.ref (1000 + 3)), some (.ref 0), some (.ref 227), some (.int (nI (5 * j + 5)))]) dL_law_1026 rfl rfl rfl rfl ?_
  refine pw_goto (tgt := 18) dL_law_1029 (by decide) ?_
  exact ih κ (o_placeOf c (E.2.2.2 3 (5 * j + 1)) (E.2.2.2 3 (5 * j + 2))).2 (v1.sx (by rw [w_placeOf]; exact hw) u2) u1 (by rw [w_placeOf]; exact hw)
set_option maxRecDepth 100000 in
set_option maxHeartbeats 4000000 in
theorem lw_c15 {L j : Nat} (hL : E.2.2.1 3 = L) (hj : 5 * j + 5 ≤ L) (hL2 : L ≤ 2560) (hE : ES E) {c : CS} (hw : CW c) (hx : CX μ c) (hm : MX μ c) (ih : ∀ (ν : Mu) (c : CS), CX ν c → MX ν c → CW c → PS l E D cA mL_law 8 fin 18 [some (.ref (1000 + 3)), some (.ref 0), some (.ref 227), some (.int (nI (5 * (j + 1))))] [] ν) : PS l E D cA mL_law 8 fin 687 [some (.ref (1000 + 3)), some (.ref 0), some (.ref 227), some (.int (nI (5 * j)))] [] μ := by
  refine pw_aload_n dL_law_687 rfl ?_
  refine pw_aload_n dL_law_688 rfl ?_
  refine pw_iload_n dL_law_689 rfl ?_
  refine pw_iconst_ (v := nI 1) dL_law_690 (by decide) ?_
  refine px_iaddn (c := 5 * j + 1) dL_law_691 (by omega) ?_
  refine ps_iald_s (k := 3) (j := 5 * j + 1) (x := E.2.2.2 3 (5 * j + 1)) dL_law_692 (by decide) (by omega) rfl (by omega) rfl ?_
  refine pw_aload_n dL_law_693 rfl ?_
  refine pw_iload_n dL_law_694 rfl ?_
  refine pw_iconst_ (v := nI 2) dL_law_695 (by decide) ?_
  refine px_iaddn (c := 5 * j + 2) dL_law_696 (by omega) ?_
  refine ps_iald_s (k := 3) (j := 5 * j + 2) (x := E.2.2.2 3 (5 * j + 2)) dL_law_697 (by decide) (by omega) rfl (by omega) rfl ?_
  refine ps_callV (b := 0) (As := [.int (E.2.2.2 3 (5 * j + 1)), .int (E.2.2.2 3 (5 * j + 2))]) (st := []) dL_law_698 cv_L_80 rfl ⟨by decide, by decide +kernel⟩ (Nat.le_of_ble_eq_true rfl) (Nat.le_of_ble_eq_true rfl) ?_
  refine x_where hw hx (fun ν v1 v2 => ?_)
  show PS l E D cA mL_law 8 fin 701 [some (.ref (1000 + 3)), some (.ref 0), some (.ref 227), some (.int (nI (5 * j)))] [.int ((o_where c (E.2.2.2 3 (5 * j + 1)) (E.2.2.2 3 (5 * j + 2))).1)] ν
  refine pw_aload_n dL_law_701 rfl ?_
  refine pw_aload_n dL_law_702 rfl ?_
  refine pw_iload_n dL_law_703 rfl ?_
  refine pw_iconst_ (v := nI 1) dL_law_704 (by decide) ?_
  refine px_iaddn (c := 5 * j + 1) dL_law_705 (by omega) ?_
  refine ps_iald_s (k := 3) (j := 5 * j + 1) (x := E.2.2.2 3 (5 * j + 1)) dL_law_706 (by decide) (by omega) rfl (by omega) rfl ?_
  refine pw_aload_n dL_law_707 rfl ?_
  refine pw_iload_n dL_law_708 rfl ?_
  refine pw_iconst_ (v := nI 2) dL_law_709 (by decide) ?_
  refine px_iaddn (c := 5 * j + 2) dL_law_710 (by omega) ?_
  refine ps_iald_s (k := 3) (j := 5 * j + 2) (x := E.2.2.2 3 (5 * j + 2)) dL_law_711 (by decide) (by omega) rfl (by omega) rfl ?_
  refine ps_callV (b := 227) (As := [.int (E.2.2.2 3 (5 * j + 1)), .int (E.2.2.2 3 (5 * j + 2))]) (st := [.int ((o_where c (E.2.2.2 3 (5 * j + 1)) (E.2.2.2 3 (5 * j + 2))).1)]) dL_law_712 cv_L_83 rfl ⟨by decide, by decide +kernel⟩ (Nat.le_of_ble_eq_true rfl) (Nat.le_of_ble_eq_true rfl) ?_
  refine m_where hw (hm.sm v2) (fun κ u1 u2 => ?_)
  show PS l E D cA mL_law 8 fin 715 [some (.ref (1000 + 3)), some (.ref 0), some (.ref 227), some (.int (nI (5 * j)))] [.int ((o_where c (E.2.2.2 3 (5 * j + 1)) (E.2.2.2 3 (5 * j + 2))).1), .int ((o_where c (E.2.2.2 3 (5 * j + 1)) (E.2.2.2 3 (5 * j + 2))).1)] κ
  refine pw_icmp_eq (tgt := 1026) dL_law_715 (by decide) (fun _ => ?_) (fun h9 => absurd rfl h9)
  refine px_iincn (n := 5) (a := 5 * j) (b := 5 * j + 5) (ls' := [some (.ref (1000 + 3)), some (.ref 0), some (.ref 227), some (.int (nI (5 * j + 5)))]) dL_law_1026 rfl rfl rfl rfl ?_
  refine pw_goto (tgt := 18) dL_law_1029 (by decide) ?_
  exact ih κ (o_where c (E.2.2.2 3 (5 * j + 1)) (E.2.2.2 3 (5 * j + 2))).2 (v1.sx (by rw [w_where]; exact hw) u2) u1 (by rw [w_where]; exact hw)
set_option maxRecDepth 100000 in
set_option maxHeartbeats 4000000 in
theorem lw_c16 {L j : Nat} (hL : E.2.2.1 3 = L) (hj : 5 * j + 5 ≤ L) (hL2 : L ≤ 2560) (hE : ES E) {c : CS} (hw : CW c) (hx : CX μ c) (hm : MX μ c) (ih : ∀ (ν : Mu) (c : CS), CX ν c → MX ν c → CW c → PS l E D cA mL_law 8 fin 18 [some (.ref (1000 + 3)), some (.ref 0), some (.ref 227), some (.int (nI (5 * (j + 1))))] [] ν) : PS l E D cA mL_law 8 fin 720 [some (.ref (1000 + 3)), some (.ref 0), some (.ref 227), some (.int (nI (5 * j)))] [] μ := by
  refine pw_aload_n dL_law_720 rfl ?_
  refine pw_aload_n dL_law_721 rfl ?_
  refine pw_iload_n dL_law_722 rfl ?_
  refine pw_iconst_ (v := nI 1) dL_law_723 (by decide) ?_
  refine px_iaddn (c := 5 * j + 1) dL_law_724 (by omega) ?_
  refine ps_iald_s (k := 3) (j := 5 * j + 1) (x := E.2.2.2 3 (5 * j + 1)) dL_law_725 (by decide) (by omega) rfl (by omega) rfl ?_
  refine pw_aload_n dL_law_726 rfl ?_
  refine pw_iload_n dL_law_727 rfl ?_
  refine pw_iconst_ (v := nI 2) dL_law_728 (by decide) ?_
  refine px_iaddn (c := 5 * j + 2) dL_law_729 (by omega) ?_
  refine ps_iald_s (k := 3) (j := 5 * j + 2) (x := E.2.2.2 3 (5 * j + 2)) dL_law_730 (by decide) (by omega) rfl (by omega) rfl ?_
  refine ps_callV (b := 0) (As := [.int (E.2.2.2 3 (5 * j + 1)), .int (E.2.2.2 3 (5 * j + 2))]) (st := []) dL_law_731 cv_L_84 rfl ⟨by decide, by decide +kernel⟩ (Nat.le_of_ble_eq_true rfl) (Nat.le_of_ble_eq_true rfl) ?_
  refine x_told hw hx (fun ν v1 v2 => ?_)
  show PS l E D cA mL_law 8 fin 734 [some (.ref (1000 + 3)), some (.ref 0), some (.ref 227), some (.int (nI (5 * j)))] [.int ((o_told c (E.2.2.2 3 (5 * j + 1)) (E.2.2.2 3 (5 * j + 2))).1)] ν
  refine pw_aload_n dL_law_734 rfl ?_
  refine pw_aload_n dL_law_735 rfl ?_
  refine pw_iload_n dL_law_736 rfl ?_
  refine pw_iconst_ (v := nI 1) dL_law_737 (by decide) ?_
  refine px_iaddn (c := 5 * j + 1) dL_law_738 (by omega) ?_
  refine ps_iald_s (k := 3) (j := 5 * j + 1) (x := E.2.2.2 3 (5 * j + 1)) dL_law_739 (by decide) (by omega) rfl (by omega) rfl ?_
  refine pw_aload_n dL_law_740 rfl ?_
  refine pw_iload_n dL_law_741 rfl ?_
  refine pw_iconst_ (v := nI 2) dL_law_742 (by decide) ?_
  refine px_iaddn (c := 5 * j + 2) dL_law_743 (by omega) ?_
  refine ps_iald_s (k := 3) (j := 5 * j + 2) (x := E.2.2.2 3 (5 * j + 2)) dL_law_744 (by decide) (by omega) rfl (by omega) rfl ?_
  refine ps_callV (b := 227) (As := [.int (E.2.2.2 3 (5 * j + 1)), .int (E.2.2.2 3 (5 * j + 2))]) (st := [.int ((o_told c (E.2.2.2 3 (5 * j + 1)) (E.2.2.2 3 (5 * j + 2))).1)]) dL_law_745 cv_L_87 rfl ⟨by decide, by decide +kernel⟩ (Nat.le_of_ble_eq_true rfl) (Nat.le_of_ble_eq_true rfl) ?_
  refine m_told hw (hm.sm v2) (fun κ u1 u2 => ?_)
  show PS l E D cA mL_law 8 fin 748 [some (.ref (1000 + 3)), some (.ref 0), some (.ref 227), some (.int (nI (5 * j)))] [.int ((o_told c (E.2.2.2 3 (5 * j + 1)) (E.2.2.2 3 (5 * j + 2))).1), .int ((o_told c (E.2.2.2 3 (5 * j + 1)) (E.2.2.2 3 (5 * j + 2))).1)] κ
  refine pw_icmp_eq (tgt := 1026) dL_law_748 (by decide) (fun _ => ?_) (fun h9 => absurd rfl h9)
  refine px_iincn (n := 5) (a := 5 * j) (b := 5 * j + 5) (ls' := [some (.ref (1000 + 3)), some (.ref 0), some (.ref 227), some (.int (nI (5 * j + 5)))]) dL_law_1026 rfl rfl rfl rfl ?_
  refine pw_goto (tgt := 18) dL_law_1029 (by decide) ?_
  exact ih κ (o_told c (E.2.2.2 3 (5 * j + 1)) (E.2.2.2 3 (5 * j + 2))).2 (v1.sx (by rw [w_told]; exact hw) u2) u1 (by rw [w_told]; exact hw)
set_option maxRecDepth 100000 in
set_option maxHeartbeats 4000000 in
theorem lw_c17 {L j : Nat} (hL : E.2.2.1 3 = L) (hj : 5 * j + 5 ≤ L) (hL2 : L ≤ 2560) (hE : ES E) {c : CS} (hw : CW c) (hx : CX μ c) (hm : MX μ c) (ih : ∀ (ν : Mu) (c : CS), CX ν c → MX ν c → CW c → PS l E D cA mL_law 8 fin 18 [some (.ref (1000 + 3)), some (.ref 0), some (.ref 227), some (.int (nI (5 * (j + 1))))] [] ν) : PS l E D cA mL_law 8 fin 753 [some (.ref (1000 + 3)), some (.ref 0), some (.ref 227), some (.int (nI (5 * j)))] [] μ := by
  refine pw_aload_n dL_law_753 rfl ?_
  refine pw_aload_n dL_law_754 rfl ?_
  refine pw_iload_n dL_law_755 rfl ?_
  refine pw_iconst_ (v := nI 1) dL_law_756 (by decide) ?_
  refine px_iaddn (c := 5 * j + 1) dL_law_757 (by omega) ?_
  refine ps_iald_s (k := 3) (j := 5 * j + 1) (x := E.2.2.2 3 (5 * j + 1)) dL_law_758 (by decide) (by omega) rfl (by omega) rfl ?_
  refine ps_callV (b := 0) (As := [.int (E.2.2.2 3 (5 * j + 1))]) (st := []) dL_law_759 cv_L_88 rfl ⟨by decide, by decide +kernel⟩ (Nat.le_of_ble_eq_true rfl) (Nat.le_of_ble_eq_true rfl) ?_
  refine x_count hw hx (fun ν v1 v2 => ?_)
  show PS l E D cA mL_law 8 fin 762 [some (.ref (1000 + 3)), some (.ref 0), some (.ref 227), some (.int (nI (5 * j)))] [.int ((o_count c (E.2.2.2 3 (5 * j + 1))).1)] ν
  refine pw_aload_n dL_law_762 rfl ?_
  refine pw_aload_n dL_law_763 rfl ?_
  refine pw_iload_n dL_law_764 rfl ?_
  refine pw_iconst_ (v := nI 1) dL_law_765 (by decide) ?_
  refine px_iaddn (c := 5 * j + 1) dL_law_766 (by omega) ?_
  refine ps_iald_s (k := 3) (j := 5 * j + 1) (x := E.2.2.2 3 (5 * j + 1)) dL_law_767 (by decide) (by omega) rfl (by omega) rfl ?_
  refine ps_callV (b := 227) (As := [.int (E.2.2.2 3 (5 * j + 1))]) (st := [.int ((o_count c (E.2.2.2 3 (5 * j + 1))).1)]) dL_law_768 cv_L_91 rfl ⟨by decide, by decide +kernel⟩ (Nat.le_of_ble_eq_true rfl) (Nat.le_of_ble_eq_true rfl) ?_
  refine m_count hw (hm.sm v2) (fun κ u1 u2 => ?_)
  show PS l E D cA mL_law 8 fin 771 [some (.ref (1000 + 3)), some (.ref 0), some (.ref 227), some (.int (nI (5 * j)))] [.int ((o_count c (E.2.2.2 3 (5 * j + 1))).1), .int ((o_count c (E.2.2.2 3 (5 * j + 1))).1)] κ
  refine pw_icmp_eq (tgt := 1026) dL_law_771 (by decide) (fun _ => ?_) (fun h9 => absurd rfl h9)
  refine px_iincn (n := 5) (a := 5 * j) (b := 5 * j + 5) (ls' := [some (.ref (1000 + 3)), some (.ref 0), some (.ref 227), some (.int (nI (5 * j + 5)))]) dL_law_1026 rfl rfl rfl rfl ?_
  refine pw_goto (tgt := 18) dL_law_1029 (by decide) ?_
  exact ih κ (o_count c (E.2.2.2 3 (5 * j + 1))).2 (v1.sx (by rw [w_count]; exact hw) u2) u1 (by rw [w_count]; exact hw)
set_option maxRecDepth 100000 in
set_option maxHeartbeats 4000000 in
theorem lw_c18 {L j : Nat} (hL : E.2.2.1 3 = L) (hj : 5 * j + 5 ≤ L) (hL2 : L ≤ 2560) (hE : ES E) {c : CS} (hw : CW c) (hx : CX μ c) (hm : MX μ c) (ih : ∀ (ν : Mu) (c : CS), CX ν c → MX ν c → CW c → PS l E D cA mL_law 8 fin 18 [some (.ref (1000 + 3)), some (.ref 0), some (.ref 227), some (.int (nI (5 * (j + 1))))] [] ν) : PS l E D cA mL_law 8 fin 776 [some (.ref (1000 + 3)), some (.ref 0), some (.ref 227), some (.int (nI (5 * j)))] [] μ := by
  refine pw_aload_n dL_law_776 rfl ?_
  refine pw_aload_n dL_law_777 rfl ?_
  refine pw_iload_n dL_law_778 rfl ?_
  refine pw_iconst_ (v := nI 1) dL_law_779 (by decide) ?_
  refine px_iaddn (c := 5 * j + 1) dL_law_780 (by omega) ?_
  refine ps_iald_s (k := 3) (j := 5 * j + 1) (x := E.2.2.2 3 (5 * j + 1)) dL_law_781 (by decide) (by omega) rfl (by omega) rfl ?_
  refine ps_callV (b := 0) (As := [.int (E.2.2.2 3 (5 * j + 1))]) (st := []) dL_law_782 cv_L_92 rfl ⟨by decide, by decide +kernel⟩ (Nat.le_of_ble_eq_true rfl) (Nat.le_of_ble_eq_true rfl) ?_
  refine x_freeStart hw hx (fun ν v1 v2 => ?_)
  show PS l E D cA mL_law 8 fin 785 [some (.ref (1000 + 3)), some (.ref 0), some (.ref 227), some (.int (nI (5 * j)))] [.int ((o_freeStart c (E.2.2.2 3 (5 * j + 1))).1)] ν
  refine pw_aload_n dL_law_785 rfl ?_
  refine pw_aload_n dL_law_786 rfl ?_
  refine pw_iload_n dL_law_787 rfl ?_
  refine pw_iconst_ (v := nI 1) dL_law_788 (by decide) ?_
  refine px_iaddn (c := 5 * j + 1) dL_law_789 (by omega) ?_
  refine ps_iald_s (k := 3) (j := 5 * j + 1) (x := E.2.2.2 3 (5 * j + 1)) dL_law_790 (by decide) (by omega) rfl (by omega) rfl ?_
  refine ps_callV (b := 227) (As := [.int (E.2.2.2 3 (5 * j + 1))]) (st := [.int ((o_freeStart c (E.2.2.2 3 (5 * j + 1))).1)]) dL_law_791 cv_L_95 rfl ⟨by decide, by decide +kernel⟩ (Nat.le_of_ble_eq_true rfl) (Nat.le_of_ble_eq_true rfl) ?_
  refine m_freeStart hw (hm.sm v2) (fun κ u1 u2 => ?_)
  show PS l E D cA mL_law 8 fin 794 [some (.ref (1000 + 3)), some (.ref 0), some (.ref 227), some (.int (nI (5 * j)))] [.int ((o_freeStart c (E.2.2.2 3 (5 * j + 1))).1), .int ((o_freeStart c (E.2.2.2 3 (5 * j + 1))).1)] κ
  refine pw_icmp_eq (tgt := 1026) dL_law_794 (by decide) (fun _ => ?_) (fun h9 => absurd rfl h9)
  refine px_iincn (n := 5) (a := 5 * j) (b := 5 * j + 5) (ls' := [some (.ref (1000 + 3)), some (.ref 0), some (.ref 227), some (.int (nI (5 * j + 5)))]) dL_law_1026 rfl rfl rfl rfl ?_
  refine pw_goto (tgt := 18) dL_law_1029 (by decide) ?_
  exact ih κ (o_freeStart c (E.2.2.2 3 (5 * j + 1))).2 (v1.sx (by rw [w_freeStart]; exact hw) u2) u1 (by rw [w_freeStart]; exact hw)
set_option maxRecDepth 100000 in
set_option maxHeartbeats 4000000 in
theorem lw_c19 {L j : Nat} (hL : E.2.2.1 3 = L) (hj : 5 * j + 5 ≤ L) (hL2 : L ≤ 2560) (hE : ES E) {c : CS} (hw : CW c) (hx : CX μ c) (hm : MX μ c) (ih : ∀ (ν : Mu) (c : CS), CX ν c → MX ν c → CW c → PS l E D cA mL_law 8 fin 18 [some (.ref (1000 + 3)), some (.ref 0), some (.ref 227), some (.int (nI (5 * (j + 1))))] [] ν) : PS l E D cA mL_law 8 fin 799 [some (.ref (1000 + 3)), some (.ref 0), some (.ref 227), some (.int (nI (5 * j)))] [] μ := by
  refine pw_aload_n dL_law_799 rfl ?_
  refine pw_aload_n dL_law_800 rfl ?_
  refine pw_iload_n dL_law_801 rfl ?_
  refine pw_iconst_ (v := nI 1) dL_law_802 (by decide) ?_
  refine px_iaddn (c := 5 * j + 1) dL_law_803 (by omega) ?_
  refine ps_iald_s (k := 3) (j := 5 * j + 1) (x := E.2.2.2 3 (5 * j + 1)) dL_law_804 (by decide) (by omega) rfl (by omega) rfl ?_
  refine pw_aload_n dL_law_805 rfl ?_
  refine pw_iload_n dL_law_806 rfl ?_
  refine pw_iconst_ (v := nI 2) dL_law_807 (by decide) ?_
  refine px_iaddn (c := 5 * j + 2) dL_law_808 (by omega) ?_
  refine ps_iald_s (k := 3) (j := 5 * j + 2) (x := E.2.2.2 3 (5 * j + 2)) dL_law_809 (by decide) (by omega) rfl (by omega) rfl ?_
  refine ps_callV (b := 0) (As := [.int (E.2.2.2 3 (5 * j + 1)), .int (E.2.2.2 3 (5 * j + 2))]) (st := []) dL_law_810 cv_L_96 rfl ⟨by decide, by decide +kernel⟩ (Nat.le_of_ble_eq_true rfl) (Nat.le_of_ble_eq_true rfl) ?_
  refine x_bestExchange hw hx (fun ν v1 v2 => ?_)
  show PS l E D cA mL_law 8 fin 813 [some (.ref (1000 + 3)), some (.ref 0), some (.ref 227), some (.int (nI (5 * j)))] [.int ((o_bestExchange c (E.2.2.2 3 (5 * j + 1)) (E.2.2.2 3 (5 * j + 2))).1)] ν
  refine pw_aload_n dL_law_813 rfl ?_
  refine pw_aload_n dL_law_814 rfl ?_
  refine pw_iload_n dL_law_815 rfl ?_
  refine pw_iconst_ (v := nI 1) dL_law_816 (by decide) ?_
  refine px_iaddn (c := 5 * j + 1) dL_law_817 (by omega) ?_
  refine ps_iald_s (k := 3) (j := 5 * j + 1) (x := E.2.2.2 3 (5 * j + 1)) dL_law_818 (by decide) (by omega) rfl (by omega) rfl ?_
  refine pw_aload_n dL_law_819 rfl ?_
  refine pw_iload_n dL_law_820 rfl ?_
  refine pw_iconst_ (v := nI 2) dL_law_821 (by decide) ?_
  refine px_iaddn (c := 5 * j + 2) dL_law_822 (by omega) ?_
  refine ps_iald_s (k := 3) (j := 5 * j + 2) (x := E.2.2.2 3 (5 * j + 2)) dL_law_823 (by decide) (by omega) rfl (by omega) rfl ?_
  refine ps_callV (b := 227) (As := [.int (E.2.2.2 3 (5 * j + 1)), .int (E.2.2.2 3 (5 * j + 2))]) (st := [.int ((o_bestExchange c (E.2.2.2 3 (5 * j + 1)) (E.2.2.2 3 (5 * j + 2))).1)]) dL_law_824 cv_L_99 rfl ⟨by decide, by decide +kernel⟩ (Nat.le_of_ble_eq_true rfl) (Nat.le_of_ble_eq_true rfl) ?_
  refine m_bestExchange hw (hm.sm v2) (fun κ u1 u2 => ?_)
  show PS l E D cA mL_law 8 fin 827 [some (.ref (1000 + 3)), some (.ref 0), some (.ref 227), some (.int (nI (5 * j)))] [.int ((o_bestExchange c (E.2.2.2 3 (5 * j + 1)) (E.2.2.2 3 (5 * j + 2))).1), .int ((o_bestExchange c (E.2.2.2 3 (5 * j + 1)) (E.2.2.2 3 (5 * j + 2))).1)] κ
  refine pw_icmp_eq (tgt := 1026) dL_law_827 (by decide) (fun _ => ?_) (fun h9 => absurd rfl h9)
  refine px_iincn (n := 5) (a := 5 * j) (b := 5 * j + 5) (ls' := [some (.ref (1000 + 3)), some (.ref 0), some (.ref 227), some (.int (nI (5 * j + 5)))]) dL_law_1026 rfl rfl rfl rfl ?_
  refine pw_goto (tgt := 18) dL_law_1029 (by decide) ?_
  exact ih κ (o_bestExchange c (E.2.2.2 3 (5 * j + 1)) (E.2.2.2 3 (5 * j + 2))).2 (v1.sx (by rw [w_bestExchange]; exact hw) u2) u1 (by rw [w_bestExchange]; exact hw)
set_option maxRecDepth 100000 in
set_option maxHeartbeats 4000000 in
theorem lw_c20 {L j : Nat} (hL : E.2.2.1 3 = L) (hj : 5 * j + 5 ≤ L) (hL2 : L ≤ 2560) (hE : ES E) {c : CS} (hw : CW c) (hx : CX μ c) (hm : MX μ c) (ih : ∀ (ν : Mu) (c : CS), CX ν c → MX ν c → CW c → PS l E D cA mL_law 8 fin 18 [some (.ref (1000 + 3)), some (.ref 0), some (.ref 227), some (.int (nI (5 * (j + 1))))] [] ν) : PS l E D cA mL_law 8 fin 832 [some (.ref (1000 + 3)), some (.ref 0), some (.ref 227), some (.int (nI (5 * j)))] [] μ := by
  refine pw_aload_n dL_law_832 rfl ?_
  refine pw_aload_n dL_law_833 rfl ?_
  refine pw_iload_n dL_law_834 rfl ?_
  refine pw_iconst_ (v := nI 1) dL_law_835 (by decide) ?_
  refine px_iaddn (c := 5 * j + 1) dL_law_836 (by omega) ?_
  refine ps_iald_s (k := 3) (j := 5 * j + 1) (x := E.2.2.2 3 (5 * j + 1)) dL_law_837 (by decide) (by omega) rfl (by omega) rfl ?_
  refine ps_callV (b := 0) (As := [.int (E.2.2.2 3 (5 * j + 1))]) (st := []) dL_law_838 cv_L_100 rfl ⟨by decide, by decide +kernel⟩ (Nat.le_of_ble_eq_true rfl) (Nat.le_of_ble_eq_true rfl) ?_
  refine x_worstPlace hw hx (fun ν v1 v2 => ?_)
  show PS l E D cA mL_law 8 fin 841 [some (.ref (1000 + 3)), some (.ref 0), some (.ref 227), some (.int (nI (5 * j)))] [.int ((o_worstPlace c (E.2.2.2 3 (5 * j + 1))).1)] ν
  refine pw_aload_n dL_law_841 rfl ?_
  refine pw_aload_n dL_law_842 rfl ?_
  refine pw_iload_n dL_law_843 rfl ?_
  refine pw_iconst_ (v := nI 1) dL_law_844 (by decide) ?_
  refine px_iaddn (c := 5 * j + 1) dL_law_845 (by omega) ?_
  refine ps_iald_s (k := 3) (j := 5 * j + 1) (x := E.2.2.2 3 (5 * j + 1)) dL_law_846 (by decide) (by omega) rfl (by omega) rfl ?_
  refine ps_callV (b := 227) (As := [.int (E.2.2.2 3 (5 * j + 1))]) (st := [.int ((o_worstPlace c (E.2.2.2 3 (5 * j + 1))).1)]) dL_law_847 cv_L_103 rfl ⟨by decide, by decide +kernel⟩ (Nat.le_of_ble_eq_true rfl) (Nat.le_of_ble_eq_true rfl) ?_
  refine m_worstPlace hw (hm.sm v2) (fun κ u1 u2 => ?_)
  show PS l E D cA mL_law 8 fin 850 [some (.ref (1000 + 3)), some (.ref 0), some (.ref 227), some (.int (nI (5 * j)))] [.int ((o_worstPlace c (E.2.2.2 3 (5 * j + 1))).1), .int ((o_worstPlace c (E.2.2.2 3 (5 * j + 1))).1)] κ
  refine pw_icmp_eq (tgt := 1026) dL_law_850 (by decide) (fun _ => ?_) (fun h9 => absurd rfl h9)
  refine px_iincn (n := 5) (a := 5 * j) (b := 5 * j + 5) (ls' := [some (.ref (1000 + 3)), some (.ref 0), some (.ref 227), some (.int (nI (5 * j + 5)))]) dL_law_1026 rfl rfl rfl rfl ?_
  refine pw_goto (tgt := 18) dL_law_1029 (by decide) ?_
  exact ih κ (o_worstPlace c (E.2.2.2 3 (5 * j + 1))).2 (v1.sx (by rw [w_worstPlace]; exact hw) u2) u1 (by rw [w_worstPlace]; exact hw)
set_option maxRecDepth 100000 in
set_option maxHeartbeats 4000000 in
theorem lw_c21 {L j : Nat} (hL : E.2.2.1 3 = L) (hj : 5 * j + 5 ≤ L) (hL2 : L ≤ 2560) (hE : ES E) {c : CS} (hw : CW c) (hx : CX μ c) (hm : MX μ c) (ih : ∀ (ν : Mu) (c : CS), CX ν c → MX ν c → CW c → PS l E D cA mL_law 8 fin 18 [some (.ref (1000 + 3)), some (.ref 0), some (.ref 227), some (.int (nI (5 * (j + 1))))] [] ν) : PS l E D cA mL_law 8 fin 855 [some (.ref (1000 + 3)), some (.ref 0), some (.ref 227), some (.int (nI (5 * j)))] [] μ := by
  refine pw_aload_n dL_law_855 rfl ?_
  refine pw_aload_n dL_law_856 rfl ?_
  refine pw_iload_n dL_law_857 rfl ?_
  refine pw_iconst_ (v := nI 1) dL_law_858 (by decide) ?_
  refine px_iaddn (c := 5 * j + 1) dL_law_859 (by omega) ?_
  refine ps_iald_s (k := 3) (j := 5 * j + 1) (x := E.2.2.2 3 (5 * j + 1)) dL_law_860 (by decide) (by omega) rfl (by omega) rfl ?_
  refine pw_aload_n dL_law_861 rfl ?_
  refine pw_iload_n dL_law_862 rfl ?_
  refine pw_iconst_ (v := nI 2) dL_law_863 (by decide) ?_
  refine px_iaddn (c := 5 * j + 2) dL_law_864 (by omega) ?_
  refine ps_iald_s (k := 3) (j := 5 * j + 2) (x := E.2.2.2 3 (5 * j + 2)) dL_law_865 (by decide) (by omega) rfl (by omega) rfl ?_
  refine ps_callV (b := 0) (As := [.int (E.2.2.2 3 (5 * j + 1)), .int (E.2.2.2 3 (5 * j + 2))]) (st := []) dL_law_866 cv_L_104 rfl ⟨by decide, by decide +kernel⟩ (Nat.le_of_ble_eq_true rfl) (Nat.le_of_ble_eq_true rfl) ?_
  refine x_ifTurned hw hx (fun ν v1 v2 => ?_)
  show PS l E D cA mL_law 8 fin 869 [some (.ref (1000 + 3)), some (.ref 0), some (.ref 227), some (.int (nI (5 * j)))] [.int ((o_ifTurned c (E.2.2.2 3 (5 * j + 1)) (E.2.2.2 3 (5 * j + 2))).1)] ν
  refine pw_aload_n dL_law_869 rfl ?_
  refine pw_aload_n dL_law_870 rfl ?_
  refine pw_iload_n dL_law_871 rfl ?_
  refine pw_iconst_ (v := nI 1) dL_law_872 (by decide) ?_
  refine px_iaddn (c := 5 * j + 1) dL_law_873 (by omega) ?_
  refine ps_iald_s (k := 3) (j := 5 * j + 1) (x := E.2.2.2 3 (5 * j + 1)) dL_law_874 (by decide) (by omega) rfl (by omega) rfl ?_
  refine pw_aload_n dL_law_875 rfl ?_
  refine pw_iload_n dL_law_876 rfl ?_
  refine pw_iconst_ (v := nI 2) dL_law_877 (by decide) ?_
  refine px_iaddn (c := 5 * j + 2) dL_law_878 (by omega) ?_
  refine ps_iald_s (k := 3) (j := 5 * j + 2) (x := E.2.2.2 3 (5 * j + 2)) dL_law_879 (by decide) (by omega) rfl (by omega) rfl ?_
  refine ps_callV (b := 227) (As := [.int (E.2.2.2 3 (5 * j + 1)), .int (E.2.2.2 3 (5 * j + 2))]) (st := [.int ((o_ifTurned c (E.2.2.2 3 (5 * j + 1)) (E.2.2.2 3 (5 * j + 2))).1)]) dL_law_880 cv_L_107 rfl ⟨by decide, by decide +kernel⟩ (Nat.le_of_ble_eq_true rfl) (Nat.le_of_ble_eq_true rfl) ?_
  refine m_ifTurned hw (hm.sm v2) (fun κ u1 u2 => ?_)
  show PS l E D cA mL_law 8 fin 883 [some (.ref (1000 + 3)), some (.ref 0), some (.ref 227), some (.int (nI (5 * j)))] [.int ((o_ifTurned c (E.2.2.2 3 (5 * j + 1)) (E.2.2.2 3 (5 * j + 2))).1), .int ((o_ifTurned c (E.2.2.2 3 (5 * j + 1)) (E.2.2.2 3 (5 * j + 2))).1)] κ
  refine pw_icmp_eq (tgt := 1026) dL_law_883 (by decide) (fun _ => ?_) (fun h9 => absurd rfl h9)
  refine px_iincn (n := 5) (a := 5 * j) (b := 5 * j + 5) (ls' := [some (.ref (1000 + 3)), some (.ref 0), some (.ref 227), some (.int (nI (5 * j + 5)))]) dL_law_1026 rfl rfl rfl rfl ?_
  refine pw_goto (tgt := 18) dL_law_1029 (by decide) ?_
  exact ih κ (o_ifTurned c (E.2.2.2 3 (5 * j + 1)) (E.2.2.2 3 (5 * j + 2))).2 (v1.sx (by rw [w_ifTurned]; exact hw) u2) u1 (by rw [w_ifTurned]; exact hw)
set_option maxRecDepth 100000 in
set_option maxHeartbeats 4000000 in
theorem lw_c22 {L j : Nat} (hL : E.2.2.1 3 = L) (hj : 5 * j + 5 ≤ L) (hL2 : L ≤ 2560) (hE : ES E) {c : CS} (hw : CW c) (hx : CX μ c) (hm : MX μ c) (ih : ∀ (ν : Mu) (c : CS), CX ν c → MX ν c → CW c → PS l E D cA mL_law 8 fin 18 [some (.ref (1000 + 3)), some (.ref 0), some (.ref 227), some (.int (nI (5 * (j + 1))))] [] ν) : PS l E D cA mL_law 8 fin 888 [some (.ref (1000 + 3)), some (.ref 0), some (.ref 227), some (.int (nI (5 * j)))] [] μ := by
  refine pw_aload_n dL_law_888 rfl ?_
  refine pw_aload_n dL_law_889 rfl ?_
  refine pw_iload_n dL_law_890 rfl ?_
  refine pw_iconst_ (v := nI 1) dL_law_891 (by decide) ?_
  refine px_iaddn (c := 5 * j + 1) dL_law_892 (by omega) ?_
  refine ps_iald_s (k := 3) (j := 5 * j + 1) (x := E.2.2.2 3 (5 * j + 1)) dL_law_893 (by decide) (by omega) rfl (by omega) rfl ?_
  refine pw_i2l dL_law_894 rfl ?_
  refine pw_bipush (v := nI 32) dL_law_895 (by decide) ?_
  refine pw_lshl dL_law_897 rfl ?_
  refine pw_aload_n dL_law_898 rfl ?_
  refine pw_iload_n dL_law_899 rfl ?_
  refine pw_iconst_ (v := nI 2) dL_law_900 (by decide) ?_
  refine px_iaddn (c := 5 * j + 2) dL_law_901 (by omega) ?_
  refine ps_iald_s (k := 3) (j := 5 * j + 2) (x := E.2.2.2 3 (5 * j + 2)) dL_law_902 (by decide) (by omega) rfl (by omega) rfl ?_
  refine pw_i2l dL_law_903 rfl ?_
  refine pw_ldc2_w dL_law_904 kl_L_108 ?_
  refine pw_land dL_law_907 ?_
  refine pw_lor dL_law_908 ?_
  obtain ⟨U, hU, hUe⟩ := wb_of ((((E.2.2.2 3 (5 * j + 1)).toInt64) <<< ((nI 32).toInt64 &&& 63)) ||| (((E.2.2.2 3 (5 * j + 2)).toInt64) &&& (4294967295)))
  rw [hUe]
  refine ps_callV (b := 0) (As := [.long (lN U)]) (st := []) dL_law_909 cv_L_110 rfl ⟨by decide, by decide +kernel⟩ (Nat.le_of_ble_eq_true rfl) (Nat.le_of_ble_eq_true rfl) ?_
  refine x_put hw hx hU (fun ν v1 v2 => ?_)
  show PS l E D cA mL_law 8 fin 912 [some (.ref (1000 + 3)), some (.ref 0), some (.ref 227), some (.int (nI (5 * j)))] [.int ((o_put c U).1)] ν
  refine pw_aload_n dL_law_912 rfl ?_
  refine pw_aload_n dL_law_913 rfl ?_
  refine pw_iload_n dL_law_914 rfl ?_
  refine pw_iconst_ (v := nI 1) dL_law_915 (by decide) ?_
  refine px_iaddn (c := 5 * j + 1) dL_law_916 (by omega) ?_
  refine ps_iald_s (k := 3) (j := 5 * j + 1) (x := E.2.2.2 3 (5 * j + 1)) dL_law_917 (by decide) (by omega) rfl (by omega) rfl ?_
  refine pw_i2l dL_law_918 rfl ?_
  refine pw_bipush (v := nI 32) dL_law_919 (by decide) ?_
  refine pw_lshl dL_law_921 rfl ?_
  refine pw_aload_n dL_law_922 rfl ?_
  refine pw_iload_n dL_law_923 rfl ?_
  refine pw_iconst_ (v := nI 2) dL_law_924 (by decide) ?_
  refine px_iaddn (c := 5 * j + 2) dL_law_925 (by omega) ?_
  refine ps_iald_s (k := 3) (j := 5 * j + 2) (x := E.2.2.2 3 (5 * j + 2)) dL_law_926 (by decide) (by omega) rfl (by omega) rfl ?_
  refine pw_i2l dL_law_927 rfl ?_
  refine pw_ldc2_w dL_law_928 kl_L_108 ?_
  refine pw_land dL_law_931 ?_
  refine pw_lor dL_law_932 ?_
  rw [hUe]
  refine ps_callV (b := 227) (As := [.long (lN U)]) (st := [.int ((o_put c U).1)]) dL_law_933 cv_L_114 rfl ⟨by decide, by decide +kernel⟩ (Nat.le_of_ble_eq_true rfl) (Nat.le_of_ble_eq_true rfl) ?_
  refine m_put hw (hm.sm v2) hU (fun κ u1 u2 => ?_)
  show PS l E D cA mL_law 8 fin 936 [some (.ref (1000 + 3)), some (.ref 0), some (.ref 227), some (.int (nI (5 * j)))] [.int ((o_put c U).1), .int ((o_put c U).1)] κ
  refine pw_icmp_eq (tgt := 1026) dL_law_936 (by decide) (fun _ => ?_) (fun h9 => absurd rfl h9)
  refine px_iincn (n := 5) (a := 5 * j) (b := 5 * j + 5) (ls' := [some (.ref (1000 + 3)), some (.ref 0), some (.ref 227), some (.int (nI (5 * j + 5)))]) dL_law_1026 rfl rfl rfl rfl ?_
  refine pw_goto (tgt := 18) dL_law_1029 (by decide) ?_
  exact ih κ (o_put c U).2 (v1.sx (w_put hw) u2) u1 (w_put hw)
set_option maxRecDepth 100000 in
set_option maxHeartbeats 4000000 in
theorem lw_c23 {L j : Nat} (hL : E.2.2.1 3 = L) (hj : 5 * j + 5 ≤ L) (hL2 : L ≤ 2560) (hE : ES E) {c : CS} (hw : CW c) (hx : CX μ c) (hm : MX μ c) (ih : ∀ (ν : Mu) (c : CS), CX ν c → MX ν c → CW c → PS l E D cA mL_law 8 fin 18 [some (.ref (1000 + 3)), some (.ref 0), some (.ref 227), some (.int (nI (5 * (j + 1))))] [] ν) : PS l E D cA mL_law 8 fin 941 [some (.ref (1000 + 3)), some (.ref 0), some (.ref 227), some (.int (nI (5 * j)))] [] μ := by
  refine pw_aload_n dL_law_941 rfl ?_
  refine ps_callV (b := 0) (As := []) (st := []) dL_law_942 cv_L_115 rfl ⟨by decide, by decide +kernel⟩ (Nat.le_of_ble_eq_true rfl) (Nat.le_of_ble_eq_true rfl) ?_
  refine x_wipe hw hx (fun ν v1 v2 => ?_)
  show PS l E D cA mL_law 8 fin 945 [some (.ref (1000 + 3)), some (.ref 0), some (.ref 227), some (.int (nI (5 * j)))] [.int ((o_wipe c).1)] ν
  refine pw_aload_n dL_law_945 rfl ?_
  refine ps_callV (b := 227) (As := []) (st := [.int ((o_wipe c).1)]) dL_law_946 cv_L_118 rfl ⟨by decide, by decide +kernel⟩ (Nat.le_of_ble_eq_true rfl) (Nat.le_of_ble_eq_true rfl) ?_
  refine m_wipe hw (hm.sm v2) (fun κ u1 u2 => ?_)
  show PS l E D cA mL_law 8 fin 949 [some (.ref (1000 + 3)), some (.ref 0), some (.ref 227), some (.int (nI (5 * j)))] [.int ((o_wipe c).1), .int ((o_wipe c).1)] κ
  refine pw_icmp_eq (tgt := 1026) dL_law_949 (by decide) (fun _ => ?_) (fun h9 => absurd rfl h9)
  refine px_iincn (n := 5) (a := 5 * j) (b := 5 * j + 5) (ls' := [some (.ref (1000 + 3)), some (.ref 0), some (.ref 227), some (.int (nI (5 * j + 5)))]) dL_law_1026 rfl rfl rfl rfl ?_
  refine pw_goto (tgt := 18) dL_law_1029 (by decide) ?_
  exact ih κ (o_wipe c).2 (v1.sx (w_wipe hw) u2) u1 (w_wipe hw)
set_option maxRecDepth 100000 in
set_option maxHeartbeats 4000000 in
theorem lw_c24 {L j : Nat} (hL : E.2.2.1 3 = L) (hj : 5 * j + 5 ≤ L) (hL2 : L ≤ 2560) (hE : ES E) {c : CS} (hw : CW c) (hx : CX μ c) (hm : MX μ c) (ih : ∀ (ν : Mu) (c : CS), CX ν c → MX ν c → CW c → PS l E D cA mL_law 8 fin 18 [some (.ref (1000 + 3)), some (.ref 0), some (.ref 227), some (.int (nI (5 * (j + 1))))] [] ν) : PS l E D cA mL_law 8 fin 954 [some (.ref (1000 + 3)), some (.ref 0), some (.ref 227), some (.int (nI (5 * j)))] [] μ := by
  refine pw_aload_n dL_law_954 rfl ?_
  refine ps_callV (b := 0) (As := []) (st := []) dL_law_955 cv_L_119 rfl ⟨by decide, by decide +kernel⟩ (Nat.le_of_ble_eq_true rfl) (Nat.le_of_ble_eq_true rfl) ?_
  refine x_fault hw hx (fun ν v1 v2 => ?_)
  show PS l E D cA mL_law 8 fin 958 [some (.ref (1000 + 3)), some (.ref 0), some (.ref 227), some (.int (nI (5 * j)))] [.int ((o_fault c).1)] ν
  refine pw_aload_n dL_law_958 rfl ?_
  refine ps_callV (b := 227) (As := []) (st := [.int ((o_fault c).1)]) dL_law_959 cv_L_122 rfl ⟨by decide, by decide +kernel⟩ (Nat.le_of_ble_eq_true rfl) (Nat.le_of_ble_eq_true rfl) ?_
  refine m_fault hw (hm.sm v2) (fun κ u1 u2 => ?_)
  show PS l E D cA mL_law 8 fin 962 [some (.ref (1000 + 3)), some (.ref 0), some (.ref 227), some (.int (nI (5 * j)))] [.int ((o_fault c).1), .int ((o_fault c).1)] κ
  refine pw_icmp_eq (tgt := 1026) dL_law_962 (by decide) (fun _ => ?_) (fun h9 => absurd rfl h9)
  refine px_iincn (n := 5) (a := 5 * j) (b := 5 * j + 5) (ls' := [some (.ref (1000 + 3)), some (.ref 0), some (.ref 227), some (.int (nI (5 * j + 5)))]) dL_law_1026 rfl rfl rfl rfl ?_
  refine pw_goto (tgt := 18) dL_law_1029 (by decide) ?_
  exact ih κ (o_fault c).2 (v1.sx (by rw [w_fault]; exact hw) u2) u1 (by rw [w_fault]; exact hw)
set_option maxRecDepth 100000 in
set_option maxHeartbeats 4000000 in
theorem lw_c25 {L j : Nat} (hL : E.2.2.1 3 = L) (hj : 5 * j + 5 ≤ L) (hL2 : L ≤ 2560) (hE : ES E) {c : CS} (hw : CW c) (hx : CX μ c) (hm : MX μ c) (ih : ∀ (ν : Mu) (c : CS), CX ν c → MX ν c → CW c → PS l E D cA mL_law 8 fin 18 [some (.ref (1000 + 3)), some (.ref 0), some (.ref 227), some (.int (nI (5 * (j + 1))))] [] ν) : PS l E D cA mL_law 8 fin 967 [some (.ref (1000 + 3)), some (.ref 0), some (.ref 227), some (.int (nI (5 * j)))] [] μ := by
  refine pw_aload_n dL_law_967 rfl ?_
  refine ps_callV (b := 0) (As := []) (st := []) dL_law_968 cv_L_123 rfl ⟨by decide, by decide +kernel⟩ (Nat.le_of_ble_eq_true rfl) (Nat.le_of_ble_eq_true rfl) ?_
  refine x_undo hw hx (fun ν v1 v2 => ?_)
  show PS l E D cA mL_law 8 fin 971 [some (.ref (1000 + 3)), some (.ref 0), some (.ref 227), some (.int (nI (5 * j)))] [.int ((o_undo c).1)] ν
  refine pw_aload_n dL_law_971 rfl ?_
  refine ps_callV (b := 227) (As := []) (st := [.int ((o_undo c).1)]) dL_law_972 cv_L_126 rfl ⟨by decide, by decide +kernel⟩ (Nat.le_of_ble_eq_true rfl) (Nat.le_of_ble_eq_true rfl) ?_
  refine m_undo hw (hm.sm v2) (fun κ u1 u2 => ?_)
  show PS l E D cA mL_law 8 fin 975 [some (.ref (1000 + 3)), some (.ref 0), some (.ref 227), some (.int (nI (5 * j)))] [.int ((o_undo c).1), .int ((o_undo c).1)] κ
  refine pw_icmp_eq (tgt := 1026) dL_law_975 (by decide) (fun _ => ?_) (fun h9 => absurd rfl h9)
  refine px_iincn (n := 5) (a := 5 * j) (b := 5 * j + 5) (ls' := [some (.ref (1000 + 3)), some (.ref 0), some (.ref 227), some (.int (nI (5 * j + 5)))]) dL_law_1026 rfl rfl rfl rfl ?_
  refine pw_goto (tgt := 18) dL_law_1029 (by decide) ?_
  exact ih κ (o_undo c).2 (v1.sx (w_undo hw) u2) u1 (w_undo hw)
set_option maxRecDepth 100000 in
set_option maxHeartbeats 4000000 in
theorem lw_c26 {L j : Nat} (hL : E.2.2.1 3 = L) (hj : 5 * j + 5 ≤ L) (hL2 : L ≤ 2560) (hE : ES E) {c : CS} (hw : CW c) (hx : CX μ c) (hm : MX μ c) (ih : ∀ (ν : Mu) (c : CS), CX ν c → MX ν c → CW c → PS l E D cA mL_law 8 fin 18 [some (.ref (1000 + 3)), some (.ref 0), some (.ref 227), some (.int (nI (5 * (j + 1))))] [] ν) : PS l E D cA mL_law 8 fin 980 [some (.ref (1000 + 3)), some (.ref 0), some (.ref 227), some (.int (nI (5 * j)))] [] μ := by
  refine pw_aload_n dL_law_980 rfl ?_
  refine pw_aload_n dL_law_981 rfl ?_
  refine pw_iload_n dL_law_982 rfl ?_
  refine pw_iconst_ (v := nI 1) dL_law_983 (by decide) ?_
  refine px_iaddn (c := 5 * j + 1) dL_law_984 (by omega) ?_
  refine ps_iald_s (k := 3) (j := 5 * j + 1) (x := E.2.2.2 3 (5 * j + 1)) dL_law_985 (by decide) (by omega) rfl (by omega) rfl ?_
  refine ps_callV (b := 0) (As := [.int (E.2.2.2 3 (5 * j + 1))]) (st := []) dL_law_986 cv_L_127 rfl ⟨by decide, by decide +kernel⟩ (Nat.le_of_ble_eq_true rfl) (Nat.le_of_ble_eq_true rfl) ?_
  refine x_save hw hx (fun ν v1 v2 => ?_)
  show PS l E D cA mL_law 8 fin 989 [some (.ref (1000 + 3)), some (.ref 0), some (.ref 227), some (.int (nI (5 * j)))] [.int ((o_save c (E.2.2.2 3 (5 * j + 1))).1)] ν
  refine pw_aload_n dL_law_989 rfl ?_
  refine pw_aload_n dL_law_990 rfl ?_
  refine pw_iload_n dL_law_991 rfl ?_
  refine pw_iconst_ (v := nI 1) dL_law_992 (by decide) ?_
  refine px_iaddn (c := 5 * j + 1) dL_law_993 (by omega) ?_
  refine ps_iald_s (k := 3) (j := 5 * j + 1) (x := E.2.2.2 3 (5 * j + 1)) dL_law_994 (by decide) (by omega) rfl (by omega) rfl ?_
  refine ps_callV (b := 227) (As := [.int (E.2.2.2 3 (5 * j + 1))]) (st := [.int ((o_save c (E.2.2.2 3 (5 * j + 1))).1)]) dL_law_995 cv_L_130 rfl ⟨by decide, by decide +kernel⟩ (Nat.le_of_ble_eq_true rfl) (Nat.le_of_ble_eq_true rfl) ?_
  refine m_save hw (hm.sm v2) (fun κ u1 u2 => ?_)
  show PS l E D cA mL_law 8 fin 998 [some (.ref (1000 + 3)), some (.ref 0), some (.ref 227), some (.int (nI (5 * j)))] [.int ((o_save c (E.2.2.2 3 (5 * j + 1))).1), .int ((o_save c (E.2.2.2 3 (5 * j + 1))).1)] κ
  refine pw_icmp_eq (tgt := 1026) dL_law_998 (by decide) (fun _ => ?_) (fun h9 => absurd rfl h9)
  refine px_iincn (n := 5) (a := 5 * j) (b := 5 * j + 5) (ls' := [some (.ref (1000 + 3)), some (.ref 0), some (.ref 227), some (.int (nI (5 * j + 5)))]) dL_law_1026 rfl rfl rfl rfl ?_
  refine pw_goto (tgt := 18) dL_law_1029 (by decide) ?_
  exact ih κ (o_save c (E.2.2.2 3 (5 * j + 1))).2 (v1.sx (w_save hw) u2) u1 (w_save hw)
set_option maxRecDepth 100000 in
set_option maxHeartbeats 4000000 in
theorem lw_c27 {L j : Nat} (hL : E.2.2.1 3 = L) (hj : 5 * j + 5 ≤ L) (hL2 : L ≤ 2560) (hE : ES E) {c : CS} (hw : CW c) (hx : CX μ c) (hm : MX μ c) (ih : ∀ (ν : Mu) (c : CS), CX ν c → MX ν c → CW c → PS l E D cA mL_law 8 fin 18 [some (.ref (1000 + 3)), some (.ref 0), some (.ref 227), some (.int (nI (5 * (j + 1))))] [] ν) : PS l E D cA mL_law 8 fin 1003 [some (.ref (1000 + 3)), some (.ref 0), some (.ref 227), some (.int (nI (5 * j)))] [] μ := by
  refine pw_aload_n dL_law_1003 rfl ?_
  refine pw_aload_n dL_law_1004 rfl ?_
  refine pw_iload_n dL_law_1005 rfl ?_
  refine pw_iconst_ (v := nI 1) dL_law_1006 (by decide) ?_
  refine px_iaddn (c := 5 * j + 1) dL_law_1007 (by omega) ?_
  refine ps_iald_s (k := 3) (j := 5 * j + 1) (x := E.2.2.2 3 (5 * j + 1)) dL_law_1008 (by decide) (by omega) rfl (by omega) rfl ?_
  refine ps_callV (b := 0) (As := [.int (E.2.2.2 3 (5 * j + 1))]) (st := []) dL_law_1009 cv_L_131 rfl ⟨by decide, by decide +kernel⟩ (Nat.le_of_ble_eq_true rfl) (Nat.le_of_ble_eq_true rfl) ?_
  refine x_restore hw hx (fun ν v1 v2 => ?_)
  show PS l E D cA mL_law 8 fin 1012 [some (.ref (1000 + 3)), some (.ref 0), some (.ref 227), some (.int (nI (5 * j)))] [.int ((o_restore c (E.2.2.2 3 (5 * j + 1))).1)] ν
  refine pw_aload_n dL_law_1012 rfl ?_
  refine pw_aload_n dL_law_1013 rfl ?_
  refine pw_iload_n dL_law_1014 rfl ?_
  refine pw_iconst_ (v := nI 1) dL_law_1015 (by decide) ?_
  refine px_iaddn (c := 5 * j + 1) dL_law_1016 (by omega) ?_
  refine ps_iald_s (k := 3) (j := 5 * j + 1) (x := E.2.2.2 3 (5 * j + 1)) dL_law_1017 (by decide) (by omega) rfl (by omega) rfl ?_
  refine ps_callV (b := 227) (As := [.int (E.2.2.2 3 (5 * j + 1))]) (st := [.int ((o_restore c (E.2.2.2 3 (5 * j + 1))).1)]) dL_law_1018 cv_L_134 rfl ⟨by decide, by decide +kernel⟩ (Nat.le_of_ble_eq_true rfl) (Nat.le_of_ble_eq_true rfl) ?_
  refine m_restore hw (hm.sm v2) (fun κ u1 u2 => ?_)
  show PS l E D cA mL_law 8 fin 1021 [some (.ref (1000 + 3)), some (.ref 0), some (.ref 227), some (.int (nI (5 * j)))] [.int ((o_restore c (E.2.2.2 3 (5 * j + 1))).1), .int ((o_restore c (E.2.2.2 3 (5 * j + 1))).1)] κ
  refine pw_icmp_eq (tgt := 1026) dL_law_1021 (by decide) (fun _ => ?_) (fun h9 => absurd rfl h9)
  refine px_iincn (n := 5) (a := 5 * j) (b := 5 * j + 5) (ls' := [some (.ref (1000 + 3)), some (.ref 0), some (.ref 227), some (.int (nI (5 * j + 5)))]) dL_law_1026 rfl rfl rfl rfl ?_
  refine pw_goto (tgt := 18) dL_law_1029 (by decide) ?_
  exact ih κ (o_restore c (E.2.2.2 3 (5 * j + 1))).2 (v1.sx (w_restore hw) u2) u1 (w_restore hw)
end LAWS
