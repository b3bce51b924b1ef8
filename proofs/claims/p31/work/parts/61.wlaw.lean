/-! the law: its loop and its last row -/
abbrev mL_law : MT := (RL, yL_law, cL_law, 6, some .boolean)
/-- the script's cell k, L ints f -/
def cv (f : Nat → Int32) (L k : Nat) : Int32 := if k < L then f k else 22010011 * nI k + nI 29201
/-- how many teams there are behind k acts -/
def tmC (f : Nat → Int32) (L : Nat) : Nat → Nat
  | 0 => 0
  | k + 1 => nt (tmC f L k) (if k < 2 then nI 0 else cv f L (2 * k)) (cv f L (2 * k + 1))
section LROW
variable {l : Launch} {E : EV} {D : va_G} {cA : Nat → ClassId} {k z : Nat} {X : MT} {d : Nat} {fin : Option Value → Mu → List PE → Prop} {pc : Nat} {ls : List (Option Value)} {st : List Value} {μ : Mu} {Y : List PE}
theorem pl_iald_s {i j : Nat} {ix : Int32} (hd : decode X.2.2.1 pc = .ok (.iaload, 1)) (hi : i < 4) (hjs : j < 2 ^ 31) (hj : ix = nI j) (h1 : j < E.2.2.1 i) (kk : PL l E D cA k z X d fin (pc + 1) ls (.int (E.2.2.2 i j) :: st) μ Y) : PL l E D cA k z X d fin pc ls (.int ix :: .ref (1000 + i) :: st) μ Y := by
  obtain ⟨g1, g2⟩ := ps_n0 hjs hj
  exact pw_iaload_s hd hi g1 (by rw [g2]; exact h1) (by rw [g2]; exact kk)
end LROW
section LAW
variable {l : Launch} {E : EV} {D : va_G} {cA : Nat → ClassId} {fin : Option Value → Mu → List PE → Prop} {μ : Mu} {Y : List PE} {d : Nat}
set_option maxRecDepth 100000 in
set_option maxHeartbeats 4000000 in
theorem y_cell {L q : Nat} (hL : E.2.2.1 3 = L) (hL2 : L ≤ 260) (hq : q < 1000) (hf : fin (some (.int (cv (E.2.2.2 3) L q))) μ Y) : PL l E D cA Y.length (kv_sum Y) mL_cell d fin 0 [some (.ref (1000 + 3)), some (.int (nI q))] [] μ Y := by
  refine pw_iload_n dL_cell_0 rfl ?_
  refine pw_aload_n dL_cell_1 rfl ?_
  refine pw_alen_s (k := 3) dL_cell_2 (by decide) ?_
  rw [hL]
  show PL l E D cA Y.length (kv_sum Y) mL_cell d fin 3 [some (.ref (1000 + 3)), some (.int (nI q))] [.int (nI L), .int (nI q)] μ Y
  refine pn_ge (tgt := 12) dL_cell_3 (by decide) (by omega) (by omega) (fun hc => ?_) (fun hc => ?_)
  · refine pw_ldc dL_cell_12 kc_L_7 ?_
    refine pw_iload_n dL_cell_14 rfl ?_
    refine pw_imul dL_cell_15 ?_
    refine pw_sipush (v := nI 29201) dL_cell_16 (by decide) ?_
    refine pw_iadd dL_cell_19 ?_
    have e9 : cv (E.2.2.2 3) L q = 22010011 * nI q + nI 29201 := if_neg (by omega)
    rw [e9] at hf
    exact pl_iret dL_cell_20 rfl (rfl) rfl rfl hf
  · refine pw_aload_n dL_cell_6 rfl ?_
    refine pw_iload_n dL_cell_7 rfl ?_
    refine pl_iald_s (j := q) dL_cell_8 (by decide) (by omega) rfl (by rw [hL]; exact hc) ?_
    refine pw_goto (tgt := 20) dL_cell_9 (by decide) ?_
    have e9 : cv (E.2.2.2 3) L q = (E.2.2.2 3) q := if_pos hc
    rw [e9] at hf
    exact pl_iret dL_cell_20 rfl (rfl) rfl rfl hf
set_option maxRecDepth 100000 in
set_option maxHeartbeats 4000000 in
theorem y_end {c : CS} (hw : CW c) (hx : CX μ c) (hE : ES (E, Y)) (hf : ∀ ν : Mu, CX ν c → fin (some (.int (if na c 3 = 0 then nI 0 else nI 1))) ν Y) : PL l E D cA Y.length (kv_sum Y) mL_law 11 fin 100 [some (.ref (1000 + 3)), some (.ref 0), some (.ref (227 + 0)), some (.ref (227 + 1)), some (.ref (227 + 2)), some (.int (nI 32))] [] μ Y := by
  have h6 := hw.1.t6
  refine pw_aload_n dL_law_100 rfl ?_
  refine pw_iconst_ (v := nI 3) dL_law_101 (by decide) ?_
  refine pw_iconst_ (v := nI 0) dL_law_102 (by decide) ?_
  have ea1 : o_set c (nI 3) (nI 0) = ((-100002), c) := by unfold o_set; rw [if_neg (by decide)]
  refine pl_callV (b := 0) (As := [.int (nI 3), .int (nI 0)]) (st := []) dL_law_103 cv_L_98 rfl ⟨by decide, by decide +kernel⟩ (Nat.le_of_ble_eq_true rfl) (Nat.le_of_ble_eq_true rfl) (by omega) (by omega) ?_
  refine x_set hw hx hE (fun a1 ha1 _ => ?_)
  rw [ea1] at ha1 ⊢
  replace ha1 : CX a1 c := ha1
  show PL l E D cA Y.length (kv_sum Y) mL_law 11 fin 106 [some (.ref (1000 + 3)), some (.ref 0), some (.ref (227 + 0)), some (.ref (227 + 1)), some (.ref (227 + 2)), some (.int (nI 32))] [.int (-100002)] a1 Y
  refine pw_ldc dL_law_106 kc_L_68 ?_
  refine pw_icmp_ne (tgt := 311) dL_law_108 (by decide) (fun h9 => absurd rfl h9) (fun _ => ?_)
  refine pw_aload_n dL_law_111 rfl ?_
  refine pw_iconst_ (v := nI 2) dL_law_112 (by decide) ?_
  refine pw_iconst_ (v := nI 0) dL_law_113 (by decide) ?_
  have ea2 : o_set c (nI 2) (nI 0) = ((-100002), c) := by unfold o_set; rw [if_pos (by decide), if_neg (by decide)]
  refine pl_callV (b := 0) (As := [.int (nI 2), .int (nI 0)]) (st := []) dL_law_114 cv_L_98 rfl ⟨by decide, by decide +kernel⟩ (Nat.le_of_ble_eq_true rfl) (Nat.le_of_ble_eq_true rfl) (by omega) (by omega) ?_
  refine x_set hw ha1 hE (fun a2 ha2 _ => ?_)
  rw [ea2] at ha2 ⊢
  replace ha2 : CX a2 c := ha2
  show PL l E D cA Y.length (kv_sum Y) mL_law 11 fin 117 [some (.ref (1000 + 3)), some (.ref 0), some (.ref (227 + 0)), some (.ref (227 + 1)), some (.ref (227 + 2)), some (.int (nI 32))] [.int (-100002)] a2 Y
  refine pw_ldc dL_law_117 kc_L_68 ?_
  refine pw_icmp_ne (tgt := 311) dL_law_119 (by decide) (fun h9 => absurd rfl h9) (fun _ => ?_)
  refine pw_aload_n dL_law_122 rfl ?_
  refine pw_bipush (v := nI 8) dL_law_123 (by decide) ?_
  refine pw_iconst_ (v := nI 0) dL_law_125 (by decide) ?_
  refine pw_iconst_ (v := nI 0) dL_law_126 (by decide) ?_
  refine pw_iconst_ (v := nI 1) dL_law_127 (by decide) ?_
  have ea3 : o_place c (nI 8) (nI 0) (nI 0) (nI 1) = ((-100001), c) := by unfold o_place; rw [if_neg (by decide)]
  refine pl_callV (b := 0) (As := [.int (nI 8), .int (nI 0), .int (nI 0), .int (nI 1)]) (st := []) dL_law_128 cv_L_101 rfl ⟨by decide, by decide +kernel⟩ (Nat.le_of_ble_eq_true rfl) (Nat.le_of_ble_eq_true rfl) (by omega) (by omega) ?_
  refine x_place hw ha2 (fun a3 ha3 _ => ?_)
  rw [ea3] at ha3 ⊢
  replace ha3 : CX a3 c := ha3
  show PL l E D cA Y.length (kv_sum Y) mL_law 11 fin 131 [some (.ref (1000 + 3)), some (.ref 0), some (.ref (227 + 0)), some (.ref (227 + 1)), some (.ref (227 + 2)), some (.int (nI 32))] [.int (-100001)] a3 Y
  refine pw_ldc dL_law_131 kc_L_79 ?_
  refine pw_icmp_ne (tgt := 311) dL_law_133 (by decide) (fun h9 => absurd rfl h9) (fun _ => ?_)
  refine pw_aload_n dL_law_136 rfl ?_
  refine pw_iconst_ (v := nI 0) dL_law_137 (by decide) ?_
  refine pw_bipush (v := nI 21) dL_law_138 (by decide) ?_
  refine pw_iconst_ (v := nI 0) dL_law_140 (by decide) ?_
  refine pw_iconst_ (v := nI 1) dL_law_141 (by decide) ?_
  have ea4 : o_place c (nI 0) (nI 21) (nI 0) (nI 1) = ((-100002), c) := by unfold o_place; rw [if_pos (by decide), if_neg (by decide)]
  refine pl_callV (b := 0) (As := [.int (nI 0), .int (nI 21), .int (nI 0), .int (nI 1)]) (st := []) dL_law_142 cv_L_101 rfl ⟨by decide, by decide +kernel⟩ (Nat.le_of_ble_eq_true rfl) (Nat.le_of_ble_eq_true rfl) (by omega) (by omega) ?_
  refine x_place hw ha3 (fun a4 ha4 _ => ?_)
  rw [ea4] at ha4 ⊢
  replace ha4 : CX a4 c := ha4
  show PL l E D cA Y.length (kv_sum Y) mL_law 11 fin 145 [some (.ref (1000 + 3)), some (.ref 0), some (.ref (227 + 0)), some (.ref (227 + 1)), some (.ref (227 + 2)), some (.int (nI 32))] [.int (-100002)] a4 Y
  refine pw_ldc dL_law_145 kc_L_68 ?_
  refine pw_icmp_ne (tgt := 311) dL_law_147 (by decide) (fun h9 => absurd rfl h9) (fun _ => ?_)
  refine pw_aload_n dL_law_150 rfl ?_
  refine pw_iconst_ (v := nI 0) dL_law_151 (by decide) ?_
  refine pw_iconst_ (v := nI 0) dL_law_152 (by decide) ?_
  refine pw_iconst_ (v := nI 0) dL_law_153 (by decide) ?_
  refine pw_bipush (v := nI 16) dL_law_154 (by decide) ?_
  have ea5 : o_place c (nI 0) (nI 0) (nI 0) (nI 16) = ((-100002), c) := by unfold o_place; rw [if_pos (by decide), if_pos (by decide), if_pos (by decide), if_neg (by decide)]
  refine pl_callV (b := 0) (As := [.int (nI 0), .int (nI 0), .int (nI 0), .int (nI 16)]) (st := []) dL_law_156 cv_L_101 rfl ⟨by decide, by decide +kernel⟩ (Nat.le_of_ble_eq_true rfl) (Nat.le_of_ble_eq_true rfl) (by omega) (by omega) ?_
  refine x_place hw ha4 (fun a5 ha5 _ => ?_)
  rw [ea5] at ha5 ⊢
  replace ha5 : CX a5 c := ha5
  show PL l E D cA Y.length (kv_sum Y) mL_law 11 fin 159 [some (.ref (1000 + 3)), some (.ref 0), some (.ref (227 + 0)), some (.ref (227 + 1)), some (.ref (227 + 2)), some (.int (nI 32))] [.int (-100002)] a5 Y
  refine pw_ldc dL_law_159 kc_L_68 ?_
  refine pw_icmp_ne (tgt := 311) dL_law_161 (by decide) (fun h9 => absurd rfl h9) (fun _ => ?_)
  refine pw_aload_n dL_law_164 rfl ?_
  refine pw_iconst_ (v := (-1)) dL_law_165 (by decide) ?_
  refine pw_iconst_ (v := nI 1) dL_law_166 (by decide) ?_
  have ea6 : o_close c (-1) (nI 1) = ((-100001), c) := by unfold o_close; rw [if_neg (by decide)]
  refine pl_callV (b := 0) (As := [.int (-1), .int (nI 1)]) (st := []) dL_law_167 cv_L_94 rfl ⟨by decide, by decide +kernel⟩ (Nat.le_of_ble_eq_true rfl) (Nat.le_of_ble_eq_true rfl) (by omega) (by omega) ?_
  refine x_close hw ha5 (fun a6 ha6 _ => ?_)
  rw [ea6] at ha6 ⊢
  replace ha6 : CX a6 c := ha6
  show PL l E D cA Y.length (kv_sum Y) mL_law 11 fin 170 [some (.ref (1000 + 3)), some (.ref 0), some (.ref (227 + 0)), some (.ref (227 + 1)), some (.ref (227 + 2)), some (.int (nI 32))] [.int (-100001)] a6 Y
  refine pw_ldc dL_law_170 kc_L_79 ?_
  refine pw_icmp_ne (tgt := 311) dL_law_172 (by decide) (fun h9 => absurd rfl h9) (fun _ => ?_)
  refine pw_aload_n dL_law_175 rfl ?_
  refine pw_bipush (v := nI 6) dL_law_176 (by decide) ?_
  refine pw_iconst_ (v := nI 0) dL_law_178 (by decide) ?_
  have ea7 : o_start c (nI 6) (nI 0) = ((-100001), c) := by unfold o_start; rw [if_neg (inT_no h6 (by decide))]
  refine pl_callV (b := 0) (As := [.int (nI 6), .int (nI 0)]) (st := []) dL_law_179 cv_L_80 rfl ⟨by decide, by decide +kernel⟩ (Nat.le_of_ble_eq_true rfl) (Nat.le_of_ble_eq_true rfl) (by omega) (by omega) ?_
  refine x_start hw ha6 (fun a7 ha7 _ => ?_)
  rw [ea7] at ha7 ⊢
  replace ha7 : CX a7 c := ha7
  show PL l E D cA Y.length (kv_sum Y) mL_law 11 fin 182 [some (.ref (1000 + 3)), some (.ref 0), some (.ref (227 + 0)), some (.ref (227 + 1)), some (.ref (227 + 2)), some (.int (nI 32))] [.int (-100001)] a7 Y
  refine pw_ldc dL_law_182 kc_L_79 ?_
  refine pw_icmp_ne (tgt := 311) dL_law_184 (by decide) (fun h9 => absurd rfl h9) (fun _ => ?_)
  by_cases hn : (na c 3) = 0
  · refine pw_aload_n dL_law_187 rfl ?_
    refine pw_iconst_ (v := nI 0) dL_law_188 (by decide) ?_
    refine pw_sipush (v := nI 201) dL_law_189 (by decide) ?_
    have ea8 : o_start c (nI 0) (nI 201) = ((-100001), c) := by unfold o_start; rw [if_neg (inT_no (by omega) (by decide))]
    refine pl_callV (b := 0) (As := [.int (nI 0), .int (nI 201)]) (st := []) dL_law_192 cv_L_80 rfl ⟨by decide, by decide +kernel⟩ (Nat.le_of_ble_eq_true rfl) (Nat.le_of_ble_eq_true rfl) (by omega) (by omega) ?_
    refine x_start hw ha7 (fun a8 ha8 _ => ?_)
    rw [ea8] at ha8 ⊢
    replace ha8 : CX a8 c := ha8
    show PL l E D cA Y.length (kv_sum Y) mL_law 11 fin 195 [some (.ref (1000 + 3)), some (.ref 0), some (.ref (227 + 0)), some (.ref (227 + 1)), some (.ref (227 + 2)), some (.int (nI 32))] [.int (-100001)] a8 Y
    refine pw_ldc dL_law_195 kc_L_68 ?_
    refine pw_icmp_ne (tgt := 311) dL_law_197 (by decide) (fun _ => ?_) (fun h9 => absurd h9 (by decide))
    refine pw_iconst_ (v := nI 0) dL_law_311 (by decide) ?_
    rw [if_pos hn] at hf
    exact pl_iret dL_law_312 rfl (by decide) rfl rfl (hf _ ha8)
  · have hi0 : inT (nI 0) (na c 3) := inT_nI (by omega) (by omega)
    refine pw_aload_n dL_law_187 rfl ?_
    refine pw_iconst_ (v := nI 0) dL_law_188 (by decide) ?_
    refine pw_sipush (v := nI 201) dL_law_189 (by decide) ?_
    have ea8 : o_start c (nI 0) (nI 201) = ((-100002), c) := by unfold o_start; rw [if_pos hi0, if_neg (by decide)]
    refine pl_callV (b := 0) (As := [.int (nI 0), .int (nI 201)]) (st := []) dL_law_192 cv_L_80 rfl ⟨by decide, by decide +kernel⟩ (Nat.le_of_ble_eq_true rfl) (Nat.le_of_ble_eq_true rfl) (by omega) (by omega) ?_
    refine x_start hw ha7 (fun a8 ha8 _ => ?_)
    rw [ea8] at ha8 ⊢
    replace ha8 : CX a8 c := ha8
    show PL l E D cA Y.length (kv_sum Y) mL_law 11 fin 195 [some (.ref (1000 + 3)), some (.ref 0), some (.ref (227 + 0)), some (.ref (227 + 1)), some (.ref (227 + 2)), some (.int (nI 32))] [.int (-100002)] a8 Y
    refine pw_ldc dL_law_195 kc_L_68 ?_
    refine pw_icmp_ne (tgt := 311) dL_law_197 (by decide) (fun h9 => absurd rfl h9) (fun _ => ?_)
    refine pw_aload_n dL_law_200 rfl ?_
    refine pw_iconst_ (v := nI 0) dL_law_201 (by decide) ?_
    refine pw_bipush (v := nI 8) dL_law_202 (by decide) ?_
    refine pw_iconst_ (v := nI 1) dL_law_204 (by decide) ?_
    have ea9 : o_hint c (nI 0) (nI 8) (nI 1) = ((-100001), c) := by unfold o_hint; rw [if_pos hi0, if_neg (by decide)]
    refine pl_callV (b := 0) (As := [.int (nI 0), .int (nI 8), .int (nI 1)]) (st := []) dL_law_205 cv_L_83 rfl ⟨by decide, by decide +kernel⟩ (Nat.le_of_ble_eq_true rfl) (Nat.le_of_ble_eq_true rfl) (by omega) (by omega) ?_
    refine x_hint hw ha8 (fun a9 ha9 _ => ?_)
    rw [ea9] at ha9 ⊢
    replace ha9 : CX a9 c := ha9
    show PL l E D cA Y.length (kv_sum Y) mL_law 11 fin 208 [some (.ref (1000 + 3)), some (.ref 0), some (.ref (227 + 0)), some (.ref (227 + 1)), some (.ref (227 + 2)), some (.int (nI 32))] [.int (-100001)] a9 Y
    refine pw_ldc dL_law_208 kc_L_79 ?_
    refine pw_icmp_ne (tgt := 311) dL_law_210 (by decide) (fun h9 => absurd rfl h9) (fun _ => ?_)
    refine pw_aload_n dL_law_213 rfl ?_
    refine pw_iconst_ (v := nI 0) dL_law_214 (by decide) ?_
    refine pw_bipush (v := (-2)) dL_law_215 (by decide) ?_
    have eb1 : o_lose c (nI 0) (-2) = ((-100001), c) := by unfold o_lose; rw [if_pos hi0, if_neg (by decide)]
    refine pl_callV (b := 0) (As := [.int (nI 0), .int (-2)]) (st := []) dL_law_217 cv_L_88 rfl ⟨by decide, by decide +kernel⟩ (Nat.le_of_ble_eq_true rfl) (Nat.le_of_ble_eq_true rfl) (by omega) (by omega) ?_
    refine x_lose hw ha9 (fun b1 hb1 _ => ?_)
    rw [eb1] at hb1 ⊢
    replace hb1 : CX b1 c := hb1
    show PL l E D cA Y.length (kv_sum Y) mL_law 11 fin 220 [some (.ref (1000 + 3)), some (.ref 0), some (.ref (227 + 0)), some (.ref (227 + 1)), some (.ref (227 + 2)), some (.int (nI 32))] [.int (-100001)] b1 Y
    refine pw_ldc dL_law_220 kc_L_79 ?_
    refine pw_icmp_ne (tgt := 311) dL_law_222 (by decide) (fun h9 => absurd rfl h9) (fun _ => ?_)
    refine pw_aload_n dL_law_225 rfl ?_
    refine pw_iconst_ (v := nI 0) dL_law_226 (by decide) ?_
    refine pw_bipush (v := nI 8) dL_law_227 (by decide) ?_
    have eb2 : o_lose c (nI 0) (nI 8) = ((-100001), c) := by unfold o_lose; rw [if_pos hi0, if_neg (by decide)]
    refine pl_callV (b := 0) (As := [.int (nI 0), .int (nI 8)]) (st := []) dL_law_229 cv_L_88 rfl ⟨by decide, by decide +kernel⟩ (Nat.le_of_ble_eq_true rfl) (Nat.le_of_ble_eq_true rfl) (by omega) (by omega) ?_
    refine x_lose hw hb1 (fun b2 hb2 _ => ?_)
    rw [eb2] at hb2 ⊢
    replace hb2 : CX b2 c := hb2
    show PL l E D cA Y.length (kv_sum Y) mL_law 11 fin 232 [some (.ref (1000 + 3)), some (.ref 0), some (.ref (227 + 0)), some (.ref (227 + 1)), some (.ref (227 + 2)), some (.int (nI 32))] [.int (-100001)] b2 Y
    refine pw_ldc dL_law_232 kc_L_79 ?_
    refine pw_icmp_ne (tgt := 311) dL_law_234 (by decide) (fun h9 => absurd rfl h9) (fun _ => ?_)
    refine pw_aload_n dL_law_237 rfl ?_
    refine pw_iconst_ (v := nI 0) dL_law_238 (by decide) ?_
    refine pw_iconst_ (v := nI 0) dL_law_239 (by decide) ?_
    refine pw_iconst_ (v := nI 5) dL_law_240 (by decide) ?_
    have eb3 : o_visit c (nI 0) (nI 0) (nI 5) = ((-100002), c) := by unfold o_visit; rw [if_pos hi0, if_neg (by decide)]
    refine pl_callV (b := 0) (As := [.int (nI 0), .int (nI 0), .int (nI 5)]) (st := []) dL_law_241 cv_L_27 rfl ⟨by decide, by decide +kernel⟩ (Nat.le_of_ble_eq_true rfl) (Nat.le_of_ble_eq_true rfl) (by omega) (by omega) ?_
    refine x_visit hw hb2 (fun b3 hb3 _ => ?_)
    rw [eb3] at hb3 ⊢
    replace hb3 : CX b3 c := hb3
    show PL l E D cA Y.length (kv_sum Y) mL_law 11 fin 244 [some (.ref (1000 + 3)), some (.ref 0), some (.ref (227 + 0)), some (.ref (227 + 1)), some (.ref (227 + 2)), some (.int (nI 32))] [.int (-100002)] b3 Y
    refine pw_ldc dL_law_244 kc_L_68 ?_
    refine pw_icmp_ne (tgt := 311) dL_law_246 (by decide) (fun h9 => absurd rfl h9) (fun _ => ?_)
    refine pw_aload_n dL_law_249 rfl ?_
    refine pw_iconst_ (v := nI 0) dL_law_250 (by decide) ?_
    refine pw_bipush (v := nI 10) dL_law_251 (by decide) ?_
    have eb4 : o_teamOf c (nI 0) (nI 10) = ((-100002), c) := by unfold o_teamOf; rw [if_pos hi0, if_neg (by decide)]
    refine pl_callV (b := 0) (As := [.int (nI 0), .int (nI 10)]) (st := []) dL_law_253 cv_L_9 rfl ⟨by decide, by decide +kernel⟩ (Nat.le_of_ble_eq_true rfl) (Nat.le_of_ble_eq_true rfl) (by omega) (by omega) ?_
    refine x_teamOf hw hb3 (fun b4 hb4 _ => ?_)
    rw [eb4] at hb4 ⊢
    replace hb4 : CX b4 c := hb4
    show PL l E D cA Y.length (kv_sum Y) mL_law 11 fin 256 [some (.ref (1000 + 3)), some (.ref 0), some (.ref (227 + 0)), some (.ref (227 + 1)), some (.ref (227 + 2)), some (.int (nI 32))] [.int (-100002)] b4 Y
    refine pw_ldc dL_law_256 kc_L_68 ?_
    refine pw_icmp_ne (tgt := 311) dL_law_258 (by decide) (fun h9 => absurd rfl h9) (fun _ => ?_)
    refine pw_aload_n dL_law_261 rfl ?_
    refine pw_iconst_ (v := nI 0) dL_law_262 (by decide) ?_
    refine pw_bipush (v := nI 8) dL_law_263 (by decide) ?_
    have eb5 : o_placeOf c (nI 0) (nI 8) = ((-100002), c) := by unfold o_placeOf; rw [if_pos (by decide), if_neg (by decide)]
    refine pl_callV (b := 0) (As := [.int (nI 0), .int (nI 8)]) (st := []) dL_law_265 cv_L_15 rfl ⟨by decide, by decide +kernel⟩ (Nat.le_of_ble_eq_true rfl) (Nat.le_of_ble_eq_true rfl) (by omega) (by omega) ?_
    refine x_placeOf hw hb4 (fun b5 hb5 _ => ?_)
    rw [eb5] at hb5 ⊢
    replace hb5 : CX b5 c := hb5
    show PL l E D cA Y.length (kv_sum Y) mL_law 11 fin 268 [some (.ref (1000 + 3)), some (.ref 0), some (.ref (227 + 0)), some (.ref (227 + 1)), some (.ref (227 + 2)), some (.int (nI 32))] [.int (-100002)] b5 Y
    refine pw_ldc dL_law_268 kc_L_68 ?_
    refine pw_icmp_ne (tgt := 311) dL_law_270 (by decide) (fun h9 => absurd rfl h9) (fun _ => ?_)
    refine pw_aload_n dL_law_273 rfl ?_
    refine pw_iconst_ (v := nI 0) dL_law_274 (by decide) ?_
    refine pw_iconst_ (v := (-1)) dL_law_275 (by decide) ?_
    have eb6 : o_where c (nI 0) (-1) = ((-100002), c) := by unfold o_where; rw [if_pos hi0, if_neg (by decide)]
    refine pl_callV (b := 0) (As := [.int (nI 0), .int (-1)]) (st := []) dL_law_276 cv_L_34 rfl ⟨by decide, by decide +kernel⟩ (Nat.le_of_ble_eq_true rfl) (Nat.le_of_ble_eq_true rfl) (by omega) (by omega) ?_
    refine x_where hw hb5 (fun b6 hb6 _ => ?_)
    rw [eb6] at hb6 ⊢
    replace hb6 : CX b6 c := hb6
    show PL l E D cA Y.length (kv_sum Y) mL_law 11 fin 279 [some (.ref (1000 + 3)), some (.ref 0), some (.ref (227 + 0)), some (.ref (227 + 1)), some (.ref (227 + 2)), some (.int (nI 32))] [.int (-100002)] b6 Y
    refine pw_ldc dL_law_279 kc_L_68 ?_
    refine pw_icmp_ne (tgt := 311) dL_law_281 (by decide) (fun h9 => absurd rfl h9) (fun _ => ?_)
    refine pw_aload_n dL_law_284 rfl ?_
    refine pw_bipush (v := nI 6) dL_law_285 (by decide) ?_
    refine pw_iconst_ (v := nI 0) dL_law_287 (by decide) ?_
    have eb7 : o_told c (nI 6) (nI 0) = ((-100001), c) := by unfold o_told; rw [if_neg (inT_no h6 (by decide))]
    refine pl_callV (b := 0) (As := [.int (nI 6), .int (nI 0)]) (st := []) dL_law_288 cv_L_31 rfl ⟨by decide, by decide +kernel⟩ (Nat.le_of_ble_eq_true rfl) (Nat.le_of_ble_eq_true rfl) (by omega) (by omega) ?_
    refine x_told hw hb6 (fun b7 hb7 _ => ?_)
    rw [eb7] at hb7 ⊢
    replace hb7 : CX b7 c := hb7
    show PL l E D cA Y.length (kv_sum Y) mL_law 11 fin 291 [some (.ref (1000 + 3)), some (.ref 0), some (.ref (227 + 0)), some (.ref (227 + 1)), some (.ref (227 + 2)), some (.int (nI 32))] [.int (-100001)] b7 Y
    refine pw_ldc dL_law_291 kc_L_79 ?_
    refine pw_icmp_ne (tgt := 311) dL_law_293 (by decide) (fun h9 => absurd rfl h9) (fun _ => ?_)
    refine pw_aload_n dL_law_296 rfl ?_
    refine pw_bipush (v := nI 13) dL_law_297 (by decide) ?_
    have eb8 : o_count c (nI 13) = ((-100002), c) := by unfold o_count; rw [if_neg (by decide)]
    refine pl_callV (b := 0) (As := [.int (nI 13)]) (st := []) dL_law_299 cv_L_24 rfl ⟨by decide, by decide +kernel⟩ (Nat.le_of_ble_eq_true rfl) (Nat.le_of_ble_eq_true rfl) (by omega) (by omega) ?_
    refine x_count hw hb7 (fun b8 hb8 _ => ?_)
    rw [eb8] at hb8 ⊢
    replace hb8 : CX b8 c := hb8
    show PL l E D cA Y.length (kv_sum Y) mL_law 11 fin 302 [some (.ref (1000 + 3)), some (.ref 0), some (.ref (227 + 0)), some (.ref (227 + 1)), some (.ref (227 + 2)), some (.int (nI 32))] [.int (-100002)] b8 Y
    refine pw_ldc dL_law_302 kc_L_68 ?_
    refine pw_icmp_ne (tgt := 311) dL_law_304 (by decide) (fun h9 => absurd rfl h9) (fun _ => ?_)
    refine pw_iconst_ (v := nI 1) dL_law_307 (by decide) ?_
    refine pw_goto (tgt := 312) dL_law_308 (by decide) ?_
    rw [if_neg hn] at hf
    exact pl_iret dL_law_312 rfl (by decide) rfl rfl (hf _ hb8)
set_option maxRecDepth 100000 in
set_option maxHeartbeats 4000000 in
theorem y_loop {L : Nat} (hL : E.2.2.1 3 = L) (hL2 : L ≤ 260) (hE : ES (E, Y)) {c : CS} (hw : CW c) (hx : CX μ c) {r h lo : Nat → Int32} (h0 : Y[0]? = some (yr r 48)) (h1 : Y[1]? = some (yr h 6)) (h2 : Y[2]? = some (yr lo 6)) (hG : GI (na c) r h lo) (hN : na c 3 = tmC (E.2.2.2 3) L 0) (ya : Y.length = 3 + 17 * (0 / 4)) (yb : kv_sum Y = 60 + 102 * (0 / 4)) (hf : ∀ (ν : Mu) (Y' : List PE), fin (some (.int (if tmC (E.2.2.2 3) L 32 = 0 then nI 0 else nI 1))) ν Y') : PL l E D cA 139 876 mL_law 11 fin 27 [some (.ref (1000 + 3)), some (.ref 0), some (.ref (227 + 0)), some (.ref (227 + 1)), some (.ref (227 + 2)), some (.int (nI 0))] [] μ Y := by
  have hE9 : ∀ Y', ES (E, Y') := fun _ => hE
  have lp : ∀ k : Nat, k ≤ 32 → ∀ (ν : Mu) (c : CS) (r h lo : Nat → Int32) (Y' : List PE), CX ν c → CW c → GI (na c) r h lo → na c 3 = tmC (E.2.2.2 3) L k → Y'.length = 3 + 17 * (k / 4) → kv_sum Y' = 60 + 102 * (k / 4) → Y'[0]? = some (yr r 48) → Y'[1]? = some (yr h 6) → Y'[2]? = some (yr lo 6) → PL l E D cA 139 876 mL_law 11 fin 27 [some (.ref (1000 + 3)), some (.ref 0), some (.ref (227 + 0)), some (.ref (227 + 1)), some (.ref (227 + 2)), some (.int (nI k))] [] ν Y' := by
    refine ps_for _ ?_ ?_
    · intro ν c r h lo Y' hν hw hG hN ya yb h0 h1 h2
      refine pw_iload dL_law_27 rfl ?_
      refine pw_bipush (v := nI 32) dL_law_29 (by decide) ?_
      refine pn_ge (tgt := 100) dL_law_31 (by decide) (by omega) (by omega) (fun _ => ?_) (fun h9 => absurd h9 (by decide))
      rw [show 139 = Y'.length by omega, show 876 = kv_sum Y' by omega]
      refine y_end hw hν (hE9 _) (fun κ h9 => ?_)
      rw [hN]
      exact hf κ Y'
    · intro k hk ih ν c r h lo Y' hν hw hG hN ya yb h0 h1 h2
      have hk4 : k / 4 ≤ 7 := by omega
      refine pw_iload dL_law_27 rfl ?_
      refine pw_bipush (v := nI 32) dL_law_29 (by decide) ?_
      refine pn_ge (tgt := 100) dL_law_31 (by decide) (by omega) (by omega) (fun h9 => absurd h9 (by omega)) (fun _ => ?_)
      refine pw_aload_n dL_law_34 rfl ?_
      refine pw_aload_n dL_law_35 rfl ?_
      refine pw_aload_n dL_law_36 rfl ?_
      refine pw_aload dL_law_37 rfl ?_
      refine pw_iload dL_law_39 rfl ?_
      refine pw_iconst_ (v := nI 2) dL_law_41 (by decide) ?_
      have k57 : ∀ g : Int32, g = (if k < 2 then nI 0 else cv (E.2.2.2 3) L (2 * k)) → PL l E D cA 139 876 mL_law 11 fin 57 [some (.ref (1000 + 3)), some (.ref 0), some (.ref (227 + 0)), some (.ref (227 + 1)), some (.ref (227 + 2)), some (.int (nI k))] [.int g, .ref (227 + 2), .ref (227 + 1), .ref (227 + 0), .ref 0] ν Y' := by
        intro g hg
        refine pw_aload_n dL_law_57 rfl ?_
        refine pw_iconst_ (v := nI 2) dL_law_58 (by decide) ?_
        refine pw_iload dL_law_59 rfl ?_
        refine px_imuln (c := 2 * k) dL_law_61 (by omega) ?_
        refine pw_iconst_ (v := nI 1) dL_law_62 (by decide) ?_
        refine px_iaddn (c := 2 * k + 1) dL_law_63 (by omega) ?_
        refine pl_callS (k' := Y'.length) (z' := kv_sum Y') (As := [.ref (1000 + 3), .int (nI (2 * k + 1))]) (st := [.int g, .ref (227 + 2), .ref (227 + 1), .ref (227 + 0), .ref 0]) dL_law_64 cs_L_105 rfl (Nat.le_of_ble_eq_true rfl) (Nat.le_of_ble_eq_true rfl) ⟨Nat.le_refl _, (by omega)⟩ ⟨Nat.le_refl _, (by omega)⟩ ?_
        refine y_cell hL hL2 (by omega) ?_
        show PL l E D cA 139 876 mL_law 11 fin 67 [some (.ref (1000 + 3)), some (.ref 0), some (.ref (227 + 0)), some (.ref (227 + 1)), some (.ref (227 + 2)), some (.int (nI k))] [.int (cv (E.2.2.2 3) L (2 * k + 1)), .int g, .ref (227 + 2), .ref (227 + 1), .ref (227 + 0), .ref 0] ν Y'
        refine pl_callS (k' := Y'.length) (z' := kv_sum Y') (As := [.ref 0, .ref (227 + 0), .ref (227 + 1), .ref (227 + 2), .int g, .int (cv (E.2.2.2 3) L (2 * k + 1))]) (st := []) dL_law_67 cs_L_109 rfl (Nat.le_of_ble_eq_true rfl) (Nat.le_of_ble_eq_true rfl) ⟨Nat.le_refl _, (by omega)⟩ ⟨Nat.le_refl _, (by omega)⟩ ?_
        refine y_act hw hν h0 h1 h2 hG (hE9 _) (fun κ Y2 c2 r2 hh2 lo2 m1 m2 m3 m4 m5 m6 m7 m8 m9 m10 => ?_)
        show PL l E D cA 139 876 mL_law 11 fin 70 [some (.ref (1000 + 3)), some (.ref 0), some (.ref (227 + 0)), some (.ref (227 + 1)), some (.ref (227 + 2)), some (.int (nI k))] [.int (nI 1)] κ Y2
        have m11 : na c2 3 = tmC (E.2.2.2 3) L (k + 1) := by
          rw [m4, hN, hg]
          rfl
        refine pw_if_eq (tgt := 92) dL_law_70 (by decide) (fun h9 => absurd h9 (by decide)) (fun _ => ?_)
        refine pw_iload dL_law_73 rfl ?_
        refine pw_iconst_ (v := nI 4) dL_law_75 (by decide) ?_
        refine px_iremn dL_law_76 (by omega) (by decide) (by decide) ?_
        refine pw_iconst_ (v := nI 3) dL_law_77 (by decide) ?_
        refine pn_ne (tgt := 94) dL_law_78 (by decide) (by omega) (by omega) (fun hc => ?_) (fun hc => ?_)
        · refine px_iincn (n := 1) (a := k) (b := k + 1) (ls' := [some (.ref (1000 + 3)), some (.ref 0), some (.ref (227 + 0)), some (.ref (227 + 1)), some (.ref (227 + 2)), some (.int (nI (k + 1)))]) dL_law_94 rfl rfl rfl (by omega) ?_
          refine pw_goto (tgt := 27) dL_law_97 (by decide) ?_
          exact ih κ c2 r2 hh2 lo2 Y2 m1 m2 m3 m11 (by omega) (by omega) m7 m8 m9
        · refine pw_aload_n dL_law_81 rfl ?_
          refine pw_aload_n dL_law_82 rfl ?_
          refine pw_aload_n dL_law_83 rfl ?_
          refine pw_aload dL_law_84 rfl ?_
          refine pl_callS (k' := Y2.length + 17) (z' := kv_sum Y2 + 102) (As := [.ref 0, .ref (227 + 0), .ref (227 + 1), .ref (227 + 2)]) (st := []) dL_law_86 cs_L_113 rfl (Nat.le_of_ble_eq_true rfl) (Nat.le_of_ble_eq_true rfl) ⟨by omega, by omega⟩ ⟨by omega, by omega⟩ ?_
          refine y_game m2 m1 m7 m8 m9 m3.li m3.dr (by omega) (fun κ2 Y3 n1 n2 n3 n4 => ?_)
          show PL l E D cA 139 876 mL_law 11 fin 89 [some (.ref (1000 + 3)), some (.ref 0), some (.ref (227 + 0)), some (.ref (227 + 1)), some (.ref (227 + 2)), some (.int (nI k))] [.int (nI 1)] κ2 Y3
          refine pw_if_ne (tgt := 94) dL_law_89 (by decide) (fun _ => ?_) (fun h9 => absurd h9 (by decide))
          refine px_iincn (n := 1) (a := k) (b := k + 1) (ls' := [some (.ref (1000 + 3)), some (.ref 0), some (.ref (227 + 0)), some (.ref (227 + 1)), some (.ref (227 + 2)), some (.int (nI (k + 1)))]) dL_law_94 rfl rfl rfl (by omega) ?_
          refine pw_goto (tgt := 27) dL_law_97 (by decide) ?_
          exact ih κ2 c2 r2 hh2 lo2 Y3 n1 m2 m3 m11 (by omega) (by omega) ((n4 _ (by omega)).trans m7) ((n4 _ (by omega)).trans m8) ((n4 _ (by omega)).trans m9)
      refine pn_ge (tgt := 49) dL_law_42 (by decide) (by omega) (by omega) (fun hc => ?_) (fun hc => ?_)
      · refine pw_aload_n dL_law_49 rfl ?_
        refine pw_iconst_ (v := nI 2) dL_law_50 (by decide) ?_
        refine pw_iload dL_law_51 rfl ?_
        refine px_imuln (c := 2 * k) dL_law_53 (by omega) ?_
        refine pl_callS (k' := Y'.length) (z' := kv_sum Y') (As := [.ref (1000 + 3), .int (nI (2 * k))]) (st := [.ref (227 + 2), .ref (227 + 1), .ref (227 + 0), .ref 0]) dL_law_54 cs_L_105 rfl (Nat.le_of_ble_eq_true rfl) (Nat.le_of_ble_eq_true rfl) ⟨Nat.le_refl _, (by omega)⟩ ⟨Nat.le_refl _, (by omega)⟩ ?_
        refine y_cell hL hL2 (by omega) ?_
        show PL l E D cA 139 876 mL_law 11 fin 57 [some (.ref (1000 + 3)), some (.ref 0), some (.ref (227 + 0)), some (.ref (227 + 1)), some (.ref (227 + 2)), some (.int (nI k))] [.int (cv (E.2.2.2 3) L (2 * k)), .ref (227 + 2), .ref (227 + 1), .ref (227 + 0), .ref 0] ν Y'
        exact k57 _ (if_neg (by omega)).symm
      · refine pw_iconst_ (v := nI 0) dL_law_45 (by decide) ?_
        refine pw_goto (tgt := 57) dL_law_46 (by decide) ?_
        exact k57 _ (if_pos hc).symm
  exact lp 0 (Nat.zero_le _) μ c r h lo Y hx hw hG hN ya yb h0 h1 h2
end LAW
