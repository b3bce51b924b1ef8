/-! the law: its loop -/
section LAWL
variable {l : Launch} {E : EV} {D : va_G} {cA : Nat → ClassId} {fin : Option Value → Mu → Prop} {μ : Mu} {d : Nat}
set_option maxRecDepth 100000 in
set_option maxHeartbeats 4000000 in
theorem lw_loop {L : Nat} (hL : E.2.2.1 3 = L) (hL2 : L ≤ 2560) (hE : ES E) {c : CS} (hw : CW c) (hx : CX μ c) (hm : MX μ c) (hf : ∀ ν : Mu, fin (some (.int (nI 1))) ν) : PS l E D cA mL_law 8 fin 18 [some (.ref (1000 + 3)), some (.ref 0), some (.ref 227), some (.int (nI 0))] [] μ := by
  have hsub : (nI L - nI 5).toInt = (L : Int) - 5 := pk_sub_toInt (by omega) (by decide)
  have lp : ∀ j : Nat, j ≤ L / 5 → ∀ (ν : Mu) (c : CS), CX ν c → MX ν c → CW c → PS l E D cA mL_law 8 fin 18 [some (.ref (1000 + 3)), some (.ref 0), some (.ref 227), some (.int (nI (5 * j)))] [] ν := by
    refine ps_for _ ?_ ?_
    · intro ν c hx hm hw
      refine pw_iload_n dL_law_18 rfl ?_
      refine pw_aload_n dL_law_19 rfl ?_
      refine pw_alen_s (k := 3) dL_law_20 (by decide) ?_
      rw [hL]
      show PS l E D cA mL_law 8 fin 21 [some (.ref (1000 + 3)), some (.ref 0), some (.ref 227), some (.int (nI (5 * (L / 5))))] [.int (nI L), .int (nI (5 * (L / 5)))] ν
      refine pw_iconst_ (v := nI 5) dL_law_21 (by decide) ?_
      refine pw_isub dL_law_22 ?_
      refine pw_icmp_gt (tgt := 1032) dL_law_23 (by decide) (fun _ => ?_) (fun h9 => absurd (Int32.lt_iff_toInt_lt.mpr (by rw [hsub, nI_toInt (by omega)]; omega)) h9)
      refine pw_iconst_ (v := nI 1) dL_law_1032 (by decide) ?_
      exact ps_iret dL_law_1033 rfl (by decide) (hf ν)
    · intro j hj ih ν c hx hm hw
      refine pw_iload_n dL_law_18 rfl ?_
      refine pw_aload_n dL_law_19 rfl ?_
      refine pw_alen_s (k := 3) dL_law_20 (by decide) ?_
      rw [hL]
      show PS l E D cA mL_law 8 fin 21 [some (.ref (1000 + 3)), some (.ref 0), some (.ref 227), some (.int (nI (5 * j)))] [.int (nI L), .int (nI (5 * j))] ν
      refine pw_iconst_ (v := nI 5) dL_law_21 (by decide) ?_
      refine pw_isub dL_law_22 ?_
      refine pw_icmp_gt (tgt := 1032) dL_law_23 (by decide) (fun h9 => absurd (Int32.lt_iff_toInt_lt.mp h9) (by rw [hsub, nI_toInt (by omega)]; omega)) (fun _ => ?_)
      have hj5 : 5 * j + 5 ≤ L := by omega
      refine pw_aload_n dL_law_26 rfl ?_
      refine pw_iload_n dL_law_27 rfl ?_
      refine ps_iald_s (k := 3) (j := 5 * j) (x := E.2.2.2 3 (5 * j)) dL_law_28 (by decide) (by omega) rfl (by omega) rfl ?_
      refine pw_bipush (v := nI 31) dL_law_29 (by decide) ?_
      refine pw_iand dL_law_31 ?_
      obtain ⟨k, hk, hke⟩ := and31 (E.2.2.2 3 (5 * j))
      rw [hke]
      by_cases h28 : 28 ≤ k
      · refine pw_switchOut (tgt := 1026) dL_law_32 (Or.inr (by rw [nI_toInt (by omega)]; omega)) (by decide) ?_
        refine px_iincn (n := 5) (a := 5 * j) (b := 5 * j + 5) (ls' := [some (.ref (1000 + 3)), some (.ref 0), some (.ref 227), some (.int (nI (5 * j + 5)))]) dL_law_1026 rfl rfl rfl rfl ?_
        refine pw_goto (tgt := 18) dL_law_1029 (by decide) ?_
        exact ih ν c hx hm hw
      · rcases (show k = 0 ∨ k = 1 ∨ k = 2 ∨ k = 3 ∨ k = 4 ∨ k = 5 ∨ k = 6 ∨ k = 7 ∨ k = 8 ∨ k = 9 ∨ k = 10 ∨ k = 11 ∨ k = 12 ∨ k = 13 ∨ k = 14 ∨ k = 15 ∨ k = 16 ∨ k = 17 ∨ k = 18 ∨ k = 19 ∨ k = 20 ∨ k = 21 ∨ k = 22 ∨ k = 23 ∨ k = 24 ∨ k = 25 ∨ k = 26 ∨ k = 27 by omega) with rfl | rfl | rfl | rfl | rfl | rfl | rfl | rfl | rfl | rfl | rfl | rfl | rfl | rfl | rfl | rfl | rfl | rfl | rfl | rfl | rfl | rfl | rfl | rfl | rfl | rfl | rfl | rfl
        · exact pw_switchIn (tgt := 160) dL_law_32 (by decide) (by decide) rfl (by decide) (lw_c0 hL hj5 hL2 hE hw hx hm ih)
        · exact pw_switchIn (tgt := 193) dL_law_32 (by decide) (by decide) rfl (by decide) (lw_c1 hL hj5 hL2 hE hw hx hm ih)
        · exact pw_switchIn (tgt := 246) dL_law_32 (by decide) (by decide) rfl (by decide) (lw_c2 hL hj5 hL2 hE hw hx hm ih)
        · exact pw_switchIn (tgt := 295) dL_law_32 (by decide) (by decide) rfl (by decide) (lw_c3 hL hj5 hL2 hE hw hx hm ih)
        · exact pw_switchIn (tgt := 318) dL_law_32 (by decide) (by decide) rfl (by decide) (lw_c4 hL hj5 hL2 hE hw hx hm ih)
        · exact pw_switchIn (tgt := 341) dL_law_32 (by decide) (by decide) rfl (by decide) (lw_c5 hL hj5 hL2 hE hw hx hm ih)
        · exact pw_switchIn (tgt := 364) dL_law_32 (by decide) (by decide) rfl (by decide) (lw_c6 hL hj5 hL2 hE hw hx hm ih)
        · exact pw_switchIn (tgt := 397) dL_law_32 (by decide) (by decide) rfl (by decide) (lw_c7 hL hj5 hL2 hE hw hx hm ih)
        · exact pw_switchIn (tgt := 456) dL_law_32 (by decide) (by decide) rfl (by decide) (lw_c8 hL hj5 hL2 hE hw hx hm ih)
        · exact pw_switchIn (tgt := 489) dL_law_32 (by decide) (by decide) rfl (by decide) (lw_c9 hL hj5 hL2 hE hw hx hm ih)
        · exact pw_switchIn (tgt := 522) dL_law_32 (by decide) (by decide) rfl (by decide) (lw_c10 hL hj5 hL2 hE hw hx hm ih)
        · exact pw_switchIn (tgt := 565) dL_law_32 (by decide) (by decide) rfl (by decide) (lw_c11 hL hj5 hL2 hE hw hx hm ih)
        · exact pw_switchIn (tgt := 578) dL_law_32 (by decide) (by decide) rfl (by decide) (lw_c12 hL hj5 hL2 hE hw hx hm ih)
        · exact pw_switchIn (tgt := 621) dL_law_32 (by decide) (by decide) rfl (by decide) (lw_c13 hL hj5 hL2 hE hw hx hm ih)
        · exact pw_switchIn (tgt := 654) dL_law_32 (by decide) (by decide) rfl (by decide) (lw_c14 hL hj5 hL2 hE hw hx hm ih)
        · exact pw_switchIn (tgt := 687) dL_law_32 (by decide) (by decide) rfl (by decide) (lw_c15 hL hj5 hL2 hE hw hx hm ih)
        · exact pw_switchIn (tgt := 720) dL_law_32 (by decide) (by decide) rfl (by decide) (lw_c16 hL hj5 hL2 hE hw hx hm ih)
        · exact pw_switchIn (tgt := 753) dL_law_32 (by decide) (by decide) rfl (by decide) (lw_c17 hL hj5 hL2 hE hw hx hm ih)
        · exact pw_switchIn (tgt := 776) dL_law_32 (by decide) (by decide) rfl (by decide) (lw_c18 hL hj5 hL2 hE hw hx hm ih)
        · exact pw_switchIn (tgt := 799) dL_law_32 (by decide) (by decide) rfl (by decide) (lw_c19 hL hj5 hL2 hE hw hx hm ih)
        · exact pw_switchIn (tgt := 832) dL_law_32 (by decide) (by decide) rfl (by decide) (lw_c20 hL hj5 hL2 hE hw hx hm ih)
        · exact pw_switchIn (tgt := 855) dL_law_32 (by decide) (by decide) rfl (by decide) (lw_c21 hL hj5 hL2 hE hw hx hm ih)
        · exact pw_switchIn (tgt := 888) dL_law_32 (by decide) (by decide) rfl (by decide) (lw_c22 hL hj5 hL2 hE hw hx hm ih)
        · exact pw_switchIn (tgt := 941) dL_law_32 (by decide) (by decide) rfl (by decide) (lw_c23 hL hj5 hL2 hE hw hx hm ih)
        · exact pw_switchIn (tgt := 954) dL_law_32 (by decide) (by decide) rfl (by decide) (lw_c24 hL hj5 hL2 hE hw hx hm ih)
        · exact pw_switchIn (tgt := 967) dL_law_32 (by decide) (by decide) rfl (by decide) (lw_c25 hL hj5 hL2 hE hw hx hm ih)
        · exact pw_switchIn (tgt := 980) dL_law_32 (by decide) (by decide) rfl (by decide) (lw_c26 hL hj5 hL2 hE hw hx hm ih)
        · exact pw_switchIn (tgt := 1003) dL_law_32 (by decide) (by decide) rfl (by decide) (lw_c27 hL hj5 hL2 hE hw hx hm ih)
  exact lp 0 (Nat.zero_le _) μ c hx hm hw
end LAWL
