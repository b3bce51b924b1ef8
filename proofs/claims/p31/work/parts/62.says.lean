/-! what the law answers, on every script; where the claim is false -/
/-- the law's answer on a script of L ints f: 1 where a team is left behind the 32 acts, else 0 -/
def lwV (f : Nat → Int32) (L : Nat) : Int32 := if tmC f L 32 = 0 then nI 0 else nI 1
def R_law : String := "TrailTeamsLaw"
def lw_P (b : Addr) (xs : List Int32) (args : Array Value) (s : State) : Prop := args = #[.ref b] ∧ s.IntsAt b xs ∧ xs.length ≤ 260 ∧ (Jvm.Cond.and given_1 narrow_1).before args s = true
def lw_Q (v : Int32) (_ : Array Value) (s : State) (o : Outcome) (t : State) : Prop := o = .returned (some (.int v)) ∧ Framed s o t [] 656308 7133323
def lw_Z (v : Int32) (below : List Frame) (a : Array Value) (s : State) : State → Prop := fun t => ∃ o, t.status = .running ∧ Ended t below o ∧ lw_Q v a s o t
/-- the law's own end, with 1 on the stack, nothing written that was there before, its room as the claim has it -/
theorem lw_ret {v : Int32} (hn9 : narrow .boolean (.int v) = .int v) {p : Program} {l : Launch} {e : Env} {s : State} {m : MethodId} {below : List Frame} {meth : Method} {c : Code} {b : Nat} (hx : p.tables.exec = Jvm.exec) (hb : c.code = code) (hr : meth.sig.returnType = ret) (hlocks : meth.locks = false) {pc : Nat} {H : Heap} {ls : Array Slot} (hdg : decode code pc = .ok (.ireturn, 1)) : W p l e room_1 s m #[Value.ref b] below meth c H [] 656308 7133323 (lw_Z v below #[Value.ref b] s) (F0 m pc ls [.int v]) := by
  intro T hT X
  obtain ⟨fs, hret, hrun, hended, hW, hframe⟩ := X.leave (v := some (.int v)) (hlocks := hlocks) (fun h => by rw [hr] at h; cases h)
  have hmeth' : T.vm.method? m = some meth := X.method'
  refine ⟨T.setFrames fs, ?_, .returned (some (.int v)), hrun, hended, rfl, ⟨_, rfl⟩, hW, hframe⟩
  jvm_step X.here [X.here.top, hx, hb, hdg, hmeth', hr, ret, hn9]
  (try refine ⟨rfl, ?_⟩); (try refine ⟨rfl, ?_⟩)
  first | (intro acts; rw [hret _ acts rfl rfl rfl]) | rw [hret _ _ rfl rfl rfl]
  exact Steps.refl _
/-- what holds at the law's entry: the machine, the code, the tables' words (any of lw_tbl by 'hts w (by decide +kernel)'), the script of L ints xs at the cell b, what the Statement gives of the start (any of its parts by flat_of_before) -/
def lw_At (p : Program) (s : State) (m : MethodId) (meth : Method) (c : Code) (b L : Nat) (xs : Nat → Int32) : Prop :=
  p.tables.exec = Jvm.exec ∧ c.code = code ∧ meth.sig.returnType = ret ∧ c.maxLocals = 6 ∧ s.vm.findClass R_law = some m.cls ∧ (∀ w ∈ lw_tbl, w.before #[Value.ref b] s = true) ∧ va_X b L xs s s.heap ∧ b < s.heap.size ∧ meth.locks = false ∧ (Jvm.Cond.and given_1 narrow_1).before #[Value.ref b] s = true
theorem TTM_len : TTM.length = 227 := by unfold TTM; simp only [List.length_append, List.length_cons, List.length_nil, SBK_len, GBK_len, PBK_len, HBK_len]
theorem TTM_sum : kv_sum TTM = 1529 := by unfold TTM; simp only [-List.reduceReplicate, kv_sum_app2, kv_sum_cons, kv_sum_nil, SBK_sum, GBK_sum, PBK_sum, HBK_sum, List.length_cons, List.length_nil, List.length_replicate, List.length_set, show fz5.length = 7 from rfl]
theorem em_Z_n : em_Z = 1529 := by decide +kernel
theorem gi_0 {r h lo : Nat → Int32} : GI (na c0) r h lo := fun t ht => absurd ht (Nat.not_lt_zero _)
/-- the law, from its first instruction, in pure memory -/
theorem lw_pure {l : Launch} {E : EV} {D : va_G} {cA : Nat → ClassId} {L : Nat} (hE : ESV E) (hL : E.2.2.1 3 = L) (hL2 : L ≤ 260) : PW l E D cA (227 + 139) (em_Z + 876) mL_law 11 (fun r M => ∃ ν Y', M = em ν ++ Y' ∧ r = some (.int (lwV (E.2.2.2 3) L))) 0 [some (.ref (1000 + 3)), none, none, none, none, none] [] [] := by
  refine pw_new (ci := 5) (fs := fz5) dL_law_0 kn_L_10 (by decide) (by decide) (by rw [em_Z_n]; decide) ?_
  show PW l E D cA (227 + 139) (em_Z + 876) mL_law 11 (fun r M => ∃ ν Y', M = em ν ++ Y' ∧ r = some (.int (lwV (E.2.2.2 3) L))) 3 [some (.ref (1000 + 3)), none, none, none, none, none] [.ref 0] [(5, fz5)]
  refine pw_dup dL_law_3 rfl ?_
  refine pw_callI (N' := 227) (Z' := 1529) (b := 0) (As := []) (st := [.ref 0]) dL_law_4 yy_X5_init rfl rfl ci_L_104.1 ci_L_104.2 rfl (Nat.le_of_ble_eq_true rfl) (Nat.le_of_ble_eq_true rfl) ⟨by decide, by decide⟩ ⟨by decide, by rw [em_Z_n]; decide⟩ ?_
  refine k_TT (d := 6) hE ?_
  have e0 : TTM = em mu0 ++ [] := by rw [em_0, List.append_nil]
  rw [e0]
  show PL l E D cA 139 876 mL_law 11 (fun r _ _ => r = some (.int (lwV (E.2.2.2 3) L))) 7 [some (.ref (1000 + 3)), none, none, none, none, none] [.ref 0] mu0 []
  refine px_astore_n (ls' := [some (.ref (1000 + 3)), some (.ref 0), none, none, none, none]) dL_law_7 rfl rfl (by decide) ?_
  refine pw_bipush (v := nI 48) dL_law_8 (by decide) ?_
  refine pl_new (n := 48) dL_law_10 tb_ai rfl (by decide) (by decide) (by decide) (by decide) (fun Y1 a1 a2 a3 a4 => ?_)
  show PL l E D cA 139 876 mL_law 11 (fun r _ _ => r = some (.int (lwV (E.2.2.2 3) L))) 12 [some (.ref (1000 + 3)), some (.ref 0), none, none, none, none] [.ref (227 + 0)] mu0 Y1
  refine px_astore_n (ls' := [some (.ref (1000 + 3)), some (.ref 0), some (.ref (227 + 0)), none, none, none]) dL_law_12 rfl rfl (by decide) ?_
  have a1 : Y1.length = 1 := a1
  have a2 : kv_sum Y1 = 48 := a2
  have a3 : Y1[0]? = some (yr (fun _ => 0) 48) := a3
  refine pw_bipush (v := nI 6) dL_law_13 (by decide) ?_
  refine pl_new (n := 6) dL_law_15 tb_ai rfl (by decide) (by omega) (by decide) (by omega) (fun Y2 b1 b2 b3 b4 => ?_)
  rw [a1] at b1 b3 b4 ⊢
  refine px_astore_n (ls' := [some (.ref (1000 + 3)), some (.ref 0), some (.ref (227 + 0)), some (.ref (227 + 1)), none, none]) dL_law_17 rfl rfl (by decide) ?_
  refine pw_bipush (v := nI 6) dL_law_18 (by decide) ?_
  refine pl_new (n := 6) dL_law_20 tb_ai rfl (by decide) (by omega) (by decide) (by omega) (fun Y3 c1 c2 c3 c4 => ?_)
  rw [b1] at c1 c3 c4 ⊢
  refine px_astore (ls' := [some (.ref (1000 + 3)), some (.ref 0), some (.ref (227 + 0)), some (.ref (227 + 1)), some (.ref (227 + 2)), none]) dL_law_22 rfl rfl (by decide) ?_
  refine pw_iconst_ (v := nI 0) dL_law_24 (by decide) ?_
  refine px_istore (ls' := [some (.ref (1000 + 3)), some (.ref 0), some (.ref (227 + 0)), some (.ref (227 + 1)), some (.ref (227 + 2)), some (.int (nI 0))]) dL_law_25 rfl rfl (by decide) ?_
  exact y_loop hL hL2 hE.es cw_0 cx_0 ((c4 0 (by decide)).trans ((b4 0 (by decide)).trans a3)) ((c4 1 (by decide)).trans b3) c3 gi_0 rfl (by omega) (by omega) (fun ν Y' => rfl)
theorem lwV_nar {f : Nat → Int32} {L : Nat} : narrow .boolean (.int (lwV f L)) = .int (lwV f L) := by
  unfold lwV
  split <;> rfl
set_option maxHeartbeats 4000000 in
set_option maxRecDepth 100000 in
theorem whole_start {p : Program} {e : Env} {s : State} {m : MethodId} {below : List Frame} {meth : Method} {c : Code} (l : Launch) (hflags : l.flags = flags0) {b L : Nat} {xs : Nat → Int32} (hL : L ≤ 260) (C0 : lw_At p s m meth c b L xs) : W p l e room_1 s m #[Value.ref b] below meth c s.heap [] 0 0 (lw_Z (lwV xs L) below #[Value.ref b] s) (entryFrame m ([Value.ref b] : List Value).toArray 6) := by
  obtain ⟨hx, hb, hr, hml, hown, hts, hX, hbl, hlocks, hgv⟩ := C0
  have htb : ∀ w ∈ TB, w.before #[Value.ref b] s = true := fun w h => hts w (TB_tbl h)
  obtain ⟨D, cA, hK, hao3, hao4, haoI, hNW⟩ := wd_K hts
  have hA : ∀ a : Nat, a < s.heap.size → ¬ s.heap.size ≤ a := fun a h => Nat.not_le.mpr h
  obtain ⟨t0, hT0, hZ0⟩ := wd_T0 (A := fun q => s.heap.size ≤ q) hts hgv hA
  obtain ⟨t1, hT1, hZ1⟩ := wd_T1 (A := fun q => s.heap.size ≤ q) hts hgv hA
  obtain ⟨t2, hT2, hZ2⟩ := wd_T2 (A := fun q => s.heap.size ≤ q) hts hgv hA
  obtain ⟨scr, hs1, hs2, hs3, hs4, hs5⟩ := hX
  obtain ⟨E, hEd⟩ : ∃ E : EV, E = (s.heap.size, (fun k => match k with | 0 => t0 | 1 => t1 | 2 => t2 | _ => b), (fun k => match k with | 0 => 3 | 1 => 3 | 2 => 3 | _ => L), (fun k j => match k with | 0 => nI (fiS j) | 1 => nI (loS j) | 2 => nI (hiS j) | _ => xs j)) := ⟨_, rfl⟩
  have hES : ESV E := by
    subst hEd
    exact ⟨rfl, rfl, rfl, fun j _ => ⟨rfl, rfl, rfl⟩⟩
  have hE3 : E.2.2.1 3 = L := by
    subst hEd
    rfl
  have hEx : E.2.2.2 3 = xs := by
    subst hEd
    rfl
  have hEb : kv_adr E (1000 + 3) = b := by
    rw [kv_adr_s]
    subst hEd
    rfl
  have hE1 : E.1 = s.heap.size := by
    subst hEd
    rfl
  have hG : kv_G E D cA s := by
    refine ⟨hK, hao3, hao4, haoI, hNW, ?_, ?_, ?_, ?_⟩
    · intro k hk
      subst hEd
      rcases (show k = 0 ∨ k = 1 ∨ k = 2 ∨ k = 3 by omega) with rfl | rfl | rfl | rfl
      · exact hT0
      · exact hT1
      · exact hT2
      · exact ⟨scr, hs1, hs2, hs3, Nat.le_of_eq hs4.symm, by rw [hs4]; rfl, hs5, Nat.not_le.mpr hbl⟩
    · subst hEd
      exact hZ0
    · subst hEd
      exact hZ1
    · subst hEd
      exact hZ2
  rw [lg_entry_eq]
  have hargs : ([Value.ref b] : List Value) = ([Value.ref (1000 + 3)] : List Value).map (kv_v E) := by
    show [Value.ref b] = [Value.ref (kv_adr E (1000 + 3))]
    rw [hEb]
  have hkl : kv_L E 6 ((lg_sl ([Value.ref b] : List Value) ++ List.replicate (6 - (lg_sl ([Value.ref b] : List Value)).length) Slot.unset).toArray) (kv_en 6 [.ref (1000 + 3)]) := by
    have h := kv_en_L E (nL := 6) (vs := [.ref (1000 + 3)]) (by decide)
    rw [← hargs] at h
    exact h
  refine lw_pure (D := D) (cA := cA) hES hE3 hL (n0 := 0) (z0 := 0) ⟨⟨hx, hb, hml, hown, htb, fun h => absurd h (by decide)⟩, hG, ⟨Nat.le_of_eq hE1, by rw [hE1]; exact Nat.le_refl _⟩, by decide, by decide, by decide, by rw [em_Z_n]; decide, ?_⟩ ⟨⟨Nat.zero_le _, fun k q h => by simp [kv_w] at h⟩, va_S.rf, hkl, rfl, rfl⟩
  rintro r M' H' locs' cells' slots' pc' la' ⟨ν, Y', hM, rfl⟩ hN' hZ' - hS' hc' hz' hret
  refine va_forget (fun q hq => by have h9 := hS'.2.2 q hq; unfold kv_A at h9; rw [hE1] at h9; exact h9) ?_
  refine W.widen (k := 656308) (n := 7133323) (by rw [hN'] at hc'; omega) (by rw [hZ', em_Z_n] at hz'; omega) ?_
  rw [hEx] at hret ⊢
  exact lw_ret lwV_nar hx hb hr hlocks hret.2
set_option maxHeartbeats 4000000 in
theorem lw_walk (l : Launch) (hflags : l.flags = flags0) (b : Addr) (xs : List Int32) : MetFree l x (headSpec (Jvm.Cond.code x code maxLocals ret :: tables_1) room_1) (lw_P b xs) (fun _ _ _ _ _ => True) (lw_Q (lwV (fun j => xs.getD j 0) xs.length)) := by
  refine MetFree.of_bodyS (code := code) (maxLocals := maxLocals) (ret := ret) (by decide) ?_ ?_
  · intro args s m h hn
    obtain ⟨meth, c, h1, h2, h3, h4, h5, h6, -, -⟩ := Cond.code_spec hn (atoms_spec (ws := Jvm.Cond.code x code maxLocals ret :: tables_1) h _ List.mem_cons_self)
    exact ⟨meth, c, h1, h2, h3, h4, h5, h6⟩
  · intro p e s m args below meth c s₁ B hml0 hP _
    obtain ⟨rfl, hx, hbd, hgv⟩ := hP
    obtain ⟨scr, harrAt, hlist, hof, hsmall⟩ := hx
    obtain ⟨hcb, hkn, -, -⟩ := State.arrayAt?_spec harrAt
    have hown : s.vm.findClass R_law = some m.cls := findClass_of_methodNamed B.named
    have hts0 : ∀ c ∈ (Jvm.Cond.code x code maxLocals ret :: tables_1), c.before #[Value.ref b] s = true := atoms_spec (ws := Jvm.Cond.code x code maxLocals ret :: tables_1) B.pre
    have hts : ∀ w ∈ lw_tbl, w.before #[Value.ref b] s = true := k2_hts_sels lw_privs (fun w hw => hts0 w (List.mem_cons_of_mem _ hw)) lw_privs_ok
    have hml : c.maxLocals = 6 := B.maxLocals_eq (hts0 _ List.mem_cons_self)
    have X₀ : Stand p l e room_1 s m #[Value.ref b] below meth c s₁ [] 0 0 := Stand.of_body B
    have hh0 : s₁.heap = s.heap := by rw [B.state]; rfl
    have hsz : scr.slots.size = xs.length := by rw [← Array.length_toList, hlist, List.length_map]
    have hval : ∀ j : Nat, j < xs.length → scr.slots[j]? = some (.int (xs.getD j 0)) := fun j hj => by
      rw [← Array.getElem?_toList, hlist]
      simp [hj]
    have hbl : b < s.heap.size := (Array.getElem?_eq_some_iff.mp hcb).1
    have hX : va_X b xs.length (fun j => xs.getD j 0) s s.heap := ⟨scr, hcb, hof, hkn, hsz, hval⟩
    have K : W p l e room_1 s m #[Value.ref b] below meth c s₁.heap [] 0 0 (lw_Z (lwV (fun j => xs.getD j 0) xs.length) below #[Value.ref b] s) (entryFrame m ([Value.ref b] : List Value).toArray 6) := by
      rw [hh0]
      exact whole_start l hflags hbd ⟨B.exec, B.bytes, B.returns, hml, hown, hts, hX, hbl, B.notSynchronized, hgv⟩
    obtain ⟨t, a1, o, b1, b2, b3⟩ := K s₁ rfl X₀
    exact ⟨t, o, a1, b1, b2, b3⟩
theorem lw_pre_spec {args : Array Value} {s : State} (h : (Jvm.Cond.and given_1 narrow_1).before args s = true) (hr : rest_1_c.before args s = true) : ∃ (b : Addr) (xs : List Int32), lw_P b xs args s := by
  have hs := flat_of_before _ h
  have hq := flat_of_before _ hr
  have hc : (Cond.count 1).before args s = true := hs _ (by decide +kernel)
  have harr : (Cond.arrayOf (.arg 0) .int).before args s = true := hs _ (by decide +kernel)
  have hle : (Cond.le (.length (.arg 0)) (.int 260)).before args s = true := hs _ (by decide +kernel)
  have hlen : (Cond.isInt (.length (.arg 0))).before args s = true := hq _ (by decide +kernel)
  have hall : (Cond.all (.arg 0) (.isInt (.elem (.arg 0) (.index 0)))).before args s = true := hq _ (by decide +kernel)
  obtain ⟨b, xs, hb, hx⟩ := State.ints_of_pre rfl harr hlen hall
  have hsm : xs.length < 2 ^ 31 := hx.choose_spec.2.2.2
  have hev : (Term.length (.arg 0)).eval args s none [] s = some (.int xs.length.toInt32) := hx.length_eval hb
  have hv := Cond.le_ints hev (show (Term.int 260).eval args s none [] s = some (.int 260) from rfl)
  have hd : xs.length.toInt32 ≤ 260 := by
    simpa [Cond.before, Cond.holds, hv] using hle
  have hN : xs.length ≤ 260 := (Int32.ofNat_le_ofNat hsm (by decide)).mp (show Int32.ofNat xs.length ≤ Int32.ofNat 260 from hd)
  exact ⟨b, xs, Cond.one_arg hc (show args[0]? = some (.ref b) from hb), hx, hN, h⟩
/-- the script of 64 ints on which the claim is false -/
def bad : List Int32 := [0, 0, 0, 0, 3, 0] ++ (List.replicate 28 [4, 0]).flatten ++ [3, 0]
theorem bad_0 : lwV (fun j => bad.getD j 0) bad.length = 0 := by decide +kernel
/-- from every start that the Statement allows, on a script of ints xs, the law comes to its end with lwV -/
theorem p31_says (l : Launch) (hflags : l.flags = flags0) {p : Program} {e : Env} {s : State} {m : MethodId} {args : Array Value} {below : List Frame} (h : AtStart classFile x code maxLocals ret World_1 tables_1 room_1 Calls_1 rest_1 Pre_1 l p e s m args below) {b : Addr} {xs : List Int32} (ha : args = #[.ref b]) (hx : s.IntsAt b xs) (hl : xs.length ≤ 260) :
    ∃ (n : Nat) (o : Outcome), (∀ k, k < n → Within (stepsAlone p.tables e k s) below) ∧ (stepsAlone p.tables e n s).status = Status.running ∧ Ended (stepsAlone p.tables e n s) below o ∧ o = .returned (some (.int (lwV (fun j => xs.getD j 0) xs.length))) := by
  obtain ⟨hL, hW, h1, -, h3, h4, h5, h6, h7, h8, h9, h10, h11⟩ := h
  obtain ⟨k, o, r1, r2, r3, r4⟩ := lw_walk l hflags b xs p e h1 h3 h4 s m args below h5 ((Spec.applies_iff_loose h5).mp h8).1 ⟨ha, hx, hl, h11⟩ trivial
  exact ⟨k, o, r1, r2, r3, r4.1⟩
/-- THE CLAIM IS FALSE at every start that the Statement allows with that script in its argument -/
theorem p31_false (l : Launch) (hflags : l.flags = flags0) {p : Program} {e : Env} {s : State} {m : MethodId} {args : Array Value} {below : List Frame} (h : AtStart classFile x code maxLocals ret World_1 tables_1 room_1 Calls_1 rest_1 Pre_1 l p e s m args below) {b : Addr} (ha : args = #[.ref b]) (hx : s.IntsAt b bad) : ¬ Claimed_1_2 := by
  intro hC
  obtain ⟨k, o', r1, r2, r3, r4⟩ := p31_says l hflags h ha hx (by decide)
  obtain ⟨hL, hW, h1, -, h3, h4, h5, h6, h7, h8, h9, h10, h11⟩ := h
  obtain ⟨n, o, q1, q2, q3, q4⟩ := hC l hflags hL hW p e h1 h3 h4 s m args below h5 h6 h7 h8 ⟨h9, h10, h11⟩
  have hn : n = k := by
    rcases Nat.lt_trichotomy n k with e1 | e1 | e1
    · exact absurd (r1 n e1) q3.not_within
    · exact e1
    · exact absurd (q1 k e1) r3.not_within
  subst hn
  have ho : o = o' := q3.outcome_unique r3
  subst ho
  rw [bad_0] at r4
  subst r4
  have hp := Cond.after_iff.mp q4.1
  rw [show limb_1_2 = Cond.eq .result (.int 1) from rfl, Cond.eq_ints (x := 0) (y := 1) rfl rfl] at hp
  simp at hp
