/-! the claim -/
/-! THE CLAIM OUT OF ONE WALK OF THE LAW'S BODY. Your part is whole_start (and what it stands on); all else here is the same for every law, but numbers. -/
def R_law : String := "TrailTeamsLaw"
def lw_P (b : Addr) (xs : List Int32) (args : Array Value) (s : State) : Prop := args = #[.ref b] ∧ s.IntsAt b xs ∧ xs.length ≤ 2560 ∧ (Jvm.Cond.and given_1 narrow_1).before args s = true
def lw_Q (_ : Array Value) (s : State) (o : Outcome) (t : State) : Prop := o = .returned (some (.int 1)) ∧ Framed s o t [] 600000 7302250
def lw_Z (below : List Frame) (a : Array Value) (s : State) : State → Prop := fun t => ∃ o, t.status = .running ∧ Ended t below o ∧ lw_Q a s o t
/-- the law's own end, with 1 on the stack, nothing written that was there before, its room as the claim has it -/
theorem lw_ret {p : Program} {l : Launch} {e : Env} {s : State} {m : MethodId} {below : List Frame} {meth : Method} {c : Code} {b : Nat} (hx : p.tables.exec = Jvm.exec) (hb : c.code = code) (hr : meth.sig.returnType = ret) (hlocks : meth.locks = false) {pc : Nat} {H : Heap} {ls : Array Slot} (hdg : decode code pc = .ok (.ireturn, 1)) : W p l e room_1 s m #[Value.ref b] below meth c H [] 600000 7302250 (lw_Z below #[Value.ref b] s) (F0 m pc ls [.int 1]) := by
  intro T hT X
  obtain ⟨fs, hret, hrun, hended, hW, hframe⟩ := X.leave (v := some (.int 1)) (hlocks := hlocks) (fun h => by rw [hr] at h; cases h)
  have hmeth' : T.vm.method? m = some meth := X.method'
  refine ⟨T.setFrames fs, ?_, .returned (some (.int 1)), hrun, hended, rfl, ⟨_, rfl⟩, hW, hframe⟩
  jvm_step X.here [X.here.top, hx, hb, hdg, hmeth', hr, ret, narrow_b1]
  (try refine ⟨rfl, ?_⟩); (try refine ⟨rfl, ?_⟩)
  first | (intro acts; rw [hret _ acts rfl rfl rfl]) | rw [hret _ _ rfl rfl rfl]
  exact Steps.refl _
/-- what holds at the law's entry: the machine, the code, the tables' words (any of lw_tbl by 'hts w (by decide +kernel)'), the script of L ints xs at the cell b, what the Statement gives of the start (any of its parts by flat_of_before) -/
def lw_At (p : Program) (s : State) (m : MethodId) (meth : Method) (c : Code) (b L : Nat) (xs : Nat → Int32) : Prop :=
  p.tables.exec = Jvm.exec ∧ c.code = code ∧ meth.sig.returnType = ret ∧ c.maxLocals = 4 ∧ s.vm.findClass R_law = some m.cls ∧ (∀ w ∈ lw_tbl, w.before #[Value.ref b] s = true) ∧ va_X b L xs s s.heap ∧ b < s.heap.size ∧ meth.locks = false ∧ (Jvm.Cond.and given_1 narrow_1).before #[Value.ref b] s = true
theorem TTM_len : TTM.length = 227 := by unfold TTM; simp only [List.length_append, List.length_cons, List.length_nil, SBK_len, GBK_len, PBK_len, HBK_len]
theorem TTM_sum : kv_sum TTM = 1529 := by unfold TTM; simp only [-List.reduceReplicate, kv_sum_app2, kv_sum_cons, kv_sum_nil, SBK_sum, GBK_sum, PBK_sum, HBK_sum, List.length_cons, List.length_nil, List.length_replicate, List.length_set, show fz5.length = 7 from rfl]
theorem em_Z_n : em_Z = 3044 := by decide +kernel
/-- the law, from its first instruction, in pure memory -/
theorem lw_pure {l : Launch} {E : EV} {D : va_G} {cA : Nat → ClassId} {L : Nat} (hE : ES E) (hL : E.2.2.1 3 = L) (hL2 : L ≤ 2560) : PW l E D cA 246 em_Z mL_law 8 (fun r M => ∃ ν, M = em ν ∧ r = some (.int (nI 1))) 0 [some (.ref (1000 + 3)), none, none, none] [] [] := by
  refine pw_new (ci := 5) (fs := fz5) dL_law_0 kn_L_7 (by decide) (by decide) (by rw [em_Z_n]; decide) ?_
  show PW l E D cA 246 em_Z mL_law 8 (fun r M => ∃ ν, M = em ν ∧ r = some (.int (nI 1))) 3 [some (.ref (1000 + 3)), none, none, none] [.ref 0] [(5, fz5)]
  refine pw_dup dL_law_3 rfl ?_
  refine pw_callI (N' := 227) (Z' := 1529) (b := 0) (As := []) (st := [.ref 0]) dL_law_4 yy_X5_init rfl rfl ci_L_9.1 ci_L_9.2 rfl (Nat.le_of_ble_eq_true rfl) (Nat.le_of_ble_eq_true rfl) ⟨by decide, by decide⟩ ⟨by decide, by rw [em_Z_n]; decide⟩ ?_
  refine k_TT (d := 3) hE ?_
  show PW l E D cA 246 em_Z mL_law 8 (fun r M => ∃ ν, M = em ν ∧ r = some (.int (nI 1))) 7 [some (.ref (1000 + 3)), none, none, none] [.ref 0] TTM
  refine px_astore_n (ls' := [some (.ref (1000 + 3)), some (.ref 0), none, none]) dL_law_7 rfl rfl (by decide) ?_
  refine pw_new (ci := 6) (fs := fz6) dL_law_8 kn_L_10 (by rw [TTM_len]; decide) (by rw [TTM_len]; decide) (by rw [TTM_sum, em_Z_n]; decide) ?_
  rw [TTM_len]
  refine pw_dup dL_law_11 rfl ?_
  refine pw_callI (N' := 246) (Z' := 3044) (b := 227) (As := []) (st := [.ref 227]) dL_law_12 yy_X6_init rfl rfl ci_L_12.1 ci_L_12.2 rfl (Nat.le_of_ble_eq_true rfl) (Nat.le_of_ble_eq_true rfl) ⟨by rw [List.length_append, TTM_len]; decide, Nat.le_refl _⟩ ⟨by rw [kv_sum_app2, TTM_sum]; decide, by rw [em_Z_n]; exact Nat.le_refl _⟩ ?_
  refine k_Model (d := 6) (M0 := TTM) TTM_len TTM_sum (by decide) ?_
  rw [em_0]
  show PS l E D cA mL_law 8 (fun r _ => r = some (.int (nI 1))) 15 [some (.ref (1000 + 3)), some (.ref 0), none, none] [.ref 227] mu0
  refine px_astore_n (ls' := [some (.ref (1000 + 3)), some (.ref 0), some (.ref 227), none]) dL_law_15 rfl rfl (by decide) ?_
  refine pw_iconst_ (v := nI 0) dL_law_16 (by decide) ?_
  refine px_istore_n (ls' := [some (.ref (1000 + 3)), some (.ref 0), some (.ref 227), some (.int (nI 0))]) dL_law_17 rfl rfl (by decide) ?_
  exact lw_loop hL hL2 hE cw_0 cx_0 mx_0 (fun ν => rfl)
set_option maxHeartbeats 4000000 in
set_option maxRecDepth 100000 in
theorem whole_start {p : Program} {e : Env} {s : State} {m : MethodId} {below : List Frame} {meth : Method} {c : Code} (l : Launch) (hflags : l.flags = flags0) {b L : Nat} {xs : Nat → Int32} (hL : L ≤ 2560) (C0 : lw_At p s m meth c b L xs) : W p l e room_1 s m #[Value.ref b] below meth c s.heap [] 0 0 (lw_Z below #[Value.ref b] s) (entryFrame m ([Value.ref b] : List Value).toArray 4) := by
  obtain ⟨hx, hb, hr, hml, hown, hts, hX, hbl, hlocks, hgv⟩ := C0
  have htb : ∀ w ∈ TB, w.before #[Value.ref b] s = true := fun w h => hts w (TB_tbl h)
  obtain ⟨D, cA, hK, hao3, hao4, haoI, hNW⟩ := wd_K hts
  have hA : ∀ a : Nat, a < s.heap.size → ¬ s.heap.size ≤ a := fun a h => Nat.not_le.mpr h
  obtain ⟨t0, hT0, hZ0⟩ := wd_T0 (A := fun q => s.heap.size ≤ q) hts hgv hA
  obtain ⟨t1, hT1, hZ1⟩ := wd_T1 (A := fun q => s.heap.size ≤ q) hts hgv hA
  obtain ⟨t2, hT2, hZ2⟩ := wd_T2 (A := fun q => s.heap.size ≤ q) hts hgv hA
  obtain ⟨scr, hs1, hs2, hs3, hs4, hs5⟩ := hX
  obtain ⟨E, hEd⟩ : ∃ E : EV, E = (s.heap.size, (fun k => match k with | 0 => t0 | 1 => t1 | 2 => t2 | _ => b), (fun k => match k with | 0 => 3 | 1 => 3 | 2 => 3 | _ => L), (fun k j => match k with | 0 => nI (fiS j) | 1 => nI (loS j) | 2 => nI (hiS j) | _ => xs j)) := ⟨_, rfl⟩
  have hES : ES E := by
    subst hEd
    exact ⟨rfl, rfl, rfl, fun j _ => ⟨rfl, rfl, rfl⟩⟩
  have hE3 : E.2.2.1 3 = L := by
    subst hEd
    rfl
  have hEb : kv_adr E (1000 + 3) = b := by
    rw [kv_adr_s]
    subst hEd
    rfl
  have hE1 : E.1 = s.heap.size := by
    subst hEd
    rfl
  have hG : kv_G E D cA s := by
    refine ⟨hK, hao3, hao4, haoI, hNW, ?_, ?_, ?_, ?_⟩
    · intro k hk
      subst hEd
      rcases (show k = 0 ∨ k = 1 ∨ k = 2 ∨ k = 3 by omega) with rfl | rfl | rfl | rfl
      · exact hT0
      · exact hT1
      · exact hT2
      · exact ⟨scr, hs1, hs2, hs3, Nat.le_of_eq hs4.symm, by rw [hs4]; rfl, hs5, Nat.not_le.mpr hbl⟩
    · subst hEd
      exact hZ0
    · subst hEd
      exact hZ1
    · subst hEd
      exact hZ2
  rw [lg_entry_eq]
  have hargs : ([Value.ref b] : List Value) = ([Value.ref (1000 + 3)] : List Value).map (kv_v E) := by
    show [Value.ref b] = [Value.ref (kv_adr E (1000 + 3))]
    rw [hEb]
  have hkl : kv_L E 4 ((lg_sl ([Value.ref b] : List Value) ++ List.replicate (4 - (lg_sl ([Value.ref b] : List Value)).length) Slot.unset).toArray) (kv_en 4 [.ref (1000 + 3)]) := by
    have h := kv_en_L E (nL := 4) (vs := [.ref (1000 + 3)]) (by decide)
    rw [← hargs] at h
    exact h
  refine lw_pure (D := D) (cA := cA) hES hE3 hL (n0 := 0) (z0 := 0) ⟨⟨hx, hb, hml, hown, htb, fun h => absurd h (by decide)⟩, hG, ⟨Nat.le_of_eq hE1, by rw [hE1]; exact Nat.le_refl _⟩, by decide, by decide, by decide, by rw [em_Z_n]; decide, ?_⟩ ⟨⟨Nat.zero_le _, fun k q h => by simp [kv_w] at h⟩, va_S.rf, hkl, rfl, rfl⟩
  rintro r M' H' locs' cells' slots' pc' la' ⟨ν, hM, rfl⟩ hN' hZ' - hS' hc' hz' hret
  refine va_forget (fun q hq => by have h9 := hS'.2.2 q hq; unfold kv_A at h9; rw [hE1] at h9; exact h9) ?_
  refine W.widen (k := 600000) (n := 7302250) (by rw [hN'] at hc'; omega) (by rw [hZ', em_Z_n] at hz'; omega) ?_
  exact lw_ret hx hb hr hlocks hret.2
set_option maxHeartbeats 4000000 in
theorem lw_walk (l : Launch) (hflags : l.flags = flags0) (b : Addr) (xs : List Int32) : MetFree l x (headSpec (Jvm.Cond.code x code maxLocals ret :: tables_1) room_1) (lw_P b xs) (fun _ _ _ _ _ => True) lw_Q := by
  refine MetFree.of_bodyS (code := code) (maxLocals := maxLocals) (ret := ret) (by decide) ?_ ?_
  · intro args s m h hn
    obtain ⟨meth, c, h1, h2, h3, h4, h5, h6, -, -⟩ := Cond.code_spec hn (atoms_spec (ws := Jvm.Cond.code x code maxLocals ret :: tables_1) h _ List.mem_cons_self)
    exact ⟨meth, c, h1, h2, h3, h4, h5, h6⟩
  · intro p e s m args below meth c s₁ B hml0 hP _
    obtain ⟨rfl, hx, hbd, hgv⟩ := hP
    obtain ⟨scr, harrAt, hlist, hof, hsmall⟩ := hx
    obtain ⟨hcb, hkn, -, -⟩ := State.arrayAt?_spec harrAt
    have hown : s.vm.findClass R_law = some m.cls := findClass_of_methodNamed B.named
    have hts0 : ∀ c ∈ (Jvm.Cond.code x code maxLocals ret :: tables_1), c.before #[Value.ref b] s = true := atoms_spec (ws := Jvm.Cond.code x code maxLocals ret :: tables_1) B.pre
    have hts : ∀ w ∈ lw_tbl, w.before #[Value.ref b] s = true := k2_hts_sels lw_privs (fun w hw => hts0 w (List.mem_cons_of_mem _ hw)) lw_privs_ok
    have hml : c.maxLocals = 4 := B.maxLocals_eq (hts0 _ List.mem_cons_self)
    have X₀ : Stand p l e room_1 s m #[Value.ref b] below meth c s₁ [] 0 0 := Stand.of_body B
    have hh0 : s₁.heap = s.heap := by rw [B.state]; rfl
    have hsz : scr.slots.size = xs.length := by rw [← Array.length_toList, hlist, List.length_map]
    have hval : ∀ j : Nat, j < xs.length → scr.slots[j]? = some (.int (xs.getD j 0)) := fun j hj => by
      rw [← Array.getElem?_toList, hlist]
      simp [hj]
    have hbl : b < s.heap.size := (Array.getElem?_eq_some_iff.mp hcb).1
    have hX : va_X b xs.length (fun j => xs.getD j 0) s s.heap := ⟨scr, hcb, hof, hkn, hsz, hval⟩
    have K : W p l e room_1 s m #[Value.ref b] below meth c s₁.heap [] 0 0 (lw_Z below #[Value.ref b] s) (entryFrame m ([Value.ref b] : List Value).toArray 4) := by
      rw [hh0]
      exact whole_start l hflags hbd ⟨B.exec, B.bytes, B.returns, hml, hown, hts, hX, hbl, B.notSynchronized, hgv⟩
    obtain ⟨t, a1, o, b1, b2, b3⟩ := K s₁ rfl X₀
    exact ⟨t, o, a1, b1, b2, b3⟩
theorem lw_pre_spec {args : Array Value} {s : State} (h : (Jvm.Cond.and given_1 narrow_1).before args s = true) (hr : rest_1_c.before args s = true) : ∃ (b : Addr) (xs : List Int32), lw_P b xs args s := by
  have hs := flat_of_before _ h
  have hq := flat_of_before _ hr
  have hc : (Cond.count 1).before args s = true := hs _ (by decide +kernel)
  have harr : (Cond.arrayOf (.arg 0) .int).before args s = true := hs _ (by decide +kernel)
  have hle : (Cond.le (.length (.arg 0)) (.int 2560)).before args s = true := hs _ (by decide +kernel)
  have hlen : (Cond.isInt (.length (.arg 0))).before args s = true := hq _ (by decide +kernel)
  have hall : (Cond.all (.arg 0) (.isInt (.elem (.arg 0) (.index 0)))).before args s = true := hq _ (by decide +kernel)
  obtain ⟨b, xs, hb, hx⟩ := State.ints_of_pre rfl harr hlen hall
  have hsm : xs.length < 2 ^ 31 := hx.choose_spec.2.2.2
  have hev : (Term.length (.arg 0)).eval args s none [] s = some (.int xs.length.toInt32) := hx.length_eval hb
  have hv := Cond.le_ints hev (show (Term.int 2560).eval args s none [] s = some (.int 2560) from rfl)
  have hd : xs.length.toInt32 ≤ 2560 := by
    simpa [Cond.before, Cond.holds, hv] using hle
  have hN : xs.length ≤ 2560 := (Int32.ofNat_le_ofNat hsm (by decide)).mp (show Int32.ofNat xs.length ≤ Int32.ofNat 2560 from hd)
  exact ⟨b, xs, Cond.one_arg hc (show args[0]? = some (.ref b) from hb), hx, hN, h⟩
theorem lw_comes (l : Launch) (hflags : l.flags = flags0) : Comes l x (Jvm.Cond.code x code maxLocals ret :: tables_1) room_1 (fun tb e args s => Calls_1 tb e args s ∧ rest_1 tb e args s ∧ Pre_1 tb e args s)
    (fun _ _ args s o t => lw_Q args s o t) := by
  intro p e ha hc hk s m args below hf hfit hheap happ hpre
  obtain ⟨b, xs, hP⟩ := lw_pre_spec hpre.2.2 hpre.2.1
  obtain ⟨k, o, h1, h2, h3, hQ⟩ := lw_walk l hflags b xs p e ha hc hk s m args below hf ((Spec.applies_iff_loose hf).mp happ).1 hP trivial
  exact ⟨k, o, h1, h2, h3, hQ⟩
theorem lw_frame {s t : State} {o : Outcome} {args : Array Value} (h : Framed s o t [] 600000 7302250) :
    Framed s o t (fieldLocs frame_1_writes args s ++ arrayLocs frame_1_arrays args s ++ staticLocs frame_1_statics s) 600000 7302250 := h
theorem lw_limb (L : Cond) (hL : ∀ (args : Array Value) (s t : State), L.after args s (.returned (some (.int 1))) t = true) :
    ArmFor flags0 classFile x code maxLocals ret World_1 tables_1 room_1 Calls_1 rest_1 Pre_1
      (fun tb e a s o t => postC L tb e a s o t ∧ Framed s o t (fieldLocs frame_1_writes a s ++ arrayLocs frame_1_arrays a s ++ staticLocs frame_1_statics s) 600000 7302250) := by
  intro l hflags _ _ p e ha hc hk s m args below hf hfit hheap happ hpre
  obtain ⟨k, o, h1, h2, h3, rfl, hF⟩ := lw_comes l hflags p e ha hc hk s m args below hf hfit hheap happ hpre
  exact ⟨k, _, h1, h2, h3, hL args s _, lw_frame hF⟩
theorem i_vc : Claimed_1_1 ∧ Claimed_1_2 := ⟨lw_limb limb_1_1 (fun args s t => by simp [limb_1_1, Cond.after, Cond.holds, Cond.value]), lw_limb limb_1_2 (fun args s t => Cond.after_iff.mpr (by
  first | (rw [show limb_1_2 = Cond.eq .result (.int 1) from rfl, Cond.eq_ints (x := 1) (y := 1) rfl rfl]; simp; done) | (simp [limb_1_2, Cond.value, Term.eval]; done)))⟩
