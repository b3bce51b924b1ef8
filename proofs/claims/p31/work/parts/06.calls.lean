/-! what stands around goes along into a callee -/
theorem kv_AOI.moved {u U : State} (hvm : u.vm.Alike U.vm) (h : kv_AOI u) : kv_AOI U := by
  obtain ⟨comp, c, k, comp', h1, h2, h3, h4, h5⟩ : ∃ comp c k comp', u.vm.findClass (FieldType.array .int).toString = some comp ∧ (u.vm.classes.findIdx? fun (x : Class) => match x.kind with | .array component _ => component == comp | _ => false) = some c ∧ u.vm.classes[c]? = some k ∧ k.kind = .array comp' (.array .int) ∧ u.vm.findClass ("[" ++ (FieldType.array .int).toString) = some c := by
    unfold kv_AOI Cond.before Cond.holds at h
    simp only [Cond.value, beq_iff_eq] at h
    cases hc : u.vm.findClass (FieldType.array .int).toString with
    | none => simp [hc] at h
    | some comp =>
      simp only [hc, Option.bind_some, Option.bind_eq_some_iff, Option.map_eq_some_iff] at h
      obtain ⟨c, hi, k, hk, hb⟩ := h
      cases hkind : k.kind with
      | array component ty =>
        rw [hkind] at hb
        simp at hb
        exact ⟨comp, c, k, component, rfl, hi, hk, by rw [hkind, hb.1], hb.2⟩
      | _ => rw [hkind] at hb; simp at hb
  obtain ⟨k', hk', he⟩ := hvm.2.2 _ _ h3
  have hi : (U.vm.classes.findIdx? fun (x : Class) => match x.kind with | .array component _ => component == comp | _ => false) = some c := by
    have e1 := va_idx_bare U.vm comp
    have e2 := va_idx_bare u.vm comp
    rw [hvm.bare_eq] at e1
    exact (e1.symm.trans e2).trans h2
  have hkind : k'.kind = .array comp' (.array .int) := by rw [he]; exact h4
  have f1 : U.vm.findClass (FieldType.array .int).toString = some comp := by rw [hvm.findClass]; exact h1
  have f2 : U.vm.findClass ("[" ++ (FieldType.array .int).toString) = some c := by rw [hvm.findClass]; exact h5
  unfold kv_AOI Cond.before Cond.holds
  simp only [Cond.value]
  rw [f1, Option.bind_some]
  refine (congrArg (fun o : Option Nat => (o.bind (fun c => (U.vm.classes[c]?).map fun (k : Class) => match k.kind with | .array _ ty => decide (ty = FieldType.array .int) && decide (U.vm.findClass ("[" ++ (FieldType.array .int).toString) = some c) | _ => false) == some true)) hi).trans ?_
  simp [hk', hkind, f2]
theorem kv_G.moved {E : EV} {D : va_G} {cA : Nat → ClassId} {u U : State} (h : kv_G E D cA u) (hvm : u.vm.Alike U.vm) (hn : ∀ w ∈ kv_NW, va_Nw w u → va_Nw w U) (hH : ∀ q : Nat, q < u.heap.size → ¬ kv_A E q → U.heap[q]? = u.heap[q]?) : kv_G E D cA U := by
  obtain ⟨h1, h2, h3, h4, h5, h6, h7, h8, h9⟩ := h
  exact ⟨h1.moved hvm, h2.moved hvm, h3.moved hvm, h4.moved hvm, fun w hw => hn w hw (h5 w hw), fun k hk => ((h6 k hk).moved hvm).kept hH, (h7.moved hvm).kept hH, (h8.moved hvm).kept hH, (h9.moved hvm).kept hH⟩
theorem kv_NW_warm {u U : State} (hW : u.WarmedH U.vm) : ∀ w ∈ kv_NW, va_Nw w u → va_Nw w U := by
  intro w hw h
  simp only [kv_NW, List.mem_cons, List.not_mem_nil, or_false] at hw
  rcases hw with rfl | rfl | rfl | rfl | rfl | rfl
  · exact va_Nw.warmM hW h
  · exact va_Nw.warmM hW h
  · exact va_Nw.warmM hW h
  · exact va_Nw.warmM hW h
  · exact va_Nw.warmM hW h
  · exact va_Nw.warmF hW h
theorem kv_NW_same {u U : State} (e : u.vm = U.vm) : ∀ w ∈ kv_NW, va_Nw w u → va_Nw w U := by
  intro w hw h
  simp only [kv_NW, List.mem_cons, List.not_mem_nil, or_false] at hw
  rcases hw with rfl | rfl | rfl | rfl | rfl | rfl <;> exact va_Nw.same rfl e h
/-! contracts and calls -/
def kv_y (X : MT) : List Cond := Cond.code X.2.1 X.2.2.1 X.2.2.2.1 X.2.2.2.2 :: TB
def kv_rm (d mc ms : Nat) : Room := { frames := d, cells := mc, slots := ms, locals := 42 * d }
def kv_Pc (E : EV) (D : va_G) (cA : Nat → ClassId) (vs : List Value) (M : List PE) : Array Value → State → Prop := va_Pc (vs.map (kv_v E)) (fun U => kv_G E D cA U ∧ (E.1 ≤ U.heap.size ∧ U.heap.size ≤ E.1 + M.length) ∧ kv_R E D cA M U.heap)
abbrev kv_po (fin : Option Value → List PE → Prop) (N Z : Nat) (r : Option Value) (M' : List PE) : Prop := fin r M' ∧ M'.length = N ∧ kv_sum M' = Z
abbrev kv_Qi (E : EV) (D : va_G) (cA : Nat → ClassId) (N Z : Nat) (fin : Option Value → List PE → Prop) : Array Value → State → Outcome → State → Prop := va_Qi (fun (r : Int32) (M' : List PE) => kv_po fin N Z (some (.int r)) M') (fun M' t => kv_R E D cA M' t.heap) (kv_A E)
abbrev kv_Qv (E : EV) (D : va_G) (cA : Nat → ClassId) (N Z : Nat) (fin : Option Value → List PE → Prop) : Array Value → State → Outcome → State → Prop := va_Qv (fun (M' : List PE) => kv_po fin N Z none M') (fun M' t => kv_R E D cA M' t.heap) (kv_A E)
theorem kv_blind {E : EV} {D : va_G} {cA : Nat → ClassId} {vs : List Value} {M : List PE} : FrameBlind (kv_Pc E D cA vs M) := by
  intro a U g mk h
  obtain ⟨h1, h2, h3, h4⟩ := h
  exact ⟨h1, h2.moved (Vm.Alike.refl U.vm) (kv_NW_same rfl) (fun _ _ _ => rfl), h3, h4⟩
section PWC
variable {l : Launch} {E : EV} {D : va_G} {cA : Nat → ClassId} {N Z : Nat} {X : MT} {d : Nat} {fin : Option Value → List PE → Prop} {pc : Nat} {ls : List (Option Value)} {st : List Value} {M : List PE}
theorem pw_met_i {ty : FieldType} {vs : List Value} (hX : plainName X.2.1.cls = true) (ht : X.2.2.2.2 = some ty) (hL : (kv_fl vs).length ≤ X.2.2.2.1) (hc : X.2.1.cls = X.1) (hN : M.length ≤ N) (hZ : kv_sum M ≤ Z) (h : PW l E D cA N Z X d fin 0 (kv_en X.2.2.2.1 vs) [] M) :
    Met l X.2.1 (kv_y X) (kv_rm d (N - M.length) (Z - kv_sum M)) (kv_Pc E D cA vs M) (kv_Qi E D cA N Z fin) (N - M.length) (Z - kv_sum M) (kv_A E) := by
  refine Met.ofW (cc := X.2.2.1) (maxL := X.2.2.2.1) (ret := X.2.2.2.2) hX rfl ?_
  intro p e s m args below meth c s₁ B hml hv
  obtain ⟨rfl, hG, hb, hR⟩ := hv
  have hts := atoms_spec (ws := kv_y X) B.pre
  have hown : s.vm.findClass X.2.1.cls = some m.cls := findClass_of_methodNamed B.named
  rw [lg_entry_eq]
  refine h (n0 := M.length) (z0 := kv_sum M) ⟨⟨B.exec, B.bytes, hml, hc ▸ hown, fun w hw => hts w (List.mem_cons_of_mem _ hw), fun hi => (name_of_methodNamed B.named B.method).1.trans hi⟩, hG, hb, Nat.le_refl _, Nat.le_refl _, ?_, ?_, ?_⟩ ⟨hR, va_S.rf, kv_en_L E hL, Nat.zero_add _, Nat.zero_add _⟩
  · show N ≤ M.length + (N - M.length)
    omega
  · show Z ≤ kv_sum M + (Z - kv_sum M)
    omega
  · intro r M' H' locs' cells' slots' pc' la' hf hN' hZ' hR' hS' hc' hz' hret
    obtain rfl : cells' = N - M.length := by omega
    obtain rfl : slots' = Z - kv_sum M := by omega
    match r, hret with
    | none, hret => rw [hret.1] at ht; cases ht
    | some (.int v), hret =>
      obtain ⟨⟨ty', ht', hn⟩, hd⟩ := hret
      exact W.zret (v := v) B.exec B.bytes (B.returns.trans ht') hn (fun t ht hW => ⟨⟨v, M', rfl, ⟨hf, hN', hZ'⟩, show kv_R E D cA M' t.heap by rw [ht]; exact hR'⟩, hS'.F ht⟩) hS'.2.2 hd
theorem pw_met_v {vs : List Value} (hX : plainName X.2.1.cls = true) (ht : X.2.2.2.2 = none) (hL : (kv_fl vs).length ≤ X.2.2.2.1) (hc : X.2.1.cls = X.1) (hN : M.length ≤ N) (hZ : kv_sum M ≤ Z) (h : PW l E D cA N Z X d fin 0 (kv_en X.2.2.2.1 vs) [] M) :
    Met l X.2.1 (kv_y X) (kv_rm d (N - M.length) (Z - kv_sum M)) (kv_Pc E D cA vs M) (kv_Qv E D cA N Z fin) (N - M.length) (Z - kv_sum M) (kv_A E) := by
  refine Met.ofW (cc := X.2.2.1) (maxL := X.2.2.2.1) (ret := X.2.2.2.2) hX rfl ?_
  intro p e s m args below meth c s₁ B hml hv
  obtain ⟨rfl, hG, hb, hR⟩ := hv
  have hts := atoms_spec (ws := kv_y X) B.pre
  have hown : s.vm.findClass X.2.1.cls = some m.cls := findClass_of_methodNamed B.named
  rw [lg_entry_eq]
  refine h (n0 := M.length) (z0 := kv_sum M) ⟨⟨B.exec, B.bytes, hml, hc ▸ hown, fun w hw => hts w (List.mem_cons_of_mem _ hw), fun hi => (name_of_methodNamed B.named B.method).1.trans hi⟩, hG, hb, Nat.le_refl _, Nat.le_refl _, ?_, ?_, ?_⟩ ⟨hR, va_S.rf, kv_en_L E hL, Nat.zero_add _, Nat.zero_add _⟩
  · show N ≤ M.length + (N - M.length)
    omega
  · show Z ≤ kv_sum M + (Z - kv_sum M)
    omega
  · intro r M' H' locs' cells' slots' pc' la' hf hN' hZ' hR' hS' hc' hz' hret
    obtain rfl : cells' = N - M.length := by omega
    obtain rfl : slots' = Z - kv_sum M := by omega
    match r, hret with
    | none, hret =>
      exact W.vret B.exec B.bytes (B.returns.trans hret.1) (fun t ht hW => ⟨⟨M', rfl, ⟨hf, hN', hZ'⟩, show kv_R E D cA M' t.heap by rw [ht]; exact hR'⟩, hS'.F ht⟩) hS'.2.2 hret.2
    | some (.int v), hret =>
      obtain ⟨⟨ty', ht', hn⟩, hd⟩ := hret
      rw [ht'] at ht
      cases ht
/-- a callee that the tables know: its code, its class, how many arguments it takes, its locals -/
def kv_Y (Y : MT) (n : Nat) : Prop := Cond.code Y.2.1 Y.2.2.1 Y.2.2.2.1 Y.2.2.2.2 ∈ TB ∧ Cond.initialized Y.2.1.cls ∈ TB ∧ plainName Y.2.1.cls = true ∧ Y.2.1.cls = Y.1 ∧ Y.2.1.cls ≠ "java/lang/invoke/MethodHandle" ∧ Y.2.1.cls ≠ "java/lang/invoke/VarHandle" ∧ (parseMethodDescriptor Y.2.1.desc).map (fun d => d.parameters.length) = some n ∧ Y.2.2.2.1 ≤ 23
theorem kv_Y.good {Y : MT} {n : Nat} (h : kv_Y Y n) : GoodIn TB (kv_y Y) := by
  intro w hw
  rcases List.mem_cons.mp hw with rfl | hw
  · exact TB_good _ h.1
  · exact TB_good _ hw
variable {p : Program} {e : Env} {R : Room} {s : State} {m : MethodId} {args : Array Value} {below : List Frame} {meth : Method} {c : Code} {Q : State → Prop} {n0 z0 : Nat} {H : Heap} {locs : List Loc} {cells slots : Nat} {la : Array Slot}
theorem kv_B.callB {Y : MT} {idx n mc ms : Nat} (B : kv_B l E D cA N Z X (d + 1) fin p e R s m args below meth c Q n0 z0) (hY : kv_Y Y n) (hl : Cond.methodLink X.1 idx Y.2.1 ∈ TB) :
    CallB R s args X.1 idx Y.2.1 Y.2.2.1 Y.2.2.2.1 Y.2.2.2.2 (kv_y Y) (kv_rm d mc ms) mc ms n :=
  callB_of n B.1.2.2.2.2.1 hY.good rfl rfl rfl (B.1.2.2.2.2.1 _ hY.2.1) (B.1.2.2.2.2.1 _ hl) ⟨hY.2.2.2.2.1, hY.2.2.2.2.2.1, hY.2.2.2.2.2.2.1⟩ ⟨B.2.2.2.1, by have h1 := B.2.2.2.2.1; have h2 := hY.2.2.2.2.2.2.2; show 8 + (Y.2.2.2.1 + 11) + 42 * d ≤ R.locals; omega⟩
theorem kv_B.callN {Y : MT} {idx n mc ms : Nat} {host : String} (B : kv_B l E D cA N Z X (d + 1) fin p e R s m args below meth c Q n0 z0) (hY : kv_Y Y n) (hl : va_Nw (.methodLinkNest X.1 idx Y.2.1 host) s) :
    va_CN R s args X.1 idx Y.2.1 host Y.2.2.1 Y.2.2.2.1 Y.2.2.2.2 (kv_y Y) (kv_rm d mc ms) mc ms n :=
  va_cnB n B.1.2.2.2.2.1 hY.good rfl rfl rfl hl (B.1.2.2.2.2.1 _ hY.2.1) ⟨hY.2.2.2.2.1, hY.2.2.2.2.2.1, hY.2.2.2.2.2.2.1⟩ ⟨B.2.2.2.1, by have h1 := B.2.2.2.2.1; have h2 := hY.2.2.2.2.2.2.2; show 8 + (Y.2.2.2.1 + 11) + 42 * d ≤ R.locals; omega⟩
theorem kv_B.pre {vs : List Value} (B : kv_B l E D cA N Z X d fin p e R s m args below meth c Q n0 z0) (P : kv_P E D cA X s n0 z0 ls M H locs cells slots la) (hsz : H.size ≤ E.1 + M.length) : ∀ U : State, U.heap = H → s.WarmedH U.vm → kv_Pc E D cA vs M (vs.map (kv_v E)).toArray U := by
  intro U hU hW
  refine ⟨rfl, B.2.1.moved hW.alike (kv_NW_warm hW) (fun q h1 h2 => by rw [hU]; exact P.2.1.2.1 q h1 h2), ⟨by rw [hU]; exact Nat.le_trans B.2.2.1.1 P.2.1.1, by rw [hU]; exact hsz⟩, by rw [hU]; exact P.1⟩
/-- the heap is just as large as the pure memory says -/
theorem kv_B.size {T : State} (B : kv_B l E D cA N Z X d fin p e R s m args below meth c Q n0 z0) (P : kv_P E D cA X s n0 z0 ls M H locs cells slots la) (hT : T.heap = H) (S : Stand p l e R s m args below meth c T locs cells slots) : H.size ≤ E.1 + M.length := by
  have h1 := S.heapSize
  have h2 := B.2.2.1.2
  have h3 := P.2.2.2.1
  rw [hT] at h1
  omega
theorem pw_callV {Y : MT} {idx b ci N' Z' : Nat} {fs As st0 : List Value} {q : vw_C} (hd : decode X.2.2.1 pc = .ok (.invokevirtual idx, 3)) (hY : kv_Y Y As.length) (hl : Cond.methodLink X.1 idx Y.2.1 ∈ TB) (hin : Cond.instanceMethod Y.2.1 ∈ TB) (hse : Cond.selects q.1 Y.2.1 Y.2.1 ∈ TB)
    (hst : st0 = As.reverse ++ .ref b :: st) (hM : M[b]? = some (ci, fs)) (hci : ci < 100) (hq : vwCl[ci]? = some q) (hL : (kv_fl (.ref b :: As)).length ≤ Y.2.2.2.1) (hw : (st.map fun v => v.category).sum ≤ 8) (hN : M.length ≤ N' ∧ N' ≤ N) (hZ : kv_sum M ≤ Z' ∧ Z' ≤ Z)
    (kk : PW l E D cA N' Z' Y d (fun r M1 => PW l E D cA N Z X (d + 1) fin (pc + 3) ls (r.toList ++ st) M1) 0 (kv_en Y.2.2.2.1 (.ref b :: As)) [] M) : PW l E D cA N Z X (d + 1) fin pc ls st0 M := by
  intro p e R s m args below meth c Q n0 z0 H locs cells slots la B P
  subst hst
  have hcw : CallW R s args X.1 q.1 idx Y.2.1 Y.2.2.1 Y.2.2.2.1 Y.2.2.2.2 (kv_y Y) (kv_rm d (N' - M.length) (Z' - kv_sum M)) (N' - M.length) (Z' - kv_sum M) As.length := ⟨B.callB hY hl, B.1.2.2.2.2.1 _ hin, B.1.2.2.2.2.1 _ hse⟩
  have hw9 := kv_w_at (E := E) (cA := cA) hM
  rw [kv_c_obj hci] at hw9
  have hcat : (((st.map (kv_v E)).map fun v => v.category).sum) ≤ 8 := by rw [List.map_map, show ((fun v : Value => v.category) ∘ kv_v E) = (fun v => v.category) from funext fun v => kv_cat E v]; exact hw
  have hfix : CallFix p m c X.2.2.1 X.2.2.2.1 s args TB X.1 := ⟨B.1.1, B.1.2.1, B.1.2.2.1, B.1.2.2.2.1, B.1.2.2.2.2.1⟩
  intro T hT S
  have hsz := B.size P hT S
  have hpre : PreV s H q.1 (kv_adr E b) (kv_Pc E D cA (.ref b :: As) M) (As.map (kv_v E)) := ⟨kv_blind, va_recv B.2.1.1 P.1.2 hq hw9, B.pre P hsz⟩
  have hroom : cells + (N' - M.length) ≤ R.cells ∧ slots + (Z' - kv_sum M) ≤ R.slots := by
    have h1 := B.2.2.2.2.2.1
    have h2 := B.2.2.2.2.2.2.1
    have h3 := P.2.2.2.1
    have h4 := P.2.2.2.2
    omega
  have hsta : ((As.reverse ++ .ref b :: st).map (kv_v E)) = (As.map (kv_v E)).reverse ++ .ref (kv_adr E b) :: st.map (kv_v E) := by simp [kv_v]
  rw [hsta]
  have hgo : ∀ (r : Option Value) (M1 : List PE) (H1 : Heap) (locs1 : List Loc), PW l E D cA N Z X (d + 1) fin (pc + 3) ls (r.toList ++ st) M1 → M1.length = N' → kv_sum M1 = Z' → kv_R E D cA M1 H1 → va_S (kv_A E) s.heap H1 locs1 → W p l e R s m args below meth c H1 locs1 (cells + (N' - M.length)) (slots + (Z' - kv_sum M)) Q (F0 m (pc + 3) la ((r.toList ++ st).map (kv_v E))) := by
    intro r M1 H1 locs1 h1 h2 h3 h4 h5
    have g3 := P.2.2.2.1
    have g4 := P.2.2.2.2
    exact h1 B ⟨h4, h5, P.2.2.1, by omega, by omega⟩
  cases ht : Y.2.2.2.2 with
  | none =>
    have hM0 := pw_met_v hY.2.2.1 ht hL hY.2.2.2.1 hN.1 hZ.1 kk
    exact va_callv (va_runV (As := As.map (kv_v E)) (rest := st.map (kv_v E)) hfix hM0 hcw hpre rfl (by rw [List.length_map]) P.2.2.1.1 rfl (by show 2 * 0 + _ ≤ 8; omega) hd hroom) P.2.1 (fun _ _ h => h) (fun _ h => h) (fun M1 t H1 locs1 ht hvm hw hB hz1 hk1 hS => hgo none M1 H1 locs1 hw.1 hw.2.1 hw.2.2 (by rw [← ht]; exact hB) hS) T hT S
  | some ty =>
    have hM0 := pw_met_i hY.2.2.1 ht hL hY.2.2.2.1 hN.1 hZ.1 kk
    exact va_calli (va_runV (As := As.map (kv_v E)) (rest := st.map (kv_v E)) hfix hM0 hcw hpre rfl (by rw [List.length_map]) P.2.2.1.1 rfl (by show 2 * 0 + _ ≤ 8; omega) hd hroom) P.2.1 (fun _ _ h => h) (fun _ h => h) (fun r M1 t H1 locs1 ht hvm hw hB hz1 hk1 hS => hgo (some (.int r)) M1 H1 locs1 hw.1 hw.2.1 hw.2.2 (by rw [← ht]; exact hB) hS) T hT S
theorem pw_callS {Y : MT} {idx N' Z' : Nat} {As st0 : List Value} (hd : decode X.2.2.1 pc = .ok (.invokestatic idx, 3)) (hY : kv_Y Y As.length) (hl : Cond.methodLink X.1 idx Y.2.1 ∈ TB) (hst2 : Cond.static Y.2.1 ∈ TB)
    (hst : st0 = As.reverse ++ st) (hL : (kv_fl As).length ≤ Y.2.2.2.1) (hw : (st.map fun v => v.category).sum ≤ 8) (hN : M.length ≤ N' ∧ N' ≤ N) (hZ : kv_sum M ≤ Z' ∧ Z' ≤ Z)
    (kk : PW l E D cA N' Z' Y d (fun r M1 => PW l E D cA N Z X (d + 1) fin (pc + 3) ls (r.toList ++ st) M1) 0 (kv_en Y.2.2.2.1 As) [] M) : PW l E D cA N Z X (d + 1) fin pc ls st0 M := by
  intro p e R s m args below meth c Q n0 z0 H locs cells slots la B P
  subst hst
  have hcw : CallB R s args X.1 idx Y.2.1 Y.2.2.1 Y.2.2.2.1 Y.2.2.2.2 (kv_y Y) (kv_rm d (N' - M.length) (Z' - kv_sum M)) (N' - M.length) (Z' - kv_sum M) As.length ∧ (Cond.static Y.2.1).before args s = true := ⟨B.callB hY hl, B.1.2.2.2.2.1 _ hst2⟩
  have hcat : (((st.map (kv_v E)).map fun v => v.category).sum) ≤ 8 := by rw [List.map_map, show ((fun v : Value => v.category) ∘ kv_v E) = (fun v => v.category) from funext fun v => kv_cat E v]; exact hw
  have hfix : CallFix p m c X.2.2.1 X.2.2.2.1 s args TB X.1 := ⟨B.1.1, B.1.2.1, B.1.2.2.1, B.1.2.2.2.1, B.1.2.2.2.2.1⟩
  intro T hT S
  have hsz := B.size P hT S
  have hpre : PreS s H (kv_Pc E D cA As M) (As.map (kv_v E)) := ⟨kv_blind, B.pre P hsz⟩
  have hroom : cells + (N' - M.length) ≤ R.cells ∧ slots + (Z' - kv_sum M) ≤ R.slots := by
    have h1 := B.2.2.2.2.2.1
    have h2 := B.2.2.2.2.2.2.1
    have h3 := P.2.2.2.1
    have h4 := P.2.2.2.2
    omega
  have hsta : ((As.reverse ++ st).map (kv_v E)) = (As.map (kv_v E)).reverse ++ st.map (kv_v E) := by simp
  rw [hsta]
  have hgo : ∀ (r : Option Value) (M1 : List PE) (H1 : Heap) (locs1 : List Loc), PW l E D cA N Z X (d + 1) fin (pc + 3) ls (r.toList ++ st) M1 → M1.length = N' → kv_sum M1 = Z' → kv_R E D cA M1 H1 → va_S (kv_A E) s.heap H1 locs1 → W p l e R s m args below meth c H1 locs1 (cells + (N' - M.length)) (slots + (Z' - kv_sum M)) Q (F0 m (pc + 3) la ((r.toList ++ st).map (kv_v E))) := by
    intro r M1 H1 locs1 h1 h2 h3 h4 h5
    have g3 := P.2.2.2.1
    have g4 := P.2.2.2.2
    exact h1 B ⟨h4, h5, P.2.2.1, by omega, by omega⟩
  cases ht : Y.2.2.2.2 with
  | none =>
    have hM0 := pw_met_v hY.2.2.1 ht hL hY.2.2.2.1 hN.1 hZ.1 kk
    exact va_callv (va_runS (As := As.map (kv_v E)) (rest := st.map (kv_v E)) hfix hM0 hcw hpre rfl (by rw [List.length_map]) P.2.2.1.1 rfl (by show 2 * 0 + _ ≤ 8; omega) hd hroom) P.2.1 (fun _ _ h => h) (fun _ h => h) (fun M1 t H1 locs1 ht hvm hw hB hz1 hk1 hS => hgo none M1 H1 locs1 hw.1 hw.2.1 hw.2.2 (by rw [← ht]; exact hB) hS) T hT S
  | some ty =>
    have hM0 := pw_met_i hY.2.2.1 ht hL hY.2.2.2.1 hN.1 hZ.1 kk
    exact va_calli (va_runS (As := As.map (kv_v E)) (rest := st.map (kv_v E)) hfix hM0 hcw hpre rfl (by rw [List.length_map]) P.2.2.1.1 rfl (by show 2 * 0 + _ ≤ 8; omega) hd hroom) P.2.1 (fun _ _ h => h) (fun _ h => h) (fun r M1 t H1 locs1 ht hvm hw hB hz1 hk1 hS => hgo (some (.int r)) M1 H1 locs1 hw.1 hw.2.1 hw.2.2 (by rw [← ht]; exact hB) hS) T hT S
theorem pw_callSN {Y : MT} {idx N' Z' : Nat} {As st0 : List Value} (hd : decode X.2.2.1 pc = .ok (.invokestatic idx, 3)) (hY : kv_Y Y As.length) {host : String} (hl : Cond.methodLinkNest X.1 idx Y.2.1 host ∈ kv_NW) (hst2 : Cond.static Y.2.1 ∈ TB)
    (hst : st0 = As.reverse ++ st) (hL : (kv_fl As).length ≤ Y.2.2.2.1) (hw : (st.map fun v => v.category).sum ≤ 8) (hN : M.length ≤ N' ∧ N' ≤ N) (hZ : kv_sum M ≤ Z' ∧ Z' ≤ Z)
    (kk : PW l E D cA N' Z' Y d (fun r M1 => PW l E D cA N Z X (d + 1) fin (pc + 3) ls (r.toList ++ st) M1) 0 (kv_en Y.2.2.2.1 As) [] M) : PW l E D cA N Z X (d + 1) fin pc ls st0 M := by
  intro p e R s m args below meth c Q n0 z0 H locs cells slots la B P
  subst hst
  have hcw : va_CN R s args X.1 idx Y.2.1 host Y.2.2.1 Y.2.2.2.1 Y.2.2.2.2 (kv_y Y) (kv_rm d (N' - M.length) (Z' - kv_sum M)) (N' - M.length) (Z' - kv_sum M) As.length ∧ (Cond.static Y.2.1).before args s = true ∧ True := ⟨B.callN hY (B.2.1.2.2.2.2.1 _ hl), B.1.2.2.2.2.1 _ hst2, trivial⟩
  have hcat : (((st.map (kv_v E)).map fun v => v.category).sum) ≤ 8 := by rw [List.map_map, show ((fun v : Value => v.category) ∘ kv_v E) = (fun v => v.category) from funext fun v => kv_cat E v]; exact hw
  have hfix : CallFix p m c X.2.2.1 X.2.2.2.1 s args TB X.1 := ⟨B.1.1, B.1.2.1, B.1.2.2.1, B.1.2.2.2.1, B.1.2.2.2.2.1⟩
  intro T hT S
  have hsz := B.size P hT S
  have hpre : PreS s H (kv_Pc E D cA As M) (As.map (kv_v E)) := ⟨kv_blind, B.pre P hsz⟩
  have hroom : cells + (N' - M.length) ≤ R.cells ∧ slots + (Z' - kv_sum M) ≤ R.slots := by
    have h1 := B.2.2.2.2.2.1
    have h2 := B.2.2.2.2.2.2.1
    have h3 := P.2.2.2.1
    have h4 := P.2.2.2.2
    omega
  have hsta : ((As.reverse ++ st).map (kv_v E)) = (As.map (kv_v E)).reverse ++ st.map (kv_v E) := by simp
  rw [hsta]
  have hgo : ∀ (r : Option Value) (M1 : List PE) (H1 : Heap) (locs1 : List Loc), PW l E D cA N Z X (d + 1) fin (pc + 3) ls (r.toList ++ st) M1 → M1.length = N' → kv_sum M1 = Z' → kv_R E D cA M1 H1 → va_S (kv_A E) s.heap H1 locs1 → W p l e R s m args below meth c H1 locs1 (cells + (N' - M.length)) (slots + (Z' - kv_sum M)) Q (F0 m (pc + 3) la ((r.toList ++ st).map (kv_v E))) := by
    intro r M1 H1 locs1 h1 h2 h3 h4 h5
    have g3 := P.2.2.2.1
    have g4 := P.2.2.2.2
    exact h1 B ⟨h4, h5, P.2.2.1, by omega, by omega⟩
  cases ht : Y.2.2.2.2 with
  | none =>
    have hM0 := pw_met_v hY.2.2.1 ht hL hY.2.2.2.1 hN.1 hZ.1 kk
    exact va_callv (va_runSN (As := As.map (kv_v E)) (rest := st.map (kv_v E)) hfix hM0 hcw hpre rfl (by rw [List.length_map]) P.2.2.1.1 rfl (by show 2 * 0 + _ ≤ 8; omega) hd hroom) P.2.1 (fun _ _ h => h) (fun _ h => h) (fun M1 t H1 locs1 ht hvm hw hB hz1 hk1 hS => hgo none M1 H1 locs1 hw.1 hw.2.1 hw.2.2 (by rw [← ht]; exact hB) hS) T hT S
  | some ty =>
    have hM0 := pw_met_i hY.2.2.1 ht hL hY.2.2.2.1 hN.1 hZ.1 kk
    exact va_calli (va_runSN (As := As.map (kv_v E)) (rest := st.map (kv_v E)) hfix hM0 hcw hpre rfl (by rw [List.length_map]) P.2.2.1.1 rfl (by show 2 * 0 + _ ≤ 8; omega) hd hroom) P.2.1 (fun _ _ h => h) (fun _ h => h) (fun r M1 t H1 locs1 ht hvm hw hB hz1 hk1 hS => hgo (some (.int r)) M1 H1 locs1 hw.1 hw.2.1 hw.2.2 (by rw [← ht]; exact hB) hS) T hT S
theorem pw_callI {Y : MT} {idx b N' Z' : Nat} {As st0 : List Value} (hd : decode X.2.2.1 pc = .ok (.invokespecial idx, 3)) (hY : kv_Y Y As.length) (ht : Y.2.2.2.2 = none) (hy : Y.2.1.name = "<init>") (hl : Cond.methodLink X.1 idx Y.2.1 ∈ TB) (hin : Cond.instanceMethod Y.2.1 ∈ TB)
    (hst : st0 = As.reverse ++ .ref b :: st) (hL : (kv_fl (.ref b :: As)).length ≤ Y.2.2.2.1) (hw : (st.map fun v => v.category).sum ≤ 8) (hN : M.length ≤ N' ∧ N' ≤ N) (hZ : kv_sum M ≤ Z' ∧ Z' ≤ Z)
    (kk : PW l E D cA N' Z' Y d (fun r M1 => PW l E D cA N Z X (d + 1) fin (pc + 3) ls (r.toList ++ st) M1) 0 (kv_en Y.2.2.2.1 (.ref b :: As)) [] M) : PW l E D cA N Z X (d + 1) fin pc ls st0 M := by
  intro p e R s m args below meth c Q n0 z0 H locs cells slots la B P
  subst hst
  have hcw : CallB R s args X.1 idx Y.2.1 Y.2.2.1 Y.2.2.2.1 none (kv_y Y) (kv_rm d (N' - M.length) (Z' - kv_sum M)) (N' - M.length) (Z' - kv_sum M) As.length ∧ Y.2.1.name = "<init>" ∧ (Cond.instanceMethod Y.2.1).before args s = true := ⟨ht ▸ B.callB hY hl, hy, B.1.2.2.2.2.1 _ hin⟩
  have hcat : (((st.map (kv_v E)).map fun v => v.category).sum) ≤ 8 := by rw [List.map_map, show ((fun v : Value => v.category) ∘ kv_v E) = (fun v => v.category) from funext fun v => kv_cat E v]; exact hw
  have hfix : CallFix p m c X.2.2.1 X.2.2.2.1 s args TB X.1 := ⟨B.1.1, B.1.2.1, B.1.2.2.1, B.1.2.2.2.1, B.1.2.2.2.2.1⟩
  intro T hT S
  have hsz := B.size P hT S
  have hpre : PreS s H (kv_Pc E D cA (.ref b :: As) M) (.ref (kv_adr E b) :: As.map (kv_v E)) := ⟨kv_blind, B.pre (vs := .ref b :: As) P hsz⟩
  have hroom : cells + (N' - M.length) ≤ R.cells ∧ slots + (Z' - kv_sum M) ≤ R.slots := by
    have h1 := B.2.2.2.2.2.1
    have h2 := B.2.2.2.2.2.2.1
    have h3 := P.2.2.2.1
    have h4 := P.2.2.2.2
    omega
  have hsta : ((As.reverse ++ .ref b :: st).map (kv_v E)) = (As.map (kv_v E)).reverse ++ .ref (kv_adr E b) :: st.map (kv_v E) := by simp [kv_v]
  rw [hsta]
  have hgo : ∀ (r : Option Value) (M1 : List PE) (H1 : Heap) (locs1 : List Loc), PW l E D cA N Z X (d + 1) fin (pc + 3) ls (r.toList ++ st) M1 → M1.length = N' → kv_sum M1 = Z' → kv_R E D cA M1 H1 → va_S (kv_A E) s.heap H1 locs1 → W p l e R s m args below meth c H1 locs1 (cells + (N' - M.length)) (slots + (Z' - kv_sum M)) Q (F0 m (pc + 3) la ((r.toList ++ st).map (kv_v E))) := by
    intro r M1 H1 locs1 h1 h2 h3 h4 h5
    have g3 := P.2.2.2.1
    have g4 := P.2.2.2.2
    exact h1 B ⟨h4, h5, P.2.2.1, by omega, by omega⟩
  have hM0 := pw_met_v hY.2.2.1 ht hL hY.2.2.2.1 hN.1 hZ.1 kk
  exact va_callv (va_runI (As := As.map (kv_v E)) (rest := st.map (kv_v E)) hfix hM0 hcw hpre rfl (by rw [List.length_map]) P.2.2.1.1 rfl (by show 2 * 0 + _ ≤ 8; omega) hd hroom) P.2.1 (fun _ _ h => h) (fun _ h => h) (fun M1 t H1 locs1 ht hvm hw hB hz1 hk1 hS => hgo none M1 H1 locs1 hw.1 hw.2.1 hw.2.2 (by rw [← ht]; exact hB) hS) T hT S
theorem pw_callIN {Y : MT} {idx b N' Z' : Nat} {As st0 : List Value} (hd : decode X.2.2.1 pc = .ok (.invokespecial idx, 3)) (hY : kv_Y Y As.length) (ht : Y.2.2.2.2 = none) (hy : Y.2.1.name = "<init>") {host : String} (hl : Cond.methodLinkNest X.1 idx Y.2.1 host ∈ kv_NW) (hin : Cond.instanceMethod Y.2.1 ∈ TB)
    (hst : st0 = As.reverse ++ .ref b :: st) (hL : (kv_fl (.ref b :: As)).length ≤ Y.2.2.2.1) (hw : (st.map fun v => v.category).sum ≤ 8) (hN : M.length ≤ N' ∧ N' ≤ N) (hZ : kv_sum M ≤ Z' ∧ Z' ≤ Z)
    (kk : PW l E D cA N' Z' Y d (fun r M1 => PW l E D cA N Z X (d + 1) fin (pc + 3) ls (r.toList ++ st) M1) 0 (kv_en Y.2.2.2.1 (.ref b :: As)) [] M) : PW l E D cA N Z X (d + 1) fin pc ls st0 M := by
  intro p e R s m args below meth c Q n0 z0 H locs cells slots la B P
  subst hst
  have hcw : va_CN R s args X.1 idx Y.2.1 host Y.2.2.1 Y.2.2.2.1 none (kv_y Y) (kv_rm d (N' - M.length) (Z' - kv_sum M)) (N' - M.length) (Z' - kv_sum M) As.length ∧ Y.2.1.name = "<init>" ∧ (Cond.instanceMethod Y.2.1).before args s = true := ⟨ht ▸ B.callN hY (B.2.1.2.2.2.2.1 _ hl), hy, B.1.2.2.2.2.1 _ hin⟩
  have hcat : (((st.map (kv_v E)).map fun v => v.category).sum) ≤ 8 := by rw [List.map_map, show ((fun v : Value => v.category) ∘ kv_v E) = (fun v => v.category) from funext fun v => kv_cat E v]; exact hw
  have hfix : CallFix p m c X.2.2.1 X.2.2.2.1 s args TB X.1 := ⟨B.1.1, B.1.2.1, B.1.2.2.1, B.1.2.2.2.1, B.1.2.2.2.2.1⟩
  intro T hT S
  have hsz := B.size P hT S
  have hpre : PreS s H (kv_Pc E D cA (.ref b :: As) M) (.ref (kv_adr E b) :: As.map (kv_v E)) := ⟨kv_blind, B.pre (vs := .ref b :: As) P hsz⟩
  have hroom : cells + (N' - M.length) ≤ R.cells ∧ slots + (Z' - kv_sum M) ≤ R.slots := by
    have h1 := B.2.2.2.2.2.1
    have h2 := B.2.2.2.2.2.2.1
    have h3 := P.2.2.2.1
    have h4 := P.2.2.2.2
    omega
  have hsta : ((As.reverse ++ .ref b :: st).map (kv_v E)) = (As.map (kv_v E)).reverse ++ .ref (kv_adr E b) :: st.map (kv_v E) := by simp [kv_v]
  rw [hsta]
  have hgo : ∀ (r : Option Value) (M1 : List PE) (H1 : Heap) (locs1 : List Loc), PW l E D cA N Z X (d + 1) fin (pc + 3) ls (r.toList ++ st) M1 → M1.length = N' → kv_sum M1 = Z' → kv_R E D cA M1 H1 → va_S (kv_A E) s.heap H1 locs1 → W p l e R s m args below meth c H1 locs1 (cells + (N' - M.length)) (slots + (Z' - kv_sum M)) Q (F0 m (pc + 3) la ((r.toList ++ st).map (kv_v E))) := by
    intro r M1 H1 locs1 h1 h2 h3 h4 h5
    have g3 := P.2.2.2.1
    have g4 := P.2.2.2.2
    exact h1 B ⟨h4, h5, P.2.2.1, by omega, by omega⟩
  have hM0 := pw_met_v hY.2.2.1 ht hL hY.2.2.2.1 hN.1 hZ.1 kk
  exact va_callv (va_runIN (As := As.map (kv_v E)) (rest := st.map (kv_v E)) hfix hM0 hcw hpre rfl (by rw [List.length_map]) P.2.2.1.1 rfl (by show 2 * 0 + _ ≤ 8; omega) hd hroom) P.2.1 (fun _ _ h => h) (fun _ h => h) (fun M1 t H1 locs1 ht hvm hw hB hz1 hk1 hS => hgo none M1 H1 locs1 hw.1 hw.2.1 hw.2.2 (by rw [← ht]; exact hB) hS) T hT S
theorem pw_objInit {idx i : Nat} (hd : decode X.2.2.1 pc = .ok (.invokespecial idx, 3)) (hl : Cond.methodLink X.1 idx objectInit ∈ TB) (h1 : Cond.instanceMethod objectInit ∈ TB) (h2 : Cond.code objectInit ⟨#[0xb1]⟩ 1 none ∈ TB) (hw : (st.map fun v => v.category).sum ≤ 8) (kk : PW l E D cA N Z X (d + 1) fin (pc + 3) ls st M) : PW l E D cA N Z X (d + 1) fin pc ls (.ref i :: st) M := by
  intro p e R s m args below meth c Q n0 z0 H locs cells slots la B P
  have hcat : (((st.map (kv_v E)).map fun v => v.category).sum) ≤ 8 := by rw [List.map_map, show ((fun v : Value => v.category) ∘ kv_v E) = (fun v => v.category) from funext fun v => kv_cat E v]; exact hw
  have hr1 := B.2.2.2.1
  have hr2 := B.2.2.2.2.1
  exact W.objInit B.1.1 B.1.2.1 B.1.2.2.2.1 (B.1.2.2.2.2.1 _ hl) (B.1.2.2.2.2.1 _ h1) (B.1.2.2.2.2.1 _ h2) rfl (P.2.2.1.1.trans B.1.2.2.1.symm) rfl hd (by omega) (by show 2 * 0 + _ + 12 ≤ _; omega) (kk B P)
end PWC
