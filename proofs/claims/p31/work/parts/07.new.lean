/-! what is made: cells at the end of the memory -/
def kv_new (own : String) (idx ci : Nat) (fs : List Value) : Prop := ∃ (C : String) (T : u_T) (N : Nat) (ty : Nat → FieldType), vwCl[ci]? = some (C, T, N) ∧ ci < 100 ∧ Cond.classLink own idx C ∈ TB ∧ Cond.instantiable C N ∈ TB ∧ Cond.initialized C ∈ TB ∧ (∀ w ∈ u_ws C T N, w ∈ TB) ∧ (∀ k, k < N → parseFieldDescriptor (T k).2.2.1 = some (ty k)) ∧ (∀ j, j < N → defaultValue (ty j) = vp_V fs j) ∧ fs.length = N ∧ (∀ v ∈ fs, ∀ i, v ≠ .ref i)
section PWN
variable {l : Launch} {E : EV} {D : va_G} {cA : Nat → ClassId} {N Z : Nat} {X : MT} {d : Nat} {fin : Option Value → List PE → Prop} {pc : Nat} {ls : List (Option Value)} {st : List Value} {M : List PE}
theorem kv_noref {fs : List Value} (h : ∀ v ∈ fs, ∀ i, v ≠ .ref i) : fs.map (kv_v E) = fs := by
  induction fs with
  | nil => rfl
  | cons a fs ih =>
    rw [List.map_cons, ih (fun v hv => h v (List.mem_cons_of_mem _ hv))]
    congr 1
    have := h a List.mem_cons_self
    cases a <;> first | rfl | exact absurd rfl (this _)
theorem kv_fresh {q : Nat} {x : va_E} {H1 : Heap} (hlen : M.length < 1000) (hP : va_P D vwCl (kv_w E cA M ++ [(q, x)]) H1) (hD : va_D (kv_A E) (kv_w E cA M ++ [(q, x)])) (hs : H1.size ≤ E.1 + (M.length + 1)) : q = kv_adr E M.length := by
  have hl : (kv_w E cA M).length = M.length := by unfold kv_w; simp
  have hq : (kv_w E cA M ++ [(q, x)])[M.length]? = some (q, x) := by rw [List.getElem?_append_right (by omega), hl, Nat.sub_self]; rfl
  have h1 : E.1 ≤ q := hD.2 _ _ hq
  have h2 : q < H1.size := (hP _ _ hq).lt
  have h3 : ¬ q < E.1 + M.length := by
    intro h
    obtain ⟨j, hj⟩ : ∃ j, q = E.1 + j := ⟨q - E.1, by omega⟩
    have hjl : j < M.length := by omega
    have hg : (kv_w E cA M ++ [(q, x)])[j]? = some (kv_adr E j, kv_c E cA M[j]) := by
      rw [List.getElem?_append_left (by omega)]
      exact kv_w_at (List.getElem?_eq_getElem hjl)
    have he : kv_adr E j = q := by
      unfold kv_adr
      rw [if_pos (by omega), hj]
    have := hD.1 j M.length _ _ hg hq he
    omega
  unfold kv_adr
  rw [if_pos hlen]
  omega
theorem kv_size1 {p : Program} {e : Env} {R : Room} {s : State} {m : MethodId} {args : Array Value} {below : List Frame} {meth : Method} {c : Code} {Q : State → Prop} {n0 z0 : Nat} {H : Heap} {locs : List Loc} {cells slots k sl : Nat} {la : Array Slot} {T : State} {locs1 : List Loc}
    (B : kv_B l E D cA N Z X d fin p e R s m args below meth c Q n0 z0) (P : kv_P E D cA X s n0 z0 ls M H locs cells slots la) (S : Stand p l e R s m args below meth c T locs1 (cells + k) sl) : T.heap.size ≤ E.1 + (M.length + k) := by
  have h1 := S.heapSize
  have h2 := B.2.2.1.2
  have h3 := P.2.2.2.1
  omega
theorem pw_new {idx ci : Nat} {fs : List Value} (hd : decode X.2.2.1 pc = .ok (.new idx, 3)) (hn : kv_new X.1 idx ci fs) (hlen : M.length < 1000) (hN : M.length < N) (hZ : kv_sum M + fs.length ≤ Z) (kk : PW l E D cA N Z X d fin (pc + 3) ls (.ref M.length :: st) (M ++ [(ci, fs)])) : PW l E D cA N Z X d fin pc ls st M := by
  intro p e R s m args below meth c Q n0 z0 H locs cells slots la B P
  obtain ⟨C, T, n, ty, hc, hci, hcl, hins, hini, hin, hty, hfs, hfl, hnr⟩ := hn
  have hr1 := B.2.2.2.2.2.1
  have hr2 := B.2.2.2.2.2.2.1
  have hp1 := P.2.2.2.1
  have hp2 := P.2.2.2.2
  have hb := B.2.2.1.1
  refine va_new B.1.1 B.1.2.1 B.1.2.2.2.2.1 hin ty hty B.1.2.2.2.1 (B.1.2.2.2.2.1 _ hcl) (B.1.2.2.2.2.1 _ hins) (B.1.2.2.2.2.1 _ hini) B.2.1.1 P.1.2 P.1.apart P.2.1 (fun q h => Nat.le_trans hb h) hc hfs (by omega) (by omega) hd (fun q H1 hP hD hS => ?_)
  intro T1 hT1 S1
  have hq := kv_fresh hlen hP hD (by rw [← hT1]; exact kv_size1 B P S1)
  subst hq
  refine kk B ⟨⟨by simp; omega, ?_⟩, hS, P.2.2.1, by simp; omega, by rw [kv_sum_app]; show slots + n + z0 = kv_sum M + fs.length; omega⟩ T1 hT1 S1
  rw [kv_w_app, kv_c_obj hci, kv_noref hnr]
  exact hP
theorem kv_z (n : Nat) : (fun j : Nat => kv_io (List.replicate n (Value.int 0))[j]?) = fun _ => (0 : Int32) := by
  funext j
  rw [List.getElem?_replicate]
  split <;> rfl
theorem kv_zr (n : Nat) : (fun j : Nat => kv_ro E (List.replicate n Value.null)[j]?) = fun _ => none := by
  funext j
  rw [List.getElem?_replicate]
  split <;> rfl
theorem pw_newarray {at9 : ArrayType} {t : Nat} {n : Int32} (hd : decode X.2.2.1 pc = .ok (.newarray at9, 2)) (ht : (t, at9) ∈ [(0, ArrayType.int), (1, ArrayType.char), (2, ArrayType.boolean)]) (hw : Cond.arrayClass (newarray.typeOf at9) ∈ TB) (h0 : ¬ n < 0) (hsm : n.toNatClampNeg ≤ 1000) (hlen : M.length < 1000) (hN : M.length < N) (hZ : kv_sum M + n.toNatClampNeg ≤ Z)
    (kk : PW l E D cA N Z X d fin (pc + 2) ls (.ref M.length :: st) (M ++ [(100 + t, List.replicate n.toNatClampNeg (.int 0))])) : PW l E D cA N Z X d fin pc ls (.int n :: st) M := by
  intro p e R s m args below meth c Q n0 z0 H locs cells slots la B P
  have hr1 := B.2.2.2.2.2.1
  have hr2 := B.2.2.2.2.2.2.1
  have hp1 := P.2.2.2.1
  have hp2 := P.2.2.2.2
  have hb := B.2.2.1.1
  have ht3 : t < 3 ∧ ∃ ty, newarray.typeOf at9 = ty ∧ (kv_tys cA)[t]? = some (cA t, ty) ∧ defaultValue ty = .int 0 ∧ componentBytes ty ≤ 4 ∧ (∀ c1 c2 : ClassId, va_RA s c1 ty → va_RA s c2 ty → c1 = c2) := by
    simp only [List.mem_cons, Prod.mk.injEq, List.not_mem_nil, or_false] at ht
    rcases ht with ⟨rfl, rfl⟩ | ⟨rfl, rfl⟩ | ⟨rfl, rfl⟩
    · exact ⟨by decide, _, rfl, rfl, rfl, by decide, fun c1 c2 h1 h2 => Option.some.inj (Eq.trans (Eq.symm h1) h2)⟩
    · exact ⟨by decide, _, rfl, rfl, rfl, by decide, fun c1 c2 h1 h2 => Option.some.inj (Eq.trans (Eq.symm h1) h2)⟩
    · exact ⟨by decide, _, rfl, rfl, rfl, by decide, fun c1 c2 h1 h2 => Option.some.inj (Eq.trans (Eq.symm h1) h2)⟩
  obtain ⟨ht3, ty, hty, htt, hdv, hcb, hra⟩ := ht3
  have hbytes : n.toNatClampNeg * componentBytes ty ≤ 536870912 := Nat.le_trans (Nat.mul_le_mul hsm hcb) (by decide)
  refine va_newa (atype := at9) B.1.1 B.1.2.1 (B.1.2.2.2.2.1 _ hw) hty B.2.1.1 P.1.2 P.1.apart P.2.1 (fun q h => Nat.le_trans hb h) (a0 := (n.toNatClampNeg, .inl (fun _ => 0))) (fun c1 => by rw [vp_cell_i, hdv]) h0 rfl hbytes (by omega) (by omega) hd (fun q c9 H1 hK hP hD hS => ?_)
  intro T1 hT1 S1
  have hq := kv_fresh hlen hP hD (by rw [← hT1]; exact kv_size1 B P S1)
  subst hq
  have hc9 : c9 = cA t := hra _ _ (hK.2 6 (c9, ty) rfl).2 (B.2.1.1.2 t _ htt).2
  subst hc9
  refine kk B ⟨⟨by simp; omega, ?_⟩, hS, P.2.2.1, by simp; omega, by rw [kv_sum_app]; simp; omega⟩ T1 hT1 S1
  rw [kv_w_app, kv_c_int ht3, kv_z, List.length_replicate]
  exact hP
theorem pw_anewarray {idx t : Nat} {C : String} {n : Int32} (hd : decode X.2.2.1 pc = .ok (.anewarray idx, 3)) (ht : (t, C) ∈ [(4, RX3), (5, RX4)]) (hw : Cond.classLink X.1 idx C ∈ TB) (h0 : ¬ n < 0) (hsm : n.toNatClampNeg ≤ 1000) (hlen : M.length < 1000) (hN : M.length < N) (hZ : kv_sum M + n.toNatClampNeg ≤ Z)
    (kk : PW l E D cA N Z X d fin (pc + 3) ls (.ref M.length :: st) (M ++ [(100 + t, List.replicate n.toNatClampNeg .null)])) : PW l E D cA N Z X d fin pc ls (.int n :: st) M := by
  intro p e R s m args below meth c Q n0 z0 H locs cells slots la B P
  have hr1 := B.2.2.2.2.2.1
  have hr2 := B.2.2.2.2.2.2.1
  have hp1 := P.2.2.2.1
  have hp2 := P.2.2.2.2
  have hb := B.2.2.1.1
  have ht3 : 3 ≤ t ∧ (kv_tys cA)[t]? = some (cA t, .object C) ∧ va_AO C s := by
    simp only [List.mem_cons, Prod.mk.injEq, List.not_mem_nil, or_false] at ht
    rcases ht with ⟨rfl, rfl⟩ | ⟨rfl, rfl⟩
    · exact ⟨by decide, rfl, B.2.1.2.1⟩
    · exact ⟨by decide, rfl, B.2.1.2.2.1⟩
  obtain ⟨ht3, htt, hao⟩ := ht3
  refine va_newq B.1.1 B.1.2.1 B.1.2.2.2.1 (B.1.2.2.2.2.1 _ hw) hao B.2.1.1 P.1.2 P.1.apart P.2.1 (fun q h => Nat.le_trans hb h) h0 rfl (Nat.le_trans (Nat.mul_le_mul_right 4 hsm) (by decide)) (by omega) (by omega) hd (fun q c9 H1 hK hP hD hS => ?_)
  intro T1 hT1 S1
  have hq := kv_fresh hlen hP hD (by rw [← hT1]; exact kv_size1 B P S1)
  subst hq
  have hc9 : c9 = cA t := by
    obtain ⟨-, -, -, -, -, h1⟩ := (hK.2 6 (c9, .object C) rfl).2
    obtain ⟨-, -, -, -, -, h2⟩ := (B.2.1.1.2 t _ htt).2
    exact Option.some.inj (h1.symm.trans h2)
  subst hc9
  refine kk B ⟨⟨by simp; omega, ?_⟩, hS, P.2.2.1, by simp; omega, by rw [kv_sum_app]; simp; omega⟩ T1 hT1 S1
  rw [kv_w_app, kv_c_ref ht3, kv_zr, List.length_replicate]
  exact hP
/-! System.arraycopy of whole rows of ints -/
theorem kv_nfw : nativeFrameWords "java/lang/System" "arraycopy" 5 ≤ 17 := by decide
theorem pw_copy {idx i j : Nat} {n : Int32} {xs ys : List Value} (hd : decode X.2.2.1 pc = .ok (.invokestatic idx, 3)) (hl : Cond.methodLink X.1 idx arraycopyName ∈ TB) (h1 : Cond.native arraycopyName ∈ TB) (h2 : Cond.static arraycopyName ∈ TB) (h3 : Cond.initialized "java/lang/System" ∈ TB)
    (hM : M[i]? = some (100, xs)) (hM2 : M[j]? = some (100, ys)) (h0 : ¬ n < 0) (hx : n.toNatClampNeg = xs.length) (hy : n.toNatClampNeg = ys.length) (hw : (st.map fun v => v.category).sum ≤ 8) (kk : PW l E D cA N Z X (d + 1) fin (pc + 3) ls st (M.set j (100, xs))) : PW l E D cA N Z X (d + 1) fin pc ls (.int n :: .int 0 :: .ref j :: .int 0 :: .ref i :: st) M := by
  intro p e R s m args below meth c Q n0 z0 H locs cells slots la B P
  have hcat : (((st.map (kv_v E)).map fun v => v.category).sum) ≤ 8 := by rw [List.map_map, show ((fun v : Value => v.category) ∘ kv_v E) = (fun v => v.category) from funext fun v => kv_cat E v]; exact hw
  have hr1 := B.2.2.2.1
  have hr2 := B.2.2.2.2.1
  have hnf := kv_nfw
  have hw1 := kv_w_at (E := E) (cA := cA) hM
  have hw2 := kv_w_at (E := E) (cA := cA) hM2
  rw [show (100 : Nat) = 100 + 0 from rfl, kv_c_int (by decide)] at hw1 hw2
  refine va_copyi B.1.1 B.1.2.1 (B.1.2.2.1.trans P.2.2.1.1.symm) B.1.2.2.2.1 (B.1.2.2.2.2.1 _ hl) (B.1.2.2.2.2.1 _ h1) (B.1.2.2.2.2.1 _ h2) (B.1.2.2.2.2.1 _ h3) B.2.1.1 P.1.2 P.1.apart P.2.1 i j 0 0 hw1 hw2 rfl rfl rfl (by decide) (by decide) h0 (by rw [hx]; show 0 + _ ≤ _; omega) (by rw [hy]; show 0 + _ ≤ _; omega) (fun _ _ => rfl) (by omega) (by omega) hd (fun H1 locs1 hP _ hS => kk B (P.set (e1 := (100, xs)) hM2 (by show xs.length = ys.length; omega) ?_ hS))
  rw [show (100 : Nat) = 100 + 0 from rfl, kv_c_int (by decide)]
  have e : va_cpy (fun k => kv_io xs[k]?) (fun k => kv_io ys[k]?) (0 : Int32).toNatClampNeg (0 : Int32).toNatClampNeg n.toNatClampNeg = fun k => kv_io xs[k]? := by
    funext k
    show (if 0 ≤ k ∧ k < 0 + n.toNatClampNeg then kv_io xs[0 + (k - 0)]? else kv_io ys[k]?) = _
    by_cases hk : k < n.toNatClampNeg
    · rw [if_pos ⟨Nat.zero_le _, by omega⟩, Nat.zero_add, Nat.sub_zero]
    · rw [if_neg (by omega), List.getElem?_eq_none (by omega), List.getElem?_eq_none (by omega)]
  rw [e, show ys.length = xs.length by omega] at hP
  exact hP
end PWN
