/-! THE WALK: what the kit's W says, told of pure states -/
def kv_R (E : EV) (D : va_G) (cA : Nat → ClassId) (M : List PE) (H : Heap) : Prop := M.length ≤ 1000 ∧ va_P D vwCl (kv_w E cA M) H
theorem kv_R.apart {E : EV} {D : va_G} {cA : Nat → ClassId} {M : List PE} {H : Heap} (h : kv_R E D cA M H) : va_D (kv_A E) (kv_w E cA M) := by
  have key : ∀ (k : Nat) (q : Nat × va_E), (kv_w E cA M)[k]? = some q → q.1 = E.1 + k := by
    intro k q hk
    rw [kv_w_get] at hk
    cases hm : M[k]? with
    | none => rw [hm] at hk; cases hk
    | some e =>
      rw [hm] at hk
      cases hk
      have hl := (List.getElem?_eq_some_iff.mp hm).1
      show kv_adr E k = _
      unfold kv_adr
      rw [if_pos (by have := h.1; omega)]
  refine ⟨fun i j p q hi hj e => ?_, fun k q hk => ?_⟩
  · rw [key i p hi, key j q hj] at e
    omega
  · show E.1 ≤ q.1
    rw [key k q hk]
    omega
def kv_ret (X : MT) (pc : Nat) (r : Option Value) : Prop := match r with
  | none => X.2.2.2.2 = none ∧ decode X.2.2.1 pc = .ok (.return_, 1)
  | some (.int v) => (∃ ty, X.2.2.2.2 = some ty ∧ narrow ty (.int v) = .int v) ∧ decode X.2.2.1 pc = .ok (.ireturn, 1)
  | _ => False
/-- the method that runs: its code, its class, its tables, its room; what its return owes -/
def kv_B (l : Launch) (E : EV) (D : va_G) (cA : Nat → ClassId) (N Z : Nat) (X : MT) (d : Nat) (fin : Option Value → List PE → Prop)
    (p : Program) (e : Env) (R : Room) (s : State) (m : MethodId) (args : Array Value) (below : List Frame) (meth : Method) (c : Code) (Q : State → Prop) (n0 z0 : Nat) : Prop :=
  (p.tables.exec = Jvm.exec ∧ c.code = X.2.2.1 ∧ c.maxLocals = X.2.2.2.1 ∧ s.vm.findClass X.1 = some m.cls ∧ (∀ w ∈ TB, w.before args s = true) ∧ (X.2.1.name = "<init>" → meth.name = "<init>")) ∧
  kv_G E D cA s ∧ (E.1 ≤ s.heap.size ∧ s.heap.size ≤ E.1 + n0) ∧ d ≤ R.frames ∧ 42 * d ≤ R.locals ∧ N ≤ n0 + R.cells ∧ Z ≤ z0 + R.slots ∧
  (∀ (r : Option Value) (M' : List PE) (H' : Heap) (locs' : List Loc) (cells' slots' pc' : Nat) (la' : Array Slot), fin r M' → M'.length = N → kv_sum M' = Z → kv_R E D cA M' H' → va_S (kv_A E) s.heap H' locs' → cells' + n0 = M'.length → slots' + z0 = kv_sum M' → kv_ret X pc' r →
    W p l e R s m args below meth c H' locs' cells' slots' Q (F0 m pc' la' (r.toList.map (kv_v E))))
def kv_P (E : EV) (D : va_G) (cA : Nat → ClassId) (X : MT) (s : State) (n0 z0 : Nat) (ls : List (Option Value)) (M : List PE) (H : Heap) (locs : List Loc) (cells slots : Nat) (la : Array Slot) : Prop :=
  kv_R E D cA M H ∧ va_S (kv_A E) s.heap H locs ∧ kv_L E X.2.2.2.1 la ls ∧ cells + n0 = M.length ∧ slots + z0 = kv_sum M
def PW (l : Launch) (E : EV) (D : va_G) (cA : Nat → ClassId) (N Z : Nat) (X : MT) (d : Nat) (fin : Option Value → List PE → Prop) (pc : Nat) (ls : List (Option Value)) (st : List Value) (M : List PE) : Prop :=
  ∀ ⦃p : Program⦄ ⦃e : Env⦄ ⦃R : Room⦄ ⦃s : State⦄ ⦃m : MethodId⦄ ⦃args : Array Value⦄ ⦃below : List Frame⦄ ⦃meth : Method⦄ ⦃c : Code⦄ ⦃Q : State → Prop⦄ ⦃n0 z0 : Nat⦄ ⦃H : Heap⦄ ⦃locs : List Loc⦄ ⦃cells slots : Nat⦄ ⦃la : Array Slot⦄,
    kv_B l E D cA N Z X d fin p e R s m args below meth c Q n0 z0 → kv_P E D cA X s n0 z0 ls M H locs cells slots la → W p l e R s m args below meth c H locs cells slots Q (F0 m pc la (st.map (kv_v E)))
section PWR
variable {l : Launch} {E : EV} {D : va_G} {cA : Nat → ClassId} {N Z : Nat} {X : MT} {d : Nat} {fin : Option Value → List PE → Prop} {pc : Nat} {ls : List (Option Value)} {st : List Value} {M : List PE}
theorem pw_ret {r : Option Value} (hr : kv_ret X pc r) (hf : fin r M) (hN : M.length = N) (hZ : kv_sum M = Z) : PW l E D cA N Z X d fin pc ls r.toList M :=
  fun _ _ _ _ _ _ _ _ _ _ _ _ _ _ _ _ _ B P => B.2.2.2.2.2.2.2 r M _ _ _ _ _ _ hf hN hZ P.1 P.2.1 P.2.2.2.1 P.2.2.2.2 hr
theorem pw_ireturn {v : Int32} {ty : FieldType} (hd : decode X.2.2.1 pc = .ok (.ireturn, 1)) (ht : X.2.2.2.2 = some ty) (hn : narrow ty (.int v) = .int v) (hN : M.length = N) (hZ : kv_sum M = Z) (hf : fin (some (.int v)) M) : PW l E D cA N Z X d fin pc ls [.int v] M :=
  pw_ret (r := some (.int v)) ⟨⟨ty, ht, hn⟩, hd⟩ hf hN hZ
theorem pw_return (hd : decode X.2.2.1 pc = .ok (.return_, 1)) (ht : X.2.2.2.2 = none) (hN : M.length = N) (hZ : kv_sum M = Z) (hf : fin none M) : PW l E D cA N Z X d fin pc ls [] M :=
  pw_ret (r := none) ⟨ht, hd⟩ hf hN hZ
theorem pw_iload_n {k : Fin 4} {x : Int32} (hd : decode X.2.2.1 pc = .ok (.iload_n k, 1)) (hl : ls[(k : Nat)]? = some (some (.int x))) (kk : PW l E D cA N Z X d fin (pc + 1) ls (.int x :: st) M) : PW l E D cA N Z X d fin pc ls (st) M :=
  fun _ _ _ _ _ _ _ _ _ _ _ _ _ _ _ _ _ B P => lv_iload_n B.1.1 B.1.2.1 hd rfl (P.2.2.1.2.2.2 _ _ hl) (kk B P)
theorem pw_iload {i : Nat} {x : Int32} (hd : decode X.2.2.1 pc = .ok (.iload i, 2)) (hl : ls[i]? = some (some (.int x))) (kk : PW l E D cA N Z X d fin (pc + 2) ls (.int x :: st) M) : PW l E D cA N Z X d fin pc ls (st) M :=
  fun _ _ _ _ _ _ _ _ _ _ _ _ _ _ _ _ _ B P => lv_iload B.1.1 B.1.2.1 hd (P.2.2.1.2.2.2 _ _ hl) (kk B P)
theorem pw_lload_n {k : Fin 4} {x : Int64} (hd : decode X.2.2.1 pc = .ok (.lload_n k, 1)) (hl : ls[(k : Nat)]? = some (some (.long x))) (kk : PW l E D cA N Z X d fin (pc + 1) ls (.long x :: st) M) : PW l E D cA N Z X d fin pc ls (st) M :=
  fun _ _ _ _ _ _ _ _ _ _ _ _ _ _ _ _ _ B P => lv_lload_n B.1.1 B.1.2.1 hd rfl (P.2.2.1.2.2.2 _ _ hl) (kk B P)
theorem pw_aload_n {k : Fin 4} {x : Nat} (hd : decode X.2.2.1 pc = .ok (.aload_n k, 1)) (hl : ls[(k : Nat)]? = some (some (.ref x))) (kk : PW l E D cA N Z X d fin (pc + 1) ls (.ref x :: st) M) : PW l E D cA N Z X d fin pc ls (st) M :=
  fun _ _ _ _ _ _ _ _ _ _ _ _ _ _ _ _ _ B P => lv_aload_n B.1.1 B.1.2.1 hd rfl (P.2.2.1.2.2.2 _ _ hl) (kk B P)
theorem pw_aload {i : Nat} {x : Nat} (hd : decode X.2.2.1 pc = .ok (.aload i, 2)) (hl : ls[i]? = some (some (.ref x))) (kk : PW l E D cA N Z X d fin (pc + 2) ls (.ref x :: st) M) : PW l E D cA N Z X d fin pc ls (st) M :=
  fun _ _ _ _ _ _ _ _ _ _ _ _ _ _ _ _ _ B P => lv_aload B.1.1 B.1.2.1 hd (P.2.2.1.2.2.2 _ _ hl) (kk B P)
theorem pw_iconst {n : Int} (hd : decode X.2.2.1 pc = .ok (.iconst n, 1)) (kk : PW l E D cA N Z X d fin (pc + 1) ls (.int (Int32.ofInt n) :: st) M) : PW l E D cA N Z X d fin pc ls (st) M :=
  fun _ _ _ _ _ _ _ _ _ _ _ _ _ _ _ _ _ B P => lv_iconst B.1.1 B.1.2.1 hd rfl (kk B P)
theorem pw_iconst_ {n : Int} {v : Int32} (hd : decode X.2.2.1 pc = .ok (.iconst n, 1)) (hv : Int32.ofInt n = v) (kk : PW l E D cA N Z X d fin (pc + 1) ls (.int v :: st) M) : PW l E D cA N Z X d fin pc ls (st) M :=
  fun _ _ _ _ _ _ _ _ _ _ _ _ _ _ _ _ _ B P => lv_iconst B.1.1 B.1.2.1 hd hv (kk B P)
theorem pw_bipush {n : Int} {v : Int32} (hd : decode X.2.2.1 pc = .ok (.bipush n, 2)) (hv : (Int8.ofInt n).toInt32 = v) (kk : PW l E D cA N Z X d fin (pc + 2) ls (.int v :: st) M) : PW l E D cA N Z X d fin pc ls (st) M :=
  fun _ _ _ _ _ _ _ _ _ _ _ _ _ _ _ _ _ B P => lv_bipush B.1.1 B.1.2.1 hd hv (kk B P)
theorem pw_sipush {n : Int} {v : Int32} (hd : decode X.2.2.1 pc = .ok (.sipush n, 3)) (hv : (Int16.ofInt n).toInt32 = v) (kk : PW l E D cA N Z X d fin (pc + 3) ls (.int v :: st) M) : PW l E D cA N Z X d fin pc ls (st) M :=
  fun _ _ _ _ _ _ _ _ _ _ _ _ _ _ _ _ _ B P => lv_sipush B.1.1 B.1.2.1 hd hv (kk B P)
theorem pw_lconst {n : Fin 2} {v : Int64} (hd : decode X.2.2.1 pc = .ok (.lconst n, 1)) (hv : Int64.ofNat (n : Nat) = v) (kk : PW l E D cA N Z X d fin (pc + 1) ls (.long v :: st) M) : PW l E D cA N Z X d fin pc ls (st) M :=
  fun _ _ _ _ _ _ _ _ _ _ _ _ _ _ _ _ _ B P => lv_lconst B.1.1 B.1.2.1 hd hv (kk B P)
theorem pw_iadd {x y : Int32} (hd : decode X.2.2.1 pc = .ok (.iadd, 1)) (kk : PW l E D cA N Z X d fin (pc + 1) ls (.int (x + y) :: st) M) : PW l E D cA N Z X d fin pc ls (.int y :: .int x :: st) M :=
  fun _ _ _ _ _ _ _ _ _ _ _ _ _ _ _ _ _ B P => lv_iadd B.1.1 B.1.2.1 hd (kk B P)
theorem pw_isub {x y : Int32} (hd : decode X.2.2.1 pc = .ok (.isub, 1)) (kk : PW l E D cA N Z X d fin (pc + 1) ls (.int (x - y) :: st) M) : PW l E D cA N Z X d fin pc ls (.int y :: .int x :: st) M :=
  fun _ _ _ _ _ _ _ _ _ _ _ _ _ _ _ _ _ B P => lv_isub B.1.1 B.1.2.1 hd (kk B P)
theorem pw_imul {x y : Int32} (hd : decode X.2.2.1 pc = .ok (.imul, 1)) (kk : PW l E D cA N Z X d fin (pc + 1) ls (.int (x * y) :: st) M) : PW l E D cA N Z X d fin pc ls (.int y :: .int x :: st) M :=
  fun _ _ _ _ _ _ _ _ _ _ _ _ _ _ _ _ _ B P => lv_imul B.1.1 B.1.2.1 hd (kk B P)
theorem pw_iand {x y : Int32} (hd : decode X.2.2.1 pc = .ok (.iand, 1)) (kk : PW l E D cA N Z X d fin (pc + 1) ls (.int (x &&& y) :: st) M) : PW l E D cA N Z X d fin pc ls (.int y :: .int x :: st) M :=
  fun _ _ _ _ _ _ _ _ _ _ _ _ _ _ _ _ _ B P => lv_iand B.1.1 B.1.2.1 hd (kk B P)
theorem pw_ior {x y : Int32} (hd : decode X.2.2.1 pc = .ok (.ior, 1)) (kk : PW l E D cA N Z X d fin (pc + 1) ls (.int (x ||| y) :: st) M) : PW l E D cA N Z X d fin pc ls (.int y :: .int x :: st) M :=
  fun _ _ _ _ _ _ _ _ _ _ _ _ _ _ _ _ _ B P => lv_ior B.1.1 B.1.2.1 hd (kk B P)
theorem pw_ixor {x y : Int32} (hd : decode X.2.2.1 pc = .ok (.ixor, 1)) (kk : PW l E D cA N Z X d fin (pc + 1) ls (.int (x ^^^ y) :: st) M) : PW l E D cA N Z X d fin pc ls (.int y :: .int x :: st) M :=
  fun _ _ _ _ _ _ _ _ _ _ _ _ _ _ _ _ _ B P => lv_ixor B.1.1 B.1.2.1 hd (kk B P)
theorem pw_ishl {x y : Int32} (hd : decode X.2.2.1 pc = .ok (.ishl, 1)) (kk : PW l E D cA N Z X d fin (pc + 1) ls (.int (x <<< (y &&& 31)) :: st) M) : PW l E D cA N Z X d fin pc ls (.int y :: .int x :: st) M :=
  fun _ _ _ _ _ _ _ _ _ _ _ _ _ _ _ _ _ B P => lv_ishl B.1.1 B.1.2.1 hd (kk B P)
theorem pw_ishr {x y : Int32} (hd : decode X.2.2.1 pc = .ok (.ishr, 1)) (kk : PW l E D cA N Z X d fin (pc + 1) ls (.int (x >>> (y &&& 31)) :: st) M) : PW l E D cA N Z X d fin pc ls (.int y :: .int x :: st) M :=
  fun _ _ _ _ _ _ _ _ _ _ _ _ _ _ _ _ _ B P => lv_ishr B.1.1 B.1.2.1 hd (kk B P)
theorem pw_idiv {x y : Int32} (hd : decode X.2.2.1 pc = .ok (.idiv, 1)) (hne : ¬ y = 0) (kk : PW l E D cA N Z X d fin (pc + 1) ls (.int (x / y) :: st) M) : PW l E D cA N Z X d fin pc ls (.int y :: .int x :: st) M :=
  fun _ _ _ _ _ _ _ _ _ _ _ _ _ _ _ _ _ B P => lv_idiv B.1.1 B.1.2.1 hd hne (kk B P)
theorem pw_irem {x y : Int32} (hd : decode X.2.2.1 pc = .ok (.irem, 1)) (hne : ¬ y = 0) (kk : PW l E D cA N Z X d fin (pc + 1) ls (.int (x - x / y * y) :: st) M) : PW l E D cA N Z X d fin pc ls (.int y :: .int x :: st) M :=
  fun _ _ _ _ _ _ _ _ _ _ _ _ _ _ _ _ _ B P => lv_irem B.1.1 B.1.2.1 hd hne (kk B P)
theorem pw_ineg {x : Int32} (hd : decode X.2.2.1 pc = .ok (.ineg, 1)) (kk : PW l E D cA N Z X d fin (pc + 1) ls (.int (-x) :: st) M) : PW l E D cA N Z X d fin pc ls (.int x :: st) M :=
  fun _ _ _ _ _ _ _ _ _ _ _ _ _ _ _ _ _ B P => lv_ineg B.1.1 B.1.2.1 hd (kk B P)
theorem pw_iushr {x y v : Int32} (hd : decode X.2.2.1 pc = .ok (.iushr, 1)) (hv : (x.toUInt32 >>> (y.toUInt32 &&& Int32.toUInt32 31)).toInt32 = v) (kk : PW l E D cA N Z X d fin (pc + 1) ls (.int v :: st) M) : PW l E D cA N Z X d fin pc ls (.int y :: .int x :: st) M :=
  fun _ _ _ _ _ _ _ _ _ _ _ _ _ _ _ _ _ B P => lv_iushr B.1.1 B.1.2.1 hd hv (kk B P)
theorem pw_land {x y : Int64} (hd : decode X.2.2.1 pc = .ok (.land, 1)) (kk : PW l E D cA N Z X d fin (pc + 1) ls (.long (x &&& y) :: st) M) : PW l E D cA N Z X d fin pc ls (.long y :: .long x :: st) M :=
  fun _ _ _ _ _ _ _ _ _ _ _ _ _ _ _ _ _ B P => lv_land B.1.1 B.1.2.1 hd (kk B P)
theorem pw_lor {x y : Int64} (hd : decode X.2.2.1 pc = .ok (.lor, 1)) (kk : PW l E D cA N Z X d fin (pc + 1) ls (.long (x ||| y) :: st) M) : PW l E D cA N Z X d fin pc ls (.long y :: .long x :: st) M :=
  fun _ _ _ _ _ _ _ _ _ _ _ _ _ _ _ _ _ B P => lv_lor B.1.1 B.1.2.1 hd (kk B P)
theorem pw_lshl {x v : Int64} {y : Int32} (hd : decode X.2.2.1 pc = .ok (.lshl, 1)) (hv : x <<< (y.toInt64 &&& 63) = v) (kk : PW l E D cA N Z X d fin (pc + 1) ls (.long v :: st) M) : PW l E D cA N Z X d fin pc ls (.int y :: .long x :: st) M :=
  fun _ _ _ _ _ _ _ _ _ _ _ _ _ _ _ _ _ B P => lv_lshl B.1.1 B.1.2.1 hd hv (kk B P)
theorem pw_lushr {x v : Int64} {y : Int32} (hd : decode X.2.2.1 pc = .ok (.lushr, 1)) (hv : (x.toUInt64 >>> (y.toInt64.toUInt64 &&& Int64.toUInt64 63)).toInt64 = v) (kk : PW l E D cA N Z X d fin (pc + 1) ls (.long v :: st) M) : PW l E D cA N Z X d fin pc ls (.int y :: .long x :: st) M :=
  fun _ _ _ _ _ _ _ _ _ _ _ _ _ _ _ _ _ B P => lv_lushr B.1.1 B.1.2.1 hd hv (kk B P)
theorem pw_l2i {x : Int64} {v : Int32} (hd : decode X.2.2.1 pc = .ok (.l2i, 1)) (hv : x.toInt32 = v) (kk : PW l E D cA N Z X d fin (pc + 1) ls (.int v :: st) M) : PW l E D cA N Z X d fin pc ls (.long x :: st) M :=
  fun _ _ _ _ _ _ _ _ _ _ _ _ _ _ _ _ _ B P => lv_l2i B.1.1 B.1.2.1 hd hv (kk B P)
theorem pw_i2l {x : Int32} {v : Int64} (hd : decode X.2.2.1 pc = .ok (.i2l, 1)) (hv : x.toInt64 = v) (kk : PW l E D cA N Z X d fin (pc + 1) ls (.long v :: st) M) : PW l E D cA N Z X d fin pc ls (.int x :: st) M :=
  fun _ _ _ _ _ _ _ _ _ _ _ _ _ _ _ _ _ B P => lv_i2l B.1.1 B.1.2.1 hd hv (kk B P)
theorem pw_i2c {x : Int32} {v : Int32} (hd : decode X.2.2.1 pc = .ok (.i2c, 1)) (hv : (x.toUInt32 % 65536).toInt32 = v) (kk : PW l E D cA N Z X d fin (pc + 1) ls (.int v :: st) M) : PW l E D cA N Z X d fin pc ls (.int x :: st) M :=
  fun _ _ _ _ _ _ _ _ _ _ _ _ _ _ _ _ _ B P => lv_i2c B.1.1 B.1.2.1 hd hv (kk B P)
theorem pw_lcmp {x y : Int64} (hd : decode X.2.2.1 pc = .ok (.lcmp, 1)) (kk : PW l E D cA N Z X d fin (pc + 1) ls (.int (lg_cmp x y) :: st) M) : PW l E D cA N Z X d fin pc ls (.long y :: .long x :: st) M :=
  fun _ _ _ _ _ _ _ _ _ _ _ _ _ _ _ _ _ B P => W.lcmp B.1.1 B.1.2.1 hd (kk B P)
theorem pw_dup {v : Value} (hd : decode X.2.2.1 pc = .ok (.dup, 1)) (hv : v.category = 1) (kk : PW l E D cA N Z X d fin (pc + 1) ls (v :: v :: st) M) : PW l E D cA N Z X d fin pc ls (v :: st) M :=
  fun _ _ _ _ _ _ _ _ _ _ _ _ _ _ _ _ _ B P => lv_dup B.1.1 B.1.2.1 hd (by rw [kv_cat]; exact hv) (kk B P)
theorem pw_dup2 {v w : Value} (hd : decode X.2.2.1 pc = .ok (.dup2, 1)) (hv : v.category = 1) (hw : w.category = 1) (kk : PW l E D cA N Z X d fin (pc + 1) ls (v :: w :: v :: w :: st) M) : PW l E D cA N Z X d fin pc ls (v :: w :: st) M :=
  fun _ _ _ _ _ _ _ _ _ _ _ _ _ _ _ _ _ B P => lv_dup2_11 B.1.1 B.1.2.1 hd (by rw [kv_cat]; exact hv) (by rw [kv_cat]; exact hw) (kk B P)
theorem pw_goto {off : Int} {tgt : Nat} (hd : decode X.2.2.1 pc = .ok (.goto off, 3)) (ht : (pc : Int) + off = (tgt : Int)) (kk : PW l E D cA N Z X d fin (tgt) ls (st) M) : PW l E D cA N Z X d fin pc ls (st) M :=
  fun _ _ _ _ _ _ _ _ _ _ _ _ _ _ _ _ _ B P => lv_goto B.1.1 B.1.2.1 hd ht (kk B P)
theorem pw_ldc {index : Nat} {v : Int32} (hd : decode X.2.2.1 pc = .ok (.ldc index, 2)) (hw : Cond.constant X.1 index v ∈ TB) (kk : PW l E D cA N Z X d fin (pc + 2) ls (.int v :: st) M) : PW l E D cA N Z X d fin pc ls (st) M :=
  fun _ _ _ _ _ _ _ _ _ _ _ _ _ _ _ _ _ B P => lv_ldc B.1.1 B.1.2.1 B.1.2.2.2.1 (B.1.2.2.2.2.1 _ hw) hd (kk B P)
theorem pw_ldc_w {index : Nat} {v : Int32} (hd : decode X.2.2.1 pc = .ok (.ldc_w index, 3)) (hw : Cond.constant X.1 index v ∈ TB) (kk : PW l E D cA N Z X d fin (pc + 3) ls (.int v :: st) M) : PW l E D cA N Z X d fin pc ls (st) M :=
  fun _ _ _ _ _ _ _ _ _ _ _ _ _ _ _ _ _ B P => lv_ldcw B.1.1 B.1.2.1 B.1.2.2.2.1 (B.1.2.2.2.2.1 _ hw) hd (kk B P)
theorem pw_ldc2_w {index : Nat} {v : Int64} (hd : decode X.2.2.1 pc = .ok (.ldc2_w index, 3)) (hw : Cond.constantLong X.1 index v ∈ TB) (kk : PW l E D cA N Z X d fin (pc + 3) ls (.long v :: st) M) : PW l E D cA N Z X d fin pc ls (st) M :=
  fun _ _ _ _ _ _ _ _ _ _ _ _ _ _ _ _ _ B P => lv_ldc2 B.1.1 B.1.2.1 B.1.2.2.2.1 (B.1.2.2.2.2.1 _ hw) hd (kk B P)
theorem pw_icmp_eq {x y : Int32} {off : Int} {tgt : Nat} (hd : decode X.2.2.1 pc = .ok (.if_icmp .eq off, 3)) (ht : (pc : Int) + off = (tgt : Int)) (k1 : x = y → PW l E D cA N Z X d fin tgt ls st M) (k2 : ¬ (x = y) → PW l E D cA N Z X d fin (pc + 3) ls st M) : PW l E D cA N Z X d fin pc ls (.int y :: .int x :: st) M :=
  fun _ _ _ _ _ _ _ _ _ _ _ _ _ _ _ _ _ B P => lv_icmp_eq B.1.1 B.1.2.1 hd ht (fun h => k1 h B P) (fun h => k2 h B P)
theorem pw_if_eq {x : Int32} {off : Int} {tgt : Nat} (hd : decode X.2.2.1 pc = .ok (.ifCond .eq off, 3)) (ht : (pc : Int) + off = (tgt : Int)) (k1 : x = 0 → PW l E D cA N Z X d fin tgt ls st M) (k2 : ¬ (x = 0) → PW l E D cA N Z X d fin (pc + 3) ls st M) : PW l E D cA N Z X d fin pc ls (.int x :: st) M :=
  fun _ _ _ _ _ _ _ _ _ _ _ _ _ _ _ _ _ B P => lv_if_eq B.1.1 B.1.2.1 hd ht (fun h => k1 h B P) (fun h => k2 h B P)
theorem pw_icmp_ne {x y : Int32} {off : Int} {tgt : Nat} (hd : decode X.2.2.1 pc = .ok (.if_icmp .ne off, 3)) (ht : (pc : Int) + off = (tgt : Int)) (k1 : x ≠ y → PW l E D cA N Z X d fin tgt ls st M) (k2 : x = y → PW l E D cA N Z X d fin (pc + 3) ls st M) : PW l E D cA N Z X d fin pc ls (.int y :: .int x :: st) M :=
  fun _ _ _ _ _ _ _ _ _ _ _ _ _ _ _ _ _ B P => lv_icmp_ne B.1.1 B.1.2.1 hd ht (fun h => k1 h B P) (fun h => k2 h B P)
theorem pw_if_ne {x : Int32} {off : Int} {tgt : Nat} (hd : decode X.2.2.1 pc = .ok (.ifCond .ne off, 3)) (ht : (pc : Int) + off = (tgt : Int)) (k1 : x ≠ 0 → PW l E D cA N Z X d fin tgt ls st M) (k2 : x = 0 → PW l E D cA N Z X d fin (pc + 3) ls st M) : PW l E D cA N Z X d fin pc ls (.int x :: st) M :=
  fun _ _ _ _ _ _ _ _ _ _ _ _ _ _ _ _ _ B P => lv_if_ne B.1.1 B.1.2.1 hd ht (fun h => k1 h B P) (fun h => k2 h B P)
theorem pw_icmp_lt {x y : Int32} {off : Int} {tgt : Nat} (hd : decode X.2.2.1 pc = .ok (.if_icmp .lt off, 3)) (ht : (pc : Int) + off = (tgt : Int)) (k1 : x < y → PW l E D cA N Z X d fin tgt ls st M) (k2 : ¬ (x < y) → PW l E D cA N Z X d fin (pc + 3) ls st M) : PW l E D cA N Z X d fin pc ls (.int y :: .int x :: st) M :=
  fun _ _ _ _ _ _ _ _ _ _ _ _ _ _ _ _ _ B P => lv_icmp_lt B.1.1 B.1.2.1 hd ht (fun h => k1 h B P) (fun h => k2 h B P)
theorem pw_if_lt {x : Int32} {off : Int} {tgt : Nat} (hd : decode X.2.2.1 pc = .ok (.ifCond .lt off, 3)) (ht : (pc : Int) + off = (tgt : Int)) (k1 : x < 0 → PW l E D cA N Z X d fin tgt ls st M) (k2 : ¬ (x < 0) → PW l E D cA N Z X d fin (pc + 3) ls st M) : PW l E D cA N Z X d fin pc ls (.int x :: st) M :=
  fun _ _ _ _ _ _ _ _ _ _ _ _ _ _ _ _ _ B P => lv_if_lt B.1.1 B.1.2.1 hd ht (fun h => k1 h B P) (fun h => k2 h B P)
theorem pw_icmp_ge {x y : Int32} {off : Int} {tgt : Nat} (hd : decode X.2.2.1 pc = .ok (.if_icmp .ge off, 3)) (ht : (pc : Int) + off = (tgt : Int)) (k1 : y ≤ x → PW l E D cA N Z X d fin tgt ls st M) (k2 : ¬ (y ≤ x) → PW l E D cA N Z X d fin (pc + 3) ls st M) : PW l E D cA N Z X d fin pc ls (.int y :: .int x :: st) M :=
  fun _ _ _ _ _ _ _ _ _ _ _ _ _ _ _ _ _ B P => lv_icmp_ge B.1.1 B.1.2.1 hd ht (fun h => k1 h B P) (fun h => k2 h B P)
theorem pw_if_ge {x : Int32} {off : Int} {tgt : Nat} (hd : decode X.2.2.1 pc = .ok (.ifCond .ge off, 3)) (ht : (pc : Int) + off = (tgt : Int)) (k1 : 0 ≤ x → PW l E D cA N Z X d fin tgt ls st M) (k2 : ¬ (0 ≤ x) → PW l E D cA N Z X d fin (pc + 3) ls st M) : PW l E D cA N Z X d fin pc ls (.int x :: st) M :=
  fun _ _ _ _ _ _ _ _ _ _ _ _ _ _ _ _ _ B P => lv_if_ge B.1.1 B.1.2.1 hd ht (fun h => k1 h B P) (fun h => k2 h B P)
theorem pw_icmp_gt {x y : Int32} {off : Int} {tgt : Nat} (hd : decode X.2.2.1 pc = .ok (.if_icmp .gt off, 3)) (ht : (pc : Int) + off = (tgt : Int)) (k1 : y < x → PW l E D cA N Z X d fin tgt ls st M) (k2 : ¬ (y < x) → PW l E D cA N Z X d fin (pc + 3) ls st M) : PW l E D cA N Z X d fin pc ls (.int y :: .int x :: st) M :=
  fun _ _ _ _ _ _ _ _ _ _ _ _ _ _ _ _ _ B P => lv_icmp_gt B.1.1 B.1.2.1 hd ht (fun h => k1 h B P) (fun h => k2 h B P)
theorem pw_if_gt {x : Int32} {off : Int} {tgt : Nat} (hd : decode X.2.2.1 pc = .ok (.ifCond .gt off, 3)) (ht : (pc : Int) + off = (tgt : Int)) (k1 : 0 < x → PW l E D cA N Z X d fin tgt ls st M) (k2 : ¬ (0 < x) → PW l E D cA N Z X d fin (pc + 3) ls st M) : PW l E D cA N Z X d fin pc ls (.int x :: st) M :=
  fun _ _ _ _ _ _ _ _ _ _ _ _ _ _ _ _ _ B P => lv_if_gt B.1.1 B.1.2.1 hd ht (fun h => k1 h B P) (fun h => k2 h B P)
theorem pw_icmp_le {x y : Int32} {off : Int} {tgt : Nat} (hd : decode X.2.2.1 pc = .ok (.if_icmp .le off, 3)) (ht : (pc : Int) + off = (tgt : Int)) (k1 : x ≤ y → PW l E D cA N Z X d fin tgt ls st M) (k2 : ¬ (x ≤ y) → PW l E D cA N Z X d fin (pc + 3) ls st M) : PW l E D cA N Z X d fin pc ls (.int y :: .int x :: st) M :=
  fun _ _ _ _ _ _ _ _ _ _ _ _ _ _ _ _ _ B P => lv_icmp_le B.1.1 B.1.2.1 hd ht (fun h => k1 h B P) (fun h => k2 h B P)
theorem pw_if_le {x : Int32} {off : Int} {tgt : Nat} (hd : decode X.2.2.1 pc = .ok (.ifCond .le off, 3)) (ht : (pc : Int) + off = (tgt : Int)) (k1 : x ≤ 0 → PW l E D cA N Z X d fin tgt ls st M) (k2 : ¬ (x ≤ 0) → PW l E D cA N Z X d fin (pc + 3) ls st M) : PW l E D cA N Z X d fin pc ls (.int x :: st) M :=
  fun _ _ _ _ _ _ _ _ _ _ _ _ _ _ _ _ _ B P => lv_if_le B.1.1 B.1.2.1 hd ht (fun h => k1 h B P) (fun h => k2 h B P)
theorem pw_switchIn {dflt lo hi : Int} {offs : Array Int} {len : Nat} {x : Int32} {off : Int} {tgt : Nat} (hd : decode X.2.2.1 pc = .ok (.tableswitch dflt lo hi offs, len)) (h1 : ¬ x.toInt < lo) (h2 : ¬ hi < x.toInt) (ho : offs[(x.toInt - lo).toNat]? = some off) (ht : (pc : Int) + off = (tgt : Int)) (kk : PW l E D cA N Z X d fin tgt ls st M) : PW l E D cA N Z X d fin pc ls (.int x :: st) M :=
  fun _ _ _ _ _ _ _ _ _ _ _ _ _ _ _ _ _ B P => lv_tableIn B.1.1 B.1.2.1 hd h1 h2 ho ht (kk B P)
theorem pw_switchOut {dflt lo hi : Int} {offs : Array Int} {len : Nat} {x : Int32} {tgt : Nat} (hd : decode X.2.2.1 pc = .ok (.tableswitch dflt lo hi offs, len)) (h : x.toInt < lo ∨ hi < x.toInt) (ht : (pc : Int) + dflt = (tgt : Int)) (kk : PW l E D cA N Z X d fin tgt ls st M) : PW l E D cA N Z X d fin pc ls (.int x :: st) M :=
  fun _ _ _ _ _ _ _ _ _ _ _ _ _ _ _ _ _ B P => lv_tableOut B.1.1 B.1.2.1 hd h ht (kk B P)
theorem kv_P.lo {s : State} {n0 z0 : Nat} {H : Heap} {locs : List Loc} {cells slots : Nat} {la la' : Array Slot} {ls' : List (Option Value)} (P : kv_P E D cA X s n0 z0 ls M H locs cells slots la) (h : kv_L E X.2.2.2.1 la' ls') : kv_P E D cA X s n0 z0 ls' M H locs cells slots la' :=
  ⟨P.1, P.2.1, h, P.2.2.2⟩
theorem pw_istore_n {k : Fin 4} {x : Int32} (hd : decode X.2.2.1 pc = .ok (.istore_n k, 1)) (hok : kv_ok ls (k : Nat) = true) (hi : (k : Nat) < X.2.2.2.1) (kk : PW l E D cA N Z X d fin (pc + 1) (ls.set (k : Nat) (some (.int x))) st M) : PW l E D cA N Z X d fin pc ls (.int x :: st) M :=
  fun _ _ _ _ _ _ _ _ _ _ _ _ _ _ _ _ _ B P => lv_istore_n B.1.1 B.1.2.1 hd rfl P.2.2.1.has hi rfl (fun la' h' => kk B (P.lo (P.2.2.1.st1 (v := .int x) hok hi rfl h')))
theorem pw_astore_n {k : Fin 4} {x : Nat} (hd : decode X.2.2.1 pc = .ok (.astore_n k, 1)) (hok : kv_ok ls (k : Nat) = true) (hi : (k : Nat) < X.2.2.2.1) (kk : PW l E D cA N Z X d fin (pc + 1) (ls.set (k : Nat) (some (.ref x))) st M) : PW l E D cA N Z X d fin pc ls (.ref x :: st) M :=
  fun _ _ _ _ _ _ _ _ _ _ _ _ _ _ _ _ _ B P => lv_astore_n B.1.1 B.1.2.1 hd rfl P.2.2.1.has hi rfl (fun la' h' => kk B (P.lo (P.2.2.1.st1 (v := .ref x) hok hi rfl h')))
theorem pw_istore {i : Nat} {x : Int32} (hd : decode X.2.2.1 pc = .ok (.istore i, 2)) (hok : kv_ok ls i = true) (hi : i < X.2.2.2.1) (kk : PW l E D cA N Z X d fin (pc + 2) (ls.set i (some (.int x))) st M) : PW l E D cA N Z X d fin pc ls (.int x :: st) M :=
  fun _ _ _ _ _ _ _ _ _ _ _ _ _ _ _ _ _ B P => lv_istore B.1.1 B.1.2.1 hd P.2.2.1.has hi rfl (fun la' h' => kk B (P.lo (P.2.2.1.st1 (v := .int x) hok hi rfl h')))
theorem pw_lstore_n {k : Fin 4} {x : Int64} (hd : decode X.2.2.1 pc = .ok (.lstore_n k, 1)) (hok : kv_ok ls (k : Nat) = true) (hi : (k : Nat) + 1 < X.2.2.2.1) (kk : PW l E D cA N Z X d fin (pc + 1) ((ls.set (k : Nat) (some (.long x))).set ((k : Nat) + 1) none) st M) : PW l E D cA N Z X d fin pc ls (.long x :: st) M :=
  fun _ _ _ _ _ _ _ _ _ _ _ _ _ _ _ _ _ B P => lv_lstore_n B.1.1 B.1.2.1 hd rfl P.2.2.1.has hi rfl (fun la' h' => kk B (P.lo (P.2.2.1.st2 (v := .long x) hok hi h')))
theorem pw_iinc {i : Nat} {n : Int} {x v : Int32} (hd : decode X.2.2.1 pc = .ok (.iinc i n, 3)) (hl : ls[i]? = some (some (.int x))) (hv : x + Int32.ofInt n = v) (hok : kv_ok ls i = true) (kk : PW l E D cA N Z X d fin (pc + 3) (ls.set i (some (.int v))) st M) : PW l E D cA N Z X d fin pc ls st M := by
  intro p e R s m args below meth c Q n0 z0 H locs cells slots la B P
  obtain ⟨j, hj⟩ := List.getElem?_of_mem ((kv_al_in (q := (i, Value.int x)) (E := E) (ls := ls)).mpr ⟨.int x, hl, rfl⟩)
  have hi : i < X.2.2.2.1 := by have := (List.getElem?_eq_some_iff.mp hl).1; have := P.2.2.1.2.2.1; omega
  exact lv_iinc B.1.1 B.1.2.1 hd P.2.2.1.has hj hv hi rfl (fun la' h' => kk B (P.lo (P.2.2.1.st1 (v := .int v) hok hi rfl h')))
end PWR
