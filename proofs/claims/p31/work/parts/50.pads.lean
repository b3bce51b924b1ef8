/-! a route that is written: places that differ, the pad that holds them -/
def us (pl : Nat → Nat) (k x : Nat) : Bool := anyN (fun j => pl j == x) k
theorem us_s {pl : Nat → Nat} {k x : Nat} : us pl (k + 1) x = (us pl k x || (pl k == x)) := rfl
theorem us_iff {pl : Nat → Nat} {k x : Nat} : us pl k x = true ↔ ∃ j, j < k ∧ pl j = x := by
  unfold us
  rw [anyN_iff]
  constructor
  · rintro ⟨j, h1, h2⟩
    exact ⟨j, h1, by simpa using h2⟩
  · rintro ⟨j, h1, h2⟩
    exact ⟨j, h1, by simpa using h2⟩
theorem us_cg {pl pl' : Nat → Nat} {k x : Nat} (h : ∀ j, j < k → pl j = pl' j) : us pl k x = us pl' k x := by
  rw [Bool.eq_iff_iff, us_iff, us_iff]
  constructor
  · rintro ⟨j, h1, h2⟩
    exact ⟨j, h1, by rw [← h j h1]; exact h2⟩
  · rintro ⟨j, h1, h2⟩
    exact ⟨j, h1, by rw [h j h1]; exact h2⟩
theorem cnt_up {q : Nat → Bool} {p : Nat} : ∀ {n : Nat}, p < n → ¬ q p = true → cntN (fun x => q x || (p == x)) n = cntN q n + 1
  | 0, h, _ => absurd h (Nat.not_lt_zero _)
  | n + 1, h, hq => by
    show cntN (fun x => q x || (p == x)) n + (if (q n || (p == n)) = true then 1 else 0) = cntN q n + (if q n = true then 1 else 0) + 1
    by_cases e : p = n
    · subst e
      rw [cntN_cg (f := fun x => q x || (p == x)) (g := q) (n := p) (fun u hu => by simp [show ¬ p = u by omega]), if_pos (by simp), if_neg hq]
    · rw [cnt_up (n := n) (by omega) hq]
      have e2 : (p == n) = false := by simpa using e
      rw [e2, Bool.or_false]
      omega
theorem cnt_all {q : Nat → Bool} : ∀ {n : Nat}, (∀ x, x < n → q x = true) → cntN q n = n
  | 0, _ => rfl
  | n + 1, h => by
    show cntN q n + (if q n = true then 1 else 0) = n + 1
    rw [cnt_all (n := n) (fun x hx => h x (by omega)), if_pos (h n (Nat.lt_succ_self _))]
def PI (pl : Nat → Nat) (k : Nat) : Prop := (∀ i, i < k → pl i < 8) ∧ ∀ i j, i < k → j < k → pl i = pl j → i = j
theorem PI.cnt {pl : Nat → Nat} : ∀ {k : Nat}, PI pl k → cntN (us pl k) 8 = k
  | 0, _ => cnt_no (fun u _ h => by cases h)
  | k + 1, h => by
    have ih := PI.cnt (pl := pl) (k := k) ⟨fun i hi => h.1 i (by omega), fun i j hi hj => h.2 i j (by omega) (by omega)⟩
    have hno : ¬ us pl k (pl k) = true := fun q => by
      obtain ⟨j, h1, h2⟩ := us_iff.mp q
      have := h.2 j k (by omega) (by omega) h2
      omega
    have e : cntN (us pl (k + 1)) 8 = cntN (fun x => us pl k x || (pl k == x)) 8 := rfl
    rw [e, cnt_up (h.1 k (Nat.lt_succ_self _)) hno, ih]
theorem PI.free {pl : Nat → Nat} {k : Nat} (h : PI pl k) (hk : k < 8) : ∃ x, x < 8 ∧ ¬ us pl k x = true := by
  apply Classical.byContradiction
  intro hn
  have := cnt_all (q := us pl k) (n := 8) (fun x hx => Classical.byContradiction (fun q => hn ⟨x, hx, q⟩))
  rw [h.cnt] at this
  omega
theorem PI.add {pl : Nat → Nat} {k p : Nat} (h : PI pl k) (hp : p < 8) (hu : ¬ us pl k p = true) : PI (up1 pl k p) (k + 1) := by
  have hn : ∀ j, j < k → pl j ≠ p := fun j hj e => hu (us_iff.mpr ⟨j, hj, e⟩)
  refine ⟨fun i hi => ?_, fun i j hi hj e => ?_⟩
  · by_cases e : i = k
    · rw [e, up1_s]
      exact hp
    · rw [up1_n e]
      exact h.1 i (by omega)
  · by_cases e1 : i = k
    · by_cases e2 : j = k
      · omega
      · rw [e1, up1_s, up1_n e2] at e
        exact absurd e.symm (hn j (by omega))
    · by_cases e2 : j = k
      · rw [e2, up1_s, up1_n e1] at e
        exact absurd e (hn i (by omega))
      · rw [up1_n e1, up1_n e2] at e
        exact h.2 i j (by omega) (by omega) e
theorem us_add {pl : Nat → Nat} {k p x : Nat} : us (up1 pl k p) (k + 1) x = (us pl k x || (p == x)) := by
  rw [us_s, up1_s]
  congr 1
  exact us_cg (fun j hj => up1_n (by omega))
/-- the pad holds k places of pl -/
def PP (pd : Nat → Nat) (ln k : Nat) (pl : Nat → Nat) : Prop := ln = 2 * k - 1 ∧ (∀ i, i < k → pd (2 * i) = 97 + pl i) ∧ ∀ i, i + 1 < k → pd (2 * i + 1) = 62
theorem app_at {pd : Nat → Nat} {ln U : Nat} (hU : U < 256) : app pd ln U 1 ln = U := by
  unfold app
  rw [if_neg (Nat.lt_irrefl _)]
  show U / 256 ^ (1 - 1 - (ln - ln)) % 256 = U
  rw [Nat.sub_self, Nat.sub_self, Nat.pow_zero, Nat.div_one, Nat.mod_eq_of_lt hU]
theorem app_lt {pd : Nat → Nat} {ln U k : Nat} (h : k < ln) : app pd ln U 1 k = pd k := if_pos h
theorem PP.one {pd pl : Nat → Nat} {p : Nat} (hp : p < 8) : PP (app pd 0 (97 + p) 1) 1 1 (up1 pl 0 p) := by
  refine ⟨rfl, fun i hi => ?_, fun i hi => by omega⟩
  obtain rfl : i = 0 := by omega
  rw [up1_s]
  exact app_at (by omega)
theorem PP.more {pd pl : Nat → Nat} {ln k p : Nat} (h : PP pd ln k pl) (hk : 0 < k) (hp : p < 8) : PP (app (app pd ln 62 1) (ln + 1) (97 + p) 1) (ln + 2) (k + 1) (up1 pl k p) := by
  obtain ⟨h1, h2, h3⟩ := h
  refine ⟨by omega, fun i hi => ?_, fun i hi => ?_⟩
  · by_cases e : i = k
    · subst e
      rw [up1_s, show 2 * i = ln + 1 by omega]
      exact app_at (by omega)
    · rw [up1_n e, app_lt (by omega), app_lt (by omega)]
      exact h2 i (by omega)
  · rw [app_lt (by omega)]
    by_cases e : i + 1 = k
    · rw [show 2 * i + 1 = ln by omega]
      exact app_at (by decide)
    · rw [app_lt (by omega)]
      exact h3 i (by omega)
theorem PP.mask {pd pl : Nat → Nat} {ln n : Nat} (h : PP pd ln n pl) (hI : PI pl n) : ∀ k, k ≤ n → fmk pd (2 * k) = msk (us pl k) 8 ∧ (k < n → fmk pd (2 * k + 1) = msk (us pl (k + 1)) 8)
  | 0, hk => by
    have z : msk (us pl 0) 8 = 0 := msk_no
    have key : 0 < n → fmk pd (2 * 0 + 1) = msk (us pl (0 + 1)) 8 := fun hn => by
      show (if 0 % 2 = 0 then fmk pd 0 + 2 ^ (pd 0 - 97) else fmk pd 0) = _
      rw [if_pos rfl, h.2.1 0 hn, Nat.add_sub_cancel_left]
      show 0 + 2 ^ pl 0 = _
      have hr := msk_rem (q := us pl 1) (n := 8) (hI.1 0 hn) (us_iff.mpr ⟨0, by decide, rfl⟩)
      rw [hr]
      congr 1
      have e : msk (fun u => us pl 1 u && !(u == pl 0)) 8 = msk (fun _ => false) 8 := msk_cg (fun u _ => by
        show ((us pl 0 u || (pl 0 == u)) && !(u == pl 0)) = false
        by_cases e : u = pl 0
        · simp [e]
        · have : (pl 0 == u) = false := by simpa using fun q => e q.symm
          rw [this]
          rfl)
      rw [e, msk_no]
    exact ⟨z.symm ▸ rfl, key⟩
  | k + 1, hk => by
    have ih := (PP.mask h hI k (by omega)).2 (by omega)
    have e0 : fmk pd (2 * (k + 1)) = msk (us pl (k + 1)) 8 := by
      show fmk pd (2 * k + 1 + 1) = _
      show (if (2 * k + 1) % 2 = 0 then fmk pd (2 * k + 1) + _ else fmk pd (2 * k + 1)) = _
      rw [if_neg (by omega), ih]
    refine ⟨e0, fun hn => ?_⟩
    show (if (2 * (k + 1)) % 2 = 0 then fmk pd (2 * (k + 1)) + 2 ^ (pd (2 * (k + 1)) - 97) else fmk pd (2 * (k + 1))) = _
    rw [if_pos (by omega), h.2.1 (k + 1) hn, Nat.add_sub_cancel_left, e0]
    have hr := msk_rem (q := us pl (k + 1 + 1)) (n := 8) (hI.1 (k + 1) hn) (us_iff.mpr ⟨k + 1, by omega, rfl⟩)
    rw [hr]
    congr 1
    refine msk_cg (fun u _ => ?_)
    rw [us_s (k := k + 1)]
    by_cases e : u = pl (k + 1)
    · subst e
      have : us pl (k + 1) (pl (k + 1)) = false := by
        cases hq : us pl (k + 1) (pl (k + 1)) with
        | false => rfl
        | true =>
          obtain ⟨j, j1, j2⟩ := us_iff.mp hq
          have := hI.2 j (k + 1) (by omega) hn j2
          omega
      simp [this]
    · have : (pl (k + 1) == u) = false := by simpa using fun q => e q.symm
      simp [this, e]
theorem PP.ok {pd pl : Nat → Nat} {ln n : Nat} (h : PP pd ln n pl) (hI : PI pl n) (h1 : 1 ≤ n) (h8 : n ≤ 8) : ffp pd ln = none := by
  have hno : fstN (fun i => !okc pd i) ln = none := by
    refine fstN_none.mpr (fun i hi => ?_)
    rw [h.1] at hi
    have key : okc pd i = true := by
      unfold okc
      by_cases e : i % 2 = 0
      · rw [if_pos e]
        obtain ⟨k, rfl⟩ : ∃ k, i = 2 * k := ⟨i / 2, by omega⟩
        have hk : k < n := by omega
        have hp := hI.1 k hk
        rw [h.2.1 k hk, (h.mask hI k (by omega)).1, Nat.add_sub_cancel_left, msk_bit hp]
        have hf : ¬ us pl k (pl k) = true := fun hq => by
          obtain ⟨j, j1, j2⟩ := us_iff.mp hq
          have := hI.2 j k (by omega) hk j2
          omega
        rw [if_neg hf]
        simp only [decide_eq_true_eq]
        omega
      · rw [if_neg e]
        obtain ⟨k, rfl⟩ : ∃ k, i = 2 * k + 1 := ⟨i / 2, by omega⟩
        have hk : k + 1 < n := by omega
        have hp := hI.1 (k + 1) hk
        rw [h.2.2 k hk, (h.mask hI k (by omega)).2 (by omega)]
        simp only [decide_eq_true_eq]
        refine ⟨trivial, fun e9 => ?_⟩
        have hb := msk_bit (q := us pl (k + 1)) hp
        have hf : ¬ us pl (k + 1) (pl (k + 1)) = true := fun hq => by
          obtain ⟨j, j1, j2⟩ := us_iff.mp hq
          have := hI.2 j (k + 1) (by omega) hk j2
          omega
        rw [if_neg hf, e9] at hb
        have : ∀ x, x < 8 → 255 / 2 ^ x % 2 = 1 := by decide
        rw [this _ hp] at hb
        cases hb
    rw [key]
    decide
  unfold ffp
  rw [hno]
  show (if ln % 2 = 0 then some ln else none) = none
  rw [if_neg (by have := h.1; omega)]
theorem put_is {c : CS} {U : Nat} (hU : loU U = 1) (hp : pL c + 1 ≤ 20) : o_put c U = (nI (pL c + 1), (na c, hH c, hN c, sS c, sV c, app (pD c) (pL c) U 1, pL c + 1)) := by
  unfold o_put
  rw [hU, if_neg (by decide), if_pos hp]
theorem loU_a : ∀ p, p < 8 → loU (97 + p) = 1 := by decide +kernel
theorem loU_gt : loU 62 = 1 := by decide +kernel
theorem put_long : ∀ p, p < 8 → (nI (97 + p)).toInt64 = lN (97 + p) := by decide +kernel
theorem bit_o8 : ∀ m, m < 256 → ∀ b, b < 8 → nI m ||| (nI 1 <<< (nI b &&& 31)) = nI (m ||| 2 ^ b) := by decide +kernel
theorem us_256 {pl : Nat → Nat} {k : Nat} : msk (us pl k) 8 < 256 := msk_lt 8
theorem eq_sw {u p : Nat} : (u == p) = (p == u) := by
  rw [Bool.eq_iff_iff]
  simp only [beq_iff_eq]
  exact eq_comm
theorem or_us {pl : Nat → Nat} {k p : Nat} (hp : p < 8) : nI (msk (us pl k) 8) ||| (nI 1 <<< (nI p &&& 31)) = nI (msk (us (up1 pl k p) (k + 1)) 8) := by
  rw [bit_o8 _ us_256 p hp, msk_add hp]
  refine congrArg nI (msk_cg (fun u _ => ?_))
  rw [us_add, eq_sw]
section POP
variable {l : Launch} {E : EV} {D : va_G} {cA : Nat → ClassId} {N Z : Nat} {X : MT} {d : Nat} {fin : Option Value → List PE → Prop} {pc : Nat} {ls : List (Option Value)} {st : List Value} {M : List PE}
theorem pw_pop {x : Int32} (hd : decode X.2.2.1 pc = .ok (.pop, 1)) (kk : PW l E D cA N Z X d fin (pc + 1) ls st M) : PW l E D cA N Z X d fin pc ls (.int x :: st) M :=
  fun _ _ _ _ _ _ _ _ _ _ _ _ _ _ _ _ _ B P => lv_pop B.1.1 B.1.2.1 hd rfl (kk B P)
end POP
