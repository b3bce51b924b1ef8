/-! THE STANDING WORLD: behind the constructors no cell is made and no reference changes but Game.state: memory is a table of ints -/
def ly_z (n : Nat) : List Nat := List.replicate n 0
def ly_S (b : Nat) : List (Nat × List Nat) := [(3, [b + 3, b + 4, b + 5, b + 6, 0, b + 7, 0]), (100, ly_z 3), (100, ly_z 8), (100, ly_z 8), (100, ly_z 8), (105, (List.range 6).map (fun t => b + 8 + 2 * t))] ++ (List.range 6).flatMap (fun t => [(4, [b + 9 + 2 * t, 0, 0, 0, 0]), (100, ly_z 8)])
def ly_g (b : Nat) : List (Nat × List Nat) := (103, (List.range 6).map (fun t => b + 3 + t)) :: List.replicate 6 (100, ly_z 8)
/-- the cells: kind, and of each slot: 0 an int, 1 the state that is played, r + 2 always the cell r -/
def ly_all : List (Nat × List Nat) :=
  [(5, [3, 21, 39, 79, 81, 191, 192])] ++ ly_S 1 ++ ly_S 19 ++ [(0, [1, 0, 40, 41, 48, 55, 62, 69, 76, 77, 78]), (100, ly_z 6)] ++ ly_g 39 ++ ly_g 46 ++ ly_g 53 ++ ly_g 60 ++ ly_g 67 ++ [(100, ly_z 6), (100, ly_z 6), (100, ly_z 8)]
  ++ [(2, [80, 0]), (101, ly_z 20), (1, [82, 0, 0]), (104, (List.range 6).map (fun h => 83 + 18 * h))] ++ ly_S 81 ++ ly_S 99 ++ ly_S 117 ++ ly_S 135 ++ ly_S 153 ++ ly_S 171 ++ [(104, [193, 211]), (102, ly_z 2)] ++ ly_S 191 ++ ly_S 209
def ly_k (i : Nat) : Nat := (ly_all.getD i (0, [])).1
def ly_n (i : Nat) : Nat := (ly_all.getD i (0, [])).2.length
def ly_s (i k : Nat) : Nat := (ly_all.getD i (0, [])).2.getD k 99
theorem ly_len : ly_all.length = 227 := by decide +kernel
abbrev Mu : Type := Nat → Nat → Int32
def u2 (μ : Mu) (i k : Nat) (x : Int32) : Mu := fun a b => if a = i ∧ b = k then x else μ a b
def em_d (x : Int32) : Value := if x < 0 then .null else .ref x.toNatClampNeg
def em_v (μ : Mu) (i k : Nat) : Value := match ly_s i k with
  | 0 => .int (μ i k)
  | 1 => em_d (μ i k)
  | r + 2 => .ref r
def em_r (μ : Mu) (i : Nat) : List Value := (List.range (ly_n i)).map (em_v μ i)
def em (μ : Mu) : List PE := (List.range 227).map (fun i => (ly_k i, em_r μ i))
theorem em_len (μ : Mu) : (em μ).length = 227 := by simp [em]
theorem em_at {μ : Mu} {i : Nat} (h : i < 227) : (em μ)[i]? = some (ly_k i, em_r μ i) := by
  unfold em
  rw [List.getElem?_map, List.getElem?_range h]
  rfl
theorem em_ra {μ : Mu} {i k : Nat} (h : k < ly_n i) : (em_r μ i)[k]? = some (em_v μ i k) := by
  unfold em_r
  rw [List.getElem?_map, List.getElem?_range h]
  rfl
theorem em_rl {μ : Mu} {i : Nat} : (em_r μ i).length = ly_n i := by simp [em_r]
theorem em_ext {μ ν : Mu} (h : ∀ i k, i < 227 → k < ly_n i → em_v μ i k = em_v ν i k) : em μ = em ν := by
  unfold em
  apply List.map_congr_left
  intro i hi
  have hi := List.mem_range.mp hi
  congr 1
  unfold em_r
  apply List.map_congr_left
  intro k hk
  exact h i k hi (List.mem_range.mp hk)
theorem em_setv {μ ν : Mu} {i k : Nat} {v : Value} (hi : i < 227) (hk : k < ly_n i) (h1 : em_v ν i k = v) (h2 : ∀ a b, ¬ (a = i ∧ b = k) → em_v ν a b = em_v μ a b) : (em μ).set i (ly_k i, (em_r μ i).set k v) = em ν := by
  apply List.ext_getElem?
  intro j
  rw [List.getElem?_set]
  by_cases hj : j < 227
  · by_cases e : i = j
    · subst e
      rw [if_pos rfl, if_pos (by rw [em_len]; exact hi), em_at hi]
      congr 2
      apply List.ext_getElem?
      intro b
      rw [List.getElem?_set]
      by_cases hb : b < ly_n i
      · by_cases e2 : k = b
        · subst e2
          rw [if_pos rfl, if_pos (by rw [em_rl]; exact hk), em_ra hk, h1]
        · rw [if_neg e2, em_ra hb, em_ra hb, h2 i b (fun q => e2 q.2.symm)]
      · rw [List.getElem?_eq_none (l := em_r ν i) (by rw [em_rl]; omega)]
        rw [if_neg (by omega), List.getElem?_eq_none (by rw [em_rl]; omega)]
    · rw [if_neg e, em_at hj, em_at hj]
      congr 2
      unfold em_r
      apply List.map_congr_left
      intro b _
      exact (h2 j b (fun q => e q.1.symm)).symm
  · rw [List.getElem?_eq_none (l := em ν) (by rw [em_len]; omega)]
    rw [if_neg (by omega), List.getElem?_eq_none (by rw [em_len]; omega)]
theorem em_set {μ : Mu} {i k : Nat} {x : Int32} (hi : i < 227) (hk : k < ly_n i) (hs : ly_s i k = 0) : (em μ).set i (ly_k i, (em_r μ i).set k (.int x)) = em (u2 μ i k x) := by
  refine em_setv hi hk ?_ ?_
  · simp [em_v, hs, u2]
  · intro a b h
    simp [em_v, u2, h]
theorem em_setd {μ : Mu} {i k r : Nat} (hi : i < 227) (hk : k < ly_n i) (hs : ly_s i k = 1) (hr : r < 2 ^ 31) : (em μ).set i (ly_k i, (em_r μ i).set k (.ref r)) = em (u2 μ i k (nI r)) := by
  refine em_setv hi hk ?_ ?_
  · have h0 : ¬ nI r < 0 := nI_pos hr
    simp [em_v, hs, u2, em_d, h0, nI_clamp hr]
  · intro a b h
    simp [em_v, u2, h]
/-- a row of ints is copied whole -/
def u2c (μ : Mu) (j i : Nat) : Mu := fun a b => if a = j then μ i b else μ a b
theorem em_cpy {μ : Mu} {i j : Nat} (hj : j < 227) (hn : ly_n i = ly_n j) (hk : ly_k j = 100) (h1 : ∀ k, k < ly_n i → ly_s i k = 0 ∧ ly_s j k = 0) : (em μ).set j (100, em_r μ i) = em (u2c μ j i) := by
  apply List.ext_getElem?
  intro a
  rw [List.getElem?_set]
  by_cases ha : a < 227
  · by_cases e : j = a
    · subst e
      rw [if_pos rfl, if_pos (by rw [em_len]; exact hj), em_at hj, hk]
      congr 2
      unfold em_r
      rw [hn]
      apply List.map_congr_left
      intro b hb
      have hb := List.mem_range.mp hb
      obtain ⟨q1, q2⟩ := h1 b (by omega)
      simp [em_v, q1, q2, u2c]
    · rw [if_neg e, em_at ha, em_at ha]
      congr 2
      unfold em_r
      apply List.map_congr_left
      intro b _
      have e2 : ¬ a = j := fun q => e q.symm
      simp [em_v, u2c, e2]
  · rw [List.getElem?_eq_none (l := em _) (by rw [em_len]; omega)]
    rw [if_neg (by omega), List.getElem?_eq_none (by rw [em_len]; omega)]
def em_Z : Nat := (ly_all.map (fun e => e.2.length)).sum
theorem em_sum (μ : Mu) : kv_sum (em μ) = em_Z := by
  unfold kv_sum em
  rw [List.map_map]
  have e : ((fun e : PE => e.2.length) ∘ fun i => (ly_k i, em_r μ i)) = fun i => ly_n i := by
    funext i
    simp [em_r]
  rw [e]
  decide +kernel
/-! behind the standing cells: rows that come with time -/
abbrev EY : Type := EV × List PE
theorem emy_len (μ : Mu) (Y : List PE) : (em μ ++ Y).length = 227 + Y.length := by rw [List.length_append, em_len]
theorem kv_sum_cat (M Y : List PE) : kv_sum (M ++ Y) = kv_sum M + kv_sum Y := by simp [kv_sum]
theorem emy_sum (μ : Mu) (Y : List PE) : kv_sum (em μ ++ Y) = em_Z + kv_sum Y := by rw [kv_sum_cat, em_sum]
theorem emy_at {μ : Mu} {Y : List PE} {i : Nat} (h : i < 227) : (em μ ++ Y)[i]? = some (ly_k i, em_r μ i) := by
  rw [List.getElem?_append_left (by rw [em_len]; exact h)]
  exact em_at h
theorem emy_Y {μ : Mu} {Y : List PE} {k : Nat} : (em μ ++ Y)[227 + k]? = Y[k]? := by
  rw [List.getElem?_append_right (by rw [em_len]; omega), em_len, Nat.add_sub_cancel_left]
theorem emy_in {μ : Mu} {Y : List PE} {i : Nat} {x : PE} (h : i < 227) : (em μ ++ Y).set i x = (em μ).set i x ++ Y := List.set_append_left i x (by rw [em_len]; exact h)
theorem emy_out {μ : Mu} {Y : List PE} {k : Nat} {x : PE} : (em μ ++ Y).set (227 + k) x = em μ ++ Y.set k x := by
  rw [List.set_append_right _ _ (by rw [em_len]; omega), em_len, Nat.add_sub_cancel_left]
theorem emy_set {μ : Mu} {Y : List PE} {i k : Nat} {x : Int32} (hi : i < 227) (hk : k < ly_n i) (hs : ly_s i k = 0) : (em μ ++ Y).set i (ly_k i, (em_r μ i).set k (.int x)) = em (u2 μ i k x) ++ Y := by rw [emy_in hi, em_set hi hk hs]
theorem emy_setd {μ : Mu} {Y : List PE} {i k r : Nat} (hi : i < 227) (hk : k < ly_n i) (hs : ly_s i k = 1) (hr : r < 2 ^ 31) : (em μ ++ Y).set i (ly_k i, (em_r μ i).set k (.ref r)) = em (u2 μ i k (nI r)) ++ Y := by rw [emy_in hi, em_setd hi hk hs hr]
theorem emy_cpy {μ : Mu} {Y : List PE} {i j : Nat} (hj : j < 227) (hn : ly_n i = ly_n j) (hk : ly_k j = 100) (h1 : ∀ k, k < ly_n i → ly_s i k = 0 ∧ ly_s j k = 0) : (em μ ++ Y).set j (100, em_r μ i) = em (u2c μ j i) ++ Y := by rw [emy_in hj, em_cpy hj hn hk h1]
/-- a slot: the cell is there, of that kind, and the slot holds that -/
def okk (i k c s : Nat) : Bool := decide (i < 227) && (ly_k i == c) && decide (k < ly_n i) && (ly_s i k == s)
theorem okk_of {i k c s : Nat} (h : okk i k c s = true) : i < 227 ∧ ly_k i = c ∧ k < ly_n i ∧ ly_s i k = s := by
  unfold okk at h
  simp only [Bool.and_eq_true, decide_eq_true_eq, beq_iff_eq] at h
  exact ⟨h.1.1.1, h.1.1.2, h.1.2, h.2⟩
abbrev PS (l : Launch) (E : EY) (D : va_G) (cA : Nat → ClassId) (X : MT) (d : Nat) (fin : Option Value → Mu → Prop) (pc : Nat) (ls : List (Option Value)) (st : List Value) (μ : Mu) : Prop :=
  PW l E.1 D cA (227 + E.2.length) (em_Z + kv_sum E.2) X d (fun r M => ∃ ν, M = em ν ++ E.2 ∧ fin r ν) pc ls st (em μ ++ E.2)
