/-! THE GAME, in natural numbers: trails, walks, who comes next, visits -/
def dist (x y : Nat) : Nat := (x - y) + (y - x)
def tl (a : AS) (t : Nat) : Nat := (tr a t).length
def trv (a : AS) (t v : Nat) : Nat := (tr a t).getD v 0
abbrev px (a : AS) (p : Nat) : Nat := a (4 + 4 * p)
abbrev py (a : AS) (p : Nat) : Nat := a (5 + 4 * p)
def pvx (a : AS) (t v : Nat) : Nat := if v = 0 then 0 else px a (trv a t (v - 1))
def pvy (a : AS) (t v : Nat) : Nat := if v = 0 then 0 else py a (trv a t (v - 1))
/-- is the map lost when the team walks to visit v? -/
def lob (a : AS) (t : Nat) : Nat → Bool
  | 0 => false
  | v + 1 => lob a t v || (trv a t v + 1 == a (38 + 12 * t))
def slo (a : AS) (t v : Nat) : Nat := if lob a t v = true then a 2 else 1
def wk (a : AS) (t v : Nat) : Nat := slo a t v * (dist (px a (trv a t v)) (pvx a t v) + dist (py a (trv a t v)) (pvy a t v))
def lk (a : AS) (t p : Nat) : Nat := if a (37 + 12 * t) / 2 ^ p % 2 = 1 then (a (6 + 4 * p) + 1) / 2 else a (6 + 4 * p)
/-- done, over, free, comes, begins, ends -/
abbrev GT : Type := (Nat → Nat) × (Nat → Nat) × (Nat → Nat) × (Nat → Nat → Nat) × (Nat → Nat → Nat) × (Nat → Nat → Nat)
abbrev dn (g : GT) : Nat → Nat := g.1
abbrev ov (g : GT) : Nat → Nat := g.2.1
abbrev fr (g : GT) : Nat → Nat := g.2.2.1
abbrev cm (g : GT) : Nat → Nat → Nat := g.2.2.2.1
abbrev bg (g : GT) : Nat → Nat → Nat := g.2.2.2.2.1
abbrev en (g : GT) : Nat → Nat → Nat := g.2.2.2.2.2
def up1 (f : Nat → Nat) (k x : Nat) : Nat → Nat := fun j => if j = k then x else f j
def up2 (f : Nat → Nat → Nat) (i k x : Nat) : Nat → Nat → Nat := fun b c => if b = i ∧ c = k then x else f b c
def come (a : AS) (g : GT) (t : Nat) : Nat := ov g t + wk a t (dn g t)
def nxp (a : AS) (g : GT) : Nat → Option Nat
  | 0 => none
  | i + 1 => if dn g i < tl a i then (match nxp a g i with
    | none => some i
    | some t => if come a g i < come a g t then some i else some t) else nxp a g i
def stp (a : AS) (g : GT) (t : Nat) : GT :=
  let v := dn g t
  let p := trv a t v
  let c := come a g t
  let b := if c < fr g p then fr g p else c
  let e := b + lk a t p
  (up1 (dn g) t (v + 1), up1 (ov g) t e, up1 (fr g) p e, up2 (cm g) t v c, up2 (bg g) t v b, up2 (en g) t v e)
def g0 (a : AS) : GT := (fun _ => 0, fun t => a (36 + 12 * t), fun _ => 0, fun _ _ => 0, fun _ _ => 0, fun _ _ => 0)
def gi (a : AS) (n : Nat) : Nat → GT
  | 0 => g0 a
  | k + 1 => match nxp a (gi a n k) n with
    | none => gi a n k
    | some t => stp a (gi a n k) t
def gf (a : AS) (n : Nat) : GT := gi a n 48
theorem up1_s {f : Nat → Nat} {k x : Nat} : up1 f k x k = x := by simp [up1]
theorem up1_n {f : Nat → Nat} {k j x : Nat} (h : j ≠ k) : up1 f k x j = f j := by simp [up1, h]
theorem up2_s {f : Nat → Nat → Nat} {i k x : Nat} : up2 f i k x i k = x := by simp [up2]
theorem up2_n {f : Nat → Nat → Nat} {i k b c x : Nat} (h : ¬ (b = i ∧ c = k)) : up2 f i k x b c = f b c := by simp [up2, h]
theorem nxp_lt {a : AS} {g : GT} : ∀ {n t : Nat}, nxp a g n = some t → t < n ∧ dn g t < tl a t
  | 0, t, h => by simp [nxp] at h
  | n + 1, t, h => by
    unfold nxp at h
    split at h
    next hd =>
      split at h
      next hn =>
        cases h
        exact ⟨Nat.lt_succ_self _, hd⟩
      next u hn =>
        have := nxp_lt hn
        split at h
        · cases h
          exact ⟨Nat.lt_succ_self _, hd⟩
        · cases h
          exact ⟨by omega, this.2⟩
    next hd =>
      have := nxp_lt h
      exact ⟨by omega, this.2⟩
theorem nxp_none {a : AS} {g : GT} : ∀ {n : Nat}, nxp a g n = none → ∀ t, t < n → tl a t ≤ dn g t
  | 0, h, t, ht => absurd ht (Nat.not_lt_zero _)
  | n + 1, h, t, ht => by
    unfold nxp at h
    split at h
    next hd =>
      split at h
      next hn => cases h
      next u hn => split at h <;> cases h
    next hd =>
      rcases Nat.lt_or_eq_of_le (Nat.le_of_lt_succ ht) with h1 | rfl
      · exact nxp_none h t h1
      · omega
theorem nxp_of {a : AS} {g : GT} : ∀ {n : Nat}, (∀ t, t < n → tl a t ≤ dn g t) → nxp a g n = none
  | 0, h => rfl
  | n + 1, h => by
    unfold nxp
    rw [if_neg (by have := h n (Nat.lt_succ_self _); omega)]
    exact nxp_of (fun t ht => h t (by omega))
theorem tr_lt {a : AS} (hw : Wf a) {t : Nat} (ht : t < a 3) {p : Nat} (hp : p ∈ tr a t) : p < 8 ∧ a (7 + 4 * p) = 0 := by
  unfold tr trp at hp
  obtain ⟨h1, h2⟩ := List.mem_filter.mp hp
  obtain ⟨k, hk, rfl⟩ := List.mem_map.mp h1
  exact ⟨(hw.2.2.2.2.2 t ht).2.2.2.2 k (List.mem_range.mp hk), by simpa using h2⟩
theorem trv_mem {a : AS} {t v : Nat} (h : v < tl a t) : trv a t v ∈ tr a t := by
  unfold trv tl at *
  rw [List.getD_eq_getElem?_getD, List.getElem?_eq_getElem h]
  exact List.getElem_mem h
theorem trv_lt {a : AS} (hw : Wf a) {t v : Nat} (ht : t < a 3) (h : v < tl a t) : trv a t v < 8 := (tr_lt hw ht (trv_mem h)).1
theorem tl_le {a : AS} (hw : Wf a) {t : Nat} (ht : t < a 3) : tl a t ≤ 8 := Nat.le_trans (trp_len a t _) (hw.2.2.2.2.2 t ht).2.2.2.1.2
theorem wk_le {a : AS} (hw : Wf a) {t v : Nat} (ht : t < a 3) (h : v < tl a t) : wk a t v ≤ 200 := by
  have hs : slo a t v ≤ 5 := by
    unfold slo
    split
    · exact hw.2.2.1.2
    · decide
  have h1 := hw.2.2.2.2.1 _ (trv_lt hw ht h)
  have hp : pvx a t v ≤ 20 ∧ pvy a t v ≤ 20 := by
    unfold pvx pvy
    split
    · exact ⟨Nat.zero_le _, Nat.zero_le _⟩
    · have h2 := hw.2.2.2.2.1 _ (trv_lt hw ht (v := v - 1) (by omega))
      exact ⟨h2.1, h2.2.1⟩
  have hd : dist (px a (trv a t v)) (pvx a t v) + dist (py a (trv a t v)) (pvy a t v) ≤ 40 := by
    simp only [dist, px, py]
    omega
  unfold wk
  exact Nat.le_trans (Nat.mul_le_mul hs hd) (by decide)
theorem lk_le {a : AS} (hw : Wf a) {t p : Nat} (hp : p < 8) : lk a t p ≤ 15 := by
  have h1 := hw.2.2.2.2.1 _ hp
  unfold lk
  split <;> omega
/-- the bounds that the game keeps -/
def GB (a : AS) (n k : Nat) (g : GT) : Prop := (∀ t, t < n → dn g t ≤ tl a t ∧ ov g t ≤ 200 + 215 * k) ∧ (∀ p, fr g p ≤ 200 + 215 * k) ∧ ∀ t v, t < n → v < dn g t → cm g t v ≤ bg g t v ∧ bg g t v ≤ en g t v ∧ en g t v ≤ 200 + 215 * k
theorem GB.mono {a : AS} {n k : Nat} {g : GT} (h : GB a n k g) : GB a n (k + 1) g :=
  ⟨fun t ht => ⟨(h.1 t ht).1, by have := (h.1 t ht).2; omega⟩, fun p => by have := h.2.1 p; omega, fun t v ht hv => by have := h.2.2 t v ht hv; omega⟩
theorem GB.stp {a : AS} (hw : Wf a) {n k : Nat} {g : GT} (hn : n ≤ a 3) (h : GB a n k g) {t : Nat} (ht : t < n) (hd : dn g t < tl a t) : GB a n (k + 1) (stp a g t) := by
  have h1 := wk_le hw (t := t) (v := dn g t) (by omega) hd
  have h2 := lk_le hw (t := t) (trv_lt hw (t := t) (v := dn g t) (by omega) hd)
  have h3 := h.1 t ht
  have h4 := h.2.1 (trv a t (dn g t))
  have hc : come a g t ≤ 400 + 215 * k := by unfold come; omega
  have hb : (if come a g t < fr g (trv a t (dn g t)) then fr g (trv a t (dn g t)) else come a g t) ≤ 400 + 215 * k ∧ come a g t ≤ (if come a g t < fr g (trv a t (dn g t)) then fr g (trv a t (dn g t)) else come a g t) := by
    split <;> omega
  refine ⟨fun u hu => ?_, fun p => ?_, fun u v hu hv => ?_⟩
  · show up1 (dn g) t _ u ≤ _ ∧ up1 (ov g) t _ u ≤ _
    by_cases e : u = t
    · subst e
      rw [up1_s, up1_s]
      omega
    · rw [up1_n e, up1_n e]
      have := h.1 u hu
      omega
  · show up1 (fr g) _ _ p ≤ _
    by_cases e : p = trv a t (dn g t)
    · subst e
      rw [up1_s]
      omega
    · rw [up1_n e]
      have := h.2.1 p
      omega
  · show up2 (cm g) t _ _ u v ≤ up2 (bg g) t _ _ u v ∧ up2 (bg g) t _ _ u v ≤ up2 (en g) t _ _ u v ∧ up2 (en g) t _ _ u v ≤ _
    have hv : v < up1 (dn g) t (dn g t + 1) u := hv
    by_cases e : u = t ∧ v = dn g t
    · obtain ⟨rfl, rfl⟩ := e
      rw [up2_s, up2_s, up2_s]
      omega
    · rw [up2_n e, up2_n e, up2_n e]
      have hv2 : v < dn g u := by
        by_cases e2 : u = t
        · subst e2
          rw [up1_s] at hv
          omega
        · rw [up1_n e2] at hv
          exact hv
      have := h.2.2 u v hu hv2
      omega
theorem gi_B {a : AS} (hw : Wf a) {n : Nat} (hn : n ≤ a 3) : ∀ k, GB a n k (gi a n k)
  | 0 => ⟨fun t ht => ⟨Nat.zero_le _, (hw.2.2.2.2.2 t (by omega)).1⟩, fun _ => Nat.zero_le _, fun _ _ _ hv => absurd hv (Nat.not_lt_zero _)⟩
  | k + 1 => by
    have ih := gi_B hw hn k
    unfold gi
    split
    next h => exact ih.mono
    next t h => exact ih.stp hw hn (nxp_lt h).1 (nxp_lt h).2
/-- how many visits are made -/
def dsum (g : GT) : Nat → Nat
  | 0 => 0
  | n + 1 => dsum g n + dn g n
theorem dsum_stp {a : AS} {g : GT} {t : Nat} : ∀ n, dsum (stp a g t) n = dsum g n + (if t < n then 1 else 0)
  | 0 => rfl
  | n + 1 => by
    have ih := dsum_stp (a := a) (g := g) (t := t) n
    show dsum (stp a g t) n + up1 (dn g) t (dn g t + 1) n = dsum g n + dn g n + _
    rw [ih]
    by_cases e : n = t
    · subst e
      rw [up1_s, if_neg (Nat.lt_irrefl _), if_pos (Nat.lt_succ_self _)]
      omega
    · rw [up1_n e]
      by_cases h : t < n
      · rw [if_pos h, if_pos (by omega)]
        omega
      · rw [if_neg h, if_neg (by omega)]
        omega
theorem dsum_le {a : AS} {g : GT} : ∀ {n : Nat}, (∀ t, t < n → dn g t ≤ 8) → dsum g n ≤ 8 * n
  | 0, _ => Nat.le_refl _
  | n + 1, h => by
    have h1 := dsum_le (a := a) (g := g) (n := n) (fun t ht => h t (by omega))
    have h2 := h n (Nat.lt_succ_self _)
    show dsum g n + dn g n ≤ _
    omega
/-- the game comes to its end within its 48 steps -/
theorem gi_end {a : AS} (hw : Wf a) {n : Nat} (hn : n ≤ a 3) : ∃ K, K ≤ 48 ∧ (∀ j, j < K → ∃ t, nxp a (gi a n j) n = some t) ∧ nxp a (gi a n K) n = none ∧ ∀ j, K ≤ j → gi a n j = gi a n K := by
  have hn6 : n ≤ 6 := Nat.le_trans hn hw.2.2.2.1
  have key : ∀ k, (∀ j, j < k → ∃ t, nxp a (gi a n j) n = some t) → dsum (gi a n k) n = k := by
    intro k
    induction k with
    | zero =>
      intro _
      have : ∀ m, dsum (gi a n 0) m = 0 := by
        intro m
        induction m with
        | zero => rfl
        | succ m ih => show dsum (gi a n 0) m + 0 = 0; rw [ih]
      exact this n
    | succ k ih =>
      intro h
      have h1 := ih (fun j hj => h j (by omega))
      obtain ⟨t, ht⟩ := h k (Nat.lt_succ_self _)
      have e : gi a n (k + 1) = stp a (gi a n k) t := by rw [gi, ht]
      rw [e, dsum_stp, h1, if_pos (nxp_lt ht).1]
  have hex : ∃ k, nxp a (gi a n k) n = none := by
    by_cases hc : ∀ j, j < 49 → ∃ t, nxp a (gi a n j) n = some t
    · exfalso
      have h1 := key 49 hc
      have hB := gi_B hw hn 49
      have h2 := dsum_le (a := a) (g := gi a n 49) (n := n) (fun t ht => Nat.le_trans (hB.1 t ht).1 (tl_le hw (by omega)))
      omega
    · obtain ⟨j, hj⟩ := Classical.not_forall.mp hc
      obtain ⟨h1, h2⟩ := Classical.not_imp.mp hj
      refine ⟨j, ?_⟩
      cases h3 : nxp a (gi a n j) n with
      | none => rfl
      | some t => exact absurd ⟨t, h3⟩ h2
  obtain ⟨K, hK, hmin⟩ := pk_least (fun k => nxp a (gi a n k) n = none) hex
  have hsome : ∀ j, j < K → ∃ t, nxp a (gi a n j) n = some t := by
    intro j hj
    cases h3 : nxp a (gi a n j) n with
    | none => exact absurd h3 (hmin j hj)
    | some t => exact ⟨t, rfl⟩
  have h1 := key K hsome
  have hB := gi_B hw hn K
  have h2 := dsum_le (a := a) (g := gi a n K) (n := n) (fun t ht => Nat.le_trans (hB.1 t ht).1 (tl_le hw (by omega)))
  refine ⟨K, by omega, hsome, hK, ?_⟩
  intro j hj
  obtain ⟨d, rfl⟩ : ∃ d, j = K + d := ⟨j - K, by omega⟩
  induction d with
  | zero => rfl
  | succ d ih =>
    have e : gi a n (K + d) = gi a n K := ih (by omega)
    show gi a n ((K + d) + 1) = _
    rw [gi, e, hK]
theorem gf_end {a : AS} (hw : Wf a) {n : Nat} (hn : n ≤ a 3) : nxp a (gf a n) n = none ∧ GB a n 48 (gf a n) ∧ ∀ t, t < n → dn (gf a n) t = tl a t := by
  obtain ⟨K, h1, h2, h3, h4⟩ := gi_end hw hn
  have hB : GB a n 48 (gf a n) := gi_B hw hn 48
  have e : gf a n = gi a n K := h4 48 h1
  have hN : nxp a (gf a n) n = none := by rw [e]; exact h3
  exact ⟨hN, hB, fun t ht => Nat.le_antisymm (hB.1 t ht).1 (nxp_none hN t ht)⟩
/-! prefixes of the trail -/
theorem trp_app (a : AS) (t i : Nat) : ∀ d, ∃ r, trp a t (i + d) = trp a t i ++ r
  | 0 => ⟨[], by simp⟩
  | d + 1 => by
    obtain ⟨r, hr⟩ := trp_app a t i d
    refine ⟨r ++ (if a (7 + 4 * a (40 + 12 * t + (i + d))) = 0 then [a (40 + 12 * t + (i + d))] else []), ?_⟩
    rw [← Nat.add_assoc, trp_s, hr, List.append_assoc]
theorem trv_at {a : AS} {t i : Nat} (hi : i < a (39 + 12 * t)) (ho : a (7 + 4 * a (40 + 12 * t + i)) = 0) : trv a t (trp a t i).length = a (40 + 12 * t + i) ∧ (trp a t i).length < tl a t := by
  obtain ⟨r, hr⟩ := trp_app a t (i + 1) (a (39 + 12 * t) - (i + 1))
  rw [show i + 1 + (a (39 + 12 * t) - (i + 1)) = a (39 + 12 * t) by omega, trp_s, if_pos ho] at hr
  have e : tr a t = trp a t i ++ [a (40 + 12 * t + i)] ++ r := hr
  constructor
  · unfold trv
    rw [e, List.append_assoc, List.getD_eq_getElem?_getD, List.getElem?_append_right (Nat.le_refl _), Nat.sub_self]
    rfl
  · unfold tl
    rw [e]
    simp
theorem trp_le_tl {a : AS} {t i : Nat} (hi : i ≤ a (39 + 12 * t)) : (trp a t i).length ≤ tl a t := by
  obtain ⟨r, hr⟩ := trp_app a t i (a (39 + 12 * t) - i)
  rw [show i + (a (39 + 12 * t) - i) = a (39 + 12 * t) by omega] at hr
  have e : tr a t = trp a t i ++ r := hr
  unfold tl
  rw [e]
  simp
theorem abs_nI {x y : Nat} (hx : x < 2 ^ 30) (hy : y < 2 ^ 30) : (if 0 ≤ nI x - nI y then nI x - nI y else 0 - (nI x - nI y)) = nI (dist x y) := by
  rcases Nat.le_total y x with h | h
  · rw [pk_sub h, if_pos (nI_pos' (by omega))]
    congr 1
    unfold dist
    omega
  · have hd : dist x y = y - x := by unfold dist; omega
    by_cases e : x = y
    · subst e
      rw [pk_sub (Nat.le_refl _), if_pos (nI_pos' (by omega))]
      congr 1
      unfold dist
      omega
    · have hneg : nI x - nI y < 0 := pk_sneg hy (by omega)
      rw [if_neg (fun q => absurd hneg (Int32.not_lt.mpr q)), hd]
      rw [show (0 : Int32) - (nI x - nI y) = nI y - nI x by rw [Int32.zero_sub, Int32.neg_sub], pk_sub h]
