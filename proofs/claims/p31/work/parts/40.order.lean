/-! what the game's visits are: walks follow looks, looks at a place follow each other by minutes and numbers -/
/-- the minute from which team t walks to its visit v -/
def atg (a : AS) (g : GT) (t : Nat) : Nat → Nat
  | 0 => a (36 + 12 * t)
  | v + 1 => en g t v
def lx (c t d u : Nat) : Prop := c < d ∨ (c = d ∧ t < u)
theorem nxp_min {a : AS} {g : GT} : ∀ {n t : Nat}, nxp a g n = some t → ∀ u, u < n → dn g u < tl a u → u = t ∨ lx (come a g t) t (come a g u) u
  | 0, t, h, u, hu, _ => absurd hu (Nat.not_lt_zero _)
  | n + 1, t, h, u, hu, hd => by
    unfold nxp at h
    split at h
    next hn =>
      split at h
      next hnone =>
        have e0 : n = t := by injection h
        by_cases e : u = n
        · exact Or.inl (by omega)
        · have := nxp_none hnone u (by omega)
          omega
      next s hs =>
        split at h
        next hc =>
          have e0 : n = t := by injection h
          by_cases e : u = n
          · exact Or.inl (by omega)
          · right
            rw [← e0]
            rcases nxp_min hs u (by omega) hd with h2 | h2
            · rw [h2]
              exact Or.inl hc
            · rcases h2 with h2 | ⟨h2, _⟩
              · exact Or.inl (by omega)
              · exact Or.inl (by omega)
        next hc =>
          have e0 : s = t := by injection h
          by_cases e : u = n
          · right
            have h3 := (nxp_lt hs).1
            rw [e, ← e0]
            by_cases e2 : come a g s = come a g n
            · exact Or.inr ⟨e2, h3⟩
            · exact Or.inl (by omega)
          · rw [← e0]
            exact nxp_min hs u (by omega) hd
    next hn =>
      by_cases e : u = n
      · rw [e] at hd
        exact absurd hd hn
      · exact nxp_min h u (by omega) hd
theorem lk_pos {a : AS} (hw : Wf a) {t p : Nat} (hp : p < 8) : 1 ≤ lk a t p := by
  have h1 := hw.2.2.2.2.1 _ hp
  unfold lk
  split <;> omega
def GO (a : AS) (n : Nat) (g : GT) : Prop :=
  (∀ t, t < n → ov g t = atg a g t (dn g t)) ∧
  (∀ t v, t < n → v < dn g t → cm g t v = atg a g t v + wk a t v ∧ en g t v = bg g t v + lk a t (trv a t v)) ∧
  (∀ u w t, u < n → w < dn g u → t < n → dn g t < tl a t → lx (cm g u w) u (come a g t) t) ∧
  (∀ t v, t < n → v < dn g t → (∀ u w, u < n → w < dn g u → trv a u w = trv a t v → lx (cm g u w) u (cm g t v) t → en g u w ≤ bg g t v) ∧ (bg g t v = cm g t v ∨ ∃ u w, u < n ∧ w < dn g u ∧ trv a u w = trv a t v ∧ lx (cm g u w) u (cm g t v) t ∧ en g u w = bg g t v)) ∧
  ∀ p, (∀ u w, u < n → w < dn g u → trv a u w = p → en g u w ≤ fr g p) ∧ (fr g p = 0 ∨ ∃ u w, u < n ∧ w < dn g u ∧ trv a u w = p ∧ en g u w = fr g p)
theorem GO.step {a : AS} {n t0 c b e p x : Nat} {g g' : GT} (h : GO a n g) (h0 : t0 < n) (hd : x < tl a t0) (hx : x = dn g t0) (hp : p = trv a t0 x) (hc : c = come a g t0) (hb1 : c ≤ b) (hb2 : fr g p ≤ b) (hb3 : b = c ∨ b = fr g p) (he : e = b + lk a t0 p) (hlk : 1 ≤ lk a t0 p)
    (hmin : ∀ u, u < n → dn g u < tl a u → u = t0 ∨ lx c t0 (come a g u) u)
    (d0 : dn g' t0 = x + 1) (d1 : ∀ u, u ≠ t0 → dn g' u = dn g u) (o0 : ov g' t0 = e) (o1 : ∀ u, u ≠ t0 → ov g' u = ov g u) (f0 : fr g' p = e) (f1 : ∀ q, q ≠ p → fr g' q = fr g q)
    (n1 : cm g' t0 x = c) (n2 : bg g' t0 x = b) (n3 : en g' t0 x = e) (c1 : ∀ u w, w < dn g u → cm g' u w = cm g u w ∧ bg g' u w = bg g u w ∧ en g' u w = en g u w) : GO a n g' := by
  obtain ⟨h1, h2, h3, h4, h5⟩ := h
  have no : ∀ u w, w < dn g' u → w < dn g u ∨ (u = t0 ∧ w = x) := by
    intro u w hw
    by_cases e0 : u = t0
    · subst e0
      rw [d0] at hw
      omega
    · rw [d1 u e0] at hw
      exact Or.inl hw
  have up : ∀ u w, w < dn g u → w < dn g' u := by
    intro u w hw
    by_cases e0 : u = t0
    · subst e0
      rw [d0]
      omega
    · rw [d1 u e0]
      exact hw
  have hxn : x < dn g' t0 := by rw [d0]; exact Nat.lt_succ_self _
  have at1 : ∀ u v, v ≤ dn g u → atg a g' u v = atg a g u v := by
    intro u v hv
    cases v with
    | zero => rfl
    | succ v => exact (c1 u v (by omega)).2.2
  have J0 : ∀ u w, u < n → w < dn g u → lx (cm g u w) u c t0 := fun u w hu hw => by
    rw [hc]
    exact h3 u w t0 hu hw h0 (by omega)
  have cg : ∀ u, u ≠ t0 → come a g' u = come a g u := by
    intro u hu
    unfold come
    rw [o1 u hu, d1 u hu]
  have cg0 : e ≤ come a g' t0 := by
    unfold come
    rw [o0]
    omega
  refine ⟨?_, ?_, ?_, ?_, ?_⟩
  · intro t ht
    by_cases e0 : t = t0
    · subst e0
      rw [d0, o0]
      exact n3.symm
    · rw [o1 t e0, d1 t e0, h1 t ht]
      exact (at1 t _ (Nat.le_refl _)).symm
  · intro t v ht hv
    rcases no t v hv with q | ⟨rfl, rfl⟩
    · have g1 := c1 t v q
      rw [g1.1, g1.2.1, g1.2.2, at1 t v (by omega)]
      exact h2 t v ht q
    · rw [n1, n2, n3, at1 t v (by omega), ← hp]
      refine ⟨?_, he⟩
      rw [hc]
      unfold come
      rw [h1 t ht, ← hx]
  · intro u w t hu hw ht hdt
    rcases no u w hw with q | ⟨rfl, rfl⟩
    · rw [(c1 u w q).1]
      by_cases e0 : t = t0
      · subst e0
        have := J0 u w hu q
        rcases this with h9 | ⟨h9, _⟩
        · exact Or.inl (by omega)
        · exact Or.inl (by omega)
      · rw [cg t e0]
        rw [d1 t e0] at hdt
        exact h3 u w t hu q ht hdt
    · rw [n1]
      by_cases e0 : t = u
      · subst e0
        exact Or.inl (by omega)
      · rw [cg t e0]
        rw [d1 t e0] at hdt
        rcases hmin t ht hdt with h9 | h9
        · exact absurd h9 e0
        · exact h9
  · intro t v ht hv
    rcases no t v hv with q | ⟨rfl, rfl⟩
    · have g1 := c1 t v q
      rw [g1.1, g1.2.1]
      obtain ⟨k1, k2⟩ := h4 t v ht q
      refine ⟨fun u w hu hw hpu hl => ?_, ?_⟩
      · rcases no u w hw with q2 | ⟨rfl, rfl⟩
        · have g2 := c1 u w q2
          rw [g2.1] at hl
          rw [g2.2.2]
          exact k1 u w hu q2 hpu hl
        · exfalso
          rw [n1] at hl
          have := J0 t v ht q
          unfold lx at hl this
          omega
      · rcases k2 with k2 | ⟨u, w, hu, hw, k3, k4, k5⟩
        · exact Or.inl k2
        · right
          have g2 := c1 u w hw
          refine ⟨u, w, hu, up u w hw, k3, ?_, ?_⟩
          · rw [g2.1]
            exact k4
          · rw [g2.2.2]
            exact k5
    · rw [n1, n2, ← hp]
      obtain ⟨k1, k2⟩ := h5 p
      refine ⟨fun u w hu hw hpu hl => ?_, ?_⟩
      · rcases no u w hw with q2 | ⟨rfl, rfl⟩
        · rw [(c1 u w q2).2.2]
          exact Nat.le_trans (k1 u w hu q2 hpu) hb2
        · exfalso
          rw [n1] at hl
          unfold lx at hl
          omega
      · rcases hb3 with q2 | q2
        · exact Or.inl q2
        · rcases k2 with k2 | ⟨u, w, hu, hw, k3, k4⟩
          · left
            omega
          · right
            have g2 := c1 u w hw
            refine ⟨u, w, hu, up u w hw, k3, ?_, ?_⟩
            · rw [g2.1]
              exact J0 u w hu hw
            · rw [g2.2.2, k4, q2]
  · intro q
    obtain ⟨k1, k2⟩ := h5 q
    by_cases eq : q = p
    · subst eq
      rw [f0]
      refine ⟨fun u w hu hw hpu => ?_, Or.inr ⟨t0, x, h0, hxn, hp.symm, n3⟩⟩
      rcases no u w hw with q2 | ⟨rfl, rfl⟩
      · rw [(c1 u w q2).2.2]
        have := k1 u w hu q2 hpu
        omega
      · rw [n3]
        exact Nat.le_refl _
    · rw [f1 q eq]
      refine ⟨fun u w hu hw hpu => ?_, ?_⟩
      · rcases no u w hw with q2 | ⟨rfl, rfl⟩
        · rw [(c1 u w q2).2.2]
          exact k1 u w hu q2 hpu
        · exact absurd (hpu.symm.trans hp.symm) eq
      · rcases k2 with k2 | ⟨u, w, hu, hw, k3, k4⟩
        · exact Or.inl k2
        · right
          refine ⟨u, w, hu, up u w hw, k3, ?_⟩
          rw [(c1 u w hw).2.2]
          exact k4
theorem GO.stp {a : AS} (hw : Wf a) {n : Nat} (hn : n ≤ a 3) {g : GT} (h : GO a n g) {t0 : Nat} (ht : nxp a g n = some t0) : GO a n (stp a g t0) := by
  obtain ⟨h0, hd⟩ := nxp_lt ht
  have hp8 := trv_lt hw (t := t0) (v := dn g t0) (by omega) hd
  have hlk := lk_pos hw (t := t0) hp8
  refine GO.step (x := dn g t0) (c := come a g t0) (p := trv a t0 (dn g t0)) (b := if come a g t0 < fr g (trv a t0 (dn g t0)) then fr g (trv a t0 (dn g t0)) else come a g t0) h h0 hd rfl rfl rfl ?_ ?_ ?_ rfl hlk ?_ up1_s (fun u hu => up1_n hu) up1_s (fun u hu => up1_n hu) up1_s (fun q hq => up1_n hq) up2_s up2_s up2_s ?_
  · split <;> omega
  · split <;> omega
  · split
    · exact Or.inr rfl
    · exact Or.inl rfl
  · exact nxp_min ht
  · intro u w hw'
    have hne : ¬ (u = t0 ∧ w = dn g t0) := by
      rintro ⟨rfl, rfl⟩
      omega
    exact ⟨up2_n hne, up2_n hne, up2_n hne⟩
theorem gi_O {a : AS} (hw : Wf a) {n : Nat} (hn : n ≤ a 3) : ∀ k, GO a n (gi a n k)
  | 0 => ⟨fun t ht => rfl, fun t v _ hv => absurd hv (Nat.not_lt_zero _), fun u w t _ hv => absurd hv (Nat.not_lt_zero _), fun t v _ hv => absurd hv (Nat.not_lt_zero _), fun p => ⟨fun u w _ hv => absurd hv (Nat.not_lt_zero _), Or.inl rfl⟩⟩
  | k + 1 => by
    have ih := gi_O hw hn k
    unfold gi
    split
    next h => exact ih
    next t h => exact ih.stp hw hn h
/-! at the end of the game -/
def ato (a : AS) (n t v : Nat) : Nat := atg a (gf a n) t v
theorem ato_0 {a : AS} {n t : Nat} : ato a n t 0 = a (36 + 12 * t) := rfl
theorem ato_s {a : AS} {n t v : Nat} : ato a n t (v + 1) = EN a n t v := rfl
theorem OV_ato {a : AS} (hw : Wf a) {n : Nat} (hn : n ≤ a 3) {t : Nat} (ht : t < n) : OV a n t = ato a n t (tl a t) := by
  have h := (gi_O hw hn 48).1 t ht
  have e := (gf_end hw hn).2.2 t ht
  show ov (gi a n 48) t = _
  rw [h, show dn (gi a n 48) t = tl a t from e]
  rfl
theorem V_eq {a : AS} (hw : Wf a) {n : Nat} (hn : n ≤ a 3) {t v : Nat} (ht : t < n) (hv : v < tl a t) : CM a n t v = ato a n t v + wk a t v ∧ EN a n t v = BG a n t v + lk a t (trv a t v) ∧ CM a n t v ≤ BG a n t v ∧ CM a n t v < EN a n t v ∧ EN a n t v ≤ 10520 := by
  have e := (gf_end hw hn).2.2 t ht
  have h := (gi_O hw hn 48).2.1 t v ht (by rw [show dn (gi a n 48) t = tl a t from e]; exact hv)
  have h2 := (gf_end hw hn).2.1.2.2 t v ht (by rw [e]; exact hv)
  have h3 := lk_pos hw (t := t) (trv_lt hw (by omega) hv)
  refine ⟨h.1, h.2, h2.1, ?_, h2.2.2⟩
  have h4 : EN a n t v = BG a n t v + lk a t (trv a t v) := h.2
  have h5 : CM a n t v ≤ BG a n t v := h2.1
  omega
theorem ato_lt {a : AS} (hw : Wf a) {n : Nat} (hn : n ≤ a 3) {t v : Nat} (ht : t < n) (hv : v < tl a t) : ato a n t v < ato a n t (v + 1) := by
  have h := V_eq hw hn ht hv
  rw [ato_s]
  omega
theorem ato_le {a : AS} (hw : Wf a) {n : Nat} (hn : n ≤ a 3) {t v : Nat} (ht : t < n) : ∀ w, v ≤ w → w ≤ tl a t → ato a n t v ≤ ato a n t w
  | 0, h, _ => by
    have e : v = 0 := by omega
    rw [e]
    exact Nat.le_refl _
  | w + 1, h, h2 => by
    by_cases e : v = w + 1
    · rw [e]
      exact Nat.le_refl _
    · have h1 := ato_le hw hn (v := v) ht w (by omega) (by omega)
      have h3 := ato_lt hw hn ht (v := w) (by omega)
      omega
theorem EN_ato {a : AS} (hw : Wf a) {n : Nat} (hn : n ≤ a 3) {t v w : Nat} (ht : t < n) (h : v < w) (hw2 : w ≤ tl a t) : EN a n t v ≤ ato a n t w := by
  have := ato_le hw hn (v := v + 1) ht w h hw2
  rw [ato_s] at this
  exact this
theorem ato_mx {a : AS} (hw : Wf a) {n : Nat} (hn : n ≤ a 3) {t v : Nat} (ht : t < n) (hv : v ≤ tl a t) : ato a n t v ≤ 10520 := by
  have := ato_le hw hn (v := v) ht (tl a t) hv (Nat.le_refl _)
  rw [← OV_ato hw hn ht] at this
  exact Nat.le_trans this (ov_le hw hn ht)
theorem start_ato {a : AS} (hw : Wf a) {n : Nat} (hn : n ≤ a 3) {t v : Nat} (ht : t < n) (hv : v ≤ tl a t) : a (36 + 12 * t) ≤ ato a n t v := by
  have := ato_le hw hn (v := 0) ht v (Nat.zero_le _) hv
  rw [ato_0] at this
  exact this
/-- who looks at a place before: each is gone when the look begins, and one of them goes just then, if it waits -/
theorem Q_ord {a : AS} (hw : Wf a) {n : Nat} (hn : n ≤ a 3) {t v : Nat} (ht : t < n) (hv : v < tl a t) :
    (∀ u w, u < n → w < tl a u → trv a u w = trv a t v → lx (CM a n u w) u (CM a n t v) t → EN a n u w ≤ BG a n t v) ∧
    (BG a n t v = CM a n t v ∨ ∃ u w, u < n ∧ w < tl a u ∧ trv a u w = trv a t v ∧ lx (CM a n u w) u (CM a n t v) t ∧ EN a n u w = BG a n t v) := by
  have e := (gf_end hw hn).2.2
  have h := (gi_O hw hn 48).2.2.2.1 t v ht (by rw [show dn (gi a n 48) t = tl a t from e t ht]; exact hv)
  refine ⟨fun u w hu hwu => h.1 u w hu (by rw [show dn (gi a n 48) u = tl a u from e u hu]; exact hwu), ?_⟩
  rcases h.2 with h2 | ⟨u, w, hu, h3, h4⟩
  · exact Or.inl h2
  · exact Or.inr ⟨u, w, hu, by rw [← show dn (gi a n 48) u = tl a u from e u hu]; exact h3, h4⟩
/-! who is where, who is told what -/
theorem tld_at {a : AS} (hw : Wf a) {n : Nat} (hn : n ≤ a 3) {t v m : Nat} (ht : t < n) (hv : v < tl a t) (h1 : ato a n t v ≤ m) (h2 : m < EN a n t v) : tld a n t m = some v := by
  unfold tld
  rw [if_neg (by have := start_ato hw hn ht (v := v) (by omega); omega)]
  refine fstN_some.mpr ⟨hv, by simpa using h2, fun j hj => ?_⟩
  have := EN_ato hw hn ht hj (by omega)
  simp only [decide_eq_true_eq]
  omega
theorem tld_end {a : AS} (hw : Wf a) {n : Nat} (hn : n ≤ a 3) {t m : Nat} (ht : t < n) (h1 : ato a n t (tl a t) ≤ m) : tld a n t m = none := by
  unfold tld
  split
  · rfl
  · refine fstN_none.mpr (fun j hj => ?_)
    have := EN_ato hw hn ht hj (Nat.le_refl _)
    simp only [decide_eq_true_eq]
    omega
theorem whr_at {a : AS} (hw : Wf a) {n : Nat} (hn : n ≤ a 3) {t v m : Nat} (ht : t < n) (hv : v < tl a t) (h1 : CM a n t v ≤ m) (h2 : m < EN a n t v) : whr a n t m = some v := by
  unfold whr
  refine fstN_some.mpr ⟨hv, by simp only [decide_eq_true_eq]; exact ⟨h1, h2⟩, fun j hj => ?_⟩
  have h3 := EN_ato hw hn ht hj (by omega)
  have h4 := (V_eq hw hn ht hv).1
  simp only [decide_eq_true_eq]
  omega
theorem whr_walk {a : AS} (hw : Wf a) {n : Nat} (hn : n ≤ a 3) {t v m : Nat} (ht : t < n) (hv : v ≤ tl a t) (h1 : ato a n t v ≤ m) (h2 : v < tl a t → m < CM a n t v) : whr a n t m = none := by
  unfold whr
  refine fstN_none.mpr (fun j hj => ?_)
  simp only [decide_eq_true_eq]
  by_cases e : j < v
  · have := EN_ato hw hn ht e hv
    omega
  · have h3 := h2 (by omega)
    have h4 := ato_le hw hn (v := v) ht j (by omega) (by omega)
    have h5 := (V_eq hw hn ht hj).1
    have h6 := (V_eq hw hn ht (v := v) (by omega)).1
    by_cases e2 : j = v
    · subst e2
      omega
    · have h7 := ato_lt hw hn ht (v := v) (by omega)
      have h8 := ato_le hw hn (v := v + 1) ht j (by omega) (by omega)
      have h9 := (V_eq hw hn ht (v := v) (by omega)).2.2.2.1
      rw [ato_s] at h8
      omega
