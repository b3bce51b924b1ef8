/-! the law's rows follow the state: one change after the other -/
def TD (a : AS) (r h lo : Nat → Int32) (t : Nat) : Prop := ((∀ k, k < 8 → r (8 * t + k) = if k < a (39 + 12 * t) then nI (a (40 + 12 * t + k)) else -1) ∧ h t = nI (a (37 + 12 * t)) ∧ lo t = nI (a (38 + 12 * t)) - nI 1) ∧ ∀ i j, i < a (39 + 12 * t) → j < a (39 + 12 * t) → a (40 + 12 * t + i) = a (40 + 12 * t + j) → i = j
def GI (a : AS) (r h lo : Nat → Int32) : Prop := ∀ t, t < a 3 → TD a r h lo t
theorem GI.li {c : CS} {r h lo : Nat → Int32} (g : GI (na c) r h lo) : LI c r h lo := fun t ht => (g t ht).1
theorem GI.dr {a : AS} {r h lo : Nat → Int32} (g : GI a r h lo) : DR a := fun t ht => (g t ht).2
theorem TD.cg {a a' : AS} {r h lo r' h' lo' : Nat → Int32} {t : Nat} (g : TD a r h lo t) (hl : a (39 + 12 * t) ≤ 8) (ha : ∀ j, 37 + 12 * t ≤ j → j < 48 + 12 * t → a' j = a j) (hr : ∀ k, k < 8 → r' (8 * t + k) = r (8 * t + k)) (hh : h' t = h t) (hlo : lo' t = lo t) : TD a' r' h' lo' t := by
  obtain ⟨⟨g1, g2, g3⟩, g4⟩ := g
  refine ⟨⟨fun k hk => ?_, ?_, ?_⟩, fun i j hi hj e => ?_⟩
  · rw [hr k hk, g1 k hk, ha _ (by omega) (by omega), ha (40 + 12 * t + k) (by omega) (by omega)]
  · rw [hh, g2, ha _ (by omega) (by omega)]
  · rw [hlo, g3, ha _ (by omega) (by omega)]
  · rw [ha _ (by omega) (by omega)] at hi hj
    rw [ha _ (by omega) (by omega), ha _ (by omega) (by omega)] at e
    exact g4 i j hi hj e
theorem GI.cg {a a' : AS} {r h lo : Nat → Int32} (hw : Wf a) (g : GI a r h lo) (h3 : a' 3 = a 3) (ha : ∀ j, 36 ≤ j → a' j = a j) : GI a' r h lo := fun t ht => by
  rw [h3] at ht
  exact (g t ht).cg (hw.tm ht).2.2.2.1.2 (fun j h1 _ => ha j (by omega)) (fun _ _ => rfl) rfl rfl
theorem g_team {a : AS} {r r2 h lo : Nat → Int32} {v ln n : Nat} {pd pl : Nat → Nat} (hw : Wf a) (g : GI a r h lo) (hP : PP pd ln n pl) (hI : PI pl n) (h1 : 1 ≤ n) (h8 : n ≤ 8) (hr1 : ∀ j, ¬ (8 * a 3 ≤ j ∧ j < 8 * a 3 + 8) → r2 j = r j) (hr2 : ∀ k, k < 8 → r2 (8 * a 3 + k) = if k < n then nI (pl k) else -1) : GI (newt a v pd ln) r2 (upi h (a 3) 0) (upi lo (a 3) (-1)) := by
  have hn : (ln + 1) / 2 = n := by have := hP.1; omega
  intro t ht
  rw [newt_3] at ht
  by_cases e : t = a 3
  · subst e
    have hrt : ∀ k, k < n → newt a v pd ln (40 + 12 * a 3 + k) = pl k := fun k hk => by
      rw [newt_route (by omega), hn, if_pos hk, hP.2.1 k hk, Nat.add_sub_cancel_left]
    refine ⟨⟨fun k hk => ?_, ?_, ?_⟩, fun i j hi hj e => ?_⟩
    · rw [hr2 k hk, newt_many, hn]
      by_cases hk2 : k < n
      · rw [if_pos hk2, if_pos hk2, hrt k hk2]
      · rw [if_neg hk2, if_neg hk2]
    · rw [upi_s, newt_hints]
      rfl
    · rw [upi_s, newt_lost]
      decide
    · rw [newt_many, hn] at hi hj
      rw [hrt i hi, hrt j hj] at e
      exact hI.2 i j hi hj e
  · have ht2 : t < a 3 := by omega
    exact (g t ht2).cg (hw.tm ht2).2.2.2.1.2 (fun j h1 h2 => newt_n (by omega) (Or.inl (by omega))) (fun k hk => hr1 _ (by omega)) (upi_n e) (upi_n e)
theorem g_route {a : AS} {r r2 h lo : Nat → Int32} {t ln n : Nat} {pd pl : Nat → Nat} (hw : Wf a) (ht0 : t < a 3) (g : GI a r h lo) (hP : PP pd ln n pl) (hI : PI pl n) (h1 : 1 ≤ n) (h8 : n ≤ 8) (hr1 : ∀ j, ¬ (8 * t ≤ j ∧ j < 8 * t + 8) → r2 j = r j) (hr2 : ∀ k, k < 8 → r2 (8 * t + k) = if k < n then nI (pl k) else -1) : GI (tk a t pd ln) r2 h lo := by
  have hn : (ln + 1) / 2 = n := by have := hP.1; omega
  have h3 : tk a t pd ln 3 = a 3 := tk_n (by omega)
  intro u hu
  rw [h3] at hu
  by_cases e : u = t
  · subst e
    have hrt : ∀ k, k < n → tk a u pd ln (40 + 12 * u + k) = pl k := fun k hk => by
      rw [tk_s (by omega), hn, if_pos hk, hP.2.1 k hk, Nat.add_sub_cancel_left]
    obtain ⟨⟨-, g2, g3⟩, -⟩ := g u hu
    refine ⟨⟨fun k hk => ?_, ?_, ?_⟩, fun i j hi hj e => ?_⟩
    · rw [hr2 k hk, tk_m, hn]
      by_cases hk2 : k < n
      · rw [if_pos hk2, if_pos hk2, hrt k hk2]
      · rw [if_neg hk2, if_neg hk2]
    · rw [g2, tk_n (by omega)]
    · rw [g3, tk_n (by omega)]
    · rw [tk_m, hn] at hi hj
      rw [hrt i hi, hrt j hj] at e
      exact hI.2 i j hi hj e
  · exact (g u hu).cg (hw.tm hu).2.2.2.1.2 (fun j h1 h2 => tk_n (by omega)) (fun k hk => hr1 _ (by omega)) rfl rfl
theorem g_leave {a : AS} {r r2 h h2 lo lo2 : Nat → Int32} {t : Nat} (hw : Wf a) (ht0 : t < a 3) (g : GI a r h lo) (hr : ∀ j, r2 j = if 8 * t ≤ j ∧ j < 40 then r (j + 8) else r j) (hh : ∀ j, h2 j = if t ≤ j ∧ j < 5 then h (j + 1) else h j) (hlo : ∀ j, lo2 j = if t ≤ j ∧ j < 5 then lo (j + 1) else lo j) : GI (lv a t) r2 h2 lo2 := by
  have h6 := hw.t6
  intro u hu
  rw [lv_3] at hu
  by_cases e : u < t
  · have hu2 : u < a 3 := by omega
    refine (g u hu2).cg (hw.tm hu2).2.2.2.1.2 (fun j h1 h2 => lv_n ht0 (by omega) (by omega)) (fun k hk => ?_) ?_ ?_
    · rw [hr, if_neg (by omega)]
    · rw [hh, if_neg (by omega)]
    · rw [hlo, if_neg (by omega)]
  · have hu2 : u + 1 < a 3 := by omega
    have key : ∀ j, 36 + 12 * u ≤ j → j < 48 + 12 * u → lv a t j = a (j + 12) := fun j h1 h2 => lv_s (by omega) (by omega)
    have hl := (hw.tm hu2).2.2.2.1.2
    obtain ⟨⟨g1, g2, g3⟩, g4⟩ := g (u + 1) hu2
    have e1 : lv a t (39 + 12 * u) = a (39 + 12 * (u + 1)) := key _ (by omega) (by omega)
    have e2 : ∀ k, k < 8 → lv a t (40 + 12 * u + k) = a (40 + 12 * (u + 1) + k) := fun k hk => by
      rw [key _ (by omega) (by omega)]
      congr 1
      omega
    refine ⟨⟨fun k hk => ?_, ?_, ?_⟩, fun i j hi hj e => ?_⟩
    · rw [hr, if_pos (by omega), e1, e2 k hk, ← g1 k hk]
      congr 1
      omega
    · rw [hh, if_pos (by omega), g2, key _ (by omega) (by omega)]
      rfl
    · rw [hlo, if_pos (by omega), g3, key _ (by omega) (by omega)]
      rfl
    · rw [e1] at hi hj
      rw [e2 i (by omega), e2 j (by omega)] at e
      exact g4 i j hi hj e
theorem g_start {a : AS} {r h lo : Nat → Int32} {t x : Nat} (hw : Wf a) (g : GI a r h lo) : GI (up1 a (36 + 12 * t) x) r h lo := fun u hu => by
  rw [up1_n (by omega)] at hu
  exact (g u hu).cg (hw.tm hu).2.2.2.1.2 (fun j h1 h2 => up1_n (by omega)) (fun _ _ => rfl) rfl rfl
theorem g_hint {a : AS} {r h lo : Nat → Int32} {t x : Nat} (hw : Wf a) (g : GI a r h lo) : GI (up1 a (37 + 12 * t) x) r (upi h t (nI x)) lo := fun u hu => by
  rw [up1_n (by omega)] at hu
  by_cases e : u = t
  · subst e
    obtain ⟨⟨g1, g2, g3⟩, g4⟩ := g u hu
    refine ⟨⟨fun k hk => ?_, by rw [upi_s, up1_s], by rw [g3, up1_n (by omega)]⟩, fun i j hi hj e => ?_⟩
    · rw [g1 k hk, up1_n (by omega), up1_n (by omega)]
    · rw [up1_n (by omega)] at hi hj
      rw [up1_n (by omega), up1_n (by omega)] at e
      exact g4 i j hi hj e
  · exact (g u hu).cg (hw.tm hu).2.2.2.1.2 (fun j h1 h2 => up1_n (by omega)) (fun _ _ => rfl) (upi_n e) rfl
theorem g_lose {a : AS} {r h lo : Nat → Int32} {t x : Nat} (hw : Wf a) (g : GI a r h lo) : GI (up1 a (38 + 12 * t) x) r h (upi lo t (nI x - nI 1)) := fun u hu => by
  rw [up1_n (by omega)] at hu
  by_cases e : u = t
  · subst e
    obtain ⟨⟨g1, g2, g3⟩, g4⟩ := g u hu
    refine ⟨⟨fun k hk => ?_, by rw [g2, up1_n (by omega)], by rw [upi_s, up1_s]⟩, fun i j hi hj e => ?_⟩
    · rw [g1 k hk, up1_n (by omega), up1_n (by omega)]
    · rw [up1_n (by omega)] at hi hj
      rw [up1_n (by omega), up1_n (by omega)] at e
      exact g4 i j hi hj e
  · exact (g u hu).cg (hw.tm hu).2.2.2.1.2 (fun j h1 h2 => up1_n (by omega)) (fun _ _ => rfl) rfl (upi_n e)
theorem xch_off {a : AS} {t i j q : Nat} (h : ¬ (40 + 12 * t ≤ q ∧ q < 40 + 12 * t + a (39 + 12 * t))) : xch a t i j q = a q := if_neg h
theorem xch_at {a : AS} {t i j k : Nat} (hk : k < a (39 + 12 * t)) : xch a t i j (40 + 12 * t + k) = a (40 + 12 * t + (if k = j then i else if k = i then j else k)) := by
  unfold xch rt
  rw [if_pos ⟨by omega, by omega⟩, Nat.add_sub_cancel_left]
  unfold up1
  by_cases e1 : k = j
  · rw [if_pos e1, if_pos e1]
  · rw [if_neg e1, if_neg e1]
    by_cases e2 : k = i
    · rw [if_pos e2, if_pos e2]
    · rw [if_neg e2, if_neg e2]
theorem g_xch {a : AS} {r h lo : Nat → Int32} {t i j : Nat} (hw : Wf a) (ht0 : t < a 3) (hi : i < a (39 + 12 * t)) (hj : j < a (39 + 12 * t)) (hij : i ≠ j) (g : GI a r h lo) : GI (xch a t i j) (upi (upi r (8 * t + i) (r (8 * t + j))) (8 * t + j) (r (8 * t + i))) h lo := fun u hu => by
  have hl0 := (hw.tm ht0).2.2.2.1.2
  rw [xch_off (by omega)] at hu
  have hl := (hw.tm hu).2.2.2.1.2
  by_cases e : u = t
  · subst e
    obtain ⟨⟨g1, g2, g3⟩, g4⟩ := g u hu
    have em : xch a u i j (39 + 12 * u) = a (39 + 12 * u) := xch_off (by omega)
    refine ⟨⟨fun k hk => ?_, by rw [g2, xch_off (by omega)], by rw [g3, xch_off (by omega)]⟩, fun p q hp hq e => ?_⟩
    · rw [em]
      by_cases e1 : k = j
      · subst e1
        rw [upi_s, if_pos hj, xch_at hj, if_pos rfl, g1 i (by omega), if_pos hi]
      · rw [upi_n (by omega)]
        by_cases e2 : k = i
        · subst e2
          rw [upi_s, if_pos hi, xch_at hi, if_neg e1, if_pos rfl, g1 j (by omega), if_pos hj]
        · rw [upi_n (by omega), g1 k hk]
          by_cases e3 : k < a (39 + 12 * u)
          · rw [if_pos e3, if_pos e3, xch_at e3, if_neg e1, if_neg e2]
          · rw [if_neg e3, if_neg e3]
    · rw [em] at hp hq
      rw [xch_at hp, xch_at hq] at e
      have hs : ∀ k, k < a (39 + 12 * u) → (if k = j then i else if k = i then j else k) < a (39 + 12 * u) := fun k hk => by
        split
        · exact hi
        · split
          · exact hj
          · exact hk
      have := g4 _ _ (hs p hp) (hs q hq) e
      split at this <;> split at this <;> (try split at this) <;> (try split at this) <;> omega
  · refine (g u hu).cg hl (fun q h1 h2 => xch_off (by omega)) (fun k hk => ?_) rfl rfl
    rw [upi_n (by omega), upi_n (by omega)]
theorem bit_x8 : ∀ m, m < 256 → ∀ b, b < 8 → nI m ^^^ (nI 1 <<< (nI b &&& 31)) = nI (m ^^^ 2 ^ b) := by decide +kernel
