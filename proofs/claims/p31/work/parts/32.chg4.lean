/-! changes: undo, save, restore, team, route -/
def upS (f : Nat → AS) (k : Nat) (b : AS) : Nat → AS := fun j => if j = k then b else f j
def o_undo (c : CS) : Int32 × CS := if hN c = 0 then (-100005, c) else (nI (hN c - 1), (hH c (hN c - 1), hH c, hN c - 1, c.2.2.2))
def o_save (c : CS) (v : Int32) : Int32 × CS := if inR v 1 then (nI (na c 3), (na c, hH c, hN c, upS (sS c) (iN v) (na c), up1 (sV c) (iN v) 1, pD c, pL c)) else (-100002, c)
def o_restore (c : CS) (v : Int32) : Int32 × CS := if inR v 1 then (if sV c (iN v) = 0 then (-100005, c) else (nI (sS c (iN v) 3), cnow (crec c) (sS c (iN v)))) else (-100002, c)
/-- the pad's route goes to team t -/
def tk (a : AS) (t : Nat) (pd : Nat → Nat) (ln : Nat) : AS := fun j => if j = 39 + 12 * t then (ln + 1) / 2 else if 40 + 12 * t ≤ j ∧ j < 48 + 12 * t then (if j - (40 + 12 * t) < (ln + 1) / 2 then pd (2 * (j - (40 + 12 * t))) - 97 else 0) else a j
def newt (a : AS) (v : Nat) (pd : Nat → Nat) (ln : Nat) : AS := up1 (up1 (up1 (up1 (tk a (a 3) pd ln) (36 + 12 * a 3) v) (37 + 12 * a 3) 0) (38 + 12 * a 3) 0) 3 (a 3 + 1)
def pad0 (c : CS) : CS := (na c, hH c, hN c, sS c, sV c, pD c, 0)
def o_team (c : CS) (v : Int32) : Int32 × CS := if inR v 200 then (if ffp (pD c) (pL c) = none then (if 6 ≤ na c 3 then (-100004, c) else (nI (na c 3), pad0 (cnow (crec c) (newt (na c) (iN v) (pD c) (pL c))))) else (-100003, c)) else (-100002, c)
def o_route (c : CS) (v : Int32) : Int32 × CS := if inT v (na c 3) then (if ffp (pD c) (pL c) = none then (nI (tl (tk (na c) (iN v) (pD c) (pL c)) (iN v)), pad0 (cnow (crec c) (tk (na c) (iN v) (pD c) (pL c)))) else (-100003, c)) else (-100001, c)
theorem ffp_le {pd : Nat → Nat} {ln i : Nat} (h : ffp pd ln = some i) : i ≤ ln := by
  unfold ffp at h
  split at h
  · next j hj =>
    cases h
    exact Nat.le_of_lt (fstN_some.mp hj).1
  · split at h
    · cases h
      exact Nat.le_refl _
    · cases h
theorem eF_none {o : Option Nat} (h : ∀ i, o = some i → i ≤ 20) : eF o = -100006 ↔ o = none := by
  cases o with
  | none => exact ⟨fun _ => rfl, fun _ => rfl⟩
  | some i =>
    have hi := h i rfl
    have : ∀ i, i < 21 → nI i ≠ -100006 := by decide
    exact ⟨fun q => absurd q (this i (by omega)), fun q => by cases q⟩
theorem tk_n {a : AS} {t ln j : Nat} {pd : Nat → Nat} (h : ¬ (39 + 12 * t ≤ j ∧ j < 48 + 12 * t)) : tk a t pd ln j = a j := by
  unfold tk
  rw [if_neg (by omega), if_neg (by omega)]
theorem tk_m {a : AS} {t ln : Nat} {pd : Nat → Nat} : tk a t pd ln (39 + 12 * t) = (ln + 1) / 2 := if_pos rfl
theorem tk_s {a : AS} {t ln k : Nat} {pd : Nat → Nat} (h8 : k < 8) : tk a t pd ln (40 + 12 * t + k) = if k < (ln + 1) / 2 then pd (2 * k) - 97 else 0 := by
  unfold tk
  rw [if_neg (by omega), if_pos (by omega), show 40 + 12 * t + k - (40 + 12 * t) = k by omega]
section CHGD
variable {l : Launch} {E : EY} {D : va_G} {cA : Nat → ClassId} {fin : Option Value → Mu → Prop} {μ : Mu} {d : Nat}
end CHGD
