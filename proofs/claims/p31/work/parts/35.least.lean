/-! the least free start; part; freeStart -/
/-- the least start with which team t meets nobody when the first n play -/
def lfs (a : AS) (n t : Nat) : Option Nat := fstN (fun m => msk (metp (up1 a (36 + 12 * t) m) n t) n == 0) 201
theorem up1_up1 {f : Nat → Nat} {k x y : Nat} : up1 (up1 f k x) k y = up1 f k y := by
  funext j
  simp only [up1]
  split <;> rfl
/-- now, behind the starts of the first i teams in a departure -/
def pst (a : AS) : Nat → AS
  | 0 => a
  | i + 1 => up1 (pst a i) (36 + 12 * i) (match lfs (pst a i) (i + 1) i with | some m => m | none => pst a i (36 + 12 * i))
theorem pst_3 {a : AS} : ∀ i, pst a i 3 = a 3
  | 0 => rfl
  | i + 1 => by
    show up1 (pst a i) (36 + 12 * i) _ 3 = a 3
    rw [up1_n (by omega)]
    exact pst_3 i
theorem lfs_le {a : AS} {n t m : Nat} (h : lfs a n t = some m) : m ≤ 200 := by
  have := (fstN_some.mp h).1
  omega
theorem wf_pst {a : AS} (hw : Wf a) : ∀ i, i ≤ a 3 → Wf (pst a i)
  | 0, _ => hw
  | i + 1, hi => by
    have ih := wf_pst hw i (by omega)
    have h3 : i < pst a i 3 := by rw [pst_3]; omega
    refine wf_team ih h3 (Or.inl ⟨?_, rfl⟩)
    split
    · next m hm => exact lfs_le hm
    · exact (ih.tm h3).1
def o_part (c : CS) : Int32 × CS := (nI (prs (mt (pst (na c) (na c 3)) (na c 3)) (na c 3) (na c 3)), cnow (crec c) (pst (na c) (na c 3)))
def o_freeStart (c : CS) (v : Int32) : Int32 × CS := if inT v (na c 3) then (eF (lfs (na c) (na c 3) (iN v)), c) else (-100001, c)
theorem isS_37 {s : Nat} (h : isS s) : s + 18 ≤ 37 ∨ 81 ≤ s := by
  have : ∀ s, s ∈ [1, 19, 81, 99, 117, 135, 153, 171, 191, 209] → s + 18 ≤ 37 ∨ 81 ≤ s := by decide
  exact this s h
section LEAST
variable {l : Launch} {E : EY} {D : va_G} {cA : Nat → ClassId} {fin : Option Value → Mu → Prop} {μ : Mu} {d : Nat}
end LEAST
