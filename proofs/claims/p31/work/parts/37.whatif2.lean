/-! what if: the best exchange, the worst place -/
section WHATIFB
variable {l : Launch} {E : EY} {D : va_G} {cA : Nat → ClassId} {fin : Option Value → Mu → Prop} {μ : Mu} {d : Nat}
end WHATIFB
