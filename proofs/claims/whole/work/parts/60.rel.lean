def Rel (x : XX) (σ : MM) : Prop := x = x ∧ σ = σ
