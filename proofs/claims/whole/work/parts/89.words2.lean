theorem k1_11 : (Cond.instantiable "GradingMixes" 9) ∈ wA := inA1 11 rfl rfl
theorem k3_34 : (Cond.instantiable "GradingMixesModel" 37) ∈ wA := inA3 34 rfl rfl
theorem k1_10 : (Cond.classLink "GradingMixesLaw" 7 "GradingMixes") ∈ wA := inA1 10 rfl rfl
theorem k1_12 : (Cond.methodLink "GradingMixesLaw" 9 ⟨"GradingMixes", "<init>", "()V"⟩) ∈ wA := inA1 12 rfl rfl
theorem k1_13 : (Cond.instanceMethod ⟨"GradingMixes", "<init>", "()V"⟩) ∈ wA := inA1 13 rfl rfl
theorem k3_33 : (Cond.classLink "GradingMixesLaw" 10 "GradingMixesModel") ∈ wA := inA3 33 rfl rfl
theorem k3_35 : (Cond.methodLink "GradingMixesLaw" 12 ⟨"GradingMixesModel", "<init>", "()V"⟩) ∈ wA := inA3 35 rfl rfl
theorem k3_36 : (Cond.instanceMethod ⟨"GradingMixesModel", "<init>", "()V"⟩) ∈ wA := inA3 36 rfl rfl
