/-! the relation whole; what forgetting leaves of it -/
section RL2
/-- how large what is given may be -/
def rR (Y : mMem) : Prop := (∀ j, j < 6 → ∃ a b, Y 1 j = nI a ∧ Y 2 j = nI b ∧ a ≤ 1000 ∧ b ≤ 1000) ∧ ∀ j, j < 24 → ∃ p o, Y 8 j = nI p ∧ Y 9 j = nI o ∧ p ≤ 1000 ∧ o ≤ 300
def rL (X Y : mMem) : Prop := (X 0 8 = Y 0 31 ∧ ∃ n, n ≤ 1000 ∧ Y 0 31 = nI n) ∧ rR Y
def rV (Y : mMem) : Prop := ∀ n t, n ≤ 100 → Y 0 32 = nI n → t < n → ∃ u, u ≤ 1000 ∧ Y 20 t = nI u
def rS (X Y : mMem) : Prop := ¬ X 0 7 = 0 → ∀ (ns nk st k cap : Nat) (lo hi : Nat → Nat) (od : Nat → Bool), eY Y ns nk st k cap lo hi od → hX 24 nk X ((eM nk lo hi od cap (stp st k)).foldl (fvM Y (-1) 0 0 ns nk) R00)
/-- what forgetting doesn't touch -/
def Rp (X Y : mMem) : Prop := rA X Y ∧ rB X Y ∧ rC Y ∧ rD X Y ∧ rT X Y ∧ (X 69 = Y 17 ∧ X 70 = Y 18) ∧ rZ X ∧ rL X Y
def Rel (X Y : mMem) : Prop := Rp X Y ∧ rH X Y ∧ X 68 0 = Y 0 28 ∧ rG X Y ∧ rV Y ∧ rS X Y
theorem gF_row (M : mMem) {q : Nat} (h : q ≠ 0 ∧ q ≠ 66 ∧ q ≠ 68 ∧ q ≠ 71 ∧ q ≠ 72) : gF M q = M q := by
  obtain ⟨h0, h1, h2, h3, h4⟩ := h
  unfold gF
  rw [mu_ne _ _ _ h0, mu_ne _ _ _ h4, mu_ne _ _ _ h4, mu_ne _ _ _ h4, mu_ne _ _ _ h4, mu_ne _ _ _ h4, mu_ne _ _ _ h4, mu_ne _ _ _ h3, mu_ne _ _ _ h3, mu_ne _ _ _ h2, mu_ne _ _ _ h1]
theorem gC_row (M : mMem) {q : Nat} (h : q ≠ 0) : gC M q = M q := by
  unfold gC
  rw [mu_ne _ _ _ h, mu_ne _ _ _ h, mu_ne _ _ _ h]
theorem gC_0 (M : mMem) {f : Nat} (h : f ≠ 18 ∧ f ≠ 28 ∧ f ≠ 32) : gC M 0 f = M 0 f := by
  unfold gC
  rw [mu_app, mu_app, mu_app, if_neg (by omega), if_neg (by omega), if_neg (by omega)]
theorem Rp_F {X Y : mMem} (h : Rp X Y) : Rp (gF X) (gC Y) := by
  obtain ⟨hA, hB, hC, hD, hT, hK, hZ, hL⟩ := h
  refine ⟨?_, ?_, ?_, ?_, ?_, ?_, ?_, ?_⟩
  · unfold rA at hA ⊢
    rw [gF_row X (by decide), gC_0 Y (by decide), gC_0 Y (by decide), gC_0 Y (by decide), gC_0 Y (by decide)]
    exact hA
  · unfold rB at hB ⊢
    rw [gF_row X (by decide), gF_row X (by decide), gF_row X (by decide), gF_row X (by decide), gF_row X (by decide), gF_row X (by decide), gF_row X (by decide), gC_row Y (by decide), gC_row Y (by decide), gC_row Y (by decide), gC_row Y (by decide), gC_row Y (by decide), gC_row Y (by decide), gC_row Y (by decide)]
    exact hB
  · unfold rC at hC ⊢
    rw [gC_row Y (by decide), gC_row Y (by decide), gC_row Y (by decide)]
    exact hC
  · unfold rD at hD ⊢
    rw [gC_row Y (by decide), gC_row Y (by decide), gF_row X (by decide), gF_row X (by decide), gF_row X (by decide), gF_row X (by decide), gF_row X (by decide), gF_row X (by decide), gF_row X (by decide), gF_row X (by decide), gF_row X (by decide), gF_row X (by decide), gF_row X (by decide), gF_row X (by decide)]
    exact hD
  · unfold rT at hT ⊢
    rw [gF_row X (by decide), gF_row X (by decide), gC_0 Y (by decide), gC_row Y (by decide)]
    exact hT
  · rw [gF_row X (by decide), gF_row X (by decide), gC_row Y (by decide), gC_row Y (by decide)]
    exact hK
  · unfold rZ at hZ ⊢
    rw [gF_row X (by decide), gF_row X (by decide), gF_row X (by decide), gF_row X (by decide)]
    exact hZ
  · unfold rL rR at hL ⊢
    rw [gC_0 Y (by decide), gC_row Y (show (1 : Nat) ≠ 0 by decide), gC_row Y (show (2 : Nat) ≠ 0 by decide), gC_row Y (show (8 : Nat) ≠ 0 by decide), gC_row Y (show (9 : Nat) ≠ 0 by decide)]
    exact hL
theorem Rel_F {X Y : mMem} (h : Rp X Y) : Rel (gF X) (gC Y) := by
  refine ⟨Rp_F h, ⟨rfl, fun q => absurd rfl q⟩, rfl, ⟨rfl, 0, by omega, rfl, ⟨⟨rfl, fun t ht => absurd ht (Nat.not_lt_zero _)⟩, ⟨rfl, fun t ht => absurd ht (Nat.not_lt_zero _)⟩, ⟨rfl, fun t ht => absurd ht (Nat.not_lt_zero _)⟩, ⟨rfl, fun t ht => absurd ht (Nat.not_lt_zero _)⟩, ⟨rfl, fun t ht => absurd ht (Nat.not_lt_zero _)⟩, ⟨rfl, fun t ht => absurd ht (Nat.not_lt_zero _)⟩⟩, rfl, fun t ht => absurd ht (Nat.not_lt_zero _)⟩, fun n t hn h0 ht => ?_, fun q => absurd rfl q⟩
  have h1 : nI n = 0 := h0.symm
  have : n = 0 := (nI_eq (b := 0) (by omega) (by omega)).mp h1
  omega
end RL2
