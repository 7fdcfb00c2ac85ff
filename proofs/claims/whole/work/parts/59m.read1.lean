/-! read: both sides go through the text in step -/
section RD1
def sA (X : mMem) (a : Nat) : mMem := mu X 62 4 (nI a)
def sB (Y : mMem) (a : Nat) : mMem := mu Y 0 15 (nI a)
theorem mu_mu (M : mMem) (k j : Nat) (v w : Int32) : mu (mu M k j v) k j w = mu M k j w := by
  funext q
  by_cases h : q = k
  · subst h
    rw [mu_self, mu_self, mu_self]
    funext i
    unfold upd
    by_cases e : i = j
    · rw [if_pos e, if_pos e]
    · rw [if_neg e, if_neg e, if_neg e]
  · rw [mu_ne _ _ _ h, mu_ne _ _ _ h, mu_ne _ _ _ h]
theorem mu_id {M : mMem} {k j : Nat} {v : Int32} (h : M k j = v) : mu M k j v = M := by
  funext q
  by_cases e : q = k
  · subst e
    rw [mu_self]
    funext i
    unfold upd
    by_cases e2 : i = j
    · rw [if_pos e2, e2, h]
    · rw [if_neg e2]
  · rw [mu_ne _ _ _ e]
theorem mu_comm (M : mMem) {k k' : Nat} (j j' : Nat) (v w : Int32) (h : k ≠ k') : mu (mu M k j v) k' j' w = mu (mu M k' j' w) k j v := by
  funext q
  by_cases e : q = k
  · subst e
    rw [mu_ne _ _ _ h, mu_self, mu_self, mu_ne _ _ _ h]
  · by_cases e2 : q = k'
    · subst e2
      rw [mu_self, mu_ne _ _ _ e, mu_ne _ _ _ e, mu_self]
    · rw [mu_ne _ _ _ e2, mu_ne _ _ _ e, mu_ne _ _ _ e, mu_ne _ _ _ e2]
theorem sA_4 (X : mMem) (a : Nat) : sA X a 62 4 = nI a := by unfold sA; rw [mu_app, if_pos ⟨rfl, rfl⟩]
theorem sA_3 (X : mMem) (a : Nat) : sA X a 62 3 = X 62 3 := by unfold sA; rw [mu_app, if_neg (by omega)]
theorem sA_q (X : mMem) (a : Nat) {q : Nat} (h : q ≠ 62) : sA X a q = X q := mu_ne _ _ _ h
theorem sA_n (X : mMem) (a b : Nat) : mu (sA X a) 62 4 (nI b) = sA X b := mu_mu _ _ _ _ _
theorem sB_15 (Y : mMem) (a : Nat) : sB Y a 0 15 = nI a := by unfold sB; rw [mu_app, if_pos ⟨rfl, rfl⟩]
theorem sB_f (Y : mMem) (a : Nat) {f : Nat} (h : f ≠ 15) : sB Y a 0 f = Y 0 f := by unfold sB; rw [mu_app, if_neg (fun q => h q.2)]
theorem sB_q (Y : mMem) (a : Nat) {q : Nat} (h : q ≠ 0) : sB Y a q = Y q := mu_ne _ _ _ h
theorem sB_n (Y : mMem) (a b : Nat) : mu (sB Y a) 0 15 (nI b) = sB Y b := mu_mu _ _ _ _ _
variable {X Y : mMem} {sz : Nat}
/-- a number -/
theorem e_num (hs : sz ≤ 60) (h3 : X 62 3 = nI sz) (h13 : Y 0 13 = nI sz) (h65 : X 65 = Y 10) : ∀ d m e a v, m + d = 4 → a ≤ sz → v < 10 ^ m → ∃ r b, b ≤ sz ∧ fT_parseNumber_L4 (d + 1 + e) (sA X a) (if m = 0 then -1 else nI v) (nI m) = some (r, sA X b) ∧ fM_number_L4 (d + 1 + e) (sB Y a) (nI v) (nI m) = some (r, sB Y b) ∧ (r = -1 ∨ ∃ w, w ≤ 9999 ∧ r = nI w) := by
  intro d
  induction d with
  | zero =>
    intro m e a v hm ha hv1
    have hm : m = 4 := by omega
    subst hm
    have hv : v ≤ 9999 := by
      have : (10 : Nat) ^ 4 = 10000 := by decide
      omega
    refine ⟨nI v, a, ha, ?_, ?_, Or.inr ⟨v, hv, rfl⟩⟩
    · rw [show 0 + 1 + e = e + 1 by omega, fT_parseNumber_L4, if_pos (show (4 : Int32) ≤ nI 4 by decide), if_neg (by decide)]
    · rw [show 0 + 1 + e = e + 1 by omega, fM_number_L4, if_pos (show (4 : Int32) ≤ nI 4 by decide)]
      unfold fM_number_B50
      rw [if_neg (show ¬ nI 4 = 0 by decide)]
  | succ d ih =>
    intro m e a v hm ha hv1
    have hv : v ≤ 9999 := by
      have h1 := Nat.pow_le_pow_right (show 0 < 10 by omega) (show m ≤ 4 by omega)
      have : (10 : Nat) ^ 4 = 10000 := by decide
      omega
    have h0 : m = 0 → v = 0 := fun q => by
      subst q
      have : (10 : Nat) ^ 0 = 1 := by decide
      omega
    have m4 : ¬ (4 : Int32) ≤ nI m := nI_ge (b := 4) (by omega) (by omega)
    rw [show d + 1 + 1 + e = (d + 1 + e) + 1 by omega, fT_parseNumber_L4, fM_number_L4, if_neg m4, if_neg m4, sA_3, sA_4, h3]
    unfold fM_isDigit fM_number_B50
    rw [sB_15, sB_f _ _ (by decide), h13]
    have stop : ∃ r b, b ≤ sz ∧ some ((if m = 0 then -1 else nI v), sA X a) = some (r, sA X b) ∧ (if nI m = 0 then some ((-1 : Int32), sB Y a) else some (nI v, sB Y a)) = some (r, sB Y b) ∧ (r = -1 ∨ ∃ w, w ≤ 9999 ∧ r = nI w) := by
      by_cases q : m = 0
      · subst q
        rw [if_pos rfl, if_pos (show nI 0 = 0 from rfl)]
        exact ⟨_, a, ha, rfl, rfl, Or.inl rfl⟩
      · rw [if_neg q, if_neg (nI_ne0 (n := m) (by omega) (by omega))]
        exact ⟨_, a, ha, rfl, rfl, Or.inr ⟨v, hv, rfl⟩⟩
    by_cases c1 : sz ≤ a
    · rw [if_pos (nI_le c1 (by omega)), if_pos (nI_le c1 (by omega)), m_b1_some, if_pos rfl]
      exact stop
    · have i6 := inb_nI (show a < 60 by omega) (show 60 < 2 ^ 31 by omega)
      rw [if_neg (nI_ge (by omega) (by omega)), if_neg (nI_ge (by omega) (by omega)), m_g_t i6, m_g_t i6]
      simp only [nI_clamp (show a < 2 ^ 31 by omega), e_withinG, m_b1_some, sA_q _ _ (show (65 : Nat) ≠ 62 by decide), sB_q _ _ (show (10 : Nat) ≠ 0 by decide), h65]
      by_cases c2 : wth (Y 10 a) 48 57 = 0
      · rw [if_pos c2]
        unfold wth at c2
        by_cases q1 : Y 10 a < 48
        · rw [if_pos q1, m_b1_some, if_pos rfl]
          exact stop
        · rw [if_neg q1] at c2 ⊢
          by_cases q2 : 57 < Y 10 a
          · rw [if_pos q2, m_b1_some, if_pos rfl]
            exact stop
          · rw [if_neg q2] at c2
            exact absurd c2 (by decide)
      · obtain ⟨x, hx1, hx2, ex⟩ := wth_of (a := 48) (b := 57) (by omega) (by omega) c2
        rw [if_neg c2]
        have q1 : ¬ Y 10 a < 48 := by rw [ex]; exact nI_nlt (b := 48) hx1 (by omega)
        have q2 : ¬ 57 < Y 10 a := by rw [ex]; exact nI_nlt (a := 57) hx2 (by omega)
        rw [if_neg q1, if_neg q2, m_b1_some, if_neg (show ¬ (1 : Int32) = 0 by decide), m_g_t i6, ex, m_l_eq, m_l_eq, m_l_eq, m_l_eq, m_l_eq, m_l_eq, nI_1, nI_1, sA_n, sB_n]
        have ev : (if 0 < (if m = 0 then (-1 : Int32) else nI v) then (if m = 0 then (-1 : Int32) else nI v) else 0) = nI v := by
          by_cases q : m = 0
          · rw [if_pos q, if_neg (by decide), h0 q]
            rfl
          · rw [if_neg q]
            by_cases z : v = 0
            · subst z
              rw [if_neg (show ¬ (0 : Int32) < nI 0 by decide)]
              rfl
            · rw [if_pos (show (0 : Int32) < nI v from nI_lt (a := 0) (by omega) (by omega))]
        have e1 : nI v * 10 + nI x - 48 = nI (v * 10 + (x - 48)) := by
          rw [show (10 : Int32) = nI 10 from rfl, nI_mul, nI_add, show (48 : Int32) = nI 48 from rfl, nI_sub (by omega), show v * 10 + x - 48 = v * 10 + (x - 48) by omega]
        have e2 : 10 * nI v + nI x - 48 = nI (v * 10 + (x - 48)) := by rw [← e1, Int32.mul_comm]
        rw [ev, e1, e2]
        have g := ih (m + 1) e (a + 1) (v * 10 + (x - 48)) (by omega) (by omega) (by rw [Nat.pow_succ]; omega)
        rw [if_neg (show ¬ m + 1 = 0 by omega)] at g
        exact g
end RD1
