/-! What ties the class's memory X to the reference's memory Y. -/
theorem mu_app (M : mMem) (k j : Nat) (v : Int32) (q i : Nat) : mu M k j v q i = if q = k ∧ i = j then v else M q i := by
  unfold mu upd
  by_cases h : q = k
  · subst h
    by_cases h2 : i = j <;> simp [h2]
  · simp [h]
theorem mu_row (M : mMem) (k j : Nat) (v : Int32) : mu M k j v k = upd (M k) j v := mu_self M k j v
theorem m_l_eq {α β : Type} (a : α) (f : α → β) : m_l a f = f a := rfl
theorem m_g_t {α : Type} {c : Prop} {d : Decidable c} {t : Option α} (h : c) : m_g c t = t := by unfold m_g; rw [if_pos h]
theorem m_b1_some {α β : Type} (a : α) (f : α → Option β) : m_b1 (some a) f = f a := rfl
theorem m_b2_some {α β γ : Type} (a : α) (b : β) (f : α → β → Option γ) : m_b2 (some (a, b)) f = f a b := rfl
/-- an index by its number -/
theorem inb_nI {j n : Nat} (h : j < n) (hn : n < 2 ^ 31) : inb (nI j) n := nI_in h hn
def bnd (a b : Int32) : Int32 := if a < 0 then 0 else if b < a then 0 else if 1000 < b then 0 else 1
def wth (v a b : Int32) : Int32 := if v < a then 0 else if b < v then 0 else 1
theorem e_mayBeBand (M : mMem) (a b : Int32) : fG_mayBeBand M a b = some (bnd a b) := by
  unfold fG_mayBeBand bnd
  by_cases h1 : a < 0 <;> by_cases h2 : b < a <;> by_cases h3 : 1000 < b <;> simp only [h1, h2, h3, if_true, if_false]
theorem e_isBand (M : mMem) (a b : Int32) : fM_isBand M a b = some (bnd a b) := by
  unfold fM_isBand bnd
  by_cases h1 : a < 0 <;> by_cases h2 : b < a <;> by_cases h3 : 1000 < b <;> simp only [h1, h2, h3, if_true, if_false]
theorem e_withinG (M : mMem) (v a b : Int32) : fG_within M v a b = some (wth v a b) := by
  unfold fG_within wth
  by_cases h1 : v < a <;> by_cases h2 : b < v <;> simp only [h1, h2, if_true, if_false]
theorem e_withinM (M : mMem) (v a b : Int32) : fM_within M v a b = some (wth v a b) := by
  unfold fM_within wth
  by_cases h1 : v < a <;> by_cases h2 : b < v <;> simp only [h1, h2, if_true, if_false]
theorem e_hasSieve (M : mMem) (x : Int32) : fP_hasSieve M x = some (if x < 0 then 0 else if M 1 0 ≤ x then 0 else 1) := by
  unfold fP_hasSieve
  by_cases h1 : x < 0 <;> by_cases h2 : M 1 0 ≤ x <;> simp only [h1, h2, if_true, if_false]
theorem e_hasStock (M : mMem) (x : Int32) : fP_hasStock M x = some (if x < 0 then 0 else if M 1 1 ≤ x then 0 else 1) := by
  unfold fP_hasStock
  by_cases h1 : x < 0 <;> by_cases h2 : M 1 1 ≤ x <;> simp only [h1, h2, if_true, if_false]
theorem e_isSieve (M : mMem) (x : Int32) : fM_isSieve M x = some (if x < 0 then 0 else if M 0 0 ≤ x then 0 else 1) := by
  unfold fM_isSieve
  by_cases h1 : x < 0 <;> by_cases h2 : M 0 0 ≤ x <;> simp only [h1, h2, if_true, if_false]
theorem e_isStock (M : mMem) (x : Int32) : fM_isStock M x = some (if x < 0 then 0 else if M 0 3 ≤ x then 0 else 1) := by
  unfold fM_isStock
  by_cases h1 : x < 0 <;> by_cases h2 : M 0 3 ≤ x <;> simp only [h1, h2, if_true, if_false]
/-- an index that is one -/
theorem ix_of {x : Int32} {n : Nat} (hn : n < 2 ^ 31) (h : ¬ (if x < 0 then (0 : Int32) else if nI n ≤ x then 0 else 1) = 0) : ∃ j, j < n ∧ x = nI j := by
  by_cases h1 : x < 0
  · rw [if_pos h1] at h
    exact absurd rfl h
  · rw [if_neg h1] at h
    by_cases h2 : nI n ≤ x
    · rw [if_pos h2] at h
      exact absurd rfl h
    · obtain ⟨j, hj, rfl⟩ := nI_of h1
      refine ⟨j, ?_, rfl⟩
      rcases Nat.lt_or_ge j n with q | q
      · exact q
      · exact absurd (nI_le q hj) h2
theorem wth_of {x : Int32} {a b : Nat} (hb : b < 2 ^ 31) (ha : a ≤ b) (h : ¬ wth x (nI a) (nI b) = 0) : ∃ j, a ≤ j ∧ j ≤ b ∧ x = nI j := by
  unfold wth at h
  by_cases h1 : x < nI a
  · rw [if_pos h1] at h
    exact absurd rfl h
  · rw [if_neg h1] at h
    by_cases h2 : nI b < x
    · rw [if_pos h2] at h
      exact absurd rfl h
    · have h0 : ¬ x < 0 := fun q => h1 (by
        rw [Int32.lt_iff_toInt_lt] at q ⊢
        rw [nI_toInt (by omega)]
        have : (0 : Int32).toInt = 0 := by decide
        omega)
      obtain ⟨j, hj, rfl⟩ := nI_of h0
      refine ⟨j, ?_, ?_, rfl⟩
      · rcases Nat.lt_or_ge j a with q | q
        · exact absurd (nI_lt q (by omega)) h1
        · exact q
      · rcases Nat.lt_or_ge b j with q | q
        · exact absurd (nI_lt q hj) h2
        · exact q
/-! forget, changed -/
def gF (M : mMem) : mMem := mu (mu (mu (mu (mu (mu (mu (mu (mu (mu (mu M 66 0 0) 68 0 0) 71 0 0) 71 3 0) 72 0 0) 72 1 0) 72 2 0) 72 3 0) 72 4 0) 72 5 0) 0 7 0
theorem e_forget (M : mMem) : fG_forget M = some (gF M) := rfl
def gC (M : mMem) : mMem := mu (mu (mu M 0 18 0) 0 28 0) 0 32 0
theorem e_changed (M : mMem) : fM_changed M = some (gC M) := rfl
/-! the relation, part by part -/
def lwp (p o : Int32) : Int32 := if 0 ≤ p - o then p - o else 0
def upp (p o : Int32) : Int32 := if p + o ≤ 1000 then p + o else 1000
def rA (X Y : mMem) : Prop := (X 1 0 = Y 0 0 ∧ X 1 1 = Y 0 3 ∧ X 1 2 = Y 0 11 ∧ X 1 3 = Y 0 12) ∧ (∃ n, n ≤ 6 ∧ Y 0 0 = nI n) ∧ (∃ n, n ≤ 4 ∧ Y 0 3 = nI n) ∧ (∃ n, n ≤ 100 ∧ Y 0 11 = nI n) ∧ (∃ n k, n * k = 100 ∧ Y 0 12 = nI n)
def rB (X Y : mMem) : Prop := X 2 = Y 1 ∧ X 3 = Y 2 ∧ X 4 = Y 3 ∧ X 5 = Y 4 ∧ X 6 = Y 5 ∧ X 7 = Y 6 ∧ X 8 = Y 7
def rC (Y : mMem) : Prop := ∀ j, j < 4 → ∃ a b v, Y 4 j = nI a ∧ Y 5 j = nI b ∧ Y 7 j = nI v ∧ a ≤ b ∧ b ≤ 100 ∧ v ≤ 300
def rD1 (x lo up p o : Nat → Int32) (k : Nat) : Prop := ∀ s, s < 6 → x s = p (6 * k + s) ∧ lo s = lwp (p (6 * k + s)) (o (6 * k + s)) ∧ up s = upp (p (6 * k + s)) (o (6 * k + s))
def rD (X Y : mMem) : Prop := rD1 (X 10) (X 15) (X 20) (Y 8) (Y 9) 0 ∧ rD1 (X 11) (X 16) (X 21) (Y 8) (Y 9) 1 ∧ rD1 (X 12) (X 17) (X 22) (Y 8) (Y 9) 2 ∧ rD1 (X 13) (X 18) (X 23) (Y 8) (Y 9) 3
def rT (X Y : mMem) : Prop := X 62 3 = Y 0 13 ∧ X 65 = Y 10 ∧ ∃ n, n ≤ 60 ∧ Y 0 13 = nI n
def cst : Nat → (Nat → Int32) → (Nat → Int32) → Int32
  | 0, _, _ => 0
  | n + 1, w, p => cst n w p + w n * p n
def smN : Nat → (Nat → Nat) → Nat
  | 0, _ => 0
  | n + 1, v => smN n v + v n
/-- a mix in hand: n stocks, shares w, prices p -/
def rH1 (n : Nat) (w' w p : Nat → Int32) (cost : Int32) : Prop := (∀ j, j < n → w' j = w j) ∧ cost = cst n w p ∧ ∃ v : Nat → Nat, (∀ j, j < n → w j = nI (v j)) ∧ smN n v ≤ 100
def rH (X Y : mMem) : Prop := X 66 0 = Y 0 18 ∧ (¬ Y 0 18 = 0 → ∀ n, n ≤ 4 → Y 0 3 = nI n → rH1 n (X 67) (Y 13) (Y 3) (X 66 2))
def rK (X Y : mMem) : Prop := X 68 0 = Y 0 28 ∧ X 69 = Y 17 ∧ X 70 = Y 18
def rZ (X : mMem) : Prop := (∀ s, X 29 s = 0) ∧ (∀ s, X 34 s = 0) ∧ (∀ s, X 48 s = 0) ∧ (∀ s, X 53 s = 0)
/-! tests: how many of a sieve come before test t; how many fired before it -/
def cS (ts : Nat → Int32) (s : Int32) : Nat → Nat
  | 0 => 0
  | t + 1 => cS ts s t + if ts t = s then 1 else 0
def cF (tr : Nat → Int32) : Nat → Nat
  | 0 => 0
  | t + 1 => cF tr t + if tr t ≤ 0 then 0 else 1
def rG1 (val : Nat → Int32) (sz : Int32) (ts tv : Nat → Int32) (n s : Nat) : Prop := sz = nI (cS ts (nI s) n) ∧ ∀ t, t < n → ts t = nI s → val (cS ts (nI s) t) = tv t
def rG (X Y : mMem) : Prop := X 71 0 = Y 0 32 ∧ ∃ n, n ≤ 100 ∧ Y 0 32 = nI n ∧
  (rG1 (X 74) (X 72 0) (Y 19) (Y 20) n 0 ∧ rG1 (X 75) (X 72 1) (Y 19) (Y 20) n 1 ∧ rG1 (X 76) (X 72 2) (Y 19) (Y 20) n 2 ∧ rG1 (X 77) (X 72 3) (Y 19) (Y 20) n 3 ∧ rG1 (X 78) (X 72 4) (Y 19) (Y 20) n 4 ∧ rG1 (X 79) (X 72 5) (Y 19) (Y 20) n 5) ∧
  X 71 3 = nI (cF (Y 22) n) ∧ ∀ t, t < n → ¬ Y 22 t ≤ 0 → X 80 (cF (Y 22) t) = Y 19 t ∧ X 81 (cF (Y 22) t) = Y 21 t ∧ X 82 (cF (Y 22) t) = Y 22 t
