/-! Looking at one mix: what both sides do with it. -/
abbrev Rs : Type := Int32 × Int32 × (Nat → Int32) × (Int32 × Int32 × Q4) × (Int32 × Int32 × Int32 × Q4)
def wI (w : Q4) : Nat → Int32 := fun j => nI (q4g w j)
def lsm (f : Nat → Nat → Int32) (w : Q4) (s : Nat) : Nat → Int32
  | 0 => 0
  | i + 1 => lsm f w s i + wI w i * f i s
def mx0 (x : Int32) : Int32 := if 0 < x then x else 0
def msA (nk : Nat) (lw up : Nat → Nat → Int32) (nd al : Nat → Int32) (w : Q4) (s : Nat) : Int32 := mx0 (nd s - lsm lw w s nk) + mx0 (lsm up w s nk - al s)
def msT (f : Nat → Int32) : Nat → Int32
  | 0 => 0
  | s + 1 => msT f s + f s
def vsB (c : Int32) (w : Q4) (b : Int32 × Int32 × Q4) : Int32 × Int32 × Q4 := if b.1 = 0 then (1, c, w) else if b.2.1 ≤ c then b else (1, c, w)
def vsN (m c : Int32) (w : Q4) (b : Int32 × Int32 × Int32 × Q4) : Int32 × Int32 × Int32 × Q4 := if b.1 = 0 then (1, c, m, w) else if m < b.2.2.1 then (1, c, m, w) else if m = b.2.2.1 then (if b.2.1 ≤ c then b else (1, c, m, w)) else b
def kpt (ns : Nat) (f : Nat → Int32) (k : Nat → Int32) : Nat → Int32 := fun s => if s < ns ∧ f s = 0 then 1 else k s
def vis (ns : Nat) (f : Nat → Int32) (c : Int32) (w : Q4) (R : Rs) : Rs := (R.1 + 1, if msT f ns = 0 then R.2.1 + 1 else R.2.1, kpt ns f R.2.2.1, if msT f ns = 0 then vsB c w R.2.2.2.1 else R.2.2.2.1, vsN (msT f ns) c w R.2.2.2.2)
/-! the class: a place for a mix -/
def gS (M : mMem) (k k1 : Nat) (x2 x3 : Int32) : mMem := fun q => if q = k then upd (upd (upd (M k) 2 x2) 3 x3) 0 1 else if q = k + 1 then upd (upd (upd (upd (M (k + 1)) 0 (M k1 0)) 1 (M k1 1)) 2 (M k1 2)) 3 (M k1 3) else M q
theorem e_set (M : mMem) (k k1 : Nat) (x2 x3 : Int32) (h : k1 ≠ k + 1) : fX_set M k k1 x2 x3 = some (gS M k k1 x2 x3) := by
  have h1 : ¬ k + 1 = k1 := fun q => h q.symm
  have e : fX_set M k k1 x2 x3 = some (mu (mu (mu (mu (mu (mu (mu M (k + 1) 0 (M k1 0)) (k + 1) 1 ((mu M (k + 1) 0 (M k1 0)) k1 1)) (k + 1) 2 ((mu (mu M (k + 1) 0 (M k1 0)) (k + 1) 1 ((mu M (k + 1) 0 (M k1 0)) k1 1)) k1 2)) (k + 1) 3 ((mu (mu (mu M (k + 1) 0 (M k1 0)) (k + 1) 1 ((mu M (k + 1) 0 (M k1 0)) k1 1)) (k + 1) 2 ((mu (mu M (k + 1) 0 (M k1 0)) (k + 1) 1 ((mu M (k + 1) 0 (M k1 0)) k1 1)) k1 2)) k1 3)) k 2 x2) k 3 x3) k 0 1) := rfl
  rw [e]
  congr 1
  funext q
  unfold gS
  by_cases hq : q = k
  · subst hq
    have : ¬ q = q + 1 := by omega
    rw [if_pos rfl, mu_self, mu_self, mu_self, mu_ne _ _ _ this, mu_ne _ _ _ this, mu_ne _ _ _ this, mu_ne _ _ _ this]
  · rw [if_neg hq, mu_ne _ _ _ hq, mu_ne _ _ _ hq, mu_ne _ _ _ hq]
    by_cases hq1 : q = k + 1
    · subst hq1
      rw [if_pos rfl, mu_self, mu_self, mu_self, mu_self, mu_ne _ _ _ h, mu_ne _ _ _ h, mu_ne _ _ _ h, mu_ne _ _ _ h, mu_ne _ _ _ h, mu_ne _ _ _ h]
    · rw [if_neg hq1, mu_ne _ _ _ hq1, mu_ne _ _ _ hq1, mu_ne _ _ _ hq1, mu_ne _ _ _ hq1]
/-- the class's results at b -/
def hB (nk : Nat) (r r1 : Nat → Int32) (b : Int32 × Int32 × Q4) : Prop := r 0 = b.1 ∧ (¬ b.1 = 0 → r 2 = b.2.1 ∧ ∀ j, j < nk → r1 j = wI b.2.2 j)
def hN9 (nk : Nat) (r r1 : Nat → Int32) (b : Int32 × Int32 × Int32 × Q4) : Prop := r 0 = b.1 ∧ (¬ b.1 = 0 → r 2 = b.2.1 ∧ r 3 = b.2.2.1 ∧ ∀ j, j < nk → r1 j = wI b.2.2.2 j)
def hX (b nk : Nat) (X : mMem) (R : Rs) : Prop := X b 9 = R.1 ∧ X b 10 = R.2.1 ∧ (∀ s, s < 6 → X (b + 14) s = R.2.2.1 s) ∧ hB nk (X (b + 15)) (X (b + 16)) R.2.2.2.1 ∧ hN9 nk (X (b + 17)) (X (b + 18)) R.2.2.2.2
