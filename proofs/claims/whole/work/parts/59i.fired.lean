/-! fired, count, the beginning -/
section FRD
theorem e_firedL {X Y : mMem} {n K : Nat} {x2 : Int32} (hn : n ≤ 100) (hK : K < 2 ^ 31) (h32 : Y 0 32 = nI n) (hf : ∀ t, t < n → ¬ Y 22 t ≤ 0 → X 80 (cF (Y 22) t) = Y 19 t ∧ X 81 (cF (Y 22) t) = Y 21 t ∧ X 82 (cF (Y 22) t) = Y 22 t) : ∀ d t e, t + d = n → cF (Y 22) t ≤ K → fM_fired_L16 x2 Y (d + 1 + e) (nI (K - cF (Y 22) t)) (nI t) = some (if K < cF (Y 22) n then (if x2 = 0 then X 80 K else if x2 = 1 then X 81 K else X 82 K) else -1) := by
  intro d
  induction d with
  | zero =>
    intro t e ht hc
    have ht : t = n := by omega
    subst ht
    rw [show 0 + 1 + e = e + 1 by omega, fM_fired_L16, h32, if_pos (nI_le (Nat.le_refl _) (by omega)), if_neg (by omega)]
  | succ d ih =>
    intro t e ht hc
    have ih' := ih (t + 1) e (by omega)
    rw [cF] at ih'
    rw [show d + 1 + 1 + e = (d + 1 + e) + 1 by omega, fM_fired_L16, h32, if_neg (nI_ge (by omega) (by omega)), if_neg (nI_pos (n := K - cF (Y 22) t) (by omega)), m_g_t (inb_nI (by omega) (by omega)), nI_clamp (show t < 2 ^ 31 by omega)]
    by_cases c : Y 22 t ≤ 0
    · rw [if_pos c, Nat.add_zero] at ih'
      rw [if_pos c, m_l_eq, nI_1]
      exact ih' hc
    · rw [if_neg c] at ih'
      rw [if_neg c]
      by_cases c2 : K = cF (Y 22) t
      · subst c2
        obtain ⟨f1, f2, f3⟩ := hf t (by omega) c
        have hm := cF_mono (Y 22) (a := t + 1) n (by omega)
        rw [cF, if_neg c] at hm
        rw [Nat.sub_self, if_pos (show nI 0 = 0 from rfl), if_pos (show cF (Y 22) t < cF (Y 22) n by omega), f1, f2, f3]
        by_cases q0 : x2 = 0
        · rw [if_pos q0, if_pos q0]
        · rw [if_neg q0, if_neg q0]
          by_cases q1 : x2 = 1
          · rw [if_pos q1, if_pos q1]
          · rw [if_neg q1, if_neg q1]
      · rw [if_neg (nI_ne0 (n := K - cF (Y 22) t) (by omega) (by omega)), m_l_eq, m_l_eq, nI_1]
        have e1 : nI (K - cF (Y 22) t) + (-1) = nI (K - (cF (Y 22) t + 1)) := by
          rw [show K - cF (Y 22) t = (K - (cF (Y 22) t + 1)) + 1 by omega, ← nI_1, Int32.add_assoc, show (1 : Int32) + -1 = 0 by decide, Int32.add_zero]
        rw [e1]
        exact ih' (by omega)
theorem e_fired {X Y : mMem} (h : Rel X Y) (a1 a2 : Int32) : ∃ r, fG_fired X a1 a2 = some r ∧ fM_fired Y a1 a2 = some r := by
  obtain ⟨g0, n, hn, en, -, gF9, gf⟩ := h.2.2.2.1
  have hc := cF_le (Y 22) n
  unfold fG_fired fM_fired
  rw [e_withinM, m_b1_some, gF9]
  by_cases cn : a1 < 0
  · rw [if_pos cn]
    refine ⟨-1, rfl, ?_⟩
    by_cases c : wth a2 0 2 = 0
    · rw [if_pos c]
    · rw [if_neg c, show (128 : Nat) = 127 + 1 from rfl, fM_fired_L16, en]
      by_cases q : nI n ≤ 0
      · rw [if_pos q]
      · rw [if_neg q, if_pos cn]
  · obtain ⟨K, hK, rfl⟩ := nI_of cn
    have g := e_firedL (X := X) (Y := Y) (x2 := a2) hn hK en gf n 0 (127 - n) (by omega) (Nat.zero_le _)
    rw [show n + 1 + (127 - n) = 128 by omega] at g
    have g : fM_fired_L16 a2 Y 128 (nI K) 0 = _ := g
    rw [if_neg cn]
    by_cases c : wth a2 0 2 = 0
    · rw [if_pos c]
      have n0 : ¬ a2 = 0 := fun q => by rw [q] at c; exact absurd c (by decide)
      have n1 : ¬ a2 = 1 := fun q => by rw [q] at c; exact absurd c (by decide)
      have n2 : ¬ a2 = 2 := fun q => by rw [q] at c; exact absurd c (by decide)
      rw [if_neg n0, if_neg n1, if_neg n2, ite_self]
      exact ⟨-1, rfl, rfl⟩
    · rw [if_neg c, g]
      refine ⟨_, ?_, rfl⟩
      by_cases q : K < cF (Y 22) n
      · rw [if_pos (nI_lt q (by omega)), if_pos q]
        have i1 := inb_nI (show K < 100 by omega) (show 100 < 2 ^ 31 by omega)
        by_cases q0 : a2 = 0
        · rw [if_pos q0, if_pos q0, m_g_t i1, nI_clamp hK]
        · rw [if_neg q0, if_neg q0]
          by_cases q1 : a2 = 1
          · rw [if_pos q1, if_pos q1, m_g_t i1, nI_clamp hK]
          · rw [if_neg q1, if_neg q1]
            have q2 : a2 = 2 := by
              obtain ⟨j, -, hj, rfl⟩ := wth_of (a := 0) (b := 2) (by omega) (by omega) c
              have : j = 0 ∨ j = 1 ∨ j = 2 := by omega
              rcases this with rfl | rfl | rfl
              · exact absurd rfl q0
              · exact absurd rfl q1
              · rfl
            rw [if_pos q2, m_g_t i1, nI_clamp hK]
      · rw [if_neg (nI_nlt (by omega) hK), if_neg q]
theorem e_cntL {Y : mMem} {n : Nat} (hn : n ≤ 100) (h32 : Y 0 32 = nI n) : fM_count_L57 Y 128 0 0 = some (nI (cF (Y 22) n), Y) := by
  have key : ∀ d t e, t + d = n → fM_count_L57 Y (d + 1 + e) (nI (cF (Y 22) t)) (nI t) = some (nI (cF (Y 22) n), Y) := by
    intro d
    induction d with
    | zero =>
      intro t e ht
      have ht : t = n := by omega
      subst ht
      rw [show 0 + 1 + e = e + 1 by omega, fM_count_L57, h32, if_pos (nI_le (Nat.le_refl _) (by omega))]
    | succ d ih =>
      intro t e ht
      have ih' := ih (t + 1) e (by omega)
      rw [cF] at ih'
      rw [show d + 1 + 1 + e = (d + 1 + e) + 1 by omega, fM_count_L57, h32, if_neg (nI_ge (by omega) (by omega)), m_g_t (inb_nI (by omega) (by omega)), nI_clamp (show t < 2 ^ 31 by omega)]
      by_cases c : Y 22 t ≤ 0
      · rw [if_pos c, Nat.add_zero] at ih'
        rw [if_pos c, m_l_eq, m_l_eq, Int32.add_zero, nI_1]
        exact ih'
      · rw [if_neg c] at ih'
        rw [if_neg c, m_l_eq, m_l_eq, nI_1, nI_1]
        exact ih'
  have h := key n 0 (127 - n) (by omega)
  rw [show n + 1 + (127 - n) = 128 by omega] at h
  exact h
theorem e_count {X Y : mMem} (h : Rel X Y) (a1 : Int32) : ∃ r X' Y', fG_count X a1 = some (r, X') ∧ fM_count Y a1 = some (r, Y') ∧ Rel X' Y' := by
  obtain ⟨b0, b1, b2, b3⟩ := h.1.1.1
  obtain ⟨g0, n, hn, en, -, gF9, gf⟩ := h.2.2.2.1
  have srch : ∃ X1 Z, fG_searchOnce X = some X1 ∧ fM_goThrough Y 1 (-1) 0 0 = some Z ∧ X1 24 9 = Z 0 25 ∧ X1 24 10 = Z 0 26 ∧ Rel X1 Z := by
    obtain ⟨X1, s1, h1, s3⟩ := e_once h
    obtain ⟨ns, nk, st, k, cap, lo, hi, od, hE⟩ := eY_ex h.1
    have hx := h1.2.2.2.2.2 s3 ns nk st k cap lo hi od hE
    obtain ⟨Z, z1, z2⟩ := e_go (md := 1) (x2 := -1) (x3 := 0) (x4 := 0) hE (Or.inr rfl)
    exact ⟨X1, Z, s1, z1, hx.1.trans z2.2.1.symm, hx.2.1.trans z2.2.2.1.symm, Rel_m h1 z2.1⟩
  unfold fG_count fM_count
  by_cases k0 : a1 = 0
  · rw [if_pos k0, if_pos k0, b0]
    exact ⟨_, _, _, rfl, rfl, h⟩
  · rw [if_neg k0, if_neg k0]
    by_cases k1 : a1 = 1
    · rw [if_pos k1, if_pos k1, b1]
      exact ⟨_, _, _, rfl, rfl, h⟩
    · rw [if_neg k1, if_neg k1]
      by_cases k2 : a1 = 2
      · rw [if_pos k2, if_pos k2, g0]
        exact ⟨_, _, _, rfl, rfl, h⟩
      · rw [if_neg k2, if_neg k2]
        by_cases k3 : a1 = 3
        · rw [if_pos k3, if_pos k3, e_cntL hn en, gF9]
          exact ⟨_, _, _, rfl, rfl, h⟩
        · rw [if_neg k3, if_neg k3]
          obtain ⟨X1, Z, s1, z1, e9, e10, hr⟩ := srch
          by_cases k4 : a1 = 4
          · rw [if_pos k4, if_pos k4, s1, z1, m_b1_some, m_b1_some, e9]
            exact ⟨_, _, _, rfl, rfl, hr⟩
          · rw [if_neg k4, if_neg k4]
            by_cases k5 : a1 = 5
            · rw [if_pos k5, if_pos k5, s1, z1, m_b1_some, m_b1_some, e10]
              exact ⟨_, _, _, rfl, rfl, hr⟩
            · rw [if_neg k5, if_neg k5]
              exact ⟨_, _, _, rfl, rfl, h⟩
/-- the reference's memory when it is new -/
def mM0 : mMem := fun k j => if k = 0 then (if j = 11 then 100 else if j = 12 then 5 else if j = 31 then 50 else 0) else 0
theorem Rel0 : Rel mX0 mM0 := by
  refine ⟨⟨⟨⟨rfl, rfl, rfl, rfl⟩, ⟨0, by omega, rfl⟩, ⟨0, by omega, rfl⟩, ⟨100, by omega, rfl⟩, ⟨5, 20, by omega, rfl⟩⟩, ⟨rfl, rfl, rfl, rfl, rfl, rfl, rfl⟩, ?_, ?_, ⟨rfl, rfl, 0, by omega, rfl⟩, ⟨rfl, rfl⟩, ⟨fun _ => rfl, fun _ => rfl, fun _ => rfl, fun _ => rfl⟩, ⟨⟨rfl, 50, by omega, rfl⟩, ?_, ?_⟩⟩, ⟨rfl, fun q => absurd rfl q⟩, rfl, ⟨rfl, 0, by omega, rfl, ⟨⟨rfl, fun t ht => absurd ht (Nat.not_lt_zero _)⟩, ⟨rfl, fun t ht => absurd ht (Nat.not_lt_zero _)⟩, ⟨rfl, fun t ht => absurd ht (Nat.not_lt_zero _)⟩, ⟨rfl, fun t ht => absurd ht (Nat.not_lt_zero _)⟩, ⟨rfl, fun t ht => absurd ht (Nat.not_lt_zero _)⟩, ⟨rfl, fun t ht => absurd ht (Nat.not_lt_zero _)⟩⟩, rfl, fun t ht => absurd ht (Nat.not_lt_zero _)⟩, ?_, fun q => absurd rfl q⟩
  · exact fun j _ => ⟨0, 0, 0, rfl, rfl, rfl, by omega, by omega, by omega⟩
  · have l0 : lwp 0 0 = 0 := by decide
    have u0 : upp 0 0 = 0 := by decide
    refine ⟨fun s _ => ⟨rfl, ?_, ?_⟩, fun s _ => ⟨rfl, ?_, ?_⟩, fun s _ => ⟨rfl, ?_, ?_⟩, fun s _ => ⟨rfl, ?_, ?_⟩⟩
    all_goals first | exact l0.symm | exact u0.symm
  · exact fun j _ => ⟨0, 0, rfl, rfl, by omega, by omega⟩
  · exact fun j _ => ⟨0, 0, rfl, rfl, by omega, by omega⟩
  · intro n t hn h0 ht
    have h1 : nI n = 0 := h0.symm
    have : n = 0 := (nI_eq (b := 0) (by omega) (by omega)).mp h1
    omega
end FRD
