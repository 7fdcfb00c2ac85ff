/-! test -/
section TS9
theorem rG_at {X Y : mMem} {n : Nat} (h : rG1 (X 74) (X 72 0) (Y 19) (Y 20) n 0 ∧ rG1 (X 75) (X 72 1) (Y 19) (Y 20) n 1 ∧ rG1 (X 76) (X 72 2) (Y 19) (Y 20) n 2 ∧ rG1 (X 77) (X 72 3) (Y 19) (Y 20) n 3 ∧ rG1 (X 78) (X 72 4) (Y 19) (Y 20) n 4 ∧ rG1 (X 79) (X 72 5) (Y 19) (Y 20) n 5) : ∀ i, i < 6 → rG1 (X (73 + 1 + i)) (X 72 i) (Y 19) (Y 20) n i := by
  intro i hi
  obtain ⟨h0, h1, h2, h3, h4, h5⟩ := h
  have : i = 0 ∨ i = 1 ∨ i = 2 ∨ i = 3 ∨ i = 4 ∨ i = 5 := by omega
  rcases this with rfl | rfl | rfl | rfl | rfl | rfl
  · exact h0
  · exact h1
  · exact h2
  · exact h3
  · exact h4
  · exact h5
/-- which rule fires -/
def rul (w has dr jm : Int32) : Int32 := if w = 0 then 1 else if has = 0 then (if jm = 0 then 0 else 3) else if dr = 0 then (if jm = 0 then 0 else 3) else 2
theorem rul_cases (w has dr jm : Int32) : rul w has dr jm = 0 ∨ (¬ rul w has dr jm = 0 ∧ ¬ rul w has dr jm ≤ 0) := by
  unfold rul
  by_cases h1 : w = 0
  · rw [if_pos h1]; exact Or.inr ⟨by decide, by decide⟩
  · rw [if_neg h1]
    by_cases h2 : has = 0
    · rw [if_pos h2]
      by_cases h3 : jm = 0
      · rw [if_pos h3]; exact Or.inl rfl
      · rw [if_neg h3]; exact Or.inr ⟨by decide, by decide⟩
    · rw [if_neg h2]
      by_cases h4 : dr = 0
      · rw [if_pos h4]
        by_cases h3 : jm = 0
        · rw [if_pos h3]; exact Or.inl rfl
        · rw [if_neg h3]; exact Or.inr ⟨by decide, by decide⟩
      · rw [if_neg h4]; exact Or.inr ⟨by decide, by decide⟩
/-- how far two values are apart, on both sides -/
theorem apart {u w : Nat} {L : Int32} (hu : u ≤ 1000) (hw : w ≤ 1000) : ((if 0 ≤ nI u - nI w then nI u - nI w else 0 - (nI u - nI w)) ≤ L) ↔ ((if nI u ≤ nI w then nI w - nI u else nI u - nI w) ≤ L) := by
  have e : (if 0 ≤ nI u - nI w then nI u - nI w else 0 - (nI u - nI w)) = (if nI u ≤ nI w then nI w - nI u else nI u - nI w) := by
    by_cases h : u ≤ w
    · rw [if_pos (nI_le h (by omega)), nI_sub h]
      by_cases h2 : u = w
      · subst h2
        rw [Int32.sub_self, if_pos (by decide), Nat.sub_self]
        rfl
      · have h3 : ¬ 0 ≤ nI u - nI w := by
          rw [Int32.le_iff_toInt_le, Int32.toInt_sub, nI_toInt (by omega), nI_toInt (by omega), Int.bmod_eq_of_le (by omega) (by omega)]
          have e0 : (0 : Int32).toInt = 0 := by decide
          omega
        rw [if_neg h3]
        apply Int32.toInt_inj.mp
        rw [Int32.toInt_sub, Int32.toInt_sub, nI_toInt (by omega), nI_toInt (by omega), nI_toInt (by omega), Int.bmod_eq_of_le (n := (u : Int) - (w : Int)) (by omega) (by omega)]
        have e0 : (0 : Int32).toInt = 0 := by decide
        rw [e0, Int.bmod_eq_of_le (by omega) (by omega)]
        omega
    · rw [if_neg (nI_ge (by omega) (by omega)), nI_sub (by omega), if_pos (nI_pos' (by omega))]
  rw [e]
/-- what the class says of a test that has just been added: c tests came before it -/
theorem e_firstRule {X1 : mMem} {i c nk u : Nat} {lst has lim : Int32} {vals : Nat → Int32} {sm9 : Int32} (hi : i < 6) (hc : c < 100) (hnk : nk ≤ 4) (ek : X1 1 1 = nI nk) (hlim : X1 0 8 = lim) (hhas : X1 66 0 = has) (hsz : X1 72 i = nI (c + 1)) (hv : X1 (73 + 1 + i) = vals) (hvc : vals c = nI u) (hl : 0 < c → vals (c - 1) = lst) (hsum : eS (X1 67) (fun k => X1 (9 + 1 + k) i) nk = sm9) :
    fG_firstRule X1 (nI i) (nI u) = some (rul (wth (nI u) (X1 2 i) (X1 3 i)) has (if 5 ≤ c + 1 then dr5 (upc (dA (sm9 / 100)) (dAd (sm9 / 100)) vals (c + 1) 5) (upc (dB (sm9 / 100)) (dBd (sm9 / 100)) vals (c + 1) 5) else 0) (if c = 0 then 0 else if (if 0 ≤ nI u - lst then nI u - lst else 0 - (nI u - lst)) ≤ lim then 0 else 1)) := by
  have hj : fL_jumps X1 (nI i) lim = some (if c = 0 then 0 else if (if 0 ≤ nI u - lst then nI u - lst else 0 - (nI u - lst)) ≤ lim then 0 else 1) := by
    unfold fL_jumps
    rw [m_g_t (inb_nI hi (by omega)), m_l_eq, nI_clamp (show i < 2 ^ 31 by omega), hsz]
    by_cases c0 : c = 0
    · subst c0
      rw [if_pos (show nI (0 + 1) < 2 by decide), if_pos rfl]
    · rw [if_neg (show ¬ nI (c + 1) < 2 from nI_nlt (b := 2) (by omega) (by omega)), if_neg c0, show nI (c + 1) - 1 = nI c from nI_pred c, show nI (c + 1) - 2 = nI (c - 1) by rw [show (2 : Int32) = nI 2 from rfl, nI_sub (by omega), show c + 1 - 2 = c - 1 by omega], m_g_t (inb_nI hc (by omega)), m_g_t (inb_nI (by omega) (by omega))]
      simp only [nI_clamp (show c < 2 ^ 31 by omega), nI_clamp (show c - 1 < 2 ^ 31 by omega), hv, hvc, hl (by omega)]
      by_cases q : (if 0 ≤ nI u - lst then nI u - lst else 0 - (nI u - lst)) ≤ lim
      · rw [if_pos q, if_pos q]
      · rw [if_neg q, if_neg q]
  have hd : fL_drifts X1 (nI i) (sm9 / 100) = some (if 5 ≤ c + 1 then dr5 (upc (dA (sm9 / 100)) (dAd (sm9 / 100)) vals (c + 1) 5) (upc (dB (sm9 / 100)) (dBd (sm9 / 100)) vals (c + 1) 5) else 0) := by
    unfold fL_drifts
    rw [m_g_t (inb_nI hi (by omega)), m_l_eq, nI_clamp (show i < 2 ^ 31 by omega), hsz]
    by_cases c5 : 5 ≤ c + 1
    · rw [if_pos (show (5 : Int32) ≤ nI (c + 1) from nI_le (a := 5) c5 (by omega)), if_pos c5, m_l_eq, e_driftX hi (by omega) c5, hv]
    · rw [if_neg (show ¬ (5 : Int32) ≤ nI (c + 1) from nI_ge (b := 5) (by omega) (by omega)), if_neg c5]
  unfold fG_firstRule rul
  rw [m_g_t (inb_nI hi (by omega)), e_withinG, m_b1_some, nI_clamp (show i < 2 ^ 31 by omega), hhas, hlim]
  by_cases cw : wth (nI u) (X1 2 i) (X1 3 i) = 0
  · rw [if_pos cw, if_pos cw]
  · rw [if_neg cw, if_neg cw, hj]
    by_cases ch : has = 0
    · rw [if_pos ch, if_pos ch, m_b1_some]
      by_cases q : (if c = 0 then (0 : Int32) else if (if 0 ≤ nI u - lst then nI u - lst else 0 - (nI u - lst)) ≤ lim then 0 else 1) = 0
      · rw [if_pos q, if_pos q]
      · rw [if_neg q, if_neg q]
    · rw [if_neg ch, if_neg ch, e_sumAt hi hnk ek, m_b1_some, show (66 + 1 : Nat) = 67 from rfl, hsum, hd, m_b1_some]
      by_cases q1 : (if 5 ≤ c + 1 then dr5 (upc (dA (sm9 / 100)) (dAd (sm9 / 100)) vals (c + 1) 5) (upc (dB (sm9 / 100)) (dBd (sm9 / 100)) vals (c + 1) 5) else 0) = 0
      · rw [if_pos q1, if_pos q1, m_b1_some]
        by_cases q : (if c = 0 then (0 : Int32) else if (if 0 ≤ nI u - lst then nI u - lst else 0 - (nI u - lst)) ≤ lim then 0 else 1) = 0
        · rw [if_pos q, if_pos q]
        · rw [if_neg q, if_neg q]
      · rw [if_neg q1, if_neg q1]
/-- what the reference says of it -/
theorem e_133 {Y1 : mMem} {i n : Nat} {v ap has dr jm : Int32} (hi : i < 6) (hn : n < 100) (h32 : Y1 0 32 = nI (n + 1)) (hhas : Y1 0 18 = has) (hdr : ¬ has = 0 → fM_driftsOff Y1 (nI i) = some dr) (hjm : jm = 0 ↔ ap ≤ Y1 0 31) : fM_test_B133 (nI i) v Y1 ap = some (rul (wth v (Y1 1 i) (Y1 2 i)) has dr jm, mu Y1 22 n (rul (wth v (Y1 1 i) (Y1 2 i)) has dr jm)) := by
  have ix : nI (n + 1) - 1 = nI n := nI_pred n
  have i1 := inb_nI hn (show 100 < 2 ^ 31 by omega)
  have h178 : fM_test_B178 Y1 ap = some ((if jm = 0 then 0 else 3), mu Y1 22 n (if jm = 0 then 0 else 3)) := by
    unfold fM_test_B178
    rw [h32, ix, m_g_t i1, m_g_t i1, nI_clamp (show n < 2 ^ 31 by omega), m_l_eq, m_l_eq]
    by_cases q : jm = 0
    · rw [if_pos (hjm.mp q), if_pos q]
    · rw [if_neg (fun z => q (hjm.mpr z)), if_neg q]
  unfold fM_test_B133 rul wth
  rw [m_g_t (inb_nI hi (by omega)), nI_clamp (show i < 2 ^ 31 by omega), h32, ix, m_g_t i1, m_g_t i1, nI_clamp (show n < 2 ^ 31 by omega), m_l_eq, m_l_eq, hhas]
  by_cases c1 : v < Y1 1 i
  · simp only [if_pos c1, if_true]
  · simp only [if_neg c1]
    by_cases c2 : Y1 2 i < v
    · simp only [if_pos c2, if_neg (Int32.not_le.mpr c2), if_true]
    · simp only [if_neg c2, if_pos (Int32.not_lt.mp c2)]
      have ne : ¬ (1 : Int32) = 0 := by decide
      simp only [if_neg ne]
      by_cases ch : has = 0
      · simp only [if_pos ch]
        exact h178
      · simp only [if_neg ch]
        rw [hdr ch, m_b1_some]
        by_cases q : dr = 0
        · rw [if_pos q, if_pos q]
          exact h178
        · rw [if_neg q, if_neg q]
end TS9
