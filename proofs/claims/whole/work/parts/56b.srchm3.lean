section SRP
/-- what the reference's search reads -/
def eY (Y : mMem) (ns nk st k cap : Nat) (lo hi : Nat → Nat) (od : Nat → Bool) : Prop :=
  ns ≤ 6 ∧ nk ≤ 4 ∧ st * k = 100 ∧ cap ≤ 100 ∧ Y 0 0 = nI ns ∧ Y 0 3 = nI nk ∧ Y 0 12 = nI st ∧ Y 0 11 = nI cap ∧ ∀ i, i < 4 → Y 4 i = nI (lo i) ∧ Y 5 i = nI (hi i) ∧ lo i ≤ 100 ∧ hi i ≤ 100 ∧ (Y 6 i = 0 ↔ od i = false)
variable {ns nk st k cap : Nat} {lo hi : Nat → Nat} {od : Nat → Bool} {Y0 : mMem}
theorem eY_sm {Y Y' : mMem} (h : eY Y ns nk st k cap lo hi od) (g : smM Y Y') : eY Y' ns nk st k cap lo hi od := by
  unfold eY at h ⊢
  rw [g.2 0 (by omega), g.2 3 (by omega), g.2 12 (by omega), g.2 11 (by omega), g.1 4 (by decide) (by decide) (by decide) (by decide), g.1 5 (by decide) (by decide) (by decide) (by decide), g.1 6 (by decide) (by decide) (by decide) (by decide)]
  exact h
theorem fvM_sm {Y Y' : mMem} {x2 x3 x4 : Int32} (g : smM Y Y') : fvM Y' x2 x3 x4 ns nk = fvM Y x2 x3 x4 ns nk := by
  funext R w
  unfold fvM ptM ndM alM
  rw [g.1 1 (by decide) (by decide) (by decide) (by decide), g.1 2 (by decide) (by decide) (by decide) (by decide), g.1 3 (by decide) (by decide) (by decide) (by decide), g.1 8 (by decide) (by decide) (by decide) (by decide), g.1 9 (by decide) (by decide) (by decide) (by decide)]
def sN (w : Q4) : Nat → Nat
  | 0 => 0
  | j + 1 => sN w j + q4g w j
def oN (nk : Nat) (od : Nat → Bool) (w : Q4) : Nat → Nat
  | 0 => 0
  | j + 1 => oN nk od w j + odk nk od w j
theorem e_isMix {Y : mMem} {w : Q4} (hE : eY Y ns nk st k cap lo hi od) (hw : ∀ j, j < 4 → Y 14 j = wI w j) (hle : ∀ j, j < 4 → q4g w j ≤ 100) : ∃ r, fM_isMix Y = some r ∧ (¬ r = 0 ↔ okM nk lo hi od cap w) := by
  obtain ⟨hns, hnk, hst, hcap, e0, e3, e12, e11, eL⟩ := hE
  have bs : ∀ j, j ≤ 4 → sN w j ≤ 100 * j ∧ oN nk od w j ≤ 100 * j := by
    intro j
    induction j with
    | zero => intro _; exact ⟨Nat.le_refl _, Nat.le_refl _⟩
    | succ j ih =>
      intro hj
      have h1 := ih (by omega)
      have h2 := hle j (by omega)
      have h3 : odk nk od w j ≤ 100 := by
        unfold odk
        by_cases c : j < nk
        · rw [if_pos c]
          by_cases c2 : od j = true
          · rw [if_pos c2]; exact h2
          · rw [if_neg c2]; omega
        · rw [if_neg c]; omega
      rw [sN, oN]
      omega
  have key : ∀ d j e, j + d = 4 → ∃ r, fM_isMix_L6 Y (d + 1 + e) (nI (sN w j)) (nI (oN nk od w j)) (nI j) = some r ∧ (¬ r = 0 ↔ (∀ t, j ≤ t → t < 4 → okk nk lo hi w t) ∧ sN w 4 = 100 ∧ oN nk od w 4 ≤ cap) := by
    intro d
    induction d with
    | zero =>
      intro j e hj
      have hj : j = 4 := by omega
      subst hj
      have b4 := bs 4 (Nat.le_refl _)
      rw [show 0 + 1 + e = e + 1 by omega, fM_isMix_L6, if_pos (show (4 : Int32) ≤ nI 4 from nI_le (a := 4) (Nat.le_refl _) (by omega))]
      unfold fM_isMix_B111
      rw [e11]
      by_cases c1 : sN w 4 = 100
      · rw [if_pos (show nI (sN w 4) = 100 by rw [c1]; rfl)]
        by_cases c2 : cap < oN nk od w 4
        · rw [if_pos (nI_lt c2 (by omega))]
          exact ⟨0, rfl, fun q => absurd rfl q, fun q => absurd q.2.2 (by omega)⟩
        · rw [if_neg (nI_nlt (by omega) (by omega))]
          exact ⟨1, rfl, fun _ => ⟨fun t h1 h2 => absurd h1 (by omega), c1, by omega⟩, fun _ => by decide⟩
      · rw [if_neg (show ¬ nI (sN w 4) = 100 from fun q => c1 ((nI_eq (b := 100) (by omega) (by omega)).mp q))]
        exact ⟨0, rfl, fun q => absurd rfl q, fun q => absurd q.2.1 c1⟩
    | succ d ih =>
      intro j e hj
      obtain ⟨r, ih1, ih2⟩ := ih (j + 1) e (by omega)
      rw [sN, oN] at ih1
      have bj := bs j (by omega)
      have b2 := hle j (by omega)
      have hwj := hw j (by omega)
      obtain ⟨l1, l2, l3, l4, l5⟩ := eL j (by omega)
      have split : (∀ t, j ≤ t → t < 4 → okk nk lo hi w t) ↔ okk nk lo hi w j ∧ ∀ t, j + 1 ≤ t → t < 4 → okk nk lo hi w t := by
        refine ⟨fun h => ⟨h j (Nat.le_refl _) (by omega), fun t h1 h2 => h t (by omega) h2⟩, fun h t h1 h2 => ?_⟩
        rcases Nat.eq_or_lt_of_le h1 with q | q
        · subst q
          exact h.1
        · exact h.2 t q h2
      rw [split]
      rw [show d + 1 + 1 + e = (d + 1 + e) + 1 by omega, fM_isMix_L6, if_neg (show ¬ (4 : Int32) ≤ nI j from nI_ge (b := 4) (by omega) (by omega)), e3]
      by_cases c1 : nk ≤ j
      · have ok : okk nk lo hi w j ↔ q4g w j = 0 := by
          unfold okk
          rw [if_neg (by omega)]
        rw [if_pos (nI_le c1 (by omega)), m_g_t (inb_nI (by omega) (by omega)), nI_clamp (show j < 2 ^ 31 by omega), hwj]
        by_cases c2 : q4g w j = 0
        · rw [if_pos (show wI w j = 0 by unfold wI; rw [c2]; rfl)]
          unfold fM_isMix_B57
          rw [if_neg (by decide), m_g_t (inb_nI (by omega) (by omega)), nI_clamp (show j < 2 ^ 31 by omega), hwj, e3, m_l_eq, if_pos (nI_le c1 (by omega)), m_l_eq, m_l_eq, nI_1, Int32.add_zero]
          have o0 : odk nk od w j = 0 := by unfold odk; rw [if_neg (by omega)]
          rw [o0, Nat.add_zero, ← nI_add] at ih1
          refine ⟨r, ih1, ih2.trans ⟨fun q => ⟨⟨ok.mpr c2, q.1⟩, q.2⟩, fun q => ⟨q.1.2, q.2⟩⟩⟩
        · rw [if_neg (show ¬ wI w j = 0 from fun q => c2 ((nI_eq (b := 0) (by omega) (by omega)).mp q))]
          unfold fM_isMix_B57
          rw [if_pos rfl]
          exact ⟨0, rfl, fun q => absurd rfl q, fun q => absurd (ok.mp q.1.1) c2⟩
      · have ok : okk nk lo hi w j ↔ lo j ≤ q4g w j ∧ q4g w j ≤ hi j := by
          unfold okk
          rw [if_pos (by omega)]
        rw [if_neg (nI_ge (by omega) (by omega)), m_g_t (inb_nI (by omega) (by omega)), nI_clamp (show j < 2 ^ 31 by omega), e_withinM, m_b1_some, hwj, l1, l2]
        have wz : wth (wI w j) (nI (lo j)) (nI (hi j)) = 0 ↔ ¬ (lo j ≤ q4g w j ∧ q4g w j ≤ hi j) := wth_nI (x := q4g w j) (a := lo j) (b := hi j) (by omega) (by omega) (by omega)
        unfold fM_isMix_B57
        by_cases c2 : lo j ≤ q4g w j ∧ q4g w j ≤ hi j
        · rw [if_neg (fun q => wz.mp q c2), m_g_t (inb_nI (by omega) (by omega)), nI_clamp (show j < 2 ^ 31 by omega), hwj, e3, m_l_eq, if_neg (nI_ge (by omega) (by omega))]
          by_cases c3 : od j = true
          · rw [if_neg (show ¬ Y 6 j = 0 from fun q => by rw [l5.mp q] at c3; cases c3), m_l_eq, m_l_eq, nI_1]
            have o0 : odk nk od w j = q4g w j := by unfold odk; rw [if_pos (by omega), if_pos c3]
            rw [o0, ← nI_add, ← nI_add] at ih1
            refine ⟨r, ih1, ih2.trans ⟨fun q => ⟨⟨ok.mpr c2, q.1⟩, q.2⟩, fun q => ⟨q.1.2, q.2⟩⟩⟩
          · rw [if_pos (show Y 6 j = 0 from l5.mpr (by simpa using c3)), m_l_eq, m_l_eq, nI_1, Int32.add_zero]
            have o0 : odk nk od w j = 0 := by unfold odk; rw [if_pos (by omega), if_neg c3]
            rw [o0, Nat.add_zero, ← nI_add] at ih1
            refine ⟨r, ih1, ih2.trans ⟨fun q => ⟨⟨ok.mpr c2, q.1⟩, q.2⟩, fun q => ⟨q.1.2, q.2⟩⟩⟩
        · rw [if_pos (wz.mpr c2)]
          exact ⟨0, rfl, fun q => absurd rfl q, fun q => absurd (ok.mp q.1.1) c2⟩
  obtain ⟨r, h1, h2⟩ := key 4 0 123 (by omega)
  refine ⟨r, h1, h2.trans ?_⟩
  unfold okM
  have e1 : sN w 4 = q4g w 0 + q4g w 1 + q4g w 2 + q4g w 3 := by simp [sN]
  have e2 : oN nk od w 4 = odk nk od w 0 + odk nk od w 1 + odk nk od w 2 + odk nk od w 3 := by simp [oN]
  rw [e1, e2]
  refine ⟨fun q => ⟨q.1 0 (by omega) (by omega), q.1 1 (by omega) (by omega), q.1 2 (by omega) (by omega), q.1 3 (by omega) (by omega), q.2⟩, fun q => ⟨fun t _ ht => ?_, q.2.2.2.2⟩⟩
  have : t = 0 ∨ t = 1 ∨ t = 2 ∨ t = 3 := by omega
  rcases this with rfl | rfl | rfl | rfl
  · exact q.1
  · exact q.2.1
  · exact q.2.2.1
  · exact q.2.2.2.1
end SRP
