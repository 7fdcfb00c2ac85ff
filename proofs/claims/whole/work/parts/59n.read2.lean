section RD2
variable {X Y : mMem} {sz : Nat}
theorem e_number (hs : sz ≤ 60) (h3 : X 62 3 = nI sz) (h13 : Y 0 13 = nI sz) (h65 : X 65 = Y 10) {a : Nat} (ha : a ≤ sz) : ∃ r b, b ≤ sz ∧ fT_parseNumber (sA X a) = some (r, sA X b) ∧ fM_number (sB Y a) = some (r, sB Y b) ∧ (r = -1 ∨ ∃ w, w ≤ 9999 ∧ r = nI w) := by
  obtain ⟨r, b, h1, h2, h4, h5⟩ := e_num hs h3 h13 h65 4 0 123 a 0 (by omega) ha (by decide)
  exact ⟨r, b, h1, h2, h4, h5⟩
theorem e_skip (hs : sz ≤ 60) (h3 : X 62 3 = nI sz) (h13 : Y 0 13 = nI sz) (h65 : X 65 = Y 10) {a : Nat} (ha : a ≤ sz) (c : Int32) : ∃ r b, b ≤ sz ∧ ((r = 0 ∧ b = a) ∨ (r = 1 ∧ b = a + 1)) ∧ fT_skip (sA X a) c = some (r, sA X b) ∧ fM_takes (sB Y a) c = some (r, sB Y b) := by
  have e0 : mu (sB Y a) 0 15 (sB Y a 0 15 + 0) = sB Y a := mu_id (by rw [Int32.add_zero])
  unfold fT_skip fM_takes fM_takes_B28
  rw [m_l_eq, e0, sA_3, sA_4, sB_15, sB_f _ _ (by decide), h3, h13]
  by_cases c1 : sz ≤ a
  · rw [if_pos (nI_le c1 (by omega)), if_pos (nI_le c1 (by omega))]
    exact ⟨0, a, ha, Or.inl ⟨rfl, rfl⟩, rfl, rfl⟩
  · have i6 := inb_nI (show a < 60 by omega) (show 60 < 2 ^ 31 by omega)
    rw [if_neg (nI_ge (by omega) (by omega)), if_neg (nI_ge (by omega) (by omega)), m_g_t i6, m_g_t i6]
    simp only [nI_clamp (show a < 2 ^ 31 by omega), sA_q _ _ (show (65 : Nat) ≠ 62 by decide), sB_q _ _ (show (10 : Nat) ≠ 0 by decide), h65]
    by_cases c2 : Y 10 a = c
    · rw [if_pos c2, if_pos c2, nI_1, sA_n, sB_n]
      exact ⟨1, a + 1, by omega, Or.inr ⟨rfl, rfl⟩, rfl, rfl⟩
    · rw [if_neg c2, if_neg c2]
      exact ⟨0, a, ha, Or.inl ⟨rfl, rfl⟩, rfl, rfl⟩
/-- what holds with k bands read -/
def iT (X0 Y0 : mMem) (k : Nat) (X Y : mMem) : Prop := (∀ j, j < k → X 63 j = Y 11 j ∧ X 64 j = Y 12 j ∧ ¬ bnd (Y 11 j) (Y 12 j) = 0) ∧ (∀ q, q ≠ 63 → q ≠ 64 → X q = X0 q) ∧ ∀ q, q ≠ 11 → q ≠ 12 → Y q = Y0 q
theorem iT_s {X0 Y0 X Y : mMem} {k : Nat} {lo hi : Int32} (h : iT X0 Y0 k X Y) (hb : ¬ bnd lo hi = 0) : iT X0 Y0 (k + 1) (mu (mu X 63 k lo) 64 k hi) (mu (mu Y 11 k lo) 12 k hi) := by
  obtain ⟨h1, h2, h3⟩ := h
  refine ⟨fun j hj => ?_, fun q g1 g2 => by rw [mu_ne _ _ _ g2, mu_ne _ _ _ g1]; exact h2 q g1 g2, fun q g1 g2 => by rw [mu_ne _ _ _ g2, mu_ne _ _ _ g1]; exact h3 q g1 g2⟩
  rw [mu_ne _ _ _ (show (63 : Nat) ≠ 64 by decide), mu_self, mu_self, mu_ne _ _ _ (show (64 : Nat) ≠ 63 by decide), mu_ne _ _ _ (show (11 : Nat) ≠ 12 by decide), mu_self, mu_self, mu_ne _ _ _ (show (12 : Nat) ≠ 11 by decide)]
  rw [upd_at, upd_at, upd_at, upd_at]
  by_cases e : j = k
  · rw [if_pos e, if_pos e, if_pos e, if_pos e]
    exact ⟨rfl, rfl, hb⟩
  · rw [if_neg e, if_neg e, if_neg e, if_neg e]
    exact h1 j (by omega)
theorem nm1 {b : Nat} (hb : b ≤ 60) : ¬ nI b < 0 := nI_pos (by omega)
/-- the loop over bands -/
theorem e_parse {X0 Y0 : mMem} {ns : Nat} (hs : sz ≤ 60) (hns : ns ≤ 6) (h3 : X0 62 3 = nI sz) (h13 : Y0 0 13 = nI sz) (h65 : X0 65 = Y0 10) (h0 : Y0 0 0 = nI ns) : ∀ d k e e' X Y a, k + d = ns → a ≤ sz → iT X0 Y0 k X Y → ∃ rX rY X' Y' bX b, b ≤ sz ∧ fT_parse_L7 (nI ns) (d + 1 + e) (sA X a) (nI k) = some (rX, sA X' bX) ∧ fM_readBands_L9 (d + 2 + e') (sB Y a) (nI k) 1 = some (rY, sB Y' b) ∧ ((∃ m, m ≤ ns ∧ rX = nI m ∧ rY = nI m ∧ iT X0 Y0 m X' Y') ∨ (rY = -1 ∧ rX = -1 - nI b ∧ iT X0 Y0 0 X' Y')) := by
  intro d
  induction d with
  | zero =>
    intro k e e' X Y a hk ha hi
    have hk : k = ns := by omega
    subst hk
    have y0 : sB Y a 0 0 = nI k := by rw [sB_f _ _ (by decide), hi.2.2 0 (by decide) (by decide)]; exact h0
    refine ⟨-1 - nI a, -1, X, Y, a, a, ha, ?_, ?_, Or.inr ⟨rfl, rfl, fun j hj => absurd hj (Nat.not_lt_zero _), hi.2.1, hi.2.2⟩⟩
    · rw [show 0 + 1 + e = e + 1 by omega, fT_parse_L7, if_neg (show ¬ (6 : Int32) < nI k from nI_nlt (a := 6) (by omega) (by omega))]
      unfold fT_parseBand
      rw [m_l_eq, if_pos (nI_le (Nat.le_refl _) (by omega)), m_b2_some, sA_4, if_neg (nI_pos (by omega))]
    · rw [show 0 + 2 + e' = (1 + e') + 1 by omega, fM_readBands_L9, if_neg (by decide), m_l_eq, y0, if_pos rfl]
  | succ d ih =>
    intro k e e' X Y a hk ha hi
    have x3 : X 62 3 = nI sz := by rw [hi.2.1 62 (by decide) (by decide)]; exact h3
    have y13 : Y 0 13 = nI sz := by rw [hi.2.2 0 (by decide) (by decide)]; exact h13
    have x65 : X 65 = Y 10 := by rw [hi.2.1 65 (by decide) (by decide), hi.2.2 10 (by decide) (by decide)]; exact h65
    have y0 : sB Y a 0 0 = nI ns := by rw [sB_f _ _ (by decide), hi.2.2 0 (by decide) (by decide)]; exact h0
    have hi0 : iT X0 Y0 0 X Y := ⟨fun j hj => absurd hj (Nat.not_lt_zero _), hi.2.1, hi.2.2⟩
    rw [show d + 1 + 1 + e = (d + 1 + e) + 1 by omega, show d + 1 + 2 + e' = (d + 2 + e') + 1 by omega, fT_parse_L7, if_neg (show ¬ (6 : Int32) < nI k from nI_nlt (a := 6) (by omega) (by omega)), fM_readBands_L9, if_neg (show ¬ (1 : Int32) = 0 by decide), m_l_eq, y0, if_neg (show ¬ nI k = nI ns from fun q => by have := (nI_eq (by omega) (by omega)).mp q; omega)]
    unfold fT_parseBand
    rw [m_l_eq, if_neg (show ¬ nI ns ≤ nI k from nI_ge (by omega) (by omega)), if_pos (show nI k < 6 from nI_lt (b := 6) (by omega) (by omega)), sA_4, sB_15]
    obtain ⟨lo, b1, hb1, p1, q1, hlo⟩ := e_number hs x3 y13 x65 ha
    rw [p1, q1, m_b2_some, m_b2_some]
    -- how a wrong one ends
    have bad : ∀ b, b ≤ sz → ∃ rX rY X' Y' bX b', b' ≤ sz ∧ (m_b2 (some (nI b, sA X b)) fun r_3 M_4 => if r_3 < 0 then if (M_4 62 4) < (M_4 62 3) then m_b2 (fT_skip M_4 44) fun r_7 M_8 => if r_7 = 0 then fT_parse_B61 M_8 else m_l (nI k + 1) fun x2_10 => (fT_parse_L7 (nI ns) (d + 1 + e)) M_8 x2_10 else some (nI k + 1, M_4) else some ((-1) - r_3, M_4)) = some (rX, sA X' bX) ∧ some ((-1 : Int32), sB Y b) = some (rY, sB Y' b') ∧ ((∃ m, m ≤ ns ∧ rX = nI m ∧ rY = nI m ∧ iT X0 Y0 m X' Y') ∨ (rY = -1 ∧ rX = -1 - nI b' ∧ iT X0 Y0 0 X' Y')) := by
      intro b hb
      rw [m_b2_some, if_neg (nI_pos (by omega))]
      exact ⟨_, _, X, Y, b, b, hb, rfl, rfl, Or.inr ⟨rfl, rfl, hi0⟩⟩
    have b53 : ∀ lo' M, fM_readBands_B53 (fM_readBands_L9 (d + 2 + e')) M (nI k) (nI a) lo' 0 = some (-1, M) := by
      intro lo' M
      unfold fM_readBands_B53 fM_readBands_B68
      rw [if_pos rfl, if_pos rfl]
    rcases hlo with hlo | ⟨vlo, hvlo, hlo⟩
    · rw [hlo, if_pos (show (-1 : Int32) < 0 by decide), if_pos (show (-1 : Int32) < 0 by decide), sA_4]
      unfold fM_readBands_B52
      rw [b53]
      exact bad b1 hb1
    · have nlo : ¬ lo < 0 := by rw [hlo]; exact nI_pos (by omega)
      rw [if_neg nlo, if_neg nlo]
      obtain ⟨r2, b2, hb2, hr2, p2, q2⟩ := e_skip hs x3 y13 x65 hb1 45
      rw [p2, q2, m_b2_some, m_b2_some]
      rcases hr2 with ⟨hr2, hbb⟩ | ⟨hr2, hbb⟩
      · rw [hr2, if_pos rfl, if_pos rfl, sA_4]
        unfold fM_readBands_B52
        rw [b53]
        exact bad b2 hb2
      · have n1 : ¬ (1 : Int32) = 0 := by decide
        rw [hr2, if_neg n1, if_neg n1]
        unfold fM_readBands_B53
        rw [if_neg n1]
        obtain ⟨hi9, b3, hb3, p3, q3, hhi⟩ := e_number hs x3 y13 x65 hb2
        rw [p3, q3, m_b2_some, m_b2_some]
        unfold fM_readBands_B68
        rw [if_neg n1]
        rcases hhi with hhi | ⟨vhi, hvhi, hhi⟩
        · rw [hhi, if_neg (show ¬ (0 : Int32) ≤ -1 by decide), if_neg (show ¬ (0 : Int32) ≤ -1 by decide), sA_4]
          exact bad b3 hb3
        · have nhi : 0 ≤ hi9 := by rw [hhi]; exact nI_pos' (by omega)
          rw [if_pos nhi, if_pos nhi, e_mayBeBand, e_isBand, m_b1_some, m_b1_some]
          by_cases cb : bnd lo hi9 = 0
          · rw [if_pos cb, if_pos cb, m_l_eq, sB_n]
            rw [m_b2_some, if_neg (nI_pos (n := a) (by omega))]
            exact ⟨-1 - nI a, -1, X, Y, b3, a, ha, rfl, rfl, Or.inr ⟨rfl, rfl, hi0⟩⟩
          · rw [if_neg cb, if_neg cb]
            have i6 := inb_nI (show k < 6 by omega) (show 6 < 2 ^ 31 by omega)
            have eA : mu (mu (sA X b3) 63 k lo) 64 k hi9 = sA (mu (mu X 63 k lo) 64 k hi9) b3 := by
              unfold sA
              rw [mu_comm _ _ _ _ _ (show (62 : Nat) ≠ 63 by decide), mu_comm _ _ _ _ _ (show (62 : Nat) ≠ 64 by decide)]
            have eB : mu (mu (sB Y b3) 11 k lo) 12 k hi9 = sB (mu (mu Y 11 k lo) 12 k hi9) b3 := by
              unfold sB
              rw [mu_comm _ _ _ _ _ (show (0 : Nat) ≠ 11 by decide), mu_comm _ _ _ _ _ (show (0 : Nat) ≠ 12 by decide)]
            have hi' := iT_s hi cb
            rw [m_g_t i6, m_g_t i6, nI_clamp (show k < 2 ^ 31 by omega), m_l_eq, m_l_eq, m_l_eq, m_l_eq, m_l_eq, eA, eB]
            generalize mu (mu X 63 k lo) 64 k hi9 = X2 at hi' ⊢
            generalize mu (mu Y 11 k lo) 12 k hi9 = Y2 at hi' ⊢
            have x3' : X2 62 3 = nI sz := by rw [hi'.2.1 62 (by decide) (by decide)]; exact h3
            have y13' : Y2 0 13 = nI sz := by rw [hi'.2.2 0 (by decide) (by decide)]; exact h13
            have x65' : X2 65 = Y2 10 := by rw [hi'.2.1 65 (by decide) (by decide), hi'.2.2 10 (by decide) (by decide)]; exact h65
            have hi0' : iT X0 Y0 0 X2 Y2 := ⟨fun j hj => absurd hj (Nat.not_lt_zero _), hi'.2.1, hi'.2.2⟩
            obtain ⟨r4, b4, hb4, hr4, p4, q4⟩ := e_skip hs x3' y13' x65' hb3 44
            rw [q4, m_b2_some, m_b2_some, if_pos (show (-1 : Int32) < 0 by decide), sA_4, sA_3, x3', nI_1]
            by_cases cs : b3 < sz
            · rw [if_pos (nI_lt cs (by omega)), p4, m_b2_some]
              rcases hr4 with ⟨hr4, hbb4⟩ | ⟨hr4, hbb4⟩
              · rw [hr4, if_pos rfl, show d + 2 + e' = (d + 1 + e') + 1 by omega, fM_readBands_L9, if_pos rfl]
                unfold fT_parse_B61 fM_readBands_B128
                rw [sA_4, sB_15, sB_f _ _ (by decide), y13', if_neg (fun z => by have := (nI_eq (by omega) (by omega)).mp z; omega)]
                exact ⟨_, _, X2, Y2, b4, b4, hb4, rfl, rfl, Or.inr ⟨rfl, rfl, hi0'⟩⟩
              · rw [hr4, if_neg n1, m_l_eq]
                exact ih (k + 1) e e' X2 Y2 b4 (by omega) hb4 hi'
            · have hr : r4 = 0 ∧ b4 = sz := by
                rcases hr4 with ⟨u, v⟩ | ⟨u, v⟩
                · exact ⟨u, by omega⟩
                · omega
              rw [if_neg (nI_nlt (by omega) (by omega)), hr.1, hr.2, show d + 2 + e' = (d + 1 + e') + 1 by omega, fM_readBands_L9, if_pos rfl]
              unfold fM_readBands_B128
              rw [sB_15, sB_f _ _ (by decide), y13', if_pos rfl]
              exact ⟨_, _, X2, Y2, b3, sz, Nat.le_refl _, rfl, rfl, Or.inl ⟨k + 1, by omega, rfl, rfl, hi'⟩⟩
end RD2
