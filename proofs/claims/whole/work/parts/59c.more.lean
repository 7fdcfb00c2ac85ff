/-! text, limit, water; what is told of a mix in hand -/
section MOR
/-- hand, batch, tests and search stay, where what they rest on stays -/
theorem Rel_k {X Y X' Y' : mMem} (h : Rel X Y) (hp : Rp X' Y') (hx : ∀ q, 24 ≤ q → q ≤ 42 → X' q = X q) (hx2 : ∀ q, 66 ≤ q → X' q = X q) (h07 : X' 0 7 = X 0 7) (hy : ∀ q, q ≠ 0 → q ≠ 7 → q ≠ 10 → q ≠ 11 → q ≠ 12 → Y' q = Y q) (hy0 : ∀ f, f ≠ 13 → f ≠ 15 → f ≠ 31 → Y' 0 f = Y 0 f) : Rel X' Y' := by
  obtain ⟨-, hH, hKb, hG, hV, hS⟩ := h
  refine ⟨hp, ?_, ?_, ?_, ?_, ?_⟩
  · unfold rH at hH ⊢
    rw [hx2 66 (by omega), hx2 67 (by omega), hy0 18 (by decide) (by decide) (by decide), hy0 3 (by decide) (by decide) (by decide), hy 13 (by decide) (by decide) (by decide) (by decide) (by decide), hy 3 (by decide) (by decide) (by decide) (by decide) (by decide)]
    exact hH
  · rw [hx2 68 (by omega), hy0 28 (by decide) (by decide) (by decide)]
    exact hKb
  · unfold rG at hG ⊢
    rw [hx2 71 (by omega), hx2 72 (by omega), hx2 74 (by omega), hx2 75 (by omega), hx2 76 (by omega), hx2 77 (by omega), hx2 78 (by omega), hx2 79 (by omega), hx2 80 (by omega), hx2 81 (by omega), hx2 82 (by omega), hy0 32 (by decide) (by decide) (by decide), hy 19 (by decide) (by decide) (by decide) (by decide) (by decide), hy 20 (by decide) (by decide) (by decide) (by decide) (by decide), hy 21 (by decide) (by decide) (by decide) (by decide) (by decide), hy 22 (by decide) (by decide) (by decide) (by decide) (by decide)]
    exact hG
  · unfold rV at hV ⊢
    rw [hy0 32 (by decide) (by decide) (by decide), hy 20 (by decide) (by decide) (by decide) (by decide) (by decide)]
    exact hV
  · unfold rS at hS ⊢
    rw [h07]
    intro q ns nk st k cap lo hi od hE
    have hE' : eY Y ns nk st k cap lo hi od := by
      unfold eY at hE ⊢
      rw [hy0 0 (by decide) (by decide) (by decide), hy0 3 (by decide) (by decide) (by decide), hy0 12 (by decide) (by decide) (by decide), hy0 11 (by decide) (by decide) (by decide), hy 4 (by decide) (by decide) (by decide) (by decide) (by decide), hy 5 (by decide) (by decide) (by decide) (by decide) (by decide), hy 6 (by decide) (by decide) (by decide) (by decide) (by decide)] at hE
      exact hE
    have hf : fvM Y' (-1) 0 0 ns nk = fvM Y (-1) 0 0 ns nk := by
      funext R w
      unfold fvM ptM ndM alM
      rw [hy 1 (by decide) (by decide) (by decide) (by decide) (by decide), hy 2 (by decide) (by decide) (by decide) (by decide) (by decide), hy 3 (by decide) (by decide) (by decide) (by decide) (by decide), hy 8 (by decide) (by decide) (by decide) (by decide) (by decide), hy 9 (by decide) (by decide) (by decide) (by decide) (by decide)]
    rw [hf]
    have g := hS q ns nk st k cap lo hi od hE'
    unfold hX at g ⊢
    rw [hx 24 (by omega) (by omega), hx (24 + 14) (by omega) (by omega), hx (24 + 15) (by omega) (by omega), hx (24 + 16) (by omega) (by omega), hx (24 + 17) (by omega) (by omega), hx (24 + 18) (by omega) (by omega)]
    exact g
theorem e_limit {X Y : mMem} (h : Rel X Y) (a1 : Int32) : ∃ r X' Y', fG_limit X a1 = some (r, X') ∧ fM_limit Y a1 = some (r, Y') ∧ Rel X' Y' := by
  obtain ⟨hA, hB, hC, hD, hT, hK, hZ, hL⟩ := h.1
  unfold fG_limit fM_limit
  rw [e_withinG, e_withinM, m_b1_some, m_b1_some]
  by_cases c : wth a1 1 1000 = 0
  · rw [if_pos c, if_pos c]
    exact ⟨_, _, _, rfl, rfl, h⟩
  · obtain ⟨j, -, hj, rfl⟩ := wth_of (a := 1) (b := 1000) (by omega) (by omega) c
    rw [if_neg c, if_neg c, m_l_eq, m_l_eq, m_l_eq, m_l_eq, hL.1.1]
    refine ⟨_, _, _, rfl, rfl, Rel_k h ⟨?_, ?_, ?_, ?_, ?_, ?_, ?_, ?_⟩ (fun q h1 h2 => mu_ne _ _ _ (by omega)) (fun q h1 => mu_ne _ _ _ (by omega)) (by rw [mu_app, if_neg (by omega)]) (fun q h0 _ _ _ _ => mu_ne _ _ _ h0) (fun f _ _ h31 => by rw [mu_app, if_neg (fun q => h31 q.2)])⟩
    · simpa [rA, mu_rw, upd_at] using hA
    · simpa [rB, mu_rw] using hB
    · simpa [rC, mu_rw] using hC
    · simpa [rD, mu_rw] using hD
    · simpa [rT, mu_rw, upd_at] using hT
    · simpa [mu_rw] using hK
    · simpa [rZ, mu_rw] using hZ
    · exact ⟨⟨by simp [mu_rw, upd_at], j, hj, by simp [mu_rw, upd_at]⟩, by simpa [rR, mu_rw] using hL.2⟩
theorem e_water {X Y : mMem} (h : Rel X Y) (a1 a2 : Int32) : ∃ r X' Y', fG_water X a1 a2 = some (r, X') ∧ fM_water Y a1 a2 = some (r, Y') ∧ Rel X' Y' := by
  obtain ⟨hA, hB, hC, hD, hT, hK, hZ, hL⟩ := h.1
  obtain ⟨⟨a0, a1', a2', a3'⟩, -, ⟨nk, hnk, enk⟩, -, -⟩ := id hA
  obtain ⟨b2, b3, b4, b5, b6, b7, b8⟩ := id hB
  unfold fG_water fM_water
  rw [e_hasStock, e_isStock, m_b1_some, m_b1_some, a1', enk]
  by_cases c : (if a1 < 0 then (0 : Int32) else if nI nk ≤ a1 then 0 else 1) = 0
  · rw [if_pos c, if_pos c]
    exact ⟨_, _, _, rfl, rfl, h⟩
  · obtain ⟨i, hi, rfl⟩ := ix_of (by omega) c
    rw [if_neg c, if_neg c, e_withinG, e_withinM, m_b1_some, m_b1_some]
    by_cases c2 : wth a2 0 300 = 0
    · rw [if_pos c2, if_pos c2]
      exact ⟨_, _, _, rfl, rfl, h⟩
    · obtain ⟨w, -, hw, rfl⟩ := wth_of (a := 0) (b := 300) (by omega) (by omega) c2
      rw [if_neg c2, if_neg c2, m_g_t (inb_nI (show i < 4 by omega) (by omega)), m_g_t (inb_nI (show i < 4 by omega) (by omega)), m_l_eq, m_l_eq, m_l_eq, m_l_eq, nI_clamp (show i < 2 ^ 31 by omega), b8]
      refine ⟨_, _, _, rfl, rfl, Rel_k h ⟨?_, ?_, ?_, ?_, ?_, ?_, ?_, ?_⟩ (fun q h1 h2 => mu_ne _ _ _ (by omega)) (fun q h1 => mu_ne _ _ _ (by omega)) (by rw [mu_app, if_neg (by omega)]) (fun q _ h7 _ _ _ => mu_ne _ _ _ h7) (fun f _ _ _ => by rw [mu_app, if_neg (by omega)])⟩
      · simpa [rA, mu_rw, upd_at] using hA
      · simp [rB, mu_rw, b2, b3, b4, b5, b6, b7, b8]
      · intro j hj
        obtain ⟨p, q, v, g1, g2, g3, g4, g5, g6⟩ := hC j hj
        by_cases e : j = i
        · subst e
          exact ⟨p, q, w, by simpa [mu_rw, upd_at] using g1, by simpa [mu_rw, upd_at] using g2, by simp [mu_rw, upd_at], g4, g5, hw⟩
        · exact ⟨p, q, v, by simpa [mu_rw, upd_at] using g1, by simpa [mu_rw, upd_at] using g2, by simpa [mu_rw, upd_at, e] using g3, g4, g5, g6⟩
      · simpa [rD, mu_rw] using hD
      · simpa [rT, mu_rw, upd_at] using hT
      · simpa [mu_rw] using hK
      · simpa [rZ, mu_rw] using hZ
      · simpa [rL, rR, mu_rw, upd_at] using hL
theorem e_unit {X Y : mMem} (h : Rel X Y) (a1 : Int32) : ∃ r X' Y', fG_unit X a1 = some (r, X') ∧ fM_unit Y a1 = some (r, Y') ∧ Rel X' Y' := by
  obtain ⟨hA, hB, hC, hD, hT, hK, hZ, hL⟩ := h.1
  obtain ⟨t1, t2, n, hn, en⟩ := id hT
  unfold fG_unit fM_unit fT_collect
  rw [e_withinG, e_withinM, m_b1_some, m_b1_some]
  by_cases c : wth a1 32 126 = 0
  · rw [if_pos c, if_pos c, m_b2_some, m_g_t (by decide)]
    exact ⟨_, _, _, rfl, rfl, h⟩
  · rw [if_neg c, if_neg c, t1, en]
    by_cases h6 : n = 60
    · subst h6
      rw [if_neg (show ¬ nI 60 < 60 by decide), if_pos (show nI 60 = 60 from rfl), m_b2_some, m_g_t (by decide)]
      exact ⟨_, _, _, rfl, rfl, h⟩
    · have i6 := inb_nI (show n < 60 by omega) (show 60 < 2 ^ 31 by omega)
      rw [if_pos (show nI n < 60 from nI_lt (b := 60) (by omega) (by omega)), if_neg (show ¬ nI n = 60 from fun q => h6 ((nI_eq (b := 60) (by omega) (by omega)).mp q)), m_g_t i6, m_g_t i6, m_l_eq, m_l_eq, m_l_eq, m_l_eq, m_b2_some, m_g_t (by decide), nI_clamp (show n < 2 ^ 31 by omega)]
      have e1 : mu X 65 n a1 62 3 = nI n := by rw [mu_app, if_neg (by omega), t1]; exact en
      have e2 : mu Y 10 n a1 0 13 = nI n := by rw [mu_app, if_neg (by omega)]; exact en
      rw [e1, e2, nI_1]
      refine ⟨_, _, _, rfl, rfl, Rel_k h ⟨?_, ?_, ?_, ?_, ?_, ?_, ?_, ?_⟩ (fun q h1 h2 => by rw [mu_ne _ _ _ (by omega), mu_ne _ _ _ (by omega)]) (fun q h1 => by rw [mu_ne _ _ _ (by omega), mu_ne _ _ _ (by omega)]) (by rw [mu_app, mu_app, if_neg (by omega), if_neg (by omega)]) (fun q h0 _ h10 _ _ => by rw [mu_ne _ _ _ h0, mu_ne _ _ _ h10]) (fun f h13 _ _ => by rw [mu_app, mu_app, if_neg (by omega), if_neg (by omega)])⟩
      · simpa [rA, mu_rw, upd_at] using hA
      · simpa [rB, mu_rw] using hB
      · simpa [rC, mu_rw] using hC
      · simpa [rD, mu_rw] using hD
      · exact ⟨by simp [mu_rw, upd_at], by simp [mu_rw, t2], n + 1, by omega, by simp [mu_rw, upd_at]⟩
      · simpa [mu_rw] using hK
      · simpa [rZ, mu_rw] using hZ
      · simpa [rL, rR, mu_rw, upd_at] using hL
/-! reads -/
theorem e_share {X Y : mMem} (h : Rel X Y) (a1 : Int32) : ∃ r, fG_share X a1 = some r ∧ fM_share Y a1 = some r := by
  obtain ⟨⟨a0, a1', a2', a3'⟩, -, ⟨nk, hnk, enk⟩, -, -⟩ := h.1.1
  obtain ⟨h1, h2⟩ := h.2.1
  unfold fG_share fM_share
  rw [h1]
  by_cases c0 : Y 0 18 = 0
  · rw [if_pos c0, if_pos c0]
    exact ⟨_, rfl, rfl⟩
  · rw [if_neg c0, if_neg c0, e_hasStock, e_isStock, m_b1_some, m_b1_some, a1', enk]
    by_cases c : (if a1 < 0 then (0 : Int32) else if nI nk ≤ a1 then 0 else 1) = 0
    · rw [if_pos c, if_pos c]
      exact ⟨_, rfl, rfl⟩
    · obtain ⟨i, hi, rfl⟩ := ix_of (by omega) c
      rw [if_neg c, if_neg c, m_g_t (inb_nI (show i < 4 by omega) (by omega)), m_g_t (inb_nI (show i < 4 by omega) (by omega)), nI_clamp (show i < 2 ^ 31 by omega), (h2 c0 nk hnk enk).1 i hi]
      exact ⟨_, rfl, rfl⟩
theorem e_cost {X Y : mMem} (h : Rel X Y) : ∃ r, fG_cost X = some r ∧ fM_cost Y = some r := by
  obtain ⟨-, -, ⟨nk, hnk, enk⟩, -, -⟩ := h.1.1
  obtain ⟨h1, h2⟩ := h.2.1
  unfold fG_cost fM_cost
  rw [h1]
  by_cases c0 : Y 0 18 = 0
  · rw [if_pos c0, if_pos c0]
    exact ⟨_, rfl, rfl⟩
  · rw [if_neg c0, if_neg c0, e_costOf hnk enk, m_b1_some, (h2 c0 nk hnk enk).2.1, cst_eS]
    exact ⟨_, rfl, rfl⟩
theorem e_mass {X Y : mMem} (h : Rel X Y) (a1 a2 : Int32) : ∃ r, fG_mass X a1 a2 = some r ∧ fM_mass Y a1 a2 = some r := by
  obtain ⟨⟨a0, a1', a2', a3'⟩, -, ⟨nk, hnk, enk⟩, -, -⟩ := h.1.1
  obtain ⟨hK1, hK2⟩ := h.1.2.2.2.2.2.1
  have hKb := h.2.2.1
  unfold fG_mass fM_mass
  rw [hKb]
  by_cases c0 : Y 0 28 = 0
  · rw [if_pos c0, if_pos c0]
    exact ⟨_, rfl, rfl⟩
  · rw [if_neg c0, if_neg c0, e_hasStock, e_isStock, m_b1_some, m_b1_some, a1', enk]
    by_cases c : (if a1 < 0 then (0 : Int32) else if nI nk ≤ a1 then 0 else 1) = 0
    · rw [if_pos c, if_pos c]
      exact ⟨_, rfl, rfl⟩
    · obtain ⟨i, hi, rfl⟩ := ix_of (by omega) c
      rw [if_neg c, if_neg c]
      have i4 := inb_nI (show i < 4 by omega) (show 4 < 2 ^ 31 by omega)
      by_cases c2 : a2 = 0
      · rw [if_pos c2, if_pos c2, m_g_t i4, m_g_t i4, nI_clamp (show i < 2 ^ 31 by omega), hK1]
        exact ⟨_, rfl, rfl⟩
      · rw [if_neg c2, if_neg c2, m_g_t i4, m_g_t i4, nI_clamp (show i < 2 ^ 31 by omega), hK2]
        exact ⟨_, rfl, rfl⟩
theorem rD_at {X Y : mMem} (h : rD X Y) {k s : Nat} (hk : k < 4) (hs : s < 6) : X (9 + 1 + k) s = Y 8 (6 * k + s) ∧ X (14 + 1 + k) s = lwp (Y 8 (6 * k + s)) (Y 9 (6 * k + s)) ∧ X (19 + 1 + k) s = upp (Y 8 (6 * k + s)) (Y 9 (6 * k + s)) := by
  obtain ⟨d0, d1, d2, d3⟩ := h
  have : k = 0 ∨ k = 1 ∨ k = 2 ∨ k = 3 := by omega
  rcases this with rfl | rfl | rfl | rfl
  · exact d0 s hs
  · exact d1 s hs
  · exact d2 s hs
  · exact d3 s hs
theorem e_sumAt {X : mMem} {s nk g m : Nat} (hs : s < 6) (hnk : nk ≤ 4) (h1 : X 1 1 = nI nk) : fP_sumAt X (nI s) g m = some (eS (X (m + 1)) (fun k => X (g + 1 + k) s) nk) := by
  have key : ∀ d k e, k + d = nk → fP_sumAt_L6 (nI s) g m X (d + 1 + e) (eS (X (m + 1)) (fun k => X (g + 1 + k) s) k) (nI k) = some (eS (X (m + 1)) (fun k => X (g + 1 + k) s) nk) := by
    intro d
    induction d with
    | zero =>
      intro k e hk
      have hk : k = nk := by omega
      subst hk
      rw [show 0 + 1 + e = e + 1 by omega, fP_sumAt_L6, h1, if_pos (nI_le (Nat.le_refl _) (by omega))]
    | succ d ih =>
      intro k e hk
      have ih' := ih (k + 1) e (by omega)
      rw [eS] at ih'
      rw [show d + 1 + 1 + e = (d + 1 + e) + 1 by omega, fP_sumAt_L6, h1, if_neg (nI_ge (by omega) (by omega)), m_g_t (inb_nI (by omega) (by omega)), m_g_t (inb_nI hs (by omega)), m_l_eq, m_l_eq, nI_1, nI_clamp (show k < 2 ^ 31 by omega), nI_clamp (show s < 2 ^ 31 by omega)]
      exact ih'
  have h := key nk 0 (127 - nk) (by omega)
  rw [show nk + 1 + (127 - nk) = 128 by omega] at h
  exact h
/-- the sums of a mix in hand -/
theorem sum_hand {X Y : mMem} (h : Rel X Y) {nk s : Nat} (hnk : nk ≤ 4) (enk : Y 0 3 = nI nk) (c0 : ¬ Y 0 18 = 0) (hs : s < 6) : eS (X 67) (fun k => X (9 + 1 + k) s) nk = eS (Y 13) (fun k => ptM Y 0 k s) nk ∧ eS (X 67) (fun k => X (14 + 1 + k) s) nk = eS (Y 13) (fun k => ptM Y 1 k s) nk ∧ eS (X 67) (fun k => X (19 + 1 + k) s) nk = eS (Y 13) (fun k => ptM Y 2 k s) nk := by
  have hw := (h.2.1.2 c0 nk hnk enk).1
  have hD := h.1.2.2.2.1
  refine ⟨eS_eq nk (fun k hk => ⟨hw k hk, ?_⟩), eS_eq nk (fun k hk => ⟨hw k hk, ?_⟩), eS_eq nk (fun k hk => ⟨hw k hk, ?_⟩)⟩
  · exact (rD_at hD (by omega) hs).1
  · exact (rD_at hD (by omega) hs).2.1
  · exact (rD_at hD (by omega) hs).2.2
theorem e_told {X Y : mMem} (h : Rel X Y) (a1 a2 : Int32) : ∃ r, fG_told X a1 a2 = some r ∧ fM_told Y a1 a2 = some r := by
  obtain ⟨⟨a0, a1', a2', a3'⟩, ⟨ns, hns, ens⟩, ⟨nk, hnk, enk⟩, -, -⟩ := h.1.1
  obtain ⟨b2, b3, -⟩ := h.1.2.1
  have h1 := h.2.1.1
  have ek : X 1 1 = nI nk := a1'.trans enk
  unfold fG_told fM_told
  rw [h1]
  by_cases c0 : Y 0 18 = 0
  · rw [if_pos c0, if_pos c0]
    exact ⟨_, rfl, rfl⟩
  · rw [if_neg c0, if_neg c0, e_hasSieve, e_isSieve, m_b1_some, m_b1_some, a0, ens]
    by_cases c : (if a1 < 0 then (0 : Int32) else if nI ns ≤ a1 then 0 else 1) = 0
    · rw [if_pos c, if_pos c]
      exact ⟨_, rfl, rfl⟩
    · obtain ⟨s, hs, rfl⟩ := ix_of (by omega) c
      have hs6 : s < 6 := by omega
      obtain ⟨s0, s1, s2⟩ := sum_hand h hnk enk c0 hs6
      rw [if_neg c, if_neg c, e_withinM, m_b1_some]
      by_cases k0 : a2 = 0
      · subst k0
        rw [if_pos rfl, if_neg (show ¬ wth 0 0 3 = 0 by decide), if_neg (show ¬ (0 : Int32) = 3 by decide), e_sumAt hs6 hnk ek, e_endOf hs6 hnk enk, m_b1_some, m_b1_some, s0]
        exact ⟨_, rfl, rfl⟩
      · rw [if_neg k0]
        by_cases k1 : a2 = 1
        · subst k1
          rw [if_pos rfl, if_neg (show ¬ wth 1 0 3 = 0 by decide), if_neg (show ¬ (1 : Int32) = 3 by decide), e_sumAt hs6 hnk ek, e_endOf hs6 hnk enk, m_b1_some, m_b1_some, s1]
          exact ⟨_, rfl, rfl⟩
        · rw [if_neg k1]
          by_cases k2 : a2 = 2
          · subst k2
            rw [if_pos rfl, if_neg (show ¬ wth 2 0 3 = 0 by decide), if_neg (show ¬ (2 : Int32) = 3 by decide), e_sumAt hs6 hnk ek, e_endOf hs6 hnk enk, m_b1_some, m_b1_some, s2]
            exact ⟨_, rfl, rfl⟩
          · rw [if_neg k2]
            by_cases k3 : a2 = 3
            · subst k3
              unfold fP_missAt
              rw [if_pos rfl, if_neg (show ¬ wth 3 0 3 = 0 by decide), if_pos rfl, m_g_t (inb_nI hs6 (by omega)), m_g_t (inb_nI hs6 (by omega)), e_sumAt hs6 hnk ek, m_b1_some, m_l_eq, e_sumAt hs6 hnk ek, m_b1_some, m_l_eq, e_missOf hs6 hnk enk, nI_clamp (show s < 2 ^ 31 by omega), m_b1_some, m_b1_some, s1, s2, b2, b3]
              exact ⟨_, rfl, rfl⟩
            · rw [if_neg k3, if_pos]
              · exact ⟨_, rfl, rfl⟩
              · by_cases q : wth a2 0 3 = 0
                · exact q
                · obtain ⟨j, -, hj, rfl⟩ := wth_of (a := 0) (b := 3) (by omega) (by omega) q
                  have : j = 0 ∨ j = 1 ∨ j = 2 ∨ j = 3 := by omega
                  rcases this with rfl | rfl | rfl | rfl
                  · exact absurd rfl k0
                  · exact absurd rfl k1
                  · exact absurd rfl k2
                  · exact absurd rfl k3
end MOR
