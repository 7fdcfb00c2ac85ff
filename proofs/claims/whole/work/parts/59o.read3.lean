/-! read whole -/
section RD3
theorem Rp_t {X Y X' Y' : mMem} (h : Rp X Y) (hx : ∀ q, q ≠ 62 → q ≠ 63 → q ≠ 64 → X' q = X q) (hy : ∀ q, q ≠ 0 → q ≠ 11 → q ≠ 12 → Y' q = Y q) (hy0 : ∀ f, f ≠ 13 → f ≠ 15 → Y' 0 f = Y 0 f) (hT' : rT X' Y') : Rp X' Y' := by
  obtain ⟨hA, hB, hC, hD, hT, hK, hZ, hL⟩ := h
  refine ⟨?_, ?_, ?_, ?_, hT', ?_, ?_, ?_⟩
  · unfold rA at hA ⊢
    rw [hx 1 (by omega) (by omega) (by omega), hy0 0 (by omega) (by omega), hy0 3 (by omega) (by omega), hy0 11 (by omega) (by omega), hy0 12 (by omega) (by omega)]
    exact hA
  · unfold rB at hB ⊢
    rw [hx 2 (by omega) (by omega) (by omega), hx 3 (by omega) (by omega) (by omega), hx 4 (by omega) (by omega) (by omega), hx 5 (by omega) (by omega) (by omega), hx 6 (by omega) (by omega) (by omega), hx 7 (by omega) (by omega) (by omega), hx 8 (by omega) (by omega) (by omega), hy 1 (by omega) (by omega) (by omega), hy 2 (by omega) (by omega) (by omega), hy 3 (by omega) (by omega) (by omega), hy 4 (by omega) (by omega) (by omega), hy 5 (by omega) (by omega) (by omega), hy 6 (by omega) (by omega) (by omega), hy 7 (by omega) (by omega) (by omega)]
    exact hB
  · unfold rC at hC ⊢
    rw [hy 4 (by omega) (by omega) (by omega), hy 5 (by omega) (by omega) (by omega), hy 7 (by omega) (by omega) (by omega)]
    exact hC
  · unfold rD at hD ⊢
    rw [hy 8 (by omega) (by omega) (by omega), hy 9 (by omega) (by omega) (by omega), hx 10 (by omega) (by omega) (by omega), hx 11 (by omega) (by omega) (by omega), hx 12 (by omega) (by omega) (by omega), hx 13 (by omega) (by omega) (by omega), hx 15 (by omega) (by omega) (by omega), hx 16 (by omega) (by omega) (by omega), hx 17 (by omega) (by omega) (by omega), hx 18 (by omega) (by omega) (by omega), hx 20 (by omega) (by omega) (by omega), hx 21 (by omega) (by omega) (by omega), hx 22 (by omega) (by omega) (by omega), hx 23 (by omega) (by omega) (by omega)]
    exact hD
  · rw [hx 69 (by omega) (by omega) (by omega), hx 70 (by omega) (by omega) (by omega), hy 17 (by omega) (by omega) (by omega), hy 18 (by omega) (by omega) (by omega)]
    exact hK
  · unfold rZ at hZ ⊢
    rw [hx 29 (by omega) (by omega) (by omega), hx 34 (by omega) (by omega) (by omega), hx 48 (by omega) (by omega) (by omega), hx 53 (by omega) (by omega) (by omega)]
    exact hZ
  · unfold rL rR at hL ⊢
    rw [hx 0 (by omega) (by omega) (by omega), hy0 31 (by omega) (by omega), hy 1 (by omega) (by omega) (by omega), hy 2 (by omega) (by omega) (by omega), hy 8 (by omega) (by omega) (by omega), hy 9 (by omega) (by omega) (by omega)]
    exact hL
theorem Rp_band {X Y : mMem} {j : Nat} {a b : Int32} (h : Rp X Y) (hb : ¬ bnd a b = 0) : Rp (mu (mu X 2 j a) 3 j b) (mu (mu Y 1 j a) 2 j b) := by
  obtain ⟨hA, hB, hC, hD, hT, hK, hZ, hL⟩ := h
  obtain ⟨b2, b3, b4, b5, b6, b7, b8⟩ := id hB
  refine ⟨?_, ?_, ?_, ?_, ?_, ?_, ?_, ?_⟩
  · simpa [rA, mu_rw] using hA
  · simp [rB, mu_rw, b2, b3, b4, b5, b6, b7, b8]
  · simpa [rC, mu_rw] using hC
  · simpa [rD, mu_rw] using hD
  · simpa [rT, mu_rw] using hT
  · simpa [mu_rw] using hK
  · simpa [rZ, mu_rw] using hZ
  · exact ⟨by simpa [mu_rw] using hL.1, rR_band hL.2 hb, hL.2.2⟩
/-- the bands read are taken over, one by one -/
theorem e_over {m : Nat} (hm : m ≤ 6) : ∀ d k e X Y, k + d = m → (∀ j, j < m → X 63 j = Y 11 j ∧ X 64 j = Y 12 j ∧ ¬ bnd (Y 11 j) (Y 12 j) = 0) → Rp X Y → ∃ X' Y', fG_read_L30 (nI m) (d + 1 + e) X (nI k) = some (nI m, X') ∧ fM_read_L23 (nI m) (d + 1 + e) Y (nI k) = some (nI m, Y') ∧ Rel X' Y' := by
  intro d
  induction d with
  | zero =>
    intro k e X Y hk hj hp
    have hk : k = m := by omega
    subst hk
    rw [show 0 + 1 + e = e + 1 by omega, fG_read_L30, fM_read_L23, if_pos (nI_le (Nat.le_refl _) (by omega)), if_pos (nI_le (Nat.le_refl _) (by omega))]
    unfold fG_read_B73 fM_read_B58
    rw [e_forget, e_changed, m_b1_some, m_b1_some]
    exact ⟨_, _, rfl, rfl, Rel_F hp⟩
  | succ d ih =>
    intro k e X Y hk hj hp
    have i6 := inb_nI (show k < 6 by omega) (show 6 < 2 ^ 31 by omega)
    obtain ⟨g1, g2, g3⟩ := hj k (by omega)
    rw [show d + 1 + 1 + e = (d + 1 + e) + 1 by omega, fG_read_L30, fM_read_L23, if_neg (nI_ge (by omega) (by omega)), if_neg (nI_ge (by omega) (by omega)), if_neg (show ¬ (6 : Int32) ≤ nI k from nI_ge (b := 6) (by omega) (by omega)), m_g_t i6, m_g_t i6, e_setBand _ _ (show k < 6 by omega), m_b1_some, nI_clamp (show k < 2 ^ 31 by omega), m_l_eq, m_l_eq, m_l_eq, m_l_eq, nI_1, g1, g2, mu_ne _ _ _ (show (12 : Nat) ≠ 1 by decide)]
    refine ih (k + 1) e _ _ (by omega) (fun j h => ?_) (Rp_band hp g3)
    rw [mu_ne _ _ _ (show (63 : Nat) ≠ 3 by decide), mu_ne _ _ _ (show (63 : Nat) ≠ 2 by decide), mu_ne _ _ _ (show (64 : Nat) ≠ 3 by decide), mu_ne _ _ _ (show (64 : Nat) ≠ 2 by decide), mu_ne _ _ _ (show (11 : Nat) ≠ 2 by decide), mu_ne _ _ _ (show (11 : Nat) ≠ 1 by decide), mu_ne _ _ _ (show (12 : Nat) ≠ 2 by decide), mu_ne _ _ _ (show (12 : Nat) ≠ 1 by decide)]
    exact hj j h
theorem neg_b {b : Nat} (h : b ≤ 60) : ¬ (0 : Int32) ≤ -1 - nI b := by
  have k : ∀ b, b < 61 → ¬ (0 : Int32) ≤ -1 - nI b := by decide
  exact k b (by omega)
theorem e_read {X Y : mMem} (h : Rel X Y) : ∃ r X' Y', fG_read X = some (r, X') ∧ fM_read Y = some (r, Y') ∧ Rel X' Y' := by
  obtain ⟨hA, hB, hC, hD, hT, hK, hZ, hL⟩ := id h.1
  obtain ⟨⟨a0, a1', a2', a3⟩, ⟨ns, hns, ens⟩, -⟩ := id hA
  obtain ⟨t1, t2, sz, hs, esz⟩ := id hT
  obtain ⟨rX, rY, X', Y', bX, b, hb, p, q, hh⟩ := e_parse (X0 := X) (Y0 := Y) hs hns (by rw [t1]; exact esz) esz t2 ens ns 0 (127 - ns) (126 - ns) X Y 0 (by omega) (by omega) ⟨fun j hj => absurd hj (Nat.not_lt_zero _), fun _ _ _ => rfl, fun _ _ _ => rfl⟩
  rw [show ns + 1 + (127 - ns) = 128 by omega] at p
  rw [show ns + 2 + (126 - ns) = 128 by omega] at q
  have p' : fT_parse X (X 1 0) = some (rX, sA X' bX) := by
    rw [a0, ens]
    exact p
  have q' : fM_readBands Y = some (rY, sB Y' b) := q
  unfold fG_read fM_read fT_clear
  rw [p', q', m_b2_some, m_b2_some, m_l_eq, m_l_eq, m_b1_some]
  have fr : iT X Y 0 X' Y' := by
    rcases hh with ⟨m, -, -, -, g⟩ | ⟨-, -, g⟩
    · exact ⟨fun j hj => absurd hj (Nat.not_lt_zero _), g.2.1, g.2.2⟩
    · exact g
  have fX : ∀ q, q ≠ 62 → q ≠ 63 → q ≠ 64 → mu (sA X' bX) 62 3 0 q = X q := fun q g1 g2 g3 => by
    rw [mu_ne _ _ _ g1, sA_q _ _ g1]
    exact fr.2.1 q g2 g3
  have fY : ∀ q, q ≠ 0 → q ≠ 11 → q ≠ 12 → mu (sB Y' b) 0 13 0 q = Y q := fun q g1 g2 g3 => by
    rw [mu_ne _ _ _ g1, sB_q _ _ g1]
    exact fr.2.2 q g2 g3
  have fY0 : ∀ f, f ≠ 13 → f ≠ 15 → mu (sB Y' b) 0 13 0 0 f = Y 0 f := fun f g1 g2 => by
    rw [mu_app, if_neg (fun z => g1 z.2), sB_f _ _ g2, fr.2.2 0 (by decide) (by decide)]
  have hp : Rp (mu (sA X' bX) 62 3 0) (mu (sB Y' b) 0 13 0) := by
    refine Rp_t h.1 fX fY fY0 ⟨?_, ?_, 0, by omega, ?_⟩
    · rw [mu_app, mu_app, if_pos ⟨rfl, rfl⟩, if_pos ⟨rfl, rfl⟩]
    · rw [fX 65 (by decide) (by decide) (by decide), fY 10 (by decide) (by decide) (by decide)]
      exact t2
    · rw [mu_app, if_pos ⟨rfl, rfl⟩]
      rfl
  rcases hh with ⟨m, hm, e1, e2, g⟩ | ⟨e2, e1, g⟩
  · rw [e1, e2, if_pos (nI_pos' (by omega)), if_pos (nI_pos' (by omega))]
    obtain ⟨X9, Y9, z1, z2, z3⟩ := e_over (m := m) (by omega) m 0 (127 - m) _ _ (by omega) (fun j hj => by
      rw [mu_ne _ _ _ (show (63 : Nat) ≠ 62 by decide), sA_q _ _ (show (63 : Nat) ≠ 62 by decide), mu_ne _ _ _ (show (64 : Nat) ≠ 62 by decide), sA_q _ _ (show (64 : Nat) ≠ 62 by decide), mu_ne _ _ _ (show (11 : Nat) ≠ 0 by decide), sB_q _ _ (show (11 : Nat) ≠ 0 by decide), mu_ne _ _ _ (show (12 : Nat) ≠ 0 by decide), sB_q _ _ (show (12 : Nat) ≠ 0 by decide)]
      exact g.1 j hj) hp
    rw [show m + 1 + (127 - m) = 128 by omega] at z1 z2
    exact ⟨nI m, X9, Y9, z1, z2, z3⟩
  · rw [e1, e2, if_neg (neg_b (by omega)), if_neg (show ¬ (0 : Int32) ≤ -1 by decide)]
    refine ⟨-1 - nI b, _, _, rfl, ?_, Rel_k h hp (fun q g1 g2 => fX q (by omega) (by omega) (by omega)) (fun q g1 => fX q (by omega) (by omega) (by omega)) (by rw [fX 0 (by decide) (by decide) (by decide)]) (fun q g1 g2 g3 g4 g5 => fY q g1 g4 g5) (fun f g1 g2 _ => fY0 f g1 g2)⟩
    rw [mu_app, if_neg (by omega), sB_15]
end RD3
