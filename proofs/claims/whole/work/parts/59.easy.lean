/-! the methods that change plant or text -/
section ESY
theorem mu_rw (M : mMem) (k j : Nat) (v : Int32) (q : Nat) : mu M k j v q = if q = k then upd (M k) j v else M q := rfl
theorem upd_at (f : Nat → Int32) (k : Nat) (v : Int32) (j : Nat) : upd f k v j = if j = k then v else f j := rfl
theorem lwp_eq (p o : Int32) : (if 0 < p - o then p - o else 0) = lwp p o := by
  unfold lwp
  by_cases h : 0 < p - o
  · rw [if_pos h, if_pos (Int32.le_of_lt h)]
  · rw [if_neg h]
    by_cases h2 : 0 ≤ p - o
    · rw [if_pos h2]
      exact (Int32.le_antisymm (Int32.not_lt.mp h) h2).symm
    · rw [if_neg h2]
theorem upp_eq (p o : Int32) : (if p + o < 1000 then p + o else 1000) = upp p o := by
  unfold upp
  by_cases h : p + o < 1000
  · rw [if_pos h, if_pos (Int32.le_of_lt h)]
  · rw [if_neg h]
    by_cases h2 : p + o ≤ 1000
    · rw [if_pos h2]
      exact Int32.le_antisymm (Int32.not_lt.mp h) h2
    · rw [if_neg h2]
theorem e_cap {X Y : mMem} (h : Rel X Y) (a1 : Int32) : ∃ r X' Y', fG_cap X a1 = some (r, X') ∧ fM_cap Y a1 = some (r, Y') ∧ Rel X' Y' := by
  obtain ⟨hA, hB, hC, hD, hT, hK, hZ, hL⟩ := h.1
  obtain ⟨⟨a0, a1', a2, a3⟩, ⟨ns, hns, ens⟩, ⟨nk, hnk, enk⟩, ⟨cap, hcap, ecap⟩, ⟨st, k, hst, est⟩⟩ := id hA
  obtain ⟨b2, b3, b4, b5, b6, b7, b8⟩ := id hB
  unfold fG_cap fM_cap
  rw [e_withinG, e_withinM, m_b1_some, m_b1_some]
  by_cases c : wth a1 0 100 = 0
  · rw [if_pos c, if_pos c]
    exact ⟨_, _, _, rfl, rfl, h⟩
  · obtain ⟨j, -, hj, rfl⟩ := wth_of (a := 0) (b := 100) (by omega) (by omega) c
    rw [if_neg c, if_neg c]
    simp only [m_l, e_forget, e_changed, m_b1_some, a2]
    refine ⟨_, _, _, rfl, rfl, Rel_F ⟨⟨⟨?_, ?_, ?_, ?_⟩, ⟨ns, hns, ?_⟩, ⟨nk, hnk, ?_⟩, ⟨j, hj, ?_⟩, ⟨st, k, hst, ?_⟩⟩, ?_, ?_, ?_, ?_, ?_, ?_, ?_⟩⟩
    · simpa [mu_rw, upd_at] using a0
    · simpa [mu_rw, upd_at] using a1'
    · simp [mu_rw, upd_at]
    · simpa [mu_rw, upd_at] using a3
    · simpa [mu_rw, upd_at] using ens
    · simpa [mu_rw, upd_at] using enk
    · simp [mu_rw, upd_at]
    · simpa [mu_rw, upd_at] using est
    · simp [rB, mu_rw, b2, b3, b4, b5, b6, b7, b8]
    · simpa [rC, mu_rw] using hC
    · simpa [rD, mu_rw] using hD
    · simpa [rT, mu_rw, upd_at] using hT
    · simpa [mu_rw] using hK
    · simpa [rZ, mu_rw] using hZ
    · simpa [rL, rR, mu_rw, upd_at] using hL
theorem e_step {X Y : mMem} (h : Rel X Y) (a1 : Int32) : ∃ r X' Y', fG_step X a1 = some (r, X') ∧ fM_step Y a1 = some (r, Y') ∧ Rel X' Y' := by
  obtain ⟨hA, hB, hC, hD, hT, hK, hZ, hL⟩ := h.1
  obtain ⟨⟨a0, a1', a2, a3⟩, ⟨ns, hns, ens⟩, ⟨nk, hnk, enk⟩, ⟨cap, hcap, ecap⟩, ⟨st, k, hst, est⟩⟩ := id hA
  obtain ⟨b2, b3, b4, b5, b6, b7, b8⟩ := id hB
  unfold fG_step fM_step
  have bad : ∃ r X' Y', some ((-1 : Int32), X) = some (r, X') ∧ fM_step_B21 a1 Y = some (r, Y') ∧ Rel X' Y' := by
    unfold fM_step_B21 fM_step_B22
    rw [if_pos rfl]
    exact ⟨_, _, _, rfl, rfl, h⟩
  by_cases c1 : a1 < 1
  · rw [if_pos c1, if_pos (show a1 ≤ 0 by
      rw [Int32.lt_iff_toInt_lt] at c1
      rw [Int32.le_iff_toInt_le]
      have e1 : (1 : Int32).toInt = 1 := by decide
      have e0 : (0 : Int32).toInt = 0 := by decide
      omega)]
    exact bad
  · have c0 : ¬ a1 ≤ 0 := by
      rw [Int32.lt_iff_toInt_lt] at c1
      rw [Int32.le_iff_toInt_le]
      have e1 : (1 : Int32).toInt = 1 := by decide
      have e0 : (0 : Int32).toInt = 0 := by decide
      omega
    have c2 : ¬ a1 = 0 := fun q => c0 (by rw [q]; decide)
    obtain ⟨j, hj, rfl⟩ := nI_of (x := a1) (fun q => c0 (Int32.le_of_lt q))
    have hj0 : 0 < j := Nat.pos_of_ne_zero (fun q => c2 (by rw [q]; rfl))
    have ediv : (100 : Int32) / nI j = nI (100 / j) := (Int32.ofNat_div (a := 100) (by omega) hj).symm
    have erem : (100 : Int32) - 100 / nI j * nI j = nI (100 - 100 / j * j) := by
      rw [ediv, nI_mul]
      exact nI_sub (a := 100) (Nat.div_mul_le_self 100 j)
    rw [if_neg c1, m_g_t c2, if_neg c0]
    by_cases c3 : 100 < j
    · rw [if_pos (show (100 : Int32) < nI j from nI_lt (a := 100) c3 hj), erem, if_neg (show ¬ nI (100 - 100 / j * j) = 0 from fun q => by
        have := (nI_eq (b := 0) (by omega) (by omega)).mp q
        rw [Nat.div_eq_of_lt c3] at this
        omega)]
      exact bad
    · rw [if_neg (show ¬ (100 : Int32) < nI j from nI_nlt (a := 100) (by omega) (by omega)), m_g_t c2, erem]
      by_cases c4 : 100 - 100 / j * j = 0
      · rw [c4, if_pos (show nI 0 = 0 from rfl), if_pos (show nI 0 = 0 from rfl)]
        unfold fM_step_B22
        rw [if_neg (by decide)]
        simp only [m_l, e_forget, e_changed, m_b1_some, a3]
        have hjk : j * (100 / j) = 100 := by
          have := Nat.div_mul_le_self 100 j
          rw [Nat.mul_comm]
          omega
        refine ⟨_, _, _, rfl, rfl, Rel_F ⟨⟨⟨?_, ?_, ?_, ?_⟩, ⟨ns, hns, ?_⟩, ⟨nk, hnk, ?_⟩, ⟨cap, hcap, ?_⟩, ⟨j, 100 / j, hjk, ?_⟩⟩, ?_, ?_, ?_, ?_, ?_, ?_, ?_⟩⟩
        · simpa [mu_rw, upd_at] using a0
        · simpa [mu_rw, upd_at] using a1'
        · simpa [mu_rw, upd_at] using a2
        · simp [mu_rw, upd_at]
        · simpa [mu_rw, upd_at] using ens
        · simpa [mu_rw, upd_at] using enk
        · simpa [mu_rw, upd_at] using ecap
        · simp [mu_rw, upd_at]
        · simp [rB, mu_rw, b2, b3, b4, b5, b6, b7, b8]
        · simpa [rC, mu_rw] using hC
        · simpa [rD, mu_rw] using hD
        · simpa [rT, mu_rw, upd_at] using hT
        · simpa [mu_rw] using hK
        · simpa [rZ, mu_rw] using hZ
        · simpa [rL, rR, mu_rw, upd_at] using hL
      · rw [if_neg (show ¬ nI (100 - 100 / j * j) = 0 from fun q => c4 ((nI_eq (b := 0) (by omega) (by omega)).mp q)), if_neg (show ¬ nI (100 - 100 / j * j) = 0 from fun q => c4 ((nI_eq (b := 0) (by omega) (by omega)).mp q))]
        exact bad
theorem bnd_of {a b : Int32} (h : ¬ bnd a b = 0) : ∃ x y, a = nI x ∧ b = nI y ∧ x ≤ y ∧ y ≤ 1000 := by
  unfold bnd at h
  by_cases h1 : a < 0
  · rw [if_pos h1] at h; exact absurd rfl h
  · rw [if_neg h1] at h
    by_cases h2 : b < a
    · rw [if_pos h2] at h; exact absurd rfl h
    · rw [if_neg h2] at h
      by_cases h3 : 1000 < b
      · rw [if_pos h3] at h; exact absurd rfl h
      · obtain ⟨x, hx, rfl⟩ := nI_of h1
        have hb : ¬ b < 0 := fun q => h2 (by
          rw [Int32.lt_iff_toInt_lt] at q ⊢
          rw [nI_toInt hx]
          have e0 : (0 : Int32).toInt = 0 := by decide
          omega)
        obtain ⟨y, hy, rfl⟩ := nI_of hb
        exact ⟨x, y, rfl, rfl, Nat.not_lt.mp (fun q => h2 (nI_lt q hx)), Nat.not_lt.mp (fun q => h3 (nI_lt (a := 1000) q hy))⟩
theorem rR_band {Y : mMem} {i : Nat} {a b : Int32} (h : rR Y) (hb : ¬ bnd a b = 0) : (∀ j, j < 6 → ∃ x y, upd (Y 1) i a j = nI x ∧ upd (Y 2) i b j = nI y ∧ x ≤ 1000 ∧ y ≤ 1000) := by
  intro j hj
  obtain ⟨x, y, e1, e2, h1, h2⟩ := bnd_of hb
  by_cases e : j = i
  · subst e
    exact ⟨x, y, by rw [upd_at, if_pos rfl]; exact e1, by rw [upd_at, if_pos rfl]; exact e2, by omega, h2⟩
  · rw [upd_at, upd_at, if_neg e, if_neg e]
    exact h.1 j hj
theorem rR_pass {Y : mMem} {i p o : Nat} (h : rR Y) (hp : p ≤ 1000) (ho : o ≤ 300) : ∀ j, j < 24 → ∃ x y, upd (Y 8) i (nI p) j = nI x ∧ upd (Y 9) i (nI o) j = nI y ∧ x ≤ 1000 ∧ y ≤ 300 := by
  intro j hj
  by_cases e : j = i
  · subst e
    exact ⟨p, o, by rw [upd_at, if_pos rfl], by rw [upd_at, if_pos rfl], hp, ho⟩
  · rw [upd_at, upd_at, if_neg e, if_neg e]
    exact h.2 j hj
theorem e_setBand {M : mMem} {i : Nat} (a b : Int32) (hi : i < 6) : fP_setBand M (nI i) a b = some (mu (mu M 2 i a) 3 i b) := by
  unfold fP_setBand
  rw [m_g_t (inb_nI hi (by omega)), m_l_eq, m_l_eq, nI_clamp (by omega)]
theorem e_sieve {X Y : mMem} (h : Rel X Y) (a1 a2 : Int32) : ∃ r X' Y', fG_sieve X a1 a2 = some (r, X') ∧ fM_sieve Y a1 a2 = some (r, Y') ∧ Rel X' Y' := by
  obtain ⟨hA, hB, hC, hD, hT, hK, hZ, hL⟩ := h.1
  obtain ⟨⟨a0, a1', a2', a3⟩, ⟨ns, hns, ens⟩, ⟨nk, hnk, enk⟩, ⟨cap, hcap, ecap⟩, ⟨st, k, hst, est⟩⟩ := id hA
  obtain ⟨b2, b3, b4, b5, b6, b7, b8⟩ := id hB
  unfold fG_sieve fM_sieve
  rw [e_mayBeBand, e_isBand, m_b1_some, m_b1_some]
  by_cases hb : bnd a1 a2 = 0
  · rw [if_pos hb, if_pos hb]
    exact ⟨_, _, _, rfl, rfl, h⟩
  · rw [if_neg hb, if_neg hb, a0, ens]
    by_cases h6 : ns = 6
    · subst h6
      rw [if_neg (show ¬ nI 6 < 6 by decide), if_pos (show nI 6 = 6 from rfl)]
      exact ⟨_, _, _, rfl, rfl, h⟩
    · have i6 := inb_nI (show ns < 6 by omega) (show 6 < 2 ^ 31 by omega)
      rw [if_pos (show nI ns < 6 from nI_lt (b := 6) (by omega) (by omega)), if_neg (show ¬ nI ns = 6 from fun q => h6 ((nI_eq (b := 6) (by omega) (by omega)).mp q)), m_g_t i6]
      have e9 : ∀ (v : Int32) (j : Nat), mu Y 1 j v 0 0 = nI ns := fun v j => by rw [mu_app, if_neg (by omega)]; exact ens
      have e8 : ∀ (v w : Int32) (j i : Nat), mu (mu Y 1 j v) 2 i w 0 0 = nI ns := fun v w j i => by rw [mu_app, if_neg (by omega)]; exact e9 v j
      simp only [m_l, e_setBand _ _ (show ns < 6 by omega), m_b1_some, e_forget, e9, e8, m_g_t i6, nI_1, nI_clamp (show ns < 2 ^ 31 by omega), e_changed]
      have e7 : ∀ M : mMem, gC (mu M 0 0 (nI (ns + 1))) 0 0 - 1 = nI ns := fun M => by rw [gC_0 _ (by decide), mu_app, if_pos ⟨rfl, rfl⟩]; exact nI_pred ns
      refine ⟨_, _, _, rfl, by rw [e7], Rel_F ⟨⟨⟨?_, ?_, ?_, ?_⟩, ⟨ns + 1, by omega, ?_⟩, ⟨nk, hnk, ?_⟩, ⟨cap, hcap, ?_⟩, ⟨st, k, hst, ?_⟩⟩, ?_, ?_, ?_, ?_, ?_, ?_, ?_⟩⟩
      · simp [mu_rw, upd_at]
      · simpa [mu_rw, upd_at] using a1'
      · simpa [mu_rw, upd_at] using a2'
      · simpa [mu_rw, upd_at] using a3
      · simp [mu_rw, upd_at]
      · simpa [mu_rw, upd_at] using enk
      · simpa [mu_rw, upd_at] using ecap
      · simpa [mu_rw, upd_at] using est
      · simp [rB, mu_rw, b2, b3, b4, b5, b6, b7, b8]
      · simpa [rC, mu_rw] using hC
      · simpa [rD, mu_rw] using hD
      · simpa [rT, mu_rw, upd_at] using hT
      · simpa [mu_rw] using hK
      · simpa [rZ, mu_rw] using hZ
      · exact ⟨by simpa [mu_rw, upd_at] using hL.1, rR_band hL.2 hb, hL.2.2⟩
theorem e_band {X Y : mMem} (h : Rel X Y) (a1 a2 a3 : Int32) : ∃ r X' Y', fG_band X a1 a2 a3 = some (r, X') ∧ fM_band Y a1 a2 a3 = some (r, Y') ∧ Rel X' Y' := by
  obtain ⟨hA, hB, hC, hD, hT, hK, hZ, hL⟩ := h.1
  obtain ⟨⟨a0, a1', a2', a3'⟩, ⟨ns, hns, ens⟩, ⟨nk, hnk, enk⟩, ⟨cap, hcap, ecap⟩, ⟨st, k, hst, est⟩⟩ := id hA
  obtain ⟨b2, b3, b4, b5, b6, b7, b8⟩ := id hB
  unfold fG_band fM_band
  rw [e_hasSieve, e_isSieve, m_b1_some, m_b1_some, a0, ens]
  by_cases c : (if a1 < 0 then (0 : Int32) else if nI ns ≤ a1 then 0 else 1) = 0
  · rw [if_pos c, if_pos c]
    exact ⟨_, _, _, rfl, rfl, h⟩
  · obtain ⟨j, hj, rfl⟩ := ix_of (by omega) c
    rw [if_neg c, if_neg c, e_mayBeBand, e_isBand, m_b1_some, m_b1_some]
    by_cases hb : bnd a2 a3 = 0
    · rw [if_pos hb, if_pos hb]
      exact ⟨_, _, _, rfl, rfl, h⟩
    · rw [if_neg hb, if_neg hb, m_g_t (inb_nI (show j < 6 by omega) (by omega))]
      simp only [m_l, e_setBand _ _ (show j < 6 by omega), m_b1_some, e_forget, nI_clamp (show j < 2 ^ 31 by omega), e_changed]
      refine ⟨_, _, _, rfl, rfl, Rel_F ⟨⟨⟨?_, ?_, ?_, ?_⟩, ⟨ns, hns, ?_⟩, ⟨nk, hnk, ?_⟩, ⟨cap, hcap, ?_⟩, ⟨st, k, hst, ?_⟩⟩, ?_, ?_, ?_, ?_, ?_, ?_, ?_⟩⟩
      · simpa [mu_rw, upd_at] using a0
      · simpa [mu_rw, upd_at] using a1'
      · simpa [mu_rw, upd_at] using a2'
      · simpa [mu_rw, upd_at] using a3'
      · simpa [mu_rw, upd_at] using ens
      · simpa [mu_rw, upd_at] using enk
      · simpa [mu_rw, upd_at] using ecap
      · simpa [mu_rw, upd_at] using est
      · simp [rB, mu_rw, b2, b3, b4, b5, b6, b7, b8]
      · simpa [rC, mu_rw] using hC
      · simpa [rD, mu_rw] using hD
      · simpa [rT, mu_rw, upd_at] using hT
      · simpa [mu_rw] using hK
      · simpa [rZ, mu_rw] using hZ
      · exact ⟨by simpa [mu_rw, upd_at] using hL.1, rR_band hL.2 hb, hL.2.2⟩
end ESY
