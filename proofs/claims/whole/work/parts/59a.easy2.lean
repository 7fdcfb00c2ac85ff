/-! stocks, what passes, text, limit, water -/
section ESZ
theorem e_setStock {M : mMem} {i : Nat} (a b c d : Int32) (hi : i < 4) : fP_setStock M (nI i) a b c d = some (mu (mu (mu (mu M 4 i a) 5 i b) 6 i c) 7 i (vp_nar .boolean d)) := by
  unfold fP_setStock
  rw [m_g_t (inb_nI hi (by omega)), m_l_eq, m_l_eq, m_l_eq, m_l_eq, nI_clamp (by omega)]
theorem e_stock {X Y : mMem} (h : Rel X Y) (a1 a2 a3 a4 : Int32) : ∃ r X' Y', fG_stock X a1 a2 a3 a4 = some (r, X') ∧ fM_stock Y a1 a2 a3 a4 = some (r, Y') ∧ Rel X' Y' := by
  obtain ⟨hA, hB, hC, hD, hT, hK, hZ, hL⟩ := h.1
  obtain ⟨⟨a0, a1', a2', a3'⟩, ⟨ns, hns, ens⟩, ⟨nk, hnk, enk⟩, ⟨cap, hcap, ecap⟩, ⟨st, k, hst, est⟩⟩ := id hA
  obtain ⟨b2, b3, b4, b5, b6, b7, b8⟩ := id hB
  have bad : ∀ v, v = (0 : Int32) ∨ wth a1 0 100000 = 0 → ∃ r X' Y', fG_stock_B21 a1 a2 a3 a4 X v = some (r, X') ∧ some ((-1 : Int32), Y) = some (r, Y') ∧ Rel X' Y' := by
    intro v hv
    unfold fG_stock_B21
    rw [e_withinG, m_b1_some]
    by_cases c : wth a1 0 100000 = 0
    · rw [if_pos c]
      exact ⟨_, _, _, rfl, rfl, h⟩
    · rw [if_neg c, if_pos (hv.resolve_right c)]
      exact ⟨_, _, _, rfl, rfl, h⟩
  unfold fG_stock fM_stock fG_stock_B20
  rw [e_withinM, m_b1_some]
  by_cases c : wth a1 0 100000 = 0
  · rw [if_pos c]
    by_cases c2 : a2 < 0
    · rw [if_pos c2]; exact bad 0 (Or.inl rfl)
    · rw [if_neg c2]
      by_cases c3 : a3 < a2
      · rw [if_pos c3]; exact bad 0 (Or.inl rfl)
      · rw [if_neg c3]
        by_cases c4 : 100 < a3
        · rw [if_pos c4]; exact bad 0 (Or.inl rfl)
        · rw [if_neg c4]; exact bad 1 (Or.inr c)
  · rw [if_neg c]
    by_cases c2 : a2 < 0
    · rw [if_pos c2, if_pos c2]; exact bad 0 (Or.inl rfl)
    · rw [if_neg c2, if_neg c2]
      by_cases c3 : a3 < a2
      · rw [if_pos c3, if_pos c3]; exact bad 0 (Or.inl rfl)
      · rw [if_neg c3, if_neg c3]
        by_cases c4 : 100 < a3
        · rw [if_pos c4, if_pos c4]; exact bad 0 (Or.inl rfl)
        · rw [if_neg c4, if_neg c4]
          unfold fG_stock_B21
          rw [e_withinG, m_b1_some, if_neg c, if_neg (by decide), a1', enk]
          by_cases h4 : nk = 4
          · subst h4
            rw [if_neg (show ¬ nI 4 < 4 by decide), if_pos (show nI 4 = 4 from rfl)]
            exact ⟨_, _, _, rfl, rfl, h⟩
          · have i4 := inb_nI (show nk < 4 by omega) (show 4 < 2 ^ 31 by omega)
            obtain ⟨lo, hlo, rfl⟩ := nI_of c2
            have c0 : ¬ a3 < 0 := fun q => c3 (by
              rw [Int32.lt_iff_toInt_lt] at q ⊢
              rw [nI_toInt hlo]
              have e0 : (0 : Int32).toInt = 0 := by decide
              omega)
            obtain ⟨hi, hhi, rfl⟩ := nI_of c0
            have hle : lo ≤ hi := Nat.not_lt.mp (fun q => c3 (nI_lt q hlo))
            have h100 : hi ≤ 100 := Nat.not_lt.mp (fun q => c4 (nI_lt (a := 100) q hhi))
            rw [if_pos (show nI nk < 4 from nI_lt (b := 4) (by omega) (by omega)), if_neg (show ¬ nI nk = 4 from fun q => h4 ((nI_eq (b := 4) (by omega) (by omega)).mp q)), m_g_t i4]
            have e1 : ∀ (v : Int32) (j : Nat), mu Y 3 j v 0 3 = nI nk := fun v j => by rw [mu_app, if_neg (by omega)]; exact enk
            have e2 : ∀ (v w : Int32) (j i : Nat), mu (mu Y 3 j v) 4 i w 0 3 = nI nk := fun v w j i => by rw [mu_app, if_neg (by omega)]; exact e1 v j
            have e3 : ∀ (v w z : Int32) (j i t : Nat), mu (mu (mu Y 3 j v) 4 i w) 5 t z 0 3 = nI nk := fun v w z j i t => by rw [mu_app, if_neg (by omega)]; exact e2 v w j i
            have e4 : ∀ (v w z u : Int32) (j i t f : Nat), mu (mu (mu (mu Y 3 j v) 4 i w) 5 t z) 6 f u 0 3 = nI nk := fun v w z u j i t f => by rw [mu_app, if_neg (by omega)]; exact e3 v w z j i t
            simp only [m_l, e_setStock _ _ _ _ (show nk < 4 by omega), m_b1_some, e_forget, e1, e2, e3, e4, m_g_t i4, nI_1, nI_clamp (show nk < 2 ^ 31 by omega), e_changed]
            have e7 : ∀ M : mMem, gC (mu M 0 3 (nI (nk + 1))) 0 3 - 1 = nI nk := fun M => by rw [gC_0 _ (by decide), mu_app, if_pos ⟨rfl, rfl⟩]; exact nI_pred nk
            refine ⟨_, _, _, rfl, by rw [e7], Rel_F ⟨⟨⟨?_, ?_, ?_, ?_⟩, ⟨ns, hns, ?_⟩, ⟨nk + 1, by omega, ?_⟩, ⟨cap, hcap, ?_⟩, ⟨st, k, hst, ?_⟩⟩, ?_, ?_, ?_, ?_, ?_, ?_, ?_⟩⟩
            · simpa [mu_rw, upd_at] using a0
            · simp [mu_rw, upd_at]
            · simpa [mu_rw, upd_at] using a2'
            · simpa [mu_rw, upd_at] using a3'
            · simpa [mu_rw, upd_at] using ens
            · simp [mu_rw, upd_at]
            · simpa [mu_rw, upd_at] using ecap
            · simpa [mu_rw, upd_at] using est
            · simp [rB, mu_rw, b2, b3, b4, b5, b6, b7, b8]
            · intro j hj
              obtain ⟨p, q, v, g1, g2, g3, g4, g5, g6⟩ := hC j hj
              by_cases e : j = nk
              · subst e
                exact ⟨lo, hi, v, by simp [mu_rw, upd_at], by simp [mu_rw, upd_at], by simpa [mu_rw, upd_at] using g3, hle, h100, g6⟩
              · exact ⟨p, q, v, by simpa [mu_rw, upd_at, e] using g1, by simpa [mu_rw, upd_at, e] using g2, by simpa [mu_rw, upd_at] using g3, g4, g5, g6⟩
            · simpa [rD, mu_rw] using hD
            · simpa [rT, mu_rw, upd_at] using hT
            · simpa [mu_rw] using hK
            · simpa [rZ, mu_rw] using hZ
            · simpa [rL, rR, mu_rw, upd_at] using hL
theorem rD1_o {x lo up p o : Nat → Int32} {k s i : Nat} (vp vo : Int32) (h : rD1 x lo up p o k) (hs : s < 6) (hne : k ≠ i) : rD1 x lo up (upd p (6 * i + s) vp) (upd o (6 * i + s) vo) k := by
  intro t ht
  have e : ¬ 6 * k + t = 6 * i + s := by omega
  rw [upd_at, upd_at, if_neg e, if_neg e]
  exact h t ht
theorem rD1_s {x lo up p o : Nat → Int32} {k s : Nat} (vp vo : Int32) (h : rD1 x lo up p o k) (hs : s < 6) : rD1 (upd x s vp) (upd lo s (lwp vp vo)) (upd up s (upp vp vo)) (upd p (6 * k + s) vp) (upd o (6 * k + s) vo) k := by
  intro t ht
  by_cases e : t = s
  · subst e
    rw [upd_at, upd_at, upd_at, upd_at, upd_at, if_pos rfl, if_pos rfl, if_pos rfl, if_pos rfl, if_pos rfl]
    exact ⟨rfl, rfl, rfl⟩
  · have e2 : ¬ 6 * k + t = 6 * k + s := by omega
    rw [upd_at, upd_at, upd_at, upd_at, upd_at, if_neg e, if_neg e, if_neg e, if_neg e2, if_neg e2]
    exact h t ht
theorem e_passes {X Y : mMem} (h : Rel X Y) (a1 a2 a3 a4 : Int32) : ∃ r X' Y', fG_passes X a1 a2 a3 a4 = some (r, X') ∧ fM_passes Y a1 a2 a3 a4 = some (r, Y') ∧ Rel X' Y' := by
  obtain ⟨hA, hB, hC, hD, hT, hK, hZ, hL⟩ := h.1
  obtain ⟨⟨a0, a1', a2', a3'⟩, ⟨ns, hns, ens⟩, ⟨nk, hnk, enk⟩, ⟨cap, hcap, ecap⟩, ⟨st, k, hst, est⟩⟩ := id hA
  obtain ⟨b2, b3, b4, b5, b6, b7, b8⟩ := id hB
  unfold fG_passes fM_passes
  rw [e_hasStock, e_isStock, m_b1_some, m_b1_some, a1', enk]
  by_cases c : (if a1 < 0 then (0 : Int32) else if nI nk ≤ a1 then 0 else 1) = 0
  · rw [if_pos c, if_pos c]
    exact ⟨_, _, _, rfl, rfl, h⟩
  · obtain ⟨i, hi, rfl⟩ := ix_of (by omega) c
    rw [if_neg c, if_neg c, e_hasSieve, e_isSieve, m_b1_some, m_b1_some, a0, ens]
    by_cases c2 : (if a2 < 0 then (0 : Int32) else if nI ns ≤ a2 then 0 else 1) = 0
    · rw [if_pos c2, if_pos c2]
      exact ⟨_, _, _, rfl, rfl, h⟩
    · obtain ⟨s, hs, rfl⟩ := ix_of (by omega) c2
      rw [if_neg c2, if_neg c2, e_withinG, e_withinM, m_b1_some, m_b1_some]
      by_cases c3 : wth a3 0 1000 = 0
      · rw [if_pos c3, if_pos c3]
        exact ⟨_, _, _, rfl, rfl, h⟩
      · rw [if_neg c3, if_neg c3, e_withinG, e_withinM, m_b1_some, m_b1_some]
        by_cases c4 : wth a4 0 300 = 0
        · rw [if_pos c4, if_pos c4]
          exact ⟨_, _, _, rfl, rfl, h⟩
        · obtain ⟨pp, -, hpp, rfl⟩ := wth_of (a := 0) (b := 1000) (by omega) (by omega) c3
          obtain ⟨oo, -, hoo, rfl⟩ := wth_of (a := 0) (b := 300) (by omega) (by omega) c4
          rw [if_neg c4, if_neg c4, ix6, m_g_t (inb_nI (show 6 * i + s < 24 by omega) (by omega))]
          unfold fP_setPassing
          rw [m_g_t (inb_nI (show i < 4 by omega) (by omega)), m_g_t (inb_nI (show s < 6 by omega) (by omega))]
          simp only [m_l, m_b1_some, e_forget, nI_clamp (show i < 2 ^ 31 by omega), nI_clamp (show s < 2 ^ 31 by omega), nI_clamp (show 6 * i + s < 2 ^ 31 by omega), e_changed, lwp_eq, upp_eq]
          obtain ⟨d0, d1, d2, d3⟩ := id hD
          have hs6 : s < 6 := by omega
          refine ⟨_, _, _, rfl, rfl, Rel_F ?_⟩
          have hi4 : i = 0 ∨ i = 1 ∨ i = 2 ∨ i = 3 := by omega
          rcases hi4 with rfl | rfl | rfl | rfl
          · refine ⟨⟨⟨?_, ?_, ?_, ?_⟩, ⟨ns, hns, ?_⟩, ⟨nk, hnk, ?_⟩, ⟨cap, hcap, ?_⟩, ⟨st, k, hst, ?_⟩⟩, ?_, ?_, ⟨?_, ?_, ?_, ?_⟩, ?_, ?_, ?_, ?_⟩
            · simpa [mu_rw, upd_at] using a0
            · simpa [mu_rw, upd_at] using a1'
            · simpa [mu_rw, upd_at] using a2'
            · simpa [mu_rw, upd_at] using a3'
            · simpa [mu_rw, upd_at] using ens
            · simpa [mu_rw, upd_at] using enk
            · simpa [mu_rw, upd_at] using ecap
            · simpa [mu_rw, upd_at] using est
            · simp [rB, mu_rw, b2, b3, b4, b5, b6, b7, b8]
            · simpa [rC, mu_rw] using hC
            · exact rD1_s (nI pp) (nI oo) d0 hs6
            · exact rD1_o (i := 0) (nI pp) (nI oo) d1 hs6 (by decide)
            · exact rD1_o (i := 0) (nI pp) (nI oo) d2 hs6 (by decide)
            · exact rD1_o (i := 0) (nI pp) (nI oo) d3 hs6 (by decide)
            · simpa [rT, mu_rw, upd_at] using hT
            · simpa [mu_rw] using hK
            · simpa [rZ, mu_rw] using hZ
            · exact ⟨by simpa [mu_rw, upd_at] using hL.1, hL.2.1, rR_pass hL.2 hpp hoo⟩
          · refine ⟨⟨⟨?_, ?_, ?_, ?_⟩, ⟨ns, hns, ?_⟩, ⟨nk, hnk, ?_⟩, ⟨cap, hcap, ?_⟩, ⟨st, k, hst, ?_⟩⟩, ?_, ?_, ⟨?_, ?_, ?_, ?_⟩, ?_, ?_, ?_, ?_⟩
            · simpa [mu_rw, upd_at] using a0
            · simpa [mu_rw, upd_at] using a1'
            · simpa [mu_rw, upd_at] using a2'
            · simpa [mu_rw, upd_at] using a3'
            · simpa [mu_rw, upd_at] using ens
            · simpa [mu_rw, upd_at] using enk
            · simpa [mu_rw, upd_at] using ecap
            · simpa [mu_rw, upd_at] using est
            · simp [rB, mu_rw, b2, b3, b4, b5, b6, b7, b8]
            · simpa [rC, mu_rw] using hC
            · exact rD1_o (i := 1) (nI pp) (nI oo) d0 hs6 (by decide)
            · exact rD1_s (nI pp) (nI oo) d1 hs6
            · exact rD1_o (i := 1) (nI pp) (nI oo) d2 hs6 (by decide)
            · exact rD1_o (i := 1) (nI pp) (nI oo) d3 hs6 (by decide)
            · simpa [rT, mu_rw, upd_at] using hT
            · simpa [mu_rw] using hK
            · simpa [rZ, mu_rw] using hZ
            · exact ⟨by simpa [mu_rw, upd_at] using hL.1, hL.2.1, rR_pass hL.2 hpp hoo⟩
          · refine ⟨⟨⟨?_, ?_, ?_, ?_⟩, ⟨ns, hns, ?_⟩, ⟨nk, hnk, ?_⟩, ⟨cap, hcap, ?_⟩, ⟨st, k, hst, ?_⟩⟩, ?_, ?_, ⟨?_, ?_, ?_, ?_⟩, ?_, ?_, ?_, ?_⟩
            · simpa [mu_rw, upd_at] using a0
            · simpa [mu_rw, upd_at] using a1'
            · simpa [mu_rw, upd_at] using a2'
            · simpa [mu_rw, upd_at] using a3'
            · simpa [mu_rw, upd_at] using ens
            · simpa [mu_rw, upd_at] using enk
            · simpa [mu_rw, upd_at] using ecap
            · simpa [mu_rw, upd_at] using est
            · simp [rB, mu_rw, b2, b3, b4, b5, b6, b7, b8]
            · simpa [rC, mu_rw] using hC
            · exact rD1_o (i := 2) (nI pp) (nI oo) d0 hs6 (by decide)
            · exact rD1_o (i := 2) (nI pp) (nI oo) d1 hs6 (by decide)
            · exact rD1_s (nI pp) (nI oo) d2 hs6
            · exact rD1_o (i := 2) (nI pp) (nI oo) d3 hs6 (by decide)
            · simpa [rT, mu_rw, upd_at] using hT
            · simpa [mu_rw] using hK
            · simpa [rZ, mu_rw] using hZ
            · exact ⟨by simpa [mu_rw, upd_at] using hL.1, hL.2.1, rR_pass hL.2 hpp hoo⟩
          · refine ⟨⟨⟨?_, ?_, ?_, ?_⟩, ⟨ns, hns, ?_⟩, ⟨nk, hnk, ?_⟩, ⟨cap, hcap, ?_⟩, ⟨st, k, hst, ?_⟩⟩, ?_, ?_, ⟨?_, ?_, ?_, ?_⟩, ?_, ?_, ?_, ?_⟩
            · simpa [mu_rw, upd_at] using a0
            · simpa [mu_rw, upd_at] using a1'
            · simpa [mu_rw, upd_at] using a2'
            · simpa [mu_rw, upd_at] using a3'
            · simpa [mu_rw, upd_at] using ens
            · simpa [mu_rw, upd_at] using enk
            · simpa [mu_rw, upd_at] using ecap
            · simpa [mu_rw, upd_at] using est
            · simp [rB, mu_rw, b2, b3, b4, b5, b6, b7, b8]
            · simpa [rC, mu_rw] using hC
            · exact rD1_o (i := 3) (nI pp) (nI oo) d0 hs6 (by decide)
            · exact rD1_o (i := 3) (nI pp) (nI oo) d1 hs6 (by decide)
            · exact rD1_o (i := 3) (nI pp) (nI oo) d2 hs6 (by decide)
            · exact rD1_s (nI pp) (nI oo) d3 hs6
            · simpa [rT, mu_rw, upd_at] using hT
            · simpa [mu_rw] using hK
            · simpa [rZ, mu_rw] using hZ
            · exact ⟨by simpa [mu_rw, upd_at] using hL.1, hL.2.1, rR_pass hL.2 hpp hoo⟩
end ESZ
