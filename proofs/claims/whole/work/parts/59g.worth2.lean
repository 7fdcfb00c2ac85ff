section WR2
/-- the bands that worth looks with -/
def lo9 (Y : mMem) (s : Nat) (up : Int32) (by9 : Int32) : Int32 := if up = 0 then lwp (Y 1 s) by9 else Y 1 s
def hi9 (Y : mMem) (s : Nat) (up : Int32) (by9 : Int32) : Int32 := if up = 0 then Y 2 s else upp (Y 2 s) by9
theorem e_worthM {Z : mMem} {s : Nat} (up by9 : Int32) (hs : s < 6) {x4 : Int32} : (if up = 0 then m_g (inb (nI s) 6) <| if 0 ≤ ((Z 1 (nI s).toNatClampNeg) - by9) then fM_worth_B84 (nI s) up by9 Z x4 ((Z 1 (nI s).toNatClampNeg) - by9) else fM_worth_B59 (nI s) up by9 Z x4 else fM_worth_B59 (nI s) up by9 Z x4) = fM_worth_B131 (nI s) Z x4 (lo9 Z s up by9) (hi9 Z s up by9) := by
  have i6 := inb_nI hs (show 6 < 2 ^ 31 by omega)
  unfold fM_worth_B59 fM_worth_B84 fM_worth_B104 lo9 hi9
  by_cases c : up = 0
  · simp only [if_pos c]
    simp only [m_g_t i6, nI_clamp (show s < 2 ^ 31 by omega)]
    unfold lwp
    by_cases q : 0 ≤ Z 1 s - by9
    · rw [if_pos q, if_pos q]
    · rw [if_neg q, if_neg q]
  · simp only [if_neg c]
    simp only [m_g_t i6, nI_clamp (show s < 2 ^ 31 by omega)]
    unfold upp
    by_cases q : Z 2 s + by9 ≤ 1000
    · rw [if_pos q, if_pos q]
    · rw [if_neg q, if_neg q]
theorem e_widen {U : mMem} {s : Nat} (up by9 : Int32) (hs : s < 6) : fS_widen U 43 (nI s) up by9 = some (if up = 0 then mu U (43 + 1) s (100 * lwp (U 2 s) by9) else mu U (43 + 2) s (100 * upp (U 3 s) by9)) := by
  have i6 := inb_nI hs (show 6 < 2 ^ 31 by omega)
  unfold fS_widen
  by_cases c : up = 0
  · rw [if_pos c, if_pos c, m_g_t i6, m_l_eq, nI_clamp (show s < 2 ^ 31 by omega), lwp_eq]
  · rw [if_neg c, if_neg c, m_g_t i6, m_l_eq, nI_clamp (show s < 2 ^ 31 by omega), upp_eq]
theorem nI_m1 {s : Nat} (hs : s < 2 ^ 31) : ¬ nI s = (-1 : Int32) := fun q => by
  have h1 : (nI s).toInt = (s : Int) := nI_toInt hs
  rw [q] at h1
  have h2 : (-1 : Int32).toInt = -1 := by decide
  omega
theorem e_worth {X Y : mMem} (h : Rel X Y) (a1 a2 a3 : Int32) : ∃ r X' Y', fG_worth X a1 a2 a3 = some (r, X') ∧ fM_worth Y a1 a2 a3 = some (r, Y') ∧ Rel X' Y' := by
  obtain ⟨ns, nk, st, k, cap, lo, hi, od, hE⟩ := eY_ex h.1
  have hns := hE.1
  have hnk := hE.2.1
  have ens := hE.2.2.2.2.1
  have a0 : X 1 0 = Y 0 0 := h.1.1.1.1
  unfold fG_worth fM_worth
  rw [e_hasSieve, e_isSieve, m_b1_some, m_b1_some, a0, ens]
  by_cases c : (if a1 < 0 then (0 : Int32) else if nI ns ≤ a1 then 0 else 1) = 0
  · rw [if_pos c, if_pos c]
    exact ⟨_, _, _, rfl, rfl, h⟩
  · obtain ⟨s, hs, rfl⟩ := ix_of (by omega) c
    rw [if_neg c, if_neg c, e_withinG, e_withinM, m_b1_some, m_b1_some]
    by_cases c2 : wth a3 0 1000 = 0
    · rw [if_pos c2, if_pos c2]
      exact ⟨_, _, _, rfl, rfl, h⟩
    · obtain ⟨by9, -, hby, rfl⟩ := wth_of (a := 0) (b := 1000) (by omega) (by omega) c2
      obtain ⟨X1, s1, h1, s3⟩ := e_once h
      have hx := h1.2.2.2.2.2 s3 ns nk st k cap lo hi od hE
      have hfound := fold_b1 (Y := Y) (nk := nk) (ns := ns) (x2 := -1) (x3 := 0) (x4 := 0) (eM nk lo hi od cap (stp st k)) R00
      obtain ⟨Z, z1, z2⟩ := e_go (md := 0) (x2 := -1) (x3 := 0) (x4 := 0) hE (Or.inl rfl)
      generalize hRe : (eM nk lo hi od cap (stp st k)).foldl (fvM Y (-1) 0 0 ns nk) R00 = R at hx hfound z2
      obtain ⟨zs, -, -, -, -, zB, -⟩ := z2
      obtain ⟨zb1, zb2⟩ := zB rfl
      obtain ⟨-, -, -, ⟨xb1, xb2⟩, -⟩ := hx
      rw [if_neg c2, if_neg c2, s1, m_b1_some, z1, m_b1_some, show X1 39 0 = R.2.2.2.1.1 from xb1, zb1]
      by_cases cb : R.2.2.2.1.1 = 0
      · rw [if_pos cb, if_pos cb]
        exact ⟨_, _, _, rfl, rfl, Rel_m h1 zs⟩
      · obtain ⟨x2, -⟩ := xb2 cb
        obtain ⟨y24, -⟩ := zb2 cb
        have s6 : s < 6 := by omega
        rw [if_neg cb, if_neg cb, m_l_eq, e_worthM a2 (nI by9) s6]
        obtain ⟨⟨b0, b1, b2, b3⟩, -⟩ := h1.1.1
        obtain ⟨r2, r3, r4, r5, r6, r7, r8⟩ := h1.1.2.1
        have hD := h1.1.2.2.2.1
        have hZ := h1.1.2.2.2.2.2.2.1
        have hR := h1.1.2.2.2.2.2.2.2.2
        have x0 : X1 1 0 = nI ns := b0.trans ens
        rw [e_useBands (by omega) hns x0, m_b1_some]
        have u : ∀ q, q ≠ 43 + 1 → q ≠ 43 + 2 → gU X1 43 ns q = X1 q := fun q g1 g2 => gU_ne X1 ns g1 g2
        rw [e_widen a2 (nI by9) s6, m_b1_some, u 2 (by omega) (by omega), u 3 (by omega) (by omega), r2, r3]
        generalize hV : (if a2 = 0 then mu (gU X1 43 ns) (43 + 1) s (100 * lwp (Y 1 s) (nI by9)) else mu (gU X1 43 ns) (43 + 2) s (100 * upp (Y 2 s) (nI by9))) = V
        have v : ∀ q, q ≠ 43 + 1 → q ≠ 43 + 2 → V q = X1 q := fun q g1 g2 => by
          rw [← hV]
          by_cases ca : a2 = 0
          · rw [if_pos ca, mu_ne _ _ _ g1, u q g1 g2]
          · rw [if_neg ca, mu_ne _ _ _ g2, u q g1 g2]
        have hEZ := eY_sm hE zs
        have Y1 : Z 1 = Y 1 := zs.1 1 (by decide) (by decide) (by decide) (by decide)
        have Y2 : Z 2 = Y 2 := zs.1 2 (by decide) (by decide) (by decide) (by decide)
        have hpt : ∀ x, ptM Z x = ptM Y x := fun x => by
          funext k s
          unfold ptM
          rw [zs.1 8 (by decide) (by decide) (by decide) (by decide), zs.1 9 (by decide) (by decide) (by decide) (by decide)]
        have hnd : ∀ t, t < ns → V (43 + 1) t = ndM Z (nI s) (lo9 Z s a2 (nI by9)) t := by
          intro t ht
          unfold ndM lo9
          rw [Y1, ← hV]
          by_cases ca : a2 = 0
          · rw [if_pos ca, if_pos ca, mu_self, upd_at]
            by_cases et : t = s
            · subst et
              rw [if_pos rfl, if_pos rfl]
            · rw [if_neg et, if_neg (fun q => et ((nI_eq (by omega) (by omega)).mp q)), gU_a]
              unfold gR
              rw [if_pos ht, r2]
          · rw [if_neg ca, if_neg ca, mu_ne _ _ _ (by decide), gU_a]
            unfold gR
            rw [if_pos ht, r2]
            by_cases et : t = s
            · subst et
              rw [if_pos rfl]
            · rw [if_neg (fun q => et ((nI_eq (by omega) (by omega)).mp q))]
        have hal : ∀ t, t < ns → V (43 + 2) t = alM Z (nI s) (hi9 Z s a2 (nI by9)) t := by
          intro t ht
          unfold alM hi9
          rw [Y2, ← hV]
          by_cases ca : a2 = 0
          · rw [if_pos ca, if_pos ca, mu_ne _ _ _ (by decide), gU_b]
            unfold gR
            rw [if_pos ht, r3]
            by_cases et : t = s
            · subst et
              rw [if_pos rfl]
            · rw [if_neg (fun q => et ((nI_eq (by omega) (by omega)).mp q))]
          · rw [if_neg ca, if_neg ca, mu_self, upd_at]
            by_cases et : t = s
            · subst et
              rw [if_pos rfl, if_pos rfl]
            · rw [if_neg et, if_neg (fun q => et ((nI_eq (by omega) (by omega)).mp q)), gU_b]
              unfold gR
              rw [if_pos ht, r3]
        obtain ⟨X9, w1, w2, w3⟩ := e_srch (X := V) (Y := Z) (b := 43) (x2 := nI s) (x3 := lo9 Z s a2 (nI by9)) (x4 := hi9 Z s a2 (nI by9)) (by omega) hEZ
          (by rw [v 1 (by decide) (by decide), zs.2 0 (by omega)]; exact b0) (by rw [v 1 (by decide) (by decide), zs.2 3 (by omega)]; exact b1) (by rw [v 1 (by decide) (by decide), zs.2 11 (by omega)]; exact b2) (by rw [v 1 (by decide) (by decide), zs.2 12 (by omega)]; exact b3)
          (by rw [v 4 (by decide) (by decide), zs.1 3 (by decide) (by decide) (by decide) (by decide)]; exact r4) (by rw [v 5 (by decide) (by decide), zs.1 4 (by decide) (by decide) (by decide) (by decide)]; exact r5) (by rw [v 6 (by decide) (by decide), zs.1 5 (by decide) (by decide) (by decide) (by decide)]; exact r6) (by rw [v 7 (by decide) (by decide), zs.1 6 (by decide) (by decide) (by decide) (by decide)]; exact r7)
          (fun k hk t ht => by rw [v (14 + 1 + k) (by omega) (by omega), v (19 + 1 + k) (by omega) (by omega), hpt, hpt]; exact lw_of hD k hk t ht) hnd hal
          (fun t => by rw [v (43 + 5) (by decide) (by decide)]; exact hZ.2.2.1 t) (fun t => by rw [v (43 + 10) (by decide) (by decide)]; exact hZ.2.2.2 t)
        obtain ⟨Z2, q1, q2⟩ := e_go (md := 0) (x2 := nI s) (x3 := lo9 Z s a2 (nI by9)) (x4 := hi9 Z s a2 (nI by9)) hEZ (Or.inl rfl)
        have hfound2 : ¬ ((eM nk lo hi od cap (stp st k)).foldl (fvM Z (nI s) (lo9 Z s a2 (nI by9)) (hi9 Z s a2 (nI by9)) ns nk) R00).2.2.2.1.1 = 0 := by
          rcases hfound cb with q | ⟨w, hw, hq⟩
          · exact absurd rfl q
          · refine fold_b2 _ _ (Or.inr ⟨w, hw, ?_⟩)
            rw [hpt, hpt]
            refine wider hR hns hnk (okM_sum hnk (eM_ok hw)) (fun t ht => ?_) hq
            obtain ⟨a, b, e1, e2, l1, l2⟩ := hR.1 t (by omega)
            have g1 : ndM Y (-1) 0 t = 100 * nI a := by unfold ndM; rw [if_neg (nI_m1 (by omega)), e1]
            have g2 : alM Y (-1) 0 t = 100 * nI b := by unfold alM; rw [if_neg (nI_m1 (by omega)), e2]
            by_cases et : t = s
            · subst et
              by_cases ca : a2 = 0
              · refine ⟨a, b, a - by9, b, g1, g2, ?_, ?_, by omega, l1, Nat.le_refl _, l2⟩
                · unfold ndM lo9
                  rw [if_pos rfl, if_pos ca, Y1, e1, lwp_nat (by omega) (by omega)]
                · unfold alM hi9
                  rw [if_pos rfl, if_pos ca, Y2, e2]
              · refine ⟨a, b, a, min (b + by9) 1000, g1, g2, ?_, ?_, Nat.le_refl _, l1, by omega, by omega⟩
                · unfold ndM lo9
                  rw [if_pos rfl, if_neg ca, Y1, e1]
                · unfold alM hi9
                  rw [if_pos rfl, if_neg ca, Y2, e2, upp_nat (by omega) (by omega)]
            · have ne : ¬ nI t = nI s := fun q => et ((nI_eq (by omega) (by omega)).mp q)
              refine ⟨a, b, a, b, g1, g2, ?_, ?_, Nat.le_refl _, l1, Nat.le_refl _, l2⟩
              · unfold ndM
                rw [if_neg ne, Y1, e1]
              · unfold alM
                rw [if_neg ne, Y2, e2]
        generalize (eM nk lo hi od cap (stp st k)).foldl (fvM Z (nI s) (lo9 Z s a2 (nI by9)) (hi9 Z s a2 (nI by9)) ns nk) R00 = R2 at w3 q2 hfound2
        obtain ⟨qs, -, -, -, -, qB, -⟩ := q2
        obtain ⟨-, qb2⟩ := qB rfl
        obtain ⟨-, -, -, ⟨-, wb2⟩, -⟩ := w3
        unfold fM_worth_B131
        have f39 : X9 39 = X1 39 := by rw [w2 39 (by omega), v 39 (by decide) (by decide)]
        rw [w1, m_b1_some, q1, m_b1_some, f39, show X1 39 2 = R.2.2.2.1.2.1 from x2, show X9 58 2 = R2.2.2.2.1.2.1 from (wb2 hfound2).1, (qb2 hfound2).1, y24]
        refine ⟨_, _, _, rfl, rfl, Rel_m (Rel_g h1 (fun q g => ?_) (fun q _ _ _ _ _ => rfl) (fun f _ _ _ => rfl) ?_ ?_) (smM_tr zs qs)⟩
        · rw [w2 q (by omega), v q (by omega) (by omega)]
        · have hH := h1.2.1
          unfold rH at hH ⊢
          rw [w2 66 (by omega), w2 67 (by omega), v 66 (by decide) (by decide), v 67 (by decide) (by decide)]
          exact hH
        · rw [w2 68 (by omega), v 68 (by decide) (by decide)]
          exact h1.2.2.1
end WR2
