section TS11
theorem e_driftM {Y : mMem} {i nk n S : Nat} {val : Nat → Int32} (hi : i < 6) (hnk : nk ≤ 4) (enk : Y 0 3 = nI nk) (hn : n ≤ 100) (en : Y 0 32 = nI n) (hS : cS (Y 19) (nI i) n = S) (hv : ∀ t, t < n → Y 19 t = nI i → val (cS (Y 19) (nI i) t) = Y 20 t) : fM_driftsOff Y (nI i) = some (if 5 ≤ S then dr5 (upc (dA (eS (Y 13) (fun k => ptM Y 0 k i) nk / 100)) (dAd (eS (Y 13) (fun k => ptM Y 0 k i) nk / 100)) val S 5) (upc (dB (eS (Y 13) (fun k => ptM Y 0 k i) nk / 100)) (dBd (eS (Y 13) (fun k => ptM Y 0 k i) nk / 100)) val S 5) else 0) := by
  unfold fM_driftsOff
  rw [e_endOf hi hnk enk, m_b1_some, m_l_eq, m_l_eq, en]
  generalize eS (Y 13) (fun k => ptM Y 0 k i) nk / 100 = mid
  obtain ⟨c, c1, c2, c3, g⟩ := e_driftL (mid := mid) (val := val) hn hv n (127 - n) (Nat.le_refl _) (by rw [Nat.sub_self]; omega)
  rw [show n + 1 + (127 - n) = 128 by omega, Nat.sub_self, hS] at g
  rw [hS] at c2 c3
  have g : fM_driftsOff_L30 (nI i) Y mid 128 0 0 0 (nI n - 1) = some (dr5 (upc (dA mid) (dAd mid) val S c) (upc (dB mid) (dBd mid) val S c)) := g
  rw [g]
  by_cases h5 : 5 ≤ S
  · have : c = 5 := by omega
    subst this
    rw [if_pos h5]
  · have l1 := upc_le (dA mid) (dAd mid) val S c
    have l2 := upc_le (dB mid) (dBd mid) val S c
    rw [if_neg h5]
    unfold dr5
    rw [if_neg (by omega), if_neg (by omega)]
theorem e_add {X : mMem} {i c n : Nat} {v : Int32} (hi : i < 6) (hc : c < 100) (h72 : X 72 i = nI c) (h71 : X 71 0 = nI n) : fL_add X (nI i) v = some (mu (mu (mu X (73 + 1 + i) c v) 72 i (nI (c + 1))) 71 0 (nI (n + 1))) := by
  unfold fL_add
  rw [m_g_t (inb_nI hi (by omega)), nI_clamp (show i < 2 ^ 31 by omega), h72, m_g_t (inb_nI hc (by omega)), nI_clamp (show c < 2 ^ 31 by omega), m_l_eq, m_l_eq, m_l_eq]
  rw [show mu X (73 + 1 + i) c v 72 i = nI c by rw [mu_app, if_neg (by omega)]; exact h72, nI_1]
  rw [show mu (mu X (73 + 1 + i) c v) 72 i (nI (c + 1)) 71 0 = nI n by rw [mu_app, mu_app, if_neg (by omega), if_neg (by omega)]; exact h71, nI_1]
theorem e_addF {X : mMem} {i c f : Nat} {r : Int32} (hi : i < 6) (hf : f < 100) (h72 : X 72 i = nI (c + 1)) (h71 : X 71 3 = nI f) : fL_addFired X (nI i) r = some (mu (mu (mu (mu X 80 f (nI i)) 81 f (nI c)) 82 f r) 71 3 (nI (f + 1))) := by
  have i1 := inb_nI hf (show 100 < 2 ^ 31 by omega)
  unfold fL_addFired
  rw [h71, m_g_t i1, nI_clamp (show f < 2 ^ 31 by omega), m_l_eq, m_g_t (inb_nI hi (by omega)), nI_clamp (show i < 2 ^ 31 by omega)]
  rw [show mu X 80 f (nI i) 71 3 = nI f by rw [mu_app, if_neg (by omega)]; exact h71, m_g_t i1, nI_clamp (show f < 2 ^ 31 by omega), show mu X 80 f (nI i) 72 i = nI (c + 1) by rw [mu_app, if_neg (by omega)]; exact h72, show nI (c + 1) - 1 = nI c from nI_pred c, m_l_eq]
  rw [show mu (mu X 80 f (nI i)) 81 f (nI c) 71 3 = nI f by rw [mu_app, mu_app, if_neg (by omega), if_neg (by omega)]; exact h71, m_g_t i1, nI_clamp (show f < 2 ^ 31 by omega), m_l_eq]
  rw [show mu (mu (mu X 80 f (nI i)) 81 f (nI c)) 82 f r 71 3 = nI f by rw [mu_app, mu_app, mu_app, if_neg (by omega), if_neg (by omega), if_neg (by omega)]; exact h71, nI_1, m_l_eq]
theorem e_test {X Y : mMem} (h : Rel X Y) (a1 a2 : Int32) : ∃ r X' Y', fG_test X a1 a2 = some (r, X') ∧ fM_test Y a1 a2 = some (r, Y') ∧ Rel X' Y' := by
  obtain ⟨⟨b0, b1, b2, b3⟩, ⟨ns, hns, ens⟩, ⟨nk, hnk, enk⟩, -, -⟩ := id h.1.1
  obtain ⟨r2, r3, r4, r5, r6, r7, r8⟩ := id h.1.2.1
  obtain ⟨⟨l1, L, hL, eL9⟩, -⟩ := id h.1.2.2.2.2.2.2.2
  obtain ⟨hh1, -⟩ := id h.2.1
  obtain ⟨g0, n, hn, en, gi, gF9, gf⟩ := id h.2.2.2.1
  have hV := h.2.2.2.2.1
  have hG := rG_at gi
  unfold fG_test fM_test
  rw [e_hasSieve, e_isSieve, m_b1_some, m_b1_some, b0, ens]
  by_cases c : (if a1 < 0 then (0 : Int32) else if nI ns ≤ a1 then 0 else 1) = 0
  · rw [if_pos c, if_pos c]
    exact ⟨_, _, _, rfl, rfl, h⟩
  · obtain ⟨i, hi, rfl⟩ := ix_of (by omega) c
    rw [if_neg c, if_neg c, e_withinG, e_withinM, m_b1_some, m_b1_some]
    by_cases c2 : wth a2 0 1000 = 0
    · rw [if_pos c2, if_pos c2]
      exact ⟨_, _, _, rfl, rfl, h⟩
    · obtain ⟨u, -, hu, rfl⟩ := wth_of (a := 0) (b := 1000) (by omega) (by omega) c2
      rw [if_neg c2, if_neg c2, g0, en]
      by_cases hn1 : n = 100
      · subst hn1
        rw [if_neg (show ¬ nI 100 < 100 by decide), if_pos (show nI 100 = 100 from rfl)]
        exact ⟨_, _, _, rfl, rfl, h⟩
      · have hn9 : n < 100 := by omega
        have i6 : i < 6 := by omega
        have hcle := cS_le (Y 19) (nI i) n
        have hGi := hG i i6
        generalize hcc : cS (Y 19) (nI i) n = cc at hcle
        have h72 : X 72 i = nI cc := by rw [← hcc]; exact hGi.1
        have hcc9 : cc < 100 := by omega
        rw [if_pos (show nI n < 100 from nI_lt (b := 100) hn9 (by omega)), if_neg (show ¬ nI n = 100 from fun q => hn1 ((nI_eq (b := 100) (by omega) (by omega)).mp q)), e_add i6 hcc9 h72 (g0.trans en), m_b1_some, e_testL hn en, hcc]
        generalize hX1 : mu (mu (mu X (73 + 1 + i) cc (nI u)) 72 i (nI (cc + 1))) 71 0 (nI (n + 1)) = X1
        -- the class's memory
        have x1q : ∀ q, q < 71 → X1 q = X q := fun q g => by rw [← hX1, mu_ne _ _ _ (by omega), mu_ne _ _ _ (by omega), mu_ne _ _ _ (by omega)]
        have x1o : ∀ k, k < 6 → k ≠ i → X1 (73 + 1 + k) = X (73 + 1 + k) := fun k g1 g2 => by rw [← hX1, mu_ne _ _ _ (by omega), mu_ne _ _ _ (by omega), mu_ne _ _ _ (by omega)]
        have x1i : X1 (73 + 1 + i) = upd (X (73 + 1 + i)) cc (nI u) := by rw [← hX1, mu_ne _ _ _ (by omega), mu_ne _ _ _ (by omega), mu_self]
        have x172 : X1 72 = upd (X 72) i (nI (cc + 1)) := by rw [← hX1, mu_ne _ _ _ (by omega), mu_self, mu_ne _ _ _ (by omega)]
        have x171 : X1 71 0 = nI (n + 1) := by rw [← hX1, mu_app, if_pos ⟨rfl, rfl⟩]
        have x1f : X1 71 3 = X 71 3 := by rw [← hX1, mu_app, mu_app, mu_app, if_neg (by omega), if_neg (by omega), if_neg (by omega)]
        have x18 : ∀ q, 80 ≤ q → X1 q = X q := fun q g => by rw [← hX1, mu_ne _ _ _ (by omega), mu_ne _ _ _ (by omega), mu_ne _ _ _ (by omega)]
        have s72 : X1 72 i = nI (cc + 1) := by rw [x172, upd_at, if_pos rfl]
        -- the reference's memory
        unfold fM_test_B76
        rw [en, m_g_t (inb_nI hn9 (by omega)), nI_clamp (show n < 2 ^ 31 by omega), m_l_eq]
        rw [show mu Y 19 n (nI i) 0 32 = nI n by rw [mu_app, if_neg (by omega)]; exact en, m_g_t (inb_nI hn9 (by omega)), nI_clamp (show n < 2 ^ 31 by omega), m_l_eq]
        rw [show mu (mu Y 19 n (nI i)) 20 n (nI u) 0 32 = nI n by rw [mu_app, mu_app, if_neg (by omega), if_neg (by omega)]; exact en, m_g_t (inb_nI hn9 (by omega)), nI_clamp (show n < 2 ^ 31 by omega), m_l_eq]
        rw [show mu (mu (mu Y 19 n (nI i)) 20 n (nI u)) 21 n (nI cc) 0 32 = nI n by rw [mu_app, mu_app, mu_app, if_neg (by omega), if_neg (by omega), if_neg (by omega)]; exact en, nI_1, m_l_eq]
        generalize hY1 : mu (mu (mu (mu Y 19 n (nI i)) 20 n (nI u)) 21 n (nI cc)) 0 32 (nI (n + 1)) = Y1
        have y1q : ∀ q, q ≠ 0 → q < 19 → Y1 q = Y q := fun q g1 g2 => by rw [← hY1, mu_ne _ _ _ g1, mu_ne _ _ _ (by omega), mu_ne _ _ _ (by omega), mu_ne _ _ _ (by omega)]
        have y10 : ∀ f, f ≠ 32 → Y1 0 f = Y 0 f := fun f g => by rw [← hY1, mu_app, mu_app, mu_app, mu_app, if_neg (by omega), if_neg (by omega), if_neg (by omega), if_neg (by omega)]
        have y132 : Y1 0 32 = nI (n + 1) := by rw [← hY1, mu_app, if_pos ⟨rfl, rfl⟩]
        have y119 : Y1 19 = upd (Y 19) n (nI i) := by rw [← hY1, mu_ne _ _ _ (by decide), mu_ne _ _ _ (by decide), mu_ne _ _ _ (by decide), mu_self]
        have y120 : Y1 20 = upd (Y 20) n (nI u) := by rw [← hY1, mu_ne _ _ _ (by decide), mu_ne _ _ _ (by decide), mu_self, mu_ne _ _ _ (by decide)]
        have y121 : Y1 21 = upd (Y 21) n (nI cc) := by rw [← hY1, mu_ne _ _ _ (by decide), mu_self, mu_ne _ _ _ (by decide), mu_ne _ _ _ (by decide)]
        have y122 : Y1 22 = Y 22 := by rw [← hY1, mu_ne _ _ _ (by decide), mu_ne _ _ _ (by decide), mu_ne _ _ _ (by decide), mu_ne _ _ _ (by decide)]
        -- the last value before
        have hlst : 0 < cc → upd (X (73 + 1 + i)) cc (nI u) (cc - 1) = lst9 (Y 19) (Y 20) (nI i) (nI u) n := fun g => by
          rw [upd_at, if_neg (by omega), ← hcc]
          exact lst9_val n hGi.2 (by omega)
        obtain ⟨w, hw, ew⟩ : ∃ w, w ≤ 1000 ∧ lst9 (Y 19) (Y 20) (nI i) (nI u) n = nI w := lst9_in (P := fun x => ∃ w, w ≤ 1000 ∧ x = nI w) ⟨u, hu, rfl⟩ n (fun t ht => hV n t hn en ht)
        have hl0 : cc = 0 → w = u := fun g => by
          have := lst9_0 (tv := Y 20) (v := nI u) n (hcc.trans g)
          rw [ew] at this
          exact (nI_eq (by omega) (by omega)).mp this
        rw [ew] at hlst ⊢
        -- the rule on the class's side
        have hRx := e_firstRule (X1 := X1) (i := i) (c := cc) (nk := nk) (u := u) (lst := nI w) (has := Y 0 18) (lim := Y 0 31) (vals := upd (X (73 + 1 + i)) cc (nI u)) i6 hcc9 hnk (by rw [x1q 1 (by omega)]; exact b1.trans enk) (by rw [x1q 0 (by omega)]; exact l1) (by rw [x1q 66 (by omega)]; exact hh1) s72 x1i (by rw [upd_at, if_pos rfl]) hlst rfl
        rw [x1q 2 (by omega), x1q 3 (by omega), r2, r3] at hRx
        rw [hRx, m_b1_some]
        -- the rule on the reference's side
        have hval : ∀ t, t < n + 1 → Y1 19 t = nI i → upd (X (73 + 1 + i)) cc (nI u) (cS (Y1 19) (nI i) t) = Y1 20 t := by
          have g := (rG1_i (v := nI u) hGi).2
          rw [hcc] at g
          rw [y119, y120]
          exact g
        have hS : cS (Y1 19) (nI i) (n + 1) = cc + 1 := by rw [y119, cS_new, if_pos rfl, hcc]
        have hdr := e_driftM (Y := Y1) (i := i) (nk := nk) (n := n + 1) (S := cc + 1) (val := upd (X (73 + 1 + i)) cc (nI u)) i6 hnk (by rw [y10 3 (by decide)]; exact enk) (by omega) y132 hS hval
        have hmid : ¬ Y 0 18 = 0 → eS (Y1 13) (fun k => ptM Y1 0 k i) nk = eS (X1 67) (fun k => X1 (9 + 1 + k) i) nk := fun g => by
          rw [eS_eq (w := X1 67) (f := fun k => X1 (9 + 1 + k) i) (w' := X 67) (f' := fun k => X (9 + 1 + k) i) nk (fun k hk => ⟨by rw [x1q 67 (by omega)], by show X1 (9 + 1 + k) i = X (9 + 1 + k) i; rw [x1q (9 + 1 + k) (by omega)]⟩), (sum_hand h hnk enk g i6).1]
          refine eS_eq nk (fun k hk => ⟨by rw [y1q 13 (by decide) (by omega)], ?_⟩)
          show ptM Y1 0 k i = ptM Y 0 k i
          unfold ptM
          rw [y1q 8 (by decide) (by omega), y1q 9 (by decide) (by omega)]
        have hjm : (if cc = 0 then (0 : Int32) else if (if 0 ≤ nI u - nI w then nI u - nI w else 0 - (nI u - nI w)) ≤ Y 0 31 then 0 else 1) = 0 ↔ (if nI u ≤ nI w then nI w - nI u else nI u - nI w) ≤ Y1 0 31 := by
          rw [y10 31 (by decide), ← apart hu hw]
          by_cases q : cc = 0
          · rw [if_pos q, hl0 q, Int32.sub_self, if_pos (by decide), eL9]
            exact ⟨fun _ => nI_pos' (by omega), fun _ => rfl⟩
          · rw [if_neg q]
            by_cases z : (if 0 ≤ nI u - nI w then nI u - nI w else 0 - (nI u - nI w)) ≤ Y 0 31
            · rw [if_pos z]
              exact ⟨fun _ => z, fun _ => rfl⟩
            · rw [if_neg z]
              exact ⟨fun k => absurd k (by decide), fun k => absurd k z⟩
        have hRy : ∀ ap, ap = (if nI u ≤ nI w then nI w - nI u else nI u - nI w) → fM_test_B133 (nI i) (nI u) Y1 ap = _ := fun ap hap => e_133 (Y1 := Y1) (i := i) (n := n) (v := nI u) (ap := ap) (has := Y 0 18) (dr := (if 5 ≤ cc + 1 then dr5 (upc (dA (eS (X1 67) (fun k => X1 (9 + 1 + k) i) nk / 100)) (dAd (eS (X1 67) (fun k => X1 (9 + 1 + k) i) nk / 100)) (upd (X (73 + 1 + i)) cc (nI u)) (cc + 1) 5) (upc (dB (eS (X1 67) (fun k => X1 (9 + 1 + k) i) nk / 100)) (dBd (eS (X1 67) (fun k => X1 (9 + 1 + k) i) nk / 100)) (upd (X (73 + 1 + i)) cc (nI u)) (cc + 1) 5) else 0)) (jm := (if cc = 0 then (0 : Int32) else if (if 0 ≤ nI u - nI w then nI u - nI w else 0 - (nI u - nI w)) ≤ Y 0 31 then 0 else 1)) i6 hn9 y132 (y10 18 (by decide)) (fun g => by rw [← hmid g]; exact hdr) (by rw [hap]; exact hjm)
        rw [y1q 1 (by decide) (by omega), y1q 2 (by decide) (by omega)] at hRy
        have hB : (if nI u ≤ nI w then fM_test_B133 (nI i) (nI u) Y1 (nI w - nI u) else fM_test_B133 (nI i) (nI u) Y1 (nI u - nI w)) = fM_test_B133 (nI i) (nI u) Y1 (if nI u ≤ nI w then nI w - nI u else nI u - nI w) := by
          by_cases z : nI u ≤ nI w
          · rw [if_pos z, if_pos z]
          · rw [if_neg z, if_neg z]
        rw [hB, hRy _ rfl]
        generalize hrr : rul (wth (nI u) (Y 1 i) (Y 2 i)) (Y 0 18) (if 5 ≤ cc + 1 then dr5 (upc (dA (eS (X1 67) (fun k => X1 (9 + 1 + k) i) nk / 100)) (dAd (eS (X1 67) (fun k => X1 (9 + 1 + k) i) nk / 100)) (upd (X (73 + 1 + i)) cc (nI u)) (cc + 1) 5) (upc (dB (eS (X1 67) (fun k => X1 (9 + 1 + k) i) nk / 100)) (dBd (eS (X1 67) (fun k => X1 (9 + 1 + k) i) nk / 100)) (upd (X (73 + 1 + i)) cc (nI u)) (cc + 1) 5) else 0) (if cc = 0 then (0 : Int32) else if (if 0 ≤ nI u - nI w then nI u - nI w else 0 - (nI u - nI w)) ≤ Y 0 31 then 0 else 1) = r
        have hr : r = 0 ∨ (¬ r = 0 ∧ ¬ r ≤ 0) := by rw [← hrr]; exact rul_cases _ _ _ _
        have hcF := cF_le (Y 22) n
        have y2 : ∀ q, q ≠ 22 → mu Y1 22 n r q = Y1 q := fun q g => mu_ne _ _ _ g
        have y222 : mu Y1 22 n r 22 = upd (Y 22) n r := by rw [mu_self, y122]
        by_cases q : r = 0
        · rw [if_pos q]
          refine ⟨r, X1, mu Y1 22 n r, rfl, rfl, Rel_test (c := cc) (r := r) h i6 hu hn9 en hcc.symm hG gF9 gf hr x171 x172 x1i x1o x1q (fun _ => ⟨x1f, x18 80 (by omega), x18 81 (by omega), x18 82 (by omega)⟩) (fun z => absurd q z) (by rw [y2 19 (by decide)]; exact y119) (by rw [y2 20 (by decide)]; exact y120) (by rw [y2 21 (by decide)]; exact y121) y222 (by rw [y2 0 (by decide)]; exact y132) (fun q g1 g2 => by rw [y2 q (by omega)]; exact y1q q g1 g2) (fun f g => by rw [y2 0 (by decide)]; exact y10 f g)⟩
        · rw [if_neg q, e_addF (r := r) i6 (show cF (Y 22) n < 100 by omega) s72 (x1f.trans gF9), m_b1_some]
          refine ⟨r, _, mu Y1 22 n r, rfl, rfl, Rel_test (c := cc) (r := r) h i6 hu hn9 en hcc.symm hG gF9 gf hr ?_ ?_ ?_ ?_ ?_ (fun z => absurd z q) (fun _ => ⟨?_, ?_, ?_, ?_⟩) (by rw [y2 19 (by decide)]; exact y119) (by rw [y2 20 (by decide)]; exact y120) (by rw [y2 21 (by decide)]; exact y121) y222 (by rw [y2 0 (by decide)]; exact y132) (fun q g1 g2 => by rw [y2 q (by omega)]; exact y1q q g1 g2) (fun f g => by rw [y2 0 (by decide)]; exact y10 f g)⟩
          · rw [mu_app, mu_app, mu_app, mu_app, if_neg (by omega), if_neg (by omega), if_neg (by omega), if_neg (by omega)]; exact x171
          · rw [mu_ne _ _ _ (by decide), mu_ne _ _ _ (by decide), mu_ne _ _ _ (by decide), mu_ne _ _ _ (by decide)]; exact x172
          · rw [mu_ne _ _ _ (by omega), mu_ne _ _ _ (by omega), mu_ne _ _ _ (by omega), mu_ne _ _ _ (by omega)]; exact x1i
          · intro k g1 g2
            rw [mu_ne _ _ _ (by omega), mu_ne _ _ _ (by omega), mu_ne _ _ _ (by omega), mu_ne _ _ _ (by omega)]; exact x1o k g1 g2
          · intro k g
            rw [mu_ne _ _ _ (by omega), mu_ne _ _ _ (by omega), mu_ne _ _ _ (by omega), mu_ne _ _ _ (by omega)]; exact x1q k g
          · rw [mu_app, if_pos ⟨rfl, rfl⟩]
          · rw [mu_ne _ _ _ (by decide), mu_ne _ _ _ (by decide), mu_ne _ _ _ (by decide), mu_self, x18 80 (by omega)]
          · rw [mu_ne _ _ _ (by decide), mu_ne _ _ _ (by decide), mu_self, mu_ne _ _ _ (by decide), x18 81 (by omega)]
          · rw [mu_ne _ _ _ (by decide), mu_self, mu_ne _ _ _ (by decide), mu_ne _ _ _ (by decide), x18 82 (by omega)]
end TS11
