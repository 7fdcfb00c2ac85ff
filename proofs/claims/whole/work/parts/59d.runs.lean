/-! run, near, lonely, worth -/
section RUN
theorem eM_ok {nk : Nat} {lo hi : Nat → Nat} {od : Nat → Bool} {cap : Nat} {L : List Nat} {w : Q4} (h : w ∈ eM nk lo hi od cap L) : okM nk lo hi od cap w := by
  unfold eM at h
  obtain ⟨a, -, h⟩ := List.mem_flatMap.mp h
  obtain ⟨b, -, h⟩ := List.mem_flatMap.mp h
  by_cases h1 : a + b ≤ 100
  · rw [if_pos h1] at h
    obtain ⟨c, -, h⟩ := List.mem_flatMap.mp h
    by_cases h2 : a + b + c ≤ 100
    · rw [if_pos h2] at h
      by_cases q : okM nk lo hi od cap (a, b, c, if 3 < nk then 100 - a - b - c else 0)
      · rw [gvn_t q] at h
        rw [List.mem_singleton.mp h]
        exact q
      · rw [gvn_f q] at h
        exact absurd h List.not_mem_nil
    · rw [if_neg h2] at h
      exact absurd h List.not_mem_nil
  · rw [if_neg h1] at h
    exact absurd h List.not_mem_nil
theorem okM_sum {nk : Nat} {lo hi : Nat → Nat} {od : Nat → Bool} {cap : Nat} {w : Q4} (hnk : nk ≤ 4) (h : okM nk lo hi od cap w) : smN nk (q4g w) ≤ 100 := by
  have := h.2.2.2.2.1
  have e : nk = 0 ∨ nk = 1 ∨ nk = 2 ∨ nk = 3 ∨ nk = 4 := by omega
  rcases e with rfl | rfl | rfl | rfl | rfl <;> simp only [smN] <;> omega
/-- what holds of the mixes that are kept -/
def okR (p : Nat → Int32) (nk : Nat) (R : Rs) : Prop := (¬ R.2.2.2.1.1 = 0 → R.2.2.2.1.2.1 = cs4 p R.2.2.2.1.2.2 nk ∧ smN nk (q4g R.2.2.2.1.2.2) ≤ 100) ∧ (¬ R.2.2.2.2.1 = 0 → R.2.2.2.2.2.1 = cs4 p R.2.2.2.2.2.2.2 nk ∧ smN nk (q4g R.2.2.2.2.2.2.2) ≤ 100)
theorem okR_vis {p : Nat → Int32} {nk ns : Nat} {f : Nat → Int32} {w : Q4} {R : Rs} (hw : smN nk (q4g w) ≤ 100) (h : okR p nk R) : okR p nk (vis ns f (cs4 p w nk) w R) := by
  obtain ⟨h1, h2⟩ := h
  unfold okR vis
  refine ⟨?_, ?_⟩
  · by_cases c : msT f ns = 0
    · simp only [if_pos c]
      unfold vsB
      by_cases c1 : R.2.2.2.1.1 = 0
      · rw [if_pos c1]; exact fun _ => ⟨rfl, hw⟩
      · rw [if_neg c1]
        by_cases c2 : R.2.2.2.1.2.1 ≤ cs4 p w nk
        · rw [if_pos c2]; exact h1
        · rw [if_neg c2]; exact fun _ => ⟨rfl, hw⟩
    · simp only [if_neg c]
      exact h1
  · show ¬ (vsN (msT f ns) (cs4 p w nk) w R.2.2.2.2).1 = 0 → _
    unfold vsN
    by_cases c1 : R.2.2.2.2.1 = 0
    · simp only [if_pos c1]; exact fun _ => ⟨trivial, hw⟩
    · simp only [if_neg c1]
      by_cases c2 : msT f ns < R.2.2.2.2.2.2.1
      · simp only [if_pos c2]; exact fun _ => ⟨trivial, hw⟩
      · simp only [if_neg c2]
        by_cases c3 : msT f ns = R.2.2.2.2.2.2.1
        · simp only [if_pos c3]
          by_cases c4 : R.2.2.2.2.2.1 ≤ cs4 p w nk
          · simp only [if_pos c4]; exact h2
          · simp only [if_neg c4]; exact fun _ => ⟨trivial, hw⟩
        · simp only [if_neg c3]; exact h2
theorem okR_fold {Y : mMem} {nk ns : Nat} {x2 x3 x4 : Int32} : ∀ (l : List Q4) (R : Rs), (∀ w ∈ l, smN nk (q4g w) ≤ 100) → okR (Y 3) nk R → okR (Y 3) nk (l.foldl (fvM Y x2 x3 x4 ns nk) R)
  | [], R, _, h => h
  | w :: l, R, hl, h => by
    rw [List.foldl_cons]
    exact okR_fold l _ (fun v hv => hl v (List.mem_cons_of_mem _ hv)) (okR_vis (hl w List.mem_cons_self) h)
theorem okR_eM {Y : mMem} {nk ns cap : Nat} {lo hi : Nat → Nat} {od : Nat → Bool} {L : List Nat} {x2 x3 x4 : Int32} (hnk : nk ≤ 4) : okR (Y 3) nk ((eM nk lo hi od cap L).foldl (fvM Y x2 x3 x4 ns nk) R00) :=
  okR_fold _ _ (fun w hw => okM_sum hnk (eM_ok hw)) ⟨fun q => absurd rfl q, fun q => absurd rfl q⟩
theorem fv_eq {X Y : mMem} {b ns nk : Nat} {x2 x3 x4 : Int32} (hns : ns ≤ 6) (hnk : nk ≤ 4) (hlw : ∀ k, k < 4 → ∀ s, s < 6 → X (14 + 1 + k) s = ptM Y 1 k s ∧ X (19 + 1 + k) s = ptM Y 2 k s) (h4 : X 4 = Y 3) (hnd : ∀ s, s < ns → X (b + 1) s = ndM Y x2 x3 s) (hal : ∀ s, s < ns → X (b + 2) s = alM Y x2 x4 s) : fvX X b ns nk = fvM Y x2 x3 x4 ns nk := by
  funext R w
  unfold fvX fvM
  rw [h4]
  refine vis_eq fun s hs => ?_
  unfold msA
  have g1 : eS (wI w) (fun k => lwX X k s) nk = eS (wI w) (fun k => ptM Y 1 k s) nk := eS_eq nk (fun k hk => ⟨rfl, (hlw k (by omega) s (by omega)).1⟩)
  have g2 : eS (wI w) (fun k => upX X k s) nk = eS (wI w) (fun k => ptM Y 2 k s) nk := eS_eq nk (fun k hk => ⟨rfl, (hlw k (by omega) s (by omega)).2⟩)
  rw [hnd s hs, hal s hs, lsm_eS, lsm_eS, lsm_eS, lsm_eS, g1, g2]
/-- the class's search over bands that are set -/
theorem e_srch {X Y : mMem} {b ns nk st k cap : Nat} {lo hi : Nat → Nat} {od : Nat → Bool} {x2 x3 x4 : Int32} (hb : 24 ≤ b) (hE : eY Y ns nk st k cap lo hi od) (p0 : X 1 0 = Y 0 0) (p1 : X 1 1 = Y 0 3) (p2 : X 1 2 = Y 0 11) (p3 : X 1 3 = Y 0 12) (p4 : X 4 = Y 3) (p5 : X 5 = Y 4) (p6 : X 6 = Y 5) (p7 : X 7 = Y 6) (hlw : ∀ k, k < 4 → ∀ s, s < 6 → X (14 + 1 + k) s = ptM Y 1 k s ∧ X (19 + 1 + k) s = ptM Y 2 k s) (hnd : ∀ s, s < ns → X (b + 1) s = ndM Y x2 x3 s) (hal : ∀ s, s < ns → X (b + 2) s = alM Y x2 x4 s) (z1 : ∀ s, X (b + 5) s = 0) (z2 : ∀ s, X (b + 10) s = 0) : ∃ X', fS_lookAtAll X b = some X' ∧ sm b X X' ∧ hX b nk X' ((eM nk lo hi od cap (stp st k)).foldl (fvM Y x2 x3 x4 ns nk) R00) := by
  obtain ⟨hns, hnk, hst, hcap, e0, e3, e12, e11, eL⟩ := hE
  have hX : eX b X ns nk st k lo hi od := ⟨hb, hns, hnk, hst, by rw [p0]; exact e0, by rw [p1]; exact e3, by rw [p3]; exact e12, fun i hi => by rw [p5, p6, p7]; exact eL i hi⟩
  obtain ⟨X', r1, r2, r3⟩ := e_lookAll hX (cap := cap) (by rw [p2]; exact e11) hcap z1 z2
  rw [eL_eM hst hnk, fv_eq hns hnk hlw p4 hnd hal] at r3
  exact ⟨X', r1, r2, r3⟩
theorem lw_of {X Y : mMem} (h : rD X Y) : ∀ k, k < 4 → ∀ s, s < 6 → X (14 + 1 + k) s = ptM Y 1 k s ∧ X (19 + 1 + k) s = ptM Y 2 k s := fun k hk s hs => ⟨(rD_at h hk hs).2.1, (rD_at h hk hs).2.2⟩
/-- the parameters of a search -/
theorem eY_ex {X Y : mMem} (h : Rp X Y) : ∃ ns nk st k cap lo hi od, eY Y ns nk st k cap lo hi od := by
  obtain ⟨⟨-, ⟨ns, hns, ens⟩, ⟨nk, hnk, enk⟩, ⟨cap, hcap, ecap⟩, ⟨st, k, hst, est⟩⟩, -, hC, -⟩ := h
  refine ⟨ns, nk, st, k, cap, fun j => (Y 4 j).toNatClampNeg, fun j => (Y 5 j).toNatClampNeg, fun j => decide (¬ Y 6 j = 0), hns, hnk, hst, hcap, ens, enk, est, ecap, fun i hi => ?_⟩
  obtain ⟨a, b, v, g1, g2, g3, g4, g5, g6⟩ := hC i hi
  have c1 : (Y 4 i).toNatClampNeg = a := by rw [g1]; exact nI_clamp (by omega)
  have c2 : (Y 5 i).toNatClampNeg = b := by rw [g2]; exact nI_clamp (by omega)
  refine ⟨by show Y 4 i = nI (Y 4 i).toNatClampNeg; rw [c1]; exact g1, by show Y 5 i = nI (Y 5 i).toNatClampNeg; rw [c2]; exact g2, by show (Y 4 i).toNatClampNeg ≤ 100; rw [c1]; omega, by show (Y 5 i).toNatClampNeg ≤ 100; rw [c2]; omega, ?_⟩
  simp
theorem Rp_x {X Y X' Y' : mMem} (h : Rp X Y) (hx : ∀ q, (q < 24 ∧ q ≠ 0) ∨ q = 29 ∨ q = 34 ∨ q = 48 ∨ q = 53 ∨ q = 62 ∨ q = 65 ∨ q = 69 ∨ q = 70 → X' q = X q) (h08 : X' 0 8 = X 0 8) (hy : ∀ q, (1 ≤ q ∧ q ≤ 10) ∨ q = 17 ∨ q = 18 → Y' q = Y q) (hy0 : ∀ f, f = 0 ∨ f = 3 ∨ f = 11 ∨ f = 12 ∨ f = 13 ∨ f = 31 → Y' 0 f = Y 0 f) : Rp X' Y' := by
  obtain ⟨hA, hB, hC, hD, hT, hK, hZ, hL⟩ := h
  refine ⟨?_, ?_, ?_, ?_, ?_, ?_, ?_, ?_⟩
  · unfold rA at hA ⊢
    rw [hx 1 (by omega), hy0 0 (by omega), hy0 3 (by omega), hy0 11 (by omega), hy0 12 (by omega)]
    exact hA
  · unfold rB at hB ⊢
    rw [hx 2 (by omega), hx 3 (by omega), hx 4 (by omega), hx 5 (by omega), hx 6 (by omega), hx 7 (by omega), hx 8 (by omega), hy 1 (by omega), hy 2 (by omega), hy 3 (by omega), hy 4 (by omega), hy 5 (by omega), hy 6 (by omega), hy 7 (by omega)]
    exact hB
  · unfold rC at hC ⊢
    rw [hy 4 (by omega), hy 5 (by omega), hy 7 (by omega)]
    exact hC
  · unfold rD at hD ⊢
    rw [hy 8 (by omega), hy 9 (by omega), hx 10 (by omega), hx 11 (by omega), hx 12 (by omega), hx 13 (by omega), hx 15 (by omega), hx 16 (by omega), hx 17 (by omega), hx 18 (by omega), hx 20 (by omega), hx 21 (by omega), hx 22 (by omega), hx 23 (by omega)]
    exact hD
  · unfold rT at hT ⊢
    rw [hx 62 (by omega), hx 65 (by omega), hy0 13 (by omega), hy 10 (by omega)]
    exact hT
  · rw [hx 69 (by omega), hx 70 (by omega), hy 17 (by omega), hy 18 (by omega)]
    exact hK
  · unfold rZ at hZ ⊢
    rw [hx 29 (by omega), hx 34 (by omega), hx 48 (by omega), hx 53 (by omega)]
    exact hZ
  · unfold rL rR at hL ⊢
    rw [h08, hy0 31 (by omega), hy 1 (by omega), hy 2 (by omega), hy 8 (by omega), hy 9 (by omega)]
    exact hL
theorem rG_x {X Y X' Y' : mMem} (h : rG X Y) (hx : ∀ q, 71 ≤ q → X' q = X q) (hy : ∀ q, 19 ≤ q → q ≤ 22 → Y' q = Y q) (h32 : Y' 0 32 = Y 0 32) : rG X' Y' := by
  unfold rG at h ⊢
  rw [hx 71 (by omega), hx 72 (by omega), hx 74 (by omega), hx 75 (by omega), hx 76 (by omega), hx 77 (by omega), hx 78 (by omega), hx 79 (by omega), hx 80 (by omega), hx 81 (by omega), hx 82 (by omega), h32, hy 19 (by omega) (by omega), hy 20 (by omega) (by omega), hy 21 (by omega) (by omega), hy 22 (by omega) (by omega)]
  exact h
theorem rV_x {Y Y' : mMem} (h : rV Y) (hy : Y' 20 = Y 20) (h32 : Y' 0 32 = Y 0 32) : rV Y' := by
  unfold rV at h ⊢
  rw [h32, hy]
  exact h
theorem rS_x {X Y X' Y' : mMem} (h : rS X Y) (hx : ∀ q, 24 ≤ q → q ≤ 42 → X' q = X q) (h07 : X' 0 7 = X 0 7) (hy : ∀ q, 1 ≤ q → q ≤ 9 → Y' q = Y q) (hy0 : ∀ f, f = 0 ∨ f = 3 ∨ f = 11 ∨ f = 12 → Y' 0 f = Y 0 f) : rS X' Y' := by
  unfold rS at h ⊢
  rw [h07]
  intro q ns nk st k cap lo hi od hE
  have hE' : eY Y ns nk st k cap lo hi od := by
    unfold eY at hE ⊢
    rw [hy0 0 (by omega), hy0 3 (by omega), hy0 12 (by omega), hy0 11 (by omega), hy 4 (by omega) (by omega), hy 5 (by omega) (by omega), hy 6 (by omega) (by omega)] at hE
    exact hE
  have hf : fvM Y' (-1) 0 0 ns nk = fvM Y (-1) 0 0 ns nk := by
    funext R w
    unfold fvM ptM ndM alM
    rw [hy 1 (by omega) (by omega), hy 2 (by omega) (by omega), hy 3 (by omega) (by omega), hy 8 (by omega) (by omega), hy 9 (by omega) (by omega)]
  rw [hf]
  have g := h q ns nk st k cap lo hi od hE'
  unfold hX at g ⊢
  rw [hx 24 (by omega) (by omega), hx (24 + 14) (by omega) (by omega), hx (24 + 15) (by omega) (by omega), hx (24 + 16) (by omega) (by omega), hx (24 + 17) (by omega) (by omega), hx (24 + 18) (by omega) (by omega)]
  exact g
/-- the class has searched -/
theorem e_once {X Y : mMem} (h : Rel X Y) : ∃ X1, fG_searchOnce X = some X1 ∧ Rel X1 Y ∧ ¬ X1 0 7 = 0 := by
  unfold fG_searchOnce
  by_cases c : X 0 7 = 0
  · obtain ⟨hA, hB, hC, hD, hT, hK, hZ, hL⟩ := h.1
    obtain ⟨⟨a0, a1, a2, a3⟩, -⟩ := id hA
    obtain ⟨b2, b3, b4, b5, b6, b7, b8⟩ := id hB
    obtain ⟨ns, nk, st, k, cap, lo, hi, od, hE⟩ := eY_ex h.1
    have hns := hE.1
    have e0 : X 1 0 = nI ns := a0.trans hE.2.2.2.2.1
    rw [if_pos c, e_useBands (by omega) hns e0, m_b1_some]
    have core : ∀ (nk' st' k' cap' : Nat) (lo' hi' : Nat → Nat) (od' : Nat → Bool), eY Y ns nk' st' k' cap' lo' hi' od' → ∃ X', fS_lookAtAll (gU X 24 ns) 24 = some X' ∧ sm 24 (gU X 24 ns) X' ∧ hX 24 nk' X' ((eM nk' lo' hi' od' cap' (stp st' k')).foldl (fvM Y (-1) 0 0 ns nk') R00) := by
      intro nk' st' k' cap' lo' hi' od' hE'
      have u : ∀ q, q ≠ 24 + 1 → q ≠ 24 + 2 → gU X 24 ns q = X q := fun q g1 g2 => gU_ne X ns g1 g2
      have hm1 : ∀ s, s < ns → ¬ nI s = (-1 : Int32) := fun s hs q => by
        have h1 : (nI s).toInt = (s : Int) := nI_toInt (by omega)
        rw [q] at h1
        have h2 : (-1 : Int32).toInt = -1 := by decide
        omega
      refine e_srch (by omega) hE' ?_ ?_ ?_ ?_ ?_ ?_ ?_ ?_ ?_ ?_ ?_ ?_ ?_
      · rw [u 1 (by omega) (by omega)]; exact a0
      · rw [u 1 (by omega) (by omega)]; exact a1
      · rw [u 1 (by omega) (by omega)]; exact a2
      · rw [u 1 (by omega) (by omega)]; exact a3
      · rw [u 4 (by omega) (by omega)]; exact b4
      · rw [u 5 (by omega) (by omega)]; exact b5
      · rw [u 6 (by omega) (by omega)]; exact b6
      · rw [u 7 (by omega) (by omega)]; exact b7
      · intro k hk s hs
        rw [u (14 + 1 + k) (by omega) (by omega), u (19 + 1 + k) (by omega) (by omega)]
        exact lw_of hD k hk s hs
      · intro s hs
        rw [gU_a]
        unfold gR ndM
        rw [if_pos hs, if_neg (hm1 s hs), b2]
      · intro s hs
        rw [gU_b]
        unfold gR alM
        rw [if_pos hs, if_neg (hm1 s hs), b3]
      · intro s
        rw [u (24 + 5) (by omega) (by omega)]
        exact hZ.1 s
      · intro s
        rw [u (24 + 10) (by omega) (by omega)]
        exact hZ.2.1 s
    obtain ⟨X', r1, r2, r3⟩ := core nk st k cap lo hi od hE
    rw [r1, m_b1_some, m_l_eq]
    have fr : ∀ q, (q < 24 ∧ q ≠ 0) ∨ q = 29 ∨ q = 34 ∨ 43 ≤ q → mu X' 0 7 1 q = X q := fun q g => by
      rw [mu_ne _ _ _ (by omega), r2 q (by omega), gU_ne _ _ (by omega) (by omega)]
    have f0 : ∀ f, f ≠ 7 → mu X' 0 7 1 0 f = X 0 f := fun f g => by
      rw [mu_app, if_neg (fun q => g q.2), r2 0 (by omega), gU_ne _ _ (by omega) (by omega)]
    refine ⟨_, rfl, ⟨Rp_x h.1 (fun q g => fr q (by omega)) (f0 8 (by decide)) (fun q _ => rfl) (fun f _ => rfl), ?_, ?_, rG_x h.2.2.2.1 (fun q g => fr q (by omega)) (fun q _ _ => rfl) rfl, h.2.2.2.2.1, ?_⟩, ?_⟩
    · have hH := h.2.1
      unfold rH at hH ⊢
      rw [fr 66 (by omega), fr 67 (by omega)]
      exact hH
    · rw [fr 68 (by omega)]
      exact h.2.2.1
    · intro _ ns' nk' st' k' cap' lo' hi' od' hE'
      have en : ns' = ns := (nI_eq (by have := hE'.1; omega) (by omega)).mp (hE'.2.2.2.2.1.symm.trans hE.2.2.2.2.1)
      subst en
      obtain ⟨X2, q1, -, q3⟩ := core nk' st' k' cap' lo' hi' od' hE'
      have ex : X2 = X' := Option.some.inj (q1.symm.trans r1)
      subst ex
      unfold hX at q3 ⊢
      rw [mu_ne _ _ _ (show (24 : Nat) ≠ 0 by decide), mu_ne _ _ _ (show (24 + 14 : Nat) ≠ 0 by decide), mu_ne _ _ _ (show (24 + 15 : Nat) ≠ 0 by decide), mu_ne _ _ _ (show (24 + 16 : Nat) ≠ 0 by decide), mu_ne _ _ _ (show (24 + 17 : Nat) ≠ 0 by decide), mu_ne _ _ _ (show (24 + 18 : Nat) ≠ 0 by decide)]
      exact q3
    · rw [mu_app, if_pos ⟨rfl, rfl⟩]
      decide
  · rw [if_neg c]
    exact ⟨X, rfl, h, c⟩
end RUN
