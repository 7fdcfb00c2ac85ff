section SRO
def fvM (Y : mMem) (x2 x3 x4 : Int32) (ns nk : Nat) (R : Rs) (w : Q4) : Rs := vis ns (msA nk (ptM Y 1) (ptM Y 2) (ndM Y x2 x3) (alM Y x2 x4) w) (cs4 (Y 3) w nk) w R
theorem kpt_01 {ns : Nat} {f k : Nat → Int32} (h : ∀ s, k s = 0 ∨ k s = 1) (s : Nat) : kpt ns f k s = 0 ∨ kpt ns f k s = 1 := by
  unfold kpt
  by_cases c : s < ns ∧ f s = 0
  · rw [if_pos c]
    exact Or.inr rfl
  · rw [if_neg c]
    exact h s
theorem e_lookM {Y : mMem} {R : Rs} {w : Q4} {md x2 x3 x4 : Int32} {ns nk : Nat} (hmd : md = 0 ∨ md = 1) (hns : ns ≤ 6) (hnk : nk ≤ 4) (h0 : Y 0 0 = nI ns) (h3 : Y 0 3 = nI nk) (hR : hM md Y R) (hw : ∀ j, j < 4 → Y 14 j = wI w j) : ∃ Y', fM_look Y md x2 x3 x4 = some Y' ∧ smM Y Y' ∧ Y' 14 = Y 14 ∧ hM md Y' (fvM Y x2 x3 x4 ns nk R w) := by
  obtain ⟨r1, r2, r3, r4, r5, r6⟩ := hR
  have ef : msM Y x2 x3 x4 nk = msA nk (ptM Y 1) (ptM Y 2) (ndM Y x2 x3) (alM Y x2 x4) w := by
    funext s
    unfold msM msA
    rw [lsm_eS, lsm_eS, eS_eq nk (fun k hk => ⟨hw k (by omega), rfl⟩), eS_eq nk (fun k hk => ⟨hw k (by omega), rfl⟩)]
  rw [e_lookL hns hnk h0 h3 (fun s hs => by rw [r3 s hs]; exact r4 s), ef]
  unfold fvM vis
  generalize msA nk (ptM Y 1) (ptM Y 2) (ndM Y x2 x3) (alM Y x2 x4) w = f
  generalize ht : msT f ns = t
  have hc : ∀ Z : mMem, Z 14 = Y 14 → Z 3 = Y 3 → Z 0 3 = Y 0 3 → fM_costOf Z 14 = some (cs4 (Y 3) w nk) := by
    intro Z z1 z2 z3
    rw [e_costOf hnk (by rw [z3]; exact h3), z1, z2, cs4_eS, eS_eq nk (fun k hk => ⟨hw k (by omega), rfl⟩)]
  generalize cs4 (Y 3) w nk = c at hc
  unfold fM_look_B102
  rw [m_l_eq]
  have main : ∀ v : Int32, v = (if t = 0 then R.2.1 + 1 else R.2.1) → ∀ Z : mMem, Z = mu (mu (gKM Y ns f) 0 25 (gKM Y ns f 0 25 + 1)) 0 26 v → ∃ Y', (m_b1 (fM_costOf Z 14) fun r_5 => if (Z 0 22) = 0 then fM_look_B182 md Z t r_5 else if md = 0 then fM_look_B173 md Z t r_5 else if t = (Z 0 23) then fM_look_B173 md Z t r_5 else if (Z 0 23) ≤ t then fM_look_B186 md Z t r_5 else fM_look_B182 md Z t r_5) = some Y' ∧ smM Y Y' ∧ Y' 14 = Y 14 ∧ hM md Y' (R.1 + 1, (if t = 0 then R.2.1 + 1 else R.2.1), kpt ns f R.2.2.1, (if t = 0 then vsB c w R.2.2.2.1 else R.2.2.2.1), vsN t c w R.2.2.2.2) := by
    intro v hv Z hZ
    have zr : ∀ q, q ≠ 0 → q ≠ 16 → Z q = Y q := fun q a b => by rw [hZ, mu_ne _ _ _ a, mu_ne _ _ _ a, gKM_ne _ _ _ b]
    have z16 : Z 16 = kpt ns f (Y 16) := by rw [hZ, mu_ne _ _ _ (by decide), mu_ne _ _ _ (by decide), gKM_eq]
    have z0 : ∀ g, g ≠ 25 → g ≠ 26 → Z 0 g = Y 0 g := fun g a b => by rw [hZ, mu_app, mu_app, if_neg (by omega), if_neg (by omega), gKM_ne _ _ _ (by decide)]
    have z25 : Z 0 25 = R.1 + 1 := by rw [hZ, mu_app, mu_app, if_neg (by omega), if_pos ⟨rfl, rfl⟩, gKM_ne _ _ _ (by decide), r1]
    have z26 : Z 0 26 = (if t = 0 then R.2.1 + 1 else R.2.1) := by rw [hZ, mu_app, if_pos ⟨rfl, rfl⟩, hv]
    have zs : smM Y Z := ⟨fun q a _ _ b => zr q a b, fun g h => z0 g (by omega) (by omega)⟩
    rw [hc Z (zr 14 (by decide) (by decide)) (zr 3 (by decide) (by decide)) (z0 3 (by decide) (by decide)), m_b1_some]
    have k1 : ∀ s, s < 6 → Z 16 s = kpt ns f R.2.2.1 s := fun s hs => by
      rw [z16]
      unfold kpt
      rw [r3 s hs]
    have k2 := kpt_01 (ns := ns) (f := f) r4
    -- nothing new
    have keep : ∀ (B : Int32 × Int32 × Q4) (N : Int32 × Int32 × Int32 × Q4), (md = 0 → Z 0 22 = B.1 ∧ (¬ B.1 = 0 → Z 0 24 = B.2.1 ∧ ∀ j, j < 4 → Z 15 j = wI B.2.2 j)) → (¬ md = 0 → Z 0 22 = N.1 ∧ (¬ N.1 = 0 → Z 0 24 = N.2.1 ∧ Z 0 23 = N.2.2.1 ∧ ∀ j, j < 4 → Z 15 j = wI N.2.2.2 j)) → ∃ Y', some Z = some Y' ∧ smM Y Y' ∧ Y' 14 = Y 14 ∧ hM md Y' (R.1 + 1, (if t = 0 then R.2.1 + 1 else R.2.1), kpt ns f R.2.2.1, B, N) := fun B N hB hN => ⟨Z, rfl, zs, zr 14 (by decide) (by decide), z25, z26, k1, k2, hB, hN⟩
    have new : ∀ (B : Int32 × Int32 × Q4) (N : Int32 × Int32 × Int32 × Q4), (md = 0 → B = (1, c, w)) → (¬ md = 0 → N = (1, c, t, w)) → ∃ Y', some (gB Z t c) = some Y' ∧ smM Y Y' ∧ Y' 14 = Y 14 ∧ hM md Y' (R.1 + 1, (if t = 0 then R.2.1 + 1 else R.2.1), kpt ns f R.2.2.1, B, N) := by
      intro B N hB hN
      have g22 : gB Z t c 0 22 = 1 := by rw [gB_0]; rfl
      have g23 : gB Z t c 0 23 = t := by rw [gB_0]; rfl
      have g24 : gB Z t c 0 24 = c := by rw [gB_0]; rfl
      have g15' : ∀ j, j < 4 → gB Z t c 15 j = wI w j := fun j hj => by rw [gB_15 _ _ _ hj, zr 14 (by decide) (by decide)]; exact hw j hj
      refine ⟨gB Z t c, rfl, smM_tr zs (smM_B Z t c), ?_, ?_, ?_, ?_, k2, ?_, ?_⟩
      · rw [gB_row _ _ _ (by decide) (by decide)]; exact zr 14 (by decide) (by decide)
      · rw [gB_0]; exact z25
      · rw [gB_0]; exact z26
      · rw [gB_row _ _ _ (by decide) (by decide)]; exact k1
      · intro hm
        rw [hB hm]
        exact ⟨g22, fun _ => ⟨g24, g15'⟩⟩
      · intro hm
        rw [hN hm]
        exact ⟨g22, fun _ => ⟨g24, g23, g15'⟩⟩
    unfold fM_look_B173 fM_look_B182 fM_look_B186 fM_look_B187
    rcases hmd with hm | hm
    · have hm1 : ¬ (0 : Int32) = 1 := by decide
      obtain ⟨q1, q2⟩ := r5 hm
      have zz : md = 0 → Z 0 22 = R.2.2.2.1.1 ∧ (¬ R.2.2.2.1.1 = 0 → Z 0 24 = R.2.2.2.1.2.1 ∧ ∀ j, j < 4 → Z 15 j = wI R.2.2.2.1.2.2 j) := fun _ => ⟨by rw [z0 22 (by decide) (by decide)]; exact q1, fun z => ⟨by rw [z0 24 (by decide) (by decide)]; exact (q2 z).1, by rw [zr 15 (by decide) (by decide)]; exact (q2 z).2⟩⟩
      have no : ∀ N : Int32 × Int32 × Int32 × Q4, ¬ md = 0 → Z 0 22 = N.1 ∧ (¬ N.1 = 0 → Z 0 24 = N.2.1 ∧ Z 0 23 = N.2.2.1 ∧ ∀ j, j < 4 → Z 15 j = wI N.2.2.2 j) := fun N q => absurd hm q
      by_cases ct : t = 0
      · simp only [if_pos hm, if_pos ct]
        unfold vsB
        by_cases c1 : R.2.2.2.1.1 = 0
        · rw [if_pos (show Z 0 22 = 0 by rw [(zz hm).1]; exact c1), if_pos c1, e_198]
          exact (by simpa only [if_pos ct] using new (1, c, w) (vsN t c w R.2.2.2.2) (fun _ => rfl) (fun q => absurd hm q))
        · rw [if_neg (show ¬ Z 0 22 = 0 by rw [(zz hm).1]; exact c1), if_neg c1, ((zz hm).2 c1).1]
          by_cases c2 : R.2.2.2.1.2.1 ≤ c
          · rw [if_pos c2, if_pos c2, e_198']
            exact (by simpa only [if_pos ct] using keep R.2.2.2.1 (vsN t c w R.2.2.2.2) zz (no _))
          · rw [if_neg c2, if_neg c2, e_198]
            exact (by simpa only [if_pos ct] using new (1, c, w) (vsN t c w R.2.2.2.2) (fun _ => rfl) (fun q => absurd hm q))
      · simp only [if_pos hm, if_neg ct, ite_self]
        exact (by simpa only [if_neg ct] using keep R.2.2.2.1 (vsN t c w R.2.2.2.2) zz (no _))
    · have hm0 : ¬ md = 0 := by rw [hm]; decide
      obtain ⟨q1, q2⟩ := r6 hm0
      have zz : ¬ md = 0 → Z 0 22 = R.2.2.2.2.1 ∧ (¬ R.2.2.2.2.1 = 0 → Z 0 24 = R.2.2.2.2.2.1 ∧ Z 0 23 = R.2.2.2.2.2.2.1 ∧ ∀ j, j < 4 → Z 15 j = wI R.2.2.2.2.2.2.2 j) := fun _ => ⟨by rw [z0 22 (by decide) (by decide)]; exact q1, fun z => ⟨by rw [z0 24 (by decide) (by decide)]; exact (q2 z).1, by rw [z0 23 (by decide) (by decide)]; exact (q2 z).2.1, by rw [zr 15 (by decide) (by decide)]; exact (q2 z).2.2⟩⟩
      have no : ∀ B : Int32 × Int32 × Q4, md = 0 → Z 0 22 = B.1 ∧ (¬ B.1 = 0 → Z 0 24 = B.2.1 ∧ ∀ j, j < 4 → Z 15 j = wI B.2.2 j) := fun B q => absurd q hm0
      simp only [if_neg hm0]
      generalize (if t = 0 then vsB c w R.2.2.2.1 else R.2.2.2.1) = B9
      unfold vsN
      by_cases c1 : R.2.2.2.2.1 = 0
      · rw [if_pos (show Z 0 22 = 0 by rw [(zz hm0).1]; exact c1), if_pos c1, e_198]
        exact new B9 (1, c, t, w) (fun q => absurd q hm0) (fun _ => rfl)
      · rw [if_neg (show ¬ Z 0 22 = 0 by rw [(zz hm0).1]; exact c1), if_neg c1, ((zz hm0).2 c1).1, ((zz hm0).2 c1).2.1]
        by_cases c2 : t = R.2.2.2.2.2.2.1
        · rw [if_pos c2, if_neg (show ¬ t < R.2.2.2.2.2.2.1 by rw [c2]; exact Int32.lt_irrefl), if_pos c2]
          by_cases c3 : R.2.2.2.2.2.1 ≤ c
          · rw [if_pos c3, if_pos c3, e_198']
            exact keep B9 R.2.2.2.2 (no _) zz
          · rw [if_neg c3, if_neg c3, e_198]
            exact new B9 (1, c, t, w) (fun q => absurd q hm0) (fun _ => rfl)
        · rw [if_neg c2]
          by_cases c3 : R.2.2.2.2.2.2.1 ≤ t
          · rw [if_pos c3, if_neg (Int32.not_lt.mpr c3), if_neg c2, e_198']
            exact keep B9 R.2.2.2.2 (no _) zz
          · rw [if_neg c3, if_pos (Int32.not_le.mp c3), e_198]
            exact new B9 (1, c, t, w) (fun q => absurd q hm0) (fun _ => rfl)
  by_cases ct : t = 0
  · rw [if_pos ct]
    unfold fM_look_B127
    rw [m_l_eq]
    exact main _ (by rw [if_pos ct, mu_app, if_neg (by omega), gKM_ne _ _ _ (by decide), r2]) _ rfl
  · rw [if_neg ct]
    unfold fM_look_B127
    rw [m_l_eq]
    exact main _ (by rw [if_neg ct, mu_app, if_neg (by omega), gKM_ne _ _ _ (by decide), r2, Int32.add_zero]) _ rfl
end SRO
