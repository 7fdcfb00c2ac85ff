/-! The class's search. -/
section SRX
/-- what the search of the class at b reads and never writes -/
def sm (b : Nat) (X X' : mMem) : Prop := ∀ q, (q < b + 3 ∧ q ≠ b) ∨ q = b + 5 ∨ q = b + 10 ∨ b + 19 ≤ q → X' q = X q
theorem sm_rf (b : Nat) (X : mMem) : sm b X X := fun _ _ => rfl
theorem sm_tr {b : Nat} {X X' X'' : mMem} (h1 : sm b X X') (h2 : sm b X' X'') : sm b X X'' := fun q h => (h2 q h).trans (h1 q h)
def gK (X : mMem) (b s : Nat) (f : Nat → Int32) : mMem := fun q => if q = b + 14 then kpt s f (X (b + 14)) else X q
theorem gK_ne (X : mMem) (b s : Nat) (f : Nat → Int32) {q : Nat} (h : q ≠ b + 14) : gK X b s f q = X q := by unfold gK; rw [if_neg h]
theorem gK_eq (X : mMem) (b s : Nat) (f : Nat → Int32) : gK X b s f (b + 14) = kpt s f (X (b + 14)) := by unfold gK; rw [if_pos rfl]
theorem kpt_0 (f k : Nat → Int32) : kpt 0 f k = k := by
  funext t
  unfold kpt
  rw [if_neg (fun h => absurd h.1 (Nat.not_lt_zero _))]
theorem kpt_s1 {f k : Nat → Int32} {s : Nat} (h : f s = 0) : kpt (s + 1) f k = upd (kpt s f k) s 1 := by
  funext t
  unfold kpt upd
  by_cases e : t = s
  · subst e
    rw [if_pos ⟨Nat.lt_succ_self _, h⟩, if_pos rfl]
  · rw [if_neg e]
    show _ = (if t < s ∧ f t = 0 then 1 else k t)
    by_cases g : t < s ∧ f t = 0
    · rw [if_pos g, if_pos ⟨by omega, g.2⟩]
    · rw [if_neg g, if_neg (fun q => g ⟨by omega, q.2⟩)]
theorem kpt_s0 {f k : Nat → Int32} {s : Nat} (h : ¬ f s = 0) : kpt (s + 1) f k = kpt s f k := by
  funext t
  unfold kpt
  by_cases g : t < s ∧ f t = 0
  · rw [if_pos g, if_pos ⟨by omega, g.2⟩]
  · rw [if_neg g, if_neg (fun q => g ⟨by
      have := q.1
      rcases Nat.lt_or_ge t s with z | z
      · exact z
      · exact absurd (show f s = 0 by rw [show s = t by omega]; exact q.2) h, q.2⟩)]
theorem gK_0 (X : mMem) (b : Nat) (f : Nat → Int32) : gK X b 0 f = X := by
  funext q
  unfold gK
  by_cases h : q = b + 14
  · rw [if_pos h, kpt_0, h]
  · rw [if_neg h]
theorem gK_1 {X : mMem} {b s : Nat} {f : Nat → Int32} (h : f s = 0) : mu (gK X b s f) (b + 14) s 1 = gK X b (s + 1) f := by
  funext q
  by_cases e : q = b + 14
  · subst e
    rw [mu_self, gK_eq, gK_eq, kpt_s1 h]
  · rw [mu_ne _ _ _ e, gK_ne _ _ _ _ e, gK_ne _ _ _ _ e]
theorem gK_n {X : mMem} {b s : Nat} {f : Nat → Int32} (h : ¬ f s = 0) : gK X b (s + 1) f = gK X b s f := by
  funext q
  by_cases e : q = b + 14
  · subst e
    rw [gK_eq, gK_eq, kpt_s0 h]
  · rw [gK_ne _ _ _ _ e, gK_ne _ _ _ _ e]
/-- what stock i, the last one, misses at sieve s with share x -/
def mfX (X : mMem) (b i : Nat) (x : Int32) (s : Nat) : Int32 := mx0 (X (b + 1) s - X (b + 4 + 1 + i) s - x * X (14 + 1 + i) s) + mx0 (X (b + 9 + 1 + i) s + x * X (19 + 1 + i) s - X (b + 2) s)
theorem e_miss {X : mMem} {b i ns : Nat} {x : Int32} (hb : 24 ≤ b) (hi : i < 4) (hns : ns ≤ 6) (h0 : X 1 0 = nI ns) : fS_missOfAll X b (nI i) x = some (msT (mfX X b i x) ns, gK X b ns (mfX X b i x)) := by
  have key : ∀ d s e, s + d = ns → fS_missOfAll_L43 b (nI i) x (d + 1 + e) (gK X b s (mfX X b i x)) (msT (mfX X b i x) s) (nI s) = some (msT (mfX X b i x) ns, gK X b ns (mfX X b i x)) := by
    intro d
    induction d with
    | zero =>
      intro s e hs
      have hs : s = ns := by omega
      subst hs
      rw [show 0 + 1 + e = e + 1 by omega, fS_missOfAll_L43, gK_ne _ _ _ _ (by omega), h0, if_pos (nI_le (Nat.le_refl _) (by omega))]
    | succ d ih =>
      intro s e hs
      rw [show d + 1 + 1 + e = (d + 1 + e) + 1 by omega, fS_missOfAll_L43, gK_ne _ _ _ _ (by omega), h0, if_neg (nI_ge (by omega) (by omega)), m_g_t (inb_nI (by omega) (by omega))]
      simp only [m_l, nI_clamp (show s < 2 ^ 31 by omega), nI_clamp (show i < 2 ^ 31 by omega)]
      rw [gK_ne _ _ _ _ (show b + 1 ≠ b + 14 by omega), gK_ne _ _ _ _ (show b + 2 ≠ b + 14 by omega), gK_ne _ _ _ _ (show b + 4 + 1 + i ≠ b + 14 by omega), gK_ne _ _ _ _ (show b + 9 + 1 + i ≠ b + 14 by omega), gK_ne _ _ _ _ (show 14 + 1 + i ≠ b + 14 by omega), gK_ne _ _ _ _ (show 19 + 1 + i ≠ b + 14 by omega)]
      have ih' := ih (s + 1) e (by omega)
      by_cases hz : mfX X b i x s = 0
      · have hz' := hz
        unfold mfX mx0 at hz'
        rw [if_pos hz', gK_1 hz, nI_1]
        exact ih'
      · have hz' := hz
        unfold mfX mx0 at hz'
        rw [gK_n hz] at ih'
        rw [if_neg hz', nI_1]
        exact ih'
  unfold fS_missOfAll
  rw [m_g_t (inb_nI hi (by omega))]
  have h := key ns 0 (127 - ns) (by omega)
  rw [gK_0, show ns + 1 + (127 - ns) = 128 by omega] at h
  exact h
/-! lookAt -/
theorem hB_set {nk : Nat} {X : mMem} {k k1 : Nat} {w : Q4} {c m : Int32} (hnk : nk ≤ 4) (hw : ∀ j, j < nk → X k1 j = wI w j) : hB nk (gS X k k1 c m k) (gS X k k1 c m (k + 1)) (1, c, w) := by
  refine ⟨by simp [gS, upd], fun _ => ⟨by simp [gS, upd], fun j hj => ?_⟩⟩
  have h := hw j hj
  have hk : ¬ k + 1 = k := by omega
  unfold gS
  rw [if_neg hk, if_pos rfl]
  have : j = 0 ∨ j = 1 ∨ j = 2 ∨ j = 3 := by omega
  rcases this with rfl | rfl | rfl | rfl <;> simp [upd, h]
theorem hN_set {nk : Nat} {X : mMem} {k k1 : Nat} {w : Q4} {c m : Int32} (hnk : nk ≤ 4) (hw : ∀ j, j < nk → X k1 j = wI w j) : hN9 nk (gS X k k1 c m k) (gS X k k1 c m (k + 1)) (1, c, m, w) := by
  obtain ⟨h1, h2⟩ := hB_set (X := X) (k := k) (k1 := k1) (c := c) (m := m) hnk hw
  exact ⟨h1, fun q => ⟨(h2 q).1, by simp [gS, upd], (h2 q).2⟩⟩
theorem gS_ne (M : mMem) {k k1 q : Nat} (x2 x3 : Int32) (h : q ≠ k) (h1 : q ≠ k + 1) : gS M k k1 x2 x3 q = M q := by unfold gS; rw [if_neg h, if_neg h1]
/-- the second half: the nearest one -/
theorem e_look58 {X : mMem} {b nk : Nat} {c m : Int32} {w : Q4} {R : Rs} (hnk : nk ≤ 4) (hw : ∀ j, j < nk → X (b + 3) j = wI w j) (hR : hX b nk X R) : ∃ X', fS_lookAt_B58 b c m X = some X' ∧ (∀ q, q ≠ b + 17 → q ≠ b + 18 → X' q = X q) ∧ hX b nk X' (R.1, R.2.1, R.2.2.1, R.2.2.2.1, vsN m c w R.2.2.2.2) := by
  obtain ⟨h1, h2, h3, h4, h5, h6⟩ := hR
  unfold fS_lookAt_B58
  rw [e_set X (b + 17) (b + 3) c m (by omega)]
  have upd1 : ∃ X', some (gS X (b + 17) (b + 3) c m) = some X' ∧ (∀ q, q ≠ b + 17 → q ≠ b + 18 → X' q = X q) ∧ hX b nk X' (R.1, R.2.1, R.2.2.1, R.2.2.2.1, (1, c, m, w)) := by
    refine ⟨_, rfl, fun q g1 g2 => gS_ne _ _ _ g1 g2, ?_⟩
    refine ⟨?_, ?_, ?_, ?_, hN_set hnk hw⟩
    · rw [gS_ne _ _ _ (by omega) (by omega)]; exact h1
    · rw [gS_ne _ _ _ (by omega) (by omega)]; exact h2
    · rw [gS_ne _ _ _ (by omega) (by omega)]; exact h3
    · rw [gS_ne _ _ _ (by omega) (by omega), gS_ne _ _ _ (by omega) (by omega)]; exact h4
  have keep : ∃ X', some X = some X' ∧ (∀ q, q ≠ b + 17 → q ≠ b + 18 → X' q = X q) ∧ hX b nk X' (R.1, R.2.1, R.2.2.1, R.2.2.2.1, R.2.2.2.2) := ⟨X, rfl, fun _ _ _ => rfl, h1, h2, h3, h4, h5, h6⟩
  unfold vsN
  rw [h5]
  by_cases c1 : R.2.2.2.2.1 = 0
  · rw [if_pos c1, if_pos c1]
    exact upd1
  · obtain ⟨g1, g2, g3⟩ := h6 c1
    rw [if_neg c1, if_neg c1, g1, g2]
    by_cases c2 : m < R.2.2.2.2.2.2.1
    · rw [if_pos c2, if_pos c2]
      exact upd1
    · rw [if_neg c2, if_neg c2]
      by_cases c3 : m = R.2.2.2.2.2.2.1
      · rw [if_pos c3, if_pos c3]
        by_cases c4 : R.2.2.2.2.2.1 ≤ c
        · rw [if_pos c4, if_pos c4]
          exact keep
        · rw [if_neg c4, if_neg c4]
          exact upd1
      · rw [if_neg c3, if_neg c3]
        exact keep
theorem e_look {X : mMem} {b nk : Nat} {c m : Int32} {w : Q4} {R : Rs} (hnk : nk ≤ 4) (hw : ∀ j, j < nk → X (b + 3) j = wI w j) (hR : hX b nk X R) : ∃ X', fS_lookAt X b c m = some X' ∧ (∀ q, q ≠ b → q < b + 15 ∨ b + 19 ≤ q → X' q = X q) ∧ hX b nk X' (R.1 + 1, (if m = 0 then R.2.1 + 1 else R.2.1), R.2.2.1, (if m = 0 then vsB c w R.2.2.2.1 else R.2.2.2.1), vsN m c w R.2.2.2.2) := by
  obtain ⟨h1, h2, h3, ⟨h4, h4'⟩, h5⟩ := hR
  unfold fS_lookAt
  simp only [m_l]
  have f1 : ∀ q, q ≠ b → mu X b 9 (X b 9 + 1) q = X q := fun q h => mu_ne X _ _ h
  have e1 : ∀ j, mu X b 9 (X b 9 + 1) b j = if j = 9 then X b 9 + 1 else X b j := fun j => by rw [mu_self]; rfl
  by_cases cm : m = 0
  · rw [if_pos cm, if_pos cm, if_pos cm]
    generalize hY : mu X b 9 (X b 9 + 1) = Y at f1 e1
    have f2 : ∀ q, q ≠ b → mu Y b 10 (Y b 10 + 1) q = Y q := fun q h => mu_ne Y _ _ h
    have e2 : ∀ j, mu Y b 10 (Y b 10 + 1) b j = if j = 10 then Y b 10 + 1 else Y b j := fun j => by rw [mu_self]; rfl
    generalize hZ : mu Y b 10 (Y b 10 + 1) = Z at f2 e2
    have fZ : ∀ q, q ≠ b → Z q = X q := fun q h => (f2 q h).trans (f1 q h)
    have z9 : Z b 9 = R.1 + 1 := by
      rw [e2 9, if_neg (by omega), e1 9, if_pos rfl, h1]
    have z10 : Z b 10 = R.2.1 + 1 := by
      rw [e2 10, if_pos rfl, e1 10, if_neg (by omega), h2]
    have wZ : ∀ j, j < nk → Z (b + 3) j = wI w j := fun j hj => by rw [fZ _ (by omega)]; exact hw j hj
    have base : hX b nk Z (R.1 + 1, R.2.1 + 1, R.2.2.1, R.2.2.2.1, R.2.2.2.2) := ⟨z9, z10, by rw [fZ _ (by omega)]; exact h3, by rw [fZ _ (by omega), fZ _ (by omega)]; exact ⟨h4, h4'⟩, by rw [fZ _ (by omega), fZ _ (by omega)]; exact h5⟩
    have upd1 : ∃ X', fS_lookAt_B45 b c m Z = some X' ∧ (∀ q, q ≠ b → q < b + 15 ∨ b + 19 ≤ q → X' q = X q) ∧ hX b nk X' (R.1 + 1, R.2.1 + 1, R.2.2.1, (1, c, w), vsN m c w R.2.2.2.2) := by
      unfold fS_lookAt_B45
      rw [e_set Z (b + 15) (b + 3) c m (by omega), m_b1_some]
      have b2 : hX b nk (gS Z (b + 15) (b + 3) c m) (R.1 + 1, R.2.1 + 1, R.2.2.1, (1, c, w), R.2.2.2.2) := by
        obtain ⟨k1, k2, k3, k4, k5⟩ := base
        refine ⟨?_, ?_, ?_, hB_set hnk wZ, ?_⟩
        · rw [gS_ne _ _ _ (by omega) (by omega)]; exact k1
        · rw [gS_ne _ _ _ (by omega) (by omega)]; exact k2
        · rw [gS_ne _ _ _ (by omega) (by omega)]; exact k3
        · rw [gS_ne _ _ _ (by omega) (by omega), gS_ne _ _ _ (by omega) (by omega)]; exact k5
      obtain ⟨X', r1, r2, r3⟩ := e_look58 (c := c) (m := m) (w := w) hnk (fun j hj => by rw [gS_ne _ _ _ (by omega) (by omega)]; exact wZ j hj) b2
      exact ⟨X', r1, fun q g1 g2 => by rw [r2 q (by omega) (by omega), gS_ne _ _ _ (by omega) (by omega), fZ q g1], r3⟩
    have keep : ∃ X', fS_lookAt_B58 b c m Z = some X' ∧ (∀ q, q ≠ b → q < b + 15 ∨ b + 19 ≤ q → X' q = X q) ∧ hX b nk X' (R.1 + 1, R.2.1 + 1, R.2.2.1, R.2.2.2.1, vsN m c w R.2.2.2.2) := by
      obtain ⟨X', r1, r2, r3⟩ := e_look58 (c := c) (m := m) (w := w) hnk wZ base
      exact ⟨X', r1, fun q g1 g2 => by rw [r2 q (by omega) (by omega), fZ q g1], r3⟩
    unfold vsB
    rw [fZ (b + 15) (by omega), h4]
    by_cases c1 : R.2.2.2.1.1 = 0
    · rw [if_pos c1, if_pos c1]
      exact upd1
    · rw [if_neg c1, if_neg c1, (h4' c1).1]
      by_cases c2 : R.2.2.2.1.2.1 ≤ c
      · rw [if_pos c2, if_pos c2]
        exact keep
      · rw [if_neg c2, if_neg c2]
        exact upd1
  · rw [if_neg cm, if_neg cm, if_neg cm]
    generalize hY : mu X b 9 (X b 9 + 1) = Z at f1 e1
    have base : hX b nk Z (R.1 + 1, R.2.1, R.2.2.1, R.2.2.2.1, R.2.2.2.2) := ⟨by rw [e1 9, if_pos rfl, h1], by rw [e1 10, if_neg (by omega), h2], by rw [f1 _ (by omega)]; exact h3, by rw [f1 _ (by omega), f1 _ (by omega)]; exact ⟨h4, h4'⟩, by rw [f1 _ (by omega), f1 _ (by omega)]; exact h5⟩
    obtain ⟨X', r1, r2, r3⟩ := e_look58 (c := c) (m := m) (w := w) hnk (fun j hj => by rw [f1 _ (by omega)]; exact hw j hj) base
    exact ⟨X', r1, fun q g1 g2 => by rw [r2 q (by omega) (by omega), f1 q g1], r3⟩
end SRX
