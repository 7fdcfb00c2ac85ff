/-! tests -/
section TST
theorem cS_le (ts : Nat → Int32) (s : Int32) : ∀ n, cS ts s n ≤ n
  | 0 => Nat.le_refl _
  | n + 1 => by
    have := cS_le ts s n
    rw [cS]
    by_cases c : ts n = s
    · rw [if_pos c]; omega
    · rw [if_neg c]; omega
theorem cF_le (tr : Nat → Int32) : ∀ n, cF tr n ≤ n
  | 0 => Nat.le_refl _
  | n + 1 => by
    have := cF_le tr n
    rw [cF]
    by_cases c : tr n ≤ 0
    · rw [if_pos c]; omega
    · rw [if_neg c]; omega
theorem cS_eq {ts ts' : Nat → Int32} {s : Int32} : ∀ n, (∀ t, t < n → ts t = ts' t) → cS ts s n = cS ts' s n
  | 0, _ => rfl
  | n + 1, h => by rw [cS, cS, cS_eq n (fun t ht => h t (by omega)), h n (by omega)]
theorem cF_eq {tr tr' : Nat → Int32} : ∀ n, (∀ t, t < n → tr t = tr' t) → cF tr n = cF tr' n
  | 0, _ => rfl
  | n + 1, h => by rw [cF, cF, cF_eq n (fun t ht => h t (by omega)), h n (by omega)]
theorem cS_mono (ts : Nat → Int32) (s : Int32) {a : Nat} : ∀ b, a ≤ b → cS ts s a ≤ cS ts s b
  | 0, h => by rw [show a = 0 by omega]; exact Nat.le_refl _
  | b + 1, h => by
    rcases Nat.lt_or_ge a (b + 1) with q | q
    · have := cS_mono ts s (a := a) b (by omega)
      rw [cS.eq_def ts s (b + 1)]
      simp only
      omega
    · rw [show a = b + 1 by omega]; exact Nat.le_refl _
theorem cF_mono (tr : Nat → Int32) {a : Nat} : ∀ b, a ≤ b → cF tr a ≤ cF tr b
  | 0, h => by rw [show a = 0 by omega]; exact Nat.le_refl _
  | b + 1, h => by
    rcases Nat.lt_or_ge a (b + 1) with q | q
    · have := cF_mono tr (a := a) b (by omega)
      rw [cF.eq_def tr (b + 1)]
      simp only
      omega
    · rw [show a = b + 1 by omega]; exact Nat.le_refl _
/-- the last value of a sieve before test n -/
def lst9 (ts tv : Nat → Int32) (s v : Int32) : Nat → Int32
  | 0 => v
  | t + 1 => if ts t = s then tv t else lst9 ts tv s v t
theorem lst9_val {ts tv val : Nat → Int32} {s v : Int32} : ∀ n, (∀ t, t < n → ts t = s → val (cS ts s t) = tv t) → 0 < cS ts s n → val (cS ts s n - 1) = lst9 ts tv s v n
  | 0, _, h => absurd h (Nat.lt_irrefl _)
  | n + 1, hv, h => by
    rw [cS] at h ⊢
    rw [lst9]
    by_cases c : ts n = s
    · rw [if_pos c, if_pos c, Nat.add_sub_cancel]
      exact hv n (by omega) c
    · rw [if_neg c] at h ⊢
      rw [if_neg c]
      exact lst9_val n (fun t ht => hv t (by omega)) h
theorem lst9_0 {ts tv : Nat → Int32} {s v : Int32} : ∀ n, cS ts s n = 0 → lst9 ts tv s v n = v
  | 0, _ => rfl
  | n + 1, h => by
    rw [cS] at h
    rw [lst9]
    by_cases c : ts n = s
    · rw [if_pos c] at h; omega
    · rw [if_neg c] at h ⊢
      exact lst9_0 n h
theorem lst9_in {ts tv : Nat → Int32} {s v : Int32} {P : Int32 → Prop} (hv : P v) : ∀ n, (∀ t, t < n → P (tv t)) → P (lst9 ts tv s v n)
  | 0, _ => hv
  | n + 1, h => by
    rw [lst9]
    by_cases c : ts n = s
    · rw [if_pos c]; exact h n (by omega)
    · rw [if_neg c]; exact lst9_in hv n (fun t ht => h t (by omega))
theorem e_testL {Y : mMem} {s v : Int32} {n : Nat} (hn : n ≤ 100) (h : Y 0 32 = nI n) : fM_test_L38 s v Y 128 0 v 0 = fM_test_B76 s v Y (nI (cS (Y 19) s n)) (lst9 (Y 19) (Y 20) s v n) := by
  have key : ∀ d t e, t + d = n → fM_test_L38 s v Y (d + 1 + e) (nI (cS (Y 19) s t)) (lst9 (Y 19) (Y 20) s v t) (nI t) = fM_test_B76 s v Y (nI (cS (Y 19) s n)) (lst9 (Y 19) (Y 20) s v n) := by
    intro d
    induction d with
    | zero =>
      intro t e ht
      have ht : t = n := by omega
      subst ht
      rw [show 0 + 1 + e = e + 1 by omega, fM_test_L38, h, if_pos (nI_le (Nat.le_refl _) (by omega))]
    | succ d ih =>
      intro t e ht
      have ih' := ih (t + 1) e (by omega)
      rw [cS, lst9] at ih'
      rw [show d + 1 + 1 + e = (d + 1 + e) + 1 by omega, fM_test_L38, h, if_neg (nI_ge (by omega) (by omega)), m_g_t (inb_nI (by omega) (by omega)), nI_clamp (show t < 2 ^ 31 by omega)]
      by_cases c : Y 19 t = s
      · rw [if_pos c, if_pos c] at ih'
        rw [if_pos c, m_l_eq, m_l_eq, m_l_eq, nI_1, nI_1]
        exact ih'
      · rw [if_neg c, if_neg c, Nat.add_zero] at ih'
        rw [if_neg c, m_l_eq, nI_1]
        exact ih'
  have h := key n 0 (127 - n) (by omega)
  rw [show n + 1 + (127 - n) = 128 by omega] at h
  exact h
/-! drift -/
def upc (P : Int32 → Prop) (dp : ∀ x, Decidable (P x)) (val : Nat → Int32) (S : Nat) : Nat → Nat
  | 0 => 0
  | c + 1 => upc P dp val S c + @ite _ (P (val (S - (c + 1)))) (dp _) 1 0
def dA (mid : Int32) : Int32 → Prop := fun x => ¬ x ≤ mid + 10
def dB (mid : Int32) : Int32 → Prop := fun x => ¬ mid - 10 ≤ x
def dAd (mid : Int32) : ∀ x, Decidable (dA mid x) := fun x => by unfold dA; exact inferInstance
def dBd (mid : Int32) : ∀ x, Decidable (dB mid x) := fun x => by unfold dB; exact inferInstance
theorem upc_le (P : Int32 → Prop) (dp : ∀ x, Decidable (P x)) (val : Nat → Int32) (S : Nat) : ∀ c, upc P dp val S c ≤ c
  | 0 => Nat.le_refl _
  | c + 1 => by
    have := upc_le P dp val S c
    rw [upc]
    by_cases h : P (val (S - (c + 1)))
    · rw [if_pos h]; omega
    · rw [if_neg h]; omega
def dr5 (a b : Nat) : Int32 := if a = 5 then 1 else if b = 5 then 1 else 0
theorem e_dr5M {Y : mMem} {a b : Nat} (ha : a ≤ 5) (hb : b ≤ 5) : fM_driftsOff_B108 Y (nI a) (nI b) = some (dr5 a b) := by
  unfold fM_driftsOff_B108 dr5
  by_cases h1 : a = 5
  · subst h1; rw [if_pos (show nI 5 = 5 from rfl), if_pos rfl]
  · rw [if_neg (show ¬ nI a = 5 from fun q => h1 ((nI_eq (b := 5) (by omega) (by omega)).mp q)), if_neg h1]
    by_cases h2 : b = 5
    · subst h2; rw [if_pos (show nI 5 = 5 from rfl), if_pos rfl]
    · rw [if_neg (show ¬ nI b = 5 from fun q => h2 ((nI_eq (b := 5) (by omega) (by omega)).mp q)), if_neg h2]
theorem e_dr5X {X : mMem} {a b : Nat} (ha : a ≤ 5) (hb : b ≤ 5) : fL_drifts_B75 X (nI a) (nI b) = some (dr5 a b) := e_dr5M (Y := X) ha hb
/-- the reference looks back from test n -/
theorem e_driftL {Y : mMem} {s mid : Int32} {val : Nat → Int32} {n : Nat} (hn : n ≤ 100) (hv : ∀ t, t < n → Y 19 t = s → val (cS (Y 19) s t) = Y 20 t) : ∀ k e, k ≤ n → cS (Y 19) s n - cS (Y 19) s k ≤ 5 →
    ∃ c, c ≤ 5 ∧ (c = 5 ∨ c = cS (Y 19) s n) ∧ c ≤ cS (Y 19) s n ∧ fM_driftsOff_L30 s Y mid (k + 1 + e) (nI (cS (Y 19) s n - cS (Y 19) s k)) (nI (upc (dA mid) (dAd mid) val (cS (Y 19) s n) (cS (Y 19) s n - cS (Y 19) s k))) (nI (upc (dB mid) (dBd mid) val (cS (Y 19) s n) (cS (Y 19) s n - cS (Y 19) s k))) (nI k - 1) = some (dr5 (upc (dA mid) (dAd mid) val (cS (Y 19) s n) c) (upc (dB mid) (dBd mid) val (cS (Y 19) s n) c)) := by
  intro k
  induction k with
  | zero =>
    intro e hk hc
    have h0 : cS (Y 19) s 0 = 0 := rfl
    rw [h0, Nat.sub_zero] at hc ⊢
    refine ⟨cS (Y 19) s n, hc, Or.inr rfl, Nat.le_refl _, ?_⟩
    rw [show 0 + 1 + e = e + 1 by omega, fM_driftsOff_L30, if_pos (show nI 0 - 1 < 0 by decide)]
    exact e_dr5M (Nat.le_trans (upc_le _ _ _ _ _) hc) (Nat.le_trans (upc_le _ _ _ _ _) hc)
  | succ k ih =>
    intro e hk hc
    have hm := cS_mono (Y 19) s n hk
    have hS := cS_le (Y 19) s n
    rw [show k + 1 + 1 + e = (k + 1 + e) + 1 by omega, fM_driftsOff_L30, nI_pred, if_neg (nI_pos (by omega))]
    by_cases c5 : cS (Y 19) s n - cS (Y 19) s (k + 1) = 5
    · rw [c5, if_pos (show (5 : Int32) ≤ nI 5 by decide)]
      refine ⟨5, Nat.le_refl _, Or.inl rfl, by omega, ?_⟩
      exact e_dr5M (upc_le _ _ _ _ _) (upc_le _ _ _ _ _)
    · rw [if_neg (show ¬ (5 : Int32) ≤ nI (cS (Y 19) s n - cS (Y 19) s (k + 1)) from nI_ge (b := 5) (by omega) (by omega)), m_g_t (inb_nI (by omega) (by omega)), nI_clamp (show k < 2 ^ 31 by omega)]
      have em : (-1 : Int32) = 0 - 1 := by decide
      by_cases c1 : Y 19 k = s
      · have ek : cS (Y 19) s (k + 1) = cS (Y 19) s k + 1 := by rw [cS, if_pos c1]
        have ec : cS (Y 19) s n - cS (Y 19) s k = (cS (Y 19) s n - cS (Y 19) s (k + 1)) + 1 := by omega
        obtain ⟨c, r1, r2, r3, r4⟩ := ih e (by omega) (by omega)
        refine ⟨c, r1, r2, r3, ?_⟩
        rw [← r4, ec, upc, upc]
        have eix : cS (Y 19) s n - ((cS (Y 19) s n - cS (Y 19) s (k + 1)) + 1) = cS (Y 19) s k := by omega
        rw [eix, hv k (by omega) c1, if_pos c1, m_l_eq, nI_1]
        unfold fM_driftsOff_B75
        have g : ∀ (z : Int32) (u : Nat), z = nI u → (m_l z fun x4_12 => m_g (inb (nI k) 100) <| if (mid - 10) ≤ (Y 20 (nI k).toNatClampNeg) then m_l (nI (upc (dB mid) (dBd mid) val (cS (Y 19) s n) (cS (Y 19) s n - cS (Y 19) s (k + 1))) + 0) fun x5_15 => m_l (nI k + (-1)) fun x6_16 => fM_driftsOff_L30 s Y mid (k + 1 + e) (nI (cS (Y 19) s n - cS (Y 19) s (k + 1) + 1)) x4_12 x5_15 x6_16 else m_l (nI (upc (dB mid) (dBd mid) val (cS (Y 19) s n) (cS (Y 19) s n - cS (Y 19) s (k + 1))) + 1) fun x5_17 => m_l (nI k + (-1)) fun x6_18 => fM_driftsOff_L30 s Y mid (k + 1 + e) (nI (cS (Y 19) s n - cS (Y 19) s (k + 1) + 1)) x4_12 x5_17 x6_18) = fM_driftsOff_L30 s Y mid (k + 1 + e) (nI (cS (Y 19) s n - cS (Y 19) s (k + 1) + 1)) (nI u) (nI (upc (dB mid) (dBd mid) val (cS (Y 19) s n) (cS (Y 19) s n - cS (Y 19) s (k + 1)) + @ite _ (dB mid (Y 20 k)) (dBd mid _) 1 0)) (nI k - 1) := by
          intro z u hz
          have e1 : nI k + (-1) = nI k - 1 := by rw [em, Int32.sub_eq_add_neg, Int32.sub_eq_add_neg, Int32.zero_add]
          rw [m_l_eq, m_g_t (inb_nI (by omega) (by omega)), nI_clamp (show k < 2 ^ 31 by omega), hz]
          by_cases q : mid - 10 ≤ Y 20 k
          · rw [if_pos q, m_l_eq, m_l_eq, Int32.add_zero, if_neg (show ¬ dB mid (Y 20 k) from fun w => w q), e1]
            rfl
          · rw [if_neg q, m_l_eq, m_l_eq, nI_1, if_pos (show dB mid (Y 20 k) from q), e1]
        by_cases q : Y 20 k ≤ mid + 10
        · rw [if_pos q]
          exact g _ _ (by rw [if_neg (show ¬ dA mid (Y 20 k) from fun w => w q), Int32.add_zero]; rfl)
        · rw [if_neg q]
          exact g _ _ (by rw [if_pos (show dA mid (Y 20 k) from q), nI_1])
      · have ek : cS (Y 19) s (k + 1) = cS (Y 19) s k := by rw [cS, if_neg c1, Nat.add_zero]
        rw [ek] at hc ⊢
        obtain ⟨c, r1, r2, r3, r4⟩ := ih e (by omega) hc
        refine ⟨c, r1, r2, r3, ?_⟩
        rw [← r4, if_neg c1, m_l_eq, em, Int32.sub_eq_add_neg, Int32.sub_eq_add_neg, Int32.zero_add]
/-- the class's last five -/
theorem e_driftX {X : mMem} {mid : Int32} {i S : Nat} (hi : i < 6) (hS : S ≤ 100) (h5 : 5 ≤ S) : fL_drifts_L25 (nI i) mid X (nI S) 128 0 0 (nI S - 5) = some (dr5 (upc (dA mid) (dAd mid) (X (73 + 1 + i)) S 5) (upc (dB mid) (dBd mid) (X (73 + 1 + i)) S 5)) := by
  have key : ∀ d e a b, d ≤ 5 → a + upc (dA mid) (dAd mid) (X (73 + 1 + i)) S d = upc (dA mid) (dAd mid) (X (73 + 1 + i)) S 5 → b + upc (dB mid) (dBd mid) (X (73 + 1 + i)) S d = upc (dB mid) (dBd mid) (X (73 + 1 + i)) S 5 → fL_drifts_L25 (nI i) mid X (nI S) (d + 1 + e) (nI a) (nI b) (nI (S - d)) = some (dr5 (upc (dA mid) (dAd mid) (X (73 + 1 + i)) S 5) (upc (dB mid) (dBd mid) (X (73 + 1 + i)) S 5)) := by
    intro d
    induction d with
    | zero =>
      intro e a b hd ha hb
      rw [upc, Nat.add_zero] at ha hb
      rw [show 0 + 1 + e = e + 1 by omega, fL_drifts_L25, Nat.sub_zero, if_pos (nI_le (Nat.le_refl _) (by omega)), ha, hb]
      exact e_dr5X (upc_le _ _ _ _ _) (upc_le _ _ _ _ _)
    | succ d ih =>
      intro e a b hd ha hb
      rw [upc] at ha hb
      rw [show d + 1 + 1 + e = (d + 1 + e) + 1 by omega, fL_drifts_L25, if_neg (nI_ge (by omega) (by omega)), m_g_t (inb_nI (by omega) (by omega)), m_g_t (inb_nI (by omega) (by omega)), nI_clamp (show i < 2 ^ 31 by omega), nI_clamp (show S - (d + 1) < 2 ^ 31 by omega)]
      have e1 : nI (S - (d + 1)) + 1 = nI (S - d) := by rw [nI_1, show S - (d + 1) + 1 = S - d by omega]
      by_cases q1 : X (73 + 1 + i) (S - (d + 1)) ≤ mid + 10
      · rw [if_neg (show ¬ dA mid (X (73 + 1 + i) (S - (d + 1))) from fun w => w q1), Nat.add_zero] at ha
        rw [if_pos q1]
        by_cases q2 : mid - 10 ≤ X (73 + 1 + i) (S - (d + 1))
        · rw [if_neg (show ¬ dB mid (X (73 + 1 + i) (S - (d + 1))) from fun w => w q2), Nat.add_zero] at hb
          rw [if_pos q2, m_l_eq, e1]
          exact ih e a b (by omega) ha hb
        · rw [if_pos (show dB mid (X (73 + 1 + i) (S - (d + 1))) from q2)] at hb
          rw [if_neg q2, m_l_eq, m_l_eq, e1, nI_1]
          exact ih e a (b + 1) (by omega) ha (by omega)
      · rw [if_pos (show dA mid (X (73 + 1 + i) (S - (d + 1))) from q1)] at ha
        rw [if_neg q1, m_l_eq]
        by_cases q2 : mid - 10 ≤ X (73 + 1 + i) (S - (d + 1))
        · rw [if_neg (show ¬ dB mid (X (73 + 1 + i) (S - (d + 1))) from fun w => w q2), Nat.add_zero] at hb
          rw [if_pos q2, m_l_eq, e1, nI_1 a]
          exact ih e (a + 1) b (by omega) (by omega) hb
        · rw [if_pos (show dB mid (X (73 + 1 + i) (S - (d + 1))) from q2)] at hb
          rw [if_neg q2, m_l_eq, m_l_eq, e1, nI_1 a, nI_1 b]
          exact ih e (a + 1) (b + 1) (by omega) (by omega) (by omega)
  have h := key 5 122 0 0 (Nat.le_refl _) (by omega) (by omega)
  rw [show nI S - 5 = nI (S - 5) from nI_sub (b := 5) h5]
  exact h
end TST
