/-! The reference's sums, and its search. -/
section SRM
def eS (w f : Nat → Int32) : Nat → Int32
  | 0 => 0
  | k + 1 => eS w f k + w k * f k
theorem lsm_eS (f : Nat → Nat → Int32) (w : Q4) (s : Nat) : ∀ i, lsm f w s i = eS (wI w) (fun k => f k s) i
  | 0 => rfl
  | i + 1 => by rw [lsm, eS, lsm_eS f w s i]
theorem cs4_eS (p : Nat → Int32) (w : Q4) : ∀ i, cs4 p w i = eS (wI w) p i
  | 0 => rfl
  | i + 1 => by rw [cs4, eS, cs4_eS p w i]
theorem cst_eS (w p : Nat → Int32) : ∀ i, cst i w p = eS w p i
  | 0 => rfl
  | i + 1 => by rw [cst, eS, cst_eS w p i]
theorem eS_eq {w w' f f' : Nat → Int32} : ∀ n, (∀ k, k < n → w k = w' k ∧ f k = f' k) → eS w f n = eS w' f' n
  | 0, _ => rfl
  | n + 1, h => by rw [eS, eS, eS_eq n (fun k hk => h k (by omega)), (h n (by omega)).1, (h n (by omega)).2]
theorem ix6 {k s : Nat} : 6 * nI k + nI s = nI (6 * k + s) := by
  rw [show (6 : Int32) = nI 6 from rfl, nI_mul, nI_add]
theorem e_lowerPart {Y : mMem} {k s : Nat} (hk : k < 4) (hs : s < 6) : fM_lowerPart Y (nI k) (nI s) = some (lwp (Y 8 (6 * k + s)) (Y 9 (6 * k + s))) := by
  unfold fM_lowerPart lwp
  rw [ix6, m_g_t (inb_nI (by omega) (by omega)), m_l_eq, nI_clamp (by omega)]
  by_cases h : 0 ≤ Y 8 (6 * k + s) - Y 9 (6 * k + s)
  · rw [if_pos h, if_pos h]
  · rw [if_neg h, if_neg h]
theorem e_upperPart {Y : mMem} {k s : Nat} (hk : k < 4) (hs : s < 6) : fM_upperPart Y (nI k) (nI s) = some (upp (Y 8 (6 * k + s)) (Y 9 (6 * k + s))) := by
  unfold fM_upperPart upp
  rw [ix6, m_g_t (inb_nI (by omega) (by omega)), m_l_eq, nI_clamp (by omega)]
  by_cases h : Y 8 (6 * k + s) + Y 9 (6 * k + s) ≤ 1000
  · rw [if_pos h, if_pos h]
  · rw [if_neg h, if_neg h]
def ptM (Y : mMem) (x : Int32) (k s : Nat) : Int32 := if x = 0 then Y 8 (6 * k + s) else if x = 1 then lwp (Y 8 (6 * k + s)) (Y 9 (6 * k + s)) else upp (Y 8 (6 * k + s)) (Y 9 (6 * k + s))
theorem e_endOf {Y : mMem} {r s nk : Nat} {x : Int32} (hs : s < 6) (hnk : nk ≤ 4) (h0 : Y 0 3 = nI nk) : fM_endOf Y r (nI s) x = some (eS (Y r) (fun k => ptM Y x k s) nk) := by
  have key : ∀ d k e, k + d = nk → fM_endOf_L6 r (nI s) x Y (d + 1 + e) (eS (Y r) (fun k => ptM Y x k s) k) (nI k) = some (eS (Y r) (fun k => ptM Y x k s) nk) := by
    intro d
    induction d with
    | zero =>
      intro k e hk
      have hk : k = nk := by omega
      subst hk
      rw [show 0 + 1 + e = e + 1 by omega, fM_endOf_L6, h0, if_pos (nI_le (Nat.le_refl _) (by omega))]
    | succ d ih =>
      intro k e hk
      have ih' := ih (k + 1) e (by omega)
      rw [eS] at ih'
      rw [show d + 1 + 1 + e = (d + 1 + e) + 1 by omega, fM_endOf_L6, h0, if_neg (nI_ge (by omega) (by omega))]
      by_cases c0 : x = 0
      · rw [if_pos c0, ix6, m_g_t (inb_nI (by omega) (by omega)), m_l_eq, m_g_t (inb_nI (by omega) (by omega)), m_l_eq, m_l_eq, nI_1, nI_clamp (show k < 2 ^ 31 by omega), nI_clamp (show 6 * k + s < 2 ^ 31 by omega)]
        rw [show ptM Y x k s = Y 8 (6 * k + s) by unfold ptM; rw [if_pos c0]] at ih'
        exact ih'
      · rw [if_neg c0]
        by_cases c1 : x = 1
        · rw [if_pos c1, e_lowerPart (by omega) hs, m_b1_some, m_g_t (inb_nI (by omega) (by omega)), m_l_eq, m_l_eq, nI_1, nI_clamp (show k < 2 ^ 31 by omega)]
          rw [show ptM Y x k s = lwp (Y 8 (6 * k + s)) (Y 9 (6 * k + s)) by unfold ptM; rw [if_neg c0, if_pos c1]] at ih'
          exact ih'
        · rw [if_neg c1, e_upperPart (by omega) hs, m_b1_some, m_g_t (inb_nI (by omega) (by omega)), m_l_eq, m_l_eq, nI_1, nI_clamp (show k < 2 ^ 31 by omega)]
          rw [show ptM Y x k s = upp (Y 8 (6 * k + s)) (Y 9 (6 * k + s)) by unfold ptM; rw [if_neg c0, if_neg c1]] at ih'
          exact ih'
  have h := key nk 0 (127 - nk) (by omega)
  rw [show nk + 1 + (127 - nk) = 128 by omega] at h
  exact h
theorem e_missOf {Y : mMem} {r s nk : Nat} {lo hi : Int32} (hs : s < 6) (hnk : nk ≤ 4) (h0 : Y 0 3 = nI nk) : fM_missOf Y r (nI s) lo hi = some (mx0 (100 * lo - eS (Y r) (fun k => ptM Y 1 k s) nk) + mx0 (eS (Y r) (fun k => ptM Y 2 k s) nk - 100 * hi)) := by
  unfold fM_missOf
  rw [e_endOf hs hnk h0, m_b1_some, m_l_eq, e_endOf hs hnk h0, m_b1_some, m_l_eq]
  unfold mx0
  generalize 100 * lo - eS (Y r) (fun k => ptM Y 1 k s) nk = u
  generalize eS (Y r) (fun k => ptM Y 2 k s) nk - 100 * hi = v
  by_cases h1 : 0 < u
  · rw [if_neg (Int32.not_le.mpr h1), if_pos h1]
    by_cases h2 : 0 < v
    · rw [if_neg (Int32.not_le.mpr h2), if_pos h2]
    · rw [if_pos (Int32.not_lt.mp h2), if_neg h2]
  · rw [if_pos (Int32.not_lt.mp h1), if_neg h1]
    by_cases h2 : 0 < v
    · rw [if_neg (Int32.not_le.mpr h2), if_pos h2]
    · rw [if_pos (Int32.not_lt.mp h2), if_neg h2]
theorem e_costOf {Y : mMem} {r nk : Nat} (hnk : nk ≤ 4) (h0 : Y 0 3 = nI nk) : fM_costOf Y r = some (eS (Y r) (Y 3) nk) := by
  have key : ∀ d k e, k + d = nk → fM_costOf_L4 r Y (d + 1 + e) (eS (Y r) (Y 3) k) (nI k) = some (eS (Y r) (Y 3) nk) := by
    intro d
    induction d with
    | zero =>
      intro k e hk
      have hk : k = nk := by omega
      subst hk
      rw [show 0 + 1 + e = e + 1 by omega, fM_costOf_L4, h0, if_pos (nI_le (Nat.le_refl _) (by omega))]
    | succ d ih =>
      intro k e hk
      have ih' := ih (k + 1) e (by omega)
      rw [eS] at ih'
      rw [show d + 1 + 1 + e = (d + 1 + e) + 1 by omega, fM_costOf_L4, h0, if_neg (nI_ge (by omega) (by omega)), m_g_t (inb_nI (by omega) (by omega)), m_l_eq, m_l_eq, nI_1, nI_clamp (show k < 2 ^ 31 by omega)]
      exact ih'
  have h := key nk 0 (127 - nk) (by omega)
  rw [show nk + 1 + (127 - nk) = 128 by omega] at h
  exact h
/-- what the reference's search doesn't touch -/
def smM (Y Y' : mMem) : Prop := (∀ q, q ≠ 0 → q ≠ 14 → q ≠ 15 → q ≠ 16 → Y' q = Y q) ∧ ∀ f, f < 22 ∨ 26 < f → Y' 0 f = Y 0 f
theorem smM_rf (Y : mMem) : smM Y Y := ⟨fun _ _ _ _ _ => rfl, fun _ _ => rfl⟩
theorem smM_tr {Y Y' Y'' : mMem} (h1 : smM Y Y') (h2 : smM Y' Y'') : smM Y Y'' := ⟨fun q a b c d => (h2.1 q a b c d).trans (h1.1 q a b c d), fun f h => (h2.2 f h).trans (h1.2 f h)⟩
theorem smM_mu {Y : mMem} {k j : Nat} {v : Int32} (h : (k = 0 ∧ 22 ≤ j ∧ j ≤ 26) ∨ k = 14 ∨ k = 15 ∨ k = 16) : smM Y (mu Y k j v) := by
  refine ⟨fun q a b c d => mu_ne Y _ _ (by omega), fun f hf => ?_⟩
  rw [mu_app, if_neg (by omega)]
/-- the reference's results, in a mode -/
def hM (md : Int32) (Y : mMem) (R : Rs) : Prop := Y 0 25 = R.1 ∧ Y 0 26 = R.2.1 ∧ (∀ s, s < 6 → Y 16 s = R.2.2.1 s) ∧ (∀ s, R.2.2.1 s = 0 ∨ R.2.2.1 s = 1) ∧
  (md = 0 → Y 0 22 = R.2.2.2.1.1 ∧ (¬ R.2.2.2.1.1 = 0 → Y 0 24 = R.2.2.2.1.2.1 ∧ ∀ j, j < 4 → Y 15 j = wI R.2.2.2.1.2.2 j)) ∧
  (¬ md = 0 → Y 0 22 = R.2.2.2.2.1 ∧ (¬ R.2.2.2.2.1 = 0 → Y 0 24 = R.2.2.2.2.2.1 ∧ Y 0 23 = R.2.2.2.2.2.2.1 ∧ ∀ j, j < 4 → Y 15 j = wI R.2.2.2.2.2.2.2 j))
end SRM
section SRN
def g15 (M : mMem) : mMem := fun q => if q = 15 then upd (upd (upd (upd (M 15) 0 (M 14 0)) 1 (M 14 1)) 2 (M 14 2)) 3 (M 14 3) else M q
theorem e_15 (M : mMem) : fM_look_L223 128 M 0 = some (g15 M) := by
  have e : fM_look_L223 128 M 0 = some (mu (mu (mu (mu M 15 0 (M 14 0)) 15 1 ((mu M 15 0 (M 14 0)) 14 1)) 15 2 ((mu (mu M 15 0 (M 14 0)) 15 1 ((mu M 15 0 (M 14 0)) 14 1)) 14 2)) 15 3 ((mu (mu (mu M 15 0 (M 14 0)) 15 1 ((mu M 15 0 (M 14 0)) 14 1)) 15 2 ((mu (mu M 15 0 (M 14 0)) 15 1 ((mu M 15 0 (M 14 0)) 14 1)) 14 2)) 14 3)) := rfl
  have h : (14 : Nat) ≠ 15 := by decide
  rw [e]
  congr 1
  funext q
  unfold g15
  by_cases hq : q = 15
  · subst hq
    rw [if_pos rfl, mu_self, mu_self, mu_self, mu_self, mu_ne _ _ _ h, mu_ne _ _ _ h, mu_ne _ _ _ h, mu_ne _ _ _ h, mu_ne _ _ _ h, mu_ne _ _ _ h]
  · rw [if_neg hq, mu_ne _ _ _ hq, mu_ne _ _ _ hq, mu_ne _ _ _ hq, mu_ne _ _ _ hq]
theorem g15_at (M : mMem) {j : Nat} (h : j < 4) : g15 M 15 j = M 14 j := by
  have : j = 0 ∨ j = 1 ∨ j = 2 ∨ j = 3 := by omega
  rcases this with rfl | rfl | rfl | rfl <;> simp [g15, upd]
theorem g15_ne (M : mMem) {q : Nat} (h : q ≠ 15) : g15 M q = M q := by unfold g15; rw [if_neg h]
theorem smM_15 (M : mMem) : smM M (g15 M) := ⟨fun q _ _ h _ => g15_ne M h, fun f _ => by rw [g15_ne M (by decide)]⟩
/-- found anew -/
def gB (M : mMem) (m c : Int32) : mMem := g15 (mu (mu (mu M 0 22 1) 0 23 m) 0 24 c)
theorem e_198 (M : mMem) (m c : Int32) : fM_look_B198 M m c 1 = some (gB M m c) := by
  unfold fM_look_B198
  rw [if_neg (by decide), m_l_eq, m_l_eq, m_l_eq]
  exact e_15 _
theorem e_198' (M : mMem) (m c : Int32) : fM_look_B198 M m c 0 = some M := by
  unfold fM_look_B198
  rw [if_pos rfl]
theorem gB_row (M : mMem) (m c : Int32) {q : Nat} (h0 : q ≠ 0) (h : q ≠ 15) : gB M m c q = M q := by
  unfold gB
  rw [g15_ne _ h, mu_ne _ _ _ h0, mu_ne _ _ _ h0, mu_ne _ _ _ h0]
theorem gB_0 (M : mMem) (m c : Int32) (f : Nat) : gB M m c 0 f = if f = 24 then c else if f = 23 then m else if f = 22 then 1 else M 0 f := by
  unfold gB
  rw [g15_ne _ (by decide), mu_app, mu_app, mu_app]
  by_cases h1 : f = 24 <;> by_cases h2 : f = 23 <;> by_cases h3 : f = 22 <;> simp [h1, h2, h3]
theorem gB_15 (M : mMem) (m c : Int32) {j : Nat} (h : j < 4) : gB M m c 15 j = M 14 j := by
  unfold gB
  rw [g15_at _ h, mu_ne _ _ _ (by decide), mu_ne _ _ _ (by decide), mu_ne _ _ _ (by decide)]
theorem smM_B (M : mMem) (m c : Int32) : smM M (gB M m c) := ⟨fun q a _ h _ => gB_row M m c a h, fun f h => by rw [gB_0, if_neg (by omega), if_neg (by omega), if_neg (by omega)]⟩
def gKM (Y : mMem) (s : Nat) (f : Nat → Int32) : mMem := fun q => if q = 16 then kpt s f (Y 16) else Y q
theorem gKM_ne (Y : mMem) (s : Nat) (f : Nat → Int32) {q : Nat} (h : q ≠ 16) : gKM Y s f q = Y q := by unfold gKM; rw [if_neg h]
theorem gKM_eq (Y : mMem) (s : Nat) (f : Nat → Int32) : gKM Y s f 16 = kpt s f (Y 16) := by unfold gKM; rw [if_pos rfl]
theorem gKM_0 (Y : mMem) (f : Nat → Int32) : gKM Y 0 f = Y := by
  funext q
  unfold gKM
  by_cases h : q = 16
  · rw [if_pos h, kpt_0, h]
  · rw [if_neg h]
/-- one sieve more: v is what the reference writes -/
theorem gKM_1 {Y : mMem} {s : Nat} {f : Nat → Int32} {v : Int32} (h : v = if f s = 0 then 1 else Y 16 s) : mu (gKM Y s f) 16 s v = gKM Y (s + 1) f := by
  funext q
  by_cases e : q = 16
  · subst e
    rw [mu_self, gKM_eq, gKM_eq, h]
    by_cases z : f s = 0
    · rw [if_pos z, kpt_s1 z]
    · rw [if_neg z, kpt_s0 z]
      funext t
      unfold upd
      by_cases et : t = s
      · subst et
        rw [if_pos rfl]
        unfold kpt
        rw [if_neg (fun q => absurd q.1 (Nat.lt_irrefl _))]
      · rw [if_neg et]
  · rw [mu_ne _ _ _ e, gKM_ne _ _ _ e, gKM_ne _ _ _ e]
def ndM (Y : mMem) (x2 x3 : Int32) (s : Nat) : Int32 := 100 * (if nI s = x2 then x3 else Y 1 s)
def alM (Y : mMem) (x2 x4 : Int32) (s : Nat) : Int32 := 100 * (if nI s = x2 then x4 else Y 2 s)
def msM (Y : mMem) (x2 x3 x4 : Int32) (nk s : Nat) : Int32 := mx0 (ndM Y x2 x3 s - eS (Y 14) (fun k => ptM Y 1 k s) nk) + mx0 (eS (Y 14) (fun k => ptM Y 2 k s) nk - alM Y x2 x4 s)
theorem e_lookL {Y : mMem} {ns nk : Nat} {x1 x2 x3 x4 : Int32} (hns : ns ≤ 6) (hnk : nk ≤ 4) (h0 : Y 0 0 = nI ns) (h3 : Y 0 3 = nI nk) (hk : ∀ s, s < 6 → Y 16 s = 0 ∨ Y 16 s = 1) : fM_look Y x1 x2 x3 x4 = fM_look_B102 x1 (gKM Y ns (msM Y x2 x3 x4 nk)) (msT (msM Y x2 x3 x4 nk) ns) := by
  have key : ∀ d s e, s + d = ns → fM_look_L6 x1 x2 x3 x4 (d + 1 + e) (gKM Y s (msM Y x2 x3 x4 nk)) (msT (msM Y x2 x3 x4 nk) s) (nI s) = fM_look_B102 x1 (gKM Y ns (msM Y x2 x3 x4 nk)) (msT (msM Y x2 x3 x4 nk) ns) := by
    intro d
    induction d with
    | zero =>
      intro s e hs
      have hs : s = ns := by omega
      subst hs
      rw [show 0 + 1 + e = e + 1 by omega, fM_look_L6, gKM_ne _ _ _ (by decide), h0, if_pos (nI_le (Nat.le_refl _) (by omega))]
    | succ d ih =>
      intro s e hs
      have ih' := ih (s + 1) e (by omega)
      rw [msT] at ih'
      have tail : ∀ lo hi, lo = (if nI s = x2 then x3 else Y 1 s) → hi = (if nI s = x2 then x4 else Y 2 s) → fM_look_B57 (fM_look_L6 x1 x2 x3 x4 (d + 1 + e)) (gKM Y s (msM Y x2 x3 x4 nk)) (msT (msM Y x2 x3 x4 nk) s) (nI s) (nI s) lo hi = fM_look_B102 x1 (gKM Y ns (msM Y x2 x3 x4 nk)) (msT (msM Y x2 x3 x4 nk) ns) := by
        intro lo hi hlo hhi
        unfold fM_look_B57
        have hm : fM_missOf (gKM Y s (msM Y x2 x3 x4 nk)) 14 (nI s) lo hi = some (msM Y x2 x3 x4 nk s) := by
          rw [e_missOf (by omega) hnk (by rw [gKM_ne _ _ _ (by decide)]; exact h3)]
          unfold ptM
          rw [gKM_ne _ _ _ (show (14 : Nat) ≠ 16 by decide), gKM_ne _ _ _ (show (8 : Nat) ≠ 16 by decide), gKM_ne _ _ _ (show (9 : Nat) ≠ 16 by decide), hlo, hhi]
          rfl
        rw [hm, m_b1_some, m_g_t (inb_nI (by omega) (by omega)), nI_clamp (show s < 2 ^ 31 by omega), gKM_eq]
        have hkp : kpt s (msM Y x2 x3 x4 nk) (Y 16) s = Y 16 s := by
          unfold kpt
          rw [if_neg (fun q => absurd q.1 (Nat.lt_irrefl _))]
        rw [hkp]
        by_cases c1 : Y 16 s = 0
        · rw [if_pos c1]
          by_cases c2 : msM Y x2 x3 x4 nk s = 0
          · rw [if_pos c2, m_l_eq, m_l_eq, m_l_eq, nI_1, gKM_1 (by rw [if_pos c2])]
            exact ih'
          · rw [if_neg c2, m_l_eq, m_l_eq, m_l_eq, nI_1, gKM_1 (by rw [if_neg c2, c1])]
            exact ih'
        · have c1' : Y 16 s = 1 := (hk s (by omega)).resolve_left c1
          rw [if_neg c1, m_l_eq, m_l_eq, m_l_eq, nI_1, gKM_1 (by rw [c1']; by_cases c2 : msM Y x2 x3 x4 nk s = 0 <;> simp [c2])]
          exact ih'
      rw [show d + 1 + 1 + e = (d + 1 + e) + 1 by omega, fM_look_L6, gKM_ne _ _ _ (show (0 : Nat) ≠ 16 by decide), h0, if_neg (nI_ge (by omega) (by omega))]
      unfold fM_look_B39
      by_cases c : nI s = x2
      · rw [if_pos c, if_pos c]
        exact tail _ _ (by rw [if_pos c]) (by rw [if_pos c])
      · rw [if_neg c, if_neg c, m_g_t (inb_nI (by omega) (by omega)), m_g_t (inb_nI (by omega) (by omega)), nI_clamp (show s < 2 ^ 31 by omega), gKM_ne _ _ _ (show (1 : Nat) ≠ 16 by decide), gKM_ne _ _ _ (show (2 : Nat) ≠ 16 by decide)]
        exact tail _ _ (by rw [if_neg c]) (by rw [if_neg c])
  have h := key ns 0 (127 - ns) (by omega)
  rw [gKM_0, show ns + 1 + (127 - ns) = 128 by omega] at h
  exact h
end SRN
