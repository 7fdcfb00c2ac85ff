/-! the class's bands, and its whole search -/
section SRW
def gU (X : mMem) (b s : Nat) : mMem := fun q => if q = b + 1 then gR (fun t => 100 * X 2 t) (X (b + 1)) s else if q = b + 2 then gR (fun t => 100 * X 3 t) (X (b + 2)) s else X q
theorem gU_ne (X : mMem) {b : Nat} (s : Nat) {q : Nat} (h1 : q ≠ b + 1) (h2 : q ≠ b + 2) : gU X b s q = X q := by unfold gU; rw [if_neg h1, if_neg h2]
theorem gU_a (X : mMem) (b s : Nat) : gU X b s (b + 1) = gR (fun t => 100 * X 2 t) (X (b + 1)) s := by unfold gU; rw [if_pos rfl]
theorem gU_b (X : mMem) (b s : Nat) : gU X b s (b + 2) = gR (fun t => 100 * X 3 t) (X (b + 2)) s := by unfold gU; rw [if_neg (by omega), if_pos rfl]
theorem gU_0 (X : mMem) (b : Nat) : gU X b 0 = X := by
  funext q
  unfold gU
  by_cases h1 : q = b + 1
  · rw [if_pos h1, gR_0, h1]
  · rw [if_neg h1]
    by_cases h2 : q = b + 2
    · rw [if_pos h2, gR_0, h2]
    · rw [if_neg h2]
theorem gU_1 {X : mMem} {b s : Nat} : mu (mu (gU X b s) (b + 1) s (100 * X 2 s)) (b + 2) s (100 * X 3 s) = gU X b (s + 1) := by
  funext q
  by_cases e1 : q = b + 1
  · subst e1
    rw [mu_ne _ _ _ (by omega), mu_self, gU_a, gU_a, ← gR_1]
  · by_cases e2 : q = b + 2
    · subst e2
      rw [mu_self, mu_ne _ _ _ (by omega), gU_b, gU_b, ← gR_1]
    · rw [mu_ne _ _ _ e2, mu_ne _ _ _ e1, gU_ne _ _ e1 e2, gU_ne _ _ e1 e2]
theorem e_useBands {X : mMem} {b ns : Nat} (hb : 24 ≤ b) (hns : ns ≤ 6) (h0 : X 1 0 = nI ns) : fS_useBands X b = some (gU X b ns) := by
  have key : ∀ d s e, s + d = ns → fS_useBands_L2 b (d + 1 + e) (gU X b s) (nI s) = some (gU X b ns) := by
    intro d
    induction d with
    | zero =>
      intro s e hs
      have hs : s = ns := by omega
      subst hs
      rw [show 0 + 1 + e = e + 1 by omega, fS_useBands_L2, gU_ne _ _ (by omega) (by omega), h0, if_pos (nI_le (Nat.le_refl _) (by omega))]
    | succ d ih =>
      intro s e hs
      rw [show d + 1 + 1 + e = (d + 1 + e) + 1 by omega, fS_useBands_L2, gU_ne _ _ (by omega) (by omega), h0, if_neg (nI_ge (by omega) (by omega)), m_g_t (inb_nI (by omega) (by omega))]
      simp only [m_l, nI_clamp (show s < 2 ^ 31 by omega)]
      rw [mu_ne _ _ _ (show 3 ≠ b + 1 by omega), gU_ne _ _ (show 2 ≠ b + 1 by omega) (by omega), gU_ne _ _ (show 3 ≠ b + 1 by omega) (by omega), gU_1, nI_1]
      exact ih (s + 1) e (by omega)
  have h := key ns 0 (127 - ns) (by omega)
  rw [gU_0, show ns + 1 + (127 - ns) = 128 by omega] at h
  exact h
variable {b ns nk st k cap : Nat} {lo hi : Nat → Nat} {od : Nat → Bool}
def eL (nk st k cap : Nat) (lo hi : Nat → Nat) (od : Nat → Bool) : List Q4 := if nk = 0 then [] else eC lo hi od (stp st k) (nk - 1) 0 100 cap (0, 0, 0, 0)
theorem eL_eM (h : st * k = 100) (hnk : nk ≤ 4) : eL nk st k cap lo hi od = eM nk lo hi od cap (stp st k) := by
  have hL := stp_ok h
  unfold eL
  have : nk = 0 ∨ nk = 1 ∨ nk = 2 ∨ nk = 3 ∨ nk = 4 := by omega
  rcases this with rfl | rfl | rfl | rfl | rfl
  · rw [if_pos rfl, eM_0]
  · exact e_1 hL
  · exact e_2 hL
  · exact e_3 hL
  · exact e_4 hL
def gZ9 (Y : mMem) (b s : Nat) : mMem := fun q => if q = b + 14 then gR (fun _ => 0) (Y (b + 14)) s else Y q
theorem gZ9_ne (Y : mMem) (b s : Nat) {q : Nat} (h : q ≠ b + 14) : gZ9 Y b s q = Y q := by unfold gZ9; rw [if_neg h]
theorem gZ9_eq (Y : mMem) (b s : Nat) : gZ9 Y b s (b + 14) = gR (fun _ => 0) (Y (b + 14)) s := by unfold gZ9; rw [if_pos rfl]
theorem gZ9_0 (Y : mMem) (b : Nat) : gZ9 Y b 0 = Y := by
  funext q
  by_cases h : q = b + 14
  · subst h
    rw [gZ9_eq, gR_0]
  · rw [gZ9_ne _ _ _ h]
theorem gZ9_1 (Y : mMem) (b s : Nat) : mu (gZ9 Y b s) (b + 14) s 0 = gZ9 Y b (s + 1) := by
  funext q
  by_cases h : q = b + 14
  · subst h
    rw [mu_self, gZ9_eq, gZ9_eq, ← gR_1]
  · rw [mu_ne _ _ _ h, gZ9_ne _ _ _ h, gZ9_ne _ _ _ h]
theorem e_28 (Y : mMem) (b : Nat) : fS_lookAtAll_L28 b 128 Y 0 = fS_lookAtAll_B47 b (gZ9 Y b 6) := by
  have key : ∀ d s e, s + d = 6 → fS_lookAtAll_L28 b (d + 1 + e) (gZ9 Y b s) (nI s) = fS_lookAtAll_B47 b (gZ9 Y b 6) := by
    intro d
    induction d with
    | zero =>
      intro s e hs
      have hs : s = 6 := by omega
      subst hs
      rw [show 0 + 1 + e = e + 1 by omega, fS_lookAtAll_L28, if_pos (show (6 : Int32) ≤ nI 6 from nI_le (a := 6) (Nat.le_refl _) (by omega))]
    | succ d ih =>
      intro s e hs
      rw [show d + 1 + 1 + e = (d + 1 + e) + 1 by omega, fS_lookAtAll_L28, if_neg (show ¬ (6 : Int32) ≤ nI s from nI_ge (b := 6) (by omega) (by omega)), m_g_t (inb_nI (by omega) (by omega)), nI_clamp (show s < 2 ^ 31 by omega), m_l_eq, m_l_eq, nI_1, gZ9_1]
      exact ih (s + 1) e (by omega)
  have h := key 6 0 121 (by omega)
  rw [gZ9_0] at h
  exact h
theorem e_lookAll {X : mMem} (hE : eX b X ns nk st k lo hi od) (hcap : X 1 2 = nI cap) (hc : cap ≤ 100) (z1 : ∀ s, X (b + 5) s = 0) (z2 : ∀ s, X (b + 10) s = 0) : ∃ X', fS_lookAtAll X b = some X' ∧ sm b X X' ∧ hX b nk X' ((eL nk st k cap lo hi od).foldl (fvX X b ns nk) R00) := by
  unfold fS_lookAtAll
  rw [m_l_eq, m_l_eq, m_l_eq, m_l_eq, e_28]
  generalize hV : mu (mu (mu (mu X b 9 0) b 10 0) (b + 15) 0 0) (b + 17) 0 0 = V
  have hb := hE.1
  have vq : ∀ q, q ≠ b → q ≠ b + 15 → q ≠ b + 17 → V q = X q := fun q a1 a3 a4 => by
    rw [← hV, mu_ne _ _ _ a4, mu_ne _ _ _ a3, mu_ne _ _ _ a1, mu_ne _ _ _ a1]
  have v9 : V b 9 = 0 := by rw [← hV, mu_ne _ _ _ (by omega), mu_ne _ _ _ (by omega), mu_app, mu_app, if_neg (by omega), if_pos ⟨rfl, rfl⟩]
  have v10 : V b 10 = 0 := by rw [← hV, mu_ne _ _ _ (by omega), mu_ne _ _ _ (by omega), mu_app, if_pos ⟨rfl, rfl⟩]
  have v15 : V (b + 15) 0 = 0 := by rw [← hV, mu_ne _ _ _ (by omega), mu_app, if_pos ⟨rfl, rfl⟩]
  have v17 : V (b + 17) 0 = 0 := by rw [← hV, mu_app, if_pos ⟨rfl, rfl⟩]
  generalize hZ : gZ9 V b 6 = Z
  have zq : ∀ q, q ≠ b + 14 → Z q = V q := fun q h => by rw [← hZ, gZ9_ne _ _ _ h]
  have zf : ∀ q, q ≠ b → q ≠ b + 14 → q ≠ b + 15 → q ≠ b + 17 → Z q = X q := fun q a1 a2 a3 a4 => by rw [zq q a2, vq q a1 a3 a4]
  have zs : sm b X Z := fun q g => zf q (by omega) (by omega) (by omega) (by omega)
  have zR : hX b nk Z R00 := by
    refine ⟨by rw [zq _ (by omega)]; exact v9, by rw [zq _ (by omega)]; exact v10, ?_, ⟨by rw [zq _ (by omega)]; exact v15, fun q => absurd rfl q⟩, ⟨by rw [zq _ (by omega)]; exact v17, fun q => absurd rfl q⟩⟩
    intro s hs
    rw [← hZ, gZ9_eq]
    unfold gR
    rw [if_pos hs]
    rfl
  unfold fS_lookAtAll_B47
  rw [zf 1 (by omega) (by omega) (by omega) (by omega), hcap]
  have hE' := eX_sm hE zs
  by_cases h0 : nk = 0
  · subst h0
    have e2 : fS_fillFrom 6 Z b 0 100 (nI cap) 0 = some Z := by
      rw [show (6 : Nat) = 5 + 1 from rfl, fS_fillFrom, if_neg (by decide), hE'.2.2.2.2.2.1, if_neg (show ¬ (0 : Int32) < nI 0 by decide)]
    rw [e2, m_b1_some]
    exact ⟨Z, rfl, zs, zR⟩
  · have hnk : nk ≤ 4 := hE.2.2.1
    have hp : pre b ns 0 X Z (0, 0, 0, 0) := by
      refine ⟨fun j hj => absurd hj (Nat.not_lt_zero _), fun j hj _ s _ => ?_⟩
      have : j = 0 := by omega
      subst this
      rw [show b + 4 + 1 + 0 = b + 5 by omega, show b + 9 + 1 + 0 = b + 10 by omega, zs (b + 5) (by omega), zs (b + 10) (by omega), z1, z2]
      exact ⟨rfl, rfl⟩
    obtain ⟨X', r1, r2, r3, -⟩ := cf hE (nk - 1) 0 100 cap (6 - nk) (0, 0, 0, 0) Z R00 (by omega) (by omega) hc zs zR hp
    rw [show nk - 1 + 1 + (6 - nk) = 6 by omega] at r1
    have r1' : fS_fillFrom 6 Z b 0 100 (nI cap) 0 = some X' := r1
    rw [r1', m_b1_some]
    refine ⟨X', rfl, r2, ?_⟩
    unfold eL
    rw [if_neg h0]
    exact r3
end SRW
