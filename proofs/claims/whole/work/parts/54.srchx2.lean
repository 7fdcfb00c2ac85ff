section SRY
def gR (f g : Nat → Int32) (s : Nat) : Nat → Int32 := fun t => if t < s then f t else g t
theorem gR_0 (f g : Nat → Int32) : gR f g 0 = g := by
  funext t
  unfold gR
  rw [if_neg (Nat.not_lt_zero _)]
theorem gR_1 (f g : Nat → Int32) (s : Nat) : upd (gR f g s) s (f s) = gR f g (s + 1) := by
  funext t
  unfold gR upd
  by_cases e : t = s
  · subst e
    rw [if_pos rfl, if_pos (Nat.lt_succ_self _)]
  · rw [if_neg e]
    show (if t < s then f t else g t) = _
    by_cases h : t < s
    · rw [if_pos h, if_pos (by omega)]
    · rw [if_neg h, if_neg (by omega)]
def gP (X : mMem) (b i : Nat) (x : Int32) (s : Nat) : mMem := fun q => if q = b + 3 then upd (X (b + 3)) i x else if q = b + 4 + 1 + (i + 1) then gR (fun t => X (b + 4 + 1 + i) t + x * X (14 + 1 + i) t) (X (b + 4 + 1 + (i + 1))) s else if q = b + 9 + 1 + (i + 1) then gR (fun t => X (b + 9 + 1 + i) t + x * X (19 + 1 + i) t) (X (b + 9 + 1 + (i + 1))) s else X q
theorem gP_ne (X : mMem) {b i : Nat} (x : Int32) (s : Nat) {q : Nat} (h1 : q ≠ b + 3) (h2 : q ≠ b + 4 + 1 + (i + 1)) (h3 : q ≠ b + 9 + 1 + (i + 1)) : gP X b i x s q = X q := by unfold gP; rw [if_neg h1, if_neg h2, if_neg h3]
theorem gP_a (X : mMem) (b i : Nat) (x : Int32) (s : Nat) : gP X b i x s (b + 3) = upd (X (b + 3)) i x := by unfold gP; rw [if_pos rfl]
theorem gP_b (X : mMem) (b i : Nat) (x : Int32) (s : Nat) : gP X b i x s (b + 4 + 1 + (i + 1)) = gR (fun t => X (b + 4 + 1 + i) t + x * X (14 + 1 + i) t) (X (b + 4 + 1 + (i + 1))) s := by unfold gP; rw [if_neg (by omega), if_pos rfl]
theorem gP_c (X : mMem) (b i : Nat) (x : Int32) (s : Nat) (hi : i + 1 < 4) : gP X b i x s (b + 9 + 1 + (i + 1)) = gR (fun t => X (b + 9 + 1 + i) t + x * X (19 + 1 + i) t) (X (b + 9 + 1 + (i + 1))) s := by unfold gP; rw [if_neg (by omega), if_neg (by omega), if_pos rfl]
theorem gP_1 {X : mMem} {b i : Nat} {x : Int32} {s : Nat} (hi : i + 1 < 4) : mu (mu (gP X b i x s) (b + 4 + 1 + (i + 1)) s (X (b + 4 + 1 + i) s + x * X (14 + 1 + i) s)) (b + 9 + 1 + (i + 1)) s (X (b + 9 + 1 + i) s + x * X (19 + 1 + i) s) = gP X b i x (s + 1) := by
  funext q
  by_cases e1 : q = b + 4 + 1 + (i + 1)
  · subst e1
    rw [mu_ne _ _ _ (by omega), mu_self, gP_b, gP_b, ← gR_1]
  · by_cases e2 : q = b + 9 + 1 + (i + 1)
    · subst e2
      rw [mu_self, mu_ne _ _ _ (by omega), gP_c _ _ _ _ _ hi, gP_c _ _ _ _ _ hi, ← gR_1]
    · rw [mu_ne _ _ _ e2, mu_ne _ _ _ e1]
      by_cases e3 : q = b + 3
      · subst e3
        rw [gP_a, gP_a]
      · rw [gP_ne _ _ _ e3 e1 e2, gP_ne _ _ _ e3 e1 e2]
theorem e_putShare {X : mMem} {b i ns : Nat} {x : Int32} (hb : 24 ≤ b) (hi : i + 1 < 4) (hns : ns ≤ 6) (h0 : X 1 0 = nI ns) : fS_putShare X b (nI i) x = some (gP X b i x ns) := by
  have key : ∀ d s e, s + d = ns → fS_putShare_L9 b (nI i) x (d + 1 + e) (gP X b i x s) (nI s) = some (gP X b i x ns) := by
    intro d
    induction d with
    | zero =>
      intro s e hs
      have hs : s = ns := by omega
      subst hs
      rw [show 0 + 1 + e = e + 1 by omega, fS_putShare_L9, gP_ne _ _ _ (by omega) (by omega) (by omega), h0, if_pos (nI_le (Nat.le_refl _) (by omega))]
    | succ d ih =>
      intro s e hs
      rw [show d + 1 + 1 + e = (d + 1 + e) + 1 by omega, fS_putShare_L9, gP_ne _ _ _ (by omega) (by omega) (by omega), h0, if_neg (nI_ge (by omega) (by omega)), nI_1, m_g_t (inb_nI hi (by omega)), m_g_t (inb_nI (by omega) (by omega)), m_g_t (inb_nI (by omega) (by omega))]
      simp only [m_l, nI_clamp (show s < 2 ^ 31 by omega), nI_clamp (show i < 2 ^ 31 by omega), nI_clamp (show i + 1 < 2 ^ 31 by omega)]
      rw [mu_ne _ _ _ (show b + 9 + 1 + i ≠ b + 4 + 1 + (i + 1) by omega), mu_ne _ _ _ (show 19 + 1 + i ≠ b + 4 + 1 + (i + 1) by omega), gP_ne _ _ _ (show b + 4 + 1 + i ≠ b + 3 by omega) (by omega) (by omega), gP_ne _ _ _ (show 14 + 1 + i ≠ b + 3 by omega) (by omega) (by omega), gP_ne _ _ _ (show b + 9 + 1 + i ≠ b + 3 by omega) (by omega) (by omega), gP_ne _ _ _ (show 19 + 1 + i ≠ b + 3 by omega) (by omega) (by omega), gP_1 hi, nI_1]
      exact ih (s + 1) e (by omega)
  unfold fS_putShare
  rw [m_g_t (inb_nI (by omega) (by omega)), m_l_eq, nI_clamp (show i < 2 ^ 31 by omega)]
  have h := key ns 0 (127 - ns) (by omega)
  rw [show ns + 1 + (127 - ns) = 128 by omega] at h
  have e0 : gP X b i x 0 = mu X (b + 3) i x := by
    funext q
    by_cases e3 : q = b + 3
    · subst e3
      rw [gP_a, mu_self]
    · rw [mu_ne _ _ _ e3]
      unfold gP
      rw [if_neg e3]
      by_cases e1 : q = b + 4 + 1 + (i + 1)
      · rw [if_pos e1, gR_0, e1]
      · rw [if_neg e1]
        by_cases e2 : q = b + 9 + 1 + (i + 1)
        · rw [if_pos e2, gR_0, e2]
        · rw [if_neg e2]
  rw [e0] at h
  exact h
/-! from stock i on -/
def lwX (X : mMem) : Nat → Nat → Int32 := fun t u => X (14 + 1 + t) u
def upX (X : mMem) : Nat → Nat → Int32 := fun t u => X (19 + 1 + t) u
def cs4 (p : Nat → Int32) (w : Q4) : Nat → Int32
  | 0 => 0
  | i + 1 => cs4 p w i + wI w i * p i
def fvX (X : mMem) (b ns nk : Nat) (R : Rs) (w : Q4) : Rs := vis ns (msA nk (lwX X) (upX X) (X (b + 1)) (X (b + 2)) w) (cs4 (X 4) w nk) w R
def eX (b : Nat) (X : mMem) (ns nk st k : Nat) (lo hi : Nat → Nat) (od : Nat → Bool) : Prop :=
  24 ≤ b ∧ ns ≤ 6 ∧ nk ≤ 4 ∧ st * k = 100 ∧ X 1 0 = nI ns ∧ X 1 1 = nI nk ∧ X 1 3 = nI st ∧ ∀ i, i < 4 → X 5 i = nI (lo i) ∧ X 6 i = nI (hi i) ∧ lo i ≤ 100 ∧ hi i ≤ 100 ∧ (X 7 i = 0 ↔ od i = false)
theorem eX_sm {b : Nat} {X X' : mMem} {ns nk st k : Nat} {lo hi : Nat → Nat} {od : Nat → Bool} (h : eX b X ns nk st k lo hi od) (g : sm b X X') : eX b X' ns nk st k lo hi od := by
  have hb := h.1
  unfold eX at h ⊢
  rw [g 1 (by omega), g 5 (by omega), g 6 (by omega), g 7 (by omega)]
  exact h
def pre (b ns i : Nat) (X0 X : mMem) (w : Q4) : Prop := (∀ j, j < i → X (b + 3) j = wI w j) ∧ ∀ j, j ≤ i → j < 4 → ∀ s, s < ns → X (b + 4 + 1 + j) s = lsm (lwX X0) w s j ∧ X (b + 9 + 1 + j) s = lsm (upX X0) w s j
theorem q4_same (w : Q4) {i j : Nat} (x : Nat) (hi : i < 4) (h : i = j) : q4g (q4s w i x) j = x := by
  subst h
  have : i = 0 ∨ i = 1 ∨ i = 2 ∨ i = 3 := by omega
  rcases this with rfl | rfl | rfl | rfl <;> rfl
theorem q4_other (w : Q4) {i j : Nat} (x : Nat) (hi : i < 4) (hj : j < 4) (h : i ≠ j) : q4g (q4s w i x) j = q4g w j := by
  have h1 : i = 0 ∨ i = 1 ∨ i = 2 ∨ i = 3 := by omega
  have h2 : j = 0 ∨ j = 1 ∨ j = 2 ∨ j = 3 := by omega
  rcases h1 with rfl | rfl | rfl | rfl <;> rcases h2 with rfl | rfl | rfl | rfl <;> first | rfl | exact absurd rfl h
theorem wI_same (w : Q4) {i : Nat} (x : Nat) (hi : i < 4) : wI (q4s w i x) i = nI x := by unfold wI; rw [q4_same w x hi rfl]
theorem wI_other (w : Q4) {i j : Nat} (x : Nat) (hi : i < 4) (hj : j < 4) (h : i ≠ j) : wI (q4s w i x) j = wI w j := by unfold wI; rw [q4_other w x hi hj h]
theorem lsm_set (f : Nat → Nat → Int32) (w : Q4) (s : Nat) {i : Nat} (x : Nat) (hi : i < 4) : ∀ j, j ≤ i → lsm f (q4s w i x) s j = lsm f w s j
  | 0, _ => rfl
  | j + 1, h => by
    rw [lsm, lsm, lsm_set f w s x hi j (by omega), wI_other w x hi (by omega) (by omega)]
theorem cs4_set (p : Nat → Int32) (w : Q4) {i : Nat} (x : Nat) (hi : i < 4) : ∀ j, j ≤ i → cs4 p (q4s w i x) j = cs4 p w j
  | 0, _ => rfl
  | j + 1, h => by
    rw [cs4, cs4, cs4_set p w x hi j (by omega), wI_other w x hi (by omega) (by omega)]
theorem vis_eq {ns : Nat} {f g : Nat → Int32} {c : Int32} {w : Q4} {R : Rs} (h : ∀ s, s < ns → f s = g s) : vis ns f c w R = vis ns g c w R := by
  have h1 : ∀ n, n ≤ ns → msT f n = msT g n := by
    intro n
    induction n with
    | zero => intro _; rfl
    | succ n ih => intro hn; rw [msT, msT, ih (by omega), h n (by omega)]
  have h2 : kpt ns f R.2.2.1 = kpt ns g R.2.2.1 := by
    funext s
    unfold kpt
    by_cases hs : s < ns
    · rw [h s hs]
    · rw [if_neg (fun q => hs q.1), if_neg (fun q => hs q.1)]
  unfold vis
  rw [h1 ns (Nat.le_refl _), h2]
/-- what a search from stock i on comes to -/
def goes (b ns nk i : Nat) (X0 X : mMem) (w : Q4) (R : Rs) (o : Option mMem) : Prop := ∃ X', o = some X' ∧ sm b X0 X' ∧ hX b nk X' R ∧ pre b ns i X0 X' w
theorem cf_leaf {b ns nk st k : Nat} {lo hi : Nat → Nat} {od : Nat → Bool} {X0 X : mMem} {w : Q4} {R : Rs} {i left : Nat} (hE : eX b X0 ns nk st k lo hi od) (hs : sm b X0 X) (hR : hX b nk X R) (hp : pre b ns i X0 X w) (hi4 : i + 1 = nk) :
    goes b ns nk i X0 X w (fvX X0 b ns nk R (q4s w i left)) (m_l (mu X (b + 3) i (nI left)) fun M_8 => m_b2 (fS_missOfAll M_8 b (nI i) (nI left)) fun r_9 M_10 => m_b1 (fS_lookAt M_10 b (cs4 (X0 4) w i + (nI left * (M_8 4 i))) r_9) fun M_11 => some M_11) := by
  have hE' := eX_sm hE hs
  obtain ⟨hb, hns, hnk, hst, e0, e1, e2, e3⟩ := hE'
  have hi : i < 4 := by omega
  rw [m_l_eq]
  generalize hY : mu X (b + 3) i (nI left) = Y
  have fY : ∀ q, q ≠ b + 3 → Y q = X q := fun q h => by rw [← hY]; exact mu_ne X _ _ h
  have aY : ∀ j, Y (b + 3) j = if j = i then nI left else X (b + 3) j := fun j => by rw [← hY, mu_self]; rfl
  rw [e_miss hb hi hns (by rw [fY 1 (by omega)]; exact e0), m_b2_some]
  have hw : ∀ j, j < nk → gK Y b ns (mfX Y b i (nI left)) (b + 3) j = wI (q4s w i left) j := by
    intro j hj
    rw [gK_ne _ _ _ _ (by omega), aY j]
    by_cases e : j = i
    · subst e
      rw [if_pos rfl, wI_same w left hi]
    · rw [if_neg e, wI_other w left hi (by omega) (fun q => e q.symm)]
      exact hp.1 j (by omega)
  obtain ⟨h1, h2, h3, h4, h5⟩ := hR
  have hRk : hX b nk (gK Y b ns (mfX Y b i (nI left))) (R.1, R.2.1, kpt ns (mfX Y b i (nI left)) R.2.2.1, R.2.2.2.1, R.2.2.2.2) := by
    refine ⟨?_, ?_, ?_, ?_, ?_⟩
    · rw [gK_ne _ _ _ _ (by omega), fY _ (by omega)]; exact h1
    · rw [gK_ne _ _ _ _ (by omega), fY _ (by omega)]; exact h2
    · intro s hs6
      rw [gK_eq, fY _ (by omega)]
      unfold kpt
      rw [h3 s hs6]
    · rw [gK_ne _ _ _ _ (by omega), gK_ne _ _ _ _ (by omega), fY _ (by omega), fY _ (by omega)]; exact h4
    · rw [gK_ne _ _ _ _ (by omega), gK_ne _ _ _ _ (by omega), fY _ (by omega), fY _ (by omega)]; exact h5
  have ec : cs4 (X0 4) w i + nI left * Y 4 i = cs4 (X0 4) (q4s w i left) nk := by
    rw [fY 4 (by omega), hs 4 (by omega), ← hi4, cs4, cs4_set _ w left hi i (Nat.le_refl _), wI_same w left hi]
  rw [ec]
  obtain ⟨X', r1, r2, r3⟩ := e_look (c := cs4 (X0 4) (q4s w i left) nk) (m := msT (mfX Y b i (nI left)) ns) (w := q4s w i left) hnk hw hRk
  rw [r1, m_b1_some]
  have fX : ∀ q, q ≠ b → q ≠ b + 3 → q ≠ b + 14 → q < b + 15 ∨ b + 19 ≤ q → X' q = X q := fun q g1 g2 g3 g4 => by rw [r2 q g1 g4, gK_ne _ _ _ _ g3, fY q g2]
  refine ⟨X', rfl, sm_tr hs (fun q g => fX q (by omega) (by omega) (by omega) (by omega)), ?_, ?_, ?_⟩
  · have e : fvX X0 b ns nk R (q4s w i left) = vis ns (mfX Y b i (nI left)) (cs4 (X0 4) (q4s w i left) nk) (q4s w i left) R := by
      unfold fvX
      refine vis_eq fun s hs6 => ?_
      unfold msA mfX
      have g1 := hp.2 i (Nat.le_refl _) hi s hs6
      rw [fY (b + 1) (by omega), fY (b + 2) (by omega), fY (b + 4 + 1 + i) (by omega), fY (b + 9 + 1 + i) (by omega), fY (14 + 1 + i) (by omega), fY (19 + 1 + i) (by omega), hs (b + 1) (by omega), hs (b + 2) (by omega), hs (14 + 1 + i) (by omega), hs (19 + 1 + i) (by omega), g1.1, g1.2, ← hi4, lsm, lsm, lsm_set _ w s left hi i (Nat.le_refl _), lsm_set _ w s left hi i (Nat.le_refl _), wI_same w left hi, Int32.sub_sub]
      rfl
    rw [e]
    exact r3
  · intro j hj
    rw [r2 (b + 3) (by omega) (by omega), gK_ne _ _ _ _ (by omega), aY j, if_neg (by omega)]
    exact hp.1 j hj
  · intro j hj hj4 s hs6
    rw [fX (b + 4 + 1 + j) (by omega) (by omega) (by omega) (by omega), fX (b + 9 + 1 + j) (by omega) (by omega) (by omega) (by omega)]
    exact hp.2 j hj hj4 s hs6
end SRY
