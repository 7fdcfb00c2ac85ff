/-! batch; fired; count -/
section BAT
theorem nI_div {a b : Nat} (ha : a < 2 ^ 31) (hb : b < 2 ^ 31) : nI a / nI b = nI (a / b) := (Int32.ofNat_div ha hb).symm
theorem lN_div {a b : Nat} (ha : a < 2 ^ 31) (hb : b < 2 ^ 31) : lN a / lN b = lN (a / b) := (Int64.ofNat_div (by omega) (by omega)).symm
/-- the reference counts in longs: the same number -/
theorem lng {a b d : Nat} (ha : a < 2 ^ 31) (hb : b < 2 ^ 31) (hab : a * b < 2 ^ 31) (hd : d < 2 ^ 31) : (((nI a).toInt64 * (nI b).toInt64) / lN d).toInt32 = nI (a * b / d) := by
  rw [nI_l ha, nI_l hb, lN_mul, lN_div hab hd, lN_i]
theorem smN_le {v : Nat → Nat} : ∀ {a b : Nat}, a ≤ b → smN a v ≤ smN b v
  | a, 0, h => by rw [show a = 0 by omega]; exact Nat.le_refl _
  | a, b + 1, h => by
    rcases Nat.lt_or_ge a (b + 1) with q | q
    · have := smN_le (v := v) (a := a) (b := b) (by omega)
      rw [smN]
      omega
    · rw [show a = b + 1 by omega]; exact Nat.le_refl _
/-- the rows that both sides fill, up to stock i -/
def bD (K : Nat) (v : Nat → Nat) (i : Nat) : Nat := K * smN (i + 1) v / 100 - K * smN i v / 100
def rowB (f : Nat → Nat) (g : Nat → Int32) (i : Nat) : Nat → Int32 := gR (fun j => nI (f j)) g i
def smB (K : Nat) (v w : Nat → Nat) : Nat → Nat
  | 0 => 0
  | i + 1 => smB K v w i + bD K v i * w i / 1000
theorem bD_le {K : Nat} {v : Nat → Nat} {i : Nat} (hK : K ≤ 1000000) (h : smN (i + 1) v ≤ 100) : bD K v i ≤ 1000000 := by
  unfold bD
  have h1 : K * smN (i + 1) v ≤ 1000000 * 100 := Nat.mul_le_mul hK h
  have h2 := Nat.div_le_div_right (c := 100) h1
  omega
def gX9 (X : mMem) (K : Nat) (v w : Nat → Nat) (i : Nat) : mMem := fun q => if q = 69 then rowB (bD K v) (X 69) i else if q = 70 then rowB (fun j => bD K v j + bD K v j * w j / 1000) (X 70) i else X q
def gY9 (Y : mMem) (K : Nat) (v w : Nat → Nat) (i : Nat) : mMem := fun q => if q = 17 then rowB (bD K v) (Y 17) i else if q = 18 then rowB (fun j => bD K v j + bD K v j * w j / 1000) (Y 18) i else Y q
theorem gX9_1 {X : mMem} {K : Nat} {v w : Nat → Nat} {i : Nat} : mu (mu (gX9 X K v w i) 69 i (nI (bD K v i))) 70 i (nI (bD K v i + bD K v i * w i / 1000)) = gX9 X K v w (i + 1) := by
  funext q
  unfold gX9 rowB
  by_cases h1 : q = 69
  · subst h1
    rw [mu_ne _ _ _ (by decide), mu_self, if_pos rfl, if_pos rfl]
    exact gR_1 (fun j => nI (bD K v j)) (X 69) i
  · by_cases h2 : q = 70
    · subst h2
      rw [mu_self, mu_ne _ _ _ (by decide), if_neg (by decide), if_pos rfl, if_neg (by decide), if_pos rfl]
      exact gR_1 (fun j => nI (bD K v j + bD K v j * w j / 1000)) (X 70) i
    · rw [mu_ne _ _ _ h2, mu_ne _ _ _ h1, if_neg h1, if_neg h2, if_neg h1, if_neg h2]
theorem gY9_1 {X : mMem} {K : Nat} {v w : Nat → Nat} {i : Nat} : mu (mu (gY9 X K v w i) 17 i (nI (bD K v i))) 18 i (nI (bD K v i + bD K v i * w i / 1000)) = gY9 X K v w (i + 1) := by
  funext q
  unfold gY9 rowB
  by_cases h1 : q = 17
  · subst h1
    rw [mu_ne _ _ _ (by decide), mu_self, if_pos rfl, if_pos rfl]
    exact gR_1 (fun j => nI (bD K v j)) (X 17) i
  · by_cases h2 : q = 18
    · subst h2
      rw [mu_self, mu_ne _ _ _ (by decide), if_neg (by decide), if_pos rfl, if_neg (by decide), if_pos rfl]
      exact gR_1 (fun j => nI (bD K v j + bD K v j * w j / 1000)) (X 18) i
    · rw [mu_ne _ _ _ h2, mu_ne _ _ _ h1, if_neg h1, if_neg h2, if_neg h1, if_neg h2]
theorem gX9_0 (X : mMem) (K : Nat) (v w : Nat → Nat) : gX9 X K v w 0 = X := by
  funext q
  unfold gX9 rowB
  by_cases h1 : q = 69
  · rw [if_pos h1, gR_0, h1]
  · rw [if_neg h1]
    by_cases h2 : q = 70
    · rw [if_pos h2, gR_0, h2]
    · rw [if_neg h2]
theorem gY9_0 (X : mMem) (K : Nat) (v w : Nat → Nat) : gY9 X K v w 0 = X := by
  funext q
  unfold gY9 rowB
  by_cases h1 : q = 17
  · rw [if_pos h1, gR_0, h1]
  · rw [if_neg h1]
    by_cases h2 : q = 18
    · rw [if_pos h2, gR_0, h2]
    · rw [if_neg h2]
theorem gX9_ne (X : mMem) (K : Nat) (v w : Nat → Nat) (i : Nat) {q : Nat} (h1 : q ≠ 69) (h2 : q ≠ 70) : gX9 X K v w i q = X q := by unfold gX9; rw [if_neg h1, if_neg h2]
theorem gY9_ne (X : mMem) (K : Nat) (v w : Nat → Nat) (i : Nat) {q : Nat} (h1 : q ≠ 17) (h2 : q ≠ 18) : gY9 X K v w i q = X q := by unfold gY9; rw [if_neg h1, if_neg h2]
/-- one stock's kilos -/
theorem kil {K : Nat} {v w : Nat → Nat} {i : Nat} (hK : K ≤ 1000000) (hs : smN (i + 1) v ≤ 100) (hw : w i ≤ 300) : K * smN (i + 1) v < 2 ^ 31 ∧ K * smN i v / 100 ≤ K * smN (i + 1) v / 100 ∧ bD K v i * w i < 2 ^ 31 := by
  have h1 : K * smN (i + 1) v ≤ 1000000 * 100 := Nat.mul_le_mul hK hs
  have h2 : smN i v ≤ smN (i + 1) v := by rw [smN]; omega
  have h3 := Nat.mul_le_mul (bD_le hK hs) hw
  exact ⟨by omega, Nat.div_le_div_right (Nat.mul_le_mul_left K h2), by omega⟩
theorem e_fillX {X : mMem} {K nk : Nat} {v w : Nat → Nat} (hK : K ≤ 1000000) (hnk : nk ≤ 4) (h1 : X 1 1 = nI nk) (hv : ∀ j, j < nk → X 67 j = nI (v j)) (hs : smN nk v ≤ 100) (hw : ∀ j, j < nk → X 8 j = nI (w j) ∧ w j ≤ 300) : fB_fill X (nI K) 66 = some (nI (smB K v w nk), mu (gX9 X K v w nk) 68 0 1) := by
  have key : ∀ d i e, i + d = nk → fB_fill_L12 (nI K) 66 (d + 1 + e) (gX9 X K v w i) (nI (smN i v)) (nI (K * smN i v / 100)) (nI (smB K v w i)) (nI i) = some (nI (smB K v w nk), mu (gX9 X K v w nk) 68 0 1) := by
    intro d
    induction d with
    | zero =>
      intro i e hi
      have hi : i = nk := by omega
      subst hi
      rw [show 0 + 1 + e = e + 1 by omega, fB_fill_L12, gX9_ne _ _ _ _ _ (by decide) (by decide), h1, if_pos (nI_le (Nat.le_refl _) (by omega))]
      rfl
    | succ d ih =>
      intro i e hi
      have hsi : smN (i + 1) v ≤ 100 := Nat.le_trans (smN_le (by omega)) hs
      obtain ⟨k1, k2, k3⟩ := kil (i := i) hK hsi (hw i (by omega)).2
      have hb := bD_le hK hsi
      have ih' := ih (i + 1) e (by omega)
      rw [smB] at ih'
      rw [show d + 1 + 1 + e = (d + 1 + e) + 1 by omega, fB_fill_L12, gX9_ne _ _ _ _ _ (show (1 : Nat) ≠ 69 by decide) (by decide), h1, if_neg (nI_ge (by omega) (by omega)), m_g_t (inb_nI (by omega) (by omega)), nI_clamp (show i < 2 ^ 31 by omega), gX9_ne _ _ _ _ _ (show (66 + 1 : Nat) ≠ 69 by decide) (by decide), show X (66 + 1) i = nI (v i) from hv i (by omega), nI_add, m_l_eq, show smN i v + v i = smN (i + 1) v from rfl, nI_mul, show (100 : Int32) = nI 100 from rfl, nI_div k1 (by omega), m_l_eq, nI_sub k2, show K * smN (i + 1) v / 100 - K * smN i v / 100 = bD K v i from rfl, m_l_eq]
      have r69 : mu (gX9 X K v w i) 69 i (nI (bD K v i)) 69 i = nI (bD K v i) := by rw [mu_app, if_pos ⟨rfl, rfl⟩]
      have r8 : mu (gX9 X K v w i) 69 i (nI (bD K v i)) 8 i = nI (w i) := by rw [mu_app, if_neg (by omega), gX9_ne _ _ _ _ _ (by decide) (by decide)]; exact (hw i (by omega)).1
      rw [r69, r8, nI_mul, show (1000 : Int32) = nI 1000 from rfl, nI_div k3 (by omega), m_l_eq, nI_add, m_l_eq, m_l_eq, m_l_eq, nI_add, nI_1, gX9_1]
      exact ih'
  have h := key nk 0 (127 - nk) (by omega)
  rw [gX9_0, show nk + 1 + (127 - nk) = 128 by omega, show smN 0 v = 0 from rfl, Nat.mul_zero, Nat.zero_div] at h
  exact h
theorem e_fillY {Y : mMem} {K nk : Nat} {v w : Nat → Nat} (hK : K ≤ 1000000) (hnk : nk ≤ 4) (h1 : Y 0 3 = nI nk) (hv : ∀ j, j < nk → Y 13 j = nI (v j)) (hs : smN nk v ≤ 100) (hw : ∀ j, j < nk → Y 7 j = nI (w j) ∧ w j ≤ 300) : fM_batch_L29 (nI K) 128 Y 0 0 0 0 = some (nI (smB K v w nk), mu (gY9 Y K v w nk) 0 28 1) := by
  have key : ∀ d i e, i + d = nk → fM_batch_L29 (nI K) (d + 1 + e) (gY9 Y K v w i) (nI (smN i v)) (nI (K * smN i v / 100)) (nI (smB K v w i)) (nI i) = some (nI (smB K v w nk), mu (gY9 Y K v w nk) 0 28 1) := by
    intro d
    induction d with
    | zero =>
      intro i e hi
      have hi : i = nk := by omega
      subst hi
      rw [show 0 + 1 + e = e + 1 by omega, fM_batch_L29, gY9_ne _ _ _ _ _ (by decide) (by decide), h1, if_pos (nI_le (Nat.le_refl _) (by omega))]
      rfl
    | succ d ih =>
      intro i e hi
      have hsi : smN (i + 1) v ≤ 100 := Nat.le_trans (smN_le (by omega)) hs
      obtain ⟨k1, k2, k3⟩ := kil (i := i) hK hsi (hw i (by omega)).2
      have hb := bD_le hK hsi
      have hw3 := (hw i (by omega)).2
      have ih' := ih (i + 1) e (by omega)
      rw [smB] at ih'
      rw [show d + 1 + 1 + e = (d + 1 + e) + 1 by omega, fM_batch_L29, gY9_ne _ _ _ _ _ (show (0 : Nat) ≠ 17 by decide) (by decide), h1, if_neg (nI_ge (by omega) (by omega)), m_g_t (inb_nI (by omega) (by omega)), nI_clamp (show i < 2 ^ 31 by omega), gY9_ne _ _ _ _ _ (show (13 : Nat) ≠ 17 by decide) (by decide), hv i (by omega), nI_add, m_l_eq, show smN i v + v i = smN (i + 1) v from rfl, show (100 : Int64) = lN 100 from rfl, lng (by omega) (by omega) k1 (by omega), m_l_eq, nI_sub k2, show K * smN (i + 1) v / 100 - K * smN i v / 100 = bD K v i from rfl, m_l_eq]
      have r69 : mu (gY9 Y K v w i) 17 i (nI (bD K v i)) 17 i = nI (bD K v i) := by rw [mu_app, if_pos ⟨rfl, rfl⟩]
      have r8 : mu (gY9 Y K v w i) 17 i (nI (bD K v i)) 7 i = nI (w i) := by rw [mu_app, if_neg (by omega), gY9_ne _ _ _ _ _ (by decide) (by decide)]; exact (hw i (by omega)).1
      rw [r69, r8, show (1000 : Int64) = lN 1000 from rfl, lng (by omega) (by omega) k3 (by omega), m_l_eq, nI_add, m_l_eq, m_l_eq, m_l_eq, nI_add, nI_1, gY9_1]
      exact ih'
  have h := key nk 0 (127 - nk) (by omega)
  rw [gY9_0, show nk + 1 + (127 - nk) = 128 by omega, show smN 0 v = 0 from rfl, Nat.mul_zero, Nat.zero_div] at h
  exact h
theorem e_batch {X Y : mMem} (h : Rel X Y) (a1 : Int32) : ∃ r X' Y', fG_batch X a1 = some (r, X') ∧ fM_batch Y a1 = some (r, Y') ∧ Rel X' Y' := by
  obtain ⟨⟨b0, b1, b2, b3⟩, -, ⟨nk, hnk, enk⟩, -, -⟩ := id h.1.1
  obtain ⟨r2, r3, r4, r5, r6, r7, r8⟩ := id h.1.2.1
  have hC := h.1.2.2.1
  obtain ⟨k69, k70⟩ := id h.1.2.2.2.2.2.1
  obtain ⟨h1, h2⟩ := id h.2.1
  unfold fG_batch fM_batch
  rw [h1]
  by_cases c0 : Y 0 18 = 0
  · rw [if_pos c0, if_pos c0]
    exact ⟨_, _, _, rfl, rfl, h⟩
  · rw [if_neg c0, if_neg c0, e_withinG, e_withinM, m_b1_some, m_b1_some]
    by_cases c : wth a1 0 1000000 = 0
    · rw [if_pos c, if_pos c]
      exact ⟨_, _, _, rfl, rfl, h⟩
    · obtain ⟨K, -, hK, rfl⟩ := wth_of (a := 0) (b := 1000000) (by omega) (by omega) c
      obtain ⟨hw, -, v, hv, hs⟩ := h2 c0 nk hnk enk
      have hwt : ∀ j, j < nk → Y 7 j = nI (Y 7 j).toNatClampNeg ∧ (Y 7 j).toNatClampNeg ≤ 300 := by
        intro j hj
        obtain ⟨p, q, u, g1, g2, g3, g4, g5, g6⟩ := hC j (by omega)
        rw [g3, nI_clamp (by omega)]
        exact ⟨rfl, g6⟩
      rw [if_neg c, if_neg c, e_fillX (w := fun j => (Y 7 j).toNatClampNeg) hK hnk (b1.trans enk) (fun j hj => (hw j hj).trans (hv j hj)) hs (fun j hj => by rw [r8]; exact hwt j hj), m_b2_some, e_fillY (w := fun j => (Y 7 j).toNatClampNeg) hK hnk enk hv hs hwt]
      have xq : ∀ q, q ≠ 68 → q ≠ 69 → q ≠ 70 → mu (gX9 X K v (fun j => (Y 7 j).toNatClampNeg) nk) 68 0 1 q = X q := fun q g1 g2 g3 => by rw [mu_ne _ _ _ g1, gX9_ne _ _ _ _ _ g2 g3]
      have yq : ∀ q, q ≠ 0 → q ≠ 17 → q ≠ 18 → mu (gY9 Y K v (fun j => (Y 7 j).toNatClampNeg) nk) 0 28 1 q = Y q := fun q g1 g2 g3 => by rw [mu_ne _ _ _ g1, gY9_ne _ _ _ _ _ g2 g3]
      have y0 : ∀ f, f ≠ 28 → mu (gY9 Y K v (fun j => (Y 7 j).toNatClampNeg) nk) 0 28 1 0 f = Y 0 f := fun f g => by rw [mu_app, if_neg (fun q => g q.2), gY9_ne _ _ _ _ _ (by decide) (by decide)]
      have e69 : mu (gX9 X K v (fun j => (Y 7 j).toNatClampNeg) nk) 68 0 1 69 = mu (gY9 Y K v (fun j => (Y 7 j).toNatClampNeg) nk) 0 28 1 17 := by
        rw [mu_ne _ _ _ (by decide), mu_ne _ _ _ (by decide)]
        unfold gX9 gY9
        rw [if_pos rfl, if_pos rfl, k69]
      have e70 : mu (gX9 X K v (fun j => (Y 7 j).toNatClampNeg) nk) 68 0 1 70 = mu (gY9 Y K v (fun j => (Y 7 j).toNatClampNeg) nk) 0 28 1 18 := by
        rw [mu_ne _ _ _ (by decide), mu_ne _ _ _ (by decide)]
        unfold gX9 gY9
        rw [if_neg (by decide), if_pos rfl, if_neg (by decide), if_pos rfl, k70]
      have e28 : mu (gX9 X K v (fun j => (Y 7 j).toNatClampNeg) nk) 68 0 1 68 0 = mu (gY9 Y K v (fun j => (Y 7 j).toNatClampNeg) nk) 0 28 1 0 28 := by
        rw [mu_app, if_pos ⟨rfl, rfl⟩, mu_app, if_pos ⟨rfl, rfl⟩]
      generalize mu (gX9 X K v (fun j => (Y 7 j).toNatClampNeg) nk) 68 0 1 = X' at xq e69 e70 e28
      generalize mu (gY9 Y K v (fun j => (Y 7 j).toNatClampNeg) nk) 0 28 1 = Y' at yq y0 e69 e70 e28
      refine ⟨_, _, _, rfl, rfl, ?_, ?_, e28, rG_x h.2.2.2.1 (fun q g => xq q (by omega) (by omega) (by omega)) (fun q g1 g2 => yq q (by omega) (by omega) (by omega)) (y0 32 (by decide)), rV_x h.2.2.2.2.1 (yq 20 (by decide) (by decide) (by decide)) (y0 32 (by decide)), rS_x h.2.2.2.2.2 (fun q g1 g2 => xq q (by omega) (by omega) (by omega)) (by rw [xq 0 (by decide) (by decide) (by decide)]) (fun q g1 g2 => yq q (by omega) (by omega) (by omega)) (fun f g => y0 f (by omega))⟩
      · obtain ⟨hA, hB, hC, hD, hT, hK2, hZ, hL⟩ := h.1
        have hp0 : Rp (fun q => if q = 69 then X 69 else if q = 70 then X 70 else X' q) (fun q => if q = 17 then Y 17 else if q = 18 then Y 18 else Y' q) := by
          refine Rp_x h.1 (fun q g => ?_) ?_ (fun q g => ?_) (fun f g => ?_)
          · by_cases g1 : q = 69
            · subst g1; rfl
            · by_cases g2 : q = 70
              · subst g2; rfl
              · show (if q = 69 then X 69 else if q = 70 then X 70 else X' q) = X q
                rw [if_neg g1, if_neg g2]
                exact xq q (by omega) g1 g2
          · show X' 0 8 = X 0 8
            rw [xq 0 (by decide) (by decide) (by decide)]
          · by_cases g1 : q = 17
            · subst g1; rfl
            · by_cases g2 : q = 18
              · subst g2; rfl
              · show (if q = 17 then Y 17 else if q = 18 then Y 18 else Y' q) = Y q
                rw [if_neg g1, if_neg g2]
                exact yq q (by omega) g1 g2
          · exact y0 f (by omega)
        obtain ⟨p1, p2, p3, p4, p5, -, p7, p8⟩ := hp0
        exact ⟨p1, p2, p3, p4, p5, ⟨e69, e70⟩, p7, p8⟩
      · have hH := h.2.1
        unfold rH at hH ⊢
        rw [xq 66 (by decide) (by decide) (by decide), xq 67 (by decide) (by decide) (by decide), y0 18 (by decide), y0 3 (by decide), yq 13 (by decide) (by decide) (by decide), yq 3 (by decide) (by decide) (by decide)]
        exact hH
end BAT
