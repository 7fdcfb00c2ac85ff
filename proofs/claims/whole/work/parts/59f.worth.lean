/-! worth -/
section WRT
def lsN (F : Nat → Nat) (w : Q4) : Nat → Nat
  | 0 => 0
  | n + 1 => lsN F w n + q4g w n * F n
theorem lsm_nat {f : Nat → Nat → Int32} {F : Nat → Nat} {w : Q4} {s : Nat} : ∀ n, (∀ k, k < n → f k s = nI (F k)) → lsm f w s n = nI (lsN F w n)
  | 0, _ => rfl
  | n + 1, h => by
    rw [lsm, lsN, lsm_nat n (fun k hk => h k (by omega)), h n (by omega)]
    unfold wI
    rw [nI_mul, nI_add]
theorem lsN_le {F : Nat → Nat} {w : Q4} : ∀ n, (∀ k, k < n → F k ≤ 1000) → lsN F w n ≤ smN n (q4g w) * 1000
  | 0, _ => Nat.zero_le _
  | n + 1, h => by
    rw [lsN, smN, Nat.add_mul]
    have h1 := lsN_le (w := w) n (fun k hk => h k (by omega))
    have h2 := Nat.mul_le_mul_left (q4g w n) (h n (by omega))
    omega
theorem mx0_nI {a b : Nat} (ha : a < 2 ^ 30) (hb : b < 2 ^ 30) : mx0 (nI a - nI b) = nI (a - b) := by
  unfold mx0
  by_cases h : b < a
  · rw [nI_sub (by omega), if_pos (show (0 : Int32) < nI (a - b) from nI_lt (a := 0) (by omega) (by omega))]
  · rw [show a - b = 0 by omega, if_neg]
    · rfl
    · rw [Int32.lt_iff_toInt_lt, Int32.toInt_sub, nI_toInt (by omega), nI_toInt (by omega), Int.bmod_eq_of_le (by omega) (by omega)]
      have e0 : (0 : Int32).toInt = 0 := by decide
      omega
theorem msT_nat {f : Nat → Int32} {g : Nat → Nat} : ∀ n, n ≤ 6 → (∀ s, s < n → f s = nI (g s) ∧ g s ≤ 200000) → ∃ t, msT f n = nI t ∧ t ≤ 200000 * n ∧ (t = 0 ↔ ∀ s, s < n → g s = 0)
  | 0, _, _ => ⟨0, rfl, Nat.zero_le _, fun _ s hs => absurd hs (Nat.not_lt_zero _), fun _ => rfl⟩
  | n + 1, hn, h => by
    obtain ⟨t, h1, h2, h3⟩ := msT_nat n (by omega) (fun s hs => h s (by omega))
    obtain ⟨h4, h5⟩ := h n (by omega)
    refine ⟨t + g n, by rw [msT, h1, h4, nI_add], by omega, fun q s hs => ?_, fun q => ?_⟩
    · rcases Nat.lt_or_ge s n with z | z
      · exact h3.mp (by omega) s z
      · rw [show s = n by omega]; omega
    · have := h3.mpr (fun s hs => q s (by omega))
      have := q n (by omega)
      omega
theorem msT_0 {f : Nat → Int32} {g : Nat → Nat} {n : Nat} (hn : n ≤ 6) (h : ∀ s, s < n → f s = nI (g s) ∧ g s ≤ 200000) : msT f n = 0 ↔ ∀ s, s < n → g s = 0 := by
  obtain ⟨t, h1, h2, h3⟩ := msT_nat n hn h
  rw [h1, ← h3]
  exact nI_eq (b := 0) (by omega) (by omega)
theorem fold_b1 {Y : mMem} {nk ns : Nat} {x2 x3 x4 : Int32} : ∀ (l : List Q4) (R : Rs), ¬ (l.foldl (fvM Y x2 x3 x4 ns nk) R).2.2.2.1.1 = 0 → ¬ R.2.2.2.1.1 = 0 ∨ ∃ w ∈ l, msT (msA nk (ptM Y 1) (ptM Y 2) (ndM Y x2 x3) (alM Y x2 x4) w) ns = 0
  | [], R, h => Or.inl h
  | w :: l, R, h => by
    rw [List.foldl_cons] at h
    rcases fold_b1 l _ h with q | ⟨v, hv, q⟩
    · by_cases c : msT (msA nk (ptM Y 1) (ptM Y 2) (ndM Y x2 x3) (alM Y x2 x4) w) ns = 0
      · exact Or.inr ⟨w, List.mem_cons_self, c⟩
      · refine Or.inl ?_
        unfold fvM vis at q
        simp only [if_neg c] at q
        exact q
    · exact Or.inr ⟨v, List.mem_cons_of_mem _ hv, q⟩
theorem fold_b2 {Y : mMem} {nk ns : Nat} {x2 x3 x4 : Int32} : ∀ (l : List Q4) (R : Rs), (¬ R.2.2.2.1.1 = 0 ∨ ∃ w ∈ l, msT (msA nk (ptM Y 1) (ptM Y 2) (ndM Y x2 x3) (alM Y x2 x4) w) ns = 0) → ¬ (l.foldl (fvM Y x2 x3 x4 ns nk) R).2.2.2.1.1 = 0
  | [], R, h => h.resolve_right (fun ⟨w, hw, _⟩ => absurd hw List.not_mem_nil)
  | w :: l, R, h => by
    rw [List.foldl_cons]
    have keep : ∀ c w' (b : Int32 × Int32 × Q4), ¬ b.1 = 0 → ¬ (vsB c w' b).1 = 0 := by
      intro c w' b hb
      unfold vsB
      rw [if_neg hb]
      by_cases q : b.2.1 ≤ c
      · rw [if_pos q]; exact hb
      · rw [if_neg q]; exact (show ¬ (1 : Int32) = 0 by decide)
    have new : ∀ c w' (b : Int32 × Int32 × Q4), ¬ (vsB c w' b).1 = 0 := by
      intro c w' b
      by_cases hb : b.1 = 0
      · unfold vsB
        rw [if_pos hb]
        exact (show ¬ (1 : Int32) = 0 by decide)
      · exact keep c w' b hb
    refine fold_b2 l _ ?_
    rcases h with h | ⟨v, hv, hq⟩
    · refine Or.inl ?_
      unfold fvM vis
      by_cases c : msT (msA nk (ptM Y 1) (ptM Y 2) (ndM Y x2 x3) (alM Y x2 x4) w) ns = 0
      · simp only [if_pos c]; exact new _ _ _
      · simp only [if_neg c]; exact h
    · rcases List.mem_cons.mp hv with rfl | hv
      · refine Or.inl ?_
        unfold fvM vis
        simp only [if_pos hq]
        exact new _ _ _
      · exact Or.inr ⟨v, hv, hq⟩
theorem lwp_nat {p o : Nat} (hp : p < 2 ^ 30) (ho : o < 2 ^ 30) : lwp (nI p) (nI o) = nI (p - o) := by
  rw [← lwp_eq]
  exact mx0_nI hp ho
theorem upp_nat {p o : Nat} (hp : p < 2 ^ 30) (ho : o < 2 ^ 30) : upp (nI p) (nI o) = nI (min (p + o) 1000) := by
  unfold upp
  rw [nI_add]
  by_cases h : p + o ≤ 1000
  · rw [if_pos (show nI (p + o) ≤ 1000 from nI_le (b := 1000) h (by omega)), Nat.min_eq_left h]
  · rw [if_neg (show ¬ nI (p + o) ≤ 1000 from nI_ge (a := 1000) (by omega) (by omega)), Nat.min_eq_right (by omega)]
    rfl
/-- what a mix misses at a sieve, as a number -/
theorem msA_nat {Y : mMem} (h : rR Y) {nk s a b : Nat} {w : Q4} {nd al : Nat → Int32} (hnk : nk ≤ 4) (hs : s < 6) (hw : smN nk (q4g w) ≤ 100) (hnd : nd s = 100 * nI a) (hal : al s = 100 * nI b) (ha : a ≤ 1000) (hb : b ≤ 1000) : ∃ l u, l ≤ 100000 ∧ u ≤ 100000 ∧ (∀ (nd' al' : Nat → Int32) (a' b' : Nat), nd' s = 100 * nI a' → al' s = 100 * nI b' → a' ≤ 1000 → b' ≤ 1000 → msA nk (ptM Y 1) (ptM Y 2) nd' al' w s = nI ((100 * a' - l) + (u - 100 * b'))) := by
  have hF : ∀ k, k < nk → ∃ F G, ptM Y 1 k s = nI F ∧ ptM Y 2 k s = nI G ∧ F ≤ 1000 ∧ G ≤ 1000 := by
    intro k hk
    obtain ⟨p, o, e1, e2, h1, h2⟩ := h.2 (6 * k + s) (by omega)
    refine ⟨p - o, min (p + o) 1000, ?_, ?_, by omega, by omega⟩
    · show lwp (Y 8 (6 * k + s)) (Y 9 (6 * k + s)) = _
      rw [e1, e2]; exact lwp_nat (by omega) (by omega)
    · show upp (Y 8 (6 * k + s)) (Y 9 (6 * k + s)) = _
      rw [e1, e2]; exact upp_nat (by omega) (by omega)
  have cl : ∀ k, k < nk → ptM Y 1 k s = nI (ptM Y 1 k s).toNatClampNeg ∧ ptM Y 2 k s = nI (ptM Y 2 k s).toNatClampNeg ∧ (ptM Y 1 k s).toNatClampNeg ≤ 1000 ∧ (ptM Y 2 k s).toNatClampNeg ≤ 1000 := by
    intro k hk
    obtain ⟨F, G, e1, e2, h1, h2⟩ := hF k hk
    rw [e1, e2, nI_clamp (by omega), nI_clamp (by omega)]
    exact ⟨rfl, rfl, h1, h2⟩
  refine ⟨lsN (fun k => (ptM Y 1 k s).toNatClampNeg) w nk, lsN (fun k => (ptM Y 2 k s).toNatClampNeg) w nk, ?_, ?_, ?_⟩
  · have := lsN_le (F := fun k => (ptM Y 1 k s).toNatClampNeg) (w := w) nk (fun k hk => (cl k hk).2.2.1)
    omega
  · have := lsN_le (F := fun k => (ptM Y 2 k s).toNatClampNeg) (w := w) nk (fun k hk => (cl k hk).2.2.2)
    omega
  · intro nd' al' a' b' hn ha' h1 h2
    have l1 := lsN_le (F := fun k => (ptM Y 1 k s).toNatClampNeg) (w := w) nk (fun k hk => (cl k hk).2.2.1)
    have l2 := lsN_le (F := fun k => (ptM Y 2 k s).toNatClampNeg) (w := w) nk (fun k hk => (cl k hk).2.2.2)
    unfold msA
    rw [hn, ha', show (100 : Int32) = nI 100 from rfl, nI_mul, nI_mul, lsm_nat (F := fun k => (ptM Y 1 k s).toNatClampNeg) nk (fun k hk => (cl k hk).1), lsm_nat (F := fun k => (ptM Y 2 k s).toNatClampNeg) nk (fun k hk => (cl k hk).2.1), mx0_nI (by omega) (by omega), mx0_nI (by omega) (by omega), nI_add]
/-- a mix that keeps all bands keeps them too where one is wider -/
theorem wider {Y : mMem} (h : rR Y) {ns nk : Nat} {w : Q4} {nd al nd' al' : Nat → Int32} (hns : ns ≤ 6) (hnk : nk ≤ 4) (hw : smN nk (q4g w) ≤ 100) (hb : ∀ s, s < ns → ∃ a b a' b', nd s = 100 * nI a ∧ al s = 100 * nI b ∧ nd' s = 100 * nI a' ∧ al' s = 100 * nI b' ∧ a' ≤ a ∧ a ≤ 1000 ∧ b ≤ b' ∧ b' ≤ 1000) (h0 : msT (msA nk (ptM Y 1) (ptM Y 2) nd al w) ns = 0) : msT (msA nk (ptM Y 1) (ptM Y 2) nd' al' w) ns = 0 := by
  have key : ∀ s, s < ns → ∃ x y, msA nk (ptM Y 1) (ptM Y 2) nd al w s = nI x ∧ msA nk (ptM Y 1) (ptM Y 2) nd' al' w s = nI y ∧ x ≤ 200000 ∧ y ≤ 200000 ∧ (x = 0 → y = 0) := by
    intro s hs
    obtain ⟨a, b, a', b', e1, e2, e3, e4, l1, l2, l3, l4⟩ := hb s hs
    obtain ⟨l, u, hl, hu, g⟩ := msA_nat h hnk (by omega) hw e1 e2 l2 (by omega)
    exact ⟨_, _, g nd al a b e1 e2 l2 (by omega), g nd' al' a' b' e3 e4 (by omega) l4, by omega, by omega, by omega⟩
  have c1 : ∀ s, s < ns → msA nk (ptM Y 1) (ptM Y 2) nd al w s = nI (msA nk (ptM Y 1) (ptM Y 2) nd al w s).toNatClampNeg ∧ (msA nk (ptM Y 1) (ptM Y 2) nd al w s).toNatClampNeg ≤ 200000 := by
    intro s hs
    obtain ⟨x, y, e1, e2, h1, h2, h3⟩ := key s hs
    rw [e1, nI_clamp (by omega)]
    exact ⟨rfl, h1⟩
  have c2 : ∀ s, s < ns → msA nk (ptM Y 1) (ptM Y 2) nd' al' w s = nI (msA nk (ptM Y 1) (ptM Y 2) nd' al' w s).toNatClampNeg ∧ (msA nk (ptM Y 1) (ptM Y 2) nd' al' w s).toNatClampNeg ≤ 200000 := by
    intro s hs
    obtain ⟨x, y, e1, e2, h1, h2, h3⟩ := key s hs
    rw [e2, nI_clamp (by omega)]
    exact ⟨rfl, h2⟩
  rw [msT_0 (g := fun s => (msA nk (ptM Y 1) (ptM Y 2) nd al w s).toNatClampNeg) hns c1] at h0
  rw [msT_0 (g := fun s => (msA nk (ptM Y 1) (ptM Y 2) nd' al' w s).toNatClampNeg) hns c2]
  intro s hs
  obtain ⟨x, y, e1, e2, h1, h2, h3⟩ := key s hs
  have := h0 s hs
  show (msA nk (ptM Y 1) (ptM Y 2) nd' al' w s).toNatClampNeg = 0
  have this : (msA nk (ptM Y 1) (ptM Y 2) nd al w s).toNatClampNeg = 0 := this
  rw [e1, nI_clamp (by omega)] at this
  rw [e2, nI_clamp (by omega)]
  exact h3 this
end WRT
