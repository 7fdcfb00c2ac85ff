section SRZ
theorem nI_mul (a b : Nat) : nI a * nI b = nI (a * b) := (Int32.ofNat_mul a b).symm
theorem nI_sub {a b : Nat} (h : b ≤ a) : nI a - nI b = nI (a - b) := (Int32.ofNat_sub a b h).symm
theorem nI_min {a b : Nat} (ha : a < 2 ^ 31) (hb : b < 2 ^ 31) : (if nI a < nI b then nI a else nI b) = nI (min a b) := by
  by_cases h : a < b
  · rw [if_pos (nI_lt h hb), Nat.min_eq_left (by omega)]
  · rw [if_neg (nI_nlt (by omega) ha), Nat.min_eq_right (by omega)]
theorem wth_nI {x a b : Nat} (hx : x < 2 ^ 31) (ha : a < 2 ^ 31) (hb : b < 2 ^ 31) : wth (nI x) (nI a) (nI b) = 0 ↔ ¬ (a ≤ x ∧ x ≤ b) := by
  unfold wth
  by_cases h1 : x < a
  · rw [if_pos (nI_lt h1 ha)]
    exact ⟨fun _ q => by omega, fun _ => rfl⟩
  · rw [if_neg (nI_nlt (by omega) hx)]
    by_cases h2 : b < x
    · rw [if_pos (nI_lt h2 hx)]
      exact ⟨fun _ q => by omega, fun _ => rfl⟩
    · rw [if_neg (nI_nlt (by omega) hb)]
      exact ⟨fun q => absurd q (by decide), fun q => absurd ⟨by omega, by omega⟩ q⟩
variable {b ns nk st k : Nat} {lo hi : Nat → Nat} {od : Nat → Bool} {X0 : mMem}
/-- what shares of stock i go on to -/
def gst (lo hi : Nat → Nat) (od : Nat → Bool) (L : List Nat) (r i left ol : Nat) (w : Q4) (s : Nat) : List Q4 := if lo i ≤ s ∧ s ≤ hi i ∧ s ≤ left ∧ (od i = true → s ≤ ol) then eC lo hi od L r (i + 1) (left - s) (if od i = true then ol - s else ol) (q4s w i s) else []
theorem pre_up {i x : Nat} {X : mMem} {w : Q4} (hi4 : i + 1 < 4) (h : pre b ns (i + 1) X0 X (q4s w i x)) : pre b ns i X0 X w := by
  refine ⟨fun j hj => ?_, fun j hj hj4 s hs => ?_⟩
  · rw [h.1 j (by omega), wI_other w x (by omega) (by omega) (by omega)]
  · obtain ⟨h1, h2⟩ := h.2 j (by omega) hj4 s hs
    rw [lsm_set _ w s x (by omega) j hj] at h1 h2
    exact ⟨h1, h2⟩
theorem pre_down {i x : Nat} {X : mMem} {w : Q4} (hE : eX b X0 ns nk st k lo hi od) (hs : sm b X0 X) (hi4 : i + 1 < 4) (h : pre b ns i X0 X w) : pre b ns (i + 1) X0 (gP X b i (nI x) ns) (q4s w i x) := by
  have hb := hE.1
  refine ⟨fun j hj => ?_, fun j hj hj4 s hs6 => ?_⟩
  · rw [gP_a]
    unfold upd
    by_cases e : j = i
    · subst e
      rw [if_pos rfl, wI_same w x (by omega)]
    · rw [if_neg e, wI_other w x (by omega) (by omega) (fun q => e q.symm)]
      exact h.1 j (by omega)
  · by_cases e : j = i + 1
    · subst e
      obtain ⟨h1, h2⟩ := h.2 i (Nat.le_refl _) (by omega) s hs6
      rw [gP_b, gP_c _ _ _ _ _ hi4]
      unfold gR
      rw [if_pos hs6, if_pos hs6]
      show X (b + 4 + 1 + i) s + nI x * X (14 + 1 + i) s = _ ∧ X (b + 9 + 1 + i) s + nI x * X (19 + 1 + i) s = _
      rw [h1, h2, hs (14 + 1 + i) (by omega), hs (19 + 1 + i) (by omega), lsm, lsm, lsm_set _ w s x (by omega) i (Nat.le_refl _), lsm_set _ w s x (by omega) i (Nat.le_refl _), wI_same w x (by omega)]
      exact ⟨rfl, rfl⟩
    · rw [gP_ne _ _ _ (by omega) (by omega) (by omega), gP_ne _ _ _ (by omega) (by omega) (by omega), lsm_set _ w s x (by omega) j (by omega), lsm_set _ w s x (by omega) j (by omega)]
      exact h.2 j (by omega) hj4 s hs6
theorem hX_put {i : Nat} {x : Int32} {X : mMem} {R : Rs} (hi4 : i + 1 < 4) (h : hX b nk X R) : hX b nk (gP X b i x ns) R := by
  unfold hX at h ⊢
  rw [gP_ne _ _ _ (by omega) (by omega) (by omega), gP_ne _ _ _ (by omega) (by omega) (by omega), gP_ne _ _ _ (by omega) (by omega) (by omega), gP_ne _ _ _ (by omega) (by omega) (by omega), gP_ne _ _ _ (by omega) (by omega) (by omega), gP_ne _ _ _ (by omega) (by omega) (by omega)]
  exact h
theorem sm_put {i : Nat} {x : Int32} {X : mMem} (hi4 : i + 1 < 4) : sm b X (gP X b i x ns) := fun q h => gP_ne _ _ _ (by omega) (by omega) (by omega)
theorem cf_loop (hE : eX b X0 ns nk st k lo hi od) {F : mMem → Nat → Int32 → Int32 → Int32 → Int32 → Option mMem} {r i left ol mo : Nat} {w : Q4} {L : List Nat} (hi4 : i + 1 < nk) (hl : left ≤ 100) (hol : ol ≤ 100) (hmo : ∀ s, s ≤ mo ↔ s ≤ hi i ∧ s ≤ left ∧ (od i = true → s ≤ ol))
    (hF : ∀ s, s ≤ left → (od i = true → s ≤ ol) → ∀ (X : mMem) (R : Rs), sm b X0 X → hX b nk X R → pre b ns (i + 1) X0 X (q4s w i s) → goes b ns nk (i + 1) X0 X (q4s w i s) ((eC lo hi od L r (i + 1) (left - s) (if od i = true then ol - s else ol) (q4s w i s)).foldl (fvX X0 b ns nk) R) (F X b (nI (i + 1)) (nI (left - s)) (nI (if od i = true then ol - s else ol)) (cs4 (X0 4) (q4s w i s) (i + 1)))) :
    ∀ d n e, n + d = k + 1 → ∀ (X : mMem) (R : Rs), sm b X0 X → hX b nk X R → pre b ns i X0 X w → goes b ns nk i X0 X w ((((List.range' n d).map (fun n => n * st)).flatMap (gst lo hi od L r i left ol w)).foldl (fvX X0 b ns nk) R) (fS_fillFrom_L121 F b (nI i) (nI left) (nI ol) (cs4 (X0 4) w i) (nI mo) (d + 1 + e) X (nI n)) := by
  have hmo1 : mo ≤ 100 := by
    have := (hmo mo).mp (Nat.le_refl _)
    omega
  have hst : st * k = 100 := hE.2.2.2.1
  have hnk : nk ≤ 4 := hE.2.2.1
  have hst0 : 0 < st := Nat.pos_of_ne_zero (fun q => by subst q; omega)
  have hk : k ≤ 100 := by
    have := Nat.mul_le_mul_right k hst0
    omega
  have hs100 : st ≤ 100 := by
    have hk0 : 0 < k := Nat.pos_of_ne_zero (fun q => by subst q; omega)
    have := Nat.mul_le_mul_left st hk0
    omega
  intro d
  induction d with
  | zero =>
    intro n e hn X R hs hR hp
    have hE' := eX_sm hE hs
    have hn : n = k + 1 := by omega
    subst hn
    rw [show 0 + 1 + e = e + 1 by omega, fS_fillFrom_L121]
    refine ⟨X, ?_, hs, hR, hp⟩
    by_cases h : 100 < k + 1
    · rw [if_pos (show (100 : Int32) < nI (k + 1) from nI_lt (a := 100) h (by omega))]
    · rw [if_neg (show ¬ (100 : Int32) < nI (k + 1) from nI_nlt (a := 100) (by omega) (by omega)), m_l_eq, hE'.2.2.2.2.2.2.1, nI_mul]
      have h9 : (k + 1) * st = 100 + st := by rw [Nat.succ_mul, Nat.mul_comm, hst]
      rw [h9, if_neg (nI_ge (by omega) (by omega))]
  | succ d ih =>
    intro n e hn X R hs hR hp
    have hE' := eX_sm hE hs
    obtain ⟨hb, hns, -, -, e0, e1, e2, e3⟩ := hE'
    obtain ⟨e5, e6, e7, e8, e9⟩ := e3 i (by omega)
    have hns1 : n * st ≤ 100 := by
      rw [← hst, Nat.mul_comm]
      exact Nat.mul_le_mul_left st (by omega)
    rw [show d + 1 + 1 + e = (d + 1 + e) + 1 by omega, fS_fillFrom_L121, if_neg (show ¬ (100 : Int32) < nI n from nI_nlt (a := 100) (by omega) (by omega)), m_l_eq, e2, nI_mul, List.range'_succ, List.map_cons, List.flatMap_cons, List.foldl_append]
    by_cases c1 : n * st ≤ mo
    · have c1' := (hmo _).mp c1
      rw [if_pos (nI_le c1 (by omega)), m_g_t (inb_nI (by omega) (by omega)), nI_clamp (show i < 2 ^ 31 by omega), e5]
      by_cases c2 : n * st < lo i
      · rw [if_pos (nI_lt c2 (by omega)), m_l_eq, nI_1]
        have eg : gst lo hi od L r i left ol w (n * st) = [] := by unfold gst; rw [if_neg (by omega)]
        rw [eg, List.foldl_nil]
        exact ih (n + 1) e (by omega) X R hs hR hp
      · rw [if_neg (nI_nlt (by omega) (by omega)), e_putShare hb (by omega) hns e0, m_b1_some, gP_ne _ _ _ (by omega) (by omega) (by omega)]
        have eg : gst lo hi od L r i left ol w (n * st) = eC lo hi od L r (i + 1) (left - n * st) (if od i = true then ol - n * st else ol) (q4s w i (n * st)) := by unfold gst; rw [if_pos ⟨by omega, c1'⟩]
        rw [eg]
        obtain ⟨X2, r1, r2, r3, r4⟩ := hF (n * st) c1'.2.1 c1'.2.2 (gP X b i (nI (n * st)) ns) R (sm_tr hs (sm_put (by omega))) (hX_put (by omega) hR) (pre_down hE hs (by omega) hp)
        have h4 : cs4 (X0 4) w i + nI (n * st) * gP X b i (nI (n * st)) ns 4 i = cs4 (X0 4) (q4s w i (n * st)) (i + 1) := by
          rw [gP_ne _ _ _ (by omega) (by omega) (by omega), hs 4 (by omega), cs4, cs4_set _ w _ (by omega) i (Nat.le_refl _), wI_same w _ (by omega)]
        have go := ih (n + 1) e (by omega) X2 _ r2 r3 (pre_up (by omega) r4)
        by_cases c3 : od i = true
        · have c3' : ¬ X 7 i = 0 := fun q => by
            have := e9.mp q
            rw [c3] at this
            cases this
          rw [if_neg c3']
          unfold fS_fillFrom_B191
          rw [m_g_t (inb_nI (by omega) (by omega)), nI_clamp (show i < 2 ^ 31 by omega), h4, nI_1, nI_sub c1'.2.1, nI_sub (c1'.2.2 c3)]
          rw [if_pos c3] at r1
          rw [r1, m_b1_some, m_l_eq, nI_1]
          rw [if_pos c3] at go
          rw [if_pos c3]
          exact go
        · have c3' : X 7 i = 0 := e9.mpr (by simpa using c3)
          rw [if_pos c3']
          unfold fS_fillFrom_B191
          rw [m_g_t (inb_nI (by omega) (by omega)), nI_clamp (show i < 2 ^ 31 by omega), h4, nI_1, nI_sub c1'.2.1]
          rw [if_neg c3] at r1
          rw [r1, m_b1_some, m_l_eq, nI_1]
          rw [if_neg c3] at go
          rw [if_neg c3]
          exact go
    · rw [if_neg (nI_ge (by omega) (by omega))]
      have eg : ∀ s, n * st ≤ s → gst lo hi od L r i left ol w s = [] := by
        intro s hle
        unfold gst
        rw [if_neg]
        rintro ⟨-, q⟩
        exact c1 (Nat.le_trans hle ((hmo s).mpr q))
      rw [eg _ (Nat.le_refl _), List.foldl_nil, fm_nil, List.foldl_nil]
      · exact ⟨X, rfl, hs, hR, hp⟩
      · intro s hs2
        obtain ⟨n2, hn2, rfl⟩ := List.mem_map.mp hs2
        have := (List.mem_range'_1.mp hn2).1
        exact eg _ (Nat.mul_le_mul_right st (by omega))
theorem cf (hE : eX b X0 ns nk st k lo hi od) : ∀ r i left ol e (w : Q4) (X : mMem) (R : Rs), i + r + 1 = nk → left ≤ 100 → ol ≤ 100 → sm b X0 X → hX b nk X R → pre b ns i X0 X w →
    goes b ns nk i X0 X w ((eC lo hi od (stp st k) r i left ol w).foldl (fvX X0 b ns nk) R) (fS_fillFrom (r + 1 + e) X b (nI i) (nI left) (nI ol) (cs4 (X0 4) w i)) := by
  intro r
  induction r with
  | zero =>
    intro i left ol e w X R hi4 hl hol hs hR hp
    have hE' := eX_sm hE hs
    obtain ⟨hb, hns, hnk, hst, e0, e1, e2, e3⟩ := hE'
    obtain ⟨e5, e6, e7, e8, e9⟩ := e3 i (by omega)
    have hleaf := cf_leaf (left := left) hE hs hR hp (by omega)
    rw [show 0 + 1 + e = e + 1 by omega, fS_fillFrom, if_neg (nI_pos (by omega)), e1, if_pos (nI_lt (by omega) (by omega)), m_g_t (inb_nI (by omega) (by omega)), nI_clamp (show i < 2 ^ 31 by omega)]
    have body : ∀ s0, s0 ≤ 100 → (left ≤ min (hi i) s0 ↔ left ≤ hi i ∧ (od i = true → left ≤ ol)) → goes b ns nk i X0 X w ((eC lo hi od (stp st k) 0 i left ol w).foldl (fvX X0 b ns nk) R) (fS_fillFrom_B37 (fS_fillFrom e) b (nI i) (nI left) (nI ol) (cs4 (X0 4) w i) X (nI s0)) := by
      intro s0 hs0 hiff
      unfold fS_fillFrom_B37
      rw [m_g_t (inb_nI (by omega) (by omega)), nI_clamp (show i < 2 ^ 31 by omega), e6, nI_min (by omega) (by omega), m_l_eq, e1, if_pos (show nI i = nI nk - 1 by rw [← hi4]; exact (nI_pred i).symm), e_withinG, m_b1_some, e5]
      have hm : min (hi i) s0 ≤ 100 := by omega
      by_cases c : lo i ≤ left ∧ left ≤ min (hi i) s0
      · rw [if_neg (fun q => (wth_nI (by omega) (by omega) (by omega)).mp q c)]
        have ee : eC lo hi od (stp st k) 0 i left ol w = [q4s w i left] := by
          unfold eC
          rw [if_pos ⟨c.1, hiff.mp c.2⟩]
        rw [ee]
        exact hleaf
      · rw [if_pos ((wth_nI (by omega) (by omega) (by omega)).mpr c)]
        have ee : eC lo hi od (stp st k) 0 i left ol w = [] := by
          unfold eC
          rw [if_neg (fun q => c ⟨q.1, hiff.mpr q.2⟩)]
        rw [ee]
        exact ⟨X, rfl, hs, hR, hp⟩
    by_cases c3 : od i = true
    · rw [if_neg (fun q => by rw [e9.mp q] at c3; cases c3), nI_min (by omega) (by omega)]
      exact body (min ol left) (by omega) ⟨fun q => ⟨by omega, fun _ => by omega⟩, fun q => by have := q.2 c3; omega⟩
    · rw [if_pos (e9.mpr (by simpa using c3))]
      exact body left (by omega) ⟨fun q => ⟨by omega, fun h => absurd h c3⟩, fun q => by omega⟩
  | succ r ih =>
    intro i left ol e w X R hi4 hl hol hs hR hp
    have hE' := eX_sm hE hs
    obtain ⟨hb, hns, hnk, hst, e0, e1, e2, e3⟩ := hE'
    obtain ⟨e5, e6, e7, e8, e9⟩ := e3 i (by omega)
    rw [show r + 1 + 1 + e = (r + 1 + e) + 1 by omega, fS_fillFrom, if_neg (nI_pos (by omega)), e1, if_pos (nI_lt (by omega) (by omega)), m_g_t (inb_nI (by omega) (by omega)), nI_clamp (show i < 2 ^ 31 by omega)]
    have body : ∀ s0, s0 ≤ 100 → (∀ s, s ≤ min (hi i) s0 ↔ s ≤ hi i ∧ s ≤ left ∧ (od i = true → s ≤ ol)) → goes b ns nk i X0 X w ((eC lo hi od (stp st k) (r + 1) i left ol w).foldl (fvX X0 b ns nk) R) (fS_fillFrom_B37 (fS_fillFrom (r + 1 + e)) b (nI i) (nI left) (nI ol) (cs4 (X0 4) w i) X (nI s0)) := by
      intro s0 hs0 hiff
      unfold fS_fillFrom_B37
      have hne : ¬ nI i = nI nk - 1 := fun q => by
        rw [← hi4, show i + (r + 1) + 1 = (i + r + 1) + 1 by omega, nI_pred, nI_eq (by omega) (by omega)] at q
        omega
      rw [m_g_t (inb_nI (by omega) (by omega)), nI_clamp (show i < 2 ^ 31 by omega), e6, nI_min (by omega) (by omega), m_l_eq, e1, if_neg hne]
      have hk : k ≤ 100 := by
        have hst0 : 0 < st := Nat.pos_of_ne_zero (fun q => by subst q; omega)
        have := Nat.mul_le_mul_right k hst0
        omega
      have h := cf_loop (F := fS_fillFrom (r + 1 + e)) (r := r) (i := i) (left := left) (ol := ol) (mo := min (hi i) s0) (w := w) (L := stp st k) hE (by omega) hl hol hiff (fun s h1 h2 X R hs hR hp => ih (i + 1) (left - s) (if od i = true then ol - s else ol) e (q4s w i s) X R (by omega) (by omega) (by by_cases c : od i = true <;> simp [c] <;> omega) hs hR hp) (k + 1) 0 (126 - k) (by omega) X R hs hR hp
      rw [show k + 1 + 1 + (126 - k) = 128 by omega, ← List.range_eq_range'] at h
      exact h
    by_cases c3 : od i = true
    · rw [if_neg (fun q => by rw [e9.mp q] at c3; cases c3), nI_min (by omega) (by omega)]
      exact body (min ol left) (by omega) (fun s => ⟨fun q => ⟨by omega, by omega, fun _ => by omega⟩, fun q => by have := q.2.2 c3; omega⟩)
    · rw [if_pos (e9.mpr (by simpa using c3))]
      exact body left (by omega) (fun s => ⟨fun q => ⟨by omega, by omega, fun h => absurd h c3⟩, fun q => by omega⟩)
end SRZ
