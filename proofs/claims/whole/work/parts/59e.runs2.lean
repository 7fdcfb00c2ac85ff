section RU2
theorem Rel_g {X Y X' Y' : mMem} (h : Rel X Y) (hx : ∀ q, q < 43 ∨ q = 48 ∨ q = 53 ∨ (62 ≤ q ∧ q ≠ 66 ∧ q ≠ 67 ∧ q ≠ 68) → X' q = X q) (hy : ∀ q, q ≠ 0 → q ≠ 13 → q ≠ 14 → q ≠ 15 → q ≠ 16 → Y' q = Y q) (hy0 : ∀ f, f ≠ 18 → f ≠ 28 → (f < 22 ∨ 26 < f) → Y' 0 f = Y 0 f) (hH : rH X' Y') (hK : X' 68 0 = Y' 0 28) : Rel X' Y' := by
  refine ⟨Rp_x h.1 (fun q g => hx q (by omega)) (by rw [hx 0 (by omega)]) (fun q g => hy q (by omega) (by omega) (by omega) (by omega) (by omega)) (fun f g => hy0 f (by omega) (by omega) (by omega)), hH, hK, rG_x h.2.2.2.1 (fun q g => hx q (by omega)) (fun q g1 g2 => hy q (by omega) (by omega) (by omega) (by omega) (by omega)) (hy0 32 (by omega) (by omega) (by omega)), rV_x h.2.2.2.2.1 (hy 20 (by omega) (by omega) (by omega) (by omega) (by omega)) (hy0 32 (by omega) (by omega) (by omega)), rS_x h.2.2.2.2.2 (fun q g1 g2 => hx q (by omega)) (by rw [hx 0 (by omega)]) (fun q g1 g2 => hy q (by omega) (by omega) (by omega) (by omega) (by omega)) (fun f g => hy0 f (by omega) (by omega) (by omega))⟩
/-- only the reference has searched -/
theorem Rel_m {X Y Z : mMem} (h : Rel X Y) (g : smM Y Z) : Rel X Z := by
  refine Rel_g h (fun q _ => rfl) (fun q a0 a13 a14 a15 a16 => g.1 q a0 a14 a15 a16) (fun f _ _ hf => g.2 f hf) ?_ ?_
  · have hH := h.2.1
    unfold rH at hH ⊢
    rw [g.2 18 (by omega), g.2 3 (by omega), g.1 13 (by decide) (by decide) (by decide) (by decide), g.1 3 (by decide) (by decide) (by decide) (by decide)]
    exact hH
  · rw [g.2 28 (by omega)]
    exact h.2.2.1
/-- a mix is taken in hand: X3 and Z' are what both sides come to -/
theorem Rel_take {X Y X' Y' : mMem} {w : Q4} {c : Int32} (h : Rel X Y) (hx : ∀ q, q ≠ 66 → q ≠ 67 → q ≠ 68 → X' q = X q) (hy : ∀ q, q ≠ 0 → q ≠ 13 → q ≠ 14 → q ≠ 15 → q ≠ 16 → Y' q = Y q) (hy0 : ∀ f, f ≠ 18 → f ≠ 28 → (f < 22 ∨ 26 < f) → Y' 0 f = Y 0 f) (x0 : X' 66 0 = 1) (x2 : X' 66 2 = c) (x68 : X' 68 0 = 0) (y18 : Y' 0 18 = 1) (y28 : Y' 0 28 = 0) (hw : ∀ n, n ≤ 4 → Y 0 3 = nI n → (∀ j, j < n → X' 67 j = wI w j) ∧ (∀ j, j < n → Y' 13 j = wI w j) ∧ c = cs4 (Y 3) w n ∧ smN n (q4g w) ≤ 100) : Rel X' Y' := by
  refine Rel_g h (fun q g => hx q (by omega) (by omega) (by omega)) hy hy0 ⟨by rw [x0, y18], fun _ n hn en => ?_⟩ (by rw [x68, y28])
  rw [hy0 3 (by decide) (by decide) (by omega)] at en
  obtain ⟨g1, g2, g3, g4⟩ := hw n hn en
  refine ⟨fun j hj => (g1 j hj).trans (g2 j hj).symm, ?_, q4g w, fun j hj => g2 j hj, g4⟩
  rw [x2, g3, cs4_eS, cst_eS, hy 3 (by decide) (by decide) (by decide) (by decide) (by decide)]
  exact eS_eq n (fun k hk => ⟨(g2 k hk).symm, rfl⟩)
def g13 (M : mMem) : mMem := fun q => if q = 13 then upd (upd (upd (upd (M 13) 0 (M 15 0)) 1 (M 15 1)) 2 (M 15 2)) 3 (M 15 3) else M q
theorem e_take (M : mMem) : fM_take M = some (mu (mu (g13 M) 0 18 1) 0 28 0) := by
  have e : fM_take M = some (mu (mu (mu (mu (mu (mu M 13 0 (M 15 0)) 13 1 ((mu M 13 0 (M 15 0)) 15 1)) 13 2 ((mu (mu M 13 0 (M 15 0)) 13 1 ((mu M 13 0 (M 15 0)) 15 1)) 15 2)) 13 3 ((mu (mu (mu M 13 0 (M 15 0)) 13 1 ((mu M 13 0 (M 15 0)) 15 1)) 13 2 ((mu (mu M 13 0 (M 15 0)) 13 1 ((mu M 13 0 (M 15 0)) 15 1)) 15 2)) 15 3)) 0 18 1) 0 28 0) := rfl
  have h : (15 : Nat) ≠ 13 := by decide
  have e2 : mu (mu (mu (mu M 13 0 (M 15 0)) 13 1 ((mu M 13 0 (M 15 0)) 15 1)) 13 2 ((mu (mu M 13 0 (M 15 0)) 13 1 ((mu M 13 0 (M 15 0)) 15 1)) 15 2)) 13 3 ((mu (mu (mu M 13 0 (M 15 0)) 13 1 ((mu M 13 0 (M 15 0)) 15 1)) 13 2 ((mu (mu M 13 0 (M 15 0)) 13 1 ((mu M 13 0 (M 15 0)) 15 1)) 15 2)) 15 3) = g13 M := by
    funext q
    unfold g13
    by_cases hq : q = 13
    · subst hq
      rw [if_pos rfl, mu_self, mu_self, mu_self, mu_self, mu_ne _ _ _ h, mu_ne _ _ _ h, mu_ne _ _ _ h, mu_ne _ _ _ h, mu_ne _ _ _ h, mu_ne _ _ _ h]
    · rw [if_neg hq, mu_ne _ _ _ hq, mu_ne _ _ _ hq, mu_ne _ _ _ hq, mu_ne _ _ _ hq]
  rw [e, e2]
theorem g13_at (M : mMem) {j : Nat} (h : j < 4) : g13 M 13 j = M 15 j := by
  have : j = 0 ∨ j = 1 ∨ j = 2 ∨ j = 3 := by omega
  rcases this with rfl | rfl | rfl | rfl <;> simp [g13, upd]
theorem g13_ne (M : mMem) {q : Nat} (h : q ≠ 13) : g13 M q = M q := by unfold g13; rw [if_neg h]
/-- what the reference's take leaves -/
theorem take_y {Y Z : mMem} (g : smM Y Z) : (∀ q, q ≠ 0 → q ≠ 13 → q ≠ 14 → q ≠ 15 → q ≠ 16 → mu (mu (g13 Z) 0 18 1) 0 28 0 q = Y q) ∧ (∀ f, f ≠ 18 → f ≠ 28 → (f < 22 ∨ 26 < f) → mu (mu (g13 Z) 0 18 1) 0 28 0 0 f = Y 0 f) ∧ mu (mu (g13 Z) 0 18 1) 0 28 0 0 18 = 1 ∧ mu (mu (g13 Z) 0 18 1) 0 28 0 0 28 = 0 ∧ (∀ j, j < 4 → mu (mu (g13 Z) 0 18 1) 0 28 0 13 j = Z 15 j) ∧ ∀ f, f ≠ 18 → f ≠ 28 → mu (mu (g13 Z) 0 18 1) 0 28 0 0 f = Z 0 f := by
  refine ⟨fun q a0 a13 a14 a15 a16 => ?_, fun f h18 h28 hf => ?_, ?_, ?_, fun j hj => ?_, fun f h18 h28 => ?_⟩
  · rw [mu_ne _ _ _ a0, mu_ne _ _ _ a0, g13_ne _ a13]
    exact g.1 q a0 a14 a15 a16
  · rw [mu_app, mu_app, if_neg (by omega), if_neg (by omega), g13_ne _ (by decide)]
    exact g.2 f hf
  · rw [mu_app, mu_app, if_neg (by omega), if_pos ⟨rfl, rfl⟩]
  · rw [mu_app, if_pos ⟨rfl, rfl⟩]
  · rw [mu_ne _ _ _ (by decide), mu_ne _ _ _ (by decide), g13_at _ hj]
  · rw [mu_app, mu_app, if_neg (by omega), if_neg (by omega), g13_ne _ (by decide)]
/-- what the class's hand is -/
theorem hand_x (X : mMem) (k1 : Nat) (c m : Int32) : (∀ q, q ≠ 66 → q ≠ 67 → q ≠ 68 → mu (gS X 66 k1 c m) 68 0 0 q = X q) ∧ mu (gS X 66 k1 c m) 68 0 0 66 0 = 1 ∧ mu (gS X 66 k1 c m) 68 0 0 66 2 = c ∧ mu (gS X 66 k1 c m) 68 0 0 66 3 = m ∧ mu (gS X 66 k1 c m) 68 0 0 68 0 = 0 ∧ ∀ j, j < 4 → mu (gS X 66 k1 c m) 68 0 0 67 j = X k1 j := by
  refine ⟨fun q a b d => ?_, ?_, ?_, ?_, ?_, fun j hj => ?_⟩
  · rw [mu_ne _ _ _ d, gS_ne _ _ _ a b]
  · rw [mu_ne _ _ _ (by decide)]; simp [gS, upd]
  · rw [mu_ne _ _ _ (by decide)]; simp [gS, upd]
  · rw [mu_ne _ _ _ (by decide)]; simp [gS, upd]
  · rw [mu_app, if_pos ⟨rfl, rfl⟩]
  · rw [mu_ne _ _ _ (by decide)]
    have : j = 0 ∨ j = 1 ∨ j = 2 ∨ j = 3 := by omega
    rcases this with rfl | rfl | rfl | rfl <;> simp [gS, upd]
theorem e_run {X Y : mMem} (h : Rel X Y) : ∃ r X' Y', fG_run X = some (r, X') ∧ fM_run Y = some (r, Y') ∧ Rel X' Y' := by
  obtain ⟨X1, s1, h1, s3⟩ := e_once h
  obtain ⟨ns, nk, st, k, cap, lo, hi, od, hE⟩ := eY_ex h.1
  have hx := h1.2.2.2.2.2 s3 ns nk st k cap lo hi od hE
  have hok := okR_eM (Y := Y) (ns := ns) (cap := cap) (lo := lo) (hi := hi) (od := od) (L := stp st k) (x2 := -1) (x3 := 0) (x4 := 0) hE.2.1
  obtain ⟨Z, z1, z2⟩ := e_go (md := 0) (x2 := -1) (x3 := 0) (x4 := 0) hE (Or.inl rfl)
  generalize (eM nk lo hi od cap (stp st k)).foldl (fvM Y (-1) 0 0 ns nk) R00 = R at hx hok z2
  obtain ⟨zs, -, -, -, -, zB, -⟩ := z2
  obtain ⟨zb1, zb2⟩ := zB rfl
  obtain ⟨-, -, -, ⟨xb1, xb2⟩, -⟩ := hx
  unfold fG_run fM_run fG_takeInHand
  rw [s1, m_b1_some, z1, m_b1_some, show X1 39 0 = R.2.2.2.1.1 from xb1, zb1]
  by_cases c : R.2.2.2.1.1 = 0
  · rw [if_pos c, if_pos c, m_b2_some, if_pos rfl]
    exact ⟨_, _, _, rfl, rfl, Rel_m h1 zs⟩
  · obtain ⟨x2, xw⟩ := xb2 c
    obtain ⟨y24, yw⟩ := zb2 c
    rw [if_neg c, if_neg c, e_set X1 66 (39 + 1) _ _ (by decide), m_b1_some, m_l_eq, m_b2_some, if_neg (by decide), e_take, m_b1_some]
    obtain ⟨f1, f2, f3, f4, f5, f6⟩ := hand_x X1 (39 + 1) (X1 39 2) (X1 39 3)
    obtain ⟨t1, t2, t3, t4, t5, t6⟩ := take_y zs
    rw [f3, t6 24 (by decide) (by decide), y24, show X1 39 2 = R.2.2.2.1.2.1 from x2]
    rw [show X1 39 2 = R.2.2.2.1.2.1 from x2] at f1 f2 f3 f5 f6
    refine ⟨_, _, _, rfl, rfl, Rel_take (w := R.2.2.2.1.2.2) h1 f1 t1 t2 f2 f3 f5 t3 t4 (fun n hn en => ?_)⟩
    have enk : n = nk := (nI_eq (by omega) (by have := hE.2.1; omega)).mp (en.symm.trans hE.2.2.2.2.2.1)
    subst enk
    exact ⟨fun j hj => (f6 j (by omega)).trans (xw j hj), fun j hj => (t5 j (by omega)).trans (yw j (by omega)), (hok.1 c).1, (hok.1 c).2⟩
theorem e_near {X Y : mMem} (h : Rel X Y) : ∃ r X' Y', fG_near X = some (r, X') ∧ fM_near Y = some (r, Y') ∧ Rel X' Y' := by
  obtain ⟨X1, s1, h1, s3⟩ := e_once h
  obtain ⟨ns, nk, st, k, cap, lo, hi, od, hE⟩ := eY_ex h.1
  have hx := h1.2.2.2.2.2 s3 ns nk st k cap lo hi od hE
  have hok := okR_eM (Y := Y) (ns := ns) (cap := cap) (lo := lo) (hi := hi) (od := od) (L := stp st k) (x2 := -1) (x3 := 0) (x4 := 0) hE.2.1
  obtain ⟨Z, z1, z2⟩ := e_go (md := 1) (x2 := -1) (x3 := 0) (x4 := 0) hE (Or.inr rfl)
  generalize (eM nk lo hi od cap (stp st k)).foldl (fvM Y (-1) 0 0 ns nk) R00 = R at hx hok z2
  obtain ⟨zs, -, -, -, -, -, zB⟩ := z2
  obtain ⟨zb1, zb2⟩ := zB (by decide)
  obtain ⟨-, -, -, -, ⟨xb1, xb2⟩⟩ := hx
  unfold fG_near fM_near fG_takeInHand
  rw [s1, m_b1_some, z1, m_b1_some, show X1 41 0 = R.2.2.2.2.1 from xb1, zb1]
  by_cases c : R.2.2.2.2.1 = 0
  · rw [if_pos c, if_pos c, m_b2_some, if_pos rfl]
    exact ⟨_, _, _, rfl, rfl, Rel_m h1 zs⟩
  · obtain ⟨x2, x3, xw⟩ := xb2 c
    obtain ⟨y24, y23, yw⟩ := zb2 c
    rw [if_neg c, if_neg c, e_set X1 66 (41 + 1) _ _ (by decide), m_b1_some, m_l_eq, m_b2_some, if_neg (by decide), e_take, m_b1_some]
    obtain ⟨f1, f2, f3, f4, f5, f6⟩ := hand_x X1 (41 + 1) (X1 41 2) (X1 41 3)
    obtain ⟨t1, t2, t3, t4, t5, t6⟩ := take_y zs
    rw [f4, t6 23 (by decide) (by decide), y23, show X1 41 2 = R.2.2.2.2.2.1 from x2, show X1 41 3 = R.2.2.2.2.2.2.1 from x3]
    rw [show X1 41 2 = R.2.2.2.2.2.1 from x2, show X1 41 3 = R.2.2.2.2.2.2.1 from x3] at f1 f2 f3 f5 f6
    refine ⟨_, _, _, rfl, rfl, Rel_take (w := R.2.2.2.2.2.2.2) h1 f1 t1 t2 f2 f3 f5 t3 t4 (fun n hn en => ?_)⟩
    have enk : n = nk := (nI_eq (by omega) (by have := hE.2.1; omega)).mp (en.symm.trans hE.2.2.2.2.2.1)
    subst enk
    exact ⟨fun j hj => (f6 j (by omega)).trans (xw j hj), fun j hj => (t5 j (by omega)).trans (yw j (by omega)), (hok.2 c).1, (hok.2 c).2⟩
end RU2
section RU3
/-! lonely -/
theorem fold_1 {Y : mMem} {nk ns : Nat} {x2 x3 x4 : Int32} : ∀ (l : List Q4) (R : Rs), (l.foldl (fvM Y x2 x3 x4 ns nk) R).1 = R.1 + nI l.length
  | [], R => by
    rw [List.foldl_nil, List.length_nil, nI_0, Int32.add_zero]
  | w :: l, R => by
    rw [List.foldl_cons, fold_1 l]
    show R.1 + 1 + nI l.length = R.1 + nI (l.length + 1)
    rw [Int32.add_assoc, Int32.add_comm 1, nI_1]
theorem fm_len {α β : Type} {f : α → List β} {c : Nat} : ∀ (l : List α), (∀ a ∈ l, (f a).length ≤ c) → (l.flatMap f).length ≤ l.length * c
  | [], _ => by simp
  | a :: l, h => by
    rw [List.flatMap_cons, List.length_append, List.length_cons, Nat.succ_mul]
    have h1 := h a List.mem_cons_self
    have h2 := fm_len l (fun b hb => h b (List.mem_cons_of_mem _ hb))
    omega
theorem gvn_len {P : Prop} {w : Q4} : (gvn P w).length ≤ 1 := by
  by_cases p : P
  · rw [gvn_t p]; exact Nat.le_refl _
  · rw [gvn_f p]; exact Nat.zero_le _
theorem eM_len {nk st k cap : Nat} {lo hi : Nat → Nat} {od : Nat → Bool} (hst : st * k = 100) : (eM nk lo hi od cap (stp st k)).length ≤ 2000000 := by
  have hst0 : 0 < st := Nat.pos_of_ne_zero (fun q => by subst q; omega)
  have hk : k ≤ 100 := by
    have := Nat.mul_le_mul_right k hst0
    omega
  have hl : (stp st k).length ≤ 101 := by
    unfold stp
    rw [List.length_map, List.length_range]
    omega
  have hL : ∀ (c : Prop) (d : Decidable c), (@ite _ c d (stp st k) [0]).length ≤ 101 := fun c d => by
    by_cases q : c
    · rw [if_pos q]; exact hl
    · rw [if_neg q]; exact Nat.le_of_ble_eq_true rfl
  unfold eM
  refine Nat.le_trans (fm_len (c := 101 * 101) _ (fun a _ => Nat.le_trans (fm_len (c := 101) _ (fun b _ => ?_)) (Nat.mul_le_mul_right 101 (hL _ _)))) ?_
  · by_cases h1 : a + b ≤ 100
    · rw [if_pos h1]
      refine Nat.le_trans (fm_len (c := 1) _ (fun c _ => ?_)) ?_
      · by_cases h2 : a + b + c ≤ 100
        · rw [if_pos h2]; exact gvn_len
        · rw [if_neg h2]; exact Nat.zero_le _
      · rw [Nat.mul_one]; exact hL _ _
    · rw [if_neg h1]; exact Nat.zero_le _
  · have := Nat.mul_le_mul_right (101 * 101) hl
    omega
/-- how many of the first s are lonely -/
def uK (k : Nat → Int32) : Nat → Nat
  | 0 => 0
  | s + 1 => uK k s + if k s = 0 then 1 else 0
theorem uK_le (k : Nat → Int32) : ∀ s, uK k s ≤ s
  | 0 => Nat.le_refl _
  | s + 1 => by
    have := uK_le k s
    rw [uK]
    by_cases c : k s = 0
    · rw [if_pos c]; omega
    · rw [if_neg c]; omega
theorem lon_neg {X : mMem} {ns : Nat} {a : Int32} (hns : ns ≤ 6) (h0 : X 1 0 = nI ns) (ha : a < 0) : ∀ d s e, s + d = ns → fG_lonely_L20 a X (d + 1 + e) (nI (uK (X 38) s)) (nI s) = some (-1, X) := by
  intro d
  induction d with
  | zero =>
    intro s e hs
    have hs : s = ns := by omega
    subst hs
    rw [show 0 + 1 + e = e + 1 by omega, fG_lonely_L20, h0, if_pos (nI_le (Nat.le_refl _) (by omega))]
  | succ d ih =>
    intro s e hs
    have ih' := ih (s + 1) e (by omega)
    rw [uK] at ih'
    have hu := uK_le (X 38) s
    rw [show d + 1 + 1 + e = (d + 1 + e) + 1 by omega, fG_lonely_L20, h0, if_neg (nI_ge (by omega) (by omega)), m_g_t (inb_nI (by omega) (by omega)), nI_clamp (show s < 2 ^ 31 by omega)]
    by_cases c : X 38 s = 0
    · rw [if_pos c] at ih'
      rw [if_pos c, if_neg (show ¬ nI (uK (X 38) s) = a from fun q => nI_pos (n := uK (X 38) s) (by omega) (q ▸ ha)), m_l_eq, m_l_eq, nI_1, nI_1]
      exact ih'
    · rw [if_neg c, Nat.add_zero] at ih'
      rw [if_neg c, m_l_eq, nI_1]
      exact ih'
theorem lon_pos {X Z : mMem} {ns K : Nat} (hns : ns ≤ 6) (hK : K < 2 ^ 31) (h0 : X 1 0 = nI ns) (z0 : Z 0 0 = nI ns) (zm : ¬ Z 0 25 ≤ 0) (hk : ∀ s, s < 6 → X 38 s = Z 16 s) : ∀ d s e, s + d = ns → uK (X 38) s ≤ K → ∃ r, fG_lonely_L20 (nI K) X (d + 1 + e) (nI (uK (X 38) s)) (nI s) = some (r, X) ∧ fM_lonely_L12 Z (d + 1 + e) (nI (K - uK (X 38) s)) (nI s) = some (r, Z) := by
  intro d
  induction d with
  | zero =>
    intro s e hs hu
    have hs : s = ns := by omega
    subst hs
    rw [show 0 + 1 + e = e + 1 by omega, fG_lonely_L20, fM_lonely_L12, h0, z0, if_pos (nI_le (Nat.le_refl _) (by omega)), if_pos (nI_le (Nat.le_refl _) (by omega))]
    exact ⟨_, rfl, rfl⟩
  | succ d ih =>
    intro s e hs hu
    have ih' := ih (s + 1) e (by omega)
    rw [uK] at ih'
    have hu2 := uK_le (X 38) s
    rw [show d + 1 + 1 + e = (d + 1 + e) + 1 by omega, fG_lonely_L20, fM_lonely_L12, h0, z0, if_neg (nI_ge (by omega) (by omega)), if_neg (nI_ge (by omega) (by omega)), m_g_t (inb_nI (show s < 6 by omega) (by omega)), m_g_t (inb_nI (show s < 6 by omega) (by omega)), nI_clamp (show s < 2 ^ 31 by omega), if_neg (nI_pos (n := K - uK (X 38) s) (by omega)), if_neg zm, ← hk s (by omega)]
    by_cases c : X 38 s = 0
    · rw [if_pos c] at ih'
      rw [if_pos c, if_pos c]
      by_cases c2 : uK (X 38) s = K
      · rw [c2, Nat.sub_self, if_pos rfl, if_pos (show nI 0 = 0 from rfl)]
        exact ⟨_, rfl, rfl⟩
      · rw [if_neg (show ¬ nI (uK (X 38) s) = nI K from fun q => c2 ((nI_eq (by omega) hK).mp q)), if_neg (nI_ne0 (n := K - uK (X 38) s) (by omega) (by omega)), m_l_eq, m_l_eq, m_l_eq, m_l_eq, nI_1, nI_1]
        have e1 : nI (K - uK (X 38) s) + (-1) = nI (K - (uK (X 38) s + 1)) := by
          rw [show K - uK (X 38) s = (K - (uK (X 38) s + 1)) + 1 by omega, ← nI_1, Int32.add_assoc, show (1 : Int32) + -1 = 0 by decide, Int32.add_zero]
        rw [e1]
        exact ih' (by omega)
    · rw [if_neg c, Nat.add_zero] at ih'
      rw [if_neg c, if_neg c, m_l_eq, m_l_eq, nI_1]
      exact ih' hu
theorem e_lonely {X Y : mMem} (h : Rel X Y) (a1 : Int32) : ∃ r X' Y', fG_lonely X a1 = some (r, X') ∧ fM_lonely Y a1 = some (r, Y') ∧ Rel X' Y' := by
  obtain ⟨X1, s1, h1, s3⟩ := e_once h
  obtain ⟨ns, nk, st, k, cap, lo, hi, od, hE⟩ := eY_ex h.1
  have hns := hE.1
  have hx := h1.2.2.2.2.2 s3 ns nk st k cap lo hi od hE
  have hR1 := fold_1 (Y := Y) (nk := nk) (ns := ns) (x2 := -1) (x3 := 0) (x4 := 0) (eM nk lo hi od cap (stp st k)) R00
  have hlen := eM_len (nk := nk) (cap := cap) (lo := lo) (hi := hi) (od := od) hE.2.2.1
  obtain ⟨Z, z1, z2⟩ := e_go (md := 1) (x2 := -1) (x3 := 0) (x4 := 0) hE (Or.inr rfl)
  generalize (eM nk lo hi od cap (stp st k)).length = len at hR1 hlen
  generalize (eM nk lo hi od cap (stp st k)).foldl (fvM Y (-1) 0 0 ns nk) R00 = R at hx hR1 z2
  have hR1 : R.1 = nI len := by rw [hR1]; show (0 : Int32) + nI len = nI len; rw [Int32.zero_add]
  obtain ⟨zs, z25, -, zk, -, -, -⟩ := z2
  obtain ⟨x9, -, xk, -, -⟩ := hx
  have x0 : X1 1 0 = nI ns := h1.1.1.1.1.trans hE.2.2.2.2.1
  have z0 : Z 0 0 = nI ns := (zs.2 0 (by omega)).trans hE.2.2.2.2.1
  unfold fG_lonely fM_lonely
  rw [s1, m_b1_some, z1, m_b1_some, x9, hR1]
  by_cases c : len = 0
  · subst c
    rw [if_pos (show nI 0 = 0 from rfl), show (128 : Nat) = 127 + 1 from rfl, fM_lonely_L12, z0]
    refine ⟨-1, X1, Z, rfl, ?_, Rel_m h1 zs⟩
    by_cases q1 : nI ns ≤ 0
    · rw [if_pos q1]
    · rw [if_neg q1]
      by_cases q2 : a1 < 0
      · rw [if_pos q2]
      · rw [if_neg q2, z25, hR1, if_pos (show nI 0 ≤ 0 by decide)]
  · rw [if_neg (nI_ne0 (n := len) (by omega) (by omega))]
    have zm : ¬ Z 0 25 ≤ 0 := by
      rw [z25, hR1]
      exact nI_nle (by omega) (by omega)
    by_cases q2 : a1 < 0
    · have g := lon_neg (X := X1) hns x0 q2 ns 0 (127 - ns) (by omega)
      rw [show ns + 1 + (127 - ns) = 128 by omega] at g
      have g : fG_lonely_L20 a1 X1 128 0 0 = some (-1, X1) := g
      rw [g, show (128 : Nat) = 127 + 1 from rfl, fM_lonely_L12, z0]
      refine ⟨-1, X1, Z, rfl, ?_, Rel_m h1 zs⟩
      by_cases q1 : nI ns ≤ 0
      · rw [if_pos q1]
      · rw [if_neg q1, if_pos q2]
    · obtain ⟨K, hK, rfl⟩ := nI_of q2
      obtain ⟨r, g1, g2⟩ := lon_pos (X := X1) (Z := Z) (K := K) hns hK x0 z0 zm (fun s hs => (xk s hs).trans (zk s hs).symm) ns 0 (127 - ns) (by omega) (Nat.zero_le _)
      rw [show ns + 1 + (127 - ns) = 128 by omega] at g1 g2
      have g1 : fG_lonely_L20 (nI K) X1 128 0 0 = some (r, X1) := g1
      have g2 : fM_lonely_L12 Z 128 (nI K) 0 = some (r, Z) := g2
      rw [g1, g2]
      exact ⟨r, X1, Z, rfl, rfl, Rel_m h1 zs⟩
end RU3
