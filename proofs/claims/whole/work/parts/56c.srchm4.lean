section SRQ
variable {ns nk st k cap : Nat} {lo hi : Nat → Nat} {od : Nat → Bool} {Y0 : mMem} {md x2 x3 x4 : Int32}
/-- the reference in the midst of its search -/
def iM (md : Int32) (Y0 Y : mMem) (R : Rs) : Prop := smM Y0 Y ∧ hM md Y R
theorem hM_14 {Y Y' : mMem} {R : Rs} (h : hM md Y R) (g : ∀ q, q ≠ 14 → Y' q = Y q) : hM md Y' R := by
  unfold hM at h ⊢
  rw [g 0 (by decide), g 15 (by decide), g 16 (by decide)]
  exact h
theorem iM_14 {Y Y' : mMem} {R : Rs} (h : iM md Y0 Y R) (g : ∀ q, q ≠ 14 → Y' q = Y q) : iM md Y0 Y' R := ⟨smM_tr h.1 ⟨fun q _ b _ _ => g q b, fun f _ => by rw [g 0 (by decide)]⟩, hM_14 h.2 g⟩
/-- the mixes that begin with a, b and have c or what comes behind it -/
noncomputable def mxc (nk : Nat) (lo hi : Nat → Nat) (od : Nat → Bool) (cap a b c : Nat) : List Q4 := if a + b + c ≤ 100 then gvn (okM nk lo hi od cap (a, b, c, if 3 < nk then 100 - a - b - c else 0)) (a, b, c, if 3 < nk then 100 - a - b - c else 0) else []
theorem e_120 (hE : eY Y0 ns nk st k cap lo hi od) (hmd : md = 0 ∨ md = 1) {K : mMem → Int32 → Option mMem} {Y : mMem} {R : Rs} {a b c : Nat} (h : iM md Y0 Y R) (ha : Y 14 0 = nI a) (hb : Y 14 1 = nI b) (hc : a + b + c ≤ 100) :
    ∃ Y', fM_goThrough_B120 K md x2 x3 x4 (nI a) (nI b) Y (nI c) = K Y' (nI (c + st)) ∧ iM md Y0 Y' ((mxc nk lo hi od cap a b c).foldl (fvM Y0 x2 x3 x4 ns nk) R) ∧ Y' 14 0 = nI a ∧ Y' 14 1 = nI b := by
  have hnk : nk ≤ 4 := hE.2.1
  have hns : ns ≤ 6 := hE.1
  have hE1 := eY_sm hE h.1
  generalize hd : (if 3 < nk then 100 - a - b - c else 0) = dd
  have ed : mxc nk lo hi od cap a b c = gvn (okM nk lo hi od cap (a, b, c, dd)) (a, b, c, dd) := by
    unfold mxc
    rw [if_pos hc, hd]
  unfold fM_goThrough_B120
  rw [m_l_eq]
  have e14 : ∀ v : Int32, v = nI dd → ∃ Y', fM_goThrough_B156 K md x2 x3 x4 (mu Y 14 2 (nI c)) (nI c) v = K Y' (nI (c + st)) ∧ iM md Y0 Y' ((mxc nk lo hi od cap a b c).foldl (fvM Y0 x2 x3 x4 ns nk) R) ∧ Y' 14 0 = nI a ∧ Y' 14 1 = nI b := by
    intro v hv
    unfold fM_goThrough_B156
    rw [m_l_eq]
    generalize hZ : mu (mu Y 14 2 (nI c)) 14 3 v = Z
    have zr : ∀ q, q ≠ 14 → Z q = Y q := fun q g => by rw [← hZ, mu_ne _ _ _ g, mu_ne _ _ _ g]
    have z14 : ∀ j, Z 14 j = if j = 3 then v else if j = 2 then nI c else Y 14 j := fun j => by
      rw [← hZ, mu_app, mu_app]
      by_cases j3 : j = 3 <;> by_cases j2 : j = 2 <;> simp [j3, j2]
    have hI := iM_14 h zr
    have hEZ := eY_sm hE hI.1
    have hw : ∀ j, j < 4 → Z 14 j = wI (a, b, c, dd) j := by
      intro j hj
      have : j = 0 ∨ j = 1 ∨ j = 2 ∨ j = 3 := by omega
      rcases this with rfl | rfl | rfl | rfl
      · rw [z14]; exact ha
      · rw [z14]; exact hb
      · rw [z14]; rfl
      · rw [z14]; exact hv
    have hdd : dd ≤ 100 := by
      rw [← hd]
      by_cases q : 3 < nk
      · rw [if_pos q]; omega
      · rw [if_neg q]; omega
    obtain ⟨r, m1, m2⟩ := e_isMix hEZ hw (fun j hj => by
      have : j = 0 ∨ j = 1 ∨ j = 2 ∨ j = 3 := by omega
      rcases this with rfl | rfl | rfl | rfl
      · show a ≤ 100; omega
      · show b ≤ 100; omega
      · show c ≤ 100; omega
      · exact hdd)
    rw [m1, m_b1_some, ed]
    have z0 : Z 14 0 = nI a := by rw [z14]; exact ha
    have z1 : Z 14 1 = nI b := by rw [z14]; exact hb
    by_cases hr : r = 0
    · rw [if_pos hr, gvn_f (fun q => m2.mpr q hr), m_l_eq, hEZ.2.2.2.2.2.2.1, nI_add]
      exact ⟨Z, rfl, hI, z0, z1⟩
    · rw [if_neg hr, gvn_t (m2.mp hr)]
      obtain ⟨Y', l1, l2, l3, l4⟩ := e_lookM (x2 := x2) (x3 := x3) (x4 := x4) hmd hns hnk hEZ.2.2.2.2.1 hEZ.2.2.2.2.2.1 hI.2 hw
      rw [l1, m_b1_some, m_l_eq, (eY_sm hEZ l2).2.2.2.2.2.2.1, nI_add]
      rw [fvM_sm hI.1] at l4
      exact ⟨Y', rfl, ⟨smM_tr hI.1 l2, l4⟩, by rw [l3]; exact z0, by rw [l3]; exact z1⟩
  rw [mu_ne _ _ _ (show (0 : Nat) ≠ 14 by decide), hE1.2.2.2.2.2.1]
  by_cases q : nk ≤ 3
  · rw [if_pos (show nI nk ≤ 3 from nI_le (b := 3) q (by omega))]
    exact e14 0 (by rw [← hd, if_neg (by omega)]; rfl)
  · rw [if_neg (show ¬ nI nk ≤ 3 from nI_ge (a := 3) (by omega) (by omega))]
    refine e14 _ ?_
    rw [← hd, if_pos (by omega), show (100 : Int32) = nI 100 from rfl, nI_sub (by omega), nI_sub (by omega), nI_sub (by omega)]
/-- the third loop -/
theorem e_94 (hE : eY Y0 ns nk st k cap lo hi od) (hmd : md = 0 ∨ md = 1) {K : mMem → Int32 → Option mMem} {T : mMem → Prop} {a b : Nat} (hab : a + b ≤ 100) {R0 : Rs}
    (hK : ∀ Y, iM md Y0 Y (((if 2 < nk then stp st k else [0]).flatMap (mxc nk lo hi od cap a b)).foldl (fvM Y0 x2 x3 x4 ns nk) R0) → Y 14 0 = nI a → ∃ Z, K Y (nI (b + st)) = some Z ∧ T Z) :
    ∀ Y, iM md Y0 Y R0 → Y 14 0 = nI a → Y 14 1 = nI b → ∃ Z, fM_goThrough_L94 K md x2 x3 x4 (nI a) (nI b) 128 Y 0 = some Z ∧ T Z := by
  have hst : st * k = 100 := hE.2.2.1
  have hst0 : 0 < st := Nat.pos_of_ne_zero (fun q => by subst q; omega)
  have hnk : nk ≤ 4 := hE.2.1
  have hk : k ≤ 100 := by
    have := Nat.mul_le_mul_right k hst0
    omega
  have hs100 : st ≤ 100 := by
    have hk0 : 0 < k := Nat.pos_of_ne_zero (fun q => by subst q; omega)
    have := Nat.mul_le_mul_left st hk0
    omega
  have out : ∀ Y R, iM md Y0 Y R → R = ((if 2 < nk then stp st k else [0]).flatMap (mxc nk lo hi od cap a b)).foldl (fvM Y0 x2 x3 x4 ns nk) R0 → Y 14 0 = nI a → ∃ Z, fM_goThrough_B185 K Y (nI b) = some Z ∧ T Z := by
    intro Y R h hR ha
    unfold fM_goThrough_B185
    rw [m_l_eq, (eY_sm hE h.1).2.2.2.2.2.2.1, nI_add]
    exact hK Y (hR ▸ h) ha
  by_cases h2 : 2 < nk
  · rw [if_pos h2] at out
    have key : ∀ d n e, n + d = k + 1 → ∀ Y R, iM md Y0 Y R → (((List.range' n d).map (fun n => n * st)).flatMap (mxc nk lo hi od cap a b)).foldl (fvM Y0 x2 x3 x4 ns nk) R = ((stp st k).flatMap (mxc nk lo hi od cap a b)).foldl (fvM Y0 x2 x3 x4 ns nk) R0 → Y 14 0 = nI a → Y 14 1 = nI b → ∃ Z, fM_goThrough_L94 K md x2 x3 x4 (nI a) (nI b) (d + 1 + e) Y (nI (n * st)) = some Z ∧ T Z := by
      intro d
      induction d with
      | zero =>
        intro n e hn Y R h hR ha hb
        have hn : n = k + 1 := by omega
        subst hn
        have h9 : (k + 1) * st = 100 + st := by rw [Nat.succ_mul, Nat.mul_comm, hst]
        rw [show 0 + 1 + e = e + 1 by omega, fM_goThrough_L94, nI_add, nI_add, if_pos (show (100 : Int32) < nI (a + b + (k + 1) * st) from nI_lt (a := 100) (by omega) (by omega))]
        exact out Y R h hR ha
      | succ d ih =>
        intro n e hn Y R h hR ha hb
        have hns1 : n * st ≤ 100 := by
          rw [← hst, Nat.mul_comm]
          exact Nat.mul_le_mul_left st (by omega)
        rw [List.range'_succ, List.map_cons, List.flatMap_cons, List.foldl_append] at hR
        rw [show d + 1 + 1 + e = (d + 1 + e) + 1 by omega, fM_goThrough_L94, nI_add, nI_add]
        by_cases c1 : a + b + n * st ≤ 100
        · rw [if_neg (show ¬ (100 : Int32) < nI (a + b + n * st) from nI_nlt (a := 100) (by omega) (by omega))]
          have go : ∃ Z, fM_goThrough_B120 (fM_goThrough_L94 K md x2 x3 x4 (nI a) (nI b) (d + 1 + e)) md x2 x3 x4 (nI a) (nI b) Y (nI (n * st)) = some Z ∧ T Z := by
            obtain ⟨Y', r1, r2, r3, r4⟩ := e_120 (K := fM_goThrough_L94 K md x2 x3 x4 (nI a) (nI b) (d + 1 + e)) (x2 := x2) (x3 := x3) (x4 := x4) hE hmd h ha hb c1
            rw [r1, show n * st + st = (n + 1) * st from (Nat.succ_mul n st).symm]
            exact ih (n + 1) e (by omega) Y' _ r2 hR r3 r4
          by_cases c2 : nI (n * st) = 0
          · rw [if_pos c2]
            exact go
          · rw [if_neg c2, (eY_sm hE h.1).2.2.2.2.2.1, if_neg (show ¬ nI nk ≤ 2 from nI_ge (a := 2) h2 (by omega))]
            exact go
        · rw [if_pos (show (100 : Int32) < nI (a + b + n * st) from nI_lt (a := 100) (by omega) (by omega))]
          have nil : ∀ c, n * st ≤ c → mxc nk lo hi od cap a b c = [] := fun c hc => by unfold mxc; rw [if_neg (by omega)]
          rw [nil _ (Nat.le_refl _), List.foldl_nil, fm_nil, List.foldl_nil] at hR
          · exact out Y R h hR ha
          · intro c hc
            obtain ⟨n2, hn2, rfl⟩ := List.mem_map.mp hc
            have := (List.mem_range'_1.mp hn2).1
            exact nil _ (Nat.mul_le_mul_right st (by omega))
    intro Y h ha hb
    have h := key (k + 1) 0 (126 - k) (by omega) Y R0 h (by rw [← List.range_eq_range']; rfl) ha hb
    rw [show k + 1 + 1 + (126 - k) = 128 by omega, Nat.zero_mul] at h
    exact h
  · rw [if_neg h2] at out
    intro Y h ha hb
    rw [show (128 : Nat) = 127 + 1 from rfl, fM_goThrough_L94, show (0 : Int32) = nI 0 from rfl, nI_add, nI_add, if_neg (show ¬ (100 : Int32) < nI (a + b + 0) from nI_nlt (a := 100) (by omega) (by omega)), if_pos rfl]
    obtain ⟨Y', r1, r2, r3, r4⟩ := e_120 (K := fM_goThrough_L94 K md x2 x3 x4 (nI a) (nI b) 127) (x2 := x2) (x3 := x3) (x4 := x4) (c := 0) hE hmd h ha hb (by omega)
    rw [r1, Nat.zero_add, show (127 : Nat) = 126 + 1 from rfl, fM_goThrough_L94, nI_add, nI_add]
    have o2 := out Y' _ r2 (by rw [List.flatMap_cons, List.flatMap_nil, List.append_nil]) r3
    by_cases c1 : a + b + st ≤ 100
    · rw [if_neg (show ¬ (100 : Int32) < nI (a + b + st) from nI_nlt (a := 100) (by omega) (by omega)), if_neg (show ¬ nI st = 0 from nI_ne0 hst0 (by omega)), (eY_sm hE r2.1).2.2.2.2.2.1, if_pos (show nI nk ≤ 2 from nI_le (b := 2) (by omega) (by omega))]
      exact o2
    · rw [if_pos (show (100 : Int32) < nI (a + b + st) from nI_lt (a := 100) (by omega) (by omega))]
      exact o2
/-- the mixes that begin with a and have b -/
noncomputable def mxb (nk st k : Nat) (lo hi : Nat → Nat) (od : Nat → Bool) (cap a b : Nat) : List Q4 := if a + b ≤ 100 then (if 2 < nk then stp st k else [0]).flatMap (mxc nk lo hi od cap a b) else []
/-- the second loop -/
theorem e_60 (hE : eY Y0 ns nk st k cap lo hi od) (hmd : md = 0 ∨ md = 1) {K : mMem → Int32 → Option mMem} {T : mMem → Prop} {a : Nat} (haa : a ≤ 100) {R0 : Rs}
    (hK : ∀ Y, iM md Y0 Y (((if 1 < nk then stp st k else [0]).flatMap (mxb nk st k lo hi od cap a)).foldl (fvM Y0 x2 x3 x4 ns nk) R0) → ∃ Z, K Y (nI (a + st)) = some Z ∧ T Z) :
    ∀ Y, iM md Y0 Y R0 → Y 14 0 = nI a → ∃ Z, fM_goThrough_L60 K md x2 x3 x4 (nI a) 128 Y 0 = some Z ∧ T Z := by
  have hst : st * k = 100 := hE.2.2.1
  have hst0 : 0 < st := Nat.pos_of_ne_zero (fun q => by subst q; omega)
  have hnk : nk ≤ 4 := hE.2.1
  have hk : k ≤ 100 := by
    have := Nat.mul_le_mul_right k hst0
    omega
  have hs100 : st ≤ 100 := by
    have hk0 : 0 < k := Nat.pos_of_ne_zero (fun q => by subst q; omega)
    have := Nat.mul_le_mul_left st hk0
    omega
  have out : ∀ Y R, iM md Y0 Y R → R = ((if 1 < nk then stp st k else [0]).flatMap (mxb nk st k lo hi od cap a)).foldl (fvM Y0 x2 x3 x4 ns nk) R0 → ∃ Z, fM_goThrough_B197 K Y (nI a) = some Z ∧ T Z := by
    intro Y R h hR
    unfold fM_goThrough_B197
    rw [m_l_eq, (eY_sm hE h.1).2.2.2.2.2.2.1, nI_add]
    exact hK Y (hR ▸ h)
  have put : ∀ {Y : mMem} {R : Rs} {b : Nat}, iM md Y0 Y R → Y 14 0 = nI a → iM md Y0 (mu Y 14 1 (nI b)) R ∧ mu Y 14 1 (nI b) 14 0 = nI a ∧ mu Y 14 1 (nI b) 14 1 = nI b := by
    intro Y R b h ha
    refine ⟨iM_14 h (fun q g => mu_ne _ _ _ g), ?_, ?_⟩
    · rw [mu_app, if_neg (by omega)]; exact ha
    · rw [mu_app, if_pos ⟨rfl, rfl⟩]
  by_cases h1 : 1 < nk
  · rw [if_pos h1] at out
    have key : ∀ d n e, n + d = k + 1 → ∀ Y R, iM md Y0 Y R → (((List.range' n d).map (fun n => n * st)).flatMap (mxb nk st k lo hi od cap a)).foldl (fvM Y0 x2 x3 x4 ns nk) R = ((stp st k).flatMap (mxb nk st k lo hi od cap a)).foldl (fvM Y0 x2 x3 x4 ns nk) R0 → Y 14 0 = nI a → ∃ Z, fM_goThrough_L60 K md x2 x3 x4 (nI a) (d + 1 + e) Y (nI (n * st)) = some Z ∧ T Z := by
      intro d
      induction d with
      | zero =>
        intro n e hn Y R h hR ha
        have hn : n = k + 1 := by omega
        subst hn
        have h9 : (k + 1) * st = 100 + st := by rw [Nat.succ_mul, Nat.mul_comm, hst]
        rw [show 0 + 1 + e = e + 1 by omega, fM_goThrough_L60, nI_add, if_pos (show (100 : Int32) < nI (a + (k + 1) * st) from nI_lt (a := 100) (by omega) (by omega))]
        exact out Y R h hR
      | succ d ih =>
        intro n e hn Y R h hR ha
        have hns1 : n * st ≤ 100 := by
          rw [← hst, Nat.mul_comm]
          exact Nat.mul_le_mul_left st (by omega)
        rw [List.range'_succ, List.map_cons, List.flatMap_cons, List.foldl_append] at hR
        rw [show d + 1 + 1 + e = (d + 1 + e) + 1 by omega, fM_goThrough_L60, nI_add]
        by_cases c1 : a + n * st ≤ 100
        · rw [if_neg (show ¬ (100 : Int32) < nI (a + n * st) from nI_nlt (a := 100) (by omega) (by omega)), m_l_eq]
          obtain ⟨p1, p2, p3⟩ := put (b := n * st) h ha
          have go : ∃ Z, fM_goThrough_L94 (fM_goThrough_L60 K md x2 x3 x4 (nI a) (d + 1 + e)) md x2 x3 x4 (nI a) (nI (n * st)) 128 (mu Y 14 1 (nI (n * st))) 0 = some Z ∧ T Z := by
            refine e_94 hE hmd c1 (fun Y' q1 q2 => ?_) _ p1 p2 p3
            rw [show n * st + st = (n + 1) * st from (Nat.succ_mul n st).symm]
            refine ih (n + 1) e (by omega) Y' _ q1 ?_ q2
            rw [← hR]
            unfold mxb
            rw [if_pos c1]
          by_cases c2 : nI (n * st) = 0
          · rw [if_pos c2]
            exact go
          · rw [if_neg c2, (eY_sm hE h.1).2.2.2.2.2.1, if_neg (show ¬ nI nk ≤ 1 from nI_ge (a := 1) h1 (by omega))]
            exact go
        · rw [if_pos (show (100 : Int32) < nI (a + n * st) from nI_lt (a := 100) (by omega) (by omega))]
          have nil : ∀ c, n * st ≤ c → mxb nk st k lo hi od cap a c = [] := fun c hc => by unfold mxb; rw [if_neg (by omega)]
          rw [nil _ (Nat.le_refl _), List.foldl_nil, fm_nil, List.foldl_nil] at hR
          · exact out Y R h hR
          · intro c hc
            obtain ⟨n2, hn2, rfl⟩ := List.mem_map.mp hc
            have := (List.mem_range'_1.mp hn2).1
            exact nil _ (Nat.mul_le_mul_right st (by omega))
    intro Y h ha
    have h := key (k + 1) 0 (126 - k) (by omega) Y R0 h (by rw [← List.range_eq_range']; rfl) ha
    rw [show k + 1 + 1 + (126 - k) = 128 by omega, Nat.zero_mul] at h
    exact h
  · rw [if_neg h1] at out
    intro Y h ha
    obtain ⟨p1, p2, p3⟩ := put (b := 0) h ha
    rw [show (128 : Nat) = 127 + 1 from rfl, fM_goThrough_L60, show (0 : Int32) = nI 0 from rfl, nI_add, if_neg (show ¬ (100 : Int32) < nI (a + 0) from nI_nlt (a := 100) (by omega) (by omega)), if_pos rfl, m_l_eq]
    refine e_94 (b := 0) hE hmd (by omega) (fun Y' q1 q2 => ?_) _ p1 p2 p3
    rw [Nat.zero_add, show (127 : Nat) = 126 + 1 from rfl, fM_goThrough_L60, nI_add]
    have o2 := out Y' _ q1 (by rw [List.flatMap_cons, List.flatMap_nil, List.append_nil]; unfold mxb; rw [if_pos (show a + 0 ≤ 100 by omega)])
    by_cases c1 : a + st ≤ 100
    · rw [if_neg (show ¬ (100 : Int32) < nI (a + st) from nI_nlt (a := 100) (by omega) (by omega)), if_neg (show ¬ nI st = 0 from nI_ne0 hst0 (by omega)), (eY_sm hE q1.1).2.2.2.2.2.1, if_pos (show nI nk ≤ 1 from nI_le (b := 1) (by omega) (by omega))]
      exact o2
    · rw [if_pos (show (100 : Int32) < nI (a + st) from nI_lt (a := 100) (by omega) (by omega))]
      exact o2
/-- the first loop -/
theorem e_42 (hE : eY Y0 ns nk st k cap lo hi od) (hmd : md = 0 ∨ md = 1) {R0 : Rs} : ∀ Y, iM md Y0 Y R0 → ∃ Z, fM_goThrough_L42 md x2 x3 x4 128 Y 0 = some Z ∧ iM md Y0 Z ((eM nk lo hi od cap (stp st k)).foldl (fvM Y0 x2 x3 x4 ns nk) R0) := by
  have hst : st * k = 100 := hE.2.2.1
  have hst0 : 0 < st := Nat.pos_of_ne_zero (fun q => by subst q; omega)
  have hk : k ≤ 100 := by
    have := Nat.mul_le_mul_right k hst0
    omega
  have hs100 : st ≤ 100 := by
    have hk0 : 0 < k := Nat.pos_of_ne_zero (fun q => by subst q; omega)
    have := Nat.mul_le_mul_left st hk0
    omega
  have ee : eM nk lo hi od cap (stp st k) = (stp st k).flatMap (fun a => (if 1 < nk then stp st k else [0]).flatMap (mxb nk st k lo hi od cap a)) := rfl
  rw [ee]
  have key : ∀ d n e, n + d = k + 1 → ∀ Y R, iM md Y0 Y R → (((List.range' n d).map (fun n => n * st)).flatMap (fun a => (if 1 < nk then stp st k else [0]).flatMap (mxb nk st k lo hi od cap a))).foldl (fvM Y0 x2 x3 x4 ns nk) R = ((stp st k).flatMap (fun a => (if 1 < nk then stp st k else [0]).flatMap (mxb nk st k lo hi od cap a))).foldl (fvM Y0 x2 x3 x4 ns nk) R0 → ∃ Z, fM_goThrough_L42 md x2 x3 x4 (d + 1 + e) Y (nI (n * st)) = some Z ∧ iM md Y0 Z (((stp st k).flatMap (fun a => (if 1 < nk then stp st k else [0]).flatMap (mxb nk st k lo hi od cap a))).foldl (fvM Y0 x2 x3 x4 ns nk) R0) := by
    intro d
    induction d with
    | zero =>
      intro n e hn Y R h hR
      have hn : n = k + 1 := by omega
      subst hn
      have h9 : (k + 1) * st = 100 + st := by rw [Nat.succ_mul, Nat.mul_comm, hst]
      rw [show 0 + 1 + e = e + 1 by omega, fM_goThrough_L42, if_pos (show (100 : Int32) < nI ((k + 1) * st) from nI_lt (a := 100) (by omega) (by omega))]
      exact ⟨Y, rfl, hR ▸ h⟩
    | succ d ih =>
      intro n e hn Y R h hR
      have hns1 : n * st ≤ 100 := by
        rw [← hst, Nat.mul_comm]
        exact Nat.mul_le_mul_left st (by omega)
      rw [List.range'_succ, List.map_cons, List.flatMap_cons, List.foldl_append] at hR
      rw [show d + 1 + 1 + e = (d + 1 + e) + 1 by omega, fM_goThrough_L42, if_neg (show ¬ (100 : Int32) < nI (n * st) from nI_nlt (a := 100) (by omega) (by omega)), m_l_eq]
      refine e_60 hE hmd hns1 (fun Y' q1 => ?_) _ (iM_14 h (fun q g => mu_ne _ _ _ g)) (by rw [mu_app, if_pos ⟨rfl, rfl⟩])
      rw [show n * st + st = (n + 1) * st from (Nat.succ_mul n st).symm]
      exact ih (n + 1) e (by omega) Y' _ q1 hR
  intro Y h
  have h := key (k + 1) 0 (126 - k) (by omega) Y R0 h (by rw [← List.range_eq_range']; rfl)
  rw [show k + 1 + 1 + (126 - k) = 128 by omega, Nat.zero_mul] at h
  exact h
def R00 : Rs := (0, 0, fun _ => 0, (0, 0, (0, 0, 0, 0)), (0, 0, 0, (0, 0, 0, 0)))
def g16 (Y : mMem) (s : Nat) : mMem := fun q => if q = 16 then gR (fun _ => 0) (Y 16) s else Y q
theorem g16_ne (Y : mMem) (s : Nat) {q : Nat} (h : q ≠ 16) : g16 Y s q = Y q := by unfold g16; rw [if_neg h]
theorem g16_eq (Y : mMem) (s : Nat) : g16 Y s 16 = gR (fun _ => 0) (Y 16) s := by unfold g16; rw [if_pos rfl]
theorem g16_0 (Y : mMem) : g16 Y 0 = Y := by
  funext q
  by_cases h : q = 16
  · subst h
    rw [g16_eq, gR_0]
  · rw [g16_ne _ _ h]
theorem g16_1 (Y : mMem) (s : Nat) : mu (g16 Y s) 16 s 0 = g16 Y (s + 1) := by
  funext q
  by_cases h : q = 16
  · subst h
    rw [mu_self, g16_eq, g16_eq, ← gR_1]
  · rw [mu_ne _ _ _ h, g16_ne _ _ h, g16_ne _ _ h]
theorem e_18 (Y : mMem) : fM_goThrough_L18 md x2 x3 x4 128 Y 0 = fM_goThrough_L42 md x2 x3 x4 128 (g16 Y 6) 0 := by
  have key : ∀ d s e, s + d = 6 → fM_goThrough_L18 md x2 x3 x4 (d + 1 + e) (g16 Y s) (nI s) = fM_goThrough_L42 md x2 x3 x4 128 (g16 Y 6) 0 := by
    intro d
    induction d with
    | zero =>
      intro s e hs
      have hs : s = 6 := by omega
      subst hs
      rw [show 0 + 1 + e = e + 1 by omega, fM_goThrough_L18, if_pos (show (6 : Int32) ≤ nI 6 from nI_le (a := 6) (Nat.le_refl _) (by omega))]
    | succ d ih =>
      intro s e hs
      rw [show d + 1 + 1 + e = (d + 1 + e) + 1 by omega, fM_goThrough_L18, if_neg (show ¬ (6 : Int32) ≤ nI s from nI_ge (b := 6) (by omega) (by omega)), m_g_t (inb_nI (by omega) (by omega)), nI_clamp (show s < 2 ^ 31 by omega), m_l_eq, m_l_eq, nI_1, g16_1]
      exact ih (s + 1) e (by omega)
  have h := key 6 0 121 (by omega)
  rw [g16_0] at h
  exact h
/-- the reference's search: all mixes, one behind the other -/
theorem e_go (hE : eY Y0 ns nk st k cap lo hi od) (hmd : md = 0 ∨ md = 1) : ∃ Z, fM_goThrough Y0 md x2 x3 x4 = some Z ∧ iM md Y0 Z ((eM nk lo hi od cap (stp st k)).foldl (fvM Y0 x2 x3 x4 ns nk) R00) := by
  unfold fM_goThrough
  rw [m_l_eq, m_l_eq, m_l_eq, e_18]
  generalize hV : mu (mu (mu Y0 0 22 0) 0 25 0) 0 26 0 = V
  have v0 : ∀ f, V 0 f = if f = 26 then 0 else if f = 25 then 0 else if f = 22 then 0 else Y0 0 f := fun f => by
    rw [← hV, mu_app, mu_app, mu_app]
    by_cases h1 : f = 26 <;> by_cases h2 : f = 25 <;> by_cases h3 : f = 22 <;> simp [h1, h2, h3]
  have vq : ∀ q, q ≠ 0 → V q = Y0 q := fun q h => by rw [← hV, mu_ne _ _ _ h, mu_ne _ _ _ h, mu_ne _ _ _ h]
  have w0 : ∀ f, g16 V 6 0 f = V 0 f := fun f => by rw [g16_ne _ _ (by decide)]
  refine e_42 hE hmd _ ⟨⟨fun q a1 a2 a3 a4 => by rw [g16_ne _ _ a4, vq q a1], fun f hf => ?_⟩, ?_⟩
  · rw [w0, v0, if_neg (by omega), if_neg (by omega), if_neg (by omega)]
  · refine ⟨by rw [w0, v0]; rfl, by rw [w0, v0]; rfl, ?_, fun _ => Or.inl rfl, fun _ => ⟨by rw [w0, v0]; rfl, fun q => absurd rfl q⟩, fun _ => ⟨by rw [w0, v0]; rfl, fun q => absurd rfl q⟩⟩
    intro s hs
    rw [g16_eq]
    unfold gR
    rw [if_pos hs]
    rfl
end SRQ
