section TS10
/-- the counts behind a new test -/
theorem cS_new {ts : Nat → Int32} {n : Nat} {a s : Int32} : cS (upd ts n a) s (n + 1) = cS ts s n + if a = s then 1 else 0 := by
  rw [cS, upd_at, if_pos rfl, cS_eq (ts := upd ts n a) (ts' := ts) n (fun t ht => by rw [upd_at, if_neg (by omega)])]
theorem cS_old {ts : Nat → Int32} {n t : Nat} {a s : Int32} (h : t ≤ n) : cS (upd ts n a) s t = cS ts s t := cS_eq t (fun q hq => by rw [upd_at, if_neg (by omega)])
theorem cF_new {tr : Nat → Int32} {n : Nat} {r : Int32} : cF (upd tr n r) (n + 1) = cF tr n + if r ≤ 0 then 0 else 1 := by
  rw [cF, upd_at, if_pos rfl, cF_eq (tr := upd tr n r) (tr' := tr) n (fun t ht => by rw [upd_at, if_neg (by omega)])]
theorem cF_old {tr : Nat → Int32} {n t : Nat} {r : Int32} (h : t ≤ n) : cF (upd tr n r) t = cF tr t := cF_eq t (fun q hq => by rw [upd_at, if_neg (by omega)])
theorem cS_lt {ts : Nat → Int32} {s : Int32} {t n : Nat} (h : t < n) (e : ts t = s) : cS ts s t < cS ts s n := by
  have := cS_mono ts s (a := t + 1) n (by omega)
  rw [cS, if_pos e] at this
  omega
theorem cF_lt {tr : Nat → Int32} {t n : Nat} (h : t < n) (e : ¬ tr t ≤ 0) : cF tr t < cF tr n := by
  have := cF_mono tr (a := t + 1) n (by omega)
  rw [cF, if_neg e] at this
  omega
/-- the sieve's own row -/
theorem rG1_i {val ts tv : Nat → Int32} {sz : Int32} {n i : Nat} {v : Int32} (h : rG1 val sz ts tv n i) : rG1 (upd val (cS ts (nI i) n) v) (nI (cS ts (nI i) n + 1)) (upd ts n (nI i)) (upd tv n v) (n + 1) i := by
  refine ⟨by rw [cS_new, if_pos rfl], fun t ht he => ?_⟩
  rcases Nat.lt_or_ge t n with q | q
  · rw [upd_at, if_neg (by omega)] at he
    rw [cS_old (by omega), upd_at, if_neg (by have := cS_lt q he; omega), upd_at, if_neg (by omega)]
    exact h.2 t q he
  · have : t = n := by omega
    subst this
    rw [cS_old (Nat.le_refl _), upd_at, if_pos rfl, upd_at, if_pos rfl]
/-- another sieve's row -/
theorem rG1_o {val ts tv : Nat → Int32} {sz : Int32} {n i k : Nat} {v : Int32} (hi : i < 6) (hk : k < 6) (hne : k ≠ i) (h : rG1 val sz ts tv n k) : rG1 val sz (upd ts n (nI i)) (upd tv n v) (n + 1) k := by
  have ne : ¬ nI i = nI k := fun q => hne ((nI_eq (by omega) (by omega)).mp q).symm
  refine ⟨by rw [cS_new, if_neg ne, Nat.add_zero]; exact h.1, fun t ht he => ?_⟩
  rcases Nat.lt_or_ge t n with q | q
  · rw [upd_at, if_neg (by omega)] at he
    rw [cS_old (by omega), upd_at, if_neg (by omega)]
    exact h.2 t q he
  · have : t = n := by omega
    subst this
    rw [upd_at, if_pos rfl] at he
    exact absurd he ne
/-- both sides have written a test down -/
theorem Rel_test {X Y X' Y' : mMem} {n i u c : Nat} {r : Int32} (h : Rel X Y) (hi : i < 6) (hu : u ≤ 1000) (hn : n < 100) (en : Y 0 32 = nI n) (hc : c = cS (Y 19) (nI i) n) (hG : ∀ k, k < 6 → rG1 (X (73 + 1 + k)) (X 72 k) (Y 19) (Y 20) n k) (gF9 : X 71 3 = nI (cF (Y 22) n)) (gf : ∀ t, t < n → ¬ Y 22 t ≤ 0 → X 80 (cF (Y 22) t) = Y 19 t ∧ X 81 (cF (Y 22) t) = Y 21 t ∧ X 82 (cF (Y 22) t) = Y 22 t)
    (hr : r = 0 ∨ (¬ r = 0 ∧ ¬ r ≤ 0)) (x71 : X' 71 0 = nI (n + 1)) (x72 : X' 72 = upd (X 72) i (nI (c + 1))) (xi : X' (73 + 1 + i) = upd (X (73 + 1 + i)) c (nI u)) (xo : ∀ k, k < 6 → k ≠ i → X' (73 + 1 + k) = X (73 + 1 + k)) (xq : ∀ q, q < 71 → X' q = X q)
    (xf0 : r = 0 → X' 71 3 = X 71 3 ∧ X' 80 = X 80 ∧ X' 81 = X 81 ∧ X' 82 = X 82) (xf1 : ¬ r = 0 → X' 71 3 = nI (cF (Y 22) n + 1) ∧ X' 80 = upd (X 80) (cF (Y 22) n) (nI i) ∧ X' 81 = upd (X 81) (cF (Y 22) n) (nI c) ∧ X' 82 = upd (X 82) (cF (Y 22) n) r)
    (y19 : Y' 19 = upd (Y 19) n (nI i)) (y20 : Y' 20 = upd (Y 20) n (nI u)) (y21 : Y' 21 = upd (Y 21) n (nI c)) (y22 : Y' 22 = upd (Y 22) n r) (y32 : Y' 0 32 = nI (n + 1)) (yq : ∀ q, q ≠ 0 → q < 19 → Y' q = Y q) (y0 : ∀ f, f ≠ 32 → Y' 0 f = Y 0 f) : Rel X' Y' := by
  refine ⟨Rp_x h.1 (fun q g => xq q (by omega)) (by rw [xq 0 (by omega)]) (fun q g => yq q (by omega) (by omega)) (fun f g => y0 f (by omega)), ?_, ?_, ?_, ?_, rS_x h.2.2.2.2.2 (fun q g1 g2 => xq q (by omega)) (by rw [xq 0 (by omega)]) (fun q g1 g2 => yq q (by omega) (by omega)) (fun f g => y0 f (by omega))⟩
  · have hH := h.2.1
    unfold rH at hH ⊢
    rw [xq 66 (by omega), xq 67 (by omega), y0 18 (by decide), y0 3 (by decide), yq 13 (by decide) (by omega), yq 3 (by decide) (by omega)]
    exact hH
  · rw [xq 68 (by omega), y0 28 (by decide)]
    exact h.2.2.1
  · have all : ∀ k, k < 6 → rG1 (X' (73 + 1 + k)) (X' 72 k) (Y' 19) (Y' 20) (n + 1) k := by
      intro k hk
      rw [y19, y20, x72]
      by_cases e : k = i
      · subst e
        rw [xi, upd_at, if_pos rfl, hc]
        exact rG1_i (hG k hk)
      · rw [xo k hk e, upd_at, if_neg e]
        exact rG1_o hi hk e (hG k hk)
    refine ⟨by rw [x71, y32], n + 1, by omega, y32, ⟨all 0 (by omega), all 1 (by omega), all 2 (by omega), all 3 (by omega), all 4 (by omega), all 5 (by omega)⟩, ?_, ?_⟩
    · rw [y22, cF_new]
      rcases hr with q | ⟨q1, q2⟩
      · rw [(xf0 q).1, gF9, q, if_pos (by decide), Nat.add_zero]
      · rw [(xf1 q1).1, if_neg q2]
    · intro t ht hf
      rw [y22] at hf ⊢
      rw [y19, y21, cF_old (by omega)]
      rcases Nat.lt_or_ge t n with q | q
      · rw [upd_at, if_neg (by omega)] at hf
        rw [upd_at, upd_at, upd_at, if_neg (by omega), if_neg (by omega), if_neg (by omega)]
        rcases hr with z | ⟨z1, z2⟩
        · obtain ⟨-, g1, g2, g3⟩ := xf0 z
          rw [g1, g2, g3]
          exact gf t q hf
        · obtain ⟨-, g1, g2, g3⟩ := xf1 z1
          have lt := cF_lt q hf
          rw [g1, g2, g3, upd_at, upd_at, upd_at, if_neg (by omega), if_neg (by omega), if_neg (by omega)]
          exact gf t q hf
      · have : t = n := by omega
        subst this
        rw [upd_at, if_pos rfl] at hf
        rw [upd_at, upd_at, upd_at, if_pos rfl, if_pos rfl, if_pos rfl]
        rcases hr with z | ⟨z1, z2⟩
        · rw [z] at hf
          exact absurd (by decide) hf
        · obtain ⟨-, g1, g2, g3⟩ := xf1 z1
          rw [g1, g2, g3, upd_at, upd_at, upd_at, if_pos rfl, if_pos rfl, if_pos rfl]
          exact ⟨rfl, rfl, rfl⟩
  · intro m t hm e0 ht
    rw [y32] at e0
    have em : m = n + 1 := (nI_eq (by omega) (by omega)).mp e0.symm
    subst em
    rw [y20, upd_at]
    by_cases e : t = n
    · rw [if_pos e]
      exact ⟨u, hu, rfl⟩
    · rw [if_neg e]
      exact h.2.2.2.2.1 n t (by omega) en (by omega)
end TS10
