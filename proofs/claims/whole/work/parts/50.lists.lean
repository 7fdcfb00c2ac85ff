/-! The mixes in the order in which both sides meet them: shares of four stocks, a list. -/
section LST
theorem fm_congr {α β : Type} {l : List α} {f g : α → List β} (h : ∀ a ∈ l, f a = g a) : l.flatMap f = l.flatMap g := by
  induction l with
  | nil => rfl
  | cons a l ih =>
    rw [List.flatMap_cons, List.flatMap_cons, h a List.mem_cons_self, ih (fun b hb => h b (List.mem_cons_of_mem _ hb))]
theorem fm_nil {α β : Type} {l : List α} {f : α → List β} (h : ∀ a ∈ l, f a = []) : l.flatMap f = [] := by
  induction l with
  | nil => rfl
  | cons a l ih =>
    rw [List.flatMap_cons, h a List.mem_cons_self, ih (fun b hb => h b (List.mem_cons_of_mem _ hb))]
    rfl
theorem fm_one {β : Type} {f : Nat → List β} {t : Nat} : ∀ {l : List Nat}, l.Nodup → t ∈ l → (∀ s ∈ l, s ≠ t → f s = []) → l.flatMap f = f t
  | [], _, ht, _ => absurd ht List.not_mem_nil
  | a :: l, hn, ht, h => by
    rw [List.flatMap_cons]
    obtain ⟨h1, h2⟩ := List.nodup_cons.mp hn
    by_cases e : a = t
    · subst e
      rw [fm_nil (fun s hs => h s (List.mem_cons_of_mem _ hs) (fun q => h1 (q ▸ hs))), List.append_nil]
    · rw [h a List.mem_cons_self e, fm_one h2 ((List.mem_cons.mp ht).resolve_left (fun q => e q.symm)) (fun s hs => h s (List.mem_cons_of_mem _ hs))]
      rfl
abbrev Q4 : Type := Nat × Nat × Nat × Nat
def q4g (w : Q4) (j : Nat) : Nat := if j = 0 then w.1 else if j = 1 then w.2.1 else if j = 2 then w.2.2.1 else w.2.2.2
def q4s (w : Q4) (i s : Nat) : Q4 := if i = 0 then (s, w.2) else if i = 1 then (w.1, s, w.2.2) else if i = 2 then (w.1, w.2.1, s, w.2.2.2) else (w.1, w.2.1, w.2.2.1, s)
def eC (lo hi : Nat → Nat) (od : Nat → Bool) (L : List Nat) : Nat → Nat → Nat → Nat → Q4 → List Q4
  | 0, i, left, ol, w => if lo i ≤ left ∧ left ≤ hi i ∧ (od i = true → left ≤ ol) then [q4s w i left] else []
  | r + 1, i, left, ol, w => L.flatMap (fun s => if lo i ≤ s ∧ s ≤ hi i ∧ s ≤ left ∧ (od i = true → s ≤ ol) then eC lo hi od L r (i + 1) (left - s) (if od i = true then ol - s else ol) (q4s w i s) else [])
def okk (nk : Nat) (lo hi : Nat → Nat) (w : Q4) (k : Nat) : Prop := if k < nk then lo k ≤ q4g w k ∧ q4g w k ≤ hi k else q4g w k = 0
def odk (nk : Nat) (od : Nat → Bool) (w : Q4) (k : Nat) : Nat := if k < nk then (if od k = true then q4g w k else 0) else 0
def okM (nk : Nat) (lo hi : Nat → Nat) (od : Nat → Bool) (cap : Nat) (w : Q4) : Prop := okk nk lo hi w 0 ∧ okk nk lo hi w 1 ∧ okk nk lo hi w 2 ∧ okk nk lo hi w 3 ∧ q4g w 0 + q4g w 1 + q4g w 2 + q4g w 3 = 100 ∧ odk nk od w 0 + odk nk od w 1 + odk nk od w 2 + odk nk od w 3 ≤ cap
theorem okk_dec (nk : Nat) (lo hi : Nat → Nat) (w : Q4) (k : Nat) : okk nk lo hi w k ∨ ¬ okk nk lo hi w k := Classical.em _
/-- one mix, or none -/
noncomputable def gvn (P : Prop) (w : Q4) : List Q4 := @ite _ P (Classical.propDecidable P) [w] []
theorem gvn_t {P : Prop} {w : Q4} (h : P) : gvn P w = [w] := by unfold gvn; rw [if_pos h]
theorem gvn_f {P : Prop} {w : Q4} (h : ¬ P) : gvn P w = [] := by unfold gvn; rw [if_neg h]
theorem gvn_c {P Q : Prop} {w : Q4} (h : P ↔ Q) : gvn P w = gvn Q w := by
  by_cases p : P
  · rw [gvn_t p, gvn_t (h.mp p)]
  · rw [gvn_f p, gvn_f (fun q => p (h.mpr q))]
noncomputable def eM (nk : Nat) (lo hi : Nat → Nat) (od : Nat → Bool) (cap : Nat) (L : List Nat) : List Q4 :=
  L.flatMap fun a => (if 1 < nk then L else [0]).flatMap fun b => if a + b ≤ 100 then (if 2 < nk then L else [0]).flatMap fun c => if a + b + c ≤ 100 then gvn (okM nk lo hi od cap (a, b, c, if 3 < nk then 100 - a - b - c else 0)) (a, b, c, if 3 < nk then 100 - a - b - c else 0) else [] else []
variable {lo hi : Nat → Nat} {od : Nat → Bool} {cap : Nat} {L : List Nat}
theorem eM_0 : eM 0 lo hi od cap L = [] := by
  unfold eM
  refine fm_nil fun a ha => fm_nil fun b hb => ?_
  by_cases h : a + b ≤ 100
  · rw [if_pos h]
    refine fm_nil fun c hc => ?_
    by_cases h2 : a + b + c ≤ 100
    · rw [if_pos h2]
      refine gvn_f fun q => ?_
      obtain ⟨q0, q1, q2, q3, q4, -⟩ := q
      simp [okk, q4g] at q0 q1 q2 q3 q4
      omega
    · rw [if_neg h2]
  · rw [if_neg h]
/-- what the steps of 100 are -/
def okL (L : List Nat) : Prop := L.Nodup ∧ (∀ a ∈ L, a ≤ 100) ∧ 0 ∈ L ∧ ∀ a ∈ L, 100 - a ∈ L ∧ ∀ b ∈ L, 100 - a - b ∈ L
theorem e_1 (hL : okL L) : eC lo hi od L 0 0 100 cap (0, 0, 0, 0) = eM 1 lo hi od cap L := by
  obtain ⟨hn, hle, h0, hs⟩ := hL
  have h100 : 100 ∈ L := (hs 0 h0).1
  have e : eM 1 lo hi od cap L = gvn (okM 1 lo hi od cap (100, 0, 0, 0)) (100, 0, 0, 0) := by
    unfold eM
    rw [fm_one (t := 100) hn h100 ?_]
    · simp
    · intro a ha hne
      have := hle a ha
      simp only [Nat.lt_irrefl, if_false, List.flatMap_cons, List.flatMap_nil, List.append_nil, Nat.add_zero]
      rw [if_pos this]
      have e2 : ¬ (2 < 1) := by omega
      have e3 : ¬ (3 < 1) := by omega
      rw [if_neg e2]
      simp only [if_neg e3, List.flatMap_cons, List.flatMap_nil, List.append_nil, Nat.add_zero]
      rw [if_pos this]
      refine gvn_f fun q => ?_
      have := q.2.2.2.2.1
      simp [q4g] at this
      exact hne this
  rw [e]
  unfold eC
  have key : (lo 0 ≤ 100 ∧ 100 ≤ hi 0 ∧ (od 0 = true → 100 ≤ cap)) ↔ okM 1 lo hi od cap (100, 0, 0, 0) := by
    cases h0 : od 0 <;> simp [okM, okk, odk, q4g, h0, and_assoc]
  by_cases p : lo 0 ≤ 100 ∧ 100 ≤ hi 0 ∧ (od 0 = true → 100 ≤ cap)
  · rw [if_pos p, gvn_t (key.mp p)]
    rfl
  · rw [if_neg p, gvn_f (fun q => p (key.mpr q))]
theorem okM_2 {a b : Nat} : okM 2 lo hi od cap (a, b, 0, 0) ↔ ((lo 0 ≤ a ∧ a ≤ hi 0) ∧ (lo 1 ≤ b ∧ b ≤ hi 1) ∧ a + b = 100 ∧ (if od 0 = true then a else 0) + (if od 1 = true then b else 0) ≤ cap) := by
  simp [okM, okk, odk, q4g]
theorem okM_3 {a b c : Nat} : okM 3 lo hi od cap (a, b, c, 0) ↔ ((lo 0 ≤ a ∧ a ≤ hi 0) ∧ (lo 1 ≤ b ∧ b ≤ hi 1) ∧ (lo 2 ≤ c ∧ c ≤ hi 2) ∧ a + b + c = 100 ∧ (if od 0 = true then a else 0) + (if od 1 = true then b else 0) + (if od 2 = true then c else 0) ≤ cap) := by
  simp [okM, okk, odk, q4g]
theorem okM_4 {a b c d : Nat} : okM 4 lo hi od cap (a, b, c, d) ↔ ((lo 0 ≤ a ∧ a ≤ hi 0) ∧ (lo 1 ≤ b ∧ b ≤ hi 1) ∧ (lo 2 ≤ c ∧ c ≤ hi 2) ∧ (lo 3 ≤ d ∧ d ≤ hi 3) ∧ a + b + c + d = 100 ∧ (if od 0 = true then a else 0) + (if od 1 = true then b else 0) + (if od 2 = true then c else 0) + (if od 3 = true then d else 0) ≤ cap) := by
  simp [okM, okk, odk, q4g]
theorem ite_gvn {P : Prop} {x : Decidable P} {w : Q4} : (if P then [w] else []) = gvn P w := by
  by_cases p : P
  · rw [if_pos p, gvn_t p]
  · rw [if_neg p, gvn_f p]
theorem e_2 (hL : okL L) : eC lo hi od L 1 0 100 cap (0, 0, 0, 0) = eM 2 lo hi od cap L := by
  obtain ⟨hn, hle, h0, hs⟩ := hL
  have e2 : ¬ (2 < 2) := by omega
  have e3 : ¬ (3 < 2) := by omega
  have e1 : 1 < 2 := by omega
  unfold eM eC
  refine fm_congr fun a ha => ?_
  have ha1 := hle a ha
  rw [if_pos e1]
  have hin : 100 - a ∈ L := (hs a ha).1
  rw [fm_one (t := 100 - a) hn hin ?_]
  · rw [if_pos (show a + (100 - a) ≤ 100 by omega), if_neg e2, List.flatMap_cons, List.flatMap_nil, List.append_nil, if_pos (show a + (100 - a) + 0 ≤ 100 by omega), if_neg e3]
    unfold eC
    rw [ite_gvn]
    by_cases c0 : lo 0 ≤ a ∧ a ≤ hi 0 ∧ a ≤ 100 ∧ (od 0 = true → a ≤ cap)
    · rw [if_pos c0]
      refine (gvn_c ?_)
      rw [okM_2]
      cases h0 : od 0 <;> cases h1 : od 1 <;> simp [h0, h1] at c0 ⊢ <;> omega
    · rw [if_neg c0, gvn_f (fun q => c0 ?_)]
      rw [okM_2] at q
      cases h0 : od 0 <;> cases h1 : od 1 <;> simp [h0, h1] at q ⊢ <;> omega
  · intro b hb hne
    by_cases h : a + b ≤ 100
    · rw [if_pos h, if_neg e2, List.flatMap_cons, List.flatMap_nil, List.append_nil, if_pos (show a + b + 0 ≤ 100 by omega), if_neg e3]
      refine gvn_f fun q => ?_
      rw [okM_2] at q
      omega
    · rw [if_neg h]
theorem e_3 (hL : okL L) : eC lo hi od L 2 0 100 cap (0, 0, 0, 0) = eM 3 lo hi od cap L := by
  obtain ⟨hn, hle, h0, hs⟩ := hL
  have e3 : ¬ (3 < 3) := by omega
  have e2 : 2 < 3 := by omega
  have e1 : 1 < 3 := by omega
  have inner : ∀ a ∈ L, ∀ b ∈ L, (if a + b ≤ 100 then (if 2 < 3 then L else [0]).flatMap fun c => if a + b + c ≤ 100 then gvn (okM 3 lo hi od cap (a, b, c, if 3 < 3 then 100 - a - b - c else 0)) (a, b, c, if 3 < 3 then 100 - a - b - c else 0) else [] else []) = if a + b ≤ 100 then gvn (okM 3 lo hi od cap (a, b, 100 - a - b, 0)) (a, b, 100 - a - b, 0) else [] := by
    intro a ha b hb
    by_cases h : a + b ≤ 100
    · rw [if_pos h, if_pos h, if_pos e2]
      simp only [if_neg e3]
      rw [fm_one (t := 100 - a - b) hn ((hs a ha).2 b hb) ?_]
      · rw [if_pos (show a + b + (100 - a - b) ≤ 100 by omega)]
      · intro c hc hne
        by_cases h2 : a + b + c ≤ 100
        · rw [if_pos h2]
          refine gvn_f fun q => ?_
          rw [okM_3] at q
          omega
        · rw [if_neg h2]
    · rw [if_neg h, if_neg h]
  unfold eM
  rw [show eC lo hi od L 2 0 100 cap (0, 0, 0, 0) = L.flatMap (fun s => if lo 0 ≤ s ∧ s ≤ hi 0 ∧ s ≤ 100 ∧ (od 0 = true → s ≤ cap) then eC lo hi od L 1 1 (100 - s) (if od 0 = true then cap - s else cap) (s, 0, 0, 0) else []) from rfl]
  refine fm_congr fun a ha => ?_
  have ha1 := hle a ha
  rw [if_pos e1, fm_congr (fun b hb => inner a ha b hb)]
  by_cases c0 : lo 0 ≤ a ∧ a ≤ hi 0 ∧ a ≤ 100 ∧ (od 0 = true → a ≤ cap)
  · rw [if_pos c0]
    rw [show ∀ o, eC lo hi od L 1 1 (100 - a) o (a, 0, 0, 0) = L.flatMap (fun s => if lo 1 ≤ s ∧ s ≤ hi 1 ∧ s ≤ 100 - a ∧ (od 1 = true → s ≤ o) then eC lo hi od L 0 2 (100 - a - s) (if od 1 = true then o - s else o) (a, s, 0, 0) else []) from fun _ => rfl]
    refine fm_congr fun b hb => ?_
    by_cases c1 : lo 1 ≤ b ∧ b ≤ hi 1 ∧ b ≤ 100 - a ∧ (od 1 = true → b ≤ (if od 0 = true then cap - a else cap))
    · rw [if_pos c1, if_pos (show a + b ≤ 100 by omega)]
      unfold eC
      rw [ite_gvn]
      refine (gvn_c ?_)
      rw [okM_3]
      cases h0 : od 0 <;> cases h1 : od 1 <;> cases h2 : od 2 <;> simp [h0, h1, h2] at c0 c1 ⊢ <;> omega
    · rw [if_neg c1]
      by_cases h : a + b ≤ 100
      · rw [if_pos h, gvn_f (fun q => c1 ?_)]
        rw [okM_3] at q
        cases h0 : od 0 <;> cases h1 : od 1 <;> cases h2 : od 2 <;> simp [h0, h1, h2] at q ⊢ <;> omega
      · rw [if_neg h]
  · rw [if_neg c0, fm_nil (fun b hb => ?_)]
    by_cases h : a + b ≤ 100
    · rw [if_pos h, gvn_f (fun q => c0 ?_)]
      rw [okM_3] at q
      cases h0 : od 0 <;> cases h1 : od 1 <;> cases h2 : od 2 <;> simp [h0, h1, h2] at q ⊢ <;> omega
    · rw [if_neg h]
theorem e_4 (hL : okL L) : eC lo hi od L 3 0 100 cap (0, 0, 0, 0) = eM 4 lo hi od cap L := by
  obtain ⟨hn, hle, h0, hs⟩ := hL
  have e3 : 3 < 4 := by omega
  have e2 : 2 < 4 := by omega
  have e1 : 1 < 4 := by omega
  unfold eM
  rw [show eC lo hi od L 3 0 100 cap (0, 0, 0, 0) = L.flatMap (fun s => if lo 0 ≤ s ∧ s ≤ hi 0 ∧ s ≤ 100 ∧ (od 0 = true → s ≤ cap) then eC lo hi od L 2 1 (100 - s) (if od 0 = true then cap - s else cap) (s, 0, 0, 0) else []) from rfl]
  refine fm_congr fun a ha => ?_
  have ha1 := hle a ha
  rw [if_pos e1]
  by_cases c0 : lo 0 ≤ a ∧ a ≤ hi 0 ∧ a ≤ 100 ∧ (od 0 = true → a ≤ cap)
  · rw [if_pos c0]
    rw [show ∀ o, eC lo hi od L 2 1 (100 - a) o (a, 0, 0, 0) = L.flatMap (fun s => if lo 1 ≤ s ∧ s ≤ hi 1 ∧ s ≤ 100 - a ∧ (od 1 = true → s ≤ o) then eC lo hi od L 1 2 (100 - a - s) (if od 1 = true then o - s else o) (a, s, 0, 0) else []) from fun _ => rfl]
    refine fm_congr fun b hb => ?_
    by_cases c1 : lo 1 ≤ b ∧ b ≤ hi 1 ∧ b ≤ 100 - a ∧ (od 1 = true → b ≤ (if od 0 = true then cap - a else cap))
    · rw [if_pos c1, if_pos (show a + b ≤ 100 by omega), if_pos e2]
      rw [show ∀ o, eC lo hi od L 1 2 (100 - a - b) o (a, b, 0, 0) = L.flatMap (fun s => if lo 2 ≤ s ∧ s ≤ hi 2 ∧ s ≤ 100 - a - b ∧ (od 2 = true → s ≤ o) then eC lo hi od L 0 3 (100 - a - b - s) (if od 2 = true then o - s else o) (a, b, s, 0) else []) from fun _ => rfl]
      refine fm_congr fun c hc => ?_
      rw [if_pos e3]
      by_cases c2 : lo 2 ≤ c ∧ c ≤ hi 2 ∧ c ≤ 100 - a - b ∧ (od 2 = true → c ≤ (if od 1 = true then (if od 0 = true then cap - a else cap) - b else (if od 0 = true then cap - a else cap)))
      · rw [if_pos c2, if_pos (show a + b + c ≤ 100 by omega)]
        unfold eC
        rw [ite_gvn]
        refine (gvn_c ?_)
        rw [okM_4]
        cases h0 : od 0 <;> cases h1 : od 1 <;> cases h2 : od 2 <;> cases h3 : od 3 <;> simp [h0, h1, h2, h3] at c0 c1 c2 ⊢ <;> omega
      · rw [if_neg c2]
        by_cases h : a + b + c ≤ 100
        · rw [if_pos h, gvn_f (fun q => c2 ?_)]
          rw [okM_4] at q
          cases h0 : od 0 <;> cases h1 : od 1 <;> cases h2 : od 2 <;> cases h3 : od 3 <;> simp [h0, h1, h2, h3] at q ⊢ <;> omega
        · rw [if_neg h]
    · rw [if_neg c1]
      by_cases h : a + b ≤ 100
      · rw [if_pos h, if_pos e2, fm_nil (fun c hc => ?_)]
        by_cases h2 : a + b + c ≤ 100
        · rw [if_pos h2, if_pos e3, gvn_f (fun q => c1 ?_)]
          rw [okM_4] at q
          cases h0 : od 0 <;> cases h1 : od 1 <;> cases h2 : od 2 <;> cases h3 : od 3 <;> simp [h0, h1, h2, h3] at q ⊢ <;> omega
        · rw [if_neg h2]
      · rw [if_neg h]
  · rw [if_neg c0, fm_nil (fun b hb => ?_)]
    by_cases h : a + b ≤ 100
    · rw [if_pos h, if_pos e2, fm_nil (fun c hc => ?_)]
      by_cases h2 : a + b + c ≤ 100
      · rw [if_pos h2, if_pos e3, gvn_f (fun q => c0 ?_)]
        rw [okM_4] at q
        cases h0 : od 0 <;> cases h1 : od 1 <;> cases h2 : od 2 <;> cases h3 : od 3 <;> simp [h0, h1, h2, h3] at q ⊢ <;> omega
      · rw [if_neg h2]
    · rw [if_neg h]
/-- the steps -/
def stp (st k : Nat) : List Nat := (List.range (k + 1)).map (fun n => n * st)
theorem stp_in {st k a : Nat} : a ∈ stp st k ↔ ∃ n, n ≤ k ∧ a = n * st := by
  unfold stp
  rw [List.mem_map]
  constructor
  · rintro ⟨n, hn, rfl⟩
    exact ⟨n, by have := List.mem_range.mp hn; omega, rfl⟩
  · rintro ⟨n, hn, rfl⟩
    exact ⟨n, List.mem_range.mpr (by omega), rfl⟩
theorem stp_ok {st k : Nat} (h : st * k = 100) : okL (stp st k) := by
  have hst : 0 < st := Nat.pos_of_ne_zero (fun q => by subst q; omega)
  have hle : ∀ a ∈ stp st k, a ≤ 100 := fun a ha => by
    obtain ⟨n, hn, rfl⟩ := stp_in.mp ha
    rw [← h, Nat.mul_comm]
    exact Nat.mul_le_mul_left st hn
  refine ⟨?_, hle, stp_in.mpr ⟨0, by omega, by omega⟩, fun a ha => ⟨?_, fun b hb => ?_⟩⟩
  · unfold stp
    rw [List.Nodup, List.pairwise_map]
    refine List.Pairwise.imp ?_ List.nodup_range
    intro a b hab he
    exact hab (Nat.eq_of_mul_eq_mul_right hst he)
  · obtain ⟨n, hn, rfl⟩ := stp_in.mp ha
    refine stp_in.mpr ⟨k - n, by omega, ?_⟩
    rw [Nat.sub_mul, Nat.mul_comm k st, h]
  · obtain ⟨n, hn, rfl⟩ := stp_in.mp ha
    obtain ⟨n2, hn2, rfl⟩ := stp_in.mp hb
    refine stp_in.mpr ⟨k - n - n2, by omega, ?_⟩
    rw [Nat.sub_mul, Nat.sub_mul, Nat.mul_comm k st, h]
end LST
