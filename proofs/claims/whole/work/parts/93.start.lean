set_option maxHeartbeats 4000000 in
set_option maxRecDepth 100000 in
theorem whole_start {p : Program} {e : Env} {s : State} {m : MethodId} {below : List Frame} {meth : Method} {c : Code} (l : Launch) {b L : Nat} {xs : Nat → Int32} (hL : L ≤ 2560) (C0 : lw_At p s m meth c b L xs) : W p l e room_1 s m #[Value.ref b] below meth c s.heap [] 0 0 (lw_Z below #[Value.ref b] s) (entryFrame m ([Value.ref b] : List Value).toArray 4) := by
  obtain ⟨hx, hb, hr, hml, hown, hts0, hX, hbl, hlocks, hgv⟩ := id C0
  have hts : ∀ w ∈ wA, w.before #[Value.ref b] s = true := fun w h => hts0 w (wA_in h)
  have hA : ∀ q : Nat, s.heap.size ≤ q → (fun q : Nat => s.heap.size ≤ q) q := fun _ h => h
  obtain ⟨c0, i0, u0⟩ := u_known (C := R_G) (T := T_G) (N := 9) (n := 9) hts in_G (hts _ k1_11)
  obtain ⟨c1, i1, u1⟩ := u_known (C := R_P) (T := T_P) (N := 14) (n := 14) hts in_P (hts _ k1_19)
  obtain ⟨c2, i2, u2⟩ := u_known (C := R_S) (T := T_S) (N := 11) (n := 11) hts in_S (hts _ k1_96)
  obtain ⟨c3, i3, u3⟩ := u_known (C := R_T) (T := T_T) (N := 5) (n := 5) hts in_T (hts _ k1_170)
  obtain ⟨c4, i4, u4⟩ := u_known (C := R_X) (T := T_X) (N := 4) (n := 4) hts in_X (hts _ k1_103)
  obtain ⟨c5, i5, u5⟩ := u_known (C := R_B) (T := T_B) (N := 3) (n := 3) hts in_B (hts _ k1_196)
  obtain ⟨c6, i6, u6⟩ := u_known (C := R_L) (T := T_L) (N := 7) (n := 7) hts in_L (hts _ k1_215)
  obtain ⟨c7, i7, u7⟩ := u_known (C := R_M) (T := T_M) (N := 37) (n := 37) hts in_M (hts _ k3_34)
  obtain ⟨dC, dI, hKc⟩ : ∃ (dC : Nat → ClassId) (dI : Nat → Nat → Nat), ∀ (k : Nat) (q : vw_C), vCl[k]? = some q → u_Kn s q.1 q.2.1 q.2.2 (dC k) (dI k) := by
    refine ⟨fun k => if k = 0 then c0 else if k = 1 then c1 else if k = 2 then c2 else if k = 3 then c3 else if k = 4 then c4 else if k = 5 then c5 else if k = 6 then c6 else c7, fun k => if k = 0 then i0 else if k = 1 then i1 else if k = 2 then i2 else if k = 3 then i3 else if k = 4 then i4 else if k = 5 then i5 else if k = 6 then i6 else i7, ?_⟩
    intro k q hq
    match k, hq with
    | 0, hq => cases hq; exact u0
    | 1, hq => cases hq; exact u1
    | 2, hq => cases hq; exact u2
    | 3, hq => cases hq; exact u3
    | 4, hq => cases hq; exact u4
    | 5, hq => cases hq; exact u5
    | 6, hq => cases hq; exact u6
    | 7, hq => cases hq; exact u7
    | k + 8, hq => simp [vCl] at hq
  obtain ⟨ci, kC, cj, hci, hkC, hkindC⟩ := Cond.arrayClass_spec (hts _ k1_93)
  obtain ⟨cz, kZ, cj2, hcz, hkZ, hkindZ⟩ := Cond.arrayClass_spec (hts _ k1_94)
  obtain ⟨comp, cA, kA, g1, -, g2, g3, g4⟩ := arrayOverA_spec (t := .int) (hts0 _ nt_over)
  have ecomp : comp = ci := Option.some.inj (g1.symm.trans hci)
  subst ecomp
  obtain ⟨c3, ec3⟩ : ∃ c : ClassId × ClassId × ClassId, c = (comp, cz, cA) := ⟨_, rfl⟩
  have hK : va_K (dC, dI) vCl (m_ty c3) s := by
    subst ec3
    refine ⟨hKc, ?_⟩
    intro k q hq
    match k, hq with
    | 0, hq => cases hq; exact ⟨fun n z => ⟨(fun k h => by cases h), kC, hkC, cj, hkindC⟩, hci⟩
    | 1, hq => cases hq; exact ⟨fun n z => ⟨(fun k h => by cases h), kZ, hkZ, cj2, hkindZ⟩, hcz⟩
    | 2, hq => cases hq; exact ⟨fun n z => ⟨(fun k h => by cases h), kA, g2, comp, g3⟩, g4⟩
    | k + 3, hq => simp [m_ty] at hq
  have hO : mOv c3 s := by subst ec3; exact ⟨kA, g2, g3⟩
  clear ec3
  have hN : (∀ w ∈ nwX, ∃ a i x h, w = Cond.methodLinkNest a i x h) ∧ ∀ w ∈ nwX, va_Nw w s := by
    refine ⟨nestX, fun w hw => ?_⟩
    have hw2 := hw
    unfold nwX at hw2
    simp only [List.mem_cons, List.not_mem_nil, or_false] at hw2
    rcases hw2 with rfl | rfl | rfl | rfl | rfl | rfl | rfl | rfl | rfl
    · exact va_Nw.of rfl (hts0 _ nt_0)
    · exact va_Nw.of rfl (hts0 _ nt_1)
    · exact va_Nw.of rfl (hts0 _ nt_2)
    · exact va_Nw.of rfl (hts0 _ nt_3)
    · exact va_Nw.of rfl (hts0 _ nt_4)
    · exact va_Nw.of rfl (hts0 _ nt_5)
    · exact va_Nw.of rfl (hts0 _ nt_6)
    · exact va_Nw.of rfl (hts0 _ nt_7)
    · exact va_Nw.of rfl (hts0 _ nt_8)
  have hNM : (∀ w ∈ nwM, ∃ a i x h, w = Cond.methodLinkNest a i x h) ∧ ∀ w ∈ nwM, va_Nw w s := ⟨nestM, fun w hw => absurd hw List.not_mem_nil⟩
  generalize hDe : (dC, dI) = D at hK
  have hS : va_S (fun q : Nat => s.heap.size ≤ q) s.heap s.heap [] := va_S.rf
  have hP : va_P D vCl [] s.heap := fun k q h => by simp at h
  have hD : va_D (fun q : Nat => s.heap.size ≤ q) [] := ⟨fun i j p q h => by simp at h, fun k q h => by simp at h⟩
  have hl := lv_entry ([.ref b]) (n := 4) (Nat.le_of_ble_eq_true rfl)
  rw [lg_entry_eq]
  generalize (lg_sl ([.ref b]) ++ List.replicate (4 - (lg_sl ([.ref b])).length) Slot.unset).toArray = ls at hl ⊢
  have hl : lv_has ls 4 [(0, .ref b)] := hl
  refine va_new (ci := 0) (fs := [.null, .null, .null, .null, .null, .null, .null, .int 0, .int 0]) (C := R_G) (T := T_G) (N := 9) hx hb hts in_G ty_G ty_G_ok hown (hts _ k1_10) (hts _ k1_11) (hts _ k1_1) hK hP hD hS hA rfl (fun j hj => by revert j hj; decide) (by decide) (by decide) dW_law_0 (fun q0 H hP hD hS => ?_)
  refine lv_dup hx hb dW_law_3 rfl ?_
  refine m_cn (nw := nwX) (wr := []) (h0 := q0) (E := .inr (0, [.null, .null, .null, .null, .null, .null, .null, .int 0, .int 0])) (b := 0) (n := 83) (f := (fun ad k => if k = 0 then q0 else ad k)) (M := mX0) (va_runI (As := []) (rest := [.ref q0]) ⟨hx, hb, hml, hown, hts⟩ (iX_G_0 l D c3 q0 H.size) (cwI 0 hts (gN kc_G_init) rfl rfl rfl (hts _ k1_1) (hts _ k1_12) (hts _ k1_13) rfl (by decide +kernel) ⟨by decide, by decide⟩) (m_preI (wr := []) hK hO hN hP) rfl rfl hl.1 rfl (lv_room (Nat.le_of_ble_eq_true rfl)) dW_law_4 ⟨by decide, by decide⟩) hP hD hS hA (fun adX H locs hP hD hS => ?_)
  obtain ⟨aX, eX9⟩ : ∃ a : Nat → Nat, a = (fun k => if k = 0 then q0 else adX k) := ⟨_, rfl⟩
  have eq0 : q0 = aX 0 := by rw [eX9]; rfl
  have hP : va_P D vCl (m_ws lyX 83 aX c3 mX0) H := by rw [eX9, ← m_wb_0]; exact hP
  have hD : va_D (fun q : Nat => s.heap.size ≤ q) (m_ws lyX 83 aX c3 mX0) := by rw [eX9, ← m_wb_0]; exact hD
  refine lv_astore_n (lv' := [(1, .ref q0), (0, .ref b)]) hx hb dW_law_7 rfl hl (by decide) rfl (fun ls hl => ?_)
  refine va_new (ci := 7) (fs := [.int 0, .null, .null, .int 0, .null, .null, .null, .null, .null, .null, .null, .int 0, .int 0, .int 0, .null, .int 0, .null, .null, .int 0, .null, .null, .null, .int 0, .int 0, .int 0, .int 0, .int 0, .null, .int 0, .null, .null, .int 0, .int 0, .null, .null, .null, .null]) (C := R_M) (T := T_M) (N := 37) hx hb hts in_M ty_M ty_M_ok hown (hts _ k3_33) (hts _ k3_34) (hts _ k1_8) hK hP hD hS hA rfl (fun j hj => by revert j hj; decide) (by decide) (by decide) dW_law_8 (fun q1 H hP hD hS => ?_)
  refine lv_dup hx hb dW_law_11 rfl ?_
  refine m_cn (nw := nwM) (wr := (m_ws lyX 83 aX c3 mX0)) (h0 := q1) (b := 0) (n := 23) (f := (fun ad k => if k = 0 then q1 else ad k)) (M := mM0) (va_runI (As := []) (rest := [.ref q1]) ⟨hx, hb, hml, hown, hts⟩ (iM_M_0 l D c3 q1 H.size) (cwI 0 hts (gN kc_M_init) rfl rfl rfl (hts _ k1_8) (hts _ k3_35) (hts _ k3_36) rfl (by decide +kernel) ⟨by decide, by decide⟩) (m_preI (wr := (m_ws lyX 83 aX c3 mX0)) hK hO hNM hP) rfl rfl hl.1 rfl (lv_room (Nat.le_of_ble_eq_true rfl)) dW_law_12 ⟨by decide, by decide⟩) hP hD hS hA (fun adM H locs hP hD hS => ?_)
  obtain ⟨aM, eM9⟩ : ∃ a : Nat → Nat, a = (fun k => if k = 0 then q1 else adM k) := ⟨_, rfl⟩
  have eq1 : q1 = aM 0 := by rw [eM9]; rfl
  have hP : va_P D vCl (m_ws lyX 83 aX c3 mX0 ++ m_ws lyM 23 aM c3 mM0) H := by rw [eM9, ← m_wb_0 lyM]; exact hP
  have hD : va_D (fun q : Nat => s.heap.size ≤ q) (m_ws lyX 83 aX c3 mX0 ++ m_ws lyM 23 aM c3 mM0) := by rw [eM9, ← m_wb_0 lyM]; exact hD
  have h2 := m2_of hP hD hS
  refine lv_astore_n (lv' := [(2, .ref q1), (1, .ref q0), (0, .ref b)]) hx hb dW_law_15 rfl hl (by decide) rfl (fun ls hl => ?_)
  refine lv_iconst (v := 0) hx hb dW_law_16 (by decide) ?_
  refine lv_istore_n (lv' := [(3, .int 0), (2, .ref q1), (1, .ref q0), (0, .ref b)]) hx hb dW_law_17 rfl hl (by decide) rfl (fun ls hl => ?_)
  rw [eq0, eq1] at hl
  refine W.widen (k := 600000) (n := 7302250) (by decide) (by decide) ?_
  exact law_loop hL C0 hK hN hNM (L + 1) 0 0 (Nat.zero_le L) (by omega) nI_0.symm mX0 mM0 Rel0 H locs h2 ls (lv_sub hl [3, 2, 1, 0] rfl)
