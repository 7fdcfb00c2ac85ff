/-! making a world: what constructors need -/
section MCT
variable {p : Program} {l : Launch} {e : Env} {R : Room} {s : State} {m : MethodId} {args : Array Value} {below : List Frame} {meth : Method} {c : Code} {H H0 : Heap} {locs : List Loc} {cells slots : Nat} {Q : State → Prop}
variable {cc : ByteArray} {pc : Nat} {ls : Array Slot} {rest : List Value} {D : va_G} {cl : List vw_C} {c3 : ClassId × ClassId × ClassId} {A : Nat → Prop} {ws : va_W}
/-- a stretch of a world -/
def m_wb (ly : Nat → mDesc) (b n : Nat) (ad : Nat → Nat) (c3 : ClassId × ClassId × ClassId) (M : mMem) : va_W := (List.range n).map (fun j => (ad (b + j), m_E ad c3 (b + j) (M (b + j)) (ly (b + j))))
def mm_ws (q : Nat) (c3 : ClassId × ClassId × ClassId) (N K : Nat) : va_W := (q, .inl (c3.2.2, N, .inr (.inr (.inr (.inr (m_rw N (fun i => q + 1 + i))))))) :: (List.range N).map (fun j => (q + 1 + j, .inl (c3.1, K, .inl (fun _ => 0))))
theorem m_one {a : Nat} {E : va_E} (h : A a) : va_D A [(a, E)] := by
  refine ⟨fun i j x y hi hj _ => ?_, fun k q hk => ?_⟩
  · have h1 : i < 1 := (List.getElem?_eq_some_iff.mp hi).1
    have h2 : j < 1 := (List.getElem?_eq_some_iff.mp hj).1
    omega
  · have h1 : k < 1 := (List.getElem?_eq_some_iff.mp hk).1
    rw [show k = 0 by omega] at hk
    cases hk
    exact h
theorem m_newI (hexec : p.tables.exec = Jvm.exec) (hb : c.code = cc) (harr : (Cond.arrayClass .int).before args s = true) (hK : va_K D cl (m_ty c3) s) (hP : va_P D cl ws H) (hD : va_D A ws) (hS : va_S A H0 H locs) (hA : ∀ q, H0.size ≤ q → A q)
    {n : Int32} {N' : Nat} (hn : ¬ n < 0) (hN : n.toNatClampNeg = N') (hbytes : N' * 4 ≤ 536870912) (hcells : cells + 1 ≤ R.cells) (hslots : slots + N' ≤ R.slots) (hdg : decode cc pc = .ok (.newarray .int, 2))
    (kk : ∀ (q : Nat) (H1 : Heap), va_P D cl (ws ++ [(q, .inl (c3.1, N', .inl (fun _ => 0)))]) H1 → va_D A (ws ++ [(q, .inl (c3.1, N', .inl (fun _ => 0)))]) → va_S A H0 H1 locs →
      W p l e R s m args below meth c H1 locs (cells + 1) (slots + N') Q (F0 m (pc + 2) ls (.ref q :: rest))) : W p l e R s m args below meth c H locs cells slots Q (F0 m pc ls (.int n :: rest)) := by
  refine va_newa (atype := .int) (ty := .int) (a0 := (N', .inl (fun _ => 0))) hexec hb harr rfl hK hP hD hS hA (fun _ => rfl) hn hN hbytes hcells hslots hdg (fun q cA H1 hK1 hP1 hD1 hS1 => ?_)
  have e1 := va_nm_int (hK1.2 3 _ rfl).2
  have e2 := va_nm_int (hK.2 0 _ rfl).2
  have e3 : cA = c3.1 := Option.some.inj (e1.symm.trans e2)
  subst e3
  exact kk q H1 hP1 hD1 hS1
theorem m_newZ (hexec : p.tables.exec = Jvm.exec) (hb : c.code = cc) (harr : (Cond.arrayClass .boolean).before args s = true) (hK : va_K D cl (m_ty c3) s) (hP : va_P D cl ws H) (hD : va_D A ws) (hS : va_S A H0 H locs) (hA : ∀ q, H0.size ≤ q → A q)
    {n : Int32} {N' : Nat} (hn : ¬ n < 0) (hN : n.toNatClampNeg = N') (hbytes : N' * componentBytes .boolean ≤ 536870912) (hcells : cells + 1 ≤ R.cells) (hslots : slots + N' ≤ R.slots) (hdg : decode cc pc = .ok (.newarray .boolean, 2))
    (kk : ∀ (q : Nat) (H1 : Heap), va_P D cl (ws ++ [(q, .inl (c3.2.1, N', .inl (fun _ => 0)))]) H1 → va_D A (ws ++ [(q, .inl (c3.2.1, N', .inl (fun _ => 0)))]) → va_S A H0 H1 locs →
      W p l e R s m args below meth c H1 locs (cells + 1) (slots + N') Q (F0 m (pc + 2) ls (.ref q :: rest))) : W p l e R s m args below meth c H locs cells slots Q (F0 m pc ls (.int n :: rest)) := by
  refine va_newa (atype := .boolean) (ty := .boolean) (a0 := (N', .inl (fun _ => 0))) hexec hb harr rfl hK hP hD hS hA (fun _ => rfl) hn hN hbytes hcells hslots hdg (fun q cA H1 hK1 hP1 hD1 hS1 => ?_)
  have e1 := va_nm_boolean (hK1.2 3 _ rfl).2
  have e2 := va_nm_boolean (hK.2 1 _ rfl).2
  have e3 : cA = c3.2.1 := Option.some.inj (e1.symm.trans e2)
  subst e3
  exact kk q H1 hP1 hD1 hS1
/-- worlds beside each other, of which the second lies behind all that was there -/
theorem m_beside {w1 w2 : va_W} {H1 : Heap} (hP : va_P D cl w1 H) (hD : va_D A w1) (ho : ∀ q, q < H.size → H1[q]? = H[q]?) (hP2 : va_P D cl w2 H1) (hD2 : va_D A w2) (hn : ∀ (k : Nat) (q : Nat × va_E), w2[k]? = some q → H.size ≤ q.1) : va_P D cl (w1 ++ w2) H1 ∧ va_D A (w1 ++ w2) := by
  refine ⟨(hP.kept (fun k q hq => ho q.1 ((hP k q hq).lt))).app hP2, hD.app hD2 (fun i j x y hi hj he => ?_)⟩
  have h1 := (hP i x hi).lt
  have h2 := hn j y hj
  omega
theorem mm_ws_cases {q N K : Nat} {k : Nat} {x : Nat × va_E} (h : (mm_ws q c3 N K)[k]? = some x) : (k = 0 ∧ x = (q, .inl (c3.2.2, N, .inr (.inr (.inr (.inr (m_rw N (fun i => q + 1 + i)))))))) ∨ ∃ j, j < N ∧ k = j + 1 ∧ x = (q + 1 + j, .inl (c3.1, K, .inl (fun _ => 0))) := by
  cases k with
  | zero =>
    cases h
    exact Or.inl ⟨rfl, rfl⟩
  | succ j =>
    unfold mm_ws at h
    rw [List.getElem?_cons_succ, List.getElem?_map] at h
    cases hj : (List.range N)[j]? with
    | none => rw [hj] at h; cases h
    | some i =>
      rw [hj] at h
      obtain ⟨h1, h2⟩ := List.getElem?_eq_some_iff.mp hj
      rw [List.length_range] at h1
      rw [List.getElem_range] at h2
      subst h2
      cases h
      exact Or.inr ⟨j, h1, rfl, rfl⟩
/-- the class of int[][] holds rows of the class of int[] -/
def mOv (c3 : ClassId × ClassId × ClassId) (U : State) : Prop := ∃ k : Class, U.vm.classes[c3.2.2]? = some k ∧ k.kind = .array c3.1 (.array .int)
theorem mOv_moved {u U : State} (hvm : u.vm.Alike U.vm) (h : mOv c3 u) : mOv c3 U := by
  obtain ⟨k, h1, h2⟩ := h
  obtain ⟨k', h3, h4⟩ := hvm.2.2 _ _ h1
  exact ⟨k', h3, by rw [h4]; exact h2⟩
theorem m_newG (hexec : p.tables.exec = Jvm.exec) (hb : c.code = cc) {own : String} {index : Nat} (hown : s.vm.findClass own = some m.cls) (hclink : (Cond.classLink own index "[[I").before args s = true) (hO : mOv c3 s) (hK : va_K D cl (m_ty c3) s) (hP : va_P D cl ws H) (hD : va_D A ws) (hS : va_S A H0 H locs) (hA : ∀ q, H0.size ≤ q → A q)
    {n k : Int32} {N' K' : Nat} (hn : ¬ n < 0) (hN : n.toNatClampNeg = N') (hk : ¬ k < 0) (hk' : k.toNatClampNeg = K') (hb1 : N' * 4 ≤ 536870912) (hb2 : K' * 4 ≤ 536870912) (hcells : cells + (1 + N') ≤ R.cells) (hslots : slots + (N' + N' * K') ≤ R.slots) (hdg : decode cc pc = .ok (.multianewarray index 2, 4))
    (kk : ∀ (q : Nat) (H1 : Heap), va_P D cl (ws ++ mm_ws q c3 N' K') H1 → va_D A (ws ++ mm_ws q c3 N' K') → va_S A H0 H1 locs →
      W p l e R s m args below meth c H1 locs (cells + 1 + N') (slots + N' + N' * K') Q (F0 m (pc + 4) ls (.ref q :: rest))) : W p l e R s m args below meth c H locs cells slots Q (F0 m pc ls (.int k :: .int n :: rest)) := by
  subst hN
  subst hk'
  have en : "[" ++ (FieldType.array .int).toString = "[[I" := by decide +kernel
  obtain ⟨kA, hkA, hkindA⟩ := hO
  obtain ⟨-, kC, hkC, cj, hkindC⟩ := (hK.2 0 _ rfl).1 0 (fun _ => .null)
  have hnm : s.vm.findClass "[[I" = some c3.2.2 := by
    have h := (hK.2 2 _ rfl).2
    rw [← en]
    exact h
  refine mm_W (index := index) hexec hb hown hclink hnm hkA hkindA hkC hkindC rfl hdg rfl hn hk hb1 hb2 hcells hslots (fun H1 z1 o1 g1 r1 => ?_)
  have hP2 : va_P D cl (mm_ws H.size c3 n.toNatClampNeg k.toNatClampNeg) H1 := by
    intro i x hx
    rcases mm_ws_cases hx with ⟨-, rfl⟩ | ⟨j, hj, -, rfl⟩
    · show H1[H.size]? = some (vp_cell _ _)
      rw [g1, vp_cell_q]
      congr 1
      unfold mm_out arrV
      congr 2
      funext j
      show (if j.val < n.toNatClampNeg then Value.ref (H.size + 1 + j.val) else Value.null) = va_rf (m_rw n.toNatClampNeg (fun i => H.size + 1 + i) j.val)
      rw [if_pos j.isLt, m_rw_at j.isLt]
      rfl
    · show H1[H.size + 1 + j]? = some (vp_cell _ _)
      rw [r1 j hj]
      rfl
  have hn2 : ∀ (i : Nat) (x : Nat × va_E), (mm_ws H.size c3 n.toNatClampNeg k.toNatClampNeg)[i]? = some x → H.size ≤ x.1 := by
    intro i x hx
    rcases mm_ws_cases hx with ⟨-, rfl⟩ | ⟨j, hj, -, rfl⟩
    · exact Nat.le_refl _
    · show H.size ≤ H.size + 1 + j
      omega
  have hD2 : va_D A (mm_ws H.size c3 n.toNatClampNeg k.toNatClampNeg) := by
    refine ⟨fun i j x y hi hj he => ?_, fun i x hx => hA _ (Nat.le_trans hS.1 (hn2 i x hx))⟩
    rcases mm_ws_cases hi with ⟨rfl, rfl⟩ | ⟨j1, h1, rfl, rfl⟩ <;> rcases mm_ws_cases hj with ⟨rfl, rfl⟩ | ⟨j2, h2, rfl, rfl⟩
    · rfl
    · have he : H.size = H.size + 1 + j2 := he
      omega
    · have he : H.size + 1 + j1 = H.size := he
      omega
    · have he : H.size + 1 + j1 = H.size + 1 + j2 := he
      omega
  obtain ⟨hP3, hD3⟩ := m_beside hP hD o1 hP2 hD2 hn2
  exact kk H.size H1 hP3 hD3 ⟨Nat.le_trans hS.1 (by omega), fun x h1 h2 => (o1 x (Nat.lt_of_lt_of_le h1 hS.1)).trans (hS.2.1 x h1 h2), hS.2.2⟩
/-- what a constructor that got the last cell leaves, beside the rest -/
theorem m_join {wr w1 : va_W} {q : Nat} {E : va_E} {H1 : Heap} (hP : va_P D cl (wr ++ [(q, E)]) H) (hD : va_D A (wr ++ [(q, E)])) (hA : ∀ q, H.size ≤ q → A q) (hk : ∀ x : Nat, x < H.size → ¬ va_A [(q, E)] H.size x → H1[x]? = H[x]?) (hP1 : va_P D cl w1 H1) (hD1 : va_D (va_A [(q, E)] H.size) w1) : va_P D cl (wr ++ w1) H1 ∧ va_D A (wr ++ w1) := by
  have hlen : (wr ++ [(q, E)])[wr.length]? = some (q, E) := by simp
  have hl : ∀ (k : Nat) (x : Nat × va_E), wr[k]? = some x → (wr ++ [(q, E)])[k]? = some x ∧ k < wr.length := fun k x hx => by
    have h := (List.getElem?_eq_some_iff.mp hx).1
    exact ⟨by rw [List.getElem?_append_left h]; exact hx, h⟩
  have hin : ∀ x, va_A [(q, E)] H.size x → x = q ∨ H.size ≤ x := by
    rintro x (⟨k, e, h⟩ | h)
    · have h1 : k < 1 := (List.getElem?_eq_some_iff.mp h).1
      rw [show k = 0 by omega] at h
      cases h
      exact Or.inl rfl
    · exact Or.inr h
  have hne : ∀ (k : Nat) (x : Nat × va_E), wr[k]? = some x → x.1 ≠ q := fun k x hx he => by
    have h := hD.1 k wr.length x (q, E) (hl k x hx).1 hlen he
    have := (hl k x hx).2
    omega
  have hlt : ∀ (k : Nat) (x : Nat × va_E), wr[k]? = some x → x.1 < H.size := fun k x hx => (hP k x (hl k x hx).1).lt
  have hPr : va_P D cl wr H1 := fun k x hx => (hP k x (hl k x hx).1).kept (hk x.1 (hlt k x hx) (fun h => (hin _ h).elim (hne k x hx) (fun h2 => absurd h2 (Nat.not_le.mpr (hlt k x hx)))))
  have hDr : va_D A wr := ⟨fun i j x y hi hj he => hD.1 i j x y (hl i x hi).1 (hl j y hj).1 he, fun k x hx => hD.2 k x (hl k x hx).1⟩
  refine ⟨hPr.app hP1, hDr.app ⟨hD1.1, fun k x hx => (hin _ (hD1.2 k x hx)).elim (fun h => by rw [h]; exact hD.2 _ _ hlen) (hA _)⟩ (fun i j x y hi hj he => ?_)⟩
  rcases hin _ (hD1.2 j y hj) with h | h
  · exact hne i x hi (he.trans h)
  · have := hlt i x hi
    omega
def mI (cl : List vw_C) (nw : List Cond) (D : va_G) (c3 : ClassId × ClassId × ClassId) (h0 sz : Nat) (E : va_E) (U : State) : Prop :=
  U.heap.size = sz ∧ va_P D cl [(h0, E)] U.heap ∧ (va_K D cl (m_ty c3) U ∧ mOv c3 U) ∧ ∀ w ∈ nw, va_Nw w U
def mN (cl : List vw_C) (nw : List Cond) (ly : Nat → mDesc) (l : Launch) (D : va_G) (c3 : ClassId × ClassId × ClassId) (y : MethodName) (w : List Cond) (rm : Room) (av : List Value) (h0 sz : Nat) (E : va_E) (b n : Nat) (M : mMem) (f : (Nat → Nat) → (Nat → Nat)) : Prop :=
  Met l y w rm (va_Pc (.ref h0 :: av) (mI cl nw D c3 h0 sz E)) (va_Qv (fun _ : Nat → Nat => True) (fun ad t => va_P D cl (m_wb ly b n (f ad) c3 M) t.heap ∧ va_D (va_A [(h0, E)] sz) (m_wb ly b n (f ad) c3 M)) (va_A [(h0, E)] sz)) rm.cells rm.slots (va_A [(h0, E)] sz)
theorem m_preI {nw : List Cond} {h0 : Nat} {E : va_E} {As : List Value} {wr : va_W} (hK : va_K D cl (m_ty c3) s) (hO : mOv c3 s) (hN : (∀ w ∈ nw, ∃ a i x h, w = Cond.methodLinkNest a i x h) ∧ ∀ w ∈ nw, va_Nw w s) (hP : va_P D cl (wr ++ [(h0, E)]) H) : PreS s H (va_Pc (.ref h0 :: As) (mI cl nw D c3 h0 H.size E)) (.ref h0 :: As) := by
  have hP1 : va_P D cl [(h0, E)] H := hP.by (fun k => wr.length + k) (fun k q hk => by
    have h1 : k < 1 := (List.getElem?_eq_some_iff.mp hk).1
    rw [show k = 0 by omega] at hk ⊢
    rw [List.getElem?_append_right (by omega)]
    simpa using hk)
  refine ⟨?_, fun U hU hW => ⟨rfl, by rw [hU], by rw [hU]; exact hP1, ⟨va_K.moved hW.alike hK, mOv_moved hW.alike hO⟩, m_nw hW hN.1 hN.2⟩⟩
  intro a U g mk q
  obtain ⟨q0, q1, qP, qK, qN⟩ := q
  exact ⟨q0, q1, qP, ⟨va_K.moved (u := U) (U := U.calling g mk a) (Vm.Alike.refl U.vm) qK.1, mOv_moved (u := U) (U := U.calling g mk a) (Vm.Alike.refl U.vm) qK.2⟩, m_nwc hN.1 qN⟩
/-- a constructor's call: the new cell is the world's last one -/
theorem m_cn {nw : List Cond} {ly : Nat → mDesc} {h0 b n mc ms : Nat} {E : va_E} {M : mMem} {f : (Nat → Nat) → (Nat → Nat)} {wr : va_W} {a : Array Value} {st0 : List Value} (hr : va_Run p l e R s m args below meth c H locs cells slots mc ms (F0 m pc ls st0) rest (va_Qv (fun _ : Nat → Nat => True) (fun ad t => va_P D cl (m_wb ly b n (f ad) c3 M) t.heap ∧ va_D (va_A [(h0, E)] H.size) (m_wb ly b n (f ad) c3 M)) (va_A [(h0, E)] H.size) a) (va_A [(h0, E)] H.size)) (hP : va_P D cl (wr ++ [(h0, E)]) H) (hD : va_D A (wr ++ [(h0, E)])) (hS : va_S A H0 H locs) (hA : ∀ q, H0.size ≤ q → A q)
    (kk : ∀ (ad : Nat → Nat) (H1 : Heap) (locs1 : List Loc), va_P D cl (wr ++ m_wb ly b n (f ad) c3 M) H1 → va_D A (wr ++ m_wb ly b n (f ad) c3 M) → va_S A H0 H1 locs1 → W p l e R s m args below meth c H1 locs1 (cells + mc) (slots + ms) Q (F0 m (pc + 3) ls rest)) : W p l e R s m args below meth c H locs cells slots Q (F0 m pc ls st0) := by
  have hA1 : ∀ q, H.size ≤ q → A q := fun q h => hA q (Nat.le_trans hS.1 h)
  have hF : ∀ q, va_A [(h0, E)] H.size q → A q := by
    rintro x (⟨k, e, h⟩ | h)
    · have h1 : k < 1 := (List.getElem?_eq_some_iff.mp h).1
      rw [show k = 0 by omega] at h
      cases h
      exact hD.2 wr.length (h0, E) (by simp)
    · exact hA1 x h
  refine va_callv hr hS (fun q _ h => hF q h) hF (fun ad t H1 locs1 ht hvm hp hB hz hk hS1 => ?_)
  rw [ht] at hB
  obtain ⟨hP3, hD3⟩ := m_join hP hD hA1 hk hB.1 hB.2
  exact kk ad H1 locs1 hP3 hD3 hS1
end MCT
