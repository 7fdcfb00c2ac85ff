/-! THE CLAIM OUT OF ONE WALK OF THE LAW'S BODY. Your part is whole_start (and what it stands on); all else here is the same for every law, but numbers. -/
def R_law : String := "GradingMixesLaw"
def lw_P (b : Addr) (xs : List Int32) (args : Array Value) (s : State) : Prop := args = #[.ref b] ∧ s.IntsAt b xs ∧ xs.length ≤ 2560 ∧ (Jvm.Cond.and given_1 narrow_1).before args s = true
def lw_Q (_ : Array Value) (s : State) (o : Outcome) (t : State) : Prop := o = .returned (some (.int 1)) ∧ Framed s o t [] 600000 7302250
def lw_Z (below : List Frame) (a : Array Value) (s : State) : State → Prop := fun t => ∃ o, t.status = .running ∧ Ended t below o ∧ lw_Q a s o t
/-- the law's own end, with 1 on the stack, nothing written that was there before, its room as the claim has it -/
theorem lw_ret {p : Program} {l : Launch} {e : Env} {s : State} {m : MethodId} {below : List Frame} {meth : Method} {c : Code} {b : Nat} (hx : p.tables.exec = Jvm.exec) (hb : c.code = code) (hr : meth.sig.returnType = ret) (hlocks : meth.locks = false) {pc : Nat} {H : Heap} {ls : Array Slot} (hdg : decode code pc = .ok (.ireturn, 1)) : W p l e room_1 s m #[Value.ref b] below meth c H [] 600000 7302250 (lw_Z below #[Value.ref b] s) (F0 m pc ls [.int 1]) := by
  intro T hT X
  obtain ⟨fs, hret, hrun, hended, hW, hframe⟩ := X.leave (v := some (.int 1)) (hlocks := hlocks) (fun h => by rw [hr] at h; cases h)
  have hmeth' : T.vm.method? m = some meth := X.method'
  refine ⟨T.setFrames fs, ?_, .returned (some (.int 1)), hrun, hended, rfl, ⟨_, rfl⟩, hW, hframe⟩
  jvm_step X.here [X.here.top, hx, hb, hdg, hmeth', hr, ret, narrow_b1]
  (try refine ⟨rfl, ?_⟩); (try refine ⟨rfl, ?_⟩)
  first | (intro acts; rw [hret _ acts rfl rfl rfl]) | rw [hret _ _ rfl rfl rfl]
  exact Steps.refl _
/-- what holds at the law's entry: the machine, the code, the tables' words (any of lw_tbl by 'hts w (by decide +kernel)'), the script of L ints xs at the cell b, what the Statement gives of the start (any of its parts by flat_of_before) -/
def lw_At (p : Program) (s : State) (m : MethodId) (meth : Method) (c : Code) (b L : Nat) (xs : Nat → Int32) : Prop :=
  p.tables.exec = Jvm.exec ∧ c.code = code ∧ meth.sig.returnType = ret ∧ c.maxLocals = 4 ∧ s.vm.findClass R_law = some m.cls ∧ (∀ w ∈ lw_tbl, w.before #[Value.ref b] s = true) ∧ va_X b L xs s s.heap ∧ b < s.heap.size ∧ meth.locks = false ∧ (Jvm.Cond.and given_1 narrow_1).before #[Value.ref b] s = true

/-! two worlds beside each other, as the law holds them -/
section MLW
variable {p : Program} {l : Launch} {e : Env} {R : Room} {s : State} {m : MethodId} {args : Array Value} {below : List Frame} {meth : Method} {c : Code} {H : Heap} {locs : List Loc} {cells slots : Nat} {Q : State → Prop}
variable {cc : ByteArray} {pc : Nat} {ls : Array Slot} {rest : List Value} {D : va_G} {cl : List vw_C} {c3 : ClassId × ClassId × ClassId}
variable {ly1 ly2 : Nat → mDesc} {N1 N2 : Nat} {ad1 ad2 : Nat → Nat} {X Y X' : mMem} {st0 : List Value} {a : Array Value} {r : Int32}
def m2 (cl : List vw_C) (D : va_G) (c3 : ClassId × ClassId × ClassId) (ly1 : Nat → mDesc) (N1 : Nat) (ad1 : Nat → Nat) (ly2 : Nat → mDesc) (N2 : Nat) (ad2 : Nat → Nat) (H0 H : Heap) (locs : List Loc) (X Y : mMem) : Prop :=
  va_P D cl (m_ws ly1 N1 ad1 c3 X) H ∧ va_P D cl (m_ws ly2 N2 ad2 c3 Y) H ∧ va_D (m_A N1 ad1) (m_ws ly1 N1 ad1 c3 X) ∧ va_D (m_A N2 ad2) (m_ws ly2 N2 ad2 c3 Y) ∧ (∀ q, m_A N1 ad1 q → H0.size ≤ q) ∧ (∀ q, m_A N2 ad2 q → H0.size ≤ q) ∧ (∀ q, m_A N1 ad1 q → ¬ m_A N2 ad2 q) ∧ va_S (fun q : Nat => H0.size ≤ q) H0 H locs
theorem m2_sw {H0 : Heap} (h : m2 cl D c3 ly1 N1 ad1 ly2 N2 ad2 H0 H locs X Y) : m2 cl D c3 ly2 N2 ad2 ly1 N1 ad1 H0 H locs Y X := by
  obtain ⟨h1, h2, h3, h4, h5, h6, h7, h8⟩ := h
  exact ⟨h2, h1, h4, h3, h6, h5, fun q q2 q1 => h7 q q1 q2, h8⟩
theorem m2_in {N : Nat} {ad : Nat → Nat} {ly : Nat → mDesc} {M : mMem} {k : Nat} {q : Nat × va_E} (hq : (m_ws ly N ad c3 M)[k]? = some q) : m_A N ad q.1 := by
  by_cases hk : k < N
  · rw [m_ws_at hk] at hq
    cases hq
    exact ⟨k, hk, rfl⟩
  · rw [m_ws_none hk] at hq
    cases hq
theorem m_lci (hr : va_Run p l e R s m args below meth c H locs cells slots 0 0 (F0 m pc ls st0) rest (va_Qi (fun (r' : Int32) (_ : Unit) => r' = r) (fun _ t => va_P D cl (m_ws ly1 N1 ad1 c3 X') t.heap) (m_A N1 ad1) a) (m_A N1 ad1)) (hL : m2 cl D c3 ly1 N1 ad1 ly2 N2 ad2 s.heap H locs X Y)
    (kk : ∀ (H1 : Heap) (locs1 : List Loc), m2 cl D c3 ly1 N1 ad1 ly2 N2 ad2 s.heap H1 locs1 X' Y → W p l e R s m args below meth c H1 locs1 cells slots Q (F0 m (pc + 3) ls (.int r :: rest))) : W p l e R s m args below meth c H locs cells slots Q (F0 m pc ls st0) := by
  obtain ⟨h1, h2, h3, h4, h5, h6, h7, h8⟩ := hL
  refine va_calli hr h8 (fun q _ h => h5 q h) (fun q h => h5 q h) (fun r' u t H1 locs1 ht hvm hp hB hz hk hS => ?_)
  subst hp
  rw [ht] at hB
  exact kk H1 locs1 ⟨hB, h2.kept (fun k q hq => hk q.1 ((h2 k q hq).lt) (fun g => h7 _ g (m2_in hq))), m_D _ h3, h4, h5, h6, h7, hS⟩
theorem m_preL {nw : List Cond} {As : List Value} (hK : va_K D cl (m_ty c3) s) (hN : (∀ w ∈ nw, ∃ a i x h, w = Cond.methodLinkNest a i x h) ∧ ∀ w ∈ nw, va_Nw w s) (hL : m2 cl D c3 ly1 N1 ad1 ly2 N2 ad2 s.heap H locs X Y) {k ci n : Nat} {C : String} {T : u_T} {lst : List (Option Nat)} (hk : k < N1) (hd : ly1 k = (3, ci, lst)) (hc : cl[ci]? = some (C, T, n)) : PreV s H C (ad1 k) (va_Pc (.ref (ad1 k) :: As) (mC cl nw D ly1 N1 ad1 c3 X)) As := by
  have he := m_ws_at (ly := ly1) (ad := ad1) (c3 := c3) (M := X) hk
  rw [hd] at he
  exact ⟨m_blind hN.1, va_recv hK hL.1 hc he, fun U hU hW => ⟨rfl, by rw [hU]; exact hL.1, va_K.moved hW.alike hK, hL.2.2.1, m_nw hW hN.1 hN.2⟩⟩
end MLW
section MLO
variable {D : va_G} {cl : List vw_C} {c3 : ClassId × ClassId × ClassId} {ly1 ly2 : Nat → mDesc} {N1 N2 : Nat} {ad1 ad2 : Nat → Nat} {X Y : mMem} {H H0 : Heap} {locs : List Loc}
theorem m_wb_0 (ly : Nat → mDesc) (n : Nat) (ad : Nat → Nat) (M : mMem) : m_wb ly 0 n ad c3 M = m_ws ly n ad c3 M := by
  unfold m_wb m_ws
  simp only [Nat.zero_add]
theorem m_ws_len (ly : Nat → mDesc) (n : Nat) (ad : Nat → Nat) (M : mMem) : (m_ws ly n ad c3 M).length = n := by simp [m_ws]
theorem m2_of (hP : va_P D cl (m_ws ly1 N1 ad1 c3 X ++ m_ws ly2 N2 ad2 c3 Y) H) (hD : va_D (fun q : Nat => H0.size ≤ q) (m_ws ly1 N1 ad1 c3 X ++ m_ws ly2 N2 ad2 c3 Y)) (hS : va_S (fun q : Nat => H0.size ≤ q) H0 H locs) : m2 cl D c3 ly1 N1 ad1 ly2 N2 ad2 H0 H locs X Y := by
  have i1 : ∀ (k : Nat) (q : Nat × va_E), (m_ws ly1 N1 ad1 c3 X)[k]? = some q → (m_ws ly1 N1 ad1 c3 X ++ m_ws ly2 N2 ad2 c3 Y)[k]? = some q ∧ k < N1 := fun k q h => by
    have hk := (List.getElem?_eq_some_iff.mp h).1
    exact ⟨by rw [List.getElem?_append_left hk]; exact h, by rw [m_ws_len] at hk; exact hk⟩
  have i2 : ∀ (k : Nat) (q : Nat × va_E), (m_ws ly2 N2 ad2 c3 Y)[k]? = some q → (m_ws ly1 N1 ad1 c3 X ++ m_ws ly2 N2 ad2 c3 Y)[N1 + k]? = some q := fun k q h => by
    rw [List.getElem?_append_right (by rw [m_ws_len]; omega), m_ws_len, Nat.add_sub_cancel_left]
    exact h
  have a1 : ∀ q, m_A N1 ad1 q → ∃ (k : Nat) (x : Nat × va_E), (m_ws ly1 N1 ad1 c3 X)[k]? = some x ∧ x.1 = q := by
    rintro q ⟨k, hk, rfl⟩
    exact ⟨k, _, m_ws_at hk, rfl⟩
  have a2 : ∀ q, m_A N2 ad2 q → ∃ (k : Nat) (x : Nat × va_E), (m_ws ly2 N2 ad2 c3 Y)[k]? = some x ∧ x.1 = q := by
    rintro q ⟨k, hk, rfl⟩
    exact ⟨k, _, m_ws_at hk, rfl⟩
  refine ⟨fun k q h => hP k q (i1 k q h).1, fun k q h => hP _ q (i2 k q h), ⟨fun i j x y hi hj he => hD.1 i j x y (i1 i x hi).1 (i1 j y hj).1 he, fun k q h => m2_in h⟩, ⟨fun i j x y hi hj he => ?_, fun k q h => m2_in h⟩, fun q h => ?_, fun q h => ?_, fun q h g => ?_, hS⟩
  · have := hD.1 _ _ x y (i2 i x hi) (i2 j y hj) he
    omega
  · obtain ⟨k, x, h1, rfl⟩ := a1 q h
    exact hD.2 k x (i1 k x h1).1
  · obtain ⟨k, x, h1, rfl⟩ := a2 q h
    exact hD.2 _ x (i2 k x h1)
  · obtain ⟨k, x, h1, h2⟩ := a1 q h
    obtain ⟨k', x', h3, h4⟩ := a2 q g
    have := hD.1 _ _ x x' (i1 k x h1).1 (i2 k' x' h3) (h2.trans h4.symm)
    have := (i1 k x h1).2
    omega
theorem law_lt {L i : Nat} (hL : L ≤ 2560) (hi : i ≤ L) (h : ¬ Int32.ofNat L - 5 < nI i) : i + 5 ≤ L := by
  rcases Nat.lt_or_ge L (i + 5) with g | g
  · exfalso
    apply h
    rw [Int32.lt_iff_toInt_lt, Int32.toInt_sub, show (Int32.ofNat L).toInt = (L : Int) from nI_toInt (n := L) (by omega), nI_toInt (by omega), show (5 : Int32).toInt = 5 from by decide, Int.bmod_eq_of_le (by omega) (by omega)]
    omega
  · exact g
end MLO
