/-! The memory of a world whose references never change: M k j is the j-th number of its k-th cell. -/
abbrev mMem : Type := Nat → Nat → Int32
abbrev mDesc : Type := Nat × Nat × List (Option Nat)
def mu (M : mMem) (k j : Nat) (v : Int32) : mMem := fun q => if q = k then upd (M k) j v else M q
abbrev inb (i : Int32) (n : Nat) : Prop := ¬ (i < 0 ∨ n ≤ i.toNatClampNeg)
def m_l {α β : Type} (a : α) (f : α → β) : β := f a
def m_g {α : Type} (c : Prop) [Decidable c] (t : Option α) : Option α := if c then t else none
def m_b1 {α β : Type} (o : Option α) (f : α → Option β) : Option β := match o with
  | none => none
  | some a => f a
def m_b2 {α β γ : Type} (o : Option (α × β)) (f : α → β → Option γ) : Option γ := match o with
  | none => none
  | some p => f p.1 p.2
theorem m_lx {α β : Type} {a : α} {f : α → Option β} {r : β} (h : m_l a f = some r) : ∃ x, x = a ∧ f x = some r := ⟨a, rfl, h⟩
theorem m_gx {α : Type} {c : Prop} [Decidable c] {t : Option α} {r : α} (h : m_g c t = some r) : c ∧ t = some r := by
  unfold m_g at h
  by_cases hc : c
  · rw [if_pos hc] at h
    exact ⟨hc, h⟩
  · rw [if_neg hc] at h
    cases h
theorem m_b1x {α β : Type} {o : Option α} {f : α → Option β} {r : β} (h : m_b1 o f = some r) : ∃ x, o = some x ∧ f x = some r := by
  cases o with
  | none => cases h
  | some a => exact ⟨a, rfl, h⟩
theorem m_b2x {α β γ : Type} {o : Option (α × β)} {f : α → β → Option γ} {r : γ} (h : m_b2 o f = some r) : ∃ x y, o = some (x, y) ∧ f x y = some r := by
  cases o with
  | none => cases h
  | some p => exact ⟨p.1, p.2, rfl, h⟩
theorem m_t {α : Type} {c : Prop} [Decidable c] {a b r : α} (h : (if c then a else b) = r) (hc : c) : a = r := by
  rw [if_pos hc] at h
  exact h
theorem m_f {α : Type} {c : Prop} [Decidable c] {a b r : α} (h : (if c then a else b) = r) (hc : ¬ c) : b = r := by
  rw [if_neg hc] at h
  exact h
theorem m_none {α : Type} {P : Prop} {r : α} (h : (none : Option α) = some r) : P := by cases h
theorem m_lt {i : Int32} {n : Nat} (h : inb i n) : i.toNatClampNeg < n := Nat.not_le.mp fun q => h (Or.inr q)
/-! the world -/
def m_fl (ad : Nat → Nat) (m : Nat → Int32) : Nat → List (Option Nat) → List Value
  | _, [] => []
  | j, none :: l => .int (m j) :: m_fl ad m (j + 1) l
  | j, some k :: l => .ref (ad k) :: m_fl ad m (j + 1) l
/-- the rows of a grid, by their addresses -/
def m_rw (n : Nat) (f : Nat → Nat) : Nat → Option Nat := fun j => ((List.range n).map (fun i => some (f i))).getD j none
theorem m_rw_at {n : Nat} {f : Nat → Nat} {j : Nat} (h : j < n) : m_rw n f j = some (f j) := by simp [m_rw, h]
def m_E (ad : Nat → Nat) (c3 : ClassId × ClassId × ClassId) (k : Nat) (m : Nat → Int32) (d : mDesc) : va_E := match d with
  | (0, n, _) => .inl (c3.1, n, .inl m)
  | (1, n, _) => .inl (c3.2.1, n, .inl m)
  | (2, n, _) => .inl (c3.2.2, n, .inr (.inr (.inr (.inr (m_rw n (fun i => ad (k + 1 + i)))))))
  | (_, n, l) => .inr (n, m_fl ad m 0 l)
def m_ws (ly : Nat → mDesc) (N : Nat) (ad : Nat → Nat) (c3 : ClassId × ClassId × ClassId) (M : mMem) : va_W := (List.range N).map (fun k => (ad k, m_E ad c3 k (M k) (ly k)))
def m_A (N : Nat) (ad : Nat → Nat) : Nat → Prop := fun q => ∃ k, k < N ∧ ad k = q
abbrev m_ty (c3 : ClassId × ClassId × ClassId) : List (ClassId × FieldType) := [(c3.1, .int), (c3.2.1, .boolean), (c3.2.2, .array .int)]
theorem m_fl_get (ad : Nat → Nat) (m : Nat → Int32) : ∀ (l : List (Option Nat)) (j i : Nat), (m_fl ad m i l)[j]? = (l[j]?).map (fun o => match o with | none => Value.int (m (i + j)) | some k => Value.ref (ad k))
  | [], j, i => by simp [m_fl]
  | none :: l, 0, i => by simp [m_fl]
  | some k :: l, 0, i => by simp [m_fl]
  | none :: l, j + 1, i => by
    rw [m_fl, List.getElem?_cons_succ, m_fl_get ad m l j (i + 1), List.getElem?_cons_succ, Nat.add_right_comm, Nat.add_assoc]
  | some k :: l, j + 1, i => by
    rw [m_fl, List.getElem?_cons_succ, m_fl_get ad m l j (i + 1), List.getElem?_cons_succ, Nat.add_right_comm, Nat.add_assoc]
theorem m_fl_len (ad : Nat → Nat) (m : Nat → Int32) : ∀ (l : List (Option Nat)) (i : Nat), (m_fl ad m i l).length = l.length
  | [], i => rfl
  | none :: l, i => by simp [m_fl, m_fl_len ad m l (i + 1)]
  | some k :: l, i => by simp [m_fl, m_fl_len ad m l (i + 1)]
theorem m_fl_set (ad : Nat → Nat) (m : Nat → Int32) (l : List (Option Nat)) (j : Nat) (v : Int32) (h : l[j]? = some none) : (m_fl ad m 0 l).set j (.int v) = m_fl ad (upd m j v) 0 l := by
  have hj : j < l.length := (List.getElem?_eq_some_iff.mp h).1
  apply List.ext_getElem?
  intro i
  rw [m_fl_get]
  by_cases hi : j = i
  · subst hi
    rw [List.getElem?_set_self (by rw [m_fl_len]; exact hj), h]
    simp [upd]
  · rw [List.getElem?_set_ne hi, m_fl_get]
    cases hl : l[i]? with
    | none => rfl
    | some o =>
      cases o with
      | none => simp [upd, Ne.symm hi]
      | some k => rfl
theorem m_ws_at {ly : Nat → mDesc} {N : Nat} {ad : Nat → Nat} {c3 : ClassId × ClassId × ClassId} {M : mMem} {k : Nat} (hk : k < N) : (m_ws ly N ad c3 M)[k]? = some (ad k, m_E ad c3 k (M k) (ly k)) := by
  simp [m_ws, hk]
theorem m_ws_none {ly : Nat → mDesc} {N : Nat} {ad : Nat → Nat} {c3 : ClassId × ClassId × ClassId} {M : mMem} {k : Nat} (hk : ¬ k < N) : (m_ws ly N ad c3 M)[k]? = none := by
  simp [m_ws]; omega
theorem m_ws_set {ly : Nat → mDesc} {N : Nat} {ad : Nat → Nat} {c3 : ClassId × ClassId × ClassId} {M M1 : mMem} {k : Nat} (hk : k < N) {e : va_E} (he : e = m_E ad c3 k (M1 k) (ly k)) (ho : ∀ q, q ≠ k → M1 q = M q) : (m_ws ly N ad c3 M).set k (ad k, e) = m_ws ly N ad c3 M1 := by
  subst he
  apply List.ext_getElem?
  intro i
  by_cases hi : k = i
  · subst hi
    rw [List.getElem?_set_self (by simp [m_ws]; exact hk), m_ws_at hk]
  · rw [List.getElem?_set_ne hi]
    by_cases hn : i < N
    · rw [m_ws_at hn, m_ws_at hn, ho i (Ne.symm hi)]
    · rw [m_ws_none hn, m_ws_none hn]
theorem mu_self (M : mMem) (k j : Nat) (v : Int32) : mu M k j v k = upd (M k) j v := by simp [mu]
theorem mu_ne (M : mMem) {k q : Nat} (j : Nat) (v : Int32) (h : q ≠ k) : mu M k j v q = M q := by simp [mu, h]
/-- the addresses of the world don't hang on what its cells hold -/
theorem m_D {ly : Nat → mDesc} {N : Nat} {ad : Nat → Nat} {c3 : ClassId × ClassId × ClassId} {A : Nat → Prop} {M : mMem} (M1 : mMem) (h : va_D A (m_ws ly N ad c3 M)) : va_D A (m_ws ly N ad c3 M1) := by
  have key : ∀ (k : Nat) (q : Nat × va_E), (m_ws ly N ad c3 M1)[k]? = some q → ∃ q0, (m_ws ly N ad c3 M)[k]? = some q0 ∧ q0.1 = q.1 := by
    intro k q hq
    by_cases hk : k < N
    · rw [m_ws_at hk] at hq
      cases hq
      exact ⟨_, m_ws_at hk, rfl⟩
    · rw [m_ws_none hk] at hq
      cases hq
  refine ⟨fun i j x y hi hj hxy => ?_, fun k q hk => ?_⟩
  · obtain ⟨x0, h1, h2⟩ := key i x hi
    obtain ⟨y0, h3, h4⟩ := key j y hj
    exact h.1 i j x0 y0 h1 h3 (h2.trans (hxy.trans h4.symm))
  · obtain ⟨q0, h1, h2⟩ := key k q hk
    rw [← h2]
    exact h.2 k q0 h1
def mZ (cl : List vw_C) (D : va_G) (ly : Nat → mDesc) (N : Nat) (ad : Nat → Nat) (c3 : ClassId × ClassId × ClassId) (H0 H : Heap) (locs : List Loc) (M : mMem) : Prop :=
  va_P D cl (m_ws ly N ad c3 M) H ∧ va_D (m_A N ad) (m_ws ly N ad c3 M) ∧ va_S (m_A N ad) H0 H locs
def mC (cl : List vw_C) (nw : List Cond) (D : va_G) (ly : Nat → mDesc) (N : Nat) (ad : Nat → Nat) (c3 : ClassId × ClassId × ClassId) (M : mMem) (U : State) : Prop :=
  va_P D cl (m_ws ly N ad c3 M) U.heap ∧ va_K D cl (m_ty c3) U ∧ va_D (m_A N ad) (m_ws ly N ad c3 M) ∧ ∀ w ∈ nw, va_Nw w U
def mKI (cl : List vw_C) (nw : List Cond) (ly : Nat → mDesc) (N : Nat) (l : Launch) (D : va_G) (ad : Nat → Nat) (c3 : ClassId × ClassId × ClassId) (y : MethodName) (w : List Cond) (rm : Room) (av : List Value) (M : mMem) (r : Int32) (M' : mMem) : Prop :=
  Met l y w rm (va_Pc av (mC cl nw D ly N ad c3 M)) (va_Qi (fun (r' : Int32) (_ : Unit) => r' = r) (fun _ t => va_P D cl (m_ws ly N ad c3 M') t.heap) (m_A N ad)) 0 0 (m_A N ad)
def mKV (cl : List vw_C) (nw : List Cond) (ly : Nat → mDesc) (N : Nat) (l : Launch) (D : va_G) (ad : Nat → Nat) (c3 : ClassId × ClassId × ClassId) (y : MethodName) (w : List Cond) (rm : Room) (av : List Value) (M : mMem) (M' : mMem) : Prop :=
  Met l y w rm (va_Pc av (mC cl nw D ly N ad c3 M)) (va_Qv (fun (_ : Unit) => True) (fun _ t => va_P D cl (m_ws ly N ad c3 M') t.heap) (m_A N ad)) 0 0 (m_A N ad)
