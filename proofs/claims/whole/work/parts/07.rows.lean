section MZR
variable {p : Program} {l : Launch} {e : Env} {R : Room} {s : State} {m : MethodId} {args : Array Value} {below : List Frame} {meth : Method} {c : Code} {H : Heap} {locs : List Loc} {cells slots : Nat} {Q : State → Prop}
variable {cc : ByteArray} {pc : Nat} {ls : Array Slot} {rest : List Value} {D : va_G} {cl : List vw_C} {ly : Nat → mDesc} {N : Nat} {ad : Nat → Nat} {c3 : ClassId × ClassId × ClassId} {M : mMem}
theorem m_topi {x y : Int32} (h : y = x) (k : W p l e R s m args below meth c H locs cells slots Q (F0 m pc ls (.int y :: rest))) : W p l e R s m args below meth c H locs cells slots Q (F0 m pc ls (.int x :: rest)) := h ▸ k
theorem m_get (hexec : p.tables.exec = Jvm.exec) (hb : c.code = cc) {own ref C : String} {T : u_T} {n ci index : Nat} {Ts : List Cond} (hts : ∀ w ∈ Ts, w.before args s = true) (hin : ∀ w ∈ u_ws C T n, w ∈ Ts) (hown : s.vm.findClass own = some m.cls) (hK : va_K D cl (m_ty c3) s) (hZ : mZ cl D ly N ad c3 s.heap H locs M) {k : Nat} (hk : k < N) {lst : List (Option Nat)} (hd : ly k = (3, ci, lst)) (hc : cl[ci]? = some (C, T, n)) (j : Nat) (hj : j < n) (hlink : (Cond.fieldLink own index ref (T j).2.1 (T j).2.2.1).before args s = true) (hsame : ∀ x, s.fieldFound? (T j).1 (T j).2.1 (T j).2.2.1 = some x → s.fieldFound? ref (T j).2.1 (T j).2.2.1 = some x) (hv : lst[j]? = some none) (hdg : decode cc pc = .ok (.getfield index, 3))
    (kk : W p l e R s m args below meth c H locs cells slots Q (F0 m (pc + 3) ls (.int (M k j) :: rest))) : W p l e R s m args below meth c H locs cells slots Q (F0 m pc ls (.ref (ad k) :: rest)) := by
  have he := m_ws_at (ly := ly) (ad := ad) (c3 := c3) (M := M) hk
  rw [hd] at he
  exact va_get (v := .int (M k j)) hexec hb hts hin hown hK hZ.1 k he hc j hj hlink hsame (by rw [m_fl_get, hv]; simp) hdg kk
theorem m_getR (hexec : p.tables.exec = Jvm.exec) (hb : c.code = cc) {own ref C : String} {T : u_T} {n ci index : Nat} {Ts : List Cond} (hts : ∀ w ∈ Ts, w.before args s = true) (hin : ∀ w ∈ u_ws C T n, w ∈ Ts) (hown : s.vm.findClass own = some m.cls) (hK : va_K D cl (m_ty c3) s) (hZ : mZ cl D ly N ad c3 s.heap H locs M) {k k' : Nat} (hk : k < N) {lst : List (Option Nat)} (hd : ly k = (3, ci, lst)) (hc : cl[ci]? = some (C, T, n)) (j : Nat) (hj : j < n) (hlink : (Cond.fieldLink own index ref (T j).2.1 (T j).2.2.1).before args s = true) (hsame : ∀ x, s.fieldFound? (T j).1 (T j).2.1 (T j).2.2.1 = some x → s.fieldFound? ref (T j).2.1 (T j).2.2.1 = some x) (hv : lst[j]? = some (some k')) (hdg : decode cc pc = .ok (.getfield index, 3))
    (kk : W p l e R s m args below meth c H locs cells slots Q (F0 m (pc + 3) ls (.ref (ad k') :: rest))) : W p l e R s m args below meth c H locs cells slots Q (F0 m pc ls (.ref (ad k) :: rest)) := by
  have he := m_ws_at (ly := ly) (ad := ad) (c3 := c3) (M := M) hk
  rw [hd] at he
  exact va_get (v := .ref (ad k')) hexec hb hts hin hown hK hZ.1 k he hc j hj hlink hsame (by rw [m_fl_get, hv]; simp) hdg kk
theorem m_put (hexec : p.tables.exec = Jvm.exec) (hb : c.code = cc) {own ref C : String} {T : u_T} {n ci index : Nat} {Ts : List Cond} (hts : ∀ w ∈ Ts, w.before args s = true) (hin : ∀ w ∈ u_ws C T n, w ∈ Ts) {ty0 : Nat → FieldType} (hty : (∀ k, k < n → parseFieldDescriptor (T k).2.2.1 = some (ty0 k)) ∧ (∀ a, a < n → ∀ b, b < n → a ≠ b → (T a).2.1 ≠ (T b).2.1)) (hown : s.vm.findClass own = some m.cls) (hK : va_K D cl (m_ty c3) s) (hZ : mZ cl D ly N ad c3 s.heap H locs M) {k : Nat} (hk : k < N) {lst : List (Option Nat)} (hd : ly k = (3, ci, lst)) (hc : cl[ci]? = some (C, T, n)) (j : Nat) (hj : j < n) (hlink : (Cond.fieldLink own index ref (T j).2.1 (T j).2.2.1).before args s = true) (hsame : ∀ x, s.fieldFound? (T j).1 (T j).2.1 (T j).2.2.1 = some x → s.fieldFound? ref (T j).2.1 (T j).2.2.1 = some x) (hfin : (T j).2.2.2 = false) {ty : FieldType} {v : Int32} (hpd : parseFieldDescriptor (T j).2.2.1 = some ty) (hn : narrow ty (.int v) = .int v) (hfit : fits ty (.int v) = true) (hv : lst[j]? = some none)
    (hdg : decode cc pc = .ok (.putfield index, 3)) {M1 : mMem} (eM : M1 = mu M k j v) (kk : ∀ (H1 : Heap) (locs1 : List Loc), mZ cl D ly N ad c3 s.heap H1 locs1 M1 → W p l e R s m args below meth c H1 locs1 cells slots Q (F0 m (pc + 3) ls rest)) : W p l e R s m args below meth c H locs cells slots Q (F0 m pc ls (.int v :: .ref (ad k) :: rest)) := by
  subst eM
  have he := m_ws_at (ly := ly) (ad := ad) (c3 := c3) (M := M) hk
  rw [hd] at he
  obtain ⟨hP, hD, hS⟩ := hZ
  refine va_put hexec hb hts hin ty0 hty.1 hty.2 hown hK hP hD hS k he hc j hj hlink hsame hfin hpd hn hfit (by rw [m_fl_len]; exact (List.getElem?_eq_some_iff.mp hv).1) hdg (fun H1 locs1 hP1 hD1 hS1 => kk H1 locs1 ⟨?_, m_D _ hD, hS1⟩)
  rw [m_fl_set _ _ _ _ _ hv, m_ws_set (M1 := mu M k j v) hk (by rw [hd, mu_self]; rfl) (fun q hq => mu_ne M j v hq)] at hP1
  exact hP1
theorem m_iald (hexec : p.tables.exec = Jvm.exec) (hb : c.code = cc) (hK : va_K D cl (m_ty c3) s) (hZ : mZ cl D ly N ad c3 s.heap H locs M) {k n : Nat} (hk : k < N) {lst : List (Option Nat)} (hd : ly k = (0, n, lst)) {i : Int32} (hin : inb i n) (hdg : decode cc pc = .ok (.iaload, 1))
    (kk : W p l e R s m args below meth c H locs cells slots Q (F0 m (pc + 1) ls (.int (M k i.toNatClampNeg) :: rest))) : W p l e R s m args below meth c H locs cells slots Q (F0 m pc ls (.int i :: .ref (ad k) :: rest)) := by
  have he := m_ws_at (ly := ly) (ad := ad) (c3 := c3) (M := M) hk
  rw [hd] at he
  exact va_iald hexec hb hK hZ.1 k 0 he rfl hin hdg kk
theorem m_zald (hexec : p.tables.exec = Jvm.exec) (hb : c.code = cc) (hK : va_K D cl (m_ty c3) s) (hZ : mZ cl D ly N ad c3 s.heap H locs M) {k n : Nat} (hk : k < N) {lst : List (Option Nat)} (hd : ly k = (1, n, lst)) {i : Int32} (hin : inb i n) (hdg : decode cc pc = .ok (.baload, 1))
    (kk : W p l e R s m args below meth c H locs cells slots Q (F0 m (pc + 1) ls (.int (M k i.toNatClampNeg) :: rest))) : W p l e R s m args below meth c H locs cells slots Q (F0 m pc ls (.int i :: .ref (ad k) :: rest)) := by
  have he := m_ws_at (ly := ly) (ad := ad) (c3 := c3) (M := M) hk
  rw [hd] at he
  exact va_zald hexec hb hK hZ.1 k 1 he rfl hin hdg kk
theorem m_aald (hexec : p.tables.exec = Jvm.exec) (hb : c.code = cc) (hK : va_K D cl (m_ty c3) s) (hZ : mZ cl D ly N ad c3 s.heap H locs M) {k n : Nat} (hk : k < N) {lst : List (Option Nat)} (hd : ly k = (2, n, lst)) {i : Int32} (hin : inb i n) (hdg : decode cc pc = .ok (.aaload, 1))
    (kk : W p l e R s m args below meth c H locs cells slots Q (F0 m (pc + 1) ls (.ref (ad (k + 1 + i.toNatClampNeg)) :: rest))) : W p l e R s m args below meth c H locs cells slots Q (F0 m pc ls (.int i :: .ref (ad k) :: rest)) := by
  have he := m_ws_at (ly := ly) (ad := ad) (c3 := c3) (M := M) hk
  rw [hd] at he
  have hlt : i.toNatClampNeg < n := m_lt hin
  exact W.aald (v := .ref (ad (k + 1 + i.toNatClampNeg))) (ty := .array .int) hexec hb (hZ.1 k _ he) ((hK.2 2 _ rfl).1 n (fun j => va_rf (m_rw n (fun i => ad (k + 1 + i)) j))) rfl (fun q => by cases q) (by show ¬ (i < 0 ∨ (arrV _ _ _).slots.size ≤ _); rw [arrV_size]; exact hin) (by show (arrV _ _ _).slots[_]? = _; rw [arrV_read _ _ hlt, m_rw_at hlt]; rfl) rfl rfl hdg kk
theorem m_iast (hexec : p.tables.exec = Jvm.exec) (hb : c.code = cc) (hK : va_K D cl (m_ty c3) s) (hZ : mZ cl D ly N ad c3 s.heap H locs M) {k n : Nat} (hk : k < N) {lst : List (Option Nat)} (hd : ly k = (0, n, lst)) {i x : Int32} (hin : inb i n) (hdg : decode cc pc = .ok (.iastore, 1))
    {M1 : mMem} (eM : M1 = mu M k i.toNatClampNeg x) (kk : ∀ (H1 : Heap) (locs1 : List Loc), mZ cl D ly N ad c3 s.heap H1 locs1 M1 → W p l e R s m args below meth c H1 locs1 cells slots Q (F0 m (pc + 1) ls rest)) : W p l e R s m args below meth c H locs cells slots Q (F0 m pc ls (.int x :: .int i :: .ref (ad k) :: rest)) := by
  subst eM
  have he := m_ws_at (ly := ly) (ad := ad) (c3 := c3) (M := M) hk
  rw [hd] at he
  obtain ⟨hP, hD, hS⟩ := hZ
  refine va_iast hexec hb hK hP hD hS k 0 he rfl hin hdg (fun H1 locs1 hP1 hD1 hS1 => kk H1 locs1 ⟨?_, m_D _ hD, hS1⟩)
  rw [m_ws_set (M1 := mu M k i.toNatClampNeg x) hk (by rw [hd, mu_self]; rfl) (fun q hq => mu_ne M _ x hq)] at hP1
  exact hP1
/-- a boolean array keeps 0 and 1; 'hx' says that the pure text has what it keeps -/
theorem m_zast (hexec : p.tables.exec = Jvm.exec) (hb : c.code = cc) (hK : va_K D cl (m_ty c3) s) (hZ : mZ cl D ly N ad c3 s.heap H locs M) {k n : Nat} (hk : k < N) {lst : List (Option Nat)} (hd : ly k = (1, n, lst)) {i x : Int32} (hin : inb i n) (hdg : decode cc pc = .ok (.bastore, 1))
    {M1 : mMem} {y : Int32} (eM : M1 = mu M k i.toNatClampNeg y) (hy : y = vp_nar .boolean x) (kk : ∀ (H1 : Heap) (locs1 : List Loc), mZ cl D ly N ad c3 s.heap H1 locs1 M1 → W p l e R s m args below meth c H1 locs1 cells slots Q (F0 m (pc + 1) ls rest)) : W p l e R s m args below meth c H locs cells slots Q (F0 m pc ls (.int x :: .int i :: .ref (ad k) :: rest)) := by
  subst eM
  subst hy
  have he := m_ws_at (ly := ly) (ad := ad) (c3 := c3) (M := M) hk
  rw [hd] at he
  obtain ⟨hP, hD, hS⟩ := hZ
  refine va_zast hexec hb hK hP hD hS k 1 he rfl hin hdg (fun H1 locs1 hP1 hD1 hS1 => kk H1 locs1 ⟨?_, m_D _ hD, hS1⟩)
  rw [m_ws_set (M1 := mu M k i.toNatClampNeg (vp_nar .boolean x)) hk (by rw [hd, mu_self]; rfl) (fun q hq => mu_ne M _ _ hq)] at hP1
  exact hP1
/-! calls within a world -/
variable {nw : List Cond} {M' : mMem}
theorem m_nwc {U : State} {g : JFrame} {mk : MethodId} {a : Array Value} (hn : ∀ w ∈ nw, ∃ a i x h, w = Cond.methodLinkNest a i x h) (h : ∀ w ∈ nw, va_Nw w U) : ∀ w ∈ nw, va_Nw w (U.calling g mk a) := by
  intro w hw
  obtain ⟨a', i, x, h', rfl⟩ := hn w hw
  exact va_tabs (A := #[]) (u := U) rfl (show U.vm = (U.calling g mk a).vm from rfl) (h _ hw)
theorem m_blind {av : List Value} (hn : ∀ w ∈ nw, ∃ a i x h, w = Cond.methodLinkNest a i x h) : FrameBlind (va_Pc av (mC cl nw D ly N ad c3 M)) := by
  intro a U g mk q
  obtain ⟨q0, qP, qK, qD, qN⟩ := q
  exact ⟨q0, qP, va_K.moved (u := U) (U := U.calling g mk a) (Vm.Alike.refl U.vm) qK, qD, m_nwc hn qN⟩
theorem m_nw {U : State} (hW : s.WarmedH U.vm) (hn : ∀ w ∈ nw, ∃ a i x h, w = Cond.methodLinkNest a i x h) (h : ∀ w ∈ nw, va_Nw w s) : ∀ w ∈ nw, va_Nw w U := by
  intro w hw
  obtain ⟨a, i, x, h', rfl⟩ := hn w hw
  exact va_Nw.warmM hW (h _ hw)
theorem m_preS {As : List Value} (hK : va_K D cl (m_ty c3) s) (hN : (∀ w ∈ nw, ∃ a i x h, w = Cond.methodLinkNest a i x h) ∧ ∀ w ∈ nw, va_Nw w s) (hZ : mZ cl D ly N ad c3 s.heap H locs M) : PreS s H (va_Pc As (mC cl nw D ly N ad c3 M)) As :=
  ⟨m_blind hN.1, fun U hU hW => ⟨rfl, by rw [hU]; exact hZ.1, va_K.moved hW.alike hK, hZ.2.1, m_nw hW hN.1 hN.2⟩⟩
theorem m_preV {As : List Value} (hK : va_K D cl (m_ty c3) s) (hN : (∀ w ∈ nw, ∃ a i x h, w = Cond.methodLinkNest a i x h) ∧ ∀ w ∈ nw, va_Nw w s) (hZ : mZ cl D ly N ad c3 s.heap H locs M) {k ci n : Nat} {C : String} {T : u_T} {lst : List (Option Nat)} (hk : k < N) (hd : ly k = (3, ci, lst)) (hc : cl[ci]? = some (C, T, n)) : PreV s H C (ad k) (va_Pc (.ref (ad k) :: As) (mC cl nw D ly N ad c3 M)) As := by
  have he := m_ws_at (ly := ly) (ad := ad) (c3 := c3) (M := M) hk
  rw [hd] at he
  exact ⟨m_blind hN.1, va_recv hK hZ.1 hc he, fun U hU hW => ⟨rfl, by rw [hU]; exact hZ.1, va_K.moved hW.alike hK, hZ.2.1, m_nw hW hN.1 hN.2⟩⟩
variable {st0 : List Value} {a : Array Value} {r : Int32}
theorem m_ci (hr : va_Run p l e R s m args below meth c H locs cells slots 0 0 (F0 m pc ls st0) rest (va_Qi (fun (r' : Int32) (_ : Unit) => r' = r) (fun _ t => va_P D cl (m_ws ly N ad c3 M') t.heap) (m_A N ad) a) (m_A N ad)) (hZ : mZ cl D ly N ad c3 s.heap H locs M)
    (kk : ∀ (H1 : Heap) (locs1 : List Loc), mZ cl D ly N ad c3 s.heap H1 locs1 M' → W p l e R s m args below meth c H1 locs1 cells slots Q (F0 m (pc + 3) ls (.int r :: rest))) : W p l e R s m args below meth c H locs cells slots Q (F0 m pc ls st0) := by
  refine va_calli hr hZ.2.2 (fun q _ h => h) (fun q h => h) (fun r' u t H1 locs1 ht hvm hp hB hz hk hS => ?_)
  subst hp
  rw [ht] at hB
  exact kk H1 locs1 ⟨hB, m_D _ hZ.2.1, hS⟩
theorem m_cv (hr : va_Run p l e R s m args below meth c H locs cells slots 0 0 (F0 m pc ls st0) rest (va_Qv (fun (_ : Unit) => True) (fun _ t => va_P D cl (m_ws ly N ad c3 M') t.heap) (m_A N ad) a) (m_A N ad)) (hZ : mZ cl D ly N ad c3 s.heap H locs M)
    (kk : ∀ (H1 : Heap) (locs1 : List Loc), mZ cl D ly N ad c3 s.heap H1 locs1 M' → W p l e R s m args below meth c H1 locs1 cells slots Q (F0 m (pc + 3) ls rest)) : W p l e R s m args below meth c H locs cells slots Q (F0 m pc ls st0) := by
  refine va_callv hr hZ.2.2 (fun q _ h => h) (fun q h => h) (fun u t H1 locs1 ht hvm hp hB hz hk hS => ?_)
  rw [ht] at hB
  exact kk H1 locs1 ⟨hB, m_D _ hZ.2.1, hS⟩
end MZR
/-! a method's beginning and its end -/
section MZO
variable {l : Launch} {D : va_G} {cl : List vw_C} {nw : List Cond} {ly : Nat → mDesc} {N : Nat} {ad : Nat → Nat} {c3 : ClassId × ClassId × ClassId} {M M' : mMem} {y : MethodName} {ws ws' : List Cond} {rm : Room} {cc : ByteArray} {maxL : Nat} {own : String} {av : List Value} {r : Int32}
theorem m_oI {ty : FieldType} (hnest : ∀ w ∈ nw, ∃ a i x h, w = Cond.methodLinkNest a i x h) (hy : plainName y.cls = true) (hw : ws = Cond.code y cc maxL (some ty) :: ws') (hlen : (lg_sl av).length ≤ maxL) (ho : y.cls = own)
    (body : ∀ (p : Program) (e : Env) (s : State) (m : MethodId) (args : Array Value) (below : List Frame) (meth : Method) (c : Code) (Q : State → Prop), p.tables.exec = Jvm.exec → c.code = cc → c.maxLocals = maxL → s.vm.findClass own = some m.cls → (∀ w ∈ ws', w.before args s = true) → va_K D cl (m_ty c3) s → ((∀ w ∈ nw, ∃ a i x h, w = Cond.methodLinkNest a i x h) ∧ ∀ w ∈ nw, va_Nw w s) →
      (∀ (H : Heap) (locs : List Loc) (ls : Array Slot) (pc : Nat) (v : Int32) (M0 : mMem), some (v, M0) = some (r, M') → narrow ty (.int v) = .int v → mZ cl D ly N ad c3 s.heap H locs M0 → decode cc pc = .ok (.ireturn, 1) → W p l e rm s m args below meth c H locs 0 0 Q (F0 m pc ls [.int v])) →
      ∀ ls : Array Slot, mZ cl D ly N ad c3 s.heap s.heap [] M → lv_has ls maxL (lv_args 0 av) → W p l e rm s m args below meth c s.heap [] 0 0 Q (F0 m 0 ls [])) : mKI cl nw ly N l D ad c3 y ws rm av M r M' := by
  refine Met.ofW (cc := cc) (maxL := maxL) (ret := some ty) hy hw ?_
  intro p e s m args below meth c s₁ B hml hv
  obtain ⟨rfl, hP, hK, hD, hN⟩ := hv
  have hx := B.exec
  have hb := B.bytes
  have hr := B.returns
  have hts := atoms_spec (ws := ws) B.pre
  have hown : s.vm.findClass own = some m.cls := by rw [← ho]; exact findClass_of_methodNamed B.named
  have hlocks := B.notSynchronized
  have hl := lv_entry av (n := maxL) hlen
  rw [lg_entry_eq]
  have hts : ∀ w ∈ ws', w.before (av.toArray) s = true := fun w h => hts w (by rw [hw]; exact List.mem_cons_of_mem _ h)
  refine body p e s m _ below meth c _ hx hb hml hown hts hK ⟨hnest, hN⟩ ?_ _ ⟨hP, hD, va_S.rf⟩ hl
  intro H locs ls pc v M0 he hn hZ hdg
  cases he
  exact W.zret hx hb hr hn (fun t ht hW => ⟨⟨r, (), rfl, rfl, by show va_P _ _ _ t.heap; rw [ht]; exact hZ.1⟩, hZ.2.2.F ht⟩) hZ.2.2.2.2 hdg
theorem m_oP {ty : FieldType} (hnest : ∀ w ∈ nw, ∃ a i x h, w = Cond.methodLinkNest a i x h) (hy : plainName y.cls = true) (hw : ws = Cond.code y cc maxL (some ty) :: ws') (hlen : (lg_sl av).length ≤ maxL) (ho : y.cls = own)
    (body : ∀ (p : Program) (e : Env) (s : State) (m : MethodId) (args : Array Value) (below : List Frame) (meth : Method) (c : Code) (Q : State → Prop), p.tables.exec = Jvm.exec → c.code = cc → c.maxLocals = maxL → s.vm.findClass own = some m.cls → (∀ w ∈ ws', w.before args s = true) → va_K D cl (m_ty c3) s → ((∀ w ∈ nw, ∃ a i x h, w = Cond.methodLinkNest a i x h) ∧ ∀ w ∈ nw, va_Nw w s) →
      (∀ (H : Heap) (locs : List Loc) (ls : Array Slot) (pc : Nat) (v : Int32) (M0 : mMem), some v = some r → narrow ty (.int v) = .int v → mZ cl D ly N ad c3 s.heap H locs M → decode cc pc = .ok (.ireturn, 1) → W p l e rm s m args below meth c H locs 0 0 Q (F0 m pc ls [.int v])) →
      ∀ ls : Array Slot, mZ cl D ly N ad c3 s.heap s.heap [] M → lv_has ls maxL (lv_args 0 av) → W p l e rm s m args below meth c s.heap [] 0 0 Q (F0 m 0 ls [])) : mKI cl nw ly N l D ad c3 y ws rm av M r M := by
  refine m_oI (ty := ty) (cc := cc) (maxL := maxL) (own := own) hnest hy hw hlen ho ?_
  intro p e s m args below meth c Q hx hb hml hown hts hK hN hret ls hZ hl
  refine body p e s m args below meth c Q hx hb hml hown hts hK hN ?_ ls hZ hl
  intro H locs ls pc v M0 he hn hZ hdg
  cases he
  exact hret H locs ls pc r M rfl hn hZ hdg
theorem m_oV (hnest : ∀ w ∈ nw, ∃ a i x h, w = Cond.methodLinkNest a i x h) (hy : plainName y.cls = true) (hw : ws = Cond.code y cc maxL none :: ws') (hlen : (lg_sl av).length ≤ maxL) (ho : y.cls = own)
    (body : ∀ (p : Program) (e : Env) (s : State) (m : MethodId) (args : Array Value) (below : List Frame) (meth : Method) (c : Code) (Q : State → Prop), p.tables.exec = Jvm.exec → c.code = cc → c.maxLocals = maxL → s.vm.findClass own = some m.cls → (∀ w ∈ ws', w.before args s = true) → va_K D cl (m_ty c3) s → ((∀ w ∈ nw, ∃ a i x h, w = Cond.methodLinkNest a i x h) ∧ ∀ w ∈ nw, va_Nw w s) →
      (∀ (H : Heap) (locs : List Loc) (ls : Array Slot) (pc : Nat) (M0 : mMem), some M0 = some M' → mZ cl D ly N ad c3 s.heap H locs M0 → decode cc pc = .ok (.return_, 1) → W p l e rm s m args below meth c H locs 0 0 Q (F0 m pc ls [])) →
      ∀ ls : Array Slot, mZ cl D ly N ad c3 s.heap s.heap [] M → lv_has ls maxL (lv_args 0 av) → W p l e rm s m args below meth c s.heap [] 0 0 Q (F0 m 0 ls [])) : mKV cl nw ly N l D ad c3 y ws rm av M M' := by
  refine Met.ofW (cc := cc) (maxL := maxL) (ret := none) hy hw ?_
  intro p e s m args below meth c s₁ B hml hv
  obtain ⟨rfl, hP, hK, hD, hN⟩ := hv
  have hx := B.exec
  have hb := B.bytes
  have hr := B.returns
  have hts := atoms_spec (ws := ws) B.pre
  have hown : s.vm.findClass own = some m.cls := by rw [← ho]; exact findClass_of_methodNamed B.named
  have hlocks := B.notSynchronized
  have hl := lv_entry av (n := maxL) hlen
  rw [lg_entry_eq]
  have hts : ∀ w ∈ ws', w.before (av.toArray) s = true := fun w h => hts w (by rw [hw]; exact List.mem_cons_of_mem _ h)
  refine body p e s m _ below meth c _ hx hb hml hown hts hK ⟨hnest, hN⟩ ?_ _ ⟨hP, hD, va_S.rf⟩ hl
  intro H locs ls pc M0 he hZ hdg
  cases he
  exact W.vret hx hb hr (fun t ht hW => ⟨⟨(), rfl, trivial, by show va_P _ _ _ t.heap; rw [ht]; exact hZ.1⟩, hZ.2.2.F ht⟩) hZ.2.2.2.2 hdg
end MZO
theorem m_narZ {x : Int32} (h : vp_nar .boolean x = x) : narrow .boolean (.int x) = .int x := by
  have h : x &&& 1 = x := h
  show Value.int (x &&& 1) = Value.int x
  rw [h]
theorem m_sw0_2 {x : Int32} (h0 : ¬ x = 0) (h1 : ¬ x = 1) (h2 : ¬ x = 2) : x.toInt < 0 ∨ 2 < x.toInt := by
  rcases Int.lt_or_le x.toInt 0 with h | h
  · exact Or.inl h
  · rcases Int.lt_or_le 2 x.toInt with g | g
    · exact Or.inr g
    · exfalso
      have : x.toInt = 0 ∨ x.toInt = 1 ∨ x.toInt = 2 := by omega
      rcases this with q | q | q
      · exact h0 (Int32.toInt_inj.mp q)
      · exact h1 (Int32.toInt_inj.mp q)
      · exact h2 (Int32.toInt_inj.mp q)
theorem m_sw0_3 {x : Int32} (h0 : ¬ x = 0) (h1 : ¬ x = 1) (h2 : ¬ x = 2) (h3 : ¬ x = 3) : x.toInt < 0 ∨ 3 < x.toInt := by
  rcases Int.lt_or_le x.toInt 0 with h | h
  · exact Or.inl h
  · rcases Int.lt_or_le 3 x.toInt with g | g
    · exact Or.inr g
    · exfalso
      have : x.toInt = 0 ∨ x.toInt = 1 ∨ x.toInt = 2 ∨ x.toInt = 3 := by omega
      rcases this with q | q | q | q
      · exact h0 (Int32.toInt_inj.mp q)
      · exact h1 (Int32.toInt_inj.mp q)
      · exact h2 (Int32.toInt_inj.mp q)
      · exact h3 (Int32.toInt_inj.mp q)
theorem m_sw0_5 {x : Int32} (h0 : ¬ x = 0) (h1 : ¬ x = 1) (h2 : ¬ x = 2) (h3 : ¬ x = 3) (h4 : ¬ x = 4) (h5 : ¬ x = 5) : x.toInt < 0 ∨ 5 < x.toInt := by
  rcases Int.lt_or_le x.toInt 0 with h | h
  · exact Or.inl h
  · rcases Int.lt_or_le 5 x.toInt with g | g
    · exact Or.inr g
    · exfalso
      have : x.toInt = 0 ∨ x.toInt = 1 ∨ x.toInt = 2 ∨ x.toInt = 3 ∨ x.toInt = 4 ∨ x.toInt = 5 := by omega
      rcases this with q | q | q | q | q | q
      · exact h0 (Int32.toInt_inj.mp q)
      · exact h1 (Int32.toInt_inj.mp q)
      · exact h2 (Int32.toInt_inj.mp q)
      · exact h3 (Int32.toInt_inj.mp q)
      · exact h4 (Int32.toInt_inj.mp q)
      · exact h5 (Int32.toInt_inj.mp q)
theorem m_sw0_21 {x : Int32} (h0 : ¬ x = 0) (h1 : ¬ x = 1) (h2 : ¬ x = 2) (h3 : ¬ x = 3) (h4 : ¬ x = 4) (h5 : ¬ x = 5) (h6 : ¬ x = 6) (h7 : ¬ x = 7) (h8 : ¬ x = 8) (h9 : ¬ x = 9) (h10 : ¬ x = 10) (h11 : ¬ x = 11) (h12 : ¬ x = 12) (h13 : ¬ x = 13) (h14 : ¬ x = 14) (h15 : ¬ x = 15) (h16 : ¬ x = 16) (h17 : ¬ x = 17) (h18 : ¬ x = 18) (h19 : ¬ x = 19) (h20 : ¬ x = 20) (h21 : ¬ x = 21) : x.toInt < 0 ∨ 21 < x.toInt := by
  rcases Int.lt_or_le x.toInt 0 with h | h
  · exact Or.inl h
  · rcases Int.lt_or_le 21 x.toInt with g | g
    · exact Or.inr g
    · exfalso
      have : x.toInt = 0 ∨ x.toInt = 1 ∨ x.toInt = 2 ∨ x.toInt = 3 ∨ x.toInt = 4 ∨ x.toInt = 5 ∨ x.toInt = 6 ∨ x.toInt = 7 ∨ x.toInt = 8 ∨ x.toInt = 9 ∨ x.toInt = 10 ∨ x.toInt = 11 ∨ x.toInt = 12 ∨ x.toInt = 13 ∨ x.toInt = 14 ∨ x.toInt = 15 ∨ x.toInt = 16 ∨ x.toInt = 17 ∨ x.toInt = 18 ∨ x.toInt = 19 ∨ x.toInt = 20 ∨ x.toInt = 21 := by omega
      rcases this with q | q | q | q | q | q | q | q | q | q | q | q | q | q | q | q | q | q | q | q | q | q
      · exact h0 (Int32.toInt_inj.mp q)
      · exact h1 (Int32.toInt_inj.mp q)
      · exact h2 (Int32.toInt_inj.mp q)
      · exact h3 (Int32.toInt_inj.mp q)
      · exact h4 (Int32.toInt_inj.mp q)
      · exact h5 (Int32.toInt_inj.mp q)
      · exact h6 (Int32.toInt_inj.mp q)
      · exact h7 (Int32.toInt_inj.mp q)
      · exact h8 (Int32.toInt_inj.mp q)
      · exact h9 (Int32.toInt_inj.mp q)
      · exact h10 (Int32.toInt_inj.mp q)
      · exact h11 (Int32.toInt_inj.mp q)
      · exact h12 (Int32.toInt_inj.mp q)
      · exact h13 (Int32.toInt_inj.mp q)
      · exact h14 (Int32.toInt_inj.mp q)
      · exact h15 (Int32.toInt_inj.mp q)
      · exact h16 (Int32.toInt_inj.mp q)
      · exact h17 (Int32.toInt_inj.mp q)
      · exact h18 (Int32.toInt_inj.mp q)
      · exact h19 (Int32.toInt_inj.mp q)
      · exact h20 (Int32.toInt_inj.mp q)
      · exact h21 (Int32.toInt_inj.mp q)
