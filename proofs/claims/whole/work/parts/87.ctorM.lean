section MCL
variable {p : Program} {l : Launch} {e : Env} {R : Room} {s : State} {m : MethodId} {args : Array Value} {below : List Frame} {meth : Method} {c : Code} {H H0 : Heap} {locs : List Loc} {cells slots : Nat} {Q : State → Prop}
variable {cc : ByteArray} {pc : Nat} {ls : Array Slot} {rest : List Value} {D : va_G} {cl : List vw_C} {c3 : ClassId × ClassId × ClassId} {A : Nat → Prop} {tl : va_W} {a : Nat} {x : Nat × va_E}
theorem m_pF (hexec : p.tables.exec = Jvm.exec) (hb : c.code = cc) {own ref C : String} {T : u_T} {n ci index : Nat} {Ts : List Cond} (hts : ∀ w ∈ Ts, w.before args s = true) (hin : ∀ w ∈ u_ws C T n, w ∈ Ts) (ty0 : Nat → FieldType) (hty : ∀ k, k < n → parseFieldDescriptor (T k).2.2.1 = some (ty0 k)) (hnm : ∀ a, a < n → ∀ b, b < n → a ≠ b → (T a).2.1 ≠ (T b).2.1) (hown : s.vm.findClass own = some m.cls) (hK : va_K D cl (m_ty c3) s) {fs : List Value} (hP : va_P D cl ((a, .inr (ci, fs)) :: tl) H) (hD : va_D A ((a, .inr (ci, fs)) :: tl)) (hS : va_S A H0 H locs) (hc : cl[ci]? = some (C, T, n)) (k : Nat) (hk : k < n) (hlink : (Cond.fieldLink own index ref (T k).2.1 (T k).2.2.1).before args s = true) (hsame : ∀ x, s.fieldFound? (T k).1 (T k).2.1 (T k).2.2.1 = some x → s.fieldFound? ref (T k).2.1 (T k).2.2.1 = some x) (hfin : (T k).2.2.2 = true) (hin2 : meth.name = "<init>") (hdecl : (T k).1 = own) {ty : FieldType} {v : Value} (hd : parseFieldDescriptor (T k).2.2.1 = some ty) (hn : narrow ty v = v) (hfit : fits ty v = true) (hl : k < fs.length)
    (hdg : decode cc pc = .ok (.putfield index, 3)) (kk : ∀ (H1 : Heap) (locs1 : List Loc), va_P D cl ((a, .inr (ci, fs.set k v)) :: tl) H1 → va_D A ((a, .inr (ci, fs.set k v)) :: tl) → va_S A H0 H1 locs1 → W p l e R s m args below meth c H1 locs1 cells slots Q (F0 m (pc + 3) ls rest)) : W p l e R s m args below meth c H locs cells slots Q (F0 m pc ls (v :: .ref a :: rest)) :=
  va_putF hexec hb hts hin ty0 hty hnm hown hK hP hD hS 0 rfl hc k hk hlink hsame hfin hin2 hdecl hd hn hfit hl hdg (fun H1 locs1 hP1 hD1 hS1 => kk H1 locs1 hP1 hD1 hS1)
theorem m_pI (hexec : p.tables.exec = Jvm.exec) (hb : c.code = cc) {own ref C : String} {T : u_T} {n ci index : Nat} {Ts : List Cond} (hts : ∀ w ∈ Ts, w.before args s = true) (hin : ∀ w ∈ u_ws C T n, w ∈ Ts) (ty0 : Nat → FieldType) (hty : ∀ k, k < n → parseFieldDescriptor (T k).2.2.1 = some (ty0 k)) (hnm : ∀ a, a < n → ∀ b, b < n → a ≠ b → (T a).2.1 ≠ (T b).2.1) (hown : s.vm.findClass own = some m.cls) (hK : va_K D cl (m_ty c3) s) {fs : List Value} (hP : va_P D cl ((a, .inr (ci, fs)) :: tl) H) (hD : va_D A ((a, .inr (ci, fs)) :: tl)) (hS : va_S A H0 H locs) (hc : cl[ci]? = some (C, T, n)) (k : Nat) (hk : k < n) (hlink : (Cond.fieldLink own index ref (T k).2.1 (T k).2.2.1).before args s = true) (hsame : ∀ x, s.fieldFound? (T k).1 (T k).2.1 (T k).2.2.1 = some x → s.fieldFound? ref (T k).2.1 (T k).2.2.1 = some x) (hfin : (T k).2.2.2 = false) {ty : FieldType} {v : Value} (hd : parseFieldDescriptor (T k).2.2.1 = some ty) (hn : narrow ty v = v) (hfit : fits ty v = true) (hl : k < fs.length)
    (hdg : decode cc pc = .ok (.putfield index, 3)) (kk : ∀ (H1 : Heap) (locs1 : List Loc), va_P D cl ((a, .inr (ci, fs.set k v)) :: tl) H1 → va_D A ((a, .inr (ci, fs.set k v)) :: tl) → va_S A H0 H1 locs1 → W p l e R s m args below meth c H1 locs1 cells slots Q (F0 m (pc + 3) ls rest)) : W p l e R s m args below meth c H locs cells slots Q (F0 m pc ls (v :: .ref a :: rest)) :=
  va_put hexec hb hts hin ty0 hty hnm hown hK hP hD hS 0 rfl hc k hk hlink hsame hfin hd hn hfit hl hdg (fun H1 locs1 hP1 hD1 hS1 => kk H1 locs1 hP1 hD1 hS1)
theorem m_newIc (hexec : p.tables.exec = Jvm.exec) (hb : c.code = cc) (harr : (Cond.arrayClass .int).before args s = true) (hK : va_K D cl (m_ty c3) s) (hP : va_P D cl (x :: tl) H) (hD : va_D A (x :: tl)) (hS : va_S A H0 H locs) (hA : ∀ q, H0.size ≤ q → A q)
    {n : Int32} {N' : Nat} (hn : ¬ n < 0) (hN : n.toNatClampNeg = N') (hbytes : N' * 4 ≤ 536870912) (hcells : cells + 1 ≤ R.cells) (hslots : slots + N' ≤ R.slots) (hdg : decode cc pc = .ok (.newarray .int, 2))
    (kk : ∀ (q : Nat) (H1 : Heap), va_P D cl (x :: (tl ++ [(q, .inl (c3.1, N', .inl (fun _ => 0)))])) H1 → va_D A (x :: (tl ++ [(q, .inl (c3.1, N', .inl (fun _ => 0)))])) → va_S A H0 H1 locs →
      W p l e R s m args below meth c H1 locs (cells + 1) (slots + N') Q (F0 m (pc + 2) ls (.ref q :: rest))) : W p l e R s m args below meth c H locs cells slots Q (F0 m pc ls (.int n :: rest)) :=
  m_newI hexec hb harr hK hP hD hS hA hn hN hbytes hcells hslots hdg (fun q H1 hP1 hD1 hS1 => kk q H1 hP1 hD1 hS1)
theorem m_newZc (hexec : p.tables.exec = Jvm.exec) (hb : c.code = cc) (harr : (Cond.arrayClass .boolean).before args s = true) (hK : va_K D cl (m_ty c3) s) (hP : va_P D cl (x :: tl) H) (hD : va_D A (x :: tl)) (hS : va_S A H0 H locs) (hA : ∀ q, H0.size ≤ q → A q)
    {n : Int32} {N' : Nat} (hn : ¬ n < 0) (hN : n.toNatClampNeg = N') (hbytes : N' * componentBytes .boolean ≤ 536870912) (hcells : cells + 1 ≤ R.cells) (hslots : slots + N' ≤ R.slots) (hdg : decode cc pc = .ok (.newarray .boolean, 2))
    (kk : ∀ (q : Nat) (H1 : Heap), va_P D cl (x :: (tl ++ [(q, .inl (c3.2.1, N', .inl (fun _ => 0)))])) H1 → va_D A (x :: (tl ++ [(q, .inl (c3.2.1, N', .inl (fun _ => 0)))])) → va_S A H0 H1 locs →
      W p l e R s m args below meth c H1 locs (cells + 1) (slots + N') Q (F0 m (pc + 2) ls (.ref q :: rest))) : W p l e R s m args below meth c H locs cells slots Q (F0 m pc ls (.int n :: rest)) :=
  m_newZ hexec hb harr hK hP hD hS hA hn hN hbytes hcells hslots hdg (fun q H1 hP1 hD1 hS1 => kk q H1 hP1 hD1 hS1)
end MCL

set_option maxHeartbeats 4000000 in
set_option maxRecDepth 100000 in
theorem iwM_0 (h0 q1 q2 q3 q4 q5 q6 q7 q8 q9 q10 q11 q12 q13 q14 q15 q16 q17 q18 q19 q20 q21 q22 : Nat) (c3 : ClassId × ClassId × ClassId) : (((h0, .inr (7, [.int 0, .ref q1, .ref q2, .int 0, .ref q3, .ref q4, .ref q5, .ref q6, .ref q7, .ref q8, .ref q9, .int 100, .int 5, .int 0, .ref q10, .int 0, .ref q11, .ref q12, .int 0, .ref q13, .ref q14, .ref q15, .int 0, .int 0, .int 0, .int 0, .int 0, .ref q16, .int 0, .ref q17, .ref q18, .int 50, .int 0, .ref q19, .ref q20, .ref q21, .ref q22])) :: (((((((((((((((((((((([] ++ [(q1, .inl (c3.1, 6, .inl (fun _ => 0)))]) ++ [(q2, .inl (c3.1, 6, .inl (fun _ => 0)))]) ++ [(q3, .inl (c3.1, 4, .inl (fun _ => 0)))]) ++ [(q4, .inl (c3.1, 4, .inl (fun _ => 0)))]) ++ [(q5, .inl (c3.1, 4, .inl (fun _ => 0)))]) ++ [(q6, .inl (c3.2.1, 4, .inl (fun _ => 0)))]) ++ [(q7, .inl (c3.1, 4, .inl (fun _ => 0)))]) ++ [(q8, .inl (c3.1, 24, .inl (fun _ => 0)))]) ++ [(q9, .inl (c3.1, 24, .inl (fun _ => 0)))]) ++ [(q10, .inl (c3.1, 60, .inl (fun _ => 0)))]) ++ [(q11, .inl (c3.1, 6, .inl (fun _ => 0)))]) ++ [(q12, .inl (c3.1, 6, .inl (fun _ => 0)))]) ++ [(q13, .inl (c3.1, 4, .inl (fun _ => 0)))]) ++ [(q14, .inl (c3.1, 4, .inl (fun _ => 0)))]) ++ [(q15, .inl (c3.1, 4, .inl (fun _ => 0)))]) ++ [(q16, .inl (c3.2.1, 6, .inl (fun _ => 0)))]) ++ [(q17, .inl (c3.1, 4, .inl (fun _ => 0)))]) ++ [(q18, .inl (c3.1, 4, .inl (fun _ => 0)))]) ++ [(q19, .inl (c3.1, 100, .inl (fun _ => 0)))]) ++ [(q20, .inl (c3.1, 100, .inl (fun _ => 0)))]) ++ [(q21, .inl (c3.1, 100, .inl (fun _ => 0)))]) ++ [(q22, .inl (c3.1, 100, .inl (fun _ => 0)))])) : va_W) = m_wb lyM 0 23 ((fun ad k => if k = 0 then h0 else ad k) (fun k => ([h0, q1, q2, q3, q4, q5, q6, q7, q8, q9, q10, q11, q12, q13, q14, q15, q16, q17, q18, q19, q20, q21, q22] : List Nat).getD (k - 0) 0)) c3 mM0 := by
  unfold m_wb
  simp only [List.range, List.range.loop, List.map_cons, List.map_nil, List.nil_append, List.cons_append, Nat.zero_add]
  rfl
abbrev riM_M_0 : Room := { frames := 1, cells := 22, slots := 578, locals := 12 }
set_option maxHeartbeats 4000000 in
set_option maxRecDepth 100000 in
theorem iM_M_0 (l : Launch) (D : va_G) (c3 : ClassId × ClassId × ClassId) (h0 sz : Nat) : mN vCl nwM lyM l D c3 yM_init wM_init riM_M_0 [] h0 sz (.inr (7, [.int 0, .null, .null, .int 0, .null, .null, .null, .null, .null, .null, .null, .int 0, .int 0, .int 0, .null, .int 0, .null, .null, .int 0, .null, .null, .null, .int 0, .int 0, .int 0, .int 0, .int 0, .null, .int 0, .null, .null, .int 0, .int 0, .null, .null, .null, .null])) 0 23 mM0 (fun ad k => if k = 0 then h0 else ad k) := by
  refine Met.ofW (cc := bM_init) (maxL := 1) (ret := none) (by decide) rfl ?_
  intro p e s m args below meth c s₁ B hml hv
  obtain ⟨rfl, hsz, hP, ⟨hK, hO⟩, hN⟩ := hv
  have hN := And.intro nestM hN
  have hx := B.exec
  have hb := B.bytes
  have hr := B.returns
  have hts := fun (w : Cond) (h : w ∈ wA) => atoms_spec (ws := wM_init) B.pre w (List.mem_cons_of_mem _ h)
  have hown : s.vm.findClass R_M = some m.cls := findClass_of_methodNamed B.named
  have hlocks := B.notSynchronized
  have hin : meth.name = "<init>" := (name_of_methodNamed B.named B.method).1
  subst hsz
  have hD : va_D (va_A [(h0, .inr (7, [.int 0, .null, .null, .int 0, .null, .null, .null, .null, .null, .null, .null, .int 0, .int 0, .int 0, .null, .int 0, .null, .null, .int 0, .null, .null, .null, .int 0, .int 0, .int 0, .int 0, .int 0, .null, .int 0, .null, .null, .int 0, .int 0, .null, .null, .null, .null]))] s.heap.size) [(h0, .inr (7, [.int 0, .null, .null, .int 0, .null, .null, .null, .null, .null, .null, .null, .int 0, .int 0, .int 0, .null, .int 0, .null, .null, .int 0, .null, .null, .null, .int 0, .int 0, .int 0, .int 0, .int 0, .null, .int 0, .null, .null, .int 0, .int 0, .null, .null, .null, .null]))] := m_one (Or.inl ⟨0, _, rfl⟩)
  generalize hAe : va_A [(h0, .inr (7, [.int 0, .null, .null, .int 0, .null, .null, .null, .null, .null, .null, .null, .int 0, .int 0, .int 0, .null, .int 0, .null, .null, .int 0, .null, .null, .null, .int 0, .int 0, .int 0, .int 0, .int 0, .null, .int 0, .null, .null, .int 0, .int 0, .null, .null, .null, .null]))] s.heap.size = A at hD ⊢
  have hA : ∀ q : Nat, s.heap.size ≤ q → A q := fun q h => by rw [← hAe]; exact Or.inr h
  have hS : va_S A s.heap s.heap [] := va_S.rf
  have hP : va_P D vCl ((h0, .inr (7, [.int 0, .null, .null, .int 0, .null, .null, .null, .null, .null, .null, .null, .int 0, .int 0, .int 0, .null, .int 0, .null, .null, .int 0, .null, .null, .null, .int 0, .int 0, .int 0, .int 0, .int 0, .null, .int 0, .null, .null, .int 0, .int 0, .null, .null, .null, .null])) :: []) s.heap := hP
  have hl := lv_entry ([.ref h0]) (n := 1) (Nat.le_of_ble_eq_true rfl)
  rw [lg_entry_eq]
  generalize (lg_sl ([.ref h0]) ++ List.replicate (1 - (lg_sl ([.ref h0])).length) Slot.unset).toArray = ls at hl ⊢
  have hl : lv_has ls 1 [(0, .ref h0)] := hl
  refine lv_aload_n hx hb dM_init_0 rfl (lv_at hl 0 rfl) ?_
  refine W.objInit hx hb hown (hts _ k3_38) (hts _ k1_16) (hts _ kc_object) rfl (by rw [hml]; exact hl.1) rfl dM_init_1 (Nat.le_of_ble_eq_true rfl) (Nat.le_of_ble_eq_true rfl) ?_
  refine W.eq (g2 := F0 m 4 ls []) rfl ?_
  refine lv_aload_n hx hb dM_init_4 rfl (lv_at hl 0 rfl) ?_
  refine lv_bipush (v := 6) hx hb dM_init_5 (by decide) ?_
  refine m_newIc (N' := 6) hx hb (hts _ k1_93) hK hP hD hS hA (by decide) rfl (by decide) (by decide) (by decide) dM_init_7 (fun q1 H hP hD hS => ?_)
  refine m_pF (D := D) (ci := 7) (v := .ref q1) (ty := .array .int) (C := R_M) (T := T_M) (n := 37) hx hb hts in_M ty_M ty_M_ok nm_M_ok hown hK hP hD hS rfl 1 (by decide) (hts _ k3_40) (fun _ h9 => h9) rfl hin rfl (by decide +kernel) rfl rfl (Nat.le_of_ble_eq_true rfl) dM_init_9 (fun H locs hP hD hS => ?_)
  refine W.eq (g2 := F0 m 12 ls []) rfl ?_
  refine W.widen (k := 1) (n := 6) (by decide) (by decide) ?_
  have hP : va_P D vCl ((h0, .inr (7, [.int 0, .ref q1, .null, .int 0, .null, .null, .null, .null, .null, .null, .null, .int 0, .int 0, .int 0, .null, .int 0, .null, .null, .int 0, .null, .null, .null, .int 0, .int 0, .int 0, .int 0, .int 0, .null, .int 0, .null, .null, .int 0, .int 0, .null, .null, .null, .null])) :: _) H := hP
  have hD : va_D A ((h0, .inr (7, [.int 0, .ref q1, .null, .int 0, .null, .null, .null, .null, .null, .null, .null, .int 0, .int 0, .int 0, .null, .int 0, .null, .null, .int 0, .null, .null, .null, .int 0, .int 0, .int 0, .int 0, .int 0, .null, .int 0, .null, .null, .int 0, .int 0, .null, .null, .null, .null])) :: _) := hD
  refine lv_aload_n hx hb dM_init_12 rfl (lv_at hl 0 rfl) ?_
  refine lv_bipush (v := 6) hx hb dM_init_13 (by decide) ?_
  refine m_newIc (N' := 6) hx hb (hts _ k1_93) hK hP hD hS hA (by decide) rfl (by decide) (by decide) (by decide) dM_init_15 (fun q2 H hP hD hS => ?_)
  refine m_pF (D := D) (ci := 7) (v := .ref q2) (ty := .array .int) (C := R_M) (T := T_M) (n := 37) hx hb hts in_M ty_M ty_M_ok nm_M_ok hown hK hP hD hS rfl 2 (by decide) (hts _ k3_41) (fun _ h9 => h9) rfl hin rfl (by decide +kernel) rfl rfl (Nat.le_of_ble_eq_true rfl) dM_init_17 (fun H locs hP hD hS => ?_)
  refine W.eq (g2 := F0 m 20 ls []) rfl ?_
  refine W.widen (k := 2) (n := 12) (by decide) (by decide) ?_
  have hP : va_P D vCl ((h0, .inr (7, [.int 0, .ref q1, .ref q2, .int 0, .null, .null, .null, .null, .null, .null, .null, .int 0, .int 0, .int 0, .null, .int 0, .null, .null, .int 0, .null, .null, .null, .int 0, .int 0, .int 0, .int 0, .int 0, .null, .int 0, .null, .null, .int 0, .int 0, .null, .null, .null, .null])) :: _) H := hP
  have hD : va_D A ((h0, .inr (7, [.int 0, .ref q1, .ref q2, .int 0, .null, .null, .null, .null, .null, .null, .null, .int 0, .int 0, .int 0, .null, .int 0, .null, .null, .int 0, .null, .null, .null, .int 0, .int 0, .int 0, .int 0, .int 0, .null, .int 0, .null, .null, .int 0, .int 0, .null, .null, .null, .null])) :: _) := hD
  refine lv_aload_n hx hb dM_init_20 rfl (lv_at hl 0 rfl) ?_
  refine lv_iconst (v := 4) hx hb dM_init_21 (by decide) ?_
  refine m_newIc (N' := 4) hx hb (hts _ k1_93) hK hP hD hS hA (by decide) rfl (by decide) (by decide) (by decide) dM_init_22 (fun q3 H hP hD hS => ?_)
  refine m_pF (D := D) (ci := 7) (v := .ref q3) (ty := .array .int) (C := R_M) (T := T_M) (n := 37) hx hb hts in_M ty_M ty_M_ok nm_M_ok hown hK hP hD hS rfl 4 (by decide) (hts _ k3_43) (fun _ h9 => h9) rfl hin rfl (by decide +kernel) rfl rfl (Nat.le_of_ble_eq_true rfl) dM_init_24 (fun H locs hP hD hS => ?_)
  refine W.eq (g2 := F0 m 27 ls []) rfl ?_
  refine W.widen (k := 3) (n := 16) (by decide) (by decide) ?_
  have hP : va_P D vCl ((h0, .inr (7, [.int 0, .ref q1, .ref q2, .int 0, .ref q3, .null, .null, .null, .null, .null, .null, .int 0, .int 0, .int 0, .null, .int 0, .null, .null, .int 0, .null, .null, .null, .int 0, .int 0, .int 0, .int 0, .int 0, .null, .int 0, .null, .null, .int 0, .int 0, .null, .null, .null, .null])) :: _) H := hP
  have hD : va_D A ((h0, .inr (7, [.int 0, .ref q1, .ref q2, .int 0, .ref q3, .null, .null, .null, .null, .null, .null, .int 0, .int 0, .int 0, .null, .int 0, .null, .null, .int 0, .null, .null, .null, .int 0, .int 0, .int 0, .int 0, .int 0, .null, .int 0, .null, .null, .int 0, .int 0, .null, .null, .null, .null])) :: _) := hD
  refine lv_aload_n hx hb dM_init_27 rfl (lv_at hl 0 rfl) ?_
  refine lv_iconst (v := 4) hx hb dM_init_28 (by decide) ?_
  refine m_newIc (N' := 4) hx hb (hts _ k1_93) hK hP hD hS hA (by decide) rfl (by decide) (by decide) (by decide) dM_init_29 (fun q4 H hP hD hS => ?_)
  refine m_pF (D := D) (ci := 7) (v := .ref q4) (ty := .array .int) (C := R_M) (T := T_M) (n := 37) hx hb hts in_M ty_M ty_M_ok nm_M_ok hown hK hP hD hS rfl 5 (by decide) (hts _ k3_44) (fun _ h9 => h9) rfl hin rfl (by decide +kernel) rfl rfl (Nat.le_of_ble_eq_true rfl) dM_init_31 (fun H locs hP hD hS => ?_)
  refine W.eq (g2 := F0 m 34 ls []) rfl ?_
  refine W.widen (k := 4) (n := 20) (by decide) (by decide) ?_
  have hP : va_P D vCl ((h0, .inr (7, [.int 0, .ref q1, .ref q2, .int 0, .ref q3, .ref q4, .null, .null, .null, .null, .null, .int 0, .int 0, .int 0, .null, .int 0, .null, .null, .int 0, .null, .null, .null, .int 0, .int 0, .int 0, .int 0, .int 0, .null, .int 0, .null, .null, .int 0, .int 0, .null, .null, .null, .null])) :: _) H := hP
  have hD : va_D A ((h0, .inr (7, [.int 0, .ref q1, .ref q2, .int 0, .ref q3, .ref q4, .null, .null, .null, .null, .null, .int 0, .int 0, .int 0, .null, .int 0, .null, .null, .int 0, .null, .null, .null, .int 0, .int 0, .int 0, .int 0, .int 0, .null, .int 0, .null, .null, .int 0, .int 0, .null, .null, .null, .null])) :: _) := hD
  refine lv_aload_n hx hb dM_init_34 rfl (lv_at hl 0 rfl) ?_
  refine lv_iconst (v := 4) hx hb dM_init_35 (by decide) ?_
  refine m_newIc (N' := 4) hx hb (hts _ k1_93) hK hP hD hS hA (by decide) rfl (by decide) (by decide) (by decide) dM_init_36 (fun q5 H hP hD hS => ?_)
  refine m_pF (D := D) (ci := 7) (v := .ref q5) (ty := .array .int) (C := R_M) (T := T_M) (n := 37) hx hb hts in_M ty_M ty_M_ok nm_M_ok hown hK hP hD hS rfl 6 (by decide) (hts _ k3_45) (fun _ h9 => h9) rfl hin rfl (by decide +kernel) rfl rfl (Nat.le_of_ble_eq_true rfl) dM_init_38 (fun H locs hP hD hS => ?_)
  refine W.eq (g2 := F0 m 41 ls []) rfl ?_
  refine W.widen (k := 5) (n := 24) (by decide) (by decide) ?_
  have hP : va_P D vCl ((h0, .inr (7, [.int 0, .ref q1, .ref q2, .int 0, .ref q3, .ref q4, .ref q5, .null, .null, .null, .null, .int 0, .int 0, .int 0, .null, .int 0, .null, .null, .int 0, .null, .null, .null, .int 0, .int 0, .int 0, .int 0, .int 0, .null, .int 0, .null, .null, .int 0, .int 0, .null, .null, .null, .null])) :: _) H := hP
  have hD : va_D A ((h0, .inr (7, [.int 0, .ref q1, .ref q2, .int 0, .ref q3, .ref q4, .ref q5, .null, .null, .null, .null, .int 0, .int 0, .int 0, .null, .int 0, .null, .null, .int 0, .null, .null, .null, .int 0, .int 0, .int 0, .int 0, .int 0, .null, .int 0, .null, .null, .int 0, .int 0, .null, .null, .null, .null])) :: _) := hD
  refine lv_aload_n hx hb dM_init_41 rfl (lv_at hl 0 rfl) ?_
  refine lv_iconst (v := 4) hx hb dM_init_42 (by decide) ?_
  refine m_newZc (N' := 4) hx hb (hts _ k1_94) hK hP hD hS hA (by decide) rfl (by decide) (by decide) (by decide) dM_init_43 (fun q6 H hP hD hS => ?_)
  refine m_pF (D := D) (ci := 7) (v := .ref q6) (ty := .array .boolean) (C := R_M) (T := T_M) (n := 37) hx hb hts in_M ty_M ty_M_ok nm_M_ok hown hK hP hD hS rfl 7 (by decide) (hts _ k3_46) (fun _ h9 => h9) rfl hin rfl (by decide +kernel) rfl rfl (Nat.le_of_ble_eq_true rfl) dM_init_45 (fun H locs hP hD hS => ?_)
  refine W.eq (g2 := F0 m 48 ls []) rfl ?_
  refine W.widen (k := 6) (n := 28) (by decide) (by decide) ?_
  have hP : va_P D vCl ((h0, .inr (7, [.int 0, .ref q1, .ref q2, .int 0, .ref q3, .ref q4, .ref q5, .ref q6, .null, .null, .null, .int 0, .int 0, .int 0, .null, .int 0, .null, .null, .int 0, .null, .null, .null, .int 0, .int 0, .int 0, .int 0, .int 0, .null, .int 0, .null, .null, .int 0, .int 0, .null, .null, .null, .null])) :: _) H := hP
  have hD : va_D A ((h0, .inr (7, [.int 0, .ref q1, .ref q2, .int 0, .ref q3, .ref q4, .ref q5, .ref q6, .null, .null, .null, .int 0, .int 0, .int 0, .null, .int 0, .null, .null, .int 0, .null, .null, .null, .int 0, .int 0, .int 0, .int 0, .int 0, .null, .int 0, .null, .null, .int 0, .int 0, .null, .null, .null, .null])) :: _) := hD
  refine lv_aload_n hx hb dM_init_48 rfl (lv_at hl 0 rfl) ?_
  refine lv_iconst (v := 4) hx hb dM_init_49 (by decide) ?_
  refine m_newIc (N' := 4) hx hb (hts _ k1_93) hK hP hD hS hA (by decide) rfl (by decide) (by decide) (by decide) dM_init_50 (fun q7 H hP hD hS => ?_)
  refine m_pF (D := D) (ci := 7) (v := .ref q7) (ty := .array .int) (C := R_M) (T := T_M) (n := 37) hx hb hts in_M ty_M ty_M_ok nm_M_ok hown hK hP hD hS rfl 8 (by decide) (hts _ k3_47) (fun _ h9 => h9) rfl hin rfl (by decide +kernel) rfl rfl (Nat.le_of_ble_eq_true rfl) dM_init_52 (fun H locs hP hD hS => ?_)
  refine W.eq (g2 := F0 m 55 ls []) rfl ?_
  refine W.widen (k := 7) (n := 32) (by decide) (by decide) ?_
  have hP : va_P D vCl ((h0, .inr (7, [.int 0, .ref q1, .ref q2, .int 0, .ref q3, .ref q4, .ref q5, .ref q6, .ref q7, .null, .null, .int 0, .int 0, .int 0, .null, .int 0, .null, .null, .int 0, .null, .null, .null, .int 0, .int 0, .int 0, .int 0, .int 0, .null, .int 0, .null, .null, .int 0, .int 0, .null, .null, .null, .null])) :: _) H := hP
  have hD : va_D A ((h0, .inr (7, [.int 0, .ref q1, .ref q2, .int 0, .ref q3, .ref q4, .ref q5, .ref q6, .ref q7, .null, .null, .int 0, .int 0, .int 0, .null, .int 0, .null, .null, .int 0, .null, .null, .null, .int 0, .int 0, .int 0, .int 0, .int 0, .null, .int 0, .null, .null, .int 0, .int 0, .null, .null, .null, .null])) :: _) := hD
  refine lv_aload_n hx hb dM_init_55 rfl (lv_at hl 0 rfl) ?_
  refine lv_bipush (v := 24) hx hb dM_init_56 (by decide) ?_
  refine m_newIc (N' := 24) hx hb (hts _ k1_93) hK hP hD hS hA (by decide) rfl (by decide) (by decide) (by decide) dM_init_58 (fun q8 H hP hD hS => ?_)
  refine m_pF (D := D) (ci := 7) (v := .ref q8) (ty := .array .int) (C := R_M) (T := T_M) (n := 37) hx hb hts in_M ty_M ty_M_ok nm_M_ok hown hK hP hD hS rfl 9 (by decide) (hts _ k3_48) (fun _ h9 => h9) rfl hin rfl (by decide +kernel) rfl rfl (Nat.le_of_ble_eq_true rfl) dM_init_60 (fun H locs hP hD hS => ?_)
  refine W.eq (g2 := F0 m 63 ls []) rfl ?_
  refine W.widen (k := 8) (n := 56) (by decide) (by decide) ?_
  have hP : va_P D vCl ((h0, .inr (7, [.int 0, .ref q1, .ref q2, .int 0, .ref q3, .ref q4, .ref q5, .ref q6, .ref q7, .ref q8, .null, .int 0, .int 0, .int 0, .null, .int 0, .null, .null, .int 0, .null, .null, .null, .int 0, .int 0, .int 0, .int 0, .int 0, .null, .int 0, .null, .null, .int 0, .int 0, .null, .null, .null, .null])) :: _) H := hP
  have hD : va_D A ((h0, .inr (7, [.int 0, .ref q1, .ref q2, .int 0, .ref q3, .ref q4, .ref q5, .ref q6, .ref q7, .ref q8, .null, .int 0, .int 0, .int 0, .null, .int 0, .null, .null, .int 0, .null, .null, .null, .int 0, .int 0, .int 0, .int 0, .int 0, .null, .int 0, .null, .null, .int 0, .int 0, .null, .null, .null, .null])) :: _) := hD
  refine lv_aload_n hx hb dM_init_63 rfl (lv_at hl 0 rfl) ?_
  refine lv_bipush (v := 24) hx hb dM_init_64 (by decide) ?_
  refine m_newIc (N' := 24) hx hb (hts _ k1_93) hK hP hD hS hA (by decide) rfl (by decide) (by decide) (by decide) dM_init_66 (fun q9 H hP hD hS => ?_)
  refine m_pF (D := D) (ci := 7) (v := .ref q9) (ty := .array .int) (C := R_M) (T := T_M) (n := 37) hx hb hts in_M ty_M ty_M_ok nm_M_ok hown hK hP hD hS rfl 10 (by decide) (hts _ k3_49) (fun _ h9 => h9) rfl hin rfl (by decide +kernel) rfl rfl (Nat.le_of_ble_eq_true rfl) dM_init_68 (fun H locs hP hD hS => ?_)
  refine W.eq (g2 := F0 m 71 ls []) rfl ?_
  refine W.widen (k := 9) (n := 80) (by decide) (by decide) ?_
  have hP : va_P D vCl ((h0, .inr (7, [.int 0, .ref q1, .ref q2, .int 0, .ref q3, .ref q4, .ref q5, .ref q6, .ref q7, .ref q8, .ref q9, .int 0, .int 0, .int 0, .null, .int 0, .null, .null, .int 0, .null, .null, .null, .int 0, .int 0, .int 0, .int 0, .int 0, .null, .int 0, .null, .null, .int 0, .int 0, .null, .null, .null, .null])) :: _) H := hP
  have hD : va_D A ((h0, .inr (7, [.int 0, .ref q1, .ref q2, .int 0, .ref q3, .ref q4, .ref q5, .ref q6, .ref q7, .ref q8, .ref q9, .int 0, .int 0, .int 0, .null, .int 0, .null, .null, .int 0, .null, .null, .null, .int 0, .int 0, .int 0, .int 0, .int 0, .null, .int 0, .null, .null, .int 0, .int 0, .null, .null, .null, .null])) :: _) := hD
  refine lv_aload_n hx hb dM_init_71 rfl (lv_at hl 0 rfl) ?_
  refine lv_bipush (v := 100) hx hb dM_init_72 (by decide) ?_
  refine m_pI (D := D) (ci := 7) (v := .int 100) (ty := .int) (C := R_M) (T := T_M) (n := 37) hx hb hts in_M ty_M ty_M_ok nm_M_ok hown hK hP hD hS rfl 11 (by decide) (hts _ k3_50) (fun _ h9 => h9) rfl (by decide +kernel) rfl rfl (Nat.le_of_ble_eq_true rfl) dM_init_74 (fun H locs hP hD hS => ?_)
  refine W.eq (g2 := F0 m 77 ls []) rfl ?_
  refine W.widen (k := 9) (n := 80) (by decide) (by decide) ?_
  have hP : va_P D vCl ((h0, .inr (7, [.int 0, .ref q1, .ref q2, .int 0, .ref q3, .ref q4, .ref q5, .ref q6, .ref q7, .ref q8, .ref q9, .int 100, .int 0, .int 0, .null, .int 0, .null, .null, .int 0, .null, .null, .null, .int 0, .int 0, .int 0, .int 0, .int 0, .null, .int 0, .null, .null, .int 0, .int 0, .null, .null, .null, .null])) :: _) H := hP
  have hD : va_D A ((h0, .inr (7, [.int 0, .ref q1, .ref q2, .int 0, .ref q3, .ref q4, .ref q5, .ref q6, .ref q7, .ref q8, .ref q9, .int 100, .int 0, .int 0, .null, .int 0, .null, .null, .int 0, .null, .null, .null, .int 0, .int 0, .int 0, .int 0, .int 0, .null, .int 0, .null, .null, .int 0, .int 0, .null, .null, .null, .null])) :: _) := hD
  refine lv_aload_n hx hb dM_init_77 rfl (lv_at hl 0 rfl) ?_
  refine lv_iconst (v := 5) hx hb dM_init_78 (by decide) ?_
  refine m_pI (D := D) (ci := 7) (v := .int 5) (ty := .int) (C := R_M) (T := T_M) (n := 37) hx hb hts in_M ty_M ty_M_ok nm_M_ok hown hK hP hD hS rfl 12 (by decide) (hts _ k3_51) (fun _ h9 => h9) rfl (by decide +kernel) rfl rfl (Nat.le_of_ble_eq_true rfl) dM_init_79 (fun H locs hP hD hS => ?_)
  refine W.eq (g2 := F0 m 82 ls []) rfl ?_
  refine W.widen (k := 9) (n := 80) (by decide) (by decide) ?_
  have hP : va_P D vCl ((h0, .inr (7, [.int 0, .ref q1, .ref q2, .int 0, .ref q3, .ref q4, .ref q5, .ref q6, .ref q7, .ref q8, .ref q9, .int 100, .int 5, .int 0, .null, .int 0, .null, .null, .int 0, .null, .null, .null, .int 0, .int 0, .int 0, .int 0, .int 0, .null, .int 0, .null, .null, .int 0, .int 0, .null, .null, .null, .null])) :: _) H := hP
  have hD : va_D A ((h0, .inr (7, [.int 0, .ref q1, .ref q2, .int 0, .ref q3, .ref q4, .ref q5, .ref q6, .ref q7, .ref q8, .ref q9, .int 100, .int 5, .int 0, .null, .int 0, .null, .null, .int 0, .null, .null, .null, .int 0, .int 0, .int 0, .int 0, .int 0, .null, .int 0, .null, .null, .int 0, .int 0, .null, .null, .null, .null])) :: _) := hD
  refine lv_aload_n hx hb dM_init_82 rfl (lv_at hl 0 rfl) ?_
  refine lv_bipush (v := 60) hx hb dM_init_83 (by decide) ?_
  refine m_newIc (N' := 60) hx hb (hts _ k1_93) hK hP hD hS hA (by decide) rfl (by decide) (by decide) (by decide) dM_init_85 (fun q10 H hP hD hS => ?_)
  refine m_pF (D := D) (ci := 7) (v := .ref q10) (ty := .array .int) (C := R_M) (T := T_M) (n := 37) hx hb hts in_M ty_M ty_M_ok nm_M_ok hown hK hP hD hS rfl 14 (by decide) (hts _ k3_53) (fun _ h9 => h9) rfl hin rfl (by decide +kernel) rfl rfl (Nat.le_of_ble_eq_true rfl) dM_init_87 (fun H locs hP hD hS => ?_)
  refine W.eq (g2 := F0 m 90 ls []) rfl ?_
  refine W.widen (k := 10) (n := 140) (by decide) (by decide) ?_
  have hP : va_P D vCl ((h0, .inr (7, [.int 0, .ref q1, .ref q2, .int 0, .ref q3, .ref q4, .ref q5, .ref q6, .ref q7, .ref q8, .ref q9, .int 100, .int 5, .int 0, .ref q10, .int 0, .null, .null, .int 0, .null, .null, .null, .int 0, .int 0, .int 0, .int 0, .int 0, .null, .int 0, .null, .null, .int 0, .int 0, .null, .null, .null, .null])) :: _) H := hP
  have hD : va_D A ((h0, .inr (7, [.int 0, .ref q1, .ref q2, .int 0, .ref q3, .ref q4, .ref q5, .ref q6, .ref q7, .ref q8, .ref q9, .int 100, .int 5, .int 0, .ref q10, .int 0, .null, .null, .int 0, .null, .null, .null, .int 0, .int 0, .int 0, .int 0, .int 0, .null, .int 0, .null, .null, .int 0, .int 0, .null, .null, .null, .null])) :: _) := hD
  refine lv_aload_n hx hb dM_init_90 rfl (lv_at hl 0 rfl) ?_
  refine lv_bipush (v := 6) hx hb dM_init_91 (by decide) ?_
  refine m_newIc (N' := 6) hx hb (hts _ k1_93) hK hP hD hS hA (by decide) rfl (by decide) (by decide) (by decide) dM_init_93 (fun q11 H hP hD hS => ?_)
  refine m_pF (D := D) (ci := 7) (v := .ref q11) (ty := .array .int) (C := R_M) (T := T_M) (n := 37) hx hb hts in_M ty_M ty_M_ok nm_M_ok hown hK hP hD hS rfl 16 (by decide) (hts _ k3_55) (fun _ h9 => h9) rfl hin rfl (by decide +kernel) rfl rfl (Nat.le_of_ble_eq_true rfl) dM_init_95 (fun H locs hP hD hS => ?_)
  refine W.eq (g2 := F0 m 98 ls []) rfl ?_
  refine W.widen (k := 11) (n := 146) (by decide) (by decide) ?_
  have hP : va_P D vCl ((h0, .inr (7, [.int 0, .ref q1, .ref q2, .int 0, .ref q3, .ref q4, .ref q5, .ref q6, .ref q7, .ref q8, .ref q9, .int 100, .int 5, .int 0, .ref q10, .int 0, .ref q11, .null, .int 0, .null, .null, .null, .int 0, .int 0, .int 0, .int 0, .int 0, .null, .int 0, .null, .null, .int 0, .int 0, .null, .null, .null, .null])) :: _) H := hP
  have hD : va_D A ((h0, .inr (7, [.int 0, .ref q1, .ref q2, .int 0, .ref q3, .ref q4, .ref q5, .ref q6, .ref q7, .ref q8, .ref q9, .int 100, .int 5, .int 0, .ref q10, .int 0, .ref q11, .null, .int 0, .null, .null, .null, .int 0, .int 0, .int 0, .int 0, .int 0, .null, .int 0, .null, .null, .int 0, .int 0, .null, .null, .null, .null])) :: _) := hD
  refine lv_aload_n hx hb dM_init_98 rfl (lv_at hl 0 rfl) ?_
  refine lv_bipush (v := 6) hx hb dM_init_99 (by decide) ?_
  refine m_newIc (N' := 6) hx hb (hts _ k1_93) hK hP hD hS hA (by decide) rfl (by decide) (by decide) (by decide) dM_init_101 (fun q12 H hP hD hS => ?_)
  refine m_pF (D := D) (ci := 7) (v := .ref q12) (ty := .array .int) (C := R_M) (T := T_M) (n := 37) hx hb hts in_M ty_M ty_M_ok nm_M_ok hown hK hP hD hS rfl 17 (by decide) (hts _ k3_56) (fun _ h9 => h9) rfl hin rfl (by decide +kernel) rfl rfl (Nat.le_of_ble_eq_true rfl) dM_init_103 (fun H locs hP hD hS => ?_)
  refine W.eq (g2 := F0 m 106 ls []) rfl ?_
  refine W.widen (k := 12) (n := 152) (by decide) (by decide) ?_
  have hP : va_P D vCl ((h0, .inr (7, [.int 0, .ref q1, .ref q2, .int 0, .ref q3, .ref q4, .ref q5, .ref q6, .ref q7, .ref q8, .ref q9, .int 100, .int 5, .int 0, .ref q10, .int 0, .ref q11, .ref q12, .int 0, .null, .null, .null, .int 0, .int 0, .int 0, .int 0, .int 0, .null, .int 0, .null, .null, .int 0, .int 0, .null, .null, .null, .null])) :: _) H := hP
  have hD : va_D A ((h0, .inr (7, [.int 0, .ref q1, .ref q2, .int 0, .ref q3, .ref q4, .ref q5, .ref q6, .ref q7, .ref q8, .ref q9, .int 100, .int 5, .int 0, .ref q10, .int 0, .ref q11, .ref q12, .int 0, .null, .null, .null, .int 0, .int 0, .int 0, .int 0, .int 0, .null, .int 0, .null, .null, .int 0, .int 0, .null, .null, .null, .null])) :: _) := hD
  refine lv_aload_n hx hb dM_init_106 rfl (lv_at hl 0 rfl) ?_
  refine lv_iconst (v := 4) hx hb dM_init_107 (by decide) ?_
  refine m_newIc (N' := 4) hx hb (hts _ k1_93) hK hP hD hS hA (by decide) rfl (by decide) (by decide) (by decide) dM_init_108 (fun q13 H hP hD hS => ?_)
  refine m_pF (D := D) (ci := 7) (v := .ref q13) (ty := .array .int) (C := R_M) (T := T_M) (n := 37) hx hb hts in_M ty_M ty_M_ok nm_M_ok hown hK hP hD hS rfl 19 (by decide) (hts _ k3_58) (fun _ h9 => h9) rfl hin rfl (by decide +kernel) rfl rfl (Nat.le_of_ble_eq_true rfl) dM_init_110 (fun H locs hP hD hS => ?_)
  refine W.eq (g2 := F0 m 113 ls []) rfl ?_
  refine W.widen (k := 13) (n := 156) (by decide) (by decide) ?_
  have hP : va_P D vCl ((h0, .inr (7, [.int 0, .ref q1, .ref q2, .int 0, .ref q3, .ref q4, .ref q5, .ref q6, .ref q7, .ref q8, .ref q9, .int 100, .int 5, .int 0, .ref q10, .int 0, .ref q11, .ref q12, .int 0, .ref q13, .null, .null, .int 0, .int 0, .int 0, .int 0, .int 0, .null, .int 0, .null, .null, .int 0, .int 0, .null, .null, .null, .null])) :: _) H := hP
  have hD : va_D A ((h0, .inr (7, [.int 0, .ref q1, .ref q2, .int 0, .ref q3, .ref q4, .ref q5, .ref q6, .ref q7, .ref q8, .ref q9, .int 100, .int 5, .int 0, .ref q10, .int 0, .ref q11, .ref q12, .int 0, .ref q13, .null, .null, .int 0, .int 0, .int 0, .int 0, .int 0, .null, .int 0, .null, .null, .int 0, .int 0, .null, .null, .null, .null])) :: _) := hD
  refine lv_aload_n hx hb dM_init_113 rfl (lv_at hl 0 rfl) ?_
  refine lv_iconst (v := 4) hx hb dM_init_114 (by decide) ?_
  refine m_newIc (N' := 4) hx hb (hts _ k1_93) hK hP hD hS hA (by decide) rfl (by decide) (by decide) (by decide) dM_init_115 (fun q14 H hP hD hS => ?_)
  refine m_pF (D := D) (ci := 7) (v := .ref q14) (ty := .array .int) (C := R_M) (T := T_M) (n := 37) hx hb hts in_M ty_M ty_M_ok nm_M_ok hown hK hP hD hS rfl 20 (by decide) (hts _ k3_59) (fun _ h9 => h9) rfl hin rfl (by decide +kernel) rfl rfl (Nat.le_of_ble_eq_true rfl) dM_init_117 (fun H locs hP hD hS => ?_)
  refine W.eq (g2 := F0 m 120 ls []) rfl ?_
  refine W.widen (k := 14) (n := 160) (by decide) (by decide) ?_
  have hP : va_P D vCl ((h0, .inr (7, [.int 0, .ref q1, .ref q2, .int 0, .ref q3, .ref q4, .ref q5, .ref q6, .ref q7, .ref q8, .ref q9, .int 100, .int 5, .int 0, .ref q10, .int 0, .ref q11, .ref q12, .int 0, .ref q13, .ref q14, .null, .int 0, .int 0, .int 0, .int 0, .int 0, .null, .int 0, .null, .null, .int 0, .int 0, .null, .null, .null, .null])) :: _) H := hP
  have hD : va_D A ((h0, .inr (7, [.int 0, .ref q1, .ref q2, .int 0, .ref q3, .ref q4, .ref q5, .ref q6, .ref q7, .ref q8, .ref q9, .int 100, .int 5, .int 0, .ref q10, .int 0, .ref q11, .ref q12, .int 0, .ref q13, .ref q14, .null, .int 0, .int 0, .int 0, .int 0, .int 0, .null, .int 0, .null, .null, .int 0, .int 0, .null, .null, .null, .null])) :: _) := hD
  refine lv_aload_n hx hb dM_init_120 rfl (lv_at hl 0 rfl) ?_
  refine lv_iconst (v := 4) hx hb dM_init_121 (by decide) ?_
  refine m_newIc (N' := 4) hx hb (hts _ k1_93) hK hP hD hS hA (by decide) rfl (by decide) (by decide) (by decide) dM_init_122 (fun q15 H hP hD hS => ?_)
  refine m_pF (D := D) (ci := 7) (v := .ref q15) (ty := .array .int) (C := R_M) (T := T_M) (n := 37) hx hb hts in_M ty_M ty_M_ok nm_M_ok hown hK hP hD hS rfl 21 (by decide) (hts _ k3_60) (fun _ h9 => h9) rfl hin rfl (by decide +kernel) rfl rfl (Nat.le_of_ble_eq_true rfl) dM_init_124 (fun H locs hP hD hS => ?_)
  refine W.eq (g2 := F0 m 127 ls []) rfl ?_
  refine W.widen (k := 15) (n := 164) (by decide) (by decide) ?_
  have hP : va_P D vCl ((h0, .inr (7, [.int 0, .ref q1, .ref q2, .int 0, .ref q3, .ref q4, .ref q5, .ref q6, .ref q7, .ref q8, .ref q9, .int 100, .int 5, .int 0, .ref q10, .int 0, .ref q11, .ref q12, .int 0, .ref q13, .ref q14, .ref q15, .int 0, .int 0, .int 0, .int 0, .int 0, .null, .int 0, .null, .null, .int 0, .int 0, .null, .null, .null, .null])) :: _) H := hP
  have hD : va_D A ((h0, .inr (7, [.int 0, .ref q1, .ref q2, .int 0, .ref q3, .ref q4, .ref q5, .ref q6, .ref q7, .ref q8, .ref q9, .int 100, .int 5, .int 0, .ref q10, .int 0, .ref q11, .ref q12, .int 0, .ref q13, .ref q14, .ref q15, .int 0, .int 0, .int 0, .int 0, .int 0, .null, .int 0, .null, .null, .int 0, .int 0, .null, .null, .null, .null])) :: _) := hD
  refine lv_aload_n hx hb dM_init_127 rfl (lv_at hl 0 rfl) ?_
  refine lv_bipush (v := 6) hx hb dM_init_128 (by decide) ?_
  refine m_newZc (N' := 6) hx hb (hts _ k1_94) hK hP hD hS hA (by decide) rfl (by decide) (by decide) (by decide) dM_init_130 (fun q16 H hP hD hS => ?_)
  refine m_pF (D := D) (ci := 7) (v := .ref q16) (ty := .array .boolean) (C := R_M) (T := T_M) (n := 37) hx hb hts in_M ty_M ty_M_ok nm_M_ok hown hK hP hD hS rfl 27 (by decide) (hts _ k3_66) (fun _ h9 => h9) rfl hin rfl (by decide +kernel) rfl rfl (Nat.le_of_ble_eq_true rfl) dM_init_132 (fun H locs hP hD hS => ?_)
  refine W.eq (g2 := F0 m 135 ls []) rfl ?_
  refine W.widen (k := 16) (n := 170) (by decide) (by decide) ?_
  have hP : va_P D vCl ((h0, .inr (7, [.int 0, .ref q1, .ref q2, .int 0, .ref q3, .ref q4, .ref q5, .ref q6, .ref q7, .ref q8, .ref q9, .int 100, .int 5, .int 0, .ref q10, .int 0, .ref q11, .ref q12, .int 0, .ref q13, .ref q14, .ref q15, .int 0, .int 0, .int 0, .int 0, .int 0, .ref q16, .int 0, .null, .null, .int 0, .int 0, .null, .null, .null, .null])) :: _) H := hP
  have hD : va_D A ((h0, .inr (7, [.int 0, .ref q1, .ref q2, .int 0, .ref q3, .ref q4, .ref q5, .ref q6, .ref q7, .ref q8, .ref q9, .int 100, .int 5, .int 0, .ref q10, .int 0, .ref q11, .ref q12, .int 0, .ref q13, .ref q14, .ref q15, .int 0, .int 0, .int 0, .int 0, .int 0, .ref q16, .int 0, .null, .null, .int 0, .int 0, .null, .null, .null, .null])) :: _) := hD
  refine lv_aload_n hx hb dM_init_135 rfl (lv_at hl 0 rfl) ?_
  refine lv_iconst (v := 4) hx hb dM_init_136 (by decide) ?_
  refine m_newIc (N' := 4) hx hb (hts _ k1_93) hK hP hD hS hA (by decide) rfl (by decide) (by decide) (by decide) dM_init_137 (fun q17 H hP hD hS => ?_)
  refine m_pF (D := D) (ci := 7) (v := .ref q17) (ty := .array .int) (C := R_M) (T := T_M) (n := 37) hx hb hts in_M ty_M ty_M_ok nm_M_ok hown hK hP hD hS rfl 29 (by decide) (hts _ k3_68) (fun _ h9 => h9) rfl hin rfl (by decide +kernel) rfl rfl (Nat.le_of_ble_eq_true rfl) dM_init_139 (fun H locs hP hD hS => ?_)
  refine W.eq (g2 := F0 m 142 ls []) rfl ?_
  refine W.widen (k := 17) (n := 174) (by decide) (by decide) ?_
  have hP : va_P D vCl ((h0, .inr (7, [.int 0, .ref q1, .ref q2, .int 0, .ref q3, .ref q4, .ref q5, .ref q6, .ref q7, .ref q8, .ref q9, .int 100, .int 5, .int 0, .ref q10, .int 0, .ref q11, .ref q12, .int 0, .ref q13, .ref q14, .ref q15, .int 0, .int 0, .int 0, .int 0, .int 0, .ref q16, .int 0, .ref q17, .null, .int 0, .int 0, .null, .null, .null, .null])) :: _) H := hP
  have hD : va_D A ((h0, .inr (7, [.int 0, .ref q1, .ref q2, .int 0, .ref q3, .ref q4, .ref q5, .ref q6, .ref q7, .ref q8, .ref q9, .int 100, .int 5, .int 0, .ref q10, .int 0, .ref q11, .ref q12, .int 0, .ref q13, .ref q14, .ref q15, .int 0, .int 0, .int 0, .int 0, .int 0, .ref q16, .int 0, .ref q17, .null, .int 0, .int 0, .null, .null, .null, .null])) :: _) := hD
  refine lv_aload_n hx hb dM_init_142 rfl (lv_at hl 0 rfl) ?_
  refine lv_iconst (v := 4) hx hb dM_init_143 (by decide) ?_
  refine m_newIc (N' := 4) hx hb (hts _ k1_93) hK hP hD hS hA (by decide) rfl (by decide) (by decide) (by decide) dM_init_144 (fun q18 H hP hD hS => ?_)
  refine m_pF (D := D) (ci := 7) (v := .ref q18) (ty := .array .int) (C := R_M) (T := T_M) (n := 37) hx hb hts in_M ty_M ty_M_ok nm_M_ok hown hK hP hD hS rfl 30 (by decide) (hts _ k3_69) (fun _ h9 => h9) rfl hin rfl (by decide +kernel) rfl rfl (Nat.le_of_ble_eq_true rfl) dM_init_146 (fun H locs hP hD hS => ?_)
  refine W.eq (g2 := F0 m 149 ls []) rfl ?_
  refine W.widen (k := 18) (n := 178) (by decide) (by decide) ?_
  have hP : va_P D vCl ((h0, .inr (7, [.int 0, .ref q1, .ref q2, .int 0, .ref q3, .ref q4, .ref q5, .ref q6, .ref q7, .ref q8, .ref q9, .int 100, .int 5, .int 0, .ref q10, .int 0, .ref q11, .ref q12, .int 0, .ref q13, .ref q14, .ref q15, .int 0, .int 0, .int 0, .int 0, .int 0, .ref q16, .int 0, .ref q17, .ref q18, .int 0, .int 0, .null, .null, .null, .null])) :: _) H := hP
  have hD : va_D A ((h0, .inr (7, [.int 0, .ref q1, .ref q2, .int 0, .ref q3, .ref q4, .ref q5, .ref q6, .ref q7, .ref q8, .ref q9, .int 100, .int 5, .int 0, .ref q10, .int 0, .ref q11, .ref q12, .int 0, .ref q13, .ref q14, .ref q15, .int 0, .int 0, .int 0, .int 0, .int 0, .ref q16, .int 0, .ref q17, .ref q18, .int 0, .int 0, .null, .null, .null, .null])) :: _) := hD
  refine lv_aload_n hx hb dM_init_149 rfl (lv_at hl 0 rfl) ?_
  refine lv_bipush (v := 50) hx hb dM_init_150 (by decide) ?_
  refine m_pI (D := D) (ci := 7) (v := .int 50) (ty := .int) (C := R_M) (T := T_M) (n := 37) hx hb hts in_M ty_M ty_M_ok nm_M_ok hown hK hP hD hS rfl 31 (by decide) (hts _ k3_70) (fun _ h9 => h9) rfl (by decide +kernel) rfl rfl (Nat.le_of_ble_eq_true rfl) dM_init_152 (fun H locs hP hD hS => ?_)
  refine W.eq (g2 := F0 m 155 ls []) rfl ?_
  refine W.widen (k := 18) (n := 178) (by decide) (by decide) ?_
  have hP : va_P D vCl ((h0, .inr (7, [.int 0, .ref q1, .ref q2, .int 0, .ref q3, .ref q4, .ref q5, .ref q6, .ref q7, .ref q8, .ref q9, .int 100, .int 5, .int 0, .ref q10, .int 0, .ref q11, .ref q12, .int 0, .ref q13, .ref q14, .ref q15, .int 0, .int 0, .int 0, .int 0, .int 0, .ref q16, .int 0, .ref q17, .ref q18, .int 50, .int 0, .null, .null, .null, .null])) :: _) H := hP
  have hD : va_D A ((h0, .inr (7, [.int 0, .ref q1, .ref q2, .int 0, .ref q3, .ref q4, .ref q5, .ref q6, .ref q7, .ref q8, .ref q9, .int 100, .int 5, .int 0, .ref q10, .int 0, .ref q11, .ref q12, .int 0, .ref q13, .ref q14, .ref q15, .int 0, .int 0, .int 0, .int 0, .int 0, .ref q16, .int 0, .ref q17, .ref q18, .int 50, .int 0, .null, .null, .null, .null])) :: _) := hD
  refine lv_aload_n hx hb dM_init_155 rfl (lv_at hl 0 rfl) ?_
  refine lv_bipush (v := 100) hx hb dM_init_156 (by decide) ?_
  refine m_newIc (N' := 100) hx hb (hts _ k1_93) hK hP hD hS hA (by decide) rfl (by decide) (by decide) (by decide) dM_init_158 (fun q19 H hP hD hS => ?_)
  refine m_pF (D := D) (ci := 7) (v := .ref q19) (ty := .array .int) (C := R_M) (T := T_M) (n := 37) hx hb hts in_M ty_M ty_M_ok nm_M_ok hown hK hP hD hS rfl 33 (by decide) (hts _ k3_72) (fun _ h9 => h9) rfl hin rfl (by decide +kernel) rfl rfl (Nat.le_of_ble_eq_true rfl) dM_init_160 (fun H locs hP hD hS => ?_)
  refine W.eq (g2 := F0 m 163 ls []) rfl ?_
  refine W.widen (k := 19) (n := 278) (by decide) (by decide) ?_
  have hP : va_P D vCl ((h0, .inr (7, [.int 0, .ref q1, .ref q2, .int 0, .ref q3, .ref q4, .ref q5, .ref q6, .ref q7, .ref q8, .ref q9, .int 100, .int 5, .int 0, .ref q10, .int 0, .ref q11, .ref q12, .int 0, .ref q13, .ref q14, .ref q15, .int 0, .int 0, .int 0, .int 0, .int 0, .ref q16, .int 0, .ref q17, .ref q18, .int 50, .int 0, .ref q19, .null, .null, .null])) :: _) H := hP
  have hD : va_D A ((h0, .inr (7, [.int 0, .ref q1, .ref q2, .int 0, .ref q3, .ref q4, .ref q5, .ref q6, .ref q7, .ref q8, .ref q9, .int 100, .int 5, .int 0, .ref q10, .int 0, .ref q11, .ref q12, .int 0, .ref q13, .ref q14, .ref q15, .int 0, .int 0, .int 0, .int 0, .int 0, .ref q16, .int 0, .ref q17, .ref q18, .int 50, .int 0, .ref q19, .null, .null, .null])) :: _) := hD
  refine lv_aload_n hx hb dM_init_163 rfl (lv_at hl 0 rfl) ?_
  refine lv_bipush (v := 100) hx hb dM_init_164 (by decide) ?_
  refine m_newIc (N' := 100) hx hb (hts _ k1_93) hK hP hD hS hA (by decide) rfl (by decide) (by decide) (by decide) dM_init_166 (fun q20 H hP hD hS => ?_)
  refine m_pF (D := D) (ci := 7) (v := .ref q20) (ty := .array .int) (C := R_M) (T := T_M) (n := 37) hx hb hts in_M ty_M ty_M_ok nm_M_ok hown hK hP hD hS rfl 34 (by decide) (hts _ k3_73) (fun _ h9 => h9) rfl hin rfl (by decide +kernel) rfl rfl (Nat.le_of_ble_eq_true rfl) dM_init_168 (fun H locs hP hD hS => ?_)
  refine W.eq (g2 := F0 m 171 ls []) rfl ?_
  refine W.widen (k := 20) (n := 378) (by decide) (by decide) ?_
  have hP : va_P D vCl ((h0, .inr (7, [.int 0, .ref q1, .ref q2, .int 0, .ref q3, .ref q4, .ref q5, .ref q6, .ref q7, .ref q8, .ref q9, .int 100, .int 5, .int 0, .ref q10, .int 0, .ref q11, .ref q12, .int 0, .ref q13, .ref q14, .ref q15, .int 0, .int 0, .int 0, .int 0, .int 0, .ref q16, .int 0, .ref q17, .ref q18, .int 50, .int 0, .ref q19, .ref q20, .null, .null])) :: _) H := hP
  have hD : va_D A ((h0, .inr (7, [.int 0, .ref q1, .ref q2, .int 0, .ref q3, .ref q4, .ref q5, .ref q6, .ref q7, .ref q8, .ref q9, .int 100, .int 5, .int 0, .ref q10, .int 0, .ref q11, .ref q12, .int 0, .ref q13, .ref q14, .ref q15, .int 0, .int 0, .int 0, .int 0, .int 0, .ref q16, .int 0, .ref q17, .ref q18, .int 50, .int 0, .ref q19, .ref q20, .null, .null])) :: _) := hD
  refine lv_aload_n hx hb dM_init_171 rfl (lv_at hl 0 rfl) ?_
  refine lv_bipush (v := 100) hx hb dM_init_172 (by decide) ?_
  refine m_newIc (N' := 100) hx hb (hts _ k1_93) hK hP hD hS hA (by decide) rfl (by decide) (by decide) (by decide) dM_init_174 (fun q21 H hP hD hS => ?_)
  refine m_pF (D := D) (ci := 7) (v := .ref q21) (ty := .array .int) (C := R_M) (T := T_M) (n := 37) hx hb hts in_M ty_M ty_M_ok nm_M_ok hown hK hP hD hS rfl 35 (by decide) (hts _ k3_74) (fun _ h9 => h9) rfl hin rfl (by decide +kernel) rfl rfl (Nat.le_of_ble_eq_true rfl) dM_init_176 (fun H locs hP hD hS => ?_)
  refine W.eq (g2 := F0 m 179 ls []) rfl ?_
  refine W.widen (k := 21) (n := 478) (by decide) (by decide) ?_
  have hP : va_P D vCl ((h0, .inr (7, [.int 0, .ref q1, .ref q2, .int 0, .ref q3, .ref q4, .ref q5, .ref q6, .ref q7, .ref q8, .ref q9, .int 100, .int 5, .int 0, .ref q10, .int 0, .ref q11, .ref q12, .int 0, .ref q13, .ref q14, .ref q15, .int 0, .int 0, .int 0, .int 0, .int 0, .ref q16, .int 0, .ref q17, .ref q18, .int 50, .int 0, .ref q19, .ref q20, .ref q21, .null])) :: _) H := hP
  have hD : va_D A ((h0, .inr (7, [.int 0, .ref q1, .ref q2, .int 0, .ref q3, .ref q4, .ref q5, .ref q6, .ref q7, .ref q8, .ref q9, .int 100, .int 5, .int 0, .ref q10, .int 0, .ref q11, .ref q12, .int 0, .ref q13, .ref q14, .ref q15, .int 0, .int 0, .int 0, .int 0, .int 0, .ref q16, .int 0, .ref q17, .ref q18, .int 50, .int 0, .ref q19, .ref q20, .ref q21, .null])) :: _) := hD
  refine lv_aload_n hx hb dM_init_179 rfl (lv_at hl 0 rfl) ?_
  refine lv_bipush (v := 100) hx hb dM_init_180 (by decide) ?_
  refine m_newIc (N' := 100) hx hb (hts _ k1_93) hK hP hD hS hA (by decide) rfl (by decide) (by decide) (by decide) dM_init_182 (fun q22 H hP hD hS => ?_)
  refine m_pF (D := D) (ci := 7) (v := .ref q22) (ty := .array .int) (C := R_M) (T := T_M) (n := 37) hx hb hts in_M ty_M ty_M_ok nm_M_ok hown hK hP hD hS rfl 36 (by decide) (hts _ k3_75) (fun _ h9 => h9) rfl hin rfl (by decide +kernel) rfl rfl (Nat.le_of_ble_eq_true rfl) dM_init_184 (fun H locs hP hD hS => ?_)
  refine W.eq (g2 := F0 m 187 ls []) rfl ?_
  refine W.widen (k := 22) (n := 578) (by decide) (by decide) ?_
  have hP : va_P D vCl ((h0, .inr (7, [.int 0, .ref q1, .ref q2, .int 0, .ref q3, .ref q4, .ref q5, .ref q6, .ref q7, .ref q8, .ref q9, .int 100, .int 5, .int 0, .ref q10, .int 0, .ref q11, .ref q12, .int 0, .ref q13, .ref q14, .ref q15, .int 0, .int 0, .int 0, .int 0, .int 0, .ref q16, .int 0, .ref q17, .ref q18, .int 50, .int 0, .ref q19, .ref q20, .ref q21, .ref q22])) :: _) H := hP
  have hD : va_D A ((h0, .inr (7, [.int 0, .ref q1, .ref q2, .int 0, .ref q3, .ref q4, .ref q5, .ref q6, .ref q7, .ref q8, .ref q9, .int 100, .int 5, .int 0, .ref q10, .int 0, .ref q11, .ref q12, .int 0, .ref q13, .ref q14, .ref q15, .int 0, .int 0, .int 0, .int 0, .int 0, .ref q16, .int 0, .ref q17, .ref q18, .int 50, .int 0, .ref q19, .ref q20, .ref q21, .ref q22])) :: _) := hD
  have hP : va_P D vCl (m_wb lyM 0 23 ((fun ad k => if k = 0 then h0 else ad k) (fun k => ([h0, q1, q2, q3, q4, q5, q6, q7, q8, q9, q10, q11, q12, q13, q14, q15, q16, q17, q18, q19, q20, q21, q22] : List Nat).getD (k - 0) 0)) c3 mM0) H := by rw [← iwM_0 h0 q1 q2 q3 q4 q5 q6 q7 q8 q9 q10 q11 q12 q13 q14 q15 q16 q17 q18 q19 q20 q21 q22 c3]; exact hP
  have hD : va_D A (m_wb lyM 0 23 ((fun ad k => if k = 0 then h0 else ad k) (fun k => ([h0, q1, q2, q3, q4, q5, q6, q7, q8, q9, q10, q11, q12, q13, q14, q15, q16, q17, q18, q19, q20, q21, q22] : List Nat).getD (k - 0) 0)) c3 mM0) := by rw [← iwM_0 h0 q1 q2 q3 q4 q5 q6 q7 q8 q9 q10 q11 q12 q13 q14 q15 q16 q17 q18 q19 q20 q21 q22 c3]; exact hD
  refine W.widen (k := 22) (n := 578) (by decide) (by decide) ?_
  exact W.vret hx hb hr (fun t ht hW => ⟨⟨(fun k => ([h0, q1, q2, q3, q4, q5, q6, q7, q8, q9, q10, q11, q12, q13, q14, q15, q16, q17, q18, q19, q20, q21, q22] : List Nat).getD (k - 0) 0), rfl, trivial, by rw [ht]; exact hP, hD⟩, hS.F ht⟩) hS.2.2 dM_init_187
