/-- the class's memory when it is new -/
def mX0 : mMem := fun k j => if k = 1 then (if j = 2 then 100 else if j = 3 then 5 else 0) else if k = 0 then (if j = 8 then 50 else 0) else 0

abbrev riX_L_71 : Room := { frames := 1, cells := 11, slots := 912, locals := 12 }
set_option maxHeartbeats 4000000 in
set_option maxRecDepth 100000 in
theorem iX_L_71 (l : Launch) (D : va_G) (c3 : ClassId × ClassId × ClassId) (h0 sz : Nat) : mN vCl nwX lyX l D c3 yL_init wL_init riX_L_71 [] h0 sz (.inr (6, [.int 0, .null, .null, .int 0, .null, .null, .null])) 71 12 mX0 (fun ad k => if k = 71 then h0 else ad k) := by
  refine Met.ofW (cc := bL_init) (maxL := 1) (ret := none) (by decide) rfl ?_
  intro p e s m args below meth c s₁ B hml hv
  obtain ⟨rfl, hsz, hP, ⟨hK, hO⟩, hN⟩ := hv
  have hN := And.intro nestX hN
  have hx := B.exec
  have hb := B.bytes
  have hr := B.returns
  have hts := fun (w : Cond) (h : w ∈ wA) => atoms_spec (ws := wL_init) B.pre w (List.mem_cons_of_mem _ h)
  have hown : s.vm.findClass R_L = some m.cls := findClass_of_methodNamed B.named
  have hlocks := B.notSynchronized
  have hin : meth.name = "<init>" := (name_of_methodNamed B.named B.method).1
  subst hsz
  have hD : va_D (va_A [(h0, .inr (6, [.int 0, .null, .null, .int 0, .null, .null, .null]))] s.heap.size) [(h0, .inr (6, [.int 0, .null, .null, .int 0, .null, .null, .null]))] := m_one (Or.inl ⟨0, _, rfl⟩)
  generalize hAe : va_A [(h0, .inr (6, [.int 0, .null, .null, .int 0, .null, .null, .null]))] s.heap.size = A at hD ⊢
  have hA : ∀ q : Nat, s.heap.size ≤ q → A q := fun q h => by rw [← hAe]; exact Or.inr h
  have hS : va_S A s.heap s.heap [] := va_S.rf
  have hP : va_P D vCl ((h0, .inr (6, [.int 0, .null, .null, .int 0, .null, .null, .null])) :: []) s.heap := hP
  have hl := lv_entry ([.ref h0]) (n := 1) (Nat.le_of_ble_eq_true rfl)
  rw [lg_entry_eq]
  generalize (lg_sl ([.ref h0]) ++ List.replicate (1 - (lg_sl ([.ref h0])).length) Slot.unset).toArray = ls at hl ⊢
  have hl : lv_has ls 1 [(0, .ref h0)] := hl
  refine lv_aload_n hx hb dL_init_0 rfl (lv_at hl 0 rfl) ?_
  refine W.objInit hx hb hown (hts _ k1_219) (hts _ k1_16) (hts _ kc_object) rfl (by rw [hml]; exact hl.1) rfl dL_init_1 (Nat.le_of_ble_eq_true rfl) (Nat.le_of_ble_eq_true rfl) ?_
  refine W.eq (g2 := F0 m 4 ls []) rfl ?_
  refine lv_aload_n hx hb dL_init_4 rfl (lv_at hl 0 rfl) ?_
  refine lv_iconst (v := 0) hx hb dL_init_5 (by decide) ?_
  refine va_put (D := D) (ci := 6) (v := .int 0) (ty := .int) (C := R_L) (T := T_L) (N := 7) hx hb hts in_L ty_L ty_L_ok nm_L_ok hown hK hP hD hS 0 rfl rfl 0 (by decide) (hts _ k1_221) (fun _ h9 => h9) rfl (by decide +kernel) rfl rfl (Nat.le_of_ble_eq_true rfl) dL_init_6 (fun H locs hP hD hS => ?_)
  have hP : va_P D vCl ((h0, .inr (6, [.int 0, .null, .null, .int 0, .null, .null, .null])) :: []) H := hP
  have hD : va_D A ((h0, .inr (6, [.int 0, .null, .null, .int 0, .null, .null, .null])) :: []) := hD
  refine lv_aload_n hx hb dL_init_9 rfl (lv_at hl 0 rfl) ?_
  refine lv_bipush (v := 6) hx hb dL_init_10 (by decide) ?_
  refine m_newI (N' := 6) hx hb (hts _ k1_93) hK hP hD hS hA (by decide) rfl (by decide) (by decide) (by decide) dL_init_12 (fun q1 H hP hD hS => ?_)
  have hP : va_P D vCl ((h0, .inr (6, [.int 0, .null, .null, .int 0, .null, .null, .null])) :: [(q1, .inl (c3.1, 6, .inl (fun _ => 0)))]) H := hP
  have hD : va_D A ((h0, .inr (6, [.int 0, .null, .null, .int 0, .null, .null, .null])) :: [(q1, .inl (c3.1, 6, .inl (fun _ => 0)))]) := hD
  refine va_putF (D := D) (ci := 6) (v := .ref q1) (ty := .array .int) (C := R_L) (T := T_L) (N := 7) hx hb hts in_L ty_L ty_L_ok nm_L_ok hown hK hP hD hS 0 rfl rfl 1 (by decide) (hts _ k1_223) (fun _ h9 => h9) rfl hin rfl (by decide +kernel) rfl rfl (Nat.le_of_ble_eq_true rfl) dL_init_14 (fun H locs hP hD hS => ?_)
  have hP : va_P D vCl ((h0, .inr (6, [.int 0, .ref q1, .null, .int 0, .null, .null, .null])) :: [(q1, .inl (c3.1, 6, .inl (fun _ => 0)))]) H := hP
  have hD : va_D A ((h0, .inr (6, [.int 0, .ref q1, .null, .int 0, .null, .null, .null])) :: [(q1, .inl (c3.1, 6, .inl (fun _ => 0)))]) := hD
  refine lv_aload_n hx hb dL_init_17 rfl (lv_at hl 0 rfl) ?_
  refine lv_bipush (v := 6) hx hb dL_init_18 (by decide) ?_
  refine lv_bipush (v := 100) hx hb dL_init_20 (by decide) ?_
  refine m_newG (N' := 6) (K' := 100) hx hb hown (hts _ k1_220) hO hK hP hD hS hA (by decide) rfl (by decide) rfl (by decide) (by decide) (by decide) (by decide) dL_init_22 (fun q2 H hP hD hS => ?_)
  have hP : va_P D vCl ((h0, .inr (6, [.int 0, .ref q1, .null, .int 0, .null, .null, .null])) :: ([(q1, .inl (c3.1, 6, .inl (fun _ => 0)))] ++ mm_ws q2 c3 6 100)) H := hP
  have hD : va_D A ((h0, .inr (6, [.int 0, .ref q1, .null, .int 0, .null, .null, .null])) :: ([(q1, .inl (c3.1, 6, .inl (fun _ => 0)))] ++ mm_ws q2 c3 6 100)) := hD
  refine va_putF (D := D) (ci := 6) (v := .ref q2) (ty := .array (.array .int)) (C := R_L) (T := T_L) (N := 7) hx hb hts in_L ty_L ty_L_ok nm_L_ok hown hK hP hD hS 0 rfl rfl 2 (by decide) (hts _ k1_224) (fun _ h9 => h9) rfl hin rfl (by decide +kernel) rfl rfl (Nat.le_of_ble_eq_true rfl) dL_init_26 (fun H locs hP hD hS => ?_)
  have hP : va_P D vCl ((h0, .inr (6, [.int 0, .ref q1, .ref q2, .int 0, .null, .null, .null])) :: ([(q1, .inl (c3.1, 6, .inl (fun _ => 0)))] ++ mm_ws q2 c3 6 100)) H := hP
  have hD : va_D A ((h0, .inr (6, [.int 0, .ref q1, .ref q2, .int 0, .null, .null, .null])) :: ([(q1, .inl (c3.1, 6, .inl (fun _ => 0)))] ++ mm_ws q2 c3 6 100)) := hD
  refine lv_aload_n hx hb dL_init_29 rfl (lv_at hl 0 rfl) ?_
  refine lv_iconst (v := 0) hx hb dL_init_30 (by decide) ?_
  refine va_put (D := D) (ci := 6) (v := .int 0) (ty := .int) (C := R_L) (T := T_L) (N := 7) hx hb hts in_L ty_L ty_L_ok nm_L_ok hown hK hP hD hS 0 rfl rfl 3 (by decide) (hts _ k1_225) (fun _ h9 => h9) rfl (by decide +kernel) rfl rfl (Nat.le_of_ble_eq_true rfl) dL_init_31 (fun H locs hP hD hS => ?_)
  have hP : va_P D vCl ((h0, .inr (6, [.int 0, .ref q1, .ref q2, .int 0, .null, .null, .null])) :: ([(q1, .inl (c3.1, 6, .inl (fun _ => 0)))] ++ mm_ws q2 c3 6 100)) H := hP
  have hD : va_D A ((h0, .inr (6, [.int 0, .ref q1, .ref q2, .int 0, .null, .null, .null])) :: ([(q1, .inl (c3.1, 6, .inl (fun _ => 0)))] ++ mm_ws q2 c3 6 100)) := hD
  refine lv_aload_n hx hb dL_init_34 rfl (lv_at hl 0 rfl) ?_
  refine lv_bipush (v := 100) hx hb dL_init_35 (by decide) ?_
  refine m_newI (N' := 100) hx hb (hts _ k1_93) hK hP hD hS hA (by decide) rfl (by decide) (by decide) (by decide) dL_init_37 (fun q3 H hP hD hS => ?_)
  have hP : va_P D vCl ((h0, .inr (6, [.int 0, .ref q1, .ref q2, .int 0, .null, .null, .null])) :: (([(q1, .inl (c3.1, 6, .inl (fun _ => 0)))] ++ mm_ws q2 c3 6 100) ++ [(q3, .inl (c3.1, 100, .inl (fun _ => 0)))])) H := hP
  have hD : va_D A ((h0, .inr (6, [.int 0, .ref q1, .ref q2, .int 0, .null, .null, .null])) :: (([(q1, .inl (c3.1, 6, .inl (fun _ => 0)))] ++ mm_ws q2 c3 6 100) ++ [(q3, .inl (c3.1, 100, .inl (fun _ => 0)))])) := hD
  refine va_putF (D := D) (ci := 6) (v := .ref q3) (ty := .array .int) (C := R_L) (T := T_L) (N := 7) hx hb hts in_L ty_L ty_L_ok nm_L_ok hown hK hP hD hS 0 rfl rfl 4 (by decide) (hts _ k1_227) (fun _ h9 => h9) rfl hin rfl (by decide +kernel) rfl rfl (Nat.le_of_ble_eq_true rfl) dL_init_39 (fun H locs hP hD hS => ?_)
  have hP : va_P D vCl ((h0, .inr (6, [.int 0, .ref q1, .ref q2, .int 0, .ref q3, .null, .null])) :: (([(q1, .inl (c3.1, 6, .inl (fun _ => 0)))] ++ mm_ws q2 c3 6 100) ++ [(q3, .inl (c3.1, 100, .inl (fun _ => 0)))])) H := hP
  have hD : va_D A ((h0, .inr (6, [.int 0, .ref q1, .ref q2, .int 0, .ref q3, .null, .null])) :: (([(q1, .inl (c3.1, 6, .inl (fun _ => 0)))] ++ mm_ws q2 c3 6 100) ++ [(q3, .inl (c3.1, 100, .inl (fun _ => 0)))])) := hD
  refine lv_aload_n hx hb dL_init_42 rfl (lv_at hl 0 rfl) ?_
  refine lv_bipush (v := 100) hx hb dL_init_43 (by decide) ?_
  refine m_newI (N' := 100) hx hb (hts _ k1_93) hK hP hD hS hA (by decide) rfl (by decide) (by decide) (by decide) dL_init_45 (fun q4 H hP hD hS => ?_)
  have hP : va_P D vCl ((h0, .inr (6, [.int 0, .ref q1, .ref q2, .int 0, .ref q3, .null, .null])) :: ((([(q1, .inl (c3.1, 6, .inl (fun _ => 0)))] ++ mm_ws q2 c3 6 100) ++ [(q3, .inl (c3.1, 100, .inl (fun _ => 0)))]) ++ [(q4, .inl (c3.1, 100, .inl (fun _ => 0)))])) H := hP
  have hD : va_D A ((h0, .inr (6, [.int 0, .ref q1, .ref q2, .int 0, .ref q3, .null, .null])) :: ((([(q1, .inl (c3.1, 6, .inl (fun _ => 0)))] ++ mm_ws q2 c3 6 100) ++ [(q3, .inl (c3.1, 100, .inl (fun _ => 0)))]) ++ [(q4, .inl (c3.1, 100, .inl (fun _ => 0)))])) := hD
  refine va_putF (D := D) (ci := 6) (v := .ref q4) (ty := .array .int) (C := R_L) (T := T_L) (N := 7) hx hb hts in_L ty_L ty_L_ok nm_L_ok hown hK hP hD hS 0 rfl rfl 5 (by decide) (hts _ k1_229) (fun _ h9 => h9) rfl hin rfl (by decide +kernel) rfl rfl (Nat.le_of_ble_eq_true rfl) dL_init_47 (fun H locs hP hD hS => ?_)
  have hP : va_P D vCl ((h0, .inr (6, [.int 0, .ref q1, .ref q2, .int 0, .ref q3, .ref q4, .null])) :: ((([(q1, .inl (c3.1, 6, .inl (fun _ => 0)))] ++ mm_ws q2 c3 6 100) ++ [(q3, .inl (c3.1, 100, .inl (fun _ => 0)))]) ++ [(q4, .inl (c3.1, 100, .inl (fun _ => 0)))])) H := hP
  have hD : va_D A ((h0, .inr (6, [.int 0, .ref q1, .ref q2, .int 0, .ref q3, .ref q4, .null])) :: ((([(q1, .inl (c3.1, 6, .inl (fun _ => 0)))] ++ mm_ws q2 c3 6 100) ++ [(q3, .inl (c3.1, 100, .inl (fun _ => 0)))]) ++ [(q4, .inl (c3.1, 100, .inl (fun _ => 0)))])) := hD
  refine lv_aload_n hx hb dL_init_50 rfl (lv_at hl 0 rfl) ?_
  refine lv_bipush (v := 100) hx hb dL_init_51 (by decide) ?_
  refine m_newI (N' := 100) hx hb (hts _ k1_93) hK hP hD hS hA (by decide) rfl (by decide) (by decide) (by decide) dL_init_53 (fun q5 H hP hD hS => ?_)
  have hP : va_P D vCl ((h0, .inr (6, [.int 0, .ref q1, .ref q2, .int 0, .ref q3, .ref q4, .null])) :: (((([(q1, .inl (c3.1, 6, .inl (fun _ => 0)))] ++ mm_ws q2 c3 6 100) ++ [(q3, .inl (c3.1, 100, .inl (fun _ => 0)))]) ++ [(q4, .inl (c3.1, 100, .inl (fun _ => 0)))]) ++ [(q5, .inl (c3.1, 100, .inl (fun _ => 0)))])) H := hP
  have hD : va_D A ((h0, .inr (6, [.int 0, .ref q1, .ref q2, .int 0, .ref q3, .ref q4, .null])) :: (((([(q1, .inl (c3.1, 6, .inl (fun _ => 0)))] ++ mm_ws q2 c3 6 100) ++ [(q3, .inl (c3.1, 100, .inl (fun _ => 0)))]) ++ [(q4, .inl (c3.1, 100, .inl (fun _ => 0)))]) ++ [(q5, .inl (c3.1, 100, .inl (fun _ => 0)))])) := hD
  refine va_putF (D := D) (ci := 6) (v := .ref q5) (ty := .array .int) (C := R_L) (T := T_L) (N := 7) hx hb hts in_L ty_L ty_L_ok nm_L_ok hown hK hP hD hS 0 rfl rfl 6 (by decide) (hts _ k1_231) (fun _ h9 => h9) rfl hin rfl (by decide +kernel) rfl rfl (Nat.le_of_ble_eq_true rfl) dL_init_55 (fun H locs hP hD hS => ?_)
  have hP : va_P D vCl ((h0, .inr (6, [.int 0, .ref q1, .ref q2, .int 0, .ref q3, .ref q4, .ref q5])) :: (((([(q1, .inl (c3.1, 6, .inl (fun _ => 0)))] ++ mm_ws q2 c3 6 100) ++ [(q3, .inl (c3.1, 100, .inl (fun _ => 0)))]) ++ [(q4, .inl (c3.1, 100, .inl (fun _ => 0)))]) ++ [(q5, .inl (c3.1, 100, .inl (fun _ => 0)))])) H := hP
  have hD : va_D A ((h0, .inr (6, [.int 0, .ref q1, .ref q2, .int 0, .ref q3, .ref q4, .ref q5])) :: (((([(q1, .inl (c3.1, 6, .inl (fun _ => 0)))] ++ mm_ws q2 c3 6 100) ++ [(q3, .inl (c3.1, 100, .inl (fun _ => 0)))]) ++ [(q4, .inl (c3.1, 100, .inl (fun _ => 0)))]) ++ [(q5, .inl (c3.1, 100, .inl (fun _ => 0)))])) := hD
  have e9 : ((h0, .inr (6, [.int 0, .ref q1, .ref q2, .int 0, .ref q3, .ref q4, .ref q5])) :: (((([(q1, .inl (c3.1, 6, .inl (fun _ => 0)))] ++ mm_ws q2 c3 6 100) ++ [(q3, .inl (c3.1, 100, .inl (fun _ => 0)))]) ++ [(q4, .inl (c3.1, 100, .inl (fun _ => 0)))]) ++ [(q5, .inl (c3.1, 100, .inl (fun _ => 0)))])) = m_wb lyX 71 12 ((fun ad k => if k = 71 then h0 else ad k) (fun k => ([h0, q1, q2, q2 + 1 + 0, q2 + 1 + 1, q2 + 1 + 2, q2 + 1 + 3, q2 + 1 + 4, q2 + 1 + 5, q3, q4, q5] : List Nat).getD (k - 71) 0)) c3 mX0 := rfl
  rw [e9] at hP hD
  refine W.widen (k := 11) (n := 912) (by decide) (by decide) ?_
  exact W.vret hx hb hr (fun t ht hW => ⟨⟨(fun k => ([h0, q1, q2, q2 + 1 + 0, q2 + 1 + 1, q2 + 1 + 2, q2 + 1 + 3, q2 + 1 + 4, q2 + 1 + 5, q3, q4, q5] : List Nat).getD (k - 71) 0), rfl, trivial, by rw [ht]; exact hP, hD⟩, hS.F ht⟩) hS.2.2 dL_init_58
abbrev riX_B_68 : Room := { frames := 1, cells := 2, slots := 8, locals := 12 }
set_option maxHeartbeats 4000000 in
set_option maxRecDepth 100000 in
theorem iX_B_68 (l : Launch) (D : va_G) (c3 : ClassId × ClassId × ClassId) (h0 sz : Nat) : mN vCl nwX lyX l D c3 yB_init wB_init riX_B_68 [] h0 sz (.inr (5, [.int 0, .null, .null])) 68 3 mX0 (fun ad k => if k = 68 then h0 else ad k) := by
  refine Met.ofW (cc := bB_init) (maxL := 1) (ret := none) (by decide) rfl ?_
  intro p e s m args below meth c s₁ B hml hv
  obtain ⟨rfl, hsz, hP, ⟨hK, hO⟩, hN⟩ := hv
  have hN := And.intro nestX hN
  have hx := B.exec
  have hb := B.bytes
  have hr := B.returns
  have hts := fun (w : Cond) (h : w ∈ wA) => atoms_spec (ws := wB_init) B.pre w (List.mem_cons_of_mem _ h)
  have hown : s.vm.findClass R_B = some m.cls := findClass_of_methodNamed B.named
  have hlocks := B.notSynchronized
  have hin : meth.name = "<init>" := (name_of_methodNamed B.named B.method).1
  subst hsz
  have hD : va_D (va_A [(h0, .inr (5, [.int 0, .null, .null]))] s.heap.size) [(h0, .inr (5, [.int 0, .null, .null]))] := m_one (Or.inl ⟨0, _, rfl⟩)
  generalize hAe : va_A [(h0, .inr (5, [.int 0, .null, .null]))] s.heap.size = A at hD ⊢
  have hA : ∀ q : Nat, s.heap.size ≤ q → A q := fun q h => by rw [← hAe]; exact Or.inr h
  have hS : va_S A s.heap s.heap [] := va_S.rf
  have hP : va_P D vCl ((h0, .inr (5, [.int 0, .null, .null])) :: []) s.heap := hP
  have hl := lv_entry ([.ref h0]) (n := 1) (Nat.le_of_ble_eq_true rfl)
  rw [lg_entry_eq]
  generalize (lg_sl ([.ref h0]) ++ List.replicate (1 - (lg_sl ([.ref h0])).length) Slot.unset).toArray = ls at hl ⊢
  have hl : lv_has ls 1 [(0, .ref h0)] := hl
  refine lv_aload_n hx hb dB_init_0 rfl (lv_at hl 0 rfl) ?_
  refine W.objInit hx hb hown (hts _ k1_200) (hts _ k1_16) (hts _ kc_object) rfl (by rw [hml]; exact hl.1) rfl dB_init_1 (Nat.le_of_ble_eq_true rfl) (Nat.le_of_ble_eq_true rfl) ?_
  refine W.eq (g2 := F0 m 4 ls []) rfl ?_
  refine lv_aload_n hx hb dB_init_4 rfl (lv_at hl 0 rfl) ?_
  refine lv_iconst (v := 0) hx hb dB_init_5 (by decide) ?_
  refine va_put (D := D) (ci := 5) (v := .int 0) (ty := .boolean) (C := R_B) (T := T_B) (N := 3) hx hb hts in_B ty_B ty_B_ok nm_B_ok hown hK hP hD hS 0 rfl rfl 0 (by decide) (hts _ k1_201) (fun _ h9 => h9) rfl (by decide +kernel) rfl rfl (Nat.le_of_ble_eq_true rfl) dB_init_6 (fun H locs hP hD hS => ?_)
  have hP : va_P D vCl ((h0, .inr (5, [.int 0, .null, .null])) :: []) H := hP
  have hD : va_D A ((h0, .inr (5, [.int 0, .null, .null])) :: []) := hD
  refine lv_aload_n hx hb dB_init_9 rfl (lv_at hl 0 rfl) ?_
  refine lv_iconst (v := 4) hx hb dB_init_10 (by decide) ?_
  refine m_newI (N' := 4) hx hb (hts _ k1_93) hK hP hD hS hA (by decide) rfl (by decide) (by decide) (by decide) dB_init_11 (fun q1 H hP hD hS => ?_)
  have hP : va_P D vCl ((h0, .inr (5, [.int 0, .null, .null])) :: [(q1, .inl (c3.1, 4, .inl (fun _ => 0)))]) H := hP
  have hD : va_D A ((h0, .inr (5, [.int 0, .null, .null])) :: [(q1, .inl (c3.1, 4, .inl (fun _ => 0)))]) := hD
  refine va_putF (D := D) (ci := 5) (v := .ref q1) (ty := .array .int) (C := R_B) (T := T_B) (N := 3) hx hb hts in_B ty_B ty_B_ok nm_B_ok hown hK hP hD hS 0 rfl rfl 1 (by decide) (hts _ k1_203) (fun _ h9 => h9) rfl hin rfl (by decide +kernel) rfl rfl (Nat.le_of_ble_eq_true rfl) dB_init_13 (fun H locs hP hD hS => ?_)
  have hP : va_P D vCl ((h0, .inr (5, [.int 0, .ref q1, .null])) :: [(q1, .inl (c3.1, 4, .inl (fun _ => 0)))]) H := hP
  have hD : va_D A ((h0, .inr (5, [.int 0, .ref q1, .null])) :: [(q1, .inl (c3.1, 4, .inl (fun _ => 0)))]) := hD
  refine lv_aload_n hx hb dB_init_16 rfl (lv_at hl 0 rfl) ?_
  refine lv_iconst (v := 4) hx hb dB_init_17 (by decide) ?_
  refine m_newI (N' := 4) hx hb (hts _ k1_93) hK hP hD hS hA (by decide) rfl (by decide) (by decide) (by decide) dB_init_18 (fun q2 H hP hD hS => ?_)
  have hP : va_P D vCl ((h0, .inr (5, [.int 0, .ref q1, .null])) :: ([(q1, .inl (c3.1, 4, .inl (fun _ => 0)))] ++ [(q2, .inl (c3.1, 4, .inl (fun _ => 0)))])) H := hP
  have hD : va_D A ((h0, .inr (5, [.int 0, .ref q1, .null])) :: ([(q1, .inl (c3.1, 4, .inl (fun _ => 0)))] ++ [(q2, .inl (c3.1, 4, .inl (fun _ => 0)))])) := hD
  refine va_putF (D := D) (ci := 5) (v := .ref q2) (ty := .array .int) (C := R_B) (T := T_B) (N := 3) hx hb hts in_B ty_B ty_B_ok nm_B_ok hown hK hP hD hS 0 rfl rfl 2 (by decide) (hts _ k1_205) (fun _ h9 => h9) rfl hin rfl (by decide +kernel) rfl rfl (Nat.le_of_ble_eq_true rfl) dB_init_20 (fun H locs hP hD hS => ?_)
  have hP : va_P D vCl ((h0, .inr (5, [.int 0, .ref q1, .ref q2])) :: ([(q1, .inl (c3.1, 4, .inl (fun _ => 0)))] ++ [(q2, .inl (c3.1, 4, .inl (fun _ => 0)))])) H := hP
  have hD : va_D A ((h0, .inr (5, [.int 0, .ref q1, .ref q2])) :: ([(q1, .inl (c3.1, 4, .inl (fun _ => 0)))] ++ [(q2, .inl (c3.1, 4, .inl (fun _ => 0)))])) := hD
  have e9 : ((h0, .inr (5, [.int 0, .ref q1, .ref q2])) :: ([(q1, .inl (c3.1, 4, .inl (fun _ => 0)))] ++ [(q2, .inl (c3.1, 4, .inl (fun _ => 0)))])) = m_wb lyX 68 3 ((fun ad k => if k = 68 then h0 else ad k) (fun k => ([h0, q1, q2] : List Nat).getD (k - 68) 0)) c3 mX0 := rfl
  rw [e9] at hP hD
  refine W.widen (k := 2) (n := 8) (by decide) (by decide) ?_
  exact W.vret hx hb hr (fun t ht hW => ⟨⟨(fun k => ([h0, q1, q2] : List Nat).getD (k - 68) 0), rfl, trivial, by rw [ht]; exact hP, hD⟩, hS.F ht⟩) hS.2.2 dB_init_23
abbrev riX_X_66 : Room := { frames := 1, cells := 1, slots := 4, locals := 12 }
set_option maxHeartbeats 4000000 in
set_option maxRecDepth 100000 in
theorem iX_X_66 (l : Launch) (D : va_G) (c3 : ClassId × ClassId × ClassId) (h0 sz : Nat) : mN vCl nwX lyX l D c3 yX_init wX_init riX_X_66 [] h0 sz (.inr (4, [.int 0, .null, .int 0, .int 0])) 66 2 mX0 (fun ad k => if k = 66 then h0 else ad k) := by
  refine Met.ofW (cc := bX_init) (maxL := 1) (ret := none) (by decide) rfl ?_
  intro p e s m args below meth c s₁ B hml hv
  obtain ⟨rfl, hsz, hP, ⟨hK, hO⟩, hN⟩ := hv
  have hN := And.intro nestX hN
  have hx := B.exec
  have hb := B.bytes
  have hr := B.returns
  have hts := fun (w : Cond) (h : w ∈ wA) => atoms_spec (ws := wX_init) B.pre w (List.mem_cons_of_mem _ h)
  have hown : s.vm.findClass R_X = some m.cls := findClass_of_methodNamed B.named
  have hlocks := B.notSynchronized
  have hin : meth.name = "<init>" := (name_of_methodNamed B.named B.method).1
  subst hsz
  have hD : va_D (va_A [(h0, .inr (4, [.int 0, .null, .int 0, .int 0]))] s.heap.size) [(h0, .inr (4, [.int 0, .null, .int 0, .int 0]))] := m_one (Or.inl ⟨0, _, rfl⟩)
  generalize hAe : va_A [(h0, .inr (4, [.int 0, .null, .int 0, .int 0]))] s.heap.size = A at hD ⊢
  have hA : ∀ q : Nat, s.heap.size ≤ q → A q := fun q h => by rw [← hAe]; exact Or.inr h
  have hS : va_S A s.heap s.heap [] := va_S.rf
  have hP : va_P D vCl ((h0, .inr (4, [.int 0, .null, .int 0, .int 0])) :: []) s.heap := hP
  have hl := lv_entry ([.ref h0]) (n := 1) (Nat.le_of_ble_eq_true rfl)
  rw [lg_entry_eq]
  generalize (lg_sl ([.ref h0]) ++ List.replicate (1 - (lg_sl ([.ref h0])).length) Slot.unset).toArray = ls at hl ⊢
  have hl : lv_has ls 1 [(0, .ref h0)] := hl
  refine lv_aload_n hx hb dX_init_0 rfl (lv_at hl 0 rfl) ?_
  refine W.objInit hx hb hown (hts _ k1_107) (hts _ k1_16) (hts _ kc_object) rfl (by rw [hml]; exact hl.1) rfl dX_init_1 (Nat.le_of_ble_eq_true rfl) (Nat.le_of_ble_eq_true rfl) ?_
  refine W.eq (g2 := F0 m 4 ls []) rfl ?_
  refine lv_aload_n hx hb dX_init_4 rfl (lv_at hl 0 rfl) ?_
  refine lv_iconst (v := 0) hx hb dX_init_5 (by decide) ?_
  refine va_put (D := D) (ci := 4) (v := .int 0) (ty := .boolean) (C := R_X) (T := T_X) (N := 4) hx hb hts in_X ty_X ty_X_ok nm_X_ok hown hK hP hD hS 0 rfl rfl 0 (by decide) (hts _ k1_108) (fun _ h9 => h9) rfl (by decide +kernel) rfl rfl (Nat.le_of_ble_eq_true rfl) dX_init_6 (fun H locs hP hD hS => ?_)
  have hP : va_P D vCl ((h0, .inr (4, [.int 0, .null, .int 0, .int 0])) :: []) H := hP
  have hD : va_D A ((h0, .inr (4, [.int 0, .null, .int 0, .int 0])) :: []) := hD
  refine lv_aload_n hx hb dX_init_9 rfl (lv_at hl 0 rfl) ?_
  refine lv_iconst (v := 4) hx hb dX_init_10 (by decide) ?_
  refine m_newI (N' := 4) hx hb (hts _ k1_93) hK hP hD hS hA (by decide) rfl (by decide) (by decide) (by decide) dX_init_11 (fun q1 H hP hD hS => ?_)
  have hP : va_P D vCl ((h0, .inr (4, [.int 0, .null, .int 0, .int 0])) :: [(q1, .inl (c3.1, 4, .inl (fun _ => 0)))]) H := hP
  have hD : va_D A ((h0, .inr (4, [.int 0, .null, .int 0, .int 0])) :: [(q1, .inl (c3.1, 4, .inl (fun _ => 0)))]) := hD
  refine va_putF (D := D) (ci := 4) (v := .ref q1) (ty := .array .int) (C := R_X) (T := T_X) (N := 4) hx hb hts in_X ty_X ty_X_ok nm_X_ok hown hK hP hD hS 0 rfl rfl 1 (by decide) (hts _ k1_111) (fun _ h9 => h9) rfl hin rfl (by decide +kernel) rfl rfl (Nat.le_of_ble_eq_true rfl) dX_init_13 (fun H locs hP hD hS => ?_)
  have hP : va_P D vCl ((h0, .inr (4, [.int 0, .ref q1, .int 0, .int 0])) :: [(q1, .inl (c3.1, 4, .inl (fun _ => 0)))]) H := hP
  have hD : va_D A ((h0, .inr (4, [.int 0, .ref q1, .int 0, .int 0])) :: [(q1, .inl (c3.1, 4, .inl (fun _ => 0)))]) := hD
  refine lv_aload_n hx hb dX_init_16 rfl (lv_at hl 0 rfl) ?_
  refine lv_iconst (v := 0) hx hb dX_init_17 (by decide) ?_
  refine va_put (D := D) (ci := 4) (v := .int 0) (ty := .int) (C := R_X) (T := T_X) (N := 4) hx hb hts in_X ty_X ty_X_ok nm_X_ok hown hK hP hD hS 0 rfl rfl 2 (by decide) (hts _ k1_115) (fun _ h9 => h9) rfl (by decide +kernel) rfl rfl (Nat.le_of_ble_eq_true rfl) dX_init_18 (fun H locs hP hD hS => ?_)
  have hP : va_P D vCl ((h0, .inr (4, [.int 0, .ref q1, .int 0, .int 0])) :: [(q1, .inl (c3.1, 4, .inl (fun _ => 0)))]) H := hP
  have hD : va_D A ((h0, .inr (4, [.int 0, .ref q1, .int 0, .int 0])) :: [(q1, .inl (c3.1, 4, .inl (fun _ => 0)))]) := hD
  refine lv_aload_n hx hb dX_init_21 rfl (lv_at hl 0 rfl) ?_
  refine lv_iconst (v := 0) hx hb dX_init_22 (by decide) ?_
  refine va_put (D := D) (ci := 4) (v := .int 0) (ty := .int) (C := R_X) (T := T_X) (N := 4) hx hb hts in_X ty_X ty_X_ok nm_X_ok hown hK hP hD hS 0 rfl rfl 3 (by decide) (hts _ k1_118) (fun _ h9 => h9) rfl (by decide +kernel) rfl rfl (Nat.le_of_ble_eq_true rfl) dX_init_23 (fun H locs hP hD hS => ?_)
  have hP : va_P D vCl ((h0, .inr (4, [.int 0, .ref q1, .int 0, .int 0])) :: [(q1, .inl (c3.1, 4, .inl (fun _ => 0)))]) H := hP
  have hD : va_D A ((h0, .inr (4, [.int 0, .ref q1, .int 0, .int 0])) :: [(q1, .inl (c3.1, 4, .inl (fun _ => 0)))]) := hD
  have e9 : ((h0, .inr (4, [.int 0, .ref q1, .int 0, .int 0])) :: [(q1, .inl (c3.1, 4, .inl (fun _ => 0)))]) = m_wb lyX 66 2 ((fun ad k => if k = 66 then h0 else ad k) (fun k => ([h0, q1] : List Nat).getD (k - 66) 0)) c3 mX0 := rfl
  rw [e9] at hP hD
  refine W.widen (k := 1) (n := 4) (by decide) (by decide) ?_
  exact W.vret hx hb hr (fun t ht hW => ⟨⟨(fun k => ([h0, q1] : List Nat).getD (k - 66) 0), rfl, trivial, by rw [ht]; exact hP, hD⟩, hS.F ht⟩) hS.2.2 dX_init_26
abbrev riX_T_62 : Room := { frames := 1, cells := 3, slots := 72, locals := 12 }
set_option maxHeartbeats 4000000 in
set_option maxRecDepth 100000 in
theorem iX_T_62 (l : Launch) (D : va_G) (c3 : ClassId × ClassId × ClassId) (h0 sz : Nat) : mN vCl nwX lyX l D c3 yT_init wT_init riX_T_62 [] h0 sz (.inr (3, [.null, .null, .null, .int 0, .int 0])) 62 4 mX0 (fun ad k => if k = 62 then h0 else ad k) := by
  refine Met.ofW (cc := bT_init) (maxL := 1) (ret := none) (by decide) rfl ?_
  intro p e s m args below meth c s₁ B hml hv
  obtain ⟨rfl, hsz, hP, ⟨hK, hO⟩, hN⟩ := hv
  have hN := And.intro nestX hN
  have hx := B.exec
  have hb := B.bytes
  have hr := B.returns
  have hts := fun (w : Cond) (h : w ∈ wA) => atoms_spec (ws := wT_init) B.pre w (List.mem_cons_of_mem _ h)
  have hown : s.vm.findClass R_T = some m.cls := findClass_of_methodNamed B.named
  have hlocks := B.notSynchronized
  have hin : meth.name = "<init>" := (name_of_methodNamed B.named B.method).1
  subst hsz
  have hD : va_D (va_A [(h0, .inr (3, [.null, .null, .null, .int 0, .int 0]))] s.heap.size) [(h0, .inr (3, [.null, .null, .null, .int 0, .int 0]))] := m_one (Or.inl ⟨0, _, rfl⟩)
  generalize hAe : va_A [(h0, .inr (3, [.null, .null, .null, .int 0, .int 0]))] s.heap.size = A at hD ⊢
  have hA : ∀ q : Nat, s.heap.size ≤ q → A q := fun q h => by rw [← hAe]; exact Or.inr h
  have hS : va_S A s.heap s.heap [] := va_S.rf
  have hP : va_P D vCl ((h0, .inr (3, [.null, .null, .null, .int 0, .int 0])) :: []) s.heap := hP
  have hl := lv_entry ([.ref h0]) (n := 1) (Nat.le_of_ble_eq_true rfl)
  rw [lg_entry_eq]
  generalize (lg_sl ([.ref h0]) ++ List.replicate (1 - (lg_sl ([.ref h0])).length) Slot.unset).toArray = ls at hl ⊢
  have hl : lv_has ls 1 [(0, .ref h0)] := hl
  refine lv_aload_n hx hb dT_init_0 rfl (lv_at hl 0 rfl) ?_
  refine W.objInit hx hb hown (hts _ k1_174) (hts _ k1_16) (hts _ kc_object) rfl (by rw [hml]; exact hl.1) rfl dT_init_1 (Nat.le_of_ble_eq_true rfl) (Nat.le_of_ble_eq_true rfl) ?_
  refine W.eq (g2 := F0 m 4 ls []) rfl ?_
  refine lv_aload_n hx hb dT_init_4 rfl (lv_at hl 0 rfl) ?_
  refine lv_bipush (v := 6) hx hb dT_init_5 (by decide) ?_
  refine m_newI (N' := 6) hx hb (hts _ k1_93) hK hP hD hS hA (by decide) rfl (by decide) (by decide) (by decide) dT_init_7 (fun q1 H hP hD hS => ?_)
  have hP : va_P D vCl ((h0, .inr (3, [.null, .null, .null, .int 0, .int 0])) :: [(q1, .inl (c3.1, 6, .inl (fun _ => 0)))]) H := hP
  have hD : va_D A ((h0, .inr (3, [.null, .null, .null, .int 0, .int 0])) :: [(q1, .inl (c3.1, 6, .inl (fun _ => 0)))]) := hD
  refine va_putF (D := D) (ci := 3) (v := .ref q1) (ty := .array .int) (C := R_T) (T := T_T) (N := 5) hx hb hts in_T ty_T ty_T_ok nm_T_ok hown hK hP hD hS 0 rfl rfl 0 (by decide) (hts _ k1_175) (fun _ h9 => h9) rfl hin rfl (by decide +kernel) rfl rfl (Nat.le_of_ble_eq_true rfl) dT_init_9 (fun H locs hP hD hS => ?_)
  have hP : va_P D vCl ((h0, .inr (3, [.ref q1, .null, .null, .int 0, .int 0])) :: [(q1, .inl (c3.1, 6, .inl (fun _ => 0)))]) H := hP
  have hD : va_D A ((h0, .inr (3, [.ref q1, .null, .null, .int 0, .int 0])) :: [(q1, .inl (c3.1, 6, .inl (fun _ => 0)))]) := hD
  refine lv_aload_n hx hb dT_init_12 rfl (lv_at hl 0 rfl) ?_
  refine lv_bipush (v := 6) hx hb dT_init_13 (by decide) ?_
  refine m_newI (N' := 6) hx hb (hts _ k1_93) hK hP hD hS hA (by decide) rfl (by decide) (by decide) (by decide) dT_init_15 (fun q2 H hP hD hS => ?_)
  have hP : va_P D vCl ((h0, .inr (3, [.ref q1, .null, .null, .int 0, .int 0])) :: ([(q1, .inl (c3.1, 6, .inl (fun _ => 0)))] ++ [(q2, .inl (c3.1, 6, .inl (fun _ => 0)))])) H := hP
  have hD : va_D A ((h0, .inr (3, [.ref q1, .null, .null, .int 0, .int 0])) :: ([(q1, .inl (c3.1, 6, .inl (fun _ => 0)))] ++ [(q2, .inl (c3.1, 6, .inl (fun _ => 0)))])) := hD
  refine va_putF (D := D) (ci := 3) (v := .ref q2) (ty := .array .int) (C := R_T) (T := T_T) (N := 5) hx hb hts in_T ty_T ty_T_ok nm_T_ok hown hK hP hD hS 0 rfl rfl 1 (by decide) (hts _ k1_177) (fun _ h9 => h9) rfl hin rfl (by decide +kernel) rfl rfl (Nat.le_of_ble_eq_true rfl) dT_init_17 (fun H locs hP hD hS => ?_)
  have hP : va_P D vCl ((h0, .inr (3, [.ref q1, .ref q2, .null, .int 0, .int 0])) :: ([(q1, .inl (c3.1, 6, .inl (fun _ => 0)))] ++ [(q2, .inl (c3.1, 6, .inl (fun _ => 0)))])) H := hP
  have hD : va_D A ((h0, .inr (3, [.ref q1, .ref q2, .null, .int 0, .int 0])) :: ([(q1, .inl (c3.1, 6, .inl (fun _ => 0)))] ++ [(q2, .inl (c3.1, 6, .inl (fun _ => 0)))])) := hD
  refine lv_aload_n hx hb dT_init_20 rfl (lv_at hl 0 rfl) ?_
  refine lv_bipush (v := 60) hx hb dT_init_21 (by decide) ?_
  refine m_newI (N' := 60) hx hb (hts _ k1_93) hK hP hD hS hA (by decide) rfl (by decide) (by decide) (by decide) dT_init_23 (fun q3 H hP hD hS => ?_)
  have hP : va_P D vCl ((h0, .inr (3, [.ref q1, .ref q2, .null, .int 0, .int 0])) :: (([(q1, .inl (c3.1, 6, .inl (fun _ => 0)))] ++ [(q2, .inl (c3.1, 6, .inl (fun _ => 0)))]) ++ [(q3, .inl (c3.1, 60, .inl (fun _ => 0)))])) H := hP
  have hD : va_D A ((h0, .inr (3, [.ref q1, .ref q2, .null, .int 0, .int 0])) :: (([(q1, .inl (c3.1, 6, .inl (fun _ => 0)))] ++ [(q2, .inl (c3.1, 6, .inl (fun _ => 0)))]) ++ [(q3, .inl (c3.1, 60, .inl (fun _ => 0)))])) := hD
  refine va_putF (D := D) (ci := 3) (v := .ref q3) (ty := .array .int) (C := R_T) (T := T_T) (N := 5) hx hb hts in_T ty_T ty_T_ok nm_T_ok hown hK hP hD hS 0 rfl rfl 2 (by decide) (hts _ k1_179) (fun _ h9 => h9) rfl hin rfl (by decide +kernel) rfl rfl (Nat.le_of_ble_eq_true rfl) dT_init_25 (fun H locs hP hD hS => ?_)
  have hP : va_P D vCl ((h0, .inr (3, [.ref q1, .ref q2, .ref q3, .int 0, .int 0])) :: (([(q1, .inl (c3.1, 6, .inl (fun _ => 0)))] ++ [(q2, .inl (c3.1, 6, .inl (fun _ => 0)))]) ++ [(q3, .inl (c3.1, 60, .inl (fun _ => 0)))])) H := hP
  have hD : va_D A ((h0, .inr (3, [.ref q1, .ref q2, .ref q3, .int 0, .int 0])) :: (([(q1, .inl (c3.1, 6, .inl (fun _ => 0)))] ++ [(q2, .inl (c3.1, 6, .inl (fun _ => 0)))]) ++ [(q3, .inl (c3.1, 60, .inl (fun _ => 0)))])) := hD
  refine lv_aload_n hx hb dT_init_28 rfl (lv_at hl 0 rfl) ?_
  refine lv_iconst (v := 0) hx hb dT_init_29 (by decide) ?_
  refine va_put (D := D) (ci := 3) (v := .int 0) (ty := .int) (C := R_T) (T := T_T) (N := 5) hx hb hts in_T ty_T ty_T_ok nm_T_ok hown hK hP hD hS 0 rfl rfl 3 (by decide) (hts _ k1_180) (fun _ h9 => h9) rfl (by decide +kernel) rfl rfl (Nat.le_of_ble_eq_true rfl) dT_init_30 (fun H locs hP hD hS => ?_)
  have hP : va_P D vCl ((h0, .inr (3, [.ref q1, .ref q2, .ref q3, .int 0, .int 0])) :: (([(q1, .inl (c3.1, 6, .inl (fun _ => 0)))] ++ [(q2, .inl (c3.1, 6, .inl (fun _ => 0)))]) ++ [(q3, .inl (c3.1, 60, .inl (fun _ => 0)))])) H := hP
  have hD : va_D A ((h0, .inr (3, [.ref q1, .ref q2, .ref q3, .int 0, .int 0])) :: (([(q1, .inl (c3.1, 6, .inl (fun _ => 0)))] ++ [(q2, .inl (c3.1, 6, .inl (fun _ => 0)))]) ++ [(q3, .inl (c3.1, 60, .inl (fun _ => 0)))])) := hD
  refine lv_aload_n hx hb dT_init_33 rfl (lv_at hl 0 rfl) ?_
  refine lv_iconst (v := 0) hx hb dT_init_34 (by decide) ?_
  refine va_put (D := D) (ci := 3) (v := .int 0) (ty := .int) (C := R_T) (T := T_T) (N := 5) hx hb hts in_T ty_T ty_T_ok nm_T_ok hown hK hP hD hS 0 rfl rfl 4 (by decide) (hts _ k1_181) (fun _ h9 => h9) rfl (by decide +kernel) rfl rfl (Nat.le_of_ble_eq_true rfl) dT_init_35 (fun H locs hP hD hS => ?_)
  have hP : va_P D vCl ((h0, .inr (3, [.ref q1, .ref q2, .ref q3, .int 0, .int 0])) :: (([(q1, .inl (c3.1, 6, .inl (fun _ => 0)))] ++ [(q2, .inl (c3.1, 6, .inl (fun _ => 0)))]) ++ [(q3, .inl (c3.1, 60, .inl (fun _ => 0)))])) H := hP
  have hD : va_D A ((h0, .inr (3, [.ref q1, .ref q2, .ref q3, .int 0, .int 0])) :: (([(q1, .inl (c3.1, 6, .inl (fun _ => 0)))] ++ [(q2, .inl (c3.1, 6, .inl (fun _ => 0)))]) ++ [(q3, .inl (c3.1, 60, .inl (fun _ => 0)))])) := hD
  have e9 : ((h0, .inr (3, [.ref q1, .ref q2, .ref q3, .int 0, .int 0])) :: (([(q1, .inl (c3.1, 6, .inl (fun _ => 0)))] ++ [(q2, .inl (c3.1, 6, .inl (fun _ => 0)))]) ++ [(q3, .inl (c3.1, 60, .inl (fun _ => 0)))])) = m_wb lyX 62 4 ((fun ad k => if k = 62 then h0 else ad k) (fun k => ([h0, q1, q2, q3] : List Nat).getD (k - 62) 0)) c3 mX0 := rfl
  rw [e9] at hP hD
  refine W.widen (k := 3) (n := 72) (by decide) (by decide) ?_
  exact W.vret hx hb hr (fun t ht hW => ⟨⟨(fun k => ([h0, q1, q2, q3] : List Nat).getD (k - 62) 0), rfl, trivial, by rw [ht]; exact hP, hD⟩, hS.F ht⟩) hS.2.2 dT_init_38
abbrev riX_X_60 : Room := { frames := 1, cells := 1, slots := 4, locals := 12 }
set_option maxHeartbeats 4000000 in
set_option maxRecDepth 100000 in
theorem iX_X_60 (l : Launch) (D : va_G) (c3 : ClassId × ClassId × ClassId) (h0 sz : Nat) : mN vCl nwX lyX l D c3 yX_init wX_init riX_X_60 [] h0 sz (.inr (4, [.int 0, .null, .int 0, .int 0])) 60 2 mX0 (fun ad k => if k = 60 then h0 else ad k) := by
  refine Met.ofW (cc := bX_init) (maxL := 1) (ret := none) (by decide) rfl ?_
  intro p e s m args below meth c s₁ B hml hv
  obtain ⟨rfl, hsz, hP, ⟨hK, hO⟩, hN⟩ := hv
  have hN := And.intro nestX hN
  have hx := B.exec
  have hb := B.bytes
  have hr := B.returns
  have hts := fun (w : Cond) (h : w ∈ wA) => atoms_spec (ws := wX_init) B.pre w (List.mem_cons_of_mem _ h)
  have hown : s.vm.findClass R_X = some m.cls := findClass_of_methodNamed B.named
  have hlocks := B.notSynchronized
  have hin : meth.name = "<init>" := (name_of_methodNamed B.named B.method).1
  subst hsz
  have hD : va_D (va_A [(h0, .inr (4, [.int 0, .null, .int 0, .int 0]))] s.heap.size) [(h0, .inr (4, [.int 0, .null, .int 0, .int 0]))] := m_one (Or.inl ⟨0, _, rfl⟩)
  generalize hAe : va_A [(h0, .inr (4, [.int 0, .null, .int 0, .int 0]))] s.heap.size = A at hD ⊢
  have hA : ∀ q : Nat, s.heap.size ≤ q → A q := fun q h => by rw [← hAe]; exact Or.inr h
  have hS : va_S A s.heap s.heap [] := va_S.rf
  have hP : va_P D vCl ((h0, .inr (4, [.int 0, .null, .int 0, .int 0])) :: []) s.heap := hP
  have hl := lv_entry ([.ref h0]) (n := 1) (Nat.le_of_ble_eq_true rfl)
  rw [lg_entry_eq]
  generalize (lg_sl ([.ref h0]) ++ List.replicate (1 - (lg_sl ([.ref h0])).length) Slot.unset).toArray = ls at hl ⊢
  have hl : lv_has ls 1 [(0, .ref h0)] := hl
  refine lv_aload_n hx hb dX_init_0 rfl (lv_at hl 0 rfl) ?_
  refine W.objInit hx hb hown (hts _ k1_107) (hts _ k1_16) (hts _ kc_object) rfl (by rw [hml]; exact hl.1) rfl dX_init_1 (Nat.le_of_ble_eq_true rfl) (Nat.le_of_ble_eq_true rfl) ?_
  refine W.eq (g2 := F0 m 4 ls []) rfl ?_
  refine lv_aload_n hx hb dX_init_4 rfl (lv_at hl 0 rfl) ?_
  refine lv_iconst (v := 0) hx hb dX_init_5 (by decide) ?_
  refine va_put (D := D) (ci := 4) (v := .int 0) (ty := .boolean) (C := R_X) (T := T_X) (N := 4) hx hb hts in_X ty_X ty_X_ok nm_X_ok hown hK hP hD hS 0 rfl rfl 0 (by decide) (hts _ k1_108) (fun _ h9 => h9) rfl (by decide +kernel) rfl rfl (Nat.le_of_ble_eq_true rfl) dX_init_6 (fun H locs hP hD hS => ?_)
  have hP : va_P D vCl ((h0, .inr (4, [.int 0, .null, .int 0, .int 0])) :: []) H := hP
  have hD : va_D A ((h0, .inr (4, [.int 0, .null, .int 0, .int 0])) :: []) := hD
  refine lv_aload_n hx hb dX_init_9 rfl (lv_at hl 0 rfl) ?_
  refine lv_iconst (v := 4) hx hb dX_init_10 (by decide) ?_
  refine m_newI (N' := 4) hx hb (hts _ k1_93) hK hP hD hS hA (by decide) rfl (by decide) (by decide) (by decide) dX_init_11 (fun q1 H hP hD hS => ?_)
  have hP : va_P D vCl ((h0, .inr (4, [.int 0, .null, .int 0, .int 0])) :: [(q1, .inl (c3.1, 4, .inl (fun _ => 0)))]) H := hP
  have hD : va_D A ((h0, .inr (4, [.int 0, .null, .int 0, .int 0])) :: [(q1, .inl (c3.1, 4, .inl (fun _ => 0)))]) := hD
  refine va_putF (D := D) (ci := 4) (v := .ref q1) (ty := .array .int) (C := R_X) (T := T_X) (N := 4) hx hb hts in_X ty_X ty_X_ok nm_X_ok hown hK hP hD hS 0 rfl rfl 1 (by decide) (hts _ k1_111) (fun _ h9 => h9) rfl hin rfl (by decide +kernel) rfl rfl (Nat.le_of_ble_eq_true rfl) dX_init_13 (fun H locs hP hD hS => ?_)
  have hP : va_P D vCl ((h0, .inr (4, [.int 0, .ref q1, .int 0, .int 0])) :: [(q1, .inl (c3.1, 4, .inl (fun _ => 0)))]) H := hP
  have hD : va_D A ((h0, .inr (4, [.int 0, .ref q1, .int 0, .int 0])) :: [(q1, .inl (c3.1, 4, .inl (fun _ => 0)))]) := hD
  refine lv_aload_n hx hb dX_init_16 rfl (lv_at hl 0 rfl) ?_
  refine lv_iconst (v := 0) hx hb dX_init_17 (by decide) ?_
  refine va_put (D := D) (ci := 4) (v := .int 0) (ty := .int) (C := R_X) (T := T_X) (N := 4) hx hb hts in_X ty_X ty_X_ok nm_X_ok hown hK hP hD hS 0 rfl rfl 2 (by decide) (hts _ k1_115) (fun _ h9 => h9) rfl (by decide +kernel) rfl rfl (Nat.le_of_ble_eq_true rfl) dX_init_18 (fun H locs hP hD hS => ?_)
  have hP : va_P D vCl ((h0, .inr (4, [.int 0, .ref q1, .int 0, .int 0])) :: [(q1, .inl (c3.1, 4, .inl (fun _ => 0)))]) H := hP
  have hD : va_D A ((h0, .inr (4, [.int 0, .ref q1, .int 0, .int 0])) :: [(q1, .inl (c3.1, 4, .inl (fun _ => 0)))]) := hD
  refine lv_aload_n hx hb dX_init_21 rfl (lv_at hl 0 rfl) ?_
  refine lv_iconst (v := 0) hx hb dX_init_22 (by decide) ?_
  refine va_put (D := D) (ci := 4) (v := .int 0) (ty := .int) (C := R_X) (T := T_X) (N := 4) hx hb hts in_X ty_X ty_X_ok nm_X_ok hown hK hP hD hS 0 rfl rfl 3 (by decide) (hts _ k1_118) (fun _ h9 => h9) rfl (by decide +kernel) rfl rfl (Nat.le_of_ble_eq_true rfl) dX_init_23 (fun H locs hP hD hS => ?_)
  have hP : va_P D vCl ((h0, .inr (4, [.int 0, .ref q1, .int 0, .int 0])) :: [(q1, .inl (c3.1, 4, .inl (fun _ => 0)))]) H := hP
  have hD : va_D A ((h0, .inr (4, [.int 0, .ref q1, .int 0, .int 0])) :: [(q1, .inl (c3.1, 4, .inl (fun _ => 0)))]) := hD
  have e9 : ((h0, .inr (4, [.int 0, .ref q1, .int 0, .int 0])) :: [(q1, .inl (c3.1, 4, .inl (fun _ => 0)))]) = m_wb lyX 60 2 ((fun ad k => if k = 60 then h0 else ad k) (fun k => ([h0, q1] : List Nat).getD (k - 60) 0)) c3 mX0 := rfl
  rw [e9] at hP hD
  refine W.widen (k := 1) (n := 4) (by decide) (by decide) ?_
  exact W.vret hx hb hr (fun t ht hW => ⟨⟨(fun k => ([h0, q1] : List Nat).getD (k - 60) 0), rfl, trivial, by rw [ht]; exact hP, hD⟩, hS.F ht⟩) hS.2.2 dX_init_26
abbrev riX_X_58 : Room := { frames := 1, cells := 1, slots := 4, locals := 12 }
set_option maxHeartbeats 4000000 in
set_option maxRecDepth 100000 in
theorem iX_X_58 (l : Launch) (D : va_G) (c3 : ClassId × ClassId × ClassId) (h0 sz : Nat) : mN vCl nwX lyX l D c3 yX_init wX_init riX_X_58 [] h0 sz (.inr (4, [.int 0, .null, .int 0, .int 0])) 58 2 mX0 (fun ad k => if k = 58 then h0 else ad k) := by
  refine Met.ofW (cc := bX_init) (maxL := 1) (ret := none) (by decide) rfl ?_
  intro p e s m args below meth c s₁ B hml hv
  obtain ⟨rfl, hsz, hP, ⟨hK, hO⟩, hN⟩ := hv
  have hN := And.intro nestX hN
  have hx := B.exec
  have hb := B.bytes
  have hr := B.returns
  have hts := fun (w : Cond) (h : w ∈ wA) => atoms_spec (ws := wX_init) B.pre w (List.mem_cons_of_mem _ h)
  have hown : s.vm.findClass R_X = some m.cls := findClass_of_methodNamed B.named
  have hlocks := B.notSynchronized
  have hin : meth.name = "<init>" := (name_of_methodNamed B.named B.method).1
  subst hsz
  have hD : va_D (va_A [(h0, .inr (4, [.int 0, .null, .int 0, .int 0]))] s.heap.size) [(h0, .inr (4, [.int 0, .null, .int 0, .int 0]))] := m_one (Or.inl ⟨0, _, rfl⟩)
  generalize hAe : va_A [(h0, .inr (4, [.int 0, .null, .int 0, .int 0]))] s.heap.size = A at hD ⊢
  have hA : ∀ q : Nat, s.heap.size ≤ q → A q := fun q h => by rw [← hAe]; exact Or.inr h
  have hS : va_S A s.heap s.heap [] := va_S.rf
  have hP : va_P D vCl ((h0, .inr (4, [.int 0, .null, .int 0, .int 0])) :: []) s.heap := hP
  have hl := lv_entry ([.ref h0]) (n := 1) (Nat.le_of_ble_eq_true rfl)
  rw [lg_entry_eq]
  generalize (lg_sl ([.ref h0]) ++ List.replicate (1 - (lg_sl ([.ref h0])).length) Slot.unset).toArray = ls at hl ⊢
  have hl : lv_has ls 1 [(0, .ref h0)] := hl
  refine lv_aload_n hx hb dX_init_0 rfl (lv_at hl 0 rfl) ?_
  refine W.objInit hx hb hown (hts _ k1_107) (hts _ k1_16) (hts _ kc_object) rfl (by rw [hml]; exact hl.1) rfl dX_init_1 (Nat.le_of_ble_eq_true rfl) (Nat.le_of_ble_eq_true rfl) ?_
  refine W.eq (g2 := F0 m 4 ls []) rfl ?_
  refine lv_aload_n hx hb dX_init_4 rfl (lv_at hl 0 rfl) ?_
  refine lv_iconst (v := 0) hx hb dX_init_5 (by decide) ?_
  refine va_put (D := D) (ci := 4) (v := .int 0) (ty := .boolean) (C := R_X) (T := T_X) (N := 4) hx hb hts in_X ty_X ty_X_ok nm_X_ok hown hK hP hD hS 0 rfl rfl 0 (by decide) (hts _ k1_108) (fun _ h9 => h9) rfl (by decide +kernel) rfl rfl (Nat.le_of_ble_eq_true rfl) dX_init_6 (fun H locs hP hD hS => ?_)
  have hP : va_P D vCl ((h0, .inr (4, [.int 0, .null, .int 0, .int 0])) :: []) H := hP
  have hD : va_D A ((h0, .inr (4, [.int 0, .null, .int 0, .int 0])) :: []) := hD
  refine lv_aload_n hx hb dX_init_9 rfl (lv_at hl 0 rfl) ?_
  refine lv_iconst (v := 4) hx hb dX_init_10 (by decide) ?_
  refine m_newI (N' := 4) hx hb (hts _ k1_93) hK hP hD hS hA (by decide) rfl (by decide) (by decide) (by decide) dX_init_11 (fun q1 H hP hD hS => ?_)
  have hP : va_P D vCl ((h0, .inr (4, [.int 0, .null, .int 0, .int 0])) :: [(q1, .inl (c3.1, 4, .inl (fun _ => 0)))]) H := hP
  have hD : va_D A ((h0, .inr (4, [.int 0, .null, .int 0, .int 0])) :: [(q1, .inl (c3.1, 4, .inl (fun _ => 0)))]) := hD
  refine va_putF (D := D) (ci := 4) (v := .ref q1) (ty := .array .int) (C := R_X) (T := T_X) (N := 4) hx hb hts in_X ty_X ty_X_ok nm_X_ok hown hK hP hD hS 0 rfl rfl 1 (by decide) (hts _ k1_111) (fun _ h9 => h9) rfl hin rfl (by decide +kernel) rfl rfl (Nat.le_of_ble_eq_true rfl) dX_init_13 (fun H locs hP hD hS => ?_)
  have hP : va_P D vCl ((h0, .inr (4, [.int 0, .ref q1, .int 0, .int 0])) :: [(q1, .inl (c3.1, 4, .inl (fun _ => 0)))]) H := hP
  have hD : va_D A ((h0, .inr (4, [.int 0, .ref q1, .int 0, .int 0])) :: [(q1, .inl (c3.1, 4, .inl (fun _ => 0)))]) := hD
  refine lv_aload_n hx hb dX_init_16 rfl (lv_at hl 0 rfl) ?_
  refine lv_iconst (v := 0) hx hb dX_init_17 (by decide) ?_
  refine va_put (D := D) (ci := 4) (v := .int 0) (ty := .int) (C := R_X) (T := T_X) (N := 4) hx hb hts in_X ty_X ty_X_ok nm_X_ok hown hK hP hD hS 0 rfl rfl 2 (by decide) (hts _ k1_115) (fun _ h9 => h9) rfl (by decide +kernel) rfl rfl (Nat.le_of_ble_eq_true rfl) dX_init_18 (fun H locs hP hD hS => ?_)
  have hP : va_P D vCl ((h0, .inr (4, [.int 0, .ref q1, .int 0, .int 0])) :: [(q1, .inl (c3.1, 4, .inl (fun _ => 0)))]) H := hP
  have hD : va_D A ((h0, .inr (4, [.int 0, .ref q1, .int 0, .int 0])) :: [(q1, .inl (c3.1, 4, .inl (fun _ => 0)))]) := hD
  refine lv_aload_n hx hb dX_init_21 rfl (lv_at hl 0 rfl) ?_
  refine lv_iconst (v := 0) hx hb dX_init_22 (by decide) ?_
  refine va_put (D := D) (ci := 4) (v := .int 0) (ty := .int) (C := R_X) (T := T_X) (N := 4) hx hb hts in_X ty_X ty_X_ok nm_X_ok hown hK hP hD hS 0 rfl rfl 3 (by decide) (hts _ k1_118) (fun _ h9 => h9) rfl (by decide +kernel) rfl rfl (Nat.le_of_ble_eq_true rfl) dX_init_23 (fun H locs hP hD hS => ?_)
  have hP : va_P D vCl ((h0, .inr (4, [.int 0, .ref q1, .int 0, .int 0])) :: [(q1, .inl (c3.1, 4, .inl (fun _ => 0)))]) H := hP
  have hD : va_D A ((h0, .inr (4, [.int 0, .ref q1, .int 0, .int 0])) :: [(q1, .inl (c3.1, 4, .inl (fun _ => 0)))]) := hD
  have e9 : ((h0, .inr (4, [.int 0, .ref q1, .int 0, .int 0])) :: [(q1, .inl (c3.1, 4, .inl (fun _ => 0)))]) = m_wb lyX 58 2 ((fun ad k => if k = 58 then h0 else ad k) (fun k => ([h0, q1] : List Nat).getD (k - 58) 0)) c3 mX0 := rfl
  rw [e9] at hP hD
  refine W.widen (k := 1) (n := 4) (by decide) (by decide) ?_
  exact W.vret hx hb hr (fun t ht hW => ⟨⟨(fun k => ([h0, q1] : List Nat).getD (k - 58) 0), rfl, trivial, by rw [ht]; exact hP, hD⟩, hS.F ht⟩) hS.2.2 dX_init_26
abbrev riX_X_41 : Room := { frames := 1, cells := 1, slots := 4, locals := 12 }
set_option maxHeartbeats 4000000 in
set_option maxRecDepth 100000 in
theorem iX_X_41 (l : Launch) (D : va_G) (c3 : ClassId × ClassId × ClassId) (h0 sz : Nat) : mN vCl nwX lyX l D c3 yX_init wX_init riX_X_41 [] h0 sz (.inr (4, [.int 0, .null, .int 0, .int 0])) 41 2 mX0 (fun ad k => if k = 41 then h0 else ad k) := by
  refine Met.ofW (cc := bX_init) (maxL := 1) (ret := none) (by decide) rfl ?_
  intro p e s m args below meth c s₁ B hml hv
  obtain ⟨rfl, hsz, hP, ⟨hK, hO⟩, hN⟩ := hv
  have hN := And.intro nestX hN
  have hx := B.exec
  have hb := B.bytes
  have hr := B.returns
  have hts := fun (w : Cond) (h : w ∈ wA) => atoms_spec (ws := wX_init) B.pre w (List.mem_cons_of_mem _ h)
  have hown : s.vm.findClass R_X = some m.cls := findClass_of_methodNamed B.named
  have hlocks := B.notSynchronized
  have hin : meth.name = "<init>" := (name_of_methodNamed B.named B.method).1
  subst hsz
  have hD : va_D (va_A [(h0, .inr (4, [.int 0, .null, .int 0, .int 0]))] s.heap.size) [(h0, .inr (4, [.int 0, .null, .int 0, .int 0]))] := m_one (Or.inl ⟨0, _, rfl⟩)
  generalize hAe : va_A [(h0, .inr (4, [.int 0, .null, .int 0, .int 0]))] s.heap.size = A at hD ⊢
  have hA : ∀ q : Nat, s.heap.size ≤ q → A q := fun q h => by rw [← hAe]; exact Or.inr h
  have hS : va_S A s.heap s.heap [] := va_S.rf
  have hP : va_P D vCl ((h0, .inr (4, [.int 0, .null, .int 0, .int 0])) :: []) s.heap := hP
  have hl := lv_entry ([.ref h0]) (n := 1) (Nat.le_of_ble_eq_true rfl)
  rw [lg_entry_eq]
  generalize (lg_sl ([.ref h0]) ++ List.replicate (1 - (lg_sl ([.ref h0])).length) Slot.unset).toArray = ls at hl ⊢
  have hl : lv_has ls 1 [(0, .ref h0)] := hl
  refine lv_aload_n hx hb dX_init_0 rfl (lv_at hl 0 rfl) ?_
  refine W.objInit hx hb hown (hts _ k1_107) (hts _ k1_16) (hts _ kc_object) rfl (by rw [hml]; exact hl.1) rfl dX_init_1 (Nat.le_of_ble_eq_true rfl) (Nat.le_of_ble_eq_true rfl) ?_
  refine W.eq (g2 := F0 m 4 ls []) rfl ?_
  refine lv_aload_n hx hb dX_init_4 rfl (lv_at hl 0 rfl) ?_
  refine lv_iconst (v := 0) hx hb dX_init_5 (by decide) ?_
  refine va_put (D := D) (ci := 4) (v := .int 0) (ty := .boolean) (C := R_X) (T := T_X) (N := 4) hx hb hts in_X ty_X ty_X_ok nm_X_ok hown hK hP hD hS 0 rfl rfl 0 (by decide) (hts _ k1_108) (fun _ h9 => h9) rfl (by decide +kernel) rfl rfl (Nat.le_of_ble_eq_true rfl) dX_init_6 (fun H locs hP hD hS => ?_)
  have hP : va_P D vCl ((h0, .inr (4, [.int 0, .null, .int 0, .int 0])) :: []) H := hP
  have hD : va_D A ((h0, .inr (4, [.int 0, .null, .int 0, .int 0])) :: []) := hD
  refine lv_aload_n hx hb dX_init_9 rfl (lv_at hl 0 rfl) ?_
  refine lv_iconst (v := 4) hx hb dX_init_10 (by decide) ?_
  refine m_newI (N' := 4) hx hb (hts _ k1_93) hK hP hD hS hA (by decide) rfl (by decide) (by decide) (by decide) dX_init_11 (fun q1 H hP hD hS => ?_)
  have hP : va_P D vCl ((h0, .inr (4, [.int 0, .null, .int 0, .int 0])) :: [(q1, .inl (c3.1, 4, .inl (fun _ => 0)))]) H := hP
  have hD : va_D A ((h0, .inr (4, [.int 0, .null, .int 0, .int 0])) :: [(q1, .inl (c3.1, 4, .inl (fun _ => 0)))]) := hD
  refine va_putF (D := D) (ci := 4) (v := .ref q1) (ty := .array .int) (C := R_X) (T := T_X) (N := 4) hx hb hts in_X ty_X ty_X_ok nm_X_ok hown hK hP hD hS 0 rfl rfl 1 (by decide) (hts _ k1_111) (fun _ h9 => h9) rfl hin rfl (by decide +kernel) rfl rfl (Nat.le_of_ble_eq_true rfl) dX_init_13 (fun H locs hP hD hS => ?_)
  have hP : va_P D vCl ((h0, .inr (4, [.int 0, .ref q1, .int 0, .int 0])) :: [(q1, .inl (c3.1, 4, .inl (fun _ => 0)))]) H := hP
  have hD : va_D A ((h0, .inr (4, [.int 0, .ref q1, .int 0, .int 0])) :: [(q1, .inl (c3.1, 4, .inl (fun _ => 0)))]) := hD
  refine lv_aload_n hx hb dX_init_16 rfl (lv_at hl 0 rfl) ?_
  refine lv_iconst (v := 0) hx hb dX_init_17 (by decide) ?_
  refine va_put (D := D) (ci := 4) (v := .int 0) (ty := .int) (C := R_X) (T := T_X) (N := 4) hx hb hts in_X ty_X ty_X_ok nm_X_ok hown hK hP hD hS 0 rfl rfl 2 (by decide) (hts _ k1_115) (fun _ h9 => h9) rfl (by decide +kernel) rfl rfl (Nat.le_of_ble_eq_true rfl) dX_init_18 (fun H locs hP hD hS => ?_)
  have hP : va_P D vCl ((h0, .inr (4, [.int 0, .ref q1, .int 0, .int 0])) :: [(q1, .inl (c3.1, 4, .inl (fun _ => 0)))]) H := hP
  have hD : va_D A ((h0, .inr (4, [.int 0, .ref q1, .int 0, .int 0])) :: [(q1, .inl (c3.1, 4, .inl (fun _ => 0)))]) := hD
  refine lv_aload_n hx hb dX_init_21 rfl (lv_at hl 0 rfl) ?_
  refine lv_iconst (v := 0) hx hb dX_init_22 (by decide) ?_
  refine va_put (D := D) (ci := 4) (v := .int 0) (ty := .int) (C := R_X) (T := T_X) (N := 4) hx hb hts in_X ty_X ty_X_ok nm_X_ok hown hK hP hD hS 0 rfl rfl 3 (by decide) (hts _ k1_118) (fun _ h9 => h9) rfl (by decide +kernel) rfl rfl (Nat.le_of_ble_eq_true rfl) dX_init_23 (fun H locs hP hD hS => ?_)
  have hP : va_P D vCl ((h0, .inr (4, [.int 0, .ref q1, .int 0, .int 0])) :: [(q1, .inl (c3.1, 4, .inl (fun _ => 0)))]) H := hP
  have hD : va_D A ((h0, .inr (4, [.int 0, .ref q1, .int 0, .int 0])) :: [(q1, .inl (c3.1, 4, .inl (fun _ => 0)))]) := hD
  have e9 : ((h0, .inr (4, [.int 0, .ref q1, .int 0, .int 0])) :: [(q1, .inl (c3.1, 4, .inl (fun _ => 0)))]) = m_wb lyX 41 2 ((fun ad k => if k = 41 then h0 else ad k) (fun k => ([h0, q1] : List Nat).getD (k - 41) 0)) c3 mX0 := rfl
  rw [e9] at hP hD
  refine W.widen (k := 1) (n := 4) (by decide) (by decide) ?_
  exact W.vret hx hb hr (fun t ht hW => ⟨⟨(fun k => ([h0, q1] : List Nat).getD (k - 41) 0), rfl, trivial, by rw [ht]; exact hP, hD⟩, hS.F ht⟩) hS.2.2 dX_init_26
abbrev riX_X_39 : Room := { frames := 1, cells := 1, slots := 4, locals := 12 }
set_option maxHeartbeats 4000000 in
set_option maxRecDepth 100000 in
theorem iX_X_39 (l : Launch) (D : va_G) (c3 : ClassId × ClassId × ClassId) (h0 sz : Nat) : mN vCl nwX lyX l D c3 yX_init wX_init riX_X_39 [] h0 sz (.inr (4, [.int 0, .null, .int 0, .int 0])) 39 2 mX0 (fun ad k => if k = 39 then h0 else ad k) := by
  refine Met.ofW (cc := bX_init) (maxL := 1) (ret := none) (by decide) rfl ?_
  intro p e s m args below meth c s₁ B hml hv
  obtain ⟨rfl, hsz, hP, ⟨hK, hO⟩, hN⟩ := hv
  have hN := And.intro nestX hN
  have hx := B.exec
  have hb := B.bytes
  have hr := B.returns
  have hts := fun (w : Cond) (h : w ∈ wA) => atoms_spec (ws := wX_init) B.pre w (List.mem_cons_of_mem _ h)
  have hown : s.vm.findClass R_X = some m.cls := findClass_of_methodNamed B.named
  have hlocks := B.notSynchronized
  have hin : meth.name = "<init>" := (name_of_methodNamed B.named B.method).1
  subst hsz
  have hD : va_D (va_A [(h0, .inr (4, [.int 0, .null, .int 0, .int 0]))] s.heap.size) [(h0, .inr (4, [.int 0, .null, .int 0, .int 0]))] := m_one (Or.inl ⟨0, _, rfl⟩)
  generalize hAe : va_A [(h0, .inr (4, [.int 0, .null, .int 0, .int 0]))] s.heap.size = A at hD ⊢
  have hA : ∀ q : Nat, s.heap.size ≤ q → A q := fun q h => by rw [← hAe]; exact Or.inr h
  have hS : va_S A s.heap s.heap [] := va_S.rf
  have hP : va_P D vCl ((h0, .inr (4, [.int 0, .null, .int 0, .int 0])) :: []) s.heap := hP
  have hl := lv_entry ([.ref h0]) (n := 1) (Nat.le_of_ble_eq_true rfl)
  rw [lg_entry_eq]
  generalize (lg_sl ([.ref h0]) ++ List.replicate (1 - (lg_sl ([.ref h0])).length) Slot.unset).toArray = ls at hl ⊢
  have hl : lv_has ls 1 [(0, .ref h0)] := hl
  refine lv_aload_n hx hb dX_init_0 rfl (lv_at hl 0 rfl) ?_
  refine W.objInit hx hb hown (hts _ k1_107) (hts _ k1_16) (hts _ kc_object) rfl (by rw [hml]; exact hl.1) rfl dX_init_1 (Nat.le_of_ble_eq_true rfl) (Nat.le_of_ble_eq_true rfl) ?_
  refine W.eq (g2 := F0 m 4 ls []) rfl ?_
  refine lv_aload_n hx hb dX_init_4 rfl (lv_at hl 0 rfl) ?_
  refine lv_iconst (v := 0) hx hb dX_init_5 (by decide) ?_
  refine va_put (D := D) (ci := 4) (v := .int 0) (ty := .boolean) (C := R_X) (T := T_X) (N := 4) hx hb hts in_X ty_X ty_X_ok nm_X_ok hown hK hP hD hS 0 rfl rfl 0 (by decide) (hts _ k1_108) (fun _ h9 => h9) rfl (by decide +kernel) rfl rfl (Nat.le_of_ble_eq_true rfl) dX_init_6 (fun H locs hP hD hS => ?_)
  have hP : va_P D vCl ((h0, .inr (4, [.int 0, .null, .int 0, .int 0])) :: []) H := hP
  have hD : va_D A ((h0, .inr (4, [.int 0, .null, .int 0, .int 0])) :: []) := hD
  refine lv_aload_n hx hb dX_init_9 rfl (lv_at hl 0 rfl) ?_
  refine lv_iconst (v := 4) hx hb dX_init_10 (by decide) ?_
  refine m_newI (N' := 4) hx hb (hts _ k1_93) hK hP hD hS hA (by decide) rfl (by decide) (by decide) (by decide) dX_init_11 (fun q1 H hP hD hS => ?_)
  have hP : va_P D vCl ((h0, .inr (4, [.int 0, .null, .int 0, .int 0])) :: [(q1, .inl (c3.1, 4, .inl (fun _ => 0)))]) H := hP
  have hD : va_D A ((h0, .inr (4, [.int 0, .null, .int 0, .int 0])) :: [(q1, .inl (c3.1, 4, .inl (fun _ => 0)))]) := hD
  refine va_putF (D := D) (ci := 4) (v := .ref q1) (ty := .array .int) (C := R_X) (T := T_X) (N := 4) hx hb hts in_X ty_X ty_X_ok nm_X_ok hown hK hP hD hS 0 rfl rfl 1 (by decide) (hts _ k1_111) (fun _ h9 => h9) rfl hin rfl (by decide +kernel) rfl rfl (Nat.le_of_ble_eq_true rfl) dX_init_13 (fun H locs hP hD hS => ?_)
  have hP : va_P D vCl ((h0, .inr (4, [.int 0, .ref q1, .int 0, .int 0])) :: [(q1, .inl (c3.1, 4, .inl (fun _ => 0)))]) H := hP
  have hD : va_D A ((h0, .inr (4, [.int 0, .ref q1, .int 0, .int 0])) :: [(q1, .inl (c3.1, 4, .inl (fun _ => 0)))]) := hD
  refine lv_aload_n hx hb dX_init_16 rfl (lv_at hl 0 rfl) ?_
  refine lv_iconst (v := 0) hx hb dX_init_17 (by decide) ?_
  refine va_put (D := D) (ci := 4) (v := .int 0) (ty := .int) (C := R_X) (T := T_X) (N := 4) hx hb hts in_X ty_X ty_X_ok nm_X_ok hown hK hP hD hS 0 rfl rfl 2 (by decide) (hts _ k1_115) (fun _ h9 => h9) rfl (by decide +kernel) rfl rfl (Nat.le_of_ble_eq_true rfl) dX_init_18 (fun H locs hP hD hS => ?_)
  have hP : va_P D vCl ((h0, .inr (4, [.int 0, .ref q1, .int 0, .int 0])) :: [(q1, .inl (c3.1, 4, .inl (fun _ => 0)))]) H := hP
  have hD : va_D A ((h0, .inr (4, [.int 0, .ref q1, .int 0, .int 0])) :: [(q1, .inl (c3.1, 4, .inl (fun _ => 0)))]) := hD
  refine lv_aload_n hx hb dX_init_21 rfl (lv_at hl 0 rfl) ?_
  refine lv_iconst (v := 0) hx hb dX_init_22 (by decide) ?_
  refine va_put (D := D) (ci := 4) (v := .int 0) (ty := .int) (C := R_X) (T := T_X) (N := 4) hx hb hts in_X ty_X ty_X_ok nm_X_ok hown hK hP hD hS 0 rfl rfl 3 (by decide) (hts _ k1_118) (fun _ h9 => h9) rfl (by decide +kernel) rfl rfl (Nat.le_of_ble_eq_true rfl) dX_init_23 (fun H locs hP hD hS => ?_)
  have hP : va_P D vCl ((h0, .inr (4, [.int 0, .ref q1, .int 0, .int 0])) :: [(q1, .inl (c3.1, 4, .inl (fun _ => 0)))]) H := hP
  have hD : va_D A ((h0, .inr (4, [.int 0, .ref q1, .int 0, .int 0])) :: [(q1, .inl (c3.1, 4, .inl (fun _ => 0)))]) := hD
  have e9 : ((h0, .inr (4, [.int 0, .ref q1, .int 0, .int 0])) :: [(q1, .inl (c3.1, 4, .inl (fun _ => 0)))]) = m_wb lyX 39 2 ((fun ad k => if k = 39 then h0 else ad k) (fun k => ([h0, q1] : List Nat).getD (k - 39) 0)) c3 mX0 := rfl
  rw [e9] at hP hD
  refine W.widen (k := 1) (n := 4) (by decide) (by decide) ?_
  exact W.vret hx hb hr (fun t ht hW => ⟨⟨(fun k => ([h0, q1] : List Nat).getD (k - 39) 0), rfl, trivial, by rw [ht]; exact hP, hD⟩, hS.F ht⟩) hS.2.2 dX_init_26
