abbrev rmM_passes : Room := { frames := 1, cells := 0, slots := 0, locals := 22 }
set_option maxHeartbeats 4000000 in
set_option maxRecDepth 100000 in
theorem cM_passes (l : Launch) (D : va_G) (ad : Nat → Nat) (c3 : ClassId × ClassId × ClassId) (M : mMem) (x1 : Int32) (x2 : Int32) (x3 : Int32) (x4 : Int32)  {r : Int32} {M' : mMem} (hf : fM_passes M x1 x2 x3 x4 = some (r, M')) : kIM l D ad c3 yM_passes wM_passes rmM_passes [.ref (ad 0), .int x1, .int x2, .int x3, .int x4] M r M' := by
  refine m_oI (cc := bM_passes) (maxL := 5) (ty := .boolean) (own := R_M) nestM (by decide) rfl (Nat.le_of_ble_eq_true rfl) rfl (fun p e s m args below meth c Q hx hb hml hown hts hK hN hret ls hZ hl => ?_)
  have hl : lv_has ls 5 [(0, .ref (ad 0)), (1, .int x1), (2, .int x2), (3, .int x3), (4, .int x4)] := hl
  unfold fM_passes at hf
  refine lv_aload_n hx hb dM_passes_0 rfl (lv_at hl 0 rfl) ?_
  refine lv_iload_n hx hb dM_passes_1 rfl (lv_at hl 1 rfl) ?_
  obtain ⟨r_1, hc, hf⟩ := m_b1x hf
  refine m_ci (va_runV (As := [.int x1]) (rest := []) ⟨hx, hb, hml, hown, hts⟩ (cM_isStock l D ad c3 M x1 hc) (cwV 1 hts (gV k3_182 k3_184 kp_13 k1_8 kc_M_isStock) rfl rfl rfl (by decide +kernel) ⟨by decide, by decide⟩) (m_preV hK hN hZ (by decide) rfl rfl) rfl rfl hl.1 rfl (lv_room (Nat.le_of_ble_eq_true rfl)) dM_passes_2 ⟨Nat.zero_le _, Nat.zero_le _⟩) hZ (fun H locs hZ => ?_)
  refine lv_if_eq (tgt := 39) hx hb dM_passes_5 (by decide) (fun c_2 => ?_) (fun c_2 => ?_)
  · have hf := m_t hf c_2
    refine lv_iconst (v := 0) hx hb dM_passes_39 (by decide) ?_
    exact hret _ _ _ _ _ _ hf rfl hZ dM_passes_40
  · have hf := m_f hf c_2
    refine lv_aload_n hx hb dM_passes_8 rfl (lv_at hl 0 rfl) ?_
    refine lv_iload_n hx hb dM_passes_9 rfl (lv_at hl 2 rfl) ?_
    obtain ⟨r_3, hc, hf⟩ := m_b1x hf
    refine m_ci (va_runV (As := [.int x2]) (rest := []) ⟨hx, hb, hml, hown, hts⟩ (cM_isSieve l D ad c3 M x2 hc) (cwV 1 hts (gV k3_166 k3_168 kp_12 k1_8 kc_M_isSieve) rfl rfl rfl (by decide +kernel) ⟨by decide, by decide⟩) (m_preV hK hN hZ (by decide) rfl rfl) rfl rfl hl.1 rfl (lv_room (Nat.le_of_ble_eq_true rfl)) dM_passes_10 ⟨Nat.zero_le _, Nat.zero_le _⟩) hZ (fun H locs hZ => ?_)
    refine lv_if_eq (tgt := 39) hx hb dM_passes_13 (by decide) (fun c_4 => ?_) (fun c_4 => ?_)
    · have hf := m_t hf c_4
      refine lv_iconst (v := 0) hx hb dM_passes_39 (by decide) ?_
      exact hret _ _ _ _ _ _ hf rfl hZ dM_passes_40
    · have hf := m_f hf c_4
      refine lv_iload_n hx hb dM_passes_16 rfl (lv_at hl 3 rfl) ?_
      refine lv_iconst (v := 0) hx hb dM_passes_17 (by decide) ?_
      refine lv_sipush (v := 1000) hx hb dM_passes_18 (by decide) ?_
      obtain ⟨r_5, hc, hf⟩ := m_b1x hf
      refine m_ci (va_runS (As := [.int x3, .int 0, .int 1000]) (rest := []) ⟨hx, hb, hml, hown, hts⟩ (cM_within l D ad c3 M x3 0 1000 hc) (cwS 3 hts (gS9 k3_175 k3_176 k1_8 kc_M_within) rfl rfl rfl (by decide +kernel) ⟨by decide, by decide⟩) (m_preS hK hN hZ) rfl rfl hl.1 rfl (lv_room (Nat.le_of_ble_eq_true rfl)) dM_passes_21 ⟨Nat.zero_le _, Nat.zero_le _⟩) hZ (fun H locs hZ => ?_)
      refine lv_if_eq (tgt := 39) hx hb dM_passes_24 (by decide) (fun c_6 => ?_) (fun c_6 => ?_)
      · have hf := m_t hf c_6
        refine lv_iconst (v := 0) hx hb dM_passes_39 (by decide) ?_
        exact hret _ _ _ _ _ _ hf rfl hZ dM_passes_40
      · have hf := m_f hf c_6
        refine lv_iload hx hb dM_passes_27 (lv_at hl 4 rfl) ?_
        refine lv_iconst (v := 0) hx hb dM_passes_29 (by decide) ?_
        refine lv_sipush (v := 300) hx hb dM_passes_30 (by decide) ?_
        obtain ⟨r_7, hc, hf⟩ := m_b1x hf
        refine m_ci (va_runS (As := [.int x4, .int 0, .int 300]) (rest := []) ⟨hx, hb, hml, hown, hts⟩ (cM_within l D ad c3 M x4 0 300 hc) (cwS 3 hts (gS9 k3_175 k3_176 k1_8 kc_M_within) rfl rfl rfl (by decide +kernel) ⟨by decide, by decide⟩) (m_preS hK hN hZ) rfl rfl hl.1 rfl (lv_room (Nat.le_of_ble_eq_true rfl)) dM_passes_33 ⟨Nat.zero_le _, Nat.zero_le _⟩) hZ (fun H locs hZ => ?_)
        refine lv_if_ne (tgt := 41) hx hb dM_passes_36 (by decide) (fun c_8 => ?_) (fun c_8 => ?_)
        · have hf := m_f hf c_8
          refine lv_aload_n hx hb dM_passes_41 rfl (lv_at hl 0 rfl) ?_
          refine m_getR (k' := 8) hx hb hts in_M hown hK hZ (by decide) rfl rfl 9 (by decide) (hts _ k3_48) (fun _ h9 => h9) rfl dM_passes_42 ?_
          refine lv_bipush (v := 6) hx hb dM_passes_45 (by decide) ?_
          refine lv_iload_n hx hb dM_passes_47 rfl (lv_at hl 1 rfl) ?_
          refine lv_imul hx hb dM_passes_48 ?_
          refine lv_iload_n hx hb dM_passes_49 rfl (lv_at hl 2 rfl) ?_
          refine lv_iadd hx hb dM_passes_50 ?_
          refine lv_iload_n hx hb dM_passes_51 rfl (lv_at hl 3 rfl) ?_
          obtain ⟨h_9, hf⟩ := m_gx hf
          obtain ⟨M_10, eM_10, hf⟩ := m_lx hf
          refine m_iast hx hb hK hZ (by decide) rfl h_9 dM_passes_52 eM_10 (fun H locs hZ => ?_)
          refine lv_aload_n hx hb dM_passes_53 rfl (lv_at hl 0 rfl) ?_
          refine m_getR (k' := 9) hx hb hts in_M hown hK hZ (by decide) rfl rfl 10 (by decide) (hts _ k3_49) (fun _ h9 => h9) rfl dM_passes_54 ?_
          refine lv_bipush (v := 6) hx hb dM_passes_57 (by decide) ?_
          refine lv_iload_n hx hb dM_passes_59 rfl (lv_at hl 1 rfl) ?_
          refine lv_imul hx hb dM_passes_60 ?_
          refine lv_iload_n hx hb dM_passes_61 rfl (lv_at hl 2 rfl) ?_
          refine lv_iadd hx hb dM_passes_62 ?_
          refine lv_iload hx hb dM_passes_63 (lv_at hl 4 rfl) ?_
          obtain ⟨M_11, eM_11, hf⟩ := m_lx hf
          refine m_iast hx hb hK hZ (by decide) rfl h_9 dM_passes_65 eM_11 (fun H locs hZ => ?_)
          refine lv_aload_n hx hb dM_passes_66 rfl (lv_at hl 0 rfl) ?_
          obtain ⟨M_12, hc, hf⟩ := m_b1x hf
          refine m_cv (va_runV (As := []) (rest := []) ⟨hx, hb, hml, hown, hts⟩ (cM_changed l D ad c3 M_11 hc) (cwV 0 hts (gV k3_158 k3_160 kp_11 k1_8 kc_M_changed) rfl rfl rfl (by decide +kernel) ⟨by decide, by decide⟩) (m_preV hK hN hZ (by decide) rfl rfl) rfl rfl hl.1 rfl (lv_room (Nat.le_of_ble_eq_true rfl)) dM_passes_67 ⟨Nat.zero_le _, Nat.zero_le _⟩) hZ (fun H locs hZ => ?_)
          refine lv_iconst (v := 1) hx hb dM_passes_70 (by decide) ?_
          exact hret _ _ _ _ _ _ hf rfl hZ dM_passes_71
        · have hf := m_t hf c_8
          refine lv_iconst (v := 0) hx hb dM_passes_39 (by decide) ?_
          exact hret _ _ _ _ _ _ hf rfl hZ dM_passes_40
abbrev rmM_cap : Room := { frames := 1, cells := 0, slots := 0, locals := 22 }
set_option maxHeartbeats 4000000 in
set_option maxRecDepth 100000 in
theorem cM_cap (l : Launch) (D : va_G) (ad : Nat → Nat) (c3 : ClassId × ClassId × ClassId) (M : mMem) (x1 : Int32)  {r : Int32} {M' : mMem} (hf : fM_cap M x1 = some (r, M')) : kIM l D ad c3 yM_cap wM_cap rmM_cap [.ref (ad 0), .int x1] M r M' := by
  refine m_oI (cc := bM_cap) (maxL := 3) (ty := .int) (own := R_M) nestM (by decide) rfl (Nat.le_of_ble_eq_true rfl) rfl (fun p e s m args below meth c Q hx hb hml hown hts hK hN hret ls hZ hl => ?_)
  have hl : lv_has ls 3 [(0, .ref (ad 0)), (1, .int x1)] := hl
  unfold fM_cap at hf
  refine lv_iload_n hx hb dM_cap_0 rfl (lv_at hl 1 rfl) ?_
  refine lv_iconst (v := 0) hx hb dM_cap_1 (by decide) ?_
  refine lv_bipush (v := 100) hx hb dM_cap_2 (by decide) ?_
  obtain ⟨r_1, hc, hf⟩ := m_b1x hf
  refine m_ci (va_runS (As := [.int x1, .int 0, .int 100]) (rest := []) ⟨hx, hb, hml, hown, hts⟩ (cM_within l D ad c3 M x1 0 100 hc) (cwS 3 hts (gS9 k3_175 k3_176 k1_8 kc_M_within) rfl rfl rfl (by decide +kernel) ⟨by decide, by decide⟩) (m_preS hK hN hZ) rfl rfl hl.1 rfl (lv_room (Nat.le_of_ble_eq_true rfl)) dM_cap_4 ⟨Nat.zero_le _, Nat.zero_le _⟩) hZ (fun H locs hZ => ?_)
  refine lv_if_ne (tgt := 12) hx hb dM_cap_7 (by decide) (fun c_2 => ?_) (fun c_2 => ?_)
  · have hf := m_f hf c_2
    refine lv_aload_n hx hb dM_cap_12 rfl (lv_at hl 0 rfl) ?_
    refine m_get hx hb hts in_M hown hK hZ (by decide) rfl rfl 11 (by decide) (hts _ k3_50) (fun _ h9 => h9) rfl dM_cap_13 ?_
    obtain ⟨x2_3, ex2_3, hf⟩ := m_lx hf
    refine m_topi ex2_3 ?_
    refine lv_istore_n (lv' := [(2, .int x2_3), (0, .ref (ad 0)), (1, .int x1)]) hx hb dM_cap_16 rfl hl (by decide) rfl (fun ls hl => ?_)
    refine lv_aload_n hx hb dM_cap_17 rfl (lv_at hl 1 rfl) ?_
    refine lv_iload_n hx hb dM_cap_18 rfl (lv_at hl 2 rfl) ?_
    obtain ⟨M_4, eM_4, hf⟩ := m_lx hf
    refine m_put (ty := .int) hx hb hts in_M ⟨ty_M_ok, nm_M_ok⟩ hown hK hZ (by decide) rfl rfl 11 (by decide) (hts _ k3_50) (fun _ h9 => h9) rfl (by decide +kernel) rfl rfl rfl dM_cap_19 eM_4 (fun H locs hZ => ?_)
    refine lv_aload_n hx hb dM_cap_22 rfl (lv_at hl 1 rfl) ?_
    obtain ⟨M_5, hc, hf⟩ := m_b1x hf
    refine m_cv (va_runV (As := []) (rest := []) ⟨hx, hb, hml, hown, hts⟩ (cM_changed l D ad c3 M_4 hc) (cwV 0 hts (gV k3_158 k3_160 kp_11 k1_8 kc_M_changed) rfl rfl rfl (by decide +kernel) ⟨by decide, by decide⟩) (m_preV hK hN hZ (by decide) rfl rfl) rfl rfl hl.1 rfl (lv_room (Nat.le_of_ble_eq_true rfl)) dM_cap_23 ⟨Nat.zero_le _, Nat.zero_le _⟩) hZ (fun H locs hZ => ?_)
    refine lv_iload_n hx hb dM_cap_26 rfl (lv_at hl 0 rfl) ?_
    exact hret _ _ _ _ _ _ hf rfl hZ dM_cap_27
  · have hf := m_t hf c_2
    refine lv_iconst (v := (-1)) hx hb dM_cap_10 (by decide) ?_
    exact hret _ _ _ _ _ _ hf rfl hZ dM_cap_11
abbrev rmM_step : Room := { frames := 1, cells := 0, slots := 0, locals := 20 }
set_option maxHeartbeats 4000000 in
set_option maxRecDepth 100000 in
theorem cM_step (l : Launch) (D : va_G) (ad : Nat → Nat) (c3 : ClassId × ClassId × ClassId) (M : mMem) (x1 : Int32)  {r : Int32} {M' : mMem} (hf : fM_step M x1 = some (r, M')) : kIM l D ad c3 yM_step wM_step rmM_step [.ref (ad 0), .int x1] M r M' := by
  refine m_oI (cc := bM_step) (maxL := 4) (ty := .int) (own := R_M) nestM (by decide) rfl (Nat.le_of_ble_eq_true rfl) rfl (fun p e s m args below meth c Q hx hb hml hown hts hK hN hret ls hZ hl => ?_)
  have hl : lv_has ls 4 [(0, .ref (ad 0)), (1, .int x1)] := hl
  unfold fM_step at hf
  have B22 : ∀ (M : mMem) (s0 : Int32), fM_step_B22 x1 M s0 = some (r, M') → ∀ (H : Heap) (locs : List Loc) (ls : Array Slot), zM D ad c3 s H locs M → lv_has ls 4 [(0, .ref (ad 0)), (1, .int x1)] → W p l e rmM_step s m args below meth c H locs 0 0 Q (F0 m 22 ls [.int s0]) := by
    intro M s0 hf H locs ls hZ hl
    unfold fM_step_B22 at hf
    refine lv_istore_n (lv' := [(2, .int s0), (0, .ref (ad 0)), (1, .int x1)]) hx hb dM_step_22 rfl hl (by decide) rfl (fun ls hl => ?_)
    refine lv_iload_n hx hb dM_step_23 rfl (lv_at hl 0 rfl) ?_
    refine lv_if_ne (tgt := 29) hx hb dM_step_24 (by decide) (fun c_2 => ?_) (fun c_2 => ?_)
    · have hf := m_f hf c_2
      refine lv_aload_n hx hb dM_step_29 rfl (lv_at hl 1 rfl) ?_
      refine m_get hx hb hts in_M hown hK hZ (by decide) rfl rfl 12 (by decide) (hts _ k3_51) (fun _ h9 => h9) rfl dM_step_30 ?_
      obtain ⟨x3_3, ex3_3, hf⟩ := m_lx hf
      refine m_topi ex3_3 ?_
      refine lv_istore_n (lv' := [(3, .int x3_3), (2, .int s0), (0, .ref (ad 0)), (1, .int x1)]) hx hb dM_step_33 rfl hl (by decide) rfl (fun ls hl => ?_)
      refine lv_aload_n hx hb dM_step_34 rfl (lv_at hl 2 rfl) ?_
      refine lv_iload_n hx hb dM_step_35 rfl (lv_at hl 3 rfl) ?_
      obtain ⟨M_4, eM_4, hf⟩ := m_lx hf
      refine m_put (ty := .int) hx hb hts in_M ⟨ty_M_ok, nm_M_ok⟩ hown hK hZ (by decide) rfl rfl 12 (by decide) (hts _ k3_51) (fun _ h9 => h9) rfl (by decide +kernel) rfl rfl rfl dM_step_36 eM_4 (fun H locs hZ => ?_)
      refine lv_aload_n hx hb dM_step_39 rfl (lv_at hl 2 rfl) ?_
      obtain ⟨M_5, hc, hf⟩ := m_b1x hf
      refine m_cv (va_runV (As := []) (rest := []) ⟨hx, hb, hml, hown, hts⟩ (cM_changed l D ad c3 M_4 hc) (cwV 0 hts (gV k3_158 k3_160 kp_11 k1_8 kc_M_changed) rfl rfl rfl (by decide +kernel) ⟨by decide, by decide⟩) (m_preV hK hN hZ (by decide) rfl rfl) rfl rfl hl.1 rfl (lv_room (Nat.le_of_ble_eq_true rfl)) dM_step_40 ⟨Nat.zero_le _, Nat.zero_le _⟩) hZ (fun H locs hZ => ?_)
      refine lv_iload_n hx hb dM_step_43 rfl (lv_at hl 0 rfl) ?_
      exact hret _ _ _ _ _ _ hf rfl hZ dM_step_44
    · have hf := m_t hf c_2
      refine lv_iconst (v := (-1)) hx hb dM_step_27 (by decide) ?_
      exact hret _ _ _ _ _ _ hf rfl hZ dM_step_28
  have B21 : ∀ (M : mMem), fM_step_B21 x1 M = some (r, M') → ∀ (H : Heap) (locs : List Loc) (ls : Array Slot), zM D ad c3 s H locs M → lv_has ls 4 [(0, .ref (ad 0)), (1, .int x1)] → W p l e rmM_step s m args below meth c H locs 0 0 Q (F0 m 21 ls []) := by
    intro M hf H locs ls hZ hl
    unfold fM_step_B21 at hf
    refine lv_iconst (v := 0) hx hb dM_step_21 (by decide) ?_
    exact B22 M 0 hf _ _ _ hZ (lv_sub hl [0, 1] rfl)
  refine lv_iload_n hx hb dM_step_0 rfl (lv_at hl 1 rfl) ?_
  refine lv_if_le (tgt := 21) hx hb dM_step_1 (by decide) (fun c_1 => ?_) (fun c_1 => ?_)
  · have hf := m_t hf c_1
    exact B21 M hf _ _ _ hZ (lv_sub hl [0, 1] rfl)
  · have hf := m_f hf c_1
    refine lv_iload_n hx hb dM_step_4 rfl (lv_at hl 1 rfl) ?_
    refine lv_bipush (v := 100) hx hb dM_step_5 (by decide) ?_
    refine lv_icmp_gt (tgt := 21) hx hb dM_step_7 (by decide) (fun c_6 => ?_) (fun c_6 => ?_)
    · have hf := m_t hf c_6
      exact B21 M hf _ _ _ hZ (lv_sub hl [0, 1] rfl)
    · have hf := m_f hf c_6
      refine lv_bipush (v := 100) hx hb dM_step_10 (by decide) ?_
      refine lv_iload_n hx hb dM_step_12 rfl (lv_at hl 1 rfl) ?_
      obtain ⟨h_7, hf⟩ := m_gx hf
      refine lv_irem hx hb dM_step_13 h_7 ?_
      refine lv_if_ne (tgt := 21) hx hb dM_step_14 (by decide) (fun c_8 => ?_) (fun c_8 => ?_)
      · have hf := m_f hf c_8
        exact B21 M hf _ _ _ hZ (lv_sub hl [0, 1] rfl)
      · have hf := m_t hf c_8
        refine lv_iconst (v := 1) hx hb dM_step_17 (by decide) ?_
        refine lv_goto (tgt := 22) hx hb dM_step_18 (by decide) ?_
        exact B22 M 1 hf _ _ _ hZ (lv_sub hl [0, 1] rfl)
abbrev rmM_unit : Room := { frames := 1, cells := 0, slots := 0, locals := 22 }
set_option maxHeartbeats 4000000 in
set_option maxRecDepth 100000 in
theorem cM_unit (l : Launch) (D : va_G) (ad : Nat → Nat) (c3 : ClassId × ClassId × ClassId) (M : mMem) (x1 : Int32)  {r : Int32} {M' : mMem} (hf : fM_unit M x1 = some (r, M')) : kIM l D ad c3 yM_unit wM_unit rmM_unit [.ref (ad 0), .int x1] M r M' := by
  refine m_oI (cc := bM_unit) (maxL := 2) (ty := .boolean) (own := R_M) nestM (by decide) rfl (Nat.le_of_ble_eq_true rfl) rfl (fun p e s m args below meth c Q hx hb hml hown hts hK hN hret ls hZ hl => ?_)
  have hl : lv_has ls 2 [(0, .ref (ad 0)), (1, .int x1)] := hl
  unfold fM_unit at hf
  refine lv_iload_n hx hb dM_unit_0 rfl (lv_at hl 1 rfl) ?_
  refine lv_bipush (v := 32) hx hb dM_unit_1 (by decide) ?_
  refine lv_bipush (v := 126) hx hb dM_unit_3 (by decide) ?_
  obtain ⟨r_1, hc, hf⟩ := m_b1x hf
  refine m_ci (va_runS (As := [.int x1, .int 32, .int 126]) (rest := []) ⟨hx, hb, hml, hown, hts⟩ (cM_within l D ad c3 M x1 32 126 hc) (cwS 3 hts (gS9 k3_175 k3_176 k1_8 kc_M_within) rfl rfl rfl (by decide +kernel) ⟨by decide, by decide⟩) (m_preS hK hN hZ) rfl rfl hl.1 rfl (lv_room (Nat.le_of_ble_eq_true rfl)) dM_unit_5 ⟨Nat.zero_le _, Nat.zero_le _⟩) hZ (fun H locs hZ => ?_)
  refine lv_if_eq (tgt := 20) hx hb dM_unit_8 (by decide) (fun c_2 => ?_) (fun c_2 => ?_)
  · have hf := m_t hf c_2
    refine lv_iconst (v := 0) hx hb dM_unit_20 (by decide) ?_
    exact hret _ _ _ _ _ _ hf rfl hZ dM_unit_21
  · have hf := m_f hf c_2
    refine lv_aload_n hx hb dM_unit_11 rfl (lv_at hl 0 rfl) ?_
    refine m_get hx hb hts in_M hown hK hZ (by decide) rfl rfl 13 (by decide) (hts _ k3_52) (fun _ h9 => h9) rfl dM_unit_12 ?_
    refine lv_bipush (v := 60) hx hb dM_unit_15 (by decide) ?_
    refine lv_icmp_ne (tgt := 22) hx hb dM_unit_17 (by decide) (fun c_3 => ?_) (fun c_3 => ?_)
    · have hf := m_f hf c_3
      refine lv_aload_n hx hb dM_unit_22 rfl (lv_at hl 0 rfl) ?_
      refine m_getR (k' := 10) hx hb hts in_M hown hK hZ (by decide) rfl rfl 14 (by decide) (hts _ k3_53) (fun _ h9 => h9) rfl dM_unit_23 ?_
      refine lv_aload_n hx hb dM_unit_26 rfl (lv_at hl 0 rfl) ?_
      refine m_get hx hb hts in_M hown hK hZ (by decide) rfl rfl 13 (by decide) (hts _ k3_52) (fun _ h9 => h9) rfl dM_unit_27 ?_
      refine lv_iload_n hx hb dM_unit_30 rfl (lv_at hl 1 rfl) ?_
      obtain ⟨h_4, hf⟩ := m_gx hf
      obtain ⟨M_5, eM_5, hf⟩ := m_lx hf
      refine m_iast hx hb hK hZ (by decide) rfl h_4 dM_unit_31 eM_5 (fun H locs hZ => ?_)
      refine lv_aload_n hx hb dM_unit_32 rfl (lv_at hl 0 rfl) ?_
      refine lv_dup hx hb dM_unit_33 rfl ?_
      refine m_get hx hb hts in_M hown hK hZ (by decide) rfl rfl 13 (by decide) (hts _ k3_52) (fun _ h9 => h9) rfl dM_unit_34 ?_
      refine lv_iconst (v := 1) hx hb dM_unit_37 (by decide) ?_
      refine lv_iadd hx hb dM_unit_38 ?_
      obtain ⟨M_6, eM_6, hf⟩ := m_lx hf
      refine m_put (ty := .int) hx hb hts in_M ⟨ty_M_ok, nm_M_ok⟩ hown hK hZ (by decide) rfl rfl 13 (by decide) (hts _ k3_52) (fun _ h9 => h9) rfl (by decide +kernel) rfl rfl rfl dM_unit_39 eM_6 (fun H locs hZ => ?_)
      refine lv_iconst (v := 1) hx hb dM_unit_42 (by decide) ?_
      exact hret _ _ _ _ _ _ hf rfl hZ dM_unit_43
    · have hf := m_t hf c_3
      refine lv_iconst (v := 0) hx hb dM_unit_20 (by decide) ?_
      exact hret _ _ _ _ _ _ hf rfl hZ dM_unit_21
abbrev rmM_isDigit : Room := { frames := 0, cells := 0, slots := 0, locals := 0 }
set_option maxHeartbeats 4000000 in
set_option maxRecDepth 100000 in
theorem cM_isDigit (l : Launch) (D : va_G) (ad : Nat → Nat) (c3 : ClassId × ClassId × ClassId) (M : mMem)   {r : Int32} (hf : fM_isDigit M  = some r) : kPM l D ad c3 yM_isDigit wM_isDigit rmM_isDigit [.ref (ad 0)] M r := by
  refine m_oP (cc := bM_isDigit) (maxL := 1) (ty := .boolean) (own := R_M) nestM (by decide) rfl (Nat.le_of_ble_eq_true rfl) rfl (fun p e s m args below meth c Q hx hb hml hown hts hK hN hret ls hZ hl => ?_)
  have hl : lv_has ls 1 [(0, .ref (ad 0))] := hl
  unfold fM_isDigit at hf
  refine lv_aload_n hx hb dM_isDigit_0 rfl (lv_at hl 0 rfl) ?_
  refine m_get hx hb hts in_M hown hK hZ (by decide) rfl rfl 15 (by decide) (hts _ k3_54) (fun _ h9 => h9) rfl dM_isDigit_1 ?_
  refine lv_aload_n hx hb dM_isDigit_4 rfl (lv_at hl 0 rfl) ?_
  refine m_get hx hb hts in_M hown hK hZ (by decide) rfl rfl 13 (by decide) (hts _ k3_52) (fun _ h9 => h9) rfl dM_isDigit_5 ?_
  refine lv_icmp_ge (tgt := 43) hx hb dM_isDigit_8 (by decide) (fun c_1 => ?_) (fun c_1 => ?_)
  · have hf := m_t hf c_1
    refine lv_iconst (v := 0) hx hb dM_isDigit_43 (by decide) ?_
    exact hret _ _ _ _ _ (fun _ _ => 0) hf rfl hZ dM_isDigit_44
  · have hf := m_f hf c_1
    refine lv_aload_n hx hb dM_isDigit_11 rfl (lv_at hl 0 rfl) ?_
    refine m_getR (k' := 10) hx hb hts in_M hown hK hZ (by decide) rfl rfl 14 (by decide) (hts _ k3_53) (fun _ h9 => h9) rfl dM_isDigit_12 ?_
    refine lv_aload_n hx hb dM_isDigit_15 rfl (lv_at hl 0 rfl) ?_
    refine m_get hx hb hts in_M hown hK hZ (by decide) rfl rfl 15 (by decide) (hts _ k3_54) (fun _ h9 => h9) rfl dM_isDigit_16 ?_
    obtain ⟨h_2, hf⟩ := m_gx hf
    refine m_iald hx hb hK hZ (by decide) rfl h_2 dM_isDigit_19 ?_
    refine lv_bipush (v := 48) hx hb dM_isDigit_20 (by decide) ?_
    refine lv_icmp_lt (tgt := 43) hx hb dM_isDigit_22 (by decide) (fun c_3 => ?_) (fun c_3 => ?_)
    · have hf := m_t hf c_3
      refine lv_iconst (v := 0) hx hb dM_isDigit_43 (by decide) ?_
      exact hret _ _ _ _ _ (fun _ _ => 0) hf rfl hZ dM_isDigit_44
    · have hf := m_f hf c_3
      refine lv_aload_n hx hb dM_isDigit_25 rfl (lv_at hl 0 rfl) ?_
      refine m_getR (k' := 10) hx hb hts in_M hown hK hZ (by decide) rfl rfl 14 (by decide) (hts _ k3_53) (fun _ h9 => h9) rfl dM_isDigit_26 ?_
      refine lv_aload_n hx hb dM_isDigit_29 rfl (lv_at hl 0 rfl) ?_
      refine m_get hx hb hts in_M hown hK hZ (by decide) rfl rfl 15 (by decide) (hts _ k3_54) (fun _ h9 => h9) rfl dM_isDigit_30 ?_
      refine m_iald hx hb hK hZ (by decide) rfl h_2 dM_isDigit_33 ?_
      refine lv_bipush (v := 57) hx hb dM_isDigit_34 (by decide) ?_
      refine lv_icmp_gt (tgt := 43) hx hb dM_isDigit_36 (by decide) (fun c_4 => ?_) (fun c_4 => ?_)
      · have hf := m_t hf c_4
        refine lv_iconst (v := 0) hx hb dM_isDigit_43 (by decide) ?_
        exact hret _ _ _ _ _ (fun _ _ => 0) hf rfl hZ dM_isDigit_44
      · have hf := m_f hf c_4
        refine lv_iconst (v := 1) hx hb dM_isDigit_39 (by decide) ?_
        refine lv_goto (tgt := 44) hx hb dM_isDigit_40 (by decide) ?_
        exact hret _ _ _ _ _ (fun _ _ => 0) hf rfl hZ dM_isDigit_44
abbrev rmM_number : Room := { frames := 1, cells := 0, slots := 0, locals := 20 }
set_option maxHeartbeats 4000000 in
set_option maxRecDepth 100000 in
theorem cM_number (l : Launch) (D : va_G) (ad : Nat → Nat) (c3 : ClassId × ClassId × ClassId) (M : mMem)   {r : Int32} {M' : mMem} (hf : fM_number M  = some (r, M')) : kIM l D ad c3 yM_number wM_number rmM_number [.ref (ad 0)] M r M' := by
  refine m_oI (cc := bM_number) (maxL := 3) (ty := .int) (own := R_M) nestM (by decide) rfl (Nat.le_of_ble_eq_true rfl) rfl (fun p e s m args below meth c Q hx hb hml hown hts hK hN hret ls hZ hl => ?_)
  have hl : lv_has ls 3 [(0, .ref (ad 0))] := hl
  unfold fM_number at hf
  have B50 : ∀ (M : mMem) (x1 : Int32) (x2 : Int32), fM_number_B50 M x1 x2 = some (r, M') → ∀ (H : Heap) (locs : List Loc) (ls : Array Slot), zM D ad c3 s H locs M → lv_has ls 3 [(1, .int x1), (2, .int x2)] → W p l e rmM_number s m args below meth c H locs 0 0 Q (F0 m 50 ls []) := by
    intro M x1 x2 hf H locs ls hZ hl
    unfold fM_number_B50 at hf
    refine lv_iload_n hx hb dM_number_50 rfl (lv_at hl 1 rfl) ?_
    refine lv_if_ne (tgt := 58) hx hb dM_number_51 (by decide) (fun c_2 => ?_) (fun c_2 => ?_)
    · have hf := m_f hf c_2
      refine lv_iload_n hx hb dM_number_58 rfl (lv_at hl 0 rfl) ?_
      exact hret _ _ _ _ _ _ hf rfl hZ dM_number_59
    · have hf := m_t hf c_2
      refine lv_iconst (v := (-1)) hx hb dM_number_54 (by decide) ?_
      refine lv_goto (tgt := 59) hx hb dM_number_55 (by decide) ?_
      exact hret _ _ _ _ _ _ hf rfl hZ dM_number_59
  have L4 : ∀ (n4 : Nat) (M : mMem) (x1 : Int32) (x2 : Int32), fM_number_L4 n4 M x1 x2 = some (r, M') → ∀ (H : Heap) (locs : List Loc) (ls : Array Slot), zM D ad c3 s H locs M → lv_has ls 3 [(0, .ref (ad 0)), (1, .int x1), (2, .int x2)] → W p l e rmM_number s m args below meth c H locs 0 0 Q (F0 m 4 ls []) := by
    intro n4
    induction n4 with
    | zero => intro M x1 x2 hf; exact m_none hf
    | succ n4 ih4 =>
      intro M x1 x2 hf H locs ls hZ hl
      rw [fM_number_L4] at hf
      refine lv_iload_n hx hb dM_number_4 rfl (lv_at hl 2 rfl) ?_
      refine lv_iconst (v := 4) hx hb dM_number_5 (by decide) ?_
      refine lv_icmp_ge (tgt := 50) hx hb dM_number_6 (by decide) (fun c_1 => ?_) (fun c_1 => ?_)
      · have hf := m_t hf c_1
        exact B50 M x1 x2 hf _ _ _ hZ (lv_sub hl [1, 2] rfl)
      · have hf := m_f hf c_1
        refine lv_aload_n hx hb dM_number_9 rfl (lv_at hl 0 rfl) ?_
        obtain ⟨r_3, hc, hf⟩ := m_b1x hf
        refine m_ci (va_runV (As := []) (rest := []) ⟨hx, hb, hml, hown, hts⟩ (cM_isDigit l D ad c3 M hc) (cwV 0 hts (gV k3_210 k3_212 kp_16 k1_8 kc_M_isDigit) rfl rfl rfl (by decide +kernel) ⟨by decide, by decide⟩) (m_preV hK hN hZ (by decide) rfl rfl) rfl rfl hl.1 rfl (lv_room (Nat.le_of_ble_eq_true rfl)) dM_number_10 ⟨Nat.zero_le _, Nat.zero_le _⟩) hZ (fun H locs hZ => ?_)
        refine lv_if_eq (tgt := 50) hx hb dM_number_13 (by decide) (fun c_4 => ?_) (fun c_4 => ?_)
        · have hf := m_t hf c_4
          exact B50 M x1 x2 hf _ _ _ hZ (lv_sub hl [1, 2] rfl)
        · have hf := m_f hf c_4
          refine lv_bipush (v := 10) hx hb dM_number_16 (by decide) ?_
          refine lv_iload_n hx hb dM_number_18 rfl (lv_at hl 1 rfl) ?_
          refine lv_imul hx hb dM_number_19 ?_
          refine lv_aload_n hx hb dM_number_20 rfl (lv_at hl 0 rfl) ?_
          refine m_getR (k' := 10) hx hb hts in_M hown hK hZ (by decide) rfl rfl 14 (by decide) (hts _ k3_53) (fun _ h9 => h9) rfl dM_number_21 ?_
          refine lv_aload_n hx hb dM_number_24 rfl (lv_at hl 0 rfl) ?_
          refine m_get hx hb hts in_M hown hK hZ (by decide) rfl rfl 15 (by decide) (hts _ k3_54) (fun _ h9 => h9) rfl dM_number_25 ?_
          obtain ⟨h_5, hf⟩ := m_gx hf
          refine m_iald hx hb hK hZ (by decide) rfl h_5 dM_number_28 ?_
          refine lv_iadd hx hb dM_number_29 ?_
          refine lv_bipush (v := 48) hx hb dM_number_30 (by decide) ?_
          refine lv_isub hx hb dM_number_32 ?_
          obtain ⟨x1_6, ex1_6, hf⟩ := m_lx hf
          refine m_topi ex1_6 ?_
          refine lv_istore_n (lv' := [(1, .int x1_6), (0, .ref (ad 0)), (2, .int x2)]) hx hb dM_number_33 rfl hl (by decide) rfl (fun ls hl => ?_)
          refine lv_aload_n hx hb dM_number_34 rfl (lv_at hl 1 rfl) ?_
          refine lv_dup hx hb dM_number_35 rfl ?_
          refine m_get hx hb hts in_M hown hK hZ (by decide) rfl rfl 15 (by decide) (hts _ k3_54) (fun _ h9 => h9) rfl dM_number_36 ?_
          refine lv_iconst (v := 1) hx hb dM_number_39 (by decide) ?_
          refine lv_iadd hx hb dM_number_40 ?_
          obtain ⟨M_7, eM_7, hf⟩ := m_lx hf
          refine m_put (ty := .int) hx hb hts in_M ⟨ty_M_ok, nm_M_ok⟩ hown hK hZ (by decide) rfl rfl 15 (by decide) (hts _ k3_54) (fun _ h9 => h9) rfl (by decide +kernel) rfl rfl rfl dM_number_41 eM_7 (fun H locs hZ => ?_)
          obtain ⟨x2_8, ex2_8, hf⟩ := m_lx hf
          refine lv_iinc (v := x2_8) (lv' := [(2, .int x2_8), (1, .int x1_6), (0, .ref (ad 0))]) hx hb dM_number_44 hl (k := 2) rfl (by rw [ex2_8]; rfl) (by decide) rfl (fun ls hl => ?_)
          refine lv_goto (tgt := 4) hx hb dM_number_47 (by decide) ?_
          exact ih4 _ _ _ hf _ _ _ hZ (lv_sub hl [2, 1, 0] rfl)
  refine lv_iconst (v := 0) hx hb dM_number_0 (by decide) ?_
  refine lv_istore_n (lv' := [(1, .int 0), (0, .ref (ad 0))]) hx hb dM_number_1 rfl hl (by decide) rfl (fun ls hl => ?_)
  refine lv_iconst (v := 0) hx hb dM_number_2 (by decide) ?_
  refine lv_istore_n (lv' := [(2, .int 0), (1, .int 0), (0, .ref (ad 0))]) hx hb dM_number_3 rfl hl (by decide) rfl (fun ls hl => ?_)
  exact L4 128 M 0 0 hf _ _ _ hZ (lv_sub hl [2, 1, 0] rfl)
