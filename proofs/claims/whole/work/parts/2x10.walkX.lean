abbrev rmG_test : Room := { frames := 3, cells := 0, slots := 0, locals := 69 }
set_option maxHeartbeats 4000000 in
set_option maxRecDepth 100000 in
theorem cG_test (l : Launch) (D : va_G) (ad : Nat → Nat) (c3 : ClassId × ClassId × ClassId) (M : mMem) (x1 : Int32) (x2 : Int32)  {r : Int32} {M' : mMem} (hf : fG_test M x1 x2 = some (r, M')) : kIX l D ad c3 yG_test wG_test rmG_test [.ref (ad 0), .int x1, .int x2] M r M' := by
  refine m_oI (cc := bG_test) (maxL := 4) (ty := .int) (own := R_G) nestX (by decide) rfl (Nat.le_of_ble_eq_true rfl) rfl (fun p e s m args below meth c Q hx hb hml hown hts hK hN hret ls hZ hl => ?_)
  have hl : lv_has ls 4 [(0, .ref (ad 0)), (1, .int x1), (2, .int x2)] := hl
  unfold fG_test at hf
  refine lv_aload_n hx hb dG_test_0 rfl (lv_at hl 0 rfl) ?_
  refine m_getR (k' := 1) hx hb hts in_G hown hK hZ (by decide) rfl rfl 0 (by decide) (hts _ k2_8) (fun _ h9 => h9) rfl dG_test_1 ?_
  refine lv_iload_n hx hb dG_test_4 rfl (lv_at hl 1 rfl) ?_
  obtain ⟨r_1, hc, hf⟩ := m_b1x hf
  refine m_ci (va_runV (As := [.int x1]) (rest := []) ⟨hx, hb, hml, hown, hts⟩ (cP_hasSieve l D ad c3 M x1 hc) (cwV 1 hts (gV k2_59 k2_60 k2_61 k1_2 kc_P_hasSieve) rfl rfl rfl (by decide +kernel) ⟨by decide, by decide⟩) (m_preV hK hN hZ (by decide) rfl rfl) rfl rfl hl.1 rfl (lv_room (Nat.le_of_ble_eq_true rfl)) dG_test_5 ⟨Nat.zero_le _, Nat.zero_le _⟩) hZ (fun H locs hZ => ?_)
  refine lv_if_eq (tgt := 34) hx hb dG_test_8 (by decide) (fun c_2 => ?_) (fun c_2 => ?_)
  · have hf := m_t hf c_2
    refine lv_iconst (v := (-1)) hx hb dG_test_34 (by decide) ?_
    exact hret _ _ _ _ _ _ hf rfl hZ dG_test_35
  · have hf := m_f hf c_2
    refine lv_iload_n hx hb dG_test_11 rfl (lv_at hl 2 rfl) ?_
    refine lv_iconst (v := 0) hx hb dG_test_12 (by decide) ?_
    refine lv_sipush (v := 1000) hx hb dG_test_13 (by decide) ?_
    obtain ⟨r_3, hc, hf⟩ := m_b1x hf
    refine m_ci (va_runS (As := [.int x2, .int 0, .int 1000]) (rest := []) ⟨hx, hb, hml, hown, hts⟩ (cG_within l D ad c3 M x2 0 1000 hc) (cwS 3 hts (gS9 k2_68 k2_69 k1_1 kc_G_within) rfl rfl rfl (by decide +kernel) ⟨by decide, by decide⟩) (m_preS hK hN hZ) rfl rfl hl.1 rfl (lv_room (Nat.le_of_ble_eq_true rfl)) dG_test_16 ⟨Nat.zero_le _, Nat.zero_le _⟩) hZ (fun H locs hZ => ?_)
    refine lv_if_eq (tgt := 34) hx hb dG_test_19 (by decide) (fun c_4 => ?_) (fun c_4 => ?_)
    · have hf := m_t hf c_4
      refine lv_iconst (v := (-1)) hx hb dG_test_34 (by decide) ?_
      exact hret _ _ _ _ _ _ hf rfl hZ dG_test_35
    · have hf := m_f hf c_4
      refine lv_aload_n hx hb dG_test_22 rfl (lv_at hl 0 rfl) ?_
      refine m_getR (k' := 71) hx hb hts in_G hown hK hZ (by decide) rfl rfl 6 (by decide) (hts _ k2_14) (fun _ h9 => h9) rfl dG_test_23 ?_
      refine m_get hx hb hts in_L hown hK hZ (by decide) rfl rfl 0 (by decide) (hts _ k1_222) (fun _ h9 => h9) rfl dG_test_26 ?_
      refine lv_bipush (v := 100) hx hb dG_test_29 (by decide) ?_
      refine lv_icmp_lt (tgt := 36) hx hb dG_test_31 (by decide) (fun c_5 => ?_) (fun c_5 => ?_)
      · have hf := m_t hf c_5
        refine lv_aload_n hx hb dG_test_36 rfl (lv_at hl 0 rfl) ?_
        refine m_getR (k' := 71) hx hb hts in_G hown hK hZ (by decide) rfl rfl 6 (by decide) (hts _ k2_14) (fun _ h9 => h9) rfl dG_test_37 ?_
        refine lv_iload_n hx hb dG_test_40 rfl (lv_at hl 1 rfl) ?_
        refine lv_iload_n hx hb dG_test_41 rfl (lv_at hl 2 rfl) ?_
        obtain ⟨M_6, hc, hf⟩ := m_b1x hf
        refine m_cv (va_runV (As := [.int x1, .int x2]) (rest := []) ⟨hx, hb, hml, hown, hts⟩ (cL_add l D ad c3 M x1 x2 hc) (cwV 2 hts (gV k3_2 k3_3 k3_4 k1_7 kc_L_add) rfl rfl rfl (by decide +kernel) ⟨by decide, by decide⟩) (m_preV hK hN hZ (by decide) rfl rfl) rfl rfl hl.1 rfl (lv_room (Nat.le_of_ble_eq_true rfl)) dG_test_42 ⟨Nat.zero_le _, Nat.zero_le _⟩) hZ (fun H locs hZ => ?_)
        refine lv_aload_n hx hb dG_test_45 rfl (lv_at hl 0 rfl) ?_
        refine lv_iload_n hx hb dG_test_46 rfl (lv_at hl 1 rfl) ?_
        refine lv_iload_n hx hb dG_test_47 rfl (lv_at hl 2 rfl) ?_
        obtain ⟨r_7, hc, hf⟩ := m_b1x hf
        refine m_ci (va_runV (As := [.int x1, .int x2]) (rest := []) ⟨hx, hb, hml, hown, hts⟩ (cG_firstRule l D ad c3 M_6 x1 x2 hc) (cwV 2 hts (gV k3_6 k3_8 kp_10 k1_1 kc_G_firstRule) rfl rfl rfl (by decide +kernel) ⟨by decide, by decide⟩) (m_preV hK hN hZ (by decide) rfl rfl) rfl rfl hl.1 rfl (lv_room (Nat.le_of_ble_eq_true rfl)) dG_test_48 ⟨Nat.zero_le _, Nat.zero_le _⟩) hZ (fun H locs hZ => ?_)
        refine lv_istore_n (lv' := [(3, .int r_7), (0, .ref (ad 0)), (1, .int x1), (2, .int x2)]) hx hb dG_test_51 rfl hl (by decide) rfl (fun ls hl => ?_)
        refine lv_iload_n hx hb dG_test_52 rfl (lv_at hl 0 rfl) ?_
        refine lv_if_eq (tgt := 65) hx hb dG_test_53 (by decide) (fun c_8 => ?_) (fun c_8 => ?_)
        · have hf := m_t hf c_8
          refine lv_iload_n hx hb dG_test_65 rfl (lv_at hl 0 rfl) ?_
          exact hret _ _ _ _ _ _ hf rfl hZ dG_test_66
        · have hf := m_f hf c_8
          refine lv_aload_n hx hb dG_test_56 rfl (lv_at hl 1 rfl) ?_
          refine m_getR (k' := 71) hx hb hts in_G hown hK hZ (by decide) rfl rfl 6 (by decide) (hts _ k2_14) (fun _ h9 => h9) rfl dG_test_57 ?_
          refine lv_iload_n hx hb dG_test_60 rfl (lv_at hl 2 rfl) ?_
          refine lv_iload_n hx hb dG_test_61 rfl (lv_at hl 0 rfl) ?_
          obtain ⟨M_9, hc, hf⟩ := m_b1x hf
          refine m_cv (va_runV (As := [.int x1, .int r_7]) (rest := []) ⟨hx, hb, hml, hown, hts⟩ (cL_addFired l D ad c3 M_6 x1 r_7 hc) (cwV 2 hts (gV k3_21 k3_22 k3_23 k1_7 kc_L_addFired) rfl rfl rfl (by decide +kernel) ⟨by decide, by decide⟩) (m_preV hK hN hZ (by decide) rfl rfl) rfl rfl hl.1 rfl (lv_room (Nat.le_of_ble_eq_true rfl)) dG_test_62 ⟨Nat.zero_le _, Nat.zero_le _⟩) hZ (fun H locs hZ => ?_)
          refine lv_iload_n hx hb dG_test_65 rfl (lv_at hl 0 rfl) ?_
          exact hret _ _ _ _ _ _ hf rfl hZ dG_test_66
      · have hf := m_f hf c_5
        refine lv_iconst (v := (-1)) hx hb dG_test_34 (by decide) ?_
        exact hret _ _ _ _ _ _ hf rfl hZ dG_test_35
abbrev rmG_fired : Room := { frames := 0, cells := 0, slots := 0, locals := 0 }
set_option maxHeartbeats 4000000 in
set_option maxRecDepth 100000 in
theorem cG_fired (l : Launch) (D : va_G) (ad : Nat → Nat) (c3 : ClassId × ClassId × ClassId) (M : mMem) (x1 : Int32) (x2 : Int32)  {r : Int32} (hf : fG_fired M x1 x2 = some r) : kPX l D ad c3 yG_fired wG_fired rmG_fired [.ref (ad 0), .int x1, .int x2] M r := by
  refine m_oP (cc := bG_fired) (maxL := 3) (ty := .int) (own := R_G) nestX (by decide) rfl (Nat.le_of_ble_eq_true rfl) rfl (fun p e s m args below meth c Q hx hb hml hown hts hK hN hret ls hZ hl => ?_)
  have hl : lv_has ls 3 [(0, .ref (ad 0)), (1, .int x1), (2, .int x2)] := hl
  unfold fG_fired at hf
  refine lv_iload_n hx hb dG_fired_0 rfl (lv_at hl 1 rfl) ?_
  refine lv_if_lt (tgt := 15) hx hb dG_fired_1 (by decide) (fun c_1 => ?_) (fun c_1 => ?_)
  · have hf := m_t hf c_1
    refine lv_iconst (v := (-1)) hx hb dG_fired_15 (by decide) ?_
    exact hret _ _ _ _ _ (fun _ _ => 0) hf rfl hZ dG_fired_16
  · have hf := m_f hf c_1
    refine lv_iload_n hx hb dG_fired_4 rfl (lv_at hl 1 rfl) ?_
    refine lv_aload_n hx hb dG_fired_5 rfl (lv_at hl 0 rfl) ?_
    refine m_getR (k' := 71) hx hb hts in_G hown hK hZ (by decide) rfl rfl 6 (by decide) (hts _ k2_14) (fun _ h9 => h9) rfl dG_fired_6 ?_
    refine m_get hx hb hts in_L hown hK hZ (by decide) rfl rfl 3 (by decide) (hts _ k1_226) (fun _ h9 => h9) rfl dG_fired_9 ?_
    refine lv_icmp_lt (tgt := 17) hx hb dG_fired_12 (by decide) (fun c_2 => ?_) (fun c_2 => ?_)
    · have hf := m_t hf c_2
      refine lv_iload_n hx hb dG_fired_17 rfl (lv_at hl 2 rfl) ?_
      by_cases c_3 : x2 = 0
      · have hf := m_t hf c_3
        refine lv_tableIn (tgt := 44) hx hb dG_fired_18 (by rw [c_3]; decide) (by rw [c_3]; decide) (by rw [c_3]; rfl) (by decide) ?_
        refine lv_aload_n hx hb dG_fired_44 rfl (lv_at hl 0 rfl) ?_
        refine m_getR (k' := 71) hx hb hts in_G hown hK hZ (by decide) rfl rfl 6 (by decide) (hts _ k2_14) (fun _ h9 => h9) rfl dG_fired_45 ?_
        refine m_getR (k' := 80) hx hb hts in_L hown hK hZ (by decide) rfl rfl 4 (by decide) (hts _ k1_228) (fun _ h9 => h9) rfl dG_fired_48 ?_
        refine lv_iload_n hx hb dG_fired_51 rfl (lv_at hl 1 rfl) ?_
        obtain ⟨h_inb_x1_100, hf⟩ := m_gx hf
        refine m_iald hx hb hK hZ (by decide) rfl h_inb_x1_100 dG_fired_52 ?_
        exact hret _ _ _ _ _ (fun _ _ => 0) hf rfl hZ dG_fired_53
      have hf := m_f hf c_3
      by_cases c_4 : x2 = 1
      · have hf := m_t hf c_4
        refine lv_tableIn (tgt := 54) hx hb dG_fired_18 (by rw [c_4]; decide) (by rw [c_4]; decide) (by rw [c_4]; rfl) (by decide) ?_
        refine lv_aload_n hx hb dG_fired_54 rfl (lv_at hl 0 rfl) ?_
        refine m_getR (k' := 71) hx hb hts in_G hown hK hZ (by decide) rfl rfl 6 (by decide) (hts _ k2_14) (fun _ h9 => h9) rfl dG_fired_55 ?_
        refine m_getR (k' := 81) hx hb hts in_L hown hK hZ (by decide) rfl rfl 5 (by decide) (hts _ k1_230) (fun _ h9 => h9) rfl dG_fired_58 ?_
        refine lv_iload_n hx hb dG_fired_61 rfl (lv_at hl 1 rfl) ?_
        obtain ⟨h_inb_x1_100, hf⟩ := m_gx hf
        refine m_iald hx hb hK hZ (by decide) rfl h_inb_x1_100 dG_fired_62 ?_
        exact hret _ _ _ _ _ (fun _ _ => 0) hf rfl hZ dG_fired_63
      have hf := m_f hf c_4
      by_cases c_5 : x2 = 2
      · have hf := m_t hf c_5
        refine lv_tableIn (tgt := 64) hx hb dG_fired_18 (by rw [c_5]; decide) (by rw [c_5]; decide) (by rw [c_5]; rfl) (by decide) ?_
        refine lv_aload_n hx hb dG_fired_64 rfl (lv_at hl 0 rfl) ?_
        refine m_getR (k' := 71) hx hb hts in_G hown hK hZ (by decide) rfl rfl 6 (by decide) (hts _ k2_14) (fun _ h9 => h9) rfl dG_fired_65 ?_
        refine m_getR (k' := 82) hx hb hts in_L hown hK hZ (by decide) rfl rfl 6 (by decide) (hts _ k1_232) (fun _ h9 => h9) rfl dG_fired_68 ?_
        refine lv_iload_n hx hb dG_fired_71 rfl (lv_at hl 1 rfl) ?_
        obtain ⟨h_inb_x1_100, hf⟩ := m_gx hf
        refine m_iald hx hb hK hZ (by decide) rfl h_inb_x1_100 dG_fired_72 ?_
        exact hret _ _ _ _ _ (fun _ _ => 0) hf rfl hZ dG_fired_73
      have hf := m_f hf c_5
      refine lv_tableOut (tgt := 74) hx hb dG_fired_18 (m_sw0_2 c_3 c_4 c_5) (by decide) ?_
      refine lv_iconst (v := (-1)) hx hb dG_fired_74 (by decide) ?_
      exact hret _ _ _ _ _ (fun _ _ => 0) hf rfl hZ dG_fired_75
    · have hf := m_f hf c_2
      refine lv_iconst (v := (-1)) hx hb dG_fired_15 (by decide) ?_
      exact hret _ _ _ _ _ (fun _ _ => 0) hf rfl hZ dG_fired_16
abbrev rmG_count : Room := { frames := 11, cells := 0, slots := 0, locals := 299 }
set_option maxHeartbeats 4000000 in
set_option maxRecDepth 100000 in
theorem cG_count (l : Launch) (D : va_G) (ad : Nat → Nat) (c3 : ClassId × ClassId × ClassId) (M : mMem) (x1 : Int32)  {r : Int32} {M' : mMem} (hf : fG_count M x1 = some (r, M')) : kIX l D ad c3 yG_count wG_count rmG_count [.ref (ad 0), .int x1] M r M' := by
  refine m_oI (cc := bG_count) (maxL := 2) (ty := .int) (own := R_G) nestX (by decide) rfl (Nat.le_of_ble_eq_true rfl) rfl (fun p e s m args below meth c Q hx hb hml hown hts hK hN hret ls hZ hl => ?_)
  have hl : lv_has ls 2 [(0, .ref (ad 0)), (1, .int x1)] := hl
  unfold fG_count at hf
  refine lv_iload_n hx hb dG_count_0 rfl (lv_at hl 1 rfl) ?_
  by_cases c_1 : x1 = 0
  · have hf := m_t hf c_1
    refine lv_tableIn (tgt := 40) hx hb dG_count_1 (by rw [c_1]; decide) (by rw [c_1]; decide) (by rw [c_1]; rfl) (by decide) ?_
    refine lv_aload_n hx hb dG_count_40 rfl (lv_at hl 0 rfl) ?_
    refine m_getR (k' := 1) hx hb hts in_G hown hK hZ (by decide) rfl rfl 0 (by decide) (hts _ k2_8) (fun _ h9 => h9) rfl dG_count_41 ?_
    refine m_get hx hb hts in_P hown hK hZ (by decide) rfl rfl 0 (by decide) (hts _ k1_28) (fun _ h9 => h9) rfl dG_count_44 ?_
    exact hret _ _ _ _ _ _ hf rfl hZ dG_count_47
  have hf := m_f hf c_1
  by_cases c_2 : x1 = 1
  · have hf := m_t hf c_2
    refine lv_tableIn (tgt := 48) hx hb dG_count_1 (by rw [c_2]; decide) (by rw [c_2]; decide) (by rw [c_2]; rfl) (by decide) ?_
    refine lv_aload_n hx hb dG_count_48 rfl (lv_at hl 0 rfl) ?_
    refine m_getR (k' := 1) hx hb hts in_G hown hK hZ (by decide) rfl rfl 0 (by decide) (hts _ k2_8) (fun _ h9 => h9) rfl dG_count_49 ?_
    refine m_get hx hb hts in_P hown hK hZ (by decide) rfl rfl 1 (by decide) (hts _ k1_31) (fun _ h9 => h9) rfl dG_count_52 ?_
    exact hret _ _ _ _ _ _ hf rfl hZ dG_count_55
  have hf := m_f hf c_2
  by_cases c_3 : x1 = 2
  · have hf := m_t hf c_3
    refine lv_tableIn (tgt := 56) hx hb dG_count_1 (by rw [c_3]; decide) (by rw [c_3]; decide) (by rw [c_3]; rfl) (by decide) ?_
    refine lv_aload_n hx hb dG_count_56 rfl (lv_at hl 0 rfl) ?_
    refine m_getR (k' := 71) hx hb hts in_G hown hK hZ (by decide) rfl rfl 6 (by decide) (hts _ k2_14) (fun _ h9 => h9) rfl dG_count_57 ?_
    refine m_get hx hb hts in_L hown hK hZ (by decide) rfl rfl 0 (by decide) (hts _ k1_222) (fun _ h9 => h9) rfl dG_count_60 ?_
    exact hret _ _ _ _ _ _ hf rfl hZ dG_count_63
  have hf := m_f hf c_3
  by_cases c_4 : x1 = 3
  · have hf := m_t hf c_4
    refine lv_tableIn (tgt := 64) hx hb dG_count_1 (by rw [c_4]; decide) (by rw [c_4]; decide) (by rw [c_4]; rfl) (by decide) ?_
    refine lv_aload_n hx hb dG_count_64 rfl (lv_at hl 0 rfl) ?_
    refine m_getR (k' := 71) hx hb hts in_G hown hK hZ (by decide) rfl rfl 6 (by decide) (hts _ k2_14) (fun _ h9 => h9) rfl dG_count_65 ?_
    refine m_get hx hb hts in_L hown hK hZ (by decide) rfl rfl 3 (by decide) (hts _ k1_226) (fun _ h9 => h9) rfl dG_count_68 ?_
    exact hret _ _ _ _ _ _ hf rfl hZ dG_count_71
  have hf := m_f hf c_4
  by_cases c_5 : x1 = 4
  · have hf := m_t hf c_5
    refine lv_tableIn (tgt := 72) hx hb dG_count_1 (by rw [c_5]; decide) (by rw [c_5]; decide) (by rw [c_5]; rfl) (by decide) ?_
    refine lv_aload_n hx hb dG_count_72 rfl (lv_at hl 0 rfl) ?_
    obtain ⟨M_6, hc, hf⟩ := m_b1x hf
    refine m_cv (va_runV (As := []) (rest := []) ⟨hx, hb, hml, hown, hts⟩ (cG_searchOnce l D ad c3 M hc) (cwV 0 hts (gV k2_140 k2_142 kp_4 k1_1 kc_G_searchOnce) rfl rfl rfl (by decide +kernel) ⟨by decide, by decide⟩) (m_preV hK hN hZ (by decide) rfl rfl) rfl rfl hl.1 rfl (lv_room (Nat.le_of_ble_eq_true rfl)) dG_count_73 ⟨Nat.zero_le _, Nat.zero_le _⟩) hZ (fun H locs hZ => ?_)
    refine lv_aload_n hx hb dG_count_76 rfl (lv_at hl 0 rfl) ?_
    refine m_getR (k' := 24) hx hb hts in_G hown hK hZ (by decide) rfl rfl 1 (by decide) (hts _ k2_9) (fun _ h9 => h9) rfl dG_count_77 ?_
    refine m_get hx hb hts in_S hown hK hZ (by decide) rfl rfl 9 (by decide) (hts _ k1_143) (fun _ h9 => h9) rfl dG_count_80 ?_
    exact hret _ _ _ _ _ _ hf rfl hZ dG_count_83
  have hf := m_f hf c_5
  by_cases c_7 : x1 = 5
  · have hf := m_t hf c_7
    refine lv_tableIn (tgt := 84) hx hb dG_count_1 (by rw [c_7]; decide) (by rw [c_7]; decide) (by rw [c_7]; rfl) (by decide) ?_
    refine lv_aload_n hx hb dG_count_84 rfl (lv_at hl 0 rfl) ?_
    obtain ⟨M_8, hc, hf⟩ := m_b1x hf
    refine m_cv (va_runV (As := []) (rest := []) ⟨hx, hb, hml, hown, hts⟩ (cG_searchOnce l D ad c3 M hc) (cwV 0 hts (gV k2_140 k2_142 kp_4 k1_1 kc_G_searchOnce) rfl rfl rfl (by decide +kernel) ⟨by decide, by decide⟩) (m_preV hK hN hZ (by decide) rfl rfl) rfl rfl hl.1 rfl (lv_room (Nat.le_of_ble_eq_true rfl)) dG_count_85 ⟨Nat.zero_le _, Nat.zero_le _⟩) hZ (fun H locs hZ => ?_)
    refine lv_aload_n hx hb dG_count_88 rfl (lv_at hl 0 rfl) ?_
    refine m_getR (k' := 24) hx hb hts in_G hown hK hZ (by decide) rfl rfl 1 (by decide) (hts _ k2_9) (fun _ h9 => h9) rfl dG_count_89 ?_
    refine m_get hx hb hts in_S hown hK hZ (by decide) rfl rfl 10 (by decide) (hts _ k1_145) (fun _ h9 => h9) rfl dG_count_92 ?_
    exact hret _ _ _ _ _ _ hf rfl hZ dG_count_95
  have hf := m_f hf c_7
  refine lv_tableOut (tgt := 96) hx hb dG_count_1 (m_sw0_5 c_1 c_2 c_3 c_4 c_5 c_7) (by decide) ?_
  refine lv_iconst (v := (-1)) hx hb dG_count_96 (by decide) ?_
  exact hret _ _ _ _ _ _ hf rfl hZ dG_count_97
