abbrev rmG_stock : Room := { frames := 2, cells := 0, slots := 0, locals := 41 }
set_option maxHeartbeats 4000000 in
set_option maxRecDepth 100000 in
theorem cG_stock (l : Launch) (D : va_G) (ad : Nat → Nat) (c3 : ClassId × ClassId × ClassId) (M : mMem) (x1 : Int32) (x2 : Int32) (x3 : Int32) (x4 : Int32)  {r : Int32} {M' : mMem} (hf : fG_stock M x1 x2 x3 x4 = some (r, M')) : kIX l D ad c3 yG_stock wG_stock rmG_stock [.ref (ad 0), .int x1, .int x2, .int x3, .int x4] M r M' := by
  refine m_oI (cc := bG_stock) (maxL := 7) (ty := .int) (own := R_G) nestX (by decide) rfl (Nat.le_of_ble_eq_true rfl) rfl (fun p e s m args below meth c Q hx hb hml hown hts hK hN hret ls hZ hl => ?_)
  have hl : lv_has ls 7 [(0, .ref (ad 0)), (1, .int x1), (2, .int x2), (3, .int x3), (4, .int x4)] := hl
  unfold fG_stock at hf
  have B21 : ∀ (M : mMem) (s0 : Int32), fG_stock_B21 x1 x2 x3 x4 M s0 = some (r, M') → ∀ (H : Heap) (locs : List Loc) (ls : Array Slot), zX D ad c3 s H locs M → lv_has ls 7 [(0, .ref (ad 0)), (1, .int x1), (2, .int x2), (3, .int x3), (4, .int x4)] → W p l e rmG_stock s m args below meth c H locs 0 0 Q (F0 m 21 ls [.int s0]) := by
    intro M s0 hf H locs ls hZ hl
    unfold fG_stock_B21 at hf
    refine lv_istore (lv' := [(5, .int s0), (0, .ref (ad 0)), (1, .int x1), (2, .int x2), (3, .int x3), (4, .int x4)]) hx hb dG_stock_21 hl (by decide) rfl (fun ls hl => ?_)
    refine lv_iload_n hx hb dG_stock_23 rfl (lv_at hl 2 rfl) ?_
    refine lv_iconst (v := 0) hx hb dG_stock_24 (by decide) ?_
    refine lv_ldc (v := 100000) hx hb hown (hts _ k2_67) dG_stock_25 ?_
    obtain ⟨r_2, hc, hf⟩ := m_b1x hf
    refine m_ci (va_runS (As := [.int x1, .int 0, .int 100000]) (rest := []) ⟨hx, hb, hml, hown, hts⟩ (cG_within l D ad c3 M x1 0 100000 hc) (cwS 3 hts (gS9 k2_68 k2_69 k1_1 kc_G_within) rfl rfl rfl (by decide +kernel) ⟨by decide, by decide⟩) (m_preS hK hN hZ) rfl rfl hl.1 rfl (lv_room (Nat.le_of_ble_eq_true rfl)) dG_stock_27 ⟨Nat.zero_le _, Nat.zero_le _⟩) hZ (fun H locs hZ => ?_)
    refine lv_if_eq (tgt := 49) hx hb dG_stock_30 (by decide) (fun c_3 => ?_) (fun c_3 => ?_)
    · have hf := m_t hf c_3
      refine lv_iconst (v := (-1)) hx hb dG_stock_49 (by decide) ?_
      exact hret _ _ _ _ _ _ hf rfl hZ dG_stock_50
    · have hf := m_f hf c_3
      refine lv_iload hx hb dG_stock_33 (lv_at hl 0 rfl) ?_
      refine lv_if_eq (tgt := 49) hx hb dG_stock_35 (by decide) (fun c_4 => ?_) (fun c_4 => ?_)
      · have hf := m_t hf c_4
        refine lv_iconst (v := (-1)) hx hb dG_stock_49 (by decide) ?_
        exact hret _ _ _ _ _ _ hf rfl hZ dG_stock_50
      · have hf := m_f hf c_4
        refine lv_aload_n hx hb dG_stock_38 rfl (lv_at hl 1 rfl) ?_
        refine m_getR (k' := 1) hx hb hts in_G hown hK hZ (by decide) rfl rfl 0 (by decide) (hts _ k2_8) (fun _ h9 => h9) rfl dG_stock_39 ?_
        refine m_get hx hb hts in_P hown hK hZ (by decide) rfl rfl 1 (by decide) (hts _ k1_31) (fun _ h9 => h9) rfl dG_stock_42 ?_
        refine lv_iconst (v := 4) hx hb dG_stock_45 (by decide) ?_
        refine lv_icmp_lt (tgt := 51) hx hb dG_stock_46 (by decide) (fun c_5 => ?_) (fun c_5 => ?_)
        · have hf := m_t hf c_5
          refine lv_aload_n hx hb dG_stock_51 rfl (lv_at hl 1 rfl) ?_
          refine m_getR (k' := 1) hx hb hts in_G hown hK hZ (by decide) rfl rfl 0 (by decide) (hts _ k2_8) (fun _ h9 => h9) rfl dG_stock_52 ?_
          refine m_get hx hb hts in_P hown hK hZ (by decide) rfl rfl 1 (by decide) (hts _ k1_31) (fun _ h9 => h9) rfl dG_stock_55 ?_
          obtain ⟨x6_6, ex6_6, hf⟩ := m_lx hf
          refine m_topi ex6_6 ?_
          refine lv_istore (lv' := [(6, .int x6_6), (5, .int s0), (0, .ref (ad 0)), (1, .int x1), (2, .int x2), (3, .int x3), (4, .int x4)]) hx hb dG_stock_58 hl (by decide) rfl (fun ls hl => ?_)
          refine lv_aload_n hx hb dG_stock_60 rfl (lv_at hl 2 rfl) ?_
          refine m_getR (k' := 1) hx hb hts in_G hown hK hZ (by decide) rfl rfl 0 (by decide) (hts _ k2_8) (fun _ h9 => h9) rfl dG_stock_61 ?_
          refine lv_dup hx hb dG_stock_64 rfl ?_
          refine m_get hx hb hts in_P hown hK hZ (by decide) rfl rfl 1 (by decide) (hts _ k1_31) (fun _ h9 => h9) rfl dG_stock_65 ?_
          refine lv_iconst (v := 1) hx hb dG_stock_68 (by decide) ?_
          refine lv_iadd hx hb dG_stock_69 ?_
          obtain ⟨M_7, eM_7, hf⟩ := m_lx hf
          refine m_put (ty := .int) hx hb hts in_P ⟨ty_P_ok, nm_P_ok⟩ hown hK hZ (by decide) rfl rfl 1 (by decide) (hts _ k1_31) (fun _ h9 => h9) rfl (by decide +kernel) rfl rfl rfl dG_stock_70 eM_7 (fun H locs hZ => ?_)
          refine lv_aload_n hx hb dG_stock_73 rfl (lv_at hl 2 rfl) ?_
          refine m_getR (k' := 1) hx hb hts in_G hown hK hZ (by decide) rfl rfl 0 (by decide) (hts _ k2_8) (fun _ h9 => h9) rfl dG_stock_74 ?_
          refine lv_iload hx hb dG_stock_77 (lv_at hl 0 rfl) ?_
          refine lv_iload_n hx hb dG_stock_79 rfl (lv_at hl 3 rfl) ?_
          refine lv_iload_n hx hb dG_stock_80 rfl (lv_at hl 4 rfl) ?_
          refine lv_iload_n hx hb dG_stock_81 rfl (lv_at hl 5 rfl) ?_
          refine lv_iload hx hb dG_stock_82 (lv_at hl 6 rfl) ?_
          obtain ⟨M_8, hc, hf⟩ := m_b1x hf
          refine m_cv (va_runV (As := [.int x6_6, .int x1, .int x2, .int x3, .int x4]) (rest := []) ⟨hx, hb, hml, hown, hts⟩ (cP_setStock l D ad c3 M_7 x6_6 x1 x2 x3 x4 hc) (cwV 5 hts (gV k2_71 k2_72 k2_73 k1_2 kc_P_setStock) rfl rfl rfl (by decide +kernel) ⟨by decide, by decide⟩) (m_preV hK hN hZ (by decide) rfl rfl) rfl rfl hl.1 rfl (lv_room (Nat.le_of_ble_eq_true rfl)) dG_stock_84 ⟨Nat.zero_le _, Nat.zero_le _⟩) hZ (fun H locs hZ => ?_)
          refine lv_aload_n hx hb dG_stock_87 rfl (lv_at hl 2 rfl) ?_
          obtain ⟨M_9, hc, hf⟩ := m_b1x hf
          refine m_cv (va_runV (As := []) (rest := []) ⟨hx, hb, hml, hown, hts⟩ (cG_forget l D ad c3 M_8 hc) (cwV 0 hts (gV k2_47 k2_49 kp_0 k1_1 kc_G_forget) rfl rfl rfl (by decide +kernel) ⟨by decide, by decide⟩) (m_preV hK hN hZ (by decide) rfl rfl) rfl rfl hl.1 rfl (lv_room (Nat.le_of_ble_eq_true rfl)) dG_stock_88 ⟨Nat.zero_le _, Nat.zero_le _⟩) hZ (fun H locs hZ => ?_)
          refine lv_iload hx hb dG_stock_91 (lv_at hl 0 rfl) ?_
          exact hret _ _ _ _ _ _ hf rfl hZ dG_stock_93
        · have hf := m_f hf c_5
          refine lv_iconst (v := (-1)) hx hb dG_stock_49 (by decide) ?_
          exact hret _ _ _ _ _ _ hf rfl hZ dG_stock_50
  have B20 : ∀ (M : mMem), fG_stock_B20 x1 x2 x3 x4 M = some (r, M') → ∀ (H : Heap) (locs : List Loc) (ls : Array Slot), zX D ad c3 s H locs M → lv_has ls 7 [(0, .ref (ad 0)), (1, .int x1), (2, .int x2), (3, .int x3), (4, .int x4)] → W p l e rmG_stock s m args below meth c H locs 0 0 Q (F0 m 20 ls []) := by
    intro M hf H locs ls hZ hl
    unfold fG_stock_B20 at hf
    refine lv_iconst (v := 0) hx hb dG_stock_20 (by decide) ?_
    exact B21 M 0 hf _ _ _ hZ (lv_sub hl [0, 1, 2, 3, 4] rfl)
  refine lv_iconst (v := 0) hx hb dG_stock_0 (by decide) ?_
  refine lv_iload_n hx hb dG_stock_1 rfl (lv_at hl 2 rfl) ?_
  refine lv_icmp_gt (tgt := 20) hx hb dG_stock_2 (by decide) (fun c_1 => ?_) (fun c_1 => ?_)
  · have hf := m_t hf c_1
    exact B20 M hf _ _ _ hZ (lv_sub hl [0, 1, 2, 3, 4] rfl)
  · have hf := m_f hf c_1
    refine lv_iload_n hx hb dG_stock_5 rfl (lv_at hl 2 rfl) ?_
    refine lv_iload_n hx hb dG_stock_6 rfl (lv_at hl 3 rfl) ?_
    refine lv_icmp_gt (tgt := 20) hx hb dG_stock_7 (by decide) (fun c_10 => ?_) (fun c_10 => ?_)
    · have hf := m_t hf c_10
      exact B20 M hf _ _ _ hZ (lv_sub hl [0, 1, 2, 3, 4] rfl)
    · have hf := m_f hf c_10
      refine lv_iload_n hx hb dG_stock_10 rfl (lv_at hl 3 rfl) ?_
      refine lv_bipush (v := 100) hx hb dG_stock_11 (by decide) ?_
      refine lv_icmp_gt (tgt := 20) hx hb dG_stock_13 (by decide) (fun c_11 => ?_) (fun c_11 => ?_)
      · have hf := m_t hf c_11
        exact B20 M hf _ _ _ hZ (lv_sub hl [0, 1, 2, 3, 4] rfl)
      · have hf := m_f hf c_11
        refine lv_iconst (v := 1) hx hb dG_stock_16 (by decide) ?_
        refine lv_goto (tgt := 21) hx hb dG_stock_17 (by decide) ?_
        exact B21 M 1 hf _ _ _ hZ (lv_sub hl [0, 1, 2, 3, 4] rfl)
abbrev rmP_hasStock : Room := { frames := 0, cells := 0, slots := 0, locals := 0 }
set_option maxHeartbeats 4000000 in
set_option maxRecDepth 100000 in
theorem cP_hasStock (l : Launch) (D : va_G) (ad : Nat → Nat) (c3 : ClassId × ClassId × ClassId) (M : mMem) (x1 : Int32)  {r : Int32} (hf : fP_hasStock M x1 = some r) : kPX l D ad c3 yP_hasStock wP_hasStock rmP_hasStock [.ref (ad 1), .int x1] M r := by
  refine m_oP (cc := bP_hasStock) (maxL := 2) (ty := .boolean) (own := R_P) nestX (by decide) rfl (Nat.le_of_ble_eq_true rfl) rfl (fun p e s m args below meth c Q hx hb hml hown hts hK hN hret ls hZ hl => ?_)
  have hl : lv_has ls 2 [(0, .ref (ad 1)), (1, .int x1)] := hl
  unfold fP_hasStock at hf
  refine lv_iconst (v := 0) hx hb dP_hasStock_0 (by decide) ?_
  refine lv_iload_n hx hb dP_hasStock_1 rfl (lv_at hl 1 rfl) ?_
  refine lv_icmp_gt (tgt := 17) hx hb dP_hasStock_2 (by decide) (fun c_1 => ?_) (fun c_1 => ?_)
  · have hf := m_t hf c_1
    refine lv_iconst (v := 0) hx hb dP_hasStock_17 (by decide) ?_
    exact hret _ _ _ _ _ (fun _ _ => 0) hf rfl hZ dP_hasStock_18
  · have hf := m_f hf c_1
    refine lv_iload_n hx hb dP_hasStock_5 rfl (lv_at hl 1 rfl) ?_
    refine lv_aload_n hx hb dP_hasStock_6 rfl (lv_at hl 0 rfl) ?_
    refine m_get hx hb hts in_P hown hK hZ (by decide) rfl rfl 1 (by decide) (hts _ k1_29) (fun _ h9 => h9) rfl dP_hasStock_7 ?_
    refine lv_icmp_ge (tgt := 17) hx hb dP_hasStock_10 (by decide) (fun c_2 => ?_) (fun c_2 => ?_)
    · have hf := m_t hf c_2
      refine lv_iconst (v := 0) hx hb dP_hasStock_17 (by decide) ?_
      exact hret _ _ _ _ _ (fun _ _ => 0) hf rfl hZ dP_hasStock_18
    · have hf := m_f hf c_2
      refine lv_iconst (v := 1) hx hb dP_hasStock_13 (by decide) ?_
      refine lv_goto (tgt := 18) hx hb dP_hasStock_14 (by decide) ?_
      exact hret _ _ _ _ _ (fun _ _ => 0) hf rfl hZ dP_hasStock_18
abbrev rmP_setPassing : Room := { frames := 1, cells := 0, slots := 0, locals := 24 }
set_option maxHeartbeats 4000000 in
set_option maxRecDepth 100000 in
theorem cP_setPassing (l : Launch) (D : va_G) (ad : Nat → Nat) (c3 : ClassId × ClassId × ClassId) (M : mMem) (x1 : Int32) (x2 : Int32) (x3 : Int32) (x4 : Int32)  {M' : mMem} (hf : fP_setPassing M x1 x2 x3 x4 = some M') : kVX l D ad c3 yP_setPassing wP_setPassing rmP_setPassing [.ref (ad 1), .int x1, .int x2, .int x3, .int x4] M M' := by
  refine m_oV (cc := bP_setPassing) (maxL := 5) (own := R_P) nestX (by decide) rfl (Nat.le_of_ble_eq_true rfl) rfl (fun p e s m args below meth c Q hx hb hml hown hts hK hN hret ls hZ hl => ?_)
  have hl : lv_has ls 5 [(0, .ref (ad 1)), (1, .int x1), (2, .int x2), (3, .int x3), (4, .int x4)] := hl
  unfold fP_setPassing at hf
  refine lv_aload_n hx hb dP_setPassing_0 rfl (lv_at hl 0 rfl) ?_
  refine m_getR (k' := 9) hx hb hts in_P hown hK hZ (by decide) rfl rfl 11 (by decide) (hts _ k1_56) (fun _ h9 => h9) rfl dP_setPassing_1 ?_
  refine lv_iload_n hx hb dP_setPassing_4 rfl (lv_at hl 1 rfl) ?_
  obtain ⟨h_inb_x1_4, hf⟩ := m_gx hf
  refine m_aald hx hb hK hZ (by decide) rfl h_inb_x1_4 dP_setPassing_5 ?_
  refine lv_iload_n hx hb dP_setPassing_6 rfl (lv_at hl 2 rfl) ?_
  refine lv_iload_n hx hb dP_setPassing_7 rfl (lv_at hl 3 rfl) ?_
  obtain ⟨h_inb_x2_6, hf⟩ := m_gx hf
  obtain ⟨M_1, eM_1, hf⟩ := m_lx hf
  refine m_iast hx hb hK hZ (grX_9 _ (m_lt h_inb_x1_4)).2 (grX_9 _ (m_lt h_inb_x1_4)).1 h_inb_x2_6 dP_setPassing_8 eM_1 (fun H locs hZ => ?_)
  refine lv_aload_n hx hb dP_setPassing_9 rfl (lv_at hl 0 rfl) ?_
  refine m_getR (k' := 14) hx hb hts in_P hown hK hZ (by decide) rfl rfl 12 (by decide) (hts _ k1_58) (fun _ h9 => h9) rfl dP_setPassing_10 ?_
  refine lv_iload_n hx hb dP_setPassing_13 rfl (lv_at hl 1 rfl) ?_
  refine m_aald hx hb hK hZ (by decide) rfl h_inb_x1_4 dP_setPassing_14 ?_
  refine lv_iload_n hx hb dP_setPassing_15 rfl (lv_at hl 2 rfl) ?_
  refine lv_iconst (v := 0) hx hb dP_setPassing_16 (by decide) ?_
  refine lv_iload_n hx hb dP_setPassing_17 rfl (lv_at hl 3 rfl) ?_
  refine lv_iload hx hb dP_setPassing_18 (lv_at hl 4 rfl) ?_
  refine lv_isub hx hb dP_setPassing_20 ?_
  refine va_mmax hx hb (hml.trans hl.1.symm) hown (hts _ k2_87) (hts _ k2_88) (hts _ k1_9) (hts _ kc_math_max) (by decide) (Nat.le_of_ble_eq_true rfl) (Nat.zero_le _) (Nat.zero_le _) dP_setPassing_21 ?_
  obtain ⟨M_2, eM_2, hf⟩ := m_lx hf
  refine m_iast hx hb hK hZ (grX_14 _ (m_lt h_inb_x1_4)).2 (grX_14 _ (m_lt h_inb_x1_4)).1 h_inb_x2_6 dP_setPassing_24 eM_2 (fun H locs hZ => ?_)
  refine lv_aload_n hx hb dP_setPassing_25 rfl (lv_at hl 0 rfl) ?_
  refine m_getR (k' := 19) hx hb hts in_P hown hK hZ (by decide) rfl rfl 13 (by decide) (hts _ k1_61) (fun _ h9 => h9) rfl dP_setPassing_26 ?_
  refine lv_iload_n hx hb dP_setPassing_29 rfl (lv_at hl 1 rfl) ?_
  refine m_aald hx hb hK hZ (by decide) rfl h_inb_x1_4 dP_setPassing_30 ?_
  refine lv_iload_n hx hb dP_setPassing_31 rfl (lv_at hl 2 rfl) ?_
  refine lv_sipush (v := 1000) hx hb dP_setPassing_32 (by decide) ?_
  refine lv_iload_n hx hb dP_setPassing_35 rfl (lv_at hl 3 rfl) ?_
  refine lv_iload hx hb dP_setPassing_36 (lv_at hl 4 rfl) ?_
  refine lv_iadd hx hb dP_setPassing_38 ?_
  refine va_mmin hx hb (hml.trans hl.1.symm) hown (hts _ k2_90) (hts _ k2_91) (hts _ k1_9) (hts _ kc_math_min) (by decide) (Nat.le_of_ble_eq_true rfl) (Nat.zero_le _) (Nat.zero_le _) dP_setPassing_39 ?_
  obtain ⟨M_3, eM_3, hf⟩ := m_lx hf
  refine m_iast hx hb hK hZ (grX_19 _ (m_lt h_inb_x1_4)).2 (grX_19 _ (m_lt h_inb_x1_4)).1 h_inb_x2_6 dP_setPassing_42 eM_3 (fun H locs hZ => ?_)
  exact hret _ _ _ _ _ hf hZ dP_setPassing_43
abbrev rmG_passes : Room := { frames := 2, cells := 0, slots := 0, locals := 48 }
set_option maxHeartbeats 4000000 in
set_option maxRecDepth 100000 in
theorem cG_passes (l : Launch) (D : va_G) (ad : Nat → Nat) (c3 : ClassId × ClassId × ClassId) (M : mMem) (x1 : Int32) (x2 : Int32) (x3 : Int32) (x4 : Int32)  {r : Int32} {M' : mMem} (hf : fG_passes M x1 x2 x3 x4 = some (r, M')) : kIX l D ad c3 yG_passes wG_passes rmG_passes [.ref (ad 0), .int x1, .int x2, .int x3, .int x4] M r M' := by
  refine m_oI (cc := bG_passes) (maxL := 5) (ty := .boolean) (own := R_G) nestX (by decide) rfl (Nat.le_of_ble_eq_true rfl) rfl (fun p e s m args below meth c Q hx hb hml hown hts hK hN hret ls hZ hl => ?_)
  have hl : lv_has ls 5 [(0, .ref (ad 0)), (1, .int x1), (2, .int x2), (3, .int x3), (4, .int x4)] := hl
  unfold fG_passes at hf
  refine lv_aload_n hx hb dG_passes_0 rfl (lv_at hl 0 rfl) ?_
  refine m_getR (k' := 1) hx hb hts in_G hown hK hZ (by decide) rfl rfl 0 (by decide) (hts _ k2_8) (fun _ h9 => h9) rfl dG_passes_1 ?_
  refine lv_iload_n hx hb dG_passes_4 rfl (lv_at hl 1 rfl) ?_
  obtain ⟨r_1, hc, hf⟩ := m_b1x hf
  refine m_ci (va_runV (As := [.int x1]) (rest := []) ⟨hx, hb, hml, hown, hts⟩ (cP_hasStock l D ad c3 M x1 hc) (cwV 1 hts (gV k2_79 k2_80 k2_81 k1_2 kc_P_hasStock) rfl rfl rfl (by decide +kernel) ⟨by decide, by decide⟩) (m_preV hK hN hZ (by decide) rfl rfl) rfl rfl hl.1 rfl (lv_room (Nat.le_of_ble_eq_true rfl)) dG_passes_5 ⟨Nat.zero_le _, Nat.zero_le _⟩) hZ (fun H locs hZ => ?_)
  refine lv_if_eq (tgt := 22) hx hb dG_passes_8 (by decide) (fun c_2 => ?_) (fun c_2 => ?_)
  · have hf := m_t hf c_2
    refine lv_iconst (v := 0) hx hb dG_passes_22 (by decide) ?_
    exact hret _ _ _ _ _ _ hf rfl hZ dG_passes_23
  · have hf := m_f hf c_2
    refine lv_aload_n hx hb dG_passes_11 rfl (lv_at hl 0 rfl) ?_
    refine m_getR (k' := 1) hx hb hts in_G hown hK hZ (by decide) rfl rfl 0 (by decide) (hts _ k2_8) (fun _ h9 => h9) rfl dG_passes_12 ?_
    refine lv_iload_n hx hb dG_passes_15 rfl (lv_at hl 2 rfl) ?_
    obtain ⟨r_3, hc, hf⟩ := m_b1x hf
    refine m_ci (va_runV (As := [.int x2]) (rest := []) ⟨hx, hb, hml, hown, hts⟩ (cP_hasSieve l D ad c3 M x2 hc) (cwV 1 hts (gV k2_59 k2_60 k2_61 k1_2 kc_P_hasSieve) rfl rfl rfl (by decide +kernel) ⟨by decide, by decide⟩) (m_preV hK hN hZ (by decide) rfl rfl) rfl rfl hl.1 rfl (lv_room (Nat.le_of_ble_eq_true rfl)) dG_passes_16 ⟨Nat.zero_le _, Nat.zero_le _⟩) hZ (fun H locs hZ => ?_)
    refine lv_if_ne (tgt := 24) hx hb dG_passes_19 (by decide) (fun c_4 => ?_) (fun c_4 => ?_)
    · have hf := m_f hf c_4
      refine lv_iload_n hx hb dG_passes_24 rfl (lv_at hl 3 rfl) ?_
      refine lv_iconst (v := 0) hx hb dG_passes_25 (by decide) ?_
      refine lv_sipush (v := 1000) hx hb dG_passes_26 (by decide) ?_
      obtain ⟨r_5, hc, hf⟩ := m_b1x hf
      refine m_ci (va_runS (As := [.int x3, .int 0, .int 1000]) (rest := []) ⟨hx, hb, hml, hown, hts⟩ (cG_within l D ad c3 M x3 0 1000 hc) (cwS 3 hts (gS9 k2_68 k2_69 k1_1 kc_G_within) rfl rfl rfl (by decide +kernel) ⟨by decide, by decide⟩) (m_preS hK hN hZ) rfl rfl hl.1 rfl (lv_room (Nat.le_of_ble_eq_true rfl)) dG_passes_29 ⟨Nat.zero_le _, Nat.zero_le _⟩) hZ (fun H locs hZ => ?_)
      refine lv_if_eq (tgt := 47) hx hb dG_passes_32 (by decide) (fun c_6 => ?_) (fun c_6 => ?_)
      · have hf := m_t hf c_6
        refine lv_iconst (v := 0) hx hb dG_passes_47 (by decide) ?_
        exact hret _ _ _ _ _ _ hf rfl hZ dG_passes_48
      · have hf := m_f hf c_6
        refine lv_iload hx hb dG_passes_35 (lv_at hl 4 rfl) ?_
        refine lv_iconst (v := 0) hx hb dG_passes_37 (by decide) ?_
        refine lv_sipush (v := 300) hx hb dG_passes_38 (by decide) ?_
        obtain ⟨r_7, hc, hf⟩ := m_b1x hf
        refine m_ci (va_runS (As := [.int x4, .int 0, .int 300]) (rest := []) ⟨hx, hb, hml, hown, hts⟩ (cG_within l D ad c3 M x4 0 300 hc) (cwS 3 hts (gS9 k2_68 k2_69 k1_1 kc_G_within) rfl rfl rfl (by decide +kernel) ⟨by decide, by decide⟩) (m_preS hK hN hZ) rfl rfl hl.1 rfl (lv_room (Nat.le_of_ble_eq_true rfl)) dG_passes_41 ⟨Nat.zero_le _, Nat.zero_le _⟩) hZ (fun H locs hZ => ?_)
        refine lv_if_ne (tgt := 49) hx hb dG_passes_44 (by decide) (fun c_8 => ?_) (fun c_8 => ?_)
        · have hf := m_f hf c_8
          refine lv_aload_n hx hb dG_passes_49 rfl (lv_at hl 0 rfl) ?_
          refine m_getR (k' := 1) hx hb hts in_G hown hK hZ (by decide) rfl rfl 0 (by decide) (hts _ k2_8) (fun _ h9 => h9) rfl dG_passes_50 ?_
          refine lv_iload_n hx hb dG_passes_53 rfl (lv_at hl 1 rfl) ?_
          refine lv_iload_n hx hb dG_passes_54 rfl (lv_at hl 2 rfl) ?_
          refine lv_iload_n hx hb dG_passes_55 rfl (lv_at hl 3 rfl) ?_
          refine lv_iload hx hb dG_passes_56 (lv_at hl 4 rfl) ?_
          obtain ⟨M_9, hc, hf⟩ := m_b1x hf
          refine m_cv (va_runV (As := [.int x1, .int x2, .int x3, .int x4]) (rest := []) ⟨hx, hb, hml, hown, hts⟩ (cP_setPassing l D ad c3 M x1 x2 x3 x4 hc) (cwV 4 hts (gV k2_83 k2_84 k2_85 k1_2 kc_P_setPassing) rfl rfl rfl (by decide +kernel) ⟨by decide, by decide⟩) (m_preV hK hN hZ (by decide) rfl rfl) rfl rfl hl.1 rfl (lv_room (Nat.le_of_ble_eq_true rfl)) dG_passes_58 ⟨Nat.zero_le _, Nat.zero_le _⟩) hZ (fun H locs hZ => ?_)
          refine lv_aload_n hx hb dG_passes_61 rfl (lv_at hl 0 rfl) ?_
          obtain ⟨M_10, hc, hf⟩ := m_b1x hf
          refine m_cv (va_runV (As := []) (rest := []) ⟨hx, hb, hml, hown, hts⟩ (cG_forget l D ad c3 M_9 hc) (cwV 0 hts (gV k2_47 k2_49 kp_0 k1_1 kc_G_forget) rfl rfl rfl (by decide +kernel) ⟨by decide, by decide⟩) (m_preV hK hN hZ (by decide) rfl rfl) rfl rfl hl.1 rfl (lv_room (Nat.le_of_ble_eq_true rfl)) dG_passes_62 ⟨Nat.zero_le _, Nat.zero_le _⟩) hZ (fun H locs hZ => ?_)
          refine lv_iconst (v := 1) hx hb dG_passes_65 (by decide) ?_
          exact hret _ _ _ _ _ _ hf rfl hZ dG_passes_66
        · have hf := m_t hf c_8
          refine lv_iconst (v := 0) hx hb dG_passes_47 (by decide) ?_
          exact hret _ _ _ _ _ _ hf rfl hZ dG_passes_48
    · have hf := m_t hf c_4
      refine lv_iconst (v := 0) hx hb dG_passes_22 (by decide) ?_
      exact hret _ _ _ _ _ _ hf rfl hZ dG_passes_23
abbrev rmG_cap : Room := { frames := 2, cells := 0, slots := 0, locals := 41 }
set_option maxHeartbeats 4000000 in
set_option maxRecDepth 100000 in
theorem cG_cap (l : Launch) (D : va_G) (ad : Nat → Nat) (c3 : ClassId × ClassId × ClassId) (M : mMem) (x1 : Int32)  {r : Int32} {M' : mMem} (hf : fG_cap M x1 = some (r, M')) : kIX l D ad c3 yG_cap wG_cap rmG_cap [.ref (ad 0), .int x1] M r M' := by
  refine m_oI (cc := bG_cap) (maxL := 3) (ty := .int) (own := R_G) nestX (by decide) rfl (Nat.le_of_ble_eq_true rfl) rfl (fun p e s m args below meth c Q hx hb hml hown hts hK hN hret ls hZ hl => ?_)
  have hl : lv_has ls 3 [(0, .ref (ad 0)), (1, .int x1)] := hl
  unfold fG_cap at hf
  refine lv_iload_n hx hb dG_cap_0 rfl (lv_at hl 1 rfl) ?_
  refine lv_iconst (v := 0) hx hb dG_cap_1 (by decide) ?_
  refine lv_bipush (v := 100) hx hb dG_cap_2 (by decide) ?_
  obtain ⟨r_1, hc, hf⟩ := m_b1x hf
  refine m_ci (va_runS (As := [.int x1, .int 0, .int 100]) (rest := []) ⟨hx, hb, hml, hown, hts⟩ (cG_within l D ad c3 M x1 0 100 hc) (cwS 3 hts (gS9 k2_68 k2_69 k1_1 kc_G_within) rfl rfl rfl (by decide +kernel) ⟨by decide, by decide⟩) (m_preS hK hN hZ) rfl rfl hl.1 rfl (lv_room (Nat.le_of_ble_eq_true rfl)) dG_cap_4 ⟨Nat.zero_le _, Nat.zero_le _⟩) hZ (fun H locs hZ => ?_)
  refine lv_if_ne (tgt := 12) hx hb dG_cap_7 (by decide) (fun c_2 => ?_) (fun c_2 => ?_)
  · have hf := m_f hf c_2
    refine lv_aload_n hx hb dG_cap_12 rfl (lv_at hl 0 rfl) ?_
    refine m_getR (k' := 1) hx hb hts in_G hown hK hZ (by decide) rfl rfl 0 (by decide) (hts _ k2_8) (fun _ h9 => h9) rfl dG_cap_13 ?_
    refine m_get hx hb hts in_P hown hK hZ (by decide) rfl rfl 2 (by decide) (hts _ k1_35) (fun _ h9 => h9) rfl dG_cap_16 ?_
    obtain ⟨x2_3, ex2_3, hf⟩ := m_lx hf
    refine m_topi ex2_3 ?_
    refine lv_istore_n (lv' := [(2, .int x2_3), (0, .ref (ad 0)), (1, .int x1)]) hx hb dG_cap_19 rfl hl (by decide) rfl (fun ls hl => ?_)
    refine lv_aload_n hx hb dG_cap_20 rfl (lv_at hl 1 rfl) ?_
    refine m_getR (k' := 1) hx hb hts in_G hown hK hZ (by decide) rfl rfl 0 (by decide) (hts _ k2_8) (fun _ h9 => h9) rfl dG_cap_21 ?_
    refine lv_iload_n hx hb dG_cap_24 rfl (lv_at hl 2 rfl) ?_
    obtain ⟨M_4, eM_4, hf⟩ := m_lx hf
    refine m_put (ty := .int) hx hb hts in_P ⟨ty_P_ok, nm_P_ok⟩ hown hK hZ (by decide) rfl rfl 2 (by decide) (hts _ k1_35) (fun _ h9 => h9) rfl (by decide +kernel) rfl rfl rfl dG_cap_25 eM_4 (fun H locs hZ => ?_)
    refine lv_aload_n hx hb dG_cap_28 rfl (lv_at hl 1 rfl) ?_
    obtain ⟨M_5, hc, hf⟩ := m_b1x hf
    refine m_cv (va_runV (As := []) (rest := []) ⟨hx, hb, hml, hown, hts⟩ (cG_forget l D ad c3 M_4 hc) (cwV 0 hts (gV k2_47 k2_49 kp_0 k1_1 kc_G_forget) rfl rfl rfl (by decide +kernel) ⟨by decide, by decide⟩) (m_preV hK hN hZ (by decide) rfl rfl) rfl rfl hl.1 rfl (lv_room (Nat.le_of_ble_eq_true rfl)) dG_cap_29 ⟨Nat.zero_le _, Nat.zero_le _⟩) hZ (fun H locs hZ => ?_)
    refine lv_iload_n hx hb dG_cap_32 rfl (lv_at hl 0 rfl) ?_
    exact hret _ _ _ _ _ _ hf rfl hZ dG_cap_33
  · have hf := m_t hf c_2
    refine lv_iconst (v := (-1)) hx hb dG_cap_10 (by decide) ?_
    exact hret _ _ _ _ _ _ hf rfl hZ dG_cap_11
abbrev rmG_step : Room := { frames := 2, cells := 0, slots := 0, locals := 41 }
set_option maxHeartbeats 4000000 in
set_option maxRecDepth 100000 in
theorem cG_step (l : Launch) (D : va_G) (ad : Nat → Nat) (c3 : ClassId × ClassId × ClassId) (M : mMem) (x1 : Int32)  {r : Int32} {M' : mMem} (hf : fG_step M x1 = some (r, M')) : kIX l D ad c3 yG_step wG_step rmG_step [.ref (ad 0), .int x1] M r M' := by
  refine m_oI (cc := bG_step) (maxL := 3) (ty := .int) (own := R_G) nestX (by decide) rfl (Nat.le_of_ble_eq_true rfl) rfl (fun p e s m args below meth c Q hx hb hml hown hts hK hN hret ls hZ hl => ?_)
  have hl : lv_has ls 3 [(0, .ref (ad 0)), (1, .int x1)] := hl
  unfold fG_step at hf
  refine lv_iload_n hx hb dG_step_0 rfl (lv_at hl 1 rfl) ?_
  refine lv_iconst (v := 1) hx hb dG_step_1 (by decide) ?_
  refine lv_icmp_lt (tgt := 12) hx hb dG_step_2 (by decide) (fun c_1 => ?_) (fun c_1 => ?_)
  · have hf := m_t hf c_1
    refine lv_iconst (v := (-1)) hx hb dG_step_12 (by decide) ?_
    exact hret _ _ _ _ _ _ hf rfl hZ dG_step_13
  · have hf := m_f hf c_1
    refine lv_bipush (v := 100) hx hb dG_step_5 (by decide) ?_
    refine lv_iload_n hx hb dG_step_7 rfl (lv_at hl 1 rfl) ?_
    obtain ⟨h_2, hf⟩ := m_gx hf
    refine lv_irem hx hb dG_step_8 h_2 ?_
    refine lv_if_eq (tgt := 14) hx hb dG_step_9 (by decide) (fun c_3 => ?_) (fun c_3 => ?_)
    · have hf := m_t hf c_3
      refine lv_aload_n hx hb dG_step_14 rfl (lv_at hl 0 rfl) ?_
      refine m_getR (k' := 1) hx hb hts in_G hown hK hZ (by decide) rfl rfl 0 (by decide) (hts _ k2_8) (fun _ h9 => h9) rfl dG_step_15 ?_
      refine m_get hx hb hts in_P hown hK hZ (by decide) rfl rfl 3 (by decide) (hts _ k1_38) (fun _ h9 => h9) rfl dG_step_18 ?_
      obtain ⟨x2_4, ex2_4, hf⟩ := m_lx hf
      refine m_topi ex2_4 ?_
      refine lv_istore_n (lv' := [(2, .int x2_4), (0, .ref (ad 0)), (1, .int x1)]) hx hb dG_step_21 rfl hl (by decide) rfl (fun ls hl => ?_)
      refine lv_aload_n hx hb dG_step_22 rfl (lv_at hl 1 rfl) ?_
      refine m_getR (k' := 1) hx hb hts in_G hown hK hZ (by decide) rfl rfl 0 (by decide) (hts _ k2_8) (fun _ h9 => h9) rfl dG_step_23 ?_
      refine lv_iload_n hx hb dG_step_26 rfl (lv_at hl 2 rfl) ?_
      obtain ⟨M_5, eM_5, hf⟩ := m_lx hf
      refine m_put (ty := .int) hx hb hts in_P ⟨ty_P_ok, nm_P_ok⟩ hown hK hZ (by decide) rfl rfl 3 (by decide) (hts _ k1_38) (fun _ h9 => h9) rfl (by decide +kernel) rfl rfl rfl dG_step_27 eM_5 (fun H locs hZ => ?_)
      refine lv_aload_n hx hb dG_step_30 rfl (lv_at hl 1 rfl) ?_
      obtain ⟨M_6, hc, hf⟩ := m_b1x hf
      refine m_cv (va_runV (As := []) (rest := []) ⟨hx, hb, hml, hown, hts⟩ (cG_forget l D ad c3 M_5 hc) (cwV 0 hts (gV k2_47 k2_49 kp_0 k1_1 kc_G_forget) rfl rfl rfl (by decide +kernel) ⟨by decide, by decide⟩) (m_preV hK hN hZ (by decide) rfl rfl) rfl rfl hl.1 rfl (lv_room (Nat.le_of_ble_eq_true rfl)) dG_step_31 ⟨Nat.zero_le _, Nat.zero_le _⟩) hZ (fun H locs hZ => ?_)
      refine lv_iload_n hx hb dG_step_34 rfl (lv_at hl 0 rfl) ?_
      exact hret _ _ _ _ _ _ hf rfl hZ dG_step_35
    · have hf := m_f hf c_3
      refine lv_iconst (v := (-1)) hx hb dG_step_12 (by decide) ?_
      exact hret _ _ _ _ _ _ hf rfl hZ dG_step_13
abbrev rmT_collect : Room := { frames := 1, cells := 0, slots := 0, locals := 22 }
set_option maxHeartbeats 4000000 in
set_option maxRecDepth 100000 in
theorem cT_collect (l : Launch) (D : va_G) (ad : Nat → Nat) (c3 : ClassId × ClassId × ClassId) (M : mMem) (x1 : Int32)  {r : Int32} {M' : mMem} (hf : fT_collect M x1 = some (r, M')) : kIX l D ad c3 yT_collect wT_collect rmT_collect [.ref (ad 62), .int x1] M r M' := by
  refine m_oI (cc := bT_collect) (maxL := 2) (ty := .boolean) (own := R_T) nestX (by decide) rfl (Nat.le_of_ble_eq_true rfl) rfl (fun p e s m args below meth c Q hx hb hml hown hts hK hN hret ls hZ hl => ?_)
  have hl : lv_has ls 2 [(0, .ref (ad 62)), (1, .int x1)] := hl
  unfold fT_collect at hf
  refine lv_iload_n hx hb dT_collect_0 rfl (lv_at hl 1 rfl) ?_
  refine lv_bipush (v := 32) hx hb dT_collect_1 (by decide) ?_
  refine lv_bipush (v := 126) hx hb dT_collect_3 (by decide) ?_
  obtain ⟨r_1, hc, hf⟩ := m_b1x hf
  refine m_ci (va_runSN (As := [.int x1, .int 32, .int 126]) (rest := []) ⟨hx, hb, hml, hown, hts⟩ (cG_within l D ad c3 M x1 32 126 hc) ⟨va_cnB 3 hts (gN kc_G_within) rfl rfl rfl (hN.2 _ nk_6) (hts _ k1_1) (by decide +kernel) ⟨by decide, by decide⟩, (hts _ k2_69), trivial⟩ (m_preS hK hN hZ) rfl rfl hl.1 rfl (lv_room (Nat.le_of_ble_eq_true rfl)) dT_collect_5 ⟨Nat.zero_le _, Nat.zero_le _⟩) hZ (fun H locs hZ => ?_)
  refine lv_if_eq (tgt := 20) hx hb dT_collect_8 (by decide) (fun c_2 => ?_) (fun c_2 => ?_)
  · have hf := m_t hf c_2
    refine lv_iconst (v := 0) hx hb dT_collect_20 (by decide) ?_
    exact hret _ _ _ _ _ _ hf rfl hZ dT_collect_21
  · have hf := m_f hf c_2
    refine lv_aload_n hx hb dT_collect_11 rfl (lv_at hl 0 rfl) ?_
    refine m_get hx hb hts in_T hown hK hZ (by decide) rfl rfl 3 (by decide) (hts _ k1_180) (fun _ h9 => h9) rfl dT_collect_12 ?_
    refine lv_bipush (v := 60) hx hb dT_collect_15 (by decide) ?_
    refine lv_icmp_lt (tgt := 22) hx hb dT_collect_17 (by decide) (fun c_3 => ?_) (fun c_3 => ?_)
    · have hf := m_t hf c_3
      refine lv_aload_n hx hb dT_collect_22 rfl (lv_at hl 0 rfl) ?_
      refine m_getR (k' := 65) hx hb hts in_T hown hK hZ (by decide) rfl rfl 2 (by decide) (hts _ k1_179) (fun _ h9 => h9) rfl dT_collect_23 ?_
      refine lv_aload_n hx hb dT_collect_26 rfl (lv_at hl 0 rfl) ?_
      refine m_get hx hb hts in_T hown hK hZ (by decide) rfl rfl 3 (by decide) (hts _ k1_180) (fun _ h9 => h9) rfl dT_collect_27 ?_
      refine lv_iload_n hx hb dT_collect_30 rfl (lv_at hl 1 rfl) ?_
      obtain ⟨h_4, hf⟩ := m_gx hf
      obtain ⟨M_5, eM_5, hf⟩ := m_lx hf
      refine m_iast hx hb hK hZ (by decide) rfl h_4 dT_collect_31 eM_5 (fun H locs hZ => ?_)
      refine lv_aload_n hx hb dT_collect_32 rfl (lv_at hl 0 rfl) ?_
      refine lv_dup hx hb dT_collect_33 rfl ?_
      refine m_get hx hb hts in_T hown hK hZ (by decide) rfl rfl 3 (by decide) (hts _ k1_180) (fun _ h9 => h9) rfl dT_collect_34 ?_
      refine lv_iconst (v := 1) hx hb dT_collect_37 (by decide) ?_
      refine lv_iadd hx hb dT_collect_38 ?_
      obtain ⟨M_6, eM_6, hf⟩ := m_lx hf
      refine m_put (ty := .int) hx hb hts in_T ⟨ty_T_ok, nm_T_ok⟩ hown hK hZ (by decide) rfl rfl 3 (by decide) (hts _ k1_180) (fun _ h9 => h9) rfl (by decide +kernel) rfl rfl rfl dT_collect_39 eM_6 (fun H locs hZ => ?_)
      refine lv_iconst (v := 1) hx hb dT_collect_42 (by decide) ?_
      exact hret _ _ _ _ _ _ hf rfl hZ dT_collect_43
    · have hf := m_f hf c_3
      refine lv_iconst (v := 0) hx hb dT_collect_20 (by decide) ?_
      exact hret _ _ _ _ _ _ hf rfl hZ dT_collect_21
