abbrev rmG_unit : Room := { frames := 2, cells := 0, slots := 0, locals := 43 }
set_option maxHeartbeats 4000000 in
set_option maxRecDepth 100000 in
theorem cG_unit (l : Launch) (D : va_G) (ad : Nat → Nat) (c3 : ClassId × ClassId × ClassId) (M : mMem) (x1 : Int32)  {r : Int32} {M' : mMem} (hf : fG_unit M x1 = some (r, M')) : kIX l D ad c3 yG_unit wG_unit rmG_unit [.ref (ad 0), .int x1] M r M' := by
  refine m_oI (cc := bG_unit) (maxL := 2) (ty := .boolean) (own := R_G) nestX (by decide) rfl (Nat.le_of_ble_eq_true rfl) rfl (fun p e s m args below meth c Q hx hb hml hown hts hK hN hret ls hZ hl => ?_)
  have hl : lv_has ls 2 [(0, .ref (ad 0)), (1, .int x1)] := hl
  unfold fG_unit at hf
  refine lv_aload_n hx hb dG_unit_0 rfl (lv_at hl 0 rfl) ?_
  refine m_getR (k' := 62) hx hb hts in_G hown hK hZ (by decide) rfl rfl 3 (by decide) (hts _ k2_11) (fun _ h9 => h9) rfl dG_unit_1 ?_
  refine lv_iload_n hx hb dG_unit_4 rfl (lv_at hl 1 rfl) ?_
  obtain ⟨r_1, M_2, hc, hf⟩ := m_b2x hf
  refine m_ci (va_runV (As := [.int x1]) (rest := []) ⟨hx, hb, hml, hown, hts⟩ (cT_collect l D ad c3 M x1 hc) (cwV 1 hts (gV k2_105 k2_106 k2_107 k1_5 kc_T_collect) rfl rfl rfl (by decide +kernel) ⟨by decide, by decide⟩) (m_preV hK hN hZ (by decide) rfl rfl) rfl rfl hl.1 rfl (lv_room (Nat.le_of_ble_eq_true rfl)) dG_unit_5 ⟨Nat.zero_le _, Nat.zero_le _⟩) hZ (fun H locs hZ => ?_)
  obtain ⟨hz, hf⟩ := m_gx hf
  exact hret _ _ _ _ _ _ hf (m_narZ hz) hZ dG_unit_8
abbrev rmT_parseNumber : Room := { frames := 1, cells := 0, slots := 0, locals := 24 }
set_option maxHeartbeats 4000000 in
set_option maxRecDepth 100000 in
theorem cT_parseNumber (l : Launch) (D : va_G) (ad : Nat → Nat) (c3 : ClassId × ClassId × ClassId) (M : mMem)   {r : Int32} {M' : mMem} (hf : fT_parseNumber M  = some (r, M')) : kIX l D ad c3 yT_parseNumber wT_parseNumber rmT_parseNumber [.ref (ad 62)] M r M' := by
  refine m_oI (cc := bT_parseNumber) (maxL := 3) (ty := .int) (own := R_T) nestX (by decide) rfl (Nat.le_of_ble_eq_true rfl) rfl (fun p e s m args below meth c Q hx hb hml hown hts hK hN hret ls hZ hl => ?_)
  have hl : lv_has ls 3 [(0, .ref (ad 62))] := hl
  unfold fT_parseNumber at hf
  have L4 : ∀ (n4 : Nat) (M : mMem) (x1 : Int32) (x2 : Int32), fT_parseNumber_L4 n4 M x1 x2 = some (r, M') → ∀ (H : Heap) (locs : List Loc) (ls : Array Slot), zX D ad c3 s H locs M → lv_has ls 3 [(0, .ref (ad 62)), (1, .int x1), (2, .int x2)] → W p l e rmT_parseNumber s m args below meth c H locs 0 0 Q (F0 m 4 ls []) := by
    intro n4
    induction n4 with
    | zero => intro M x1 x2 hf; exact m_none hf
    | succ n4 ih4 =>
      intro M x1 x2 hf H locs ls hZ hl
      rw [fT_parseNumber_L4] at hf
      refine lv_iload_n hx hb dT_parseNumber_4 rfl (lv_at hl 2 rfl) ?_
      refine lv_iconst (v := 4) hx hb dT_parseNumber_5 (by decide) ?_
      refine lv_icmp_ge (tgt := 77) hx hb dT_parseNumber_6 (by decide) (fun c_1 => ?_) (fun c_1 => ?_)
      · have hf := m_t hf c_1
        refine lv_iload_n hx hb dT_parseNumber_77 rfl (lv_at hl 1 rfl) ?_
        exact hret _ _ _ _ _ _ hf rfl hZ dT_parseNumber_78
      · have hf := m_f hf c_1
        refine lv_aload_n hx hb dT_parseNumber_9 rfl (lv_at hl 0 rfl) ?_
        refine m_get hx hb hts in_T hown hK hZ (by decide) rfl rfl 4 (by decide) (hts _ k1_181) (fun _ h9 => h9) rfl dT_parseNumber_10 ?_
        refine lv_aload_n hx hb dT_parseNumber_13 rfl (lv_at hl 0 rfl) ?_
        refine m_get hx hb hts in_T hown hK hZ (by decide) rfl rfl 3 (by decide) (hts _ k1_180) (fun _ h9 => h9) rfl dT_parseNumber_14 ?_
        refine lv_icmp_ge (tgt := 77) hx hb dT_parseNumber_17 (by decide) (fun c_2 => ?_) (fun c_2 => ?_)
        · have hf := m_t hf c_2
          refine lv_iload_n hx hb dT_parseNumber_77 rfl (lv_at hl 1 rfl) ?_
          exact hret _ _ _ _ _ _ hf rfl hZ dT_parseNumber_78
        · have hf := m_f hf c_2
          refine lv_aload_n hx hb dT_parseNumber_20 rfl (lv_at hl 0 rfl) ?_
          refine m_getR (k' := 65) hx hb hts in_T hown hK hZ (by decide) rfl rfl 2 (by decide) (hts _ k1_179) (fun _ h9 => h9) rfl dT_parseNumber_21 ?_
          refine lv_aload_n hx hb dT_parseNumber_24 rfl (lv_at hl 0 rfl) ?_
          refine m_get hx hb hts in_T hown hK hZ (by decide) rfl rfl 4 (by decide) (hts _ k1_181) (fun _ h9 => h9) rfl dT_parseNumber_25 ?_
          obtain ⟨h_3, hf⟩ := m_gx hf
          refine m_iald hx hb hK hZ (by decide) rfl h_3 dT_parseNumber_28 ?_
          refine lv_bipush (v := 48) hx hb dT_parseNumber_29 (by decide) ?_
          refine lv_bipush (v := 57) hx hb dT_parseNumber_31 (by decide) ?_
          obtain ⟨r_4, hc, hf⟩ := m_b1x hf
          refine m_ci (va_runSN (As := [.int (M 65 (M 62 4).toNatClampNeg), .int 48, .int 57]) (rest := []) ⟨hx, hb, hml, hown, hts⟩ (cG_within l D ad c3 M (M 65 (M 62 4).toNatClampNeg) 48 57 hc) ⟨va_cnB 3 hts (gN kc_G_within) rfl rfl rfl (hN.2 _ nk_6) (hts _ k1_1) (by decide +kernel) ⟨by decide, by decide⟩, (hts _ k2_69), trivial⟩ (m_preS hK hN hZ) rfl rfl hl.1 rfl (lv_room (Nat.le_of_ble_eq_true rfl)) dT_parseNumber_33 ⟨Nat.zero_le _, Nat.zero_le _⟩) hZ (fun H locs hZ => ?_)
          refine lv_if_eq (tgt := 77) hx hb dT_parseNumber_36 (by decide) (fun c_5 => ?_) (fun c_5 => ?_)
          · have hf := m_t hf c_5
            refine lv_iload_n hx hb dT_parseNumber_77 rfl (lv_at hl 1 rfl) ?_
            exact hret _ _ _ _ _ _ hf rfl hZ dT_parseNumber_78
          · have hf := m_f hf c_5
            refine lv_iconst (v := 0) hx hb dT_parseNumber_39 (by decide) ?_
            refine lv_iload_n hx hb dT_parseNumber_40 rfl (lv_at hl 1 rfl) ?_
            refine va_mmax hx hb (hml.trans hl.1.symm) hown (hts _ k2_126) (hts _ k2_88) (hts _ k1_9) (hts _ kc_math_max) (by decide) (Nat.le_of_ble_eq_true rfl) (Nat.zero_le _) (Nat.zero_le _) dT_parseNumber_41 ?_
            refine lv_bipush (v := 10) hx hb dT_parseNumber_44 (by decide) ?_
            refine lv_imul hx hb dT_parseNumber_46 ?_
            refine lv_aload_n hx hb dT_parseNumber_47 rfl (lv_at hl 0 rfl) ?_
            refine m_getR (k' := 65) hx hb hts in_T hown hK hZ (by decide) rfl rfl 2 (by decide) (hts _ k1_179) (fun _ h9 => h9) rfl dT_parseNumber_48 ?_
            refine lv_aload_n hx hb dT_parseNumber_51 rfl (lv_at hl 0 rfl) ?_
            refine m_get hx hb hts in_T hown hK hZ (by decide) rfl rfl 4 (by decide) (hts _ k1_181) (fun _ h9 => h9) rfl dT_parseNumber_52 ?_
            refine m_iald hx hb hK hZ (by decide) rfl h_3 dT_parseNumber_55 ?_
            refine lv_iadd hx hb dT_parseNumber_56 ?_
            refine lv_bipush (v := 48) hx hb dT_parseNumber_57 (by decide) ?_
            refine lv_isub hx hb dT_parseNumber_59 ?_
            obtain ⟨x1_6, ex1_6, hf⟩ := m_lx hf
            refine m_topi ex1_6 ?_
            refine lv_istore_n (lv' := [(1, .int x1_6), (0, .ref (ad 62)), (2, .int x2)]) hx hb dT_parseNumber_60 rfl hl (by decide) rfl (fun ls hl => ?_)
            refine lv_aload_n hx hb dT_parseNumber_61 rfl (lv_at hl 1 rfl) ?_
            refine lv_dup hx hb dT_parseNumber_62 rfl ?_
            refine m_get hx hb hts in_T hown hK hZ (by decide) rfl rfl 4 (by decide) (hts _ k1_181) (fun _ h9 => h9) rfl dT_parseNumber_63 ?_
            refine lv_iconst (v := 1) hx hb dT_parseNumber_66 (by decide) ?_
            refine lv_iadd hx hb dT_parseNumber_67 ?_
            obtain ⟨M_7, eM_7, hf⟩ := m_lx hf
            refine m_put (ty := .int) hx hb hts in_T ⟨ty_T_ok, nm_T_ok⟩ hown hK hZ (by decide) rfl rfl 4 (by decide) (hts _ k1_181) (fun _ h9 => h9) rfl (by decide +kernel) rfl rfl rfl dT_parseNumber_68 eM_7 (fun H locs hZ => ?_)
            obtain ⟨x2_8, ex2_8, hf⟩ := m_lx hf
            refine lv_iinc (v := x2_8) (lv' := [(2, .int x2_8), (1, .int x1_6), (0, .ref (ad 62))]) hx hb dT_parseNumber_71 hl (k := 2) rfl (by rw [ex2_8]; rfl) (by decide) rfl (fun ls hl => ?_)
            refine lv_goto (tgt := 4) hx hb dT_parseNumber_74 (by decide) ?_
            exact ih4 _ _ _ hf _ _ _ hZ (lv_sub hl [2, 1, 0] rfl)
  refine lv_iconst (v := (-1)) hx hb dT_parseNumber_0 (by decide) ?_
  refine lv_istore_n (lv' := [(1, .int (-1)), (0, .ref (ad 62))]) hx hb dT_parseNumber_1 rfl hl (by decide) rfl (fun ls hl => ?_)
  refine lv_iconst (v := 0) hx hb dT_parseNumber_2 (by decide) ?_
  refine lv_istore_n (lv' := [(2, .int 0), (1, .int (-1)), (0, .ref (ad 62))]) hx hb dT_parseNumber_3 rfl hl (by decide) rfl (fun ls hl => ?_)
  exact L4 128 M (-1) 0 hf _ _ _ hZ (lv_sub hl [2, 1, 0] rfl)
abbrev rmT_skip : Room := { frames := 0, cells := 0, slots := 0, locals := 0 }
set_option maxHeartbeats 4000000 in
set_option maxRecDepth 100000 in
theorem cT_skip (l : Launch) (D : va_G) (ad : Nat → Nat) (c3 : ClassId × ClassId × ClassId) (M : mMem) (x1 : Int32)  {r : Int32} {M' : mMem} (hf : fT_skip M x1 = some (r, M')) : kIX l D ad c3 yT_skip wT_skip rmT_skip [.ref (ad 62), .int x1] M r M' := by
  refine m_oI (cc := bT_skip) (maxL := 2) (ty := .boolean) (own := R_T) nestX (by decide) rfl (Nat.le_of_ble_eq_true rfl) rfl (fun p e s m args below meth c Q hx hb hml hown hts hK hN hret ls hZ hl => ?_)
  have hl : lv_has ls 2 [(0, .ref (ad 62)), (1, .int x1)] := hl
  unfold fT_skip at hf
  refine lv_aload_n hx hb dT_skip_0 rfl (lv_at hl 0 rfl) ?_
  refine m_get hx hb hts in_T hown hK hZ (by decide) rfl rfl 4 (by decide) (hts _ k1_181) (fun _ h9 => h9) rfl dT_skip_1 ?_
  refine lv_aload_n hx hb dT_skip_4 rfl (lv_at hl 0 rfl) ?_
  refine m_get hx hb hts in_T hown hK hZ (by decide) rfl rfl 3 (by decide) (hts _ k1_180) (fun _ h9 => h9) rfl dT_skip_5 ?_
  refine lv_icmp_ge (tgt := 24) hx hb dT_skip_8 (by decide) (fun c_1 => ?_) (fun c_1 => ?_)
  · have hf := m_t hf c_1
    refine lv_iconst (v := 0) hx hb dT_skip_24 (by decide) ?_
    exact hret _ _ _ _ _ _ hf rfl hZ dT_skip_25
  · have hf := m_f hf c_1
    refine lv_aload_n hx hb dT_skip_11 rfl (lv_at hl 0 rfl) ?_
    refine m_getR (k' := 65) hx hb hts in_T hown hK hZ (by decide) rfl rfl 2 (by decide) (hts _ k1_179) (fun _ h9 => h9) rfl dT_skip_12 ?_
    refine lv_aload_n hx hb dT_skip_15 rfl (lv_at hl 0 rfl) ?_
    refine m_get hx hb hts in_T hown hK hZ (by decide) rfl rfl 4 (by decide) (hts _ k1_181) (fun _ h9 => h9) rfl dT_skip_16 ?_
    obtain ⟨h_2, hf⟩ := m_gx hf
    refine m_iald hx hb hK hZ (by decide) rfl h_2 dT_skip_19 ?_
    refine lv_iload_n hx hb dT_skip_20 rfl (lv_at hl 1 rfl) ?_
    refine lv_icmp_eq (tgt := 26) hx hb dT_skip_21 (by decide) (fun c_3 => ?_) (fun c_3 => ?_)
    · have hf := m_t hf c_3
      refine lv_aload_n hx hb dT_skip_26 rfl (lv_at hl 0 rfl) ?_
      refine lv_dup hx hb dT_skip_27 rfl ?_
      refine m_get hx hb hts in_T hown hK hZ (by decide) rfl rfl 4 (by decide) (hts _ k1_181) (fun _ h9 => h9) rfl dT_skip_28 ?_
      refine lv_iconst (v := 1) hx hb dT_skip_31 (by decide) ?_
      refine lv_iadd hx hb dT_skip_32 ?_
      obtain ⟨M_4, eM_4, hf⟩ := m_lx hf
      refine m_put (ty := .int) hx hb hts in_T ⟨ty_T_ok, nm_T_ok⟩ hown hK hZ (by decide) rfl rfl 4 (by decide) (hts _ k1_181) (fun _ h9 => h9) rfl (by decide +kernel) rfl rfl rfl dT_skip_33 eM_4 (fun H locs hZ => ?_)
      refine lv_iconst (v := 1) hx hb dT_skip_36 (by decide) ?_
      exact hret _ _ _ _ _ _ hf rfl hZ dT_skip_37
    · have hf := m_f hf c_3
      refine lv_iconst (v := 0) hx hb dT_skip_24 (by decide) ?_
      exact hret _ _ _ _ _ _ hf rfl hZ dT_skip_25
abbrev rmT_parseBand : Room := { frames := 2, cells := 0, slots := 0, locals := 46 }
set_option maxHeartbeats 4000000 in
set_option maxRecDepth 100000 in
theorem cT_parseBand (l : Launch) (D : va_G) (ad : Nat → Nat) (c3 : ClassId × ClassId × ClassId) (M : mMem) (x1 : Int32) (x2 : Int32)  {r : Int32} {M' : mMem} (hf : fT_parseBand M x1 x2 = some (r, M')) : kIX l D ad c3 yT_parseBand wT_parseBand rmT_parseBand [.ref (ad 62), .int x1, .int x2] M r M' := by
  refine m_oI (cc := bT_parseBand) (maxL := 6) (ty := .int) (own := R_T) nestX (by decide) rfl (Nat.le_of_ble_eq_true rfl) rfl (fun p e s m args below meth c Q hx hb hml hown hts hK hN hret ls hZ hl => ?_)
  have hl : lv_has ls 6 [(0, .ref (ad 62)), (1, .int x1), (2, .int x2)] := hl
  unfold fT_parseBand at hf
  refine lv_aload_n hx hb dT_parseBand_0 rfl (lv_at hl 0 rfl) ?_
  refine m_get hx hb hts in_T hown hK hZ (by decide) rfl rfl 4 (by decide) (hts _ k1_181) (fun _ h9 => h9) rfl dT_parseBand_1 ?_
  obtain ⟨x3_1, ex3_1, hf⟩ := m_lx hf
  refine m_topi ex3_1 ?_
  refine lv_istore_n (lv' := [(3, .int x3_1), (0, .ref (ad 62)), (1, .int x1), (2, .int x2)]) hx hb dT_parseBand_4 rfl hl (by decide) rfl (fun ls hl => ?_)
  refine lv_iload_n hx hb dT_parseBand_5 rfl (lv_at hl 2 rfl) ?_
  refine lv_iload_n hx hb dT_parseBand_6 rfl (lv_at hl 3 rfl) ?_
  refine lv_icmp_ge (tgt := 16) hx hb dT_parseBand_7 (by decide) (fun c_2 => ?_) (fun c_2 => ?_)
  · have hf := m_t hf c_2
    refine lv_iload_n hx hb dT_parseBand_16 rfl (lv_at hl 0 rfl) ?_
    exact hret _ _ _ _ _ _ hf rfl hZ dT_parseBand_17
  · have hf := m_f hf c_2
    refine lv_iload_n hx hb dT_parseBand_10 rfl (lv_at hl 2 rfl) ?_
    refine lv_bipush (v := 6) hx hb dT_parseBand_11 (by decide) ?_
    refine lv_icmp_lt (tgt := 18) hx hb dT_parseBand_13 (by decide) (fun c_3 => ?_) (fun c_3 => ?_)
    · have hf := m_t hf c_3
      refine lv_aload_n hx hb dT_parseBand_18 rfl (lv_at hl 1 rfl) ?_
      obtain ⟨r_4, M_5, hc, hf⟩ := m_b2x hf
      refine m_ci (va_runV (As := []) (rest := []) ⟨hx, hb, hml, hown, hts⟩ (cT_parseNumber l D ad c3 M hc) (cwV 0 hts (gV k2_122 k2_124 kp_2 k1_5 kc_T_parseNumber) rfl rfl rfl (by decide +kernel) ⟨by decide, by decide⟩) (m_preV hK hN hZ (by decide) rfl rfl) rfl rfl hl.1 rfl (lv_room (Nat.le_of_ble_eq_true rfl)) dT_parseBand_19 ⟨Nat.zero_le _, Nat.zero_le _⟩) hZ (fun H locs hZ => ?_)
      refine lv_istore (lv' := [(4, .int r_4), (3, .int x3_1), (0, .ref (ad 62)), (1, .int x1), (2, .int x2)]) hx hb dT_parseBand_22 hl (by decide) rfl (fun ls hl => ?_)
      refine lv_iload hx hb dT_parseBand_24 (lv_at hl 0 rfl) ?_
      refine lv_if_lt (tgt := 38) hx hb dT_parseBand_26 (by decide) (fun c_6 => ?_) (fun c_6 => ?_)
      · have hf := m_t hf c_6
        refine lv_aload_n hx hb dT_parseBand_38 rfl (lv_at hl 2 rfl) ?_
        refine m_get hx hb hts in_T hown hK hZ (by decide) rfl rfl 4 (by decide) (hts _ k1_181) (fun _ h9 => h9) rfl dT_parseBand_39 ?_
        exact hret _ _ _ _ _ _ hf rfl hZ dT_parseBand_42
      · have hf := m_f hf c_6
        refine lv_aload_n hx hb dT_parseBand_29 rfl (lv_at hl 2 rfl) ?_
        refine lv_bipush (v := 45) hx hb dT_parseBand_30 (by decide) ?_
        obtain ⟨r_7, M_8, hc, hf⟩ := m_b2x hf
        refine m_ci (va_runV (As := [.int 45]) (rest := []) ⟨hx, hb, hml, hown, hts⟩ (cT_skip l D ad c3 M_5 45 hc) (cwV 1 hts (gV k2_127 k2_129 kp_3 k1_5 kc_T_skip) rfl rfl rfl (by decide +kernel) ⟨by decide, by decide⟩) (m_preV hK hN hZ (by decide) rfl rfl) rfl rfl hl.1 rfl (lv_room (Nat.le_of_ble_eq_true rfl)) dT_parseBand_32 ⟨Nat.zero_le _, Nat.zero_le _⟩) hZ (fun H locs hZ => ?_)
        refine lv_if_ne (tgt := 43) hx hb dT_parseBand_35 (by decide) (fun c_9 => ?_) (fun c_9 => ?_)
        · have hf := m_f hf c_9
          refine lv_aload_n hx hb dT_parseBand_43 rfl (lv_at hl 2 rfl) ?_
          obtain ⟨r_10, M_11, hc, hf⟩ := m_b2x hf
          refine m_ci (va_runV (As := []) (rest := []) ⟨hx, hb, hml, hown, hts⟩ (cT_parseNumber l D ad c3 M_8 hc) (cwV 0 hts (gV k2_122 k2_124 kp_2 k1_5 kc_T_parseNumber) rfl rfl rfl (by decide +kernel) ⟨by decide, by decide⟩) (m_preV hK hN hZ (by decide) rfl rfl) rfl rfl hl.1 rfl (lv_room (Nat.le_of_ble_eq_true rfl)) dT_parseBand_44 ⟨Nat.zero_le _, Nat.zero_le _⟩) hZ (fun H locs hZ => ?_)
          refine lv_istore (lv' := [(5, .int r_10), (4, .int r_4), (3, .int x3_1), (0, .ref (ad 62)), (1, .int x1), (2, .int x2)]) hx hb dT_parseBand_47 hl (by decide) rfl (fun ls hl => ?_)
          refine lv_iload hx hb dT_parseBand_49 (lv_at hl 0 rfl) ?_
          refine lv_if_ge (tgt := 59) hx hb dT_parseBand_51 (by decide) (fun c_12 => ?_) (fun c_12 => ?_)
          · have hf := m_t hf c_12
            refine lv_iload hx hb dT_parseBand_59 (lv_at hl 1 rfl) ?_
            refine lv_iload hx hb dT_parseBand_61 (lv_at hl 0 rfl) ?_
            obtain ⟨r_13, hc, hf⟩ := m_b1x hf
            refine m_ci (va_runSN (As := [.int r_4, .int r_10]) (rest := []) ⟨hx, hb, hml, hown, hts⟩ (cG_mayBeBand l D ad c3 M_11 r_4 r_10 hc) ⟨va_cnB 2 hts (gN kc_G_mayBeBand) rfl rfl rfl (hN.2 _ nk_7) (hts _ k1_1) (by decide +kernel) ⟨by decide, by decide⟩, (hts _ k2_41), trivial⟩ (m_preS hK hN hZ) rfl rfl hl.1 rfl (lv_room (Nat.le_of_ble_eq_true rfl)) dT_parseBand_63 ⟨Nat.zero_le _, Nat.zero_le _⟩) hZ (fun H locs hZ => ?_)
            refine lv_if_ne (tgt := 71) hx hb dT_parseBand_66 (by decide) (fun c_14 => ?_) (fun c_14 => ?_)
            · have hf := m_f hf c_14
              refine lv_aload_n hx hb dT_parseBand_71 rfl (lv_at hl 3 rfl) ?_
              refine m_getR (k' := 63) hx hb hts in_T hown hK hZ (by decide) rfl rfl 0 (by decide) (hts _ k1_175) (fun _ h9 => h9) rfl dT_parseBand_72 ?_
              refine lv_iload_n hx hb dT_parseBand_75 rfl (lv_at hl 4 rfl) ?_
              refine lv_iload hx hb dT_parseBand_76 (lv_at hl 1 rfl) ?_
              obtain ⟨h_inb_x1_6, hf⟩ := m_gx hf
              obtain ⟨M_15, eM_15, hf⟩ := m_lx hf
              refine m_iast hx hb hK hZ (by decide) rfl h_inb_x1_6 dT_parseBand_78 eM_15 (fun H locs hZ => ?_)
              refine lv_aload_n hx hb dT_parseBand_79 rfl (lv_at hl 3 rfl) ?_
              refine m_getR (k' := 64) hx hb hts in_T hown hK hZ (by decide) rfl rfl 1 (by decide) (hts _ k1_177) (fun _ h9 => h9) rfl dT_parseBand_80 ?_
              refine lv_iload_n hx hb dT_parseBand_83 rfl (lv_at hl 4 rfl) ?_
              refine lv_iload hx hb dT_parseBand_84 (lv_at hl 0 rfl) ?_
              obtain ⟨M_16, eM_16, hf⟩ := m_lx hf
              refine m_iast hx hb hK hZ (by decide) rfl h_inb_x1_6 dT_parseBand_86 eM_16 (fun H locs hZ => ?_)
              refine lv_iconst (v := (-1)) hx hb dT_parseBand_87 (by decide) ?_
              exact hret _ _ _ _ _ _ hf rfl hZ dT_parseBand_88
            · have hf := m_t hf c_14
              refine lv_iload_n hx hb dT_parseBand_69 rfl (lv_at hl 2 rfl) ?_
              exact hret _ _ _ _ _ _ hf rfl hZ dT_parseBand_70
          · have hf := m_f hf c_12
            refine lv_aload_n hx hb dT_parseBand_54 rfl (lv_at hl 3 rfl) ?_
            refine m_get hx hb hts in_T hown hK hZ (by decide) rfl rfl 4 (by decide) (hts _ k1_181) (fun _ h9 => h9) rfl dT_parseBand_55 ?_
            exact hret _ _ _ _ _ _ hf rfl hZ dT_parseBand_58
        · have hf := m_t hf c_9
          refine lv_aload_n hx hb dT_parseBand_38 rfl (lv_at hl 2 rfl) ?_
          refine m_get hx hb hts in_T hown hK hZ (by decide) rfl rfl 4 (by decide) (hts _ k1_181) (fun _ h9 => h9) rfl dT_parseBand_39 ?_
          exact hret _ _ _ _ _ _ hf rfl hZ dT_parseBand_42
    · have hf := m_f hf c_3
      refine lv_iload_n hx hb dT_parseBand_16 rfl (lv_at hl 0 rfl) ?_
      exact hret _ _ _ _ _ _ hf rfl hZ dT_parseBand_17
abbrev rmT_parse : Room := { frames := 3, cells := 0, slots := 0, locals := 71 }
set_option maxHeartbeats 4000000 in
set_option maxRecDepth 100000 in
theorem cT_parse (l : Launch) (D : va_G) (ad : Nat → Nat) (c3 : ClassId × ClassId × ClassId) (M : mMem) (x1 : Int32)  {r : Int32} {M' : mMem} (hf : fT_parse M x1 = some (r, M')) : kIX l D ad c3 yT_parse wT_parse rmT_parse [.ref (ad 62), .int x1] M r M' := by
  refine m_oI (cc := bT_parse) (maxL := 4) (ty := .int) (own := R_T) nestX (by decide) rfl (Nat.le_of_ble_eq_true rfl) rfl (fun p e s m args below meth c Q hx hb hml hown hts hK hN hret ls hZ hl => ?_)
  have hl : lv_has ls 4 [(0, .ref (ad 62)), (1, .int x1)] := hl
  unfold fT_parse at hf
  have B61 : ∀ (M : mMem), fT_parse_B61 M = some (r, M') → ∀ (H : Heap) (locs : List Loc) (ls : Array Slot), zX D ad c3 s H locs M → lv_has ls 4 [(0, .ref (ad 62))] → W p l e rmT_parse s m args below meth c H locs 0 0 Q (F0 m 61 ls []) := by
    intro M hf H locs ls hZ hl
    unfold fT_parse_B61 at hf
    refine lv_iconst (v := (-1)) hx hb dT_parse_61 (by decide) ?_
    refine lv_aload_n hx hb dT_parse_62 rfl (lv_at hl 0 rfl) ?_
    refine m_get hx hb hts in_T hown hK hZ (by decide) rfl rfl 4 (by decide) (hts _ k1_181) (fun _ h9 => h9) rfl dT_parse_63 ?_
    refine lv_isub hx hb dT_parse_66 ?_
    exact hret _ _ _ _ _ _ hf rfl hZ dT_parse_67
  have L7 : ∀ (n7 : Nat) (M : mMem) (x2 : Int32), fT_parse_L7 x1 n7 M x2 = some (r, M') → ∀ (H : Heap) (locs : List Loc) (ls : Array Slot), zX D ad c3 s H locs M → lv_has ls 4 [(0, .ref (ad 62)), (1, .int x1), (2, .int x2)] → W p l e rmT_parse s m args below meth c H locs 0 0 Q (F0 m 7 ls []) := by
    intro n7
    induction n7 with
    | zero => intro M x2 hf; exact m_none hf
    | succ n7 ih7 =>
      intro M x2 hf H locs ls hZ hl
      rw [fT_parse_L7] at hf
      refine lv_iload_n hx hb dT_parse_7 rfl (lv_at hl 2 rfl) ?_
      refine lv_bipush (v := 6) hx hb dT_parse_8 (by decide) ?_
      refine lv_icmp_gt (tgt := 61) hx hb dT_parse_10 (by decide) (fun c_2 => ?_) (fun c_2 => ?_)
      · have hf := m_t hf c_2
        exact B61 M hf _ _ _ hZ (lv_sub hl [0] rfl)
      · have hf := m_f hf c_2
        refine lv_aload_n hx hb dT_parse_13 rfl (lv_at hl 0 rfl) ?_
        refine lv_iload_n hx hb dT_parse_14 rfl (lv_at hl 2 rfl) ?_
        refine lv_iload_n hx hb dT_parse_15 rfl (lv_at hl 1 rfl) ?_
        obtain ⟨r_3, M_4, hc, hf⟩ := m_b2x hf
        refine m_ci (va_runV (As := [.int x2, .int x1]) (rest := []) ⟨hx, hb, hml, hown, hts⟩ (cT_parseBand l D ad c3 M x2 x1 hc) (cwV 2 hts (gV k2_118 k2_120 kp_1 k1_5 kc_T_parseBand) rfl rfl rfl (by decide +kernel) ⟨by decide, by decide⟩) (m_preV hK hN hZ (by decide) rfl rfl) rfl rfl hl.1 rfl (lv_room (Nat.le_of_ble_eq_true rfl)) dT_parse_16 ⟨Nat.zero_le _, Nat.zero_le _⟩) hZ (fun H locs hZ => ?_)
        refine lv_istore_n (lv' := [(3, .int r_3), (0, .ref (ad 62)), (1, .int x1), (2, .int x2)]) hx hb dT_parse_19 rfl hl (by decide) rfl (fun ls hl => ?_)
        refine lv_iload_n hx hb dT_parse_20 rfl (lv_at hl 0 rfl) ?_
        refine lv_if_lt (tgt := 28) hx hb dT_parse_21 (by decide) (fun c_5 => ?_) (fun c_5 => ?_)
        · have hf := m_t hf c_5
          refine lv_aload_n hx hb dT_parse_28 rfl (lv_at hl 1 rfl) ?_
          refine m_get hx hb hts in_T hown hK hZ (by decide) rfl rfl 4 (by decide) (hts _ k1_181) (fun _ h9 => h9) rfl dT_parse_29 ?_
          refine lv_aload_n hx hb dT_parse_32 rfl (lv_at hl 1 rfl) ?_
          refine m_get hx hb hts in_T hown hK hZ (by decide) rfl rfl 3 (by decide) (hts _ k1_180) (fun _ h9 => h9) rfl dT_parse_33 ?_
          refine lv_icmp_lt (tgt := 43) hx hb dT_parse_36 (by decide) (fun c_6 => ?_) (fun c_6 => ?_)
          · have hf := m_t hf c_6
            refine lv_aload_n hx hb dT_parse_43 rfl (lv_at hl 1 rfl) ?_
            refine lv_bipush (v := 44) hx hb dT_parse_44 (by decide) ?_
            obtain ⟨r_7, M_8, hc, hf⟩ := m_b2x hf
            refine m_ci (va_runV (As := [.int 44]) (rest := []) ⟨hx, hb, hml, hown, hts⟩ (cT_skip l D ad c3 M_4 44 hc) (cwV 1 hts (gV k2_127 k2_129 kp_3 k1_5 kc_T_skip) rfl rfl rfl (by decide +kernel) ⟨by decide, by decide⟩) (m_preV hK hN hZ (by decide) rfl rfl) rfl rfl hl.1 rfl (lv_room (Nat.le_of_ble_eq_true rfl)) dT_parse_46 ⟨Nat.zero_le _, Nat.zero_le _⟩) hZ (fun H locs hZ => ?_)
            refine lv_if_ne (tgt := 55) hx hb dT_parse_49 (by decide) (fun c_9 => ?_) (fun c_9 => ?_)
            · have hf := m_f hf c_9
              obtain ⟨x2_10, ex2_10, hf⟩ := m_lx hf
              refine lv_iinc (v := x2_10) (lv' := [(2, .int x2_10), (3, .int r_3), (0, .ref (ad 62)), (1, .int x1)]) hx hb dT_parse_55 hl (k := 3) rfl (by rw [ex2_10]; rfl) (by decide) rfl (fun ls hl => ?_)
              refine lv_goto (tgt := 7) hx hb dT_parse_58 (by decide) ?_
              exact ih7 _ _ hf _ _ _ hZ (lv_sub hl [2, 3, 0] rfl)
            · have hf := m_t hf c_9
              refine lv_goto (tgt := 61) hx hb dT_parse_52 (by decide) ?_
              exact B61 M_8 hf _ _ _ hZ (lv_sub hl [1] rfl)
          · have hf := m_f hf c_6
            refine lv_iload_n hx hb dT_parse_39 rfl (lv_at hl 3 rfl) ?_
            refine lv_iconst (v := 1) hx hb dT_parse_40 (by decide) ?_
            refine lv_iadd hx hb dT_parse_41 ?_
            exact hret _ _ _ _ _ _ hf rfl hZ dT_parse_42
        · have hf := m_f hf c_5
          refine lv_iconst (v := (-1)) hx hb dT_parse_24 (by decide) ?_
          refine lv_iload_n hx hb dT_parse_25 rfl (lv_at hl 0 rfl) ?_
          refine lv_isub hx hb dT_parse_26 ?_
          exact hret _ _ _ _ _ _ hf rfl hZ dT_parse_27
  refine lv_aload_n hx hb dT_parse_0 rfl (lv_at hl 0 rfl) ?_
  refine lv_iconst (v := 0) hx hb dT_parse_1 (by decide) ?_
  obtain ⟨M_1, eM_1, hf⟩ := m_lx hf
  refine m_put (ty := .int) hx hb hts in_T ⟨ty_T_ok, nm_T_ok⟩ hown hK hZ (by decide) rfl rfl 4 (by decide) (hts _ k1_181) (fun _ h9 => h9) rfl (by decide +kernel) rfl rfl rfl dT_parse_2 eM_1 (fun H locs hZ => ?_)
  refine lv_iconst (v := 0) hx hb dT_parse_5 (by decide) ?_
  refine lv_istore_n (lv' := [(2, .int 0), (0, .ref (ad 62)), (1, .int x1)]) hx hb dT_parse_6 rfl hl (by decide) rfl (fun ls hl => ?_)
  exact L7 128 M_1 0 hf _ _ _ hZ (lv_sub hl [1, 2, 0] rfl)
abbrev rmT_clear : Room := { frames := 0, cells := 0, slots := 0, locals := 0 }
set_option maxHeartbeats 4000000 in
set_option maxRecDepth 100000 in
theorem cT_clear (l : Launch) (D : va_G) (ad : Nat → Nat) (c3 : ClassId × ClassId × ClassId) (M : mMem)   {M' : mMem} (hf : fT_clear M  = some M') : kVX l D ad c3 yT_clear wT_clear rmT_clear [.ref (ad 62)] M M' := by
  refine m_oV (cc := bT_clear) (maxL := 1) (own := R_T) nestX (by decide) rfl (Nat.le_of_ble_eq_true rfl) rfl (fun p e s m args below meth c Q hx hb hml hown hts hK hN hret ls hZ hl => ?_)
  have hl : lv_has ls 1 [(0, .ref (ad 62))] := hl
  unfold fT_clear at hf
  refine lv_aload_n hx hb dT_clear_0 rfl (lv_at hl 0 rfl) ?_
  refine lv_iconst (v := 0) hx hb dT_clear_1 (by decide) ?_
  obtain ⟨M_1, eM_1, hf⟩ := m_lx hf
  refine m_put (ty := .int) hx hb hts in_T ⟨ty_T_ok, nm_T_ok⟩ hown hK hZ (by decide) rfl rfl 3 (by decide) (hts _ k1_180) (fun _ h9 => h9) rfl (by decide +kernel) rfl rfl rfl dT_clear_2 eM_1 (fun H locs hZ => ?_)
  exact hret _ _ _ _ _ hf hZ dT_clear_5
