abbrev rmB_fill : Room := { frames := 0, cells := 0, slots := 0, locals := 0 }
set_option maxHeartbeats 4000000 in
set_option maxRecDepth 100000 in
theorem cB_fill (l : Launch) (D : va_G) (ad : Nat → Nat) (c3 : ClassId × ClassId × ClassId) (M : mMem) (x1 : Int32) (k2 : Nat) (qk2 : isX_X k2) {r : Int32} {M' : mMem} (hf : fB_fill M x1 k2 = some (r, M')) : kIX l D ad c3 yB_fill wB_fill rmB_fill [.ref (ad 68), .int x1, .ref (ad k2), .ref (ad 1)] M r M' := by
  refine m_oI (cc := bB_fill) (maxL := 10) (ty := .int) (own := R_B) nestX (by decide) rfl (Nat.le_of_ble_eq_true rfl) rfl (fun p e s m args below meth c Q hx hb hml hown hts hK hN hret ls hZ hl => ?_)
  have hl : lv_has ls 10 [(0, .ref (ad 68)), (1, .int x1), (2, .ref (ad k2)), (3, .ref (ad 1))] := hl
  unfold fB_fill at hf
  have B109 : ∀ (M : mMem) (x6 : Int32), fB_fill_B109 M x6 = some (r, M') → ∀ (H : Heap) (locs : List Loc) (ls : Array Slot), zX D ad c3 s H locs M → lv_has ls 10 [(0, .ref (ad 68)), (6, .int x6)] → W p l e rmB_fill s m args below meth c H locs 0 0 Q (F0 m 109 ls []) := by
    intro M x6 hf H locs ls hZ hl
    unfold fB_fill_B109 at hf
    refine lv_aload_n hx hb dB_fill_109 rfl (lv_at hl 0 rfl) ?_
    refine lv_iconst (v := 1) hx hb dB_fill_110 (by decide) ?_
    obtain ⟨M_2, eM_2, hf⟩ := m_lx hf
    refine m_put (ty := .boolean) hx hb hts in_B ⟨ty_B_ok, nm_B_ok⟩ hown hK hZ (by decide) rfl rfl 0 (by decide) (hts _ k1_201) (fun _ h9 => h9) rfl (by decide +kernel) rfl rfl rfl dB_fill_111 eM_2 (fun H locs hZ => ?_)
    refine lv_iload hx hb dB_fill_114 (lv_at hl 1 rfl) ?_
    exact hret _ _ _ _ _ _ hf rfl hZ dB_fill_116
  have L12 : ∀ (n12 : Nat) (M : mMem) (x4 : Int32) (x5 : Int32) (x6 : Int32) (x7 : Int32), fB_fill_L12 x1 k2 n12 M x4 x5 x6 x7 = some (r, M') → ∀ (H : Heap) (locs : List Loc) (ls : Array Slot), zX D ad c3 s H locs M → lv_has ls 10 [(0, .ref (ad 68)), (1, .int x1), (2, .ref (ad k2)), (3, .ref (ad 1)), (4, .int x4), (5, .int x5), (6, .int x6), (7, .int x7)] → W p l e rmB_fill s m args below meth c H locs 0 0 Q (F0 m 12 ls []) := by
    intro n12
    induction n12 with
    | zero => intro M x4 x5 x6 x7 hf; exact m_none hf
    | succ n12 ih12 =>
      intro M x4 x5 x6 x7 hf H locs ls hZ hl
      rw [fB_fill_L12] at hf
      refine lv_iload hx hb dB_fill_12 (lv_at hl 7 rfl) ?_
      refine lv_aload_n hx hb dB_fill_14 rfl (lv_at hl 3 rfl) ?_
      refine m_get hx hb hts in_P hown hK hZ (by decide) rfl rfl 1 (by decide) (hts _ k1_30) (fun _ h9 => h9) rfl dB_fill_15 ?_
      refine lv_icmp_ge (tgt := 109) hx hb dB_fill_18 (by decide) (fun c_1 => ?_) (fun c_1 => ?_)
      · have hf := m_t hf c_1
        exact B109 M x6 hf _ _ _ hZ (lv_sub hl [0, 6] rfl)
      · have hf := m_f hf c_1
        refine lv_iload hx hb dB_fill_21 (lv_at hl 4 rfl) ?_
        refine lv_aload_n hx hb dB_fill_23 rfl (lv_at hl 2 rfl) ?_
        refine m_getR (k' := (k2 + 1)) hx hb hts in_X hown hK hZ (qk2 0 (by decide)).2 (qk2 0 (by decide)).1 rfl 1 (by decide) (hts _ k1_112) (fun _ h9 => h9) rfl dB_fill_24 ?_
        refine lv_iload hx hb dB_fill_27 (lv_at hl 7 rfl) ?_
        obtain ⟨h_3, hf⟩ := m_gx hf
        refine m_iald hx hb hK hZ (qk2 1 (by decide)).2 (qk2 1 (by decide)).1 h_3 dB_fill_29 ?_
        refine lv_iadd hx hb dB_fill_30 ?_
        obtain ⟨x4_4, ex4_4, hf⟩ := m_lx hf
        refine m_topi ex4_4 ?_
        refine lv_istore (lv' := [(4, .int x4_4), (0, .ref (ad 68)), (1, .int x1), (2, .ref (ad k2)), (3, .ref (ad 1)), (5, .int x5), (6, .int x6), (7, .int x7)]) hx hb dB_fill_31 hl (by decide) rfl (fun ls hl => ?_)
        refine lv_iload_n hx hb dB_fill_33 rfl (lv_at hl 2 rfl) ?_
        refine lv_iload hx hb dB_fill_34 (lv_at hl 0 rfl) ?_
        refine lv_imul hx hb dB_fill_36 ?_
        refine lv_bipush (v := 100) hx hb dB_fill_37 (by decide) ?_
        refine lv_idiv hx hb dB_fill_39 (by decide) ?_
        obtain ⟨x8_5, ex8_5, hf⟩ := m_lx hf
        refine m_topi ex8_5 ?_
        refine lv_istore (lv' := [(8, .int x8_5), (4, .int x4_4), (0, .ref (ad 68)), (1, .int x1), (2, .ref (ad k2)), (3, .ref (ad 1)), (5, .int x5), (6, .int x6), (7, .int x7)]) hx hb dB_fill_40 hl (by decide) rfl (fun ls hl => ?_)
        refine lv_aload_n hx hb dB_fill_42 rfl (lv_at hl 2 rfl) ?_
        refine m_getR (k' := 69) hx hb hts in_B hown hK hZ (by decide) rfl rfl 1 (by decide) (hts _ k1_203) (fun _ h9 => h9) rfl dB_fill_43 ?_
        refine lv_iload hx hb dB_fill_46 (lv_at hl 8 rfl) ?_
        refine lv_iload hx hb dB_fill_48 (lv_at hl 0 rfl) ?_
        refine lv_iload hx hb dB_fill_50 (lv_at hl 6 rfl) ?_
        refine lv_isub hx hb dB_fill_52 ?_
        obtain ⟨M_6, eM_6, hf⟩ := m_lx hf
        refine m_iast hx hb hK hZ (by decide) rfl h_3 dB_fill_53 eM_6 (fun H locs hZ => ?_)
        refine lv_aload_n hx hb dB_fill_54 rfl (lv_at hl 2 rfl) ?_
        refine m_getR (k' := 69) hx hb hts in_B hown hK hZ (by decide) rfl rfl 1 (by decide) (hts _ k1_203) (fun _ h9 => h9) rfl dB_fill_55 ?_
        refine lv_iload hx hb dB_fill_58 (lv_at hl 8 rfl) ?_
        refine m_iald hx hb hK hZ (by decide) rfl h_3 dB_fill_60 ?_
        refine lv_aload_n hx hb dB_fill_61 rfl (lv_at hl 5 rfl) ?_
        refine m_getR (k' := 8) hx hb hts in_P hown hK hZ (by decide) rfl rfl 10 (by decide) (hts _ k1_54) (fun _ h9 => h9) rfl dB_fill_62 ?_
        refine lv_iload hx hb dB_fill_65 (lv_at hl 8 rfl) ?_
        refine m_iald hx hb hK hZ (by decide) rfl h_3 dB_fill_67 ?_
        refine lv_imul hx hb dB_fill_68 ?_
        refine lv_sipush (v := 1000) hx hb dB_fill_69 (by decide) ?_
        refine lv_idiv hx hb dB_fill_72 (by decide) ?_
        obtain ⟨x9_7, ex9_7, hf⟩ := m_lx hf
        refine m_topi ex9_7 ?_
        refine lv_istore (lv' := [(9, .int x9_7), (8, .int x8_5), (4, .int x4_4), (0, .ref (ad 68)), (1, .int x1), (2, .ref (ad k2)), (3, .ref (ad 1)), (5, .int x5), (6, .int x6), (7, .int x7)]) hx hb dB_fill_73 hl (by decide) rfl (fun ls hl => ?_)
        refine lv_aload_n hx hb dB_fill_75 rfl (lv_at hl 3 rfl) ?_
        refine m_getR (k' := 70) hx hb hts in_B hown hK hZ (by decide) rfl rfl 2 (by decide) (hts _ k1_205) (fun _ h9 => h9) rfl dB_fill_76 ?_
        refine lv_iload hx hb dB_fill_79 (lv_at hl 9 rfl) ?_
        refine lv_aload_n hx hb dB_fill_81 rfl (lv_at hl 3 rfl) ?_
        refine m_getR (k' := 69) hx hb hts in_B hown hK hZ (by decide) rfl rfl 1 (by decide) (hts _ k1_203) (fun _ h9 => h9) rfl dB_fill_82 ?_
        refine lv_iload hx hb dB_fill_85 (lv_at hl 9 rfl) ?_
        refine m_iald hx hb hK hZ (by decide) rfl h_3 dB_fill_87 ?_
        refine lv_iload hx hb dB_fill_88 (lv_at hl 0 rfl) ?_
        refine lv_iadd hx hb dB_fill_90 ?_
        obtain ⟨M_8, eM_8, hf⟩ := m_lx hf
        refine m_iast hx hb hK hZ (by decide) rfl h_3 dB_fill_91 eM_8 (fun H locs hZ => ?_)
        refine lv_iload hx hb dB_fill_92 (lv_at hl 8 rfl) ?_
        refine lv_iload hx hb dB_fill_94 (lv_at hl 0 rfl) ?_
        refine lv_iadd hx hb dB_fill_96 ?_
        obtain ⟨x6_9, ex6_9, hf⟩ := m_lx hf
        refine m_topi ex6_9 ?_
        refine lv_istore (lv' := [(6, .int x6_9), (9, .int x9_7), (8, .int x8_5), (4, .int x4_4), (0, .ref (ad 68)), (1, .int x1), (2, .ref (ad k2)), (3, .ref (ad 1)), (5, .int x5), (7, .int x7)]) hx hb dB_fill_97 hl (by decide) rfl (fun ls hl => ?_)
        refine lv_iload hx hb dB_fill_99 (lv_at hl 2 rfl) ?_
        refine lv_istore (lv' := [(5, .int x8_5), (6, .int x6_9), (9, .int x9_7), (8, .int x8_5), (4, .int x4_4), (0, .ref (ad 68)), (1, .int x1), (2, .ref (ad k2)), (3, .ref (ad 1)), (7, .int x7)]) hx hb dB_fill_101 hl (by decide) rfl (fun ls hl => ?_)
        obtain ⟨x7_10, ex7_10, hf⟩ := m_lx hf
        refine lv_iinc (v := x7_10) (lv' := [(7, .int x7_10), (5, .int x8_5), (6, .int x6_9), (9, .int x9_7), (8, .int x8_5), (4, .int x4_4), (0, .ref (ad 68)), (1, .int x1), (2, .ref (ad k2)), (3, .ref (ad 1))]) hx hb dB_fill_103 hl (k := 9) rfl (by rw [ex7_10]; rfl) (by decide) rfl (fun ls hl => ?_)
        refine lv_goto (tgt := 12) hx hb dB_fill_106 (by decide) ?_
        exact ih12 _ _ _ _ _ hf _ _ _ hZ (lv_sub hl [6, 7, 8, 9, 5, 1, 2, 0] rfl)
  refine lv_iconst (v := 0) hx hb dB_fill_0 (by decide) ?_
  refine lv_istore (lv' := [(4, .int 0), (0, .ref (ad 68)), (1, .int x1), (2, .ref (ad k2)), (3, .ref (ad 1))]) hx hb dB_fill_1 hl (by decide) rfl (fun ls hl => ?_)
  refine lv_iconst (v := 0) hx hb dB_fill_3 (by decide) ?_
  refine lv_istore (lv' := [(5, .int 0), (4, .int 0), (0, .ref (ad 68)), (1, .int x1), (2, .ref (ad k2)), (3, .ref (ad 1))]) hx hb dB_fill_4 hl (by decide) rfl (fun ls hl => ?_)
  refine lv_iconst (v := 0) hx hb dB_fill_6 (by decide) ?_
  refine lv_istore (lv' := [(6, .int 0), (5, .int 0), (4, .int 0), (0, .ref (ad 68)), (1, .int x1), (2, .ref (ad k2)), (3, .ref (ad 1))]) hx hb dB_fill_7 hl (by decide) rfl (fun ls hl => ?_)
  refine lv_iconst (v := 0) hx hb dB_fill_9 (by decide) ?_
  refine lv_istore (lv' := [(7, .int 0), (6, .int 0), (5, .int 0), (4, .int 0), (0, .ref (ad 68)), (1, .int x1), (2, .ref (ad k2)), (3, .ref (ad 1))]) hx hb dB_fill_10 hl (by decide) rfl (fun ls hl => ?_)
  exact L12 128 M 0 0 0 0 hf _ _ _ hZ (lv_sub hl [4, 5, 6, 7, 3, 2, 1, 0] rfl)
abbrev rmG_batch : Room := { frames := 1, cells := 0, slots := 0, locals := 29 }
set_option maxHeartbeats 4000000 in
set_option maxRecDepth 100000 in
theorem cG_batch (l : Launch) (D : va_G) (ad : Nat → Nat) (c3 : ClassId × ClassId × ClassId) (M : mMem) (x1 : Int32)  {r : Int32} {M' : mMem} (hf : fG_batch M x1 = some (r, M')) : kIX l D ad c3 yG_batch wG_batch rmG_batch [.ref (ad 0), .int x1] M r M' := by
  refine m_oI (cc := bG_batch) (maxL := 2) (ty := .int) (own := R_G) nestX (by decide) rfl (Nat.le_of_ble_eq_true rfl) rfl (fun p e s m args below meth c Q hx hb hml hown hts hK hN hret ls hZ hl => ?_)
  have hl : lv_has ls 2 [(0, .ref (ad 0)), (1, .int x1)] := hl
  unfold fG_batch at hf
  refine lv_aload_n hx hb dG_batch_0 rfl (lv_at hl 0 rfl) ?_
  refine m_getR (k' := 66) hx hb hts in_G hown hK hZ (by decide) rfl rfl 4 (by decide) (hts _ k2_12) (fun _ h9 => h9) rfl dG_batch_1 ?_
  refine m_get hx hb hts in_X hown hK hZ (by decide) rfl rfl 0 (by decide) (hts _ k1_110) (fun _ h9 => h9) rfl dG_batch_4 ?_
  refine lv_if_eq (tgt := 20) hx hb dG_batch_7 (by decide) (fun c_1 => ?_) (fun c_1 => ?_)
  · have hf := m_t hf c_1
    refine lv_iconst (v := (-1)) hx hb dG_batch_20 (by decide) ?_
    exact hret _ _ _ _ _ _ hf rfl hZ dG_batch_21
  · have hf := m_f hf c_1
    refine lv_iload_n hx hb dG_batch_10 rfl (lv_at hl 1 rfl) ?_
    refine lv_iconst (v := 0) hx hb dG_batch_11 (by decide) ?_
    refine lv_ldc (v := 1000000) hx hb hown (hts _ k2_225) dG_batch_12 ?_
    obtain ⟨r_2, hc, hf⟩ := m_b1x hf
    refine m_ci (va_runS (As := [.int x1, .int 0, .int 1000000]) (rest := []) ⟨hx, hb, hml, hown, hts⟩ (cG_within l D ad c3 M x1 0 1000000 hc) (cwS 3 hts (gS9 k2_68 k2_69 k1_1 kc_G_within) rfl rfl rfl (by decide +kernel) ⟨by decide, by decide⟩) (m_preS hK hN hZ) rfl rfl hl.1 rfl (lv_room (Nat.le_of_ble_eq_true rfl)) dG_batch_14 ⟨Nat.zero_le _, Nat.zero_le _⟩) hZ (fun H locs hZ => ?_)
    refine lv_if_ne (tgt := 22) hx hb dG_batch_17 (by decide) (fun c_3 => ?_) (fun c_3 => ?_)
    · have hf := m_f hf c_3
      refine lv_aload_n hx hb dG_batch_22 rfl (lv_at hl 0 rfl) ?_
      refine m_getR (k' := 68) hx hb hts in_G hown hK hZ (by decide) rfl rfl 5 (by decide) (hts _ k2_13) (fun _ h9 => h9) rfl dG_batch_23 ?_
      refine lv_iload_n hx hb dG_batch_26 rfl (lv_at hl 1 rfl) ?_
      refine lv_aload_n hx hb dG_batch_27 rfl (lv_at hl 0 rfl) ?_
      refine m_getR (k' := 66) hx hb hts in_G hown hK hZ (by decide) rfl rfl 4 (by decide) (hts _ k2_12) (fun _ h9 => h9) rfl dG_batch_28 ?_
      refine lv_aload_n hx hb dG_batch_31 rfl (lv_at hl 0 rfl) ?_
      refine m_getR (k' := 1) hx hb hts in_G hown hK hZ (by decide) rfl rfl 0 (by decide) (hts _ k2_8) (fun _ h9 => h9) rfl dG_batch_32 ?_
      obtain ⟨r_4, M_5, hc, hf⟩ := m_b2x hf
      refine m_ci (va_runV (As := [.int x1, .ref (ad 66), .ref (ad 1)]) (rest := []) ⟨hx, hb, hml, hown, hts⟩ (cB_fill l D ad c3 M x1 66 isX_X_66 hc) (cwV 3 hts (gV k2_226 k2_227 k2_228 k1_6 kc_B_fill) rfl rfl rfl (by decide +kernel) ⟨by decide, by decide⟩) (m_preV hK hN hZ (by decide) rfl rfl) rfl rfl hl.1 rfl (lv_room (Nat.le_of_ble_eq_true rfl)) dG_batch_35 ⟨Nat.zero_le _, Nat.zero_le _⟩) hZ (fun H locs hZ => ?_)
      exact hret _ _ _ _ _ _ hf rfl hZ dG_batch_38
    · have hf := m_t hf c_3
      refine lv_iconst (v := (-1)) hx hb dG_batch_20 (by decide) ?_
      exact hret _ _ _ _ _ _ hf rfl hZ dG_batch_21
abbrev rmG_mass : Room := { frames := 1, cells := 0, slots := 0, locals := 21 }
set_option maxHeartbeats 4000000 in
set_option maxRecDepth 100000 in
theorem cG_mass (l : Launch) (D : va_G) (ad : Nat → Nat) (c3 : ClassId × ClassId × ClassId) (M : mMem) (x1 : Int32) (x2 : Int32)  {r : Int32} (hf : fG_mass M x1 x2 = some r) : kPX l D ad c3 yG_mass wG_mass rmG_mass [.ref (ad 0), .int x1, .int x2] M r := by
  refine m_oP (cc := bG_mass) (maxL := 3) (ty := .int) (own := R_G) nestX (by decide) rfl (Nat.le_of_ble_eq_true rfl) rfl (fun p e s m args below meth c Q hx hb hml hown hts hK hN hret ls hZ hl => ?_)
  have hl : lv_has ls 3 [(0, .ref (ad 0)), (1, .int x1), (2, .int x2)] := hl
  unfold fG_mass at hf
  refine lv_aload_n hx hb dG_mass_0 rfl (lv_at hl 0 rfl) ?_
  refine m_getR (k' := 68) hx hb hts in_G hown hK hZ (by decide) rfl rfl 5 (by decide) (hts _ k2_13) (fun _ h9 => h9) rfl dG_mass_1 ?_
  refine m_get hx hb hts in_B hown hK hZ (by decide) rfl rfl 0 (by decide) (hts _ k1_202) (fun _ h9 => h9) rfl dG_mass_4 ?_
  refine lv_if_eq (tgt := 21) hx hb dG_mass_7 (by decide) (fun c_1 => ?_) (fun c_1 => ?_)
  · have hf := m_t hf c_1
    refine lv_iconst (v := (-1)) hx hb dG_mass_21 (by decide) ?_
    exact hret _ _ _ _ _ (fun _ _ => 0) hf rfl hZ dG_mass_22
  · have hf := m_f hf c_1
    refine lv_aload_n hx hb dG_mass_10 rfl (lv_at hl 0 rfl) ?_
    refine m_getR (k' := 1) hx hb hts in_G hown hK hZ (by decide) rfl rfl 0 (by decide) (hts _ k2_8) (fun _ h9 => h9) rfl dG_mass_11 ?_
    refine lv_iload_n hx hb dG_mass_14 rfl (lv_at hl 1 rfl) ?_
    obtain ⟨r_2, hc, hf⟩ := m_b1x hf
    refine m_ci (va_runV (As := [.int x1]) (rest := []) ⟨hx, hb, hml, hown, hts⟩ (cP_hasStock l D ad c3 M x1 hc) (cwV 1 hts (gV k2_79 k2_80 k2_81 k1_2 kc_P_hasStock) rfl rfl rfl (by decide +kernel) ⟨by decide, by decide⟩) (m_preV hK hN hZ (by decide) rfl rfl) rfl rfl hl.1 rfl (lv_room (Nat.le_of_ble_eq_true rfl)) dG_mass_15 ⟨Nat.zero_le _, Nat.zero_le _⟩) hZ (fun H locs hZ => ?_)
    refine lv_if_ne (tgt := 23) hx hb dG_mass_18 (by decide) (fun c_3 => ?_) (fun c_3 => ?_)
    · have hf := m_f hf c_3
      refine lv_iload_n hx hb dG_mass_23 rfl (lv_at hl 2 rfl) ?_
      refine lv_if_eq (tgt := 39) hx hb dG_mass_24 (by decide) (fun c_4 => ?_) (fun c_4 => ?_)
      · have hf := m_t hf c_4
        refine lv_aload_n hx hb dG_mass_39 rfl (lv_at hl 0 rfl) ?_
        refine m_getR (k' := 68) hx hb hts in_G hown hK hZ (by decide) rfl rfl 5 (by decide) (hts _ k2_13) (fun _ h9 => h9) rfl dG_mass_40 ?_
        refine m_getR (k' := 69) hx hb hts in_B hown hK hZ (by decide) rfl rfl 1 (by decide) (hts _ k1_204) (fun _ h9 => h9) rfl dG_mass_43 ?_
        refine lv_iload_n hx hb dG_mass_46 rfl (lv_at hl 1 rfl) ?_
        obtain ⟨h_inb_x1_4, hf⟩ := m_gx hf
        refine m_iald hx hb hK hZ (by decide) rfl h_inb_x1_4 dG_mass_47 ?_
        exact hret _ _ _ _ _ (fun _ _ => 0) hf rfl hZ dG_mass_48
      · have hf := m_f hf c_4
        refine lv_aload_n hx hb dG_mass_27 rfl (lv_at hl 0 rfl) ?_
        refine m_getR (k' := 68) hx hb hts in_G hown hK hZ (by decide) rfl rfl 5 (by decide) (hts _ k2_13) (fun _ h9 => h9) rfl dG_mass_28 ?_
        refine m_getR (k' := 70) hx hb hts in_B hown hK hZ (by decide) rfl rfl 2 (by decide) (hts _ k1_206) (fun _ h9 => h9) rfl dG_mass_31 ?_
        refine lv_iload_n hx hb dG_mass_34 rfl (lv_at hl 1 rfl) ?_
        obtain ⟨h_inb_x1_4, hf⟩ := m_gx hf
        refine m_iald hx hb hK hZ (by decide) rfl h_inb_x1_4 dG_mass_35 ?_
        refine lv_goto (tgt := 48) hx hb dG_mass_36 (by decide) ?_
        exact hret _ _ _ _ _ (fun _ _ => 0) hf rfl hZ dG_mass_48
    · have hf := m_t hf c_3
      refine lv_iconst (v := (-1)) hx hb dG_mass_21 (by decide) ?_
      exact hret _ _ _ _ _ (fun _ _ => 0) hf rfl hZ dG_mass_22
abbrev rmG_limit : Room := { frames := 1, cells := 0, slots := 0, locals := 22 }
set_option maxHeartbeats 4000000 in
set_option maxRecDepth 100000 in
theorem cG_limit (l : Launch) (D : va_G) (ad : Nat → Nat) (c3 : ClassId × ClassId × ClassId) (M : mMem) (x1 : Int32)  {r : Int32} {M' : mMem} (hf : fG_limit M x1 = some (r, M')) : kIX l D ad c3 yG_limit wG_limit rmG_limit [.ref (ad 0), .int x1] M r M' := by
  refine m_oI (cc := bG_limit) (maxL := 3) (ty := .int) (own := R_G) nestX (by decide) rfl (Nat.le_of_ble_eq_true rfl) rfl (fun p e s m args below meth c Q hx hb hml hown hts hK hN hret ls hZ hl => ?_)
  have hl : lv_has ls 3 [(0, .ref (ad 0)), (1, .int x1)] := hl
  unfold fG_limit at hf
  refine lv_iload_n hx hb dG_limit_0 rfl (lv_at hl 1 rfl) ?_
  refine lv_iconst (v := 1) hx hb dG_limit_1 (by decide) ?_
  refine lv_sipush (v := 1000) hx hb dG_limit_2 (by decide) ?_
  obtain ⟨r_1, hc, hf⟩ := m_b1x hf
  refine m_ci (va_runS (As := [.int x1, .int 1, .int 1000]) (rest := []) ⟨hx, hb, hml, hown, hts⟩ (cG_within l D ad c3 M x1 1 1000 hc) (cwS 3 hts (gS9 k2_68 k2_69 k1_1 kc_G_within) rfl rfl rfl (by decide +kernel) ⟨by decide, by decide⟩) (m_preS hK hN hZ) rfl rfl hl.1 rfl (lv_room (Nat.le_of_ble_eq_true rfl)) dG_limit_5 ⟨Nat.zero_le _, Nat.zero_le _⟩) hZ (fun H locs hZ => ?_)
  refine lv_if_ne (tgt := 13) hx hb dG_limit_8 (by decide) (fun c_2 => ?_) (fun c_2 => ?_)
  · have hf := m_f hf c_2
    refine lv_aload_n hx hb dG_limit_13 rfl (lv_at hl 0 rfl) ?_
    refine m_get hx hb hts in_G hown hK hZ (by decide) rfl rfl 8 (by decide) (hts _ k2_16) (fun _ h9 => h9) rfl dG_limit_14 ?_
    obtain ⟨x2_3, ex2_3, hf⟩ := m_lx hf
    refine m_topi ex2_3 ?_
    refine lv_istore_n (lv' := [(2, .int x2_3), (0, .ref (ad 0)), (1, .int x1)]) hx hb dG_limit_17 rfl hl (by decide) rfl (fun ls hl => ?_)
    refine lv_aload_n hx hb dG_limit_18 rfl (lv_at hl 1 rfl) ?_
    refine lv_iload_n hx hb dG_limit_19 rfl (lv_at hl 2 rfl) ?_
    obtain ⟨M_4, eM_4, hf⟩ := m_lx hf
    refine m_put (ty := .int) hx hb hts in_G ⟨ty_G_ok, nm_G_ok⟩ hown hK hZ (by decide) rfl rfl 8 (by decide) (hts _ k2_16) (fun _ h9 => h9) rfl (by decide +kernel) rfl rfl rfl dG_limit_20 eM_4 (fun H locs hZ => ?_)
    refine lv_iload_n hx hb dG_limit_23 rfl (lv_at hl 0 rfl) ?_
    exact hret _ _ _ _ _ _ hf rfl hZ dG_limit_24
  · have hf := m_t hf c_2
    refine lv_iconst (v := (-1)) hx hb dG_limit_11 (by decide) ?_
    exact hret _ _ _ _ _ _ hf rfl hZ dG_limit_12
abbrev rmL_add : Room := { frames := 0, cells := 0, slots := 0, locals := 0 }
set_option maxHeartbeats 4000000 in
set_option maxRecDepth 100000 in
theorem cL_add (l : Launch) (D : va_G) (ad : Nat → Nat) (c3 : ClassId × ClassId × ClassId) (M : mMem) (x1 : Int32) (x2 : Int32)  {M' : mMem} (hf : fL_add M x1 x2 = some M') : kVX l D ad c3 yL_add wL_add rmL_add [.ref (ad 71), .int x1, .int x2] M M' := by
  refine m_oV (cc := bL_add) (maxL := 3) (own := R_L) nestX (by decide) rfl (Nat.le_of_ble_eq_true rfl) rfl (fun p e s m args below meth c Q hx hb hml hown hts hK hN hret ls hZ hl => ?_)
  have hl : lv_has ls 3 [(0, .ref (ad 71)), (1, .int x1), (2, .int x2)] := hl
  unfold fL_add at hf
  refine lv_aload_n hx hb dL_add_0 rfl (lv_at hl 0 rfl) ?_
  refine m_getR (k' := 73) hx hb hts in_L hown hK hZ (by decide) rfl rfl 2 (by decide) (hts _ k1_224) (fun _ h9 => h9) rfl dL_add_1 ?_
  refine lv_iload_n hx hb dL_add_4 rfl (lv_at hl 1 rfl) ?_
  obtain ⟨h_inb_x1_6, hf⟩ := m_gx hf
  refine m_aald hx hb hK hZ (by decide) rfl h_inb_x1_6 dL_add_5 ?_
  refine lv_aload_n hx hb dL_add_6 rfl (lv_at hl 0 rfl) ?_
  refine m_getR (k' := 72) hx hb hts in_L hown hK hZ (by decide) rfl rfl 1 (by decide) (hts _ k1_223) (fun _ h9 => h9) rfl dL_add_7 ?_
  refine lv_iload_n hx hb dL_add_10 rfl (lv_at hl 1 rfl) ?_
  refine m_iald hx hb hK hZ (by decide) rfl h_inb_x1_6 dL_add_11 ?_
  refine lv_iload_n hx hb dL_add_12 rfl (lv_at hl 2 rfl) ?_
  obtain ⟨h_1, hf⟩ := m_gx hf
  obtain ⟨M_2, eM_2, hf⟩ := m_lx hf
  refine m_iast hx hb hK hZ (grX_73 _ (m_lt h_inb_x1_6)).2 (grX_73 _ (m_lt h_inb_x1_6)).1 h_1 dL_add_13 eM_2 (fun H locs hZ => ?_)
  refine lv_aload_n hx hb dL_add_14 rfl (lv_at hl 0 rfl) ?_
  refine m_getR (k' := 72) hx hb hts in_L hown hK hZ (by decide) rfl rfl 1 (by decide) (hts _ k1_223) (fun _ h9 => h9) rfl dL_add_15 ?_
  refine lv_iload_n hx hb dL_add_18 rfl (lv_at hl 1 rfl) ?_
  refine lv_dup2_11 hx hb dL_add_19 rfl rfl ?_
  refine m_iald hx hb hK hZ (by decide) rfl h_inb_x1_6 dL_add_20 ?_
  refine lv_iconst (v := 1) hx hb dL_add_21 (by decide) ?_
  refine lv_iadd hx hb dL_add_22 ?_
  obtain ⟨M_3, eM_3, hf⟩ := m_lx hf
  refine m_iast hx hb hK hZ (by decide) rfl h_inb_x1_6 dL_add_23 eM_3 (fun H locs hZ => ?_)
  refine lv_aload_n hx hb dL_add_24 rfl (lv_at hl 0 rfl) ?_
  refine lv_dup hx hb dL_add_25 rfl ?_
  refine m_get hx hb hts in_L hown hK hZ (by decide) rfl rfl 0 (by decide) (hts _ k1_221) (fun _ h9 => h9) rfl dL_add_26 ?_
  refine lv_iconst (v := 1) hx hb dL_add_29 (by decide) ?_
  refine lv_iadd hx hb dL_add_30 ?_
  obtain ⟨M_4, eM_4, hf⟩ := m_lx hf
  refine m_put (ty := .int) hx hb hts in_L ⟨ty_L_ok, nm_L_ok⟩ hown hK hZ (by decide) rfl rfl 0 (by decide) (hts _ k1_221) (fun _ h9 => h9) rfl (by decide +kernel) rfl rfl rfl dL_add_31 eM_4 (fun H locs hZ => ?_)
  exact hret _ _ _ _ _ hf hZ dL_add_34
