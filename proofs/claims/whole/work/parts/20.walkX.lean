abbrev rmG_mayBeBand : Room := { frames := 0, cells := 0, slots := 0, locals := 0 }
set_option maxHeartbeats 4000000 in
set_option maxRecDepth 100000 in
theorem cG_mayBeBand (l : Launch) (D : va_G) (ad : Nat → Nat) (c3 : ClassId × ClassId × ClassId) (M : mMem) (x0 : Int32) (x1 : Int32)  {r : Int32} (hf : fG_mayBeBand M x0 x1 = some r) : kPX l D ad c3 yG_mayBeBand wG_mayBeBand rmG_mayBeBand [.int x0, .int x1] M r := by
  refine m_oP (cc := bG_mayBeBand) (maxL := 2) (ty := .boolean) (own := R_G) nestX (by decide) rfl (Nat.le_of_ble_eq_true rfl) rfl (fun p e s m args below meth c Q hx hb hml hown hts hK hN hret ls hZ hl => ?_)
  have hl : lv_has ls 2 [(0, .int x0), (1, .int x1)] := hl
  unfold fG_mayBeBand at hf
  refine lv_iconst (v := 0) hx hb dG_mayBeBand_0 (by decide) ?_
  refine lv_iload_n hx hb dG_mayBeBand_1 rfl (lv_at hl 0 rfl) ?_
  refine lv_icmp_gt (tgt := 21) hx hb dG_mayBeBand_2 (by decide) (fun c_1 => ?_) (fun c_1 => ?_)
  · have hf := m_t hf c_1
    refine lv_iconst (v := 0) hx hb dG_mayBeBand_21 (by decide) ?_
    exact hret _ _ _ _ _ (fun _ _ => 0) hf rfl hZ dG_mayBeBand_22
  · have hf := m_f hf c_1
    refine lv_iload_n hx hb dG_mayBeBand_5 rfl (lv_at hl 0 rfl) ?_
    refine lv_iload_n hx hb dG_mayBeBand_6 rfl (lv_at hl 1 rfl) ?_
    refine lv_icmp_gt (tgt := 21) hx hb dG_mayBeBand_7 (by decide) (fun c_2 => ?_) (fun c_2 => ?_)
    · have hf := m_t hf c_2
      refine lv_iconst (v := 0) hx hb dG_mayBeBand_21 (by decide) ?_
      exact hret _ _ _ _ _ (fun _ _ => 0) hf rfl hZ dG_mayBeBand_22
    · have hf := m_f hf c_2
      refine lv_iload_n hx hb dG_mayBeBand_10 rfl (lv_at hl 1 rfl) ?_
      refine lv_sipush (v := 1000) hx hb dG_mayBeBand_11 (by decide) ?_
      refine lv_icmp_gt (tgt := 21) hx hb dG_mayBeBand_14 (by decide) (fun c_3 => ?_) (fun c_3 => ?_)
      · have hf := m_t hf c_3
        refine lv_iconst (v := 0) hx hb dG_mayBeBand_21 (by decide) ?_
        exact hret _ _ _ _ _ (fun _ _ => 0) hf rfl hZ dG_mayBeBand_22
      · have hf := m_f hf c_3
        refine lv_iconst (v := 1) hx hb dG_mayBeBand_17 (by decide) ?_
        refine lv_goto (tgt := 22) hx hb dG_mayBeBand_18 (by decide) ?_
        exact hret _ _ _ _ _ (fun _ _ => 0) hf rfl hZ dG_mayBeBand_22
abbrev rmP_setBand : Room := { frames := 0, cells := 0, slots := 0, locals := 0 }
set_option maxHeartbeats 4000000 in
set_option maxRecDepth 100000 in
theorem cP_setBand (l : Launch) (D : va_G) (ad : Nat → Nat) (c3 : ClassId × ClassId × ClassId) (M : mMem) (x1 : Int32) (x2 : Int32) (x3 : Int32)  {M' : mMem} (hf : fP_setBand M x1 x2 x3 = some M') : kVX l D ad c3 yP_setBand wP_setBand rmP_setBand [.ref (ad 1), .int x1, .int x2, .int x3] M M' := by
  refine m_oV (cc := bP_setBand) (maxL := 4) (own := R_P) nestX (by decide) rfl (Nat.le_of_ble_eq_true rfl) rfl (fun p e s m args below meth c Q hx hb hml hown hts hK hN hret ls hZ hl => ?_)
  have hl : lv_has ls 4 [(0, .ref (ad 1)), (1, .int x1), (2, .int x2), (3, .int x3)] := hl
  unfold fP_setBand at hf
  refine lv_aload_n hx hb dP_setBand_0 rfl (lv_at hl 0 rfl) ?_
  refine m_getR (k' := 2) hx hb hts in_P hown hK hZ (by decide) rfl rfl 4 (by decide) (hts _ k1_39) (fun _ h9 => h9) rfl dP_setBand_1 ?_
  refine lv_iload_n hx hb dP_setBand_4 rfl (lv_at hl 1 rfl) ?_
  refine lv_iload_n hx hb dP_setBand_5 rfl (lv_at hl 2 rfl) ?_
  obtain ⟨h_inb_x1_6, hf⟩ := m_gx hf
  obtain ⟨M_1, eM_1, hf⟩ := m_lx hf
  refine m_iast hx hb hK hZ (by decide) rfl h_inb_x1_6 dP_setBand_6 eM_1 (fun H locs hZ => ?_)
  refine lv_aload_n hx hb dP_setBand_7 rfl (lv_at hl 0 rfl) ?_
  refine m_getR (k' := 3) hx hb hts in_P hown hK hZ (by decide) rfl rfl 5 (by decide) (hts _ k1_42) (fun _ h9 => h9) rfl dP_setBand_8 ?_
  refine lv_iload_n hx hb dP_setBand_11 rfl (lv_at hl 1 rfl) ?_
  refine lv_iload_n hx hb dP_setBand_12 rfl (lv_at hl 3 rfl) ?_
  obtain ⟨M_2, eM_2, hf⟩ := m_lx hf
  refine m_iast hx hb hK hZ (by decide) rfl h_inb_x1_6 dP_setBand_13 eM_2 (fun H locs hZ => ?_)
  exact hret _ _ _ _ _ hf hZ dP_setBand_14
abbrev rmL_clear : Room := { frames := 0, cells := 0, slots := 0, locals := 0 }
set_option maxHeartbeats 4000000 in
set_option maxRecDepth 100000 in
theorem cL_clear (l : Launch) (D : va_G) (ad : Nat → Nat) (c3 : ClassId × ClassId × ClassId) (M : mMem)   {M' : mMem} (hf : fL_clear M  = some M') : kVX l D ad c3 yL_clear wL_clear rmL_clear [.ref (ad 71)] M M' := by
  refine m_oV (cc := bL_clear) (maxL := 2) (own := R_L) nestX (by decide) rfl (Nat.le_of_ble_eq_true rfl) rfl (fun p e s m args below meth c Q hx hb hml hown hts hK hN hret ls hZ hl => ?_)
  have hl : lv_has ls 2 [(0, .ref (ad 71))] := hl
  unfold fL_clear at hf
  have L12 : ∀ (n12 : Nat) (M : mMem) (x1 : Int32), fL_clear_L12 n12 M x1 = some M' → ∀ (H : Heap) (locs : List Loc) (ls : Array Slot), zX D ad c3 s H locs M → lv_has ls 2 [(0, .ref (ad 71)), (1, .int x1)] → W p l e rmL_clear s m args below meth c H locs 0 0 Q (F0 m 12 ls []) := by
    intro n12
    induction n12 with
    | zero => intro M x1 hf; exact m_none hf
    | succ n12 ih12 =>
      intro M x1 hf H locs ls hZ hl
      rw [fL_clear_L12] at hf
      refine lv_iload_n hx hb dL_clear_12 rfl (lv_at hl 1 rfl) ?_
      refine lv_bipush (v := 6) hx hb dL_clear_13 (by decide) ?_
      refine lv_icmp_ge (tgt := 31) hx hb dL_clear_15 (by decide) (fun c_3 => ?_) (fun c_3 => ?_)
      · have hf := m_t hf c_3
        exact hret _ _ _ _ _ hf hZ dL_clear_31
      · have hf := m_f hf c_3
        refine lv_aload_n hx hb dL_clear_18 rfl (lv_at hl 0 rfl) ?_
        refine m_getR (k' := 72) hx hb hts in_L hown hK hZ (by decide) rfl rfl 1 (by decide) (hts _ k1_223) (fun _ h9 => h9) rfl dL_clear_19 ?_
        refine lv_iload_n hx hb dL_clear_22 rfl (lv_at hl 1 rfl) ?_
        refine lv_iconst (v := 0) hx hb dL_clear_23 (by decide) ?_
        obtain ⟨h_4, hf⟩ := m_gx hf
        obtain ⟨M_5, eM_5, hf⟩ := m_lx hf
        refine m_iast hx hb hK hZ (by decide) rfl h_4 dL_clear_24 eM_5 (fun H locs hZ => ?_)
        obtain ⟨x1_6, ex1_6, hf⟩ := m_lx hf
        refine lv_iinc (v := x1_6) (lv' := [(1, .int x1_6), (0, .ref (ad 71))]) hx hb dL_clear_25 hl (k := 1) rfl (by rw [ex1_6]; rfl) (by decide) rfl (fun ls hl => ?_)
        refine lv_goto (tgt := 12) hx hb dL_clear_28 (by decide) ?_
        exact ih12 _ _ hf _ _ _ hZ (lv_sub hl [1, 0] rfl)
  refine lv_aload_n hx hb dL_clear_0 rfl (lv_at hl 0 rfl) ?_
  refine lv_iconst (v := 0) hx hb dL_clear_1 (by decide) ?_
  obtain ⟨M_1, eM_1, hf⟩ := m_lx hf
  refine m_put (ty := .int) hx hb hts in_L ⟨ty_L_ok, nm_L_ok⟩ hown hK hZ (by decide) rfl rfl 0 (by decide) (hts _ k1_221) (fun _ h9 => h9) rfl (by decide +kernel) rfl rfl rfl dL_clear_2 eM_1 (fun H locs hZ => ?_)
  refine lv_aload_n hx hb dL_clear_5 rfl (lv_at hl 0 rfl) ?_
  refine lv_iconst (v := 0) hx hb dL_clear_6 (by decide) ?_
  obtain ⟨M_2, eM_2, hf⟩ := m_lx hf
  refine m_put (ty := .int) hx hb hts in_L ⟨ty_L_ok, nm_L_ok⟩ hown hK hZ (by decide) rfl rfl 3 (by decide) (hts _ k1_225) (fun _ h9 => h9) rfl (by decide +kernel) rfl rfl rfl dL_clear_7 eM_2 (fun H locs hZ => ?_)
  refine lv_iconst (v := 0) hx hb dL_clear_10 (by decide) ?_
  refine lv_istore_n (lv' := [(1, .int 0), (0, .ref (ad 71))]) hx hb dL_clear_11 rfl hl (by decide) rfl (fun ls hl => ?_)
  exact L12 128 M_2 0 hf _ _ _ hZ (lv_sub hl [1, 0] rfl)
abbrev rmG_forget : Room := { frames := 1, cells := 0, slots := 0, locals := 21 }
set_option maxHeartbeats 4000000 in
set_option maxRecDepth 100000 in
theorem cG_forget (l : Launch) (D : va_G) (ad : Nat → Nat) (c3 : ClassId × ClassId × ClassId) (M : mMem)   {M' : mMem} (hf : fG_forget M  = some M') : kVX l D ad c3 yG_forget wG_forget rmG_forget [.ref (ad 0)] M M' := by
  refine m_oV (cc := bG_forget) (maxL := 1) (own := R_G) nestX (by decide) rfl (Nat.le_of_ble_eq_true rfl) rfl (fun p e s m args below meth c Q hx hb hml hown hts hK hN hret ls hZ hl => ?_)
  have hl : lv_has ls 1 [(0, .ref (ad 0))] := hl
  unfold fG_forget at hf
  refine lv_aload_n hx hb dG_forget_0 rfl (lv_at hl 0 rfl) ?_
  refine m_getR (k' := 66) hx hb hts in_G hown hK hZ (by decide) rfl rfl 4 (by decide) (hts _ k2_12) (fun _ h9 => h9) rfl dG_forget_1 ?_
  refine lv_iconst (v := 0) hx hb dG_forget_4 (by decide) ?_
  obtain ⟨M_1, eM_1, hf⟩ := m_lx hf
  refine m_put (ty := .boolean) hx hb hts in_X ⟨ty_X_ok, nm_X_ok⟩ hown hK hZ (by decide) rfl rfl 0 (by decide) (hts _ k1_110) (fun _ h9 => h9) rfl (by decide +kernel) rfl rfl rfl dG_forget_5 eM_1 (fun H locs hZ => ?_)
  refine lv_aload_n hx hb dG_forget_8 rfl (lv_at hl 0 rfl) ?_
  refine m_getR (k' := 68) hx hb hts in_G hown hK hZ (by decide) rfl rfl 5 (by decide) (hts _ k2_13) (fun _ h9 => h9) rfl dG_forget_9 ?_
  refine lv_iconst (v := 0) hx hb dG_forget_12 (by decide) ?_
  obtain ⟨M_2, eM_2, hf⟩ := m_lx hf
  refine m_put (ty := .boolean) hx hb hts in_B ⟨ty_B_ok, nm_B_ok⟩ hown hK hZ (by decide) rfl rfl 0 (by decide) (hts _ k1_202) (fun _ h9 => h9) rfl (by decide +kernel) rfl rfl rfl dG_forget_13 eM_2 (fun H locs hZ => ?_)
  refine lv_aload_n hx hb dG_forget_16 rfl (lv_at hl 0 rfl) ?_
  refine m_getR (k' := 71) hx hb hts in_G hown hK hZ (by decide) rfl rfl 6 (by decide) (hts _ k2_14) (fun _ h9 => h9) rfl dG_forget_17 ?_
  obtain ⟨M_3, hc, hf⟩ := m_b1x hf
  refine m_cv (va_runV (As := []) (rest := []) ⟨hx, hb, hml, hown, hts⟩ (cL_clear l D ad c3 M_2 hc) (cwV 0 hts (gV k2_51 k2_52 k2_53 k1_7 kc_L_clear) rfl rfl rfl (by decide +kernel) ⟨by decide, by decide⟩) (m_preV hK hN hZ (by decide) rfl rfl) rfl rfl hl.1 rfl (lv_room (Nat.le_of_ble_eq_true rfl)) dG_forget_20 ⟨Nat.zero_le _, Nat.zero_le _⟩) hZ (fun H locs hZ => ?_)
  refine lv_aload_n hx hb dG_forget_23 rfl (lv_at hl 0 rfl) ?_
  refine lv_iconst (v := 0) hx hb dG_forget_24 (by decide) ?_
  obtain ⟨M_4, eM_4, hf⟩ := m_lx hf
  refine m_put (ty := .boolean) hx hb hts in_G ⟨ty_G_ok, nm_G_ok⟩ hown hK hZ (by decide) rfl rfl 7 (by decide) (hts _ k2_15) (fun _ h9 => h9) rfl (by decide +kernel) rfl rfl rfl dG_forget_25 eM_4 (fun H locs hZ => ?_)
  exact hret _ _ _ _ _ hf hZ dG_forget_28
abbrev rmG_sieve : Room := { frames := 2, cells := 0, slots := 0, locals := 41 }
set_option maxHeartbeats 4000000 in
set_option maxRecDepth 100000 in
theorem cG_sieve (l : Launch) (D : va_G) (ad : Nat → Nat) (c3 : ClassId × ClassId × ClassId) (M : mMem) (x1 : Int32) (x2 : Int32)  {r : Int32} {M' : mMem} (hf : fG_sieve M x1 x2 = some (r, M')) : kIX l D ad c3 yG_sieve wG_sieve rmG_sieve [.ref (ad 0), .int x1, .int x2] M r M' := by
  refine m_oI (cc := bG_sieve) (maxL := 4) (ty := .int) (own := R_G) nestX (by decide) rfl (Nat.le_of_ble_eq_true rfl) rfl (fun p e s m args below meth c Q hx hb hml hown hts hK hN hret ls hZ hl => ?_)
  have hl : lv_has ls 4 [(0, .ref (ad 0)), (1, .int x1), (2, .int x2)] := hl
  unfold fG_sieve at hf
  refine lv_iload_n hx hb dG_sieve_0 rfl (lv_at hl 1 rfl) ?_
  refine lv_iload_n hx hb dG_sieve_1 rfl (lv_at hl 2 rfl) ?_
  obtain ⟨r_1, hc, hf⟩ := m_b1x hf
  refine m_ci (va_runS (As := [.int x1, .int x2]) (rest := []) ⟨hx, hb, hml, hown, hts⟩ (cG_mayBeBand l D ad c3 M x1 x2 hc) (cwS 2 hts (gS9 k2_40 k2_41 k1_1 kc_G_mayBeBand) rfl rfl rfl (by decide +kernel) ⟨by decide, by decide⟩) (m_preS hK hN hZ) rfl rfl hl.1 rfl (lv_room (Nat.le_of_ble_eq_true rfl)) dG_sieve_2 ⟨Nat.zero_le _, Nat.zero_le _⟩) hZ (fun H locs hZ => ?_)
  refine lv_if_eq (tgt := 20) hx hb dG_sieve_5 (by decide) (fun c_2 => ?_) (fun c_2 => ?_)
  · have hf := m_t hf c_2
    refine lv_iconst (v := (-1)) hx hb dG_sieve_20 (by decide) ?_
    exact hret _ _ _ _ _ _ hf rfl hZ dG_sieve_21
  · have hf := m_f hf c_2
    refine lv_aload_n hx hb dG_sieve_8 rfl (lv_at hl 0 rfl) ?_
    refine m_getR (k' := 1) hx hb hts in_G hown hK hZ (by decide) rfl rfl 0 (by decide) (hts _ k2_8) (fun _ h9 => h9) rfl dG_sieve_9 ?_
    refine m_get hx hb hts in_P hown hK hZ (by decide) rfl rfl 0 (by decide) (hts _ k1_28) (fun _ h9 => h9) rfl dG_sieve_12 ?_
    refine lv_bipush (v := 6) hx hb dG_sieve_15 (by decide) ?_
    refine lv_icmp_lt (tgt := 22) hx hb dG_sieve_17 (by decide) (fun c_3 => ?_) (fun c_3 => ?_)
    · have hf := m_t hf c_3
      refine lv_aload_n hx hb dG_sieve_22 rfl (lv_at hl 0 rfl) ?_
      refine m_getR (k' := 1) hx hb hts in_G hown hK hZ (by decide) rfl rfl 0 (by decide) (hts _ k2_8) (fun _ h9 => h9) rfl dG_sieve_23 ?_
      refine m_get hx hb hts in_P hown hK hZ (by decide) rfl rfl 0 (by decide) (hts _ k1_28) (fun _ h9 => h9) rfl dG_sieve_26 ?_
      obtain ⟨x3_4, ex3_4, hf⟩ := m_lx hf
      refine m_topi ex3_4 ?_
      refine lv_istore_n (lv' := [(3, .int x3_4), (0, .ref (ad 0)), (1, .int x1), (2, .int x2)]) hx hb dG_sieve_29 rfl hl (by decide) rfl (fun ls hl => ?_)
      refine lv_aload_n hx hb dG_sieve_30 rfl (lv_at hl 1 rfl) ?_
      refine m_getR (k' := 1) hx hb hts in_G hown hK hZ (by decide) rfl rfl 0 (by decide) (hts _ k2_8) (fun _ h9 => h9) rfl dG_sieve_31 ?_
      refine lv_dup hx hb dG_sieve_34 rfl ?_
      refine m_get hx hb hts in_P hown hK hZ (by decide) rfl rfl 0 (by decide) (hts _ k1_28) (fun _ h9 => h9) rfl dG_sieve_35 ?_
      refine lv_iconst (v := 1) hx hb dG_sieve_38 (by decide) ?_
      refine lv_iadd hx hb dG_sieve_39 ?_
      obtain ⟨M_5, eM_5, hf⟩ := m_lx hf
      refine m_put (ty := .int) hx hb hts in_P ⟨ty_P_ok, nm_P_ok⟩ hown hK hZ (by decide) rfl rfl 0 (by decide) (hts _ k1_28) (fun _ h9 => h9) rfl (by decide +kernel) rfl rfl rfl dG_sieve_40 eM_5 (fun H locs hZ => ?_)
      refine lv_aload_n hx hb dG_sieve_43 rfl (lv_at hl 1 rfl) ?_
      refine m_getR (k' := 1) hx hb hts in_G hown hK hZ (by decide) rfl rfl 0 (by decide) (hts _ k2_8) (fun _ h9 => h9) rfl dG_sieve_44 ?_
      refine lv_iload_n hx hb dG_sieve_47 rfl (lv_at hl 0 rfl) ?_
      refine lv_iload_n hx hb dG_sieve_48 rfl (lv_at hl 2 rfl) ?_
      refine lv_iload_n hx hb dG_sieve_49 rfl (lv_at hl 3 rfl) ?_
      obtain ⟨M_6, hc, hf⟩ := m_b1x hf
      refine m_cv (va_runV (As := [.int x3_4, .int x1, .int x2]) (rest := []) ⟨hx, hb, hml, hown, hts⟩ (cP_setBand l D ad c3 M_5 x3_4 x1 x2 hc) (cwV 3 hts (gV k2_43 k2_44 k2_45 k1_2 kc_P_setBand) rfl rfl rfl (by decide +kernel) ⟨by decide, by decide⟩) (m_preV hK hN hZ (by decide) rfl rfl) rfl rfl hl.1 rfl (lv_room (Nat.le_of_ble_eq_true rfl)) dG_sieve_50 ⟨Nat.zero_le _, Nat.zero_le _⟩) hZ (fun H locs hZ => ?_)
      refine lv_aload_n hx hb dG_sieve_53 rfl (lv_at hl 1 rfl) ?_
      obtain ⟨M_7, hc, hf⟩ := m_b1x hf
      refine m_cv (va_runV (As := []) (rest := []) ⟨hx, hb, hml, hown, hts⟩ (cG_forget l D ad c3 M_6 hc) (cwV 0 hts (gV k2_47 k2_49 kp_0 k1_1 kc_G_forget) rfl rfl rfl (by decide +kernel) ⟨by decide, by decide⟩) (m_preV hK hN hZ (by decide) rfl rfl) rfl rfl hl.1 rfl (lv_room (Nat.le_of_ble_eq_true rfl)) dG_sieve_54 ⟨Nat.zero_le _, Nat.zero_le _⟩) hZ (fun H locs hZ => ?_)
      refine lv_iload_n hx hb dG_sieve_57 rfl (lv_at hl 0 rfl) ?_
      exact hret _ _ _ _ _ _ hf rfl hZ dG_sieve_58
    · have hf := m_f hf c_3
      refine lv_iconst (v := (-1)) hx hb dG_sieve_20 (by decide) ?_
      exact hret _ _ _ _ _ _ hf rfl hZ dG_sieve_21
abbrev rmP_hasSieve : Room := { frames := 0, cells := 0, slots := 0, locals := 0 }
set_option maxHeartbeats 4000000 in
set_option maxRecDepth 100000 in
theorem cP_hasSieve (l : Launch) (D : va_G) (ad : Nat → Nat) (c3 : ClassId × ClassId × ClassId) (M : mMem) (x1 : Int32)  {r : Int32} (hf : fP_hasSieve M x1 = some r) : kPX l D ad c3 yP_hasSieve wP_hasSieve rmP_hasSieve [.ref (ad 1), .int x1] M r := by
  refine m_oP (cc := bP_hasSieve) (maxL := 2) (ty := .boolean) (own := R_P) nestX (by decide) rfl (Nat.le_of_ble_eq_true rfl) rfl (fun p e s m args below meth c Q hx hb hml hown hts hK hN hret ls hZ hl => ?_)
  have hl : lv_has ls 2 [(0, .ref (ad 1)), (1, .int x1)] := hl
  unfold fP_hasSieve at hf
  refine lv_iconst (v := 0) hx hb dP_hasSieve_0 (by decide) ?_
  refine lv_iload_n hx hb dP_hasSieve_1 rfl (lv_at hl 1 rfl) ?_
  refine lv_icmp_gt (tgt := 17) hx hb dP_hasSieve_2 (by decide) (fun c_1 => ?_) (fun c_1 => ?_)
  · have hf := m_t hf c_1
    refine lv_iconst (v := 0) hx hb dP_hasSieve_17 (by decide) ?_
    exact hret _ _ _ _ _ (fun _ _ => 0) hf rfl hZ dP_hasSieve_18
  · have hf := m_f hf c_1
    refine lv_iload_n hx hb dP_hasSieve_5 rfl (lv_at hl 1 rfl) ?_
    refine lv_aload_n hx hb dP_hasSieve_6 rfl (lv_at hl 0 rfl) ?_
    refine m_get hx hb hts in_P hown hK hZ (by decide) rfl rfl 0 (by decide) (hts _ k1_26) (fun _ h9 => h9) rfl dP_hasSieve_7 ?_
    refine lv_icmp_ge (tgt := 17) hx hb dP_hasSieve_10 (by decide) (fun c_2 => ?_) (fun c_2 => ?_)
    · have hf := m_t hf c_2
      refine lv_iconst (v := 0) hx hb dP_hasSieve_17 (by decide) ?_
      exact hret _ _ _ _ _ (fun _ _ => 0) hf rfl hZ dP_hasSieve_18
    · have hf := m_f hf c_2
      refine lv_iconst (v := 1) hx hb dP_hasSieve_13 (by decide) ?_
      refine lv_goto (tgt := 18) hx hb dP_hasSieve_14 (by decide) ?_
      exact hret _ _ _ _ _ (fun _ _ => 0) hf rfl hZ dP_hasSieve_18
abbrev rmG_band : Room := { frames := 2, cells := 0, slots := 0, locals := 41 }
set_option maxHeartbeats 4000000 in
set_option maxRecDepth 100000 in
theorem cG_band (l : Launch) (D : va_G) (ad : Nat → Nat) (c3 : ClassId × ClassId × ClassId) (M : mMem) (x1 : Int32) (x2 : Int32) (x3 : Int32)  {r : Int32} {M' : mMem} (hf : fG_band M x1 x2 x3 = some (r, M')) : kIX l D ad c3 yG_band wG_band rmG_band [.ref (ad 0), .int x1, .int x2, .int x3] M r M' := by
  refine m_oI (cc := bG_band) (maxL := 4) (ty := .boolean) (own := R_G) nestX (by decide) rfl (Nat.le_of_ble_eq_true rfl) rfl (fun p e s m args below meth c Q hx hb hml hown hts hK hN hret ls hZ hl => ?_)
  have hl : lv_has ls 4 [(0, .ref (ad 0)), (1, .int x1), (2, .int x2), (3, .int x3)] := hl
  unfold fG_band at hf
  refine lv_aload_n hx hb dG_band_0 rfl (lv_at hl 0 rfl) ?_
  refine m_getR (k' := 1) hx hb hts in_G hown hK hZ (by decide) rfl rfl 0 (by decide) (hts _ k2_8) (fun _ h9 => h9) rfl dG_band_1 ?_
  refine lv_iload_n hx hb dG_band_4 rfl (lv_at hl 1 rfl) ?_
  obtain ⟨r_1, hc, hf⟩ := m_b1x hf
  refine m_ci (va_runV (As := [.int x1]) (rest := []) ⟨hx, hb, hml, hown, hts⟩ (cP_hasSieve l D ad c3 M x1 hc) (cwV 1 hts (gV k2_59 k2_60 k2_61 k1_2 kc_P_hasSieve) rfl rfl rfl (by decide +kernel) ⟨by decide, by decide⟩) (m_preV hK hN hZ (by decide) rfl rfl) rfl rfl hl.1 rfl (lv_room (Nat.le_of_ble_eq_true rfl)) dG_band_5 ⟨Nat.zero_le _, Nat.zero_le _⟩) hZ (fun H locs hZ => ?_)
  refine lv_if_eq (tgt := 19) hx hb dG_band_8 (by decide) (fun c_2 => ?_) (fun c_2 => ?_)
  · have hf := m_t hf c_2
    refine lv_iconst (v := 0) hx hb dG_band_19 (by decide) ?_
    exact hret _ _ _ _ _ _ hf rfl hZ dG_band_20
  · have hf := m_f hf c_2
    refine lv_iload_n hx hb dG_band_11 rfl (lv_at hl 2 rfl) ?_
    refine lv_iload_n hx hb dG_band_12 rfl (lv_at hl 3 rfl) ?_
    obtain ⟨r_3, hc, hf⟩ := m_b1x hf
    refine m_ci (va_runS (As := [.int x2, .int x3]) (rest := []) ⟨hx, hb, hml, hown, hts⟩ (cG_mayBeBand l D ad c3 M x2 x3 hc) (cwS 2 hts (gS9 k2_40 k2_41 k1_1 kc_G_mayBeBand) rfl rfl rfl (by decide +kernel) ⟨by decide, by decide⟩) (m_preS hK hN hZ) rfl rfl hl.1 rfl (lv_room (Nat.le_of_ble_eq_true rfl)) dG_band_13 ⟨Nat.zero_le _, Nat.zero_le _⟩) hZ (fun H locs hZ => ?_)
    refine lv_if_ne (tgt := 21) hx hb dG_band_16 (by decide) (fun c_4 => ?_) (fun c_4 => ?_)
    · have hf := m_f hf c_4
      refine lv_aload_n hx hb dG_band_21 rfl (lv_at hl 0 rfl) ?_
      refine m_getR (k' := 1) hx hb hts in_G hown hK hZ (by decide) rfl rfl 0 (by decide) (hts _ k2_8) (fun _ h9 => h9) rfl dG_band_22 ?_
      refine lv_iload_n hx hb dG_band_25 rfl (lv_at hl 1 rfl) ?_
      refine lv_iload_n hx hb dG_band_26 rfl (lv_at hl 2 rfl) ?_
      refine lv_iload_n hx hb dG_band_27 rfl (lv_at hl 3 rfl) ?_
      obtain ⟨M_5, hc, hf⟩ := m_b1x hf
      refine m_cv (va_runV (As := [.int x1, .int x2, .int x3]) (rest := []) ⟨hx, hb, hml, hown, hts⟩ (cP_setBand l D ad c3 M x1 x2 x3 hc) (cwV 3 hts (gV k2_43 k2_44 k2_45 k1_2 kc_P_setBand) rfl rfl rfl (by decide +kernel) ⟨by decide, by decide⟩) (m_preV hK hN hZ (by decide) rfl rfl) rfl rfl hl.1 rfl (lv_room (Nat.le_of_ble_eq_true rfl)) dG_band_28 ⟨Nat.zero_le _, Nat.zero_le _⟩) hZ (fun H locs hZ => ?_)
      refine lv_aload_n hx hb dG_band_31 rfl (lv_at hl 0 rfl) ?_
      obtain ⟨M_6, hc, hf⟩ := m_b1x hf
      refine m_cv (va_runV (As := []) (rest := []) ⟨hx, hb, hml, hown, hts⟩ (cG_forget l D ad c3 M_5 hc) (cwV 0 hts (gV k2_47 k2_49 kp_0 k1_1 kc_G_forget) rfl rfl rfl (by decide +kernel) ⟨by decide, by decide⟩) (m_preV hK hN hZ (by decide) rfl rfl) rfl rfl hl.1 rfl (lv_room (Nat.le_of_ble_eq_true rfl)) dG_band_32 ⟨Nat.zero_le _, Nat.zero_le _⟩) hZ (fun H locs hZ => ?_)
      refine lv_iconst (v := 1) hx hb dG_band_35 (by decide) ?_
      exact hret _ _ _ _ _ _ hf rfl hZ dG_band_36
    · have hf := m_t hf c_4
      refine lv_iconst (v := 0) hx hb dG_band_19 (by decide) ?_
      exact hret _ _ _ _ _ _ hf rfl hZ dG_band_20
abbrev rmG_within : Room := { frames := 0, cells := 0, slots := 0, locals := 0 }
set_option maxHeartbeats 4000000 in
set_option maxRecDepth 100000 in
theorem cG_within (l : Launch) (D : va_G) (ad : Nat → Nat) (c3 : ClassId × ClassId × ClassId) (M : mMem) (x0 : Int32) (x1 : Int32) (x2 : Int32)  {r : Int32} (hf : fG_within M x0 x1 x2 = some r) : kPX l D ad c3 yG_within wG_within rmG_within [.int x0, .int x1, .int x2] M r := by
  refine m_oP (cc := bG_within) (maxL := 3) (ty := .boolean) (own := R_G) nestX (by decide) rfl (Nat.le_of_ble_eq_true rfl) rfl (fun p e s m args below meth c Q hx hb hml hown hts hK hN hret ls hZ hl => ?_)
  have hl : lv_has ls 3 [(0, .int x0), (1, .int x1), (2, .int x2)] := hl
  unfold fG_within at hf
  refine lv_iload_n hx hb dG_within_0 rfl (lv_at hl 1 rfl) ?_
  refine lv_iload_n hx hb dG_within_1 rfl (lv_at hl 0 rfl) ?_
  refine lv_icmp_gt (tgt := 14) hx hb dG_within_2 (by decide) (fun c_1 => ?_) (fun c_1 => ?_)
  · have hf := m_t hf c_1
    refine lv_iconst (v := 0) hx hb dG_within_14 (by decide) ?_
    exact hret _ _ _ _ _ (fun _ _ => 0) hf rfl hZ dG_within_15
  · have hf := m_f hf c_1
    refine lv_iload_n hx hb dG_within_5 rfl (lv_at hl 0 rfl) ?_
    refine lv_iload_n hx hb dG_within_6 rfl (lv_at hl 2 rfl) ?_
    refine lv_icmp_gt (tgt := 14) hx hb dG_within_7 (by decide) (fun c_2 => ?_) (fun c_2 => ?_)
    · have hf := m_t hf c_2
      refine lv_iconst (v := 0) hx hb dG_within_14 (by decide) ?_
      exact hret _ _ _ _ _ (fun _ _ => 0) hf rfl hZ dG_within_15
    · have hf := m_f hf c_2
      refine lv_iconst (v := 1) hx hb dG_within_10 (by decide) ?_
      refine lv_goto (tgt := 15) hx hb dG_within_11 (by decide) ?_
      exact hret _ _ _ _ _ (fun _ _ => 0) hf rfl hZ dG_within_15
abbrev rmP_setStock : Room := { frames := 0, cells := 0, slots := 0, locals := 0 }
set_option maxHeartbeats 4000000 in
set_option maxRecDepth 100000 in
theorem cP_setStock (l : Launch) (D : va_G) (ad : Nat → Nat) (c3 : ClassId × ClassId × ClassId) (M : mMem) (x1 : Int32) (x2 : Int32) (x3 : Int32) (x4 : Int32) (x5 : Int32)  {M' : mMem} (hf : fP_setStock M x1 x2 x3 x4 x5 = some M') : kVX l D ad c3 yP_setStock wP_setStock rmP_setStock [.ref (ad 1), .int x1, .int x2, .int x3, .int x4, .int x5] M M' := by
  refine m_oV (cc := bP_setStock) (maxL := 6) (own := R_P) nestX (by decide) rfl (Nat.le_of_ble_eq_true rfl) rfl (fun p e s m args below meth c Q hx hb hml hown hts hK hN hret ls hZ hl => ?_)
  have hl : lv_has ls 6 [(0, .ref (ad 1)), (1, .int x1), (2, .int x2), (3, .int x3), (4, .int x4), (5, .int x5)] := hl
  unfold fP_setStock at hf
  refine lv_aload_n hx hb dP_setStock_0 rfl (lv_at hl 0 rfl) ?_
  refine m_getR (k' := 4) hx hb hts in_P hown hK hZ (by decide) rfl rfl 6 (by decide) (hts _ k1_45) (fun _ h9 => h9) rfl dP_setStock_1 ?_
  refine lv_iload_n hx hb dP_setStock_4 rfl (lv_at hl 1 rfl) ?_
  refine lv_iload_n hx hb dP_setStock_5 rfl (lv_at hl 2 rfl) ?_
  obtain ⟨h_inb_x1_4, hf⟩ := m_gx hf
  obtain ⟨M_1, eM_1, hf⟩ := m_lx hf
  refine m_iast hx hb hK hZ (by decide) rfl h_inb_x1_4 dP_setStock_6 eM_1 (fun H locs hZ => ?_)
  refine lv_aload_n hx hb dP_setStock_7 rfl (lv_at hl 0 rfl) ?_
  refine m_getR (k' := 5) hx hb hts in_P hown hK hZ (by decide) rfl rfl 7 (by decide) (hts _ k1_47) (fun _ h9 => h9) rfl dP_setStock_8 ?_
  refine lv_iload_n hx hb dP_setStock_11 rfl (lv_at hl 1 rfl) ?_
  refine lv_iload_n hx hb dP_setStock_12 rfl (lv_at hl 3 rfl) ?_
  obtain ⟨M_2, eM_2, hf⟩ := m_lx hf
  refine m_iast hx hb hK hZ (by decide) rfl h_inb_x1_4 dP_setStock_13 eM_2 (fun H locs hZ => ?_)
  refine lv_aload_n hx hb dP_setStock_14 rfl (lv_at hl 0 rfl) ?_
  refine m_getR (k' := 6) hx hb hts in_P hown hK hZ (by decide) rfl rfl 8 (by decide) (hts _ k1_49) (fun _ h9 => h9) rfl dP_setStock_15 ?_
  refine lv_iload_n hx hb dP_setStock_18 rfl (lv_at hl 1 rfl) ?_
  refine lv_iload hx hb dP_setStock_19 (lv_at hl 4 rfl) ?_
  obtain ⟨M_3, eM_3, hf⟩ := m_lx hf
  refine m_iast hx hb hK hZ (by decide) rfl h_inb_x1_4 dP_setStock_21 eM_3 (fun H locs hZ => ?_)
  refine lv_aload_n hx hb dP_setStock_22 rfl (lv_at hl 0 rfl) ?_
  refine m_getR (k' := 7) hx hb hts in_P hown hK hZ (by decide) rfl rfl 9 (by decide) (hts _ k1_51) (fun _ h9 => h9) rfl dP_setStock_23 ?_
  refine lv_iload_n hx hb dP_setStock_26 rfl (lv_at hl 1 rfl) ?_
  refine lv_iload hx hb dP_setStock_27 (lv_at hl 5 rfl) ?_
  obtain ⟨M_4, eM_4, hf⟩ := m_lx hf
  refine m_zast hx hb hK hZ (by decide) rfl h_inb_x1_4 dP_setStock_29 eM_4 rfl (fun H locs hZ => ?_)
  exact hret _ _ _ _ _ hf hZ dP_setStock_30
