abbrev rmM_upperPart : Room := { frames := 0, cells := 0, slots := 0, locals := 0 }
set_option maxHeartbeats 4000000 in
set_option maxRecDepth 100000 in
theorem cM_upperPart (l : Launch) (D : va_G) (ad : Nat → Nat) (c3 : ClassId × ClassId × ClassId) (M : mMem) (x1 : Int32) (x2 : Int32)  {r : Int32} (hf : fM_upperPart M x1 x2 = some r) : kPM l D ad c3 yM_upperPart wM_upperPart rmM_upperPart [.ref (ad 0), .int x1, .int x2] M r := by
  refine m_oP (cc := bM_upperPart) (maxL := 4) (ty := .int) (own := R_M) nestM (by decide) rfl (Nat.le_of_ble_eq_true rfl) rfl (fun p e s m args below meth c Q hx hb hml hown hts hK hN hret ls hZ hl => ?_)
  have hl : lv_has ls 4 [(0, .ref (ad 0)), (1, .int x1), (2, .int x2)] := hl
  unfold fM_upperPart at hf
  refine lv_aload_n hx hb dM_upperPart_0 rfl (lv_at hl 0 rfl) ?_
  refine m_getR (k' := 8) hx hb hts in_M hown hK hZ (by decide) rfl rfl 9 (by decide) (hts _ k3_48) (fun _ h9 => h9) rfl dM_upperPart_1 ?_
  refine lv_bipush (v := 6) hx hb dM_upperPart_4 (by decide) ?_
  refine lv_iload_n hx hb dM_upperPart_6 rfl (lv_at hl 1 rfl) ?_
  refine lv_imul hx hb dM_upperPart_7 ?_
  refine lv_iload_n hx hb dM_upperPart_8 rfl (lv_at hl 2 rfl) ?_
  refine lv_iadd hx hb dM_upperPart_9 ?_
  obtain ⟨h_1, hf⟩ := m_gx hf
  refine m_iald hx hb hK hZ (by decide) rfl h_1 dM_upperPart_10 ?_
  refine lv_aload_n hx hb dM_upperPart_11 rfl (lv_at hl 0 rfl) ?_
  refine m_getR (k' := 9) hx hb hts in_M hown hK hZ (by decide) rfl rfl 10 (by decide) (hts _ k3_49) (fun _ h9 => h9) rfl dM_upperPart_12 ?_
  refine lv_bipush (v := 6) hx hb dM_upperPart_15 (by decide) ?_
  refine lv_iload_n hx hb dM_upperPart_17 rfl (lv_at hl 1 rfl) ?_
  refine lv_imul hx hb dM_upperPart_18 ?_
  refine lv_iload_n hx hb dM_upperPart_19 rfl (lv_at hl 2 rfl) ?_
  refine lv_iadd hx hb dM_upperPart_20 ?_
  refine m_iald hx hb hK hZ (by decide) rfl h_1 dM_upperPart_21 ?_
  refine lv_iadd hx hb dM_upperPart_22 ?_
  obtain ⟨x3_2, ex3_2, hf⟩ := m_lx hf
  refine m_topi ex3_2 ?_
  refine lv_istore_n (lv' := [(3, .int x3_2), (0, .ref (ad 0)), (1, .int x1), (2, .int x2)]) hx hb dM_upperPart_23 rfl hl (by decide) rfl (fun ls hl => ?_)
  refine lv_iload_n hx hb dM_upperPart_24 rfl (lv_at hl 0 rfl) ?_
  refine lv_sipush (v := 1000) hx hb dM_upperPart_25 (by decide) ?_
  refine lv_icmp_le (tgt := 37) hx hb dM_upperPart_28 (by decide) (fun c_3 => ?_) (fun c_3 => ?_)
  · have hf := m_t hf c_3
    refine lv_iload_n hx hb dM_upperPart_37 rfl (lv_at hl 0 rfl) ?_
    exact hret _ _ _ _ _ (fun _ _ => 0) hf rfl hZ dM_upperPart_38
  · have hf := m_f hf c_3
    refine lv_sipush (v := 1000) hx hb dM_upperPart_31 (by decide) ?_
    refine lv_goto (tgt := 38) hx hb dM_upperPart_34 (by decide) ?_
    exact hret _ _ _ _ _ (fun _ _ => 0) hf rfl hZ dM_upperPart_38
abbrev rmM_endOf : Room := { frames := 1, cells := 0, slots := 0, locals := 23 }
set_option maxHeartbeats 4000000 in
set_option maxRecDepth 100000 in
theorem cM_endOf (l : Launch) (D : va_G) (ad : Nat → Nat) (c3 : ClassId × ClassId × ClassId) (M : mMem) (k1 : Nat) (x2 : Int32) (x3 : Int32) (qk1 : isM_row 4 k1) {r : Int32} (hf : fM_endOf M k1 x2 x3 = some r) : kPM l D ad c3 yM_endOf wM_endOf rmM_endOf [.ref (ad 0), .ref (ad k1), .int x2, .int x3] M r := by
  refine m_oP (cc := bM_endOf) (maxL := 7) (ty := .int) (own := R_M) nestM (by decide) rfl (Nat.le_of_ble_eq_true rfl) rfl (fun p e s m args below meth c Q hx hb hml hown hts hK hN hret ls hZ hl => ?_)
  have hl : lv_has ls 7 [(0, .ref (ad 0)), (1, .ref (ad k1)), (2, .int x2), (3, .int x3)] := hl
  unfold fM_endOf at hf
  have L6 : ∀ (n6 : Nat) (x4 : Int32) (x5 : Int32), fM_endOf_L6 k1 x2 x3 M n6 x4 x5 = some r → ∀ (H : Heap) (locs : List Loc) (ls : Array Slot), zM D ad c3 s H locs M → lv_has ls 7 [(0, .ref (ad 0)), (1, .ref (ad k1)), (2, .int x2), (3, .int x3), (4, .int x4), (5, .int x5)] → W p l e rmM_endOf s m args below meth c H locs 0 0 Q (F0 m 6 ls []) := by
    intro n6
    induction n6 with
    | zero => intro x4 x5 hf; exact m_none hf
    | succ n6 ih6 =>
      intro x4 x5 hf H locs ls hZ hl
      rw [fM_endOf_L6] at hf
      refine lv_iload hx hb dM_endOf_6 (lv_at hl 5 rfl) ?_
      refine lv_aload_n hx hb dM_endOf_8 rfl (lv_at hl 0 rfl) ?_
      refine m_get hx hb hts in_M hown hK hZ (by decide) rfl rfl 3 (by decide) (hts _ k3_42) (fun _ h9 => h9) rfl dM_endOf_9 ?_
      refine lv_icmp_ge (tgt := 76) hx hb dM_endOf_12 (by decide) (fun c_1 => ?_) (fun c_1 => ?_)
      · have hf := m_t hf c_1
        refine lv_iload hx hb dM_endOf_76 (lv_at hl 4 rfl) ?_
        exact hret _ _ _ _ _ (fun _ _ => 0) hf rfl hZ dM_endOf_78
      · have hf := m_f hf c_1
        refine lv_iload_n hx hb dM_endOf_15 rfl (lv_at hl 3 rfl) ?_
        refine lv_if_ne (tgt := 34) hx hb dM_endOf_16 (by decide) (fun c_2 => ?_) (fun c_2 => ?_)
        · have hf := m_f hf c_2
          refine lv_iload_n hx hb dM_endOf_34 rfl (lv_at hl 3 rfl) ?_
          refine lv_iconst (v := 1) hx hb dM_endOf_35 (by decide) ?_
          refine lv_icmp_ne (tgt := 49) hx hb dM_endOf_36 (by decide) (fun c_8 => ?_) (fun c_8 => ?_)
          · have hf := m_f hf c_8
            refine lv_aload_n hx hb dM_endOf_49 rfl (lv_at hl 0 rfl) ?_
            refine lv_iload hx hb dM_endOf_50 (lv_at hl 5 rfl) ?_
            refine lv_iload_n hx hb dM_endOf_52 rfl (lv_at hl 2 rfl) ?_
            obtain ⟨r_13, hc, hf⟩ := m_b1x hf
            refine m_ci (va_runV (As := [.int x5, .int x2]) (rest := []) ⟨hx, hb, hml, hown, hts⟩ (cM_upperPart l D ad c3 M x5 x2 hc) (cwV 2 hts (gV k4_6 k4_8 kp_24 k1_8 kc_M_upperPart) rfl rfl rfl (by decide +kernel) ⟨by decide, by decide⟩) (m_preV hK hN hZ (by decide) rfl rfl) rfl rfl hl.1 rfl (lv_room (Nat.le_of_ble_eq_true rfl)) dM_endOf_53 ⟨Nat.zero_le _, Nat.zero_le _⟩) hZ (fun H locs hZ => ?_)
            refine lv_istore (lv' := [(6, .int r_13), (0, .ref (ad 0)), (1, .ref (ad k1)), (2, .int x2), (3, .int x3), (4, .int x4), (5, .int x5)]) hx hb dM_endOf_56 hl (by decide) rfl (fun ls hl => ?_)
            refine lv_iload hx hb dM_endOf_58 (lv_at hl 5 rfl) ?_
            refine lv_aload_n hx hb dM_endOf_60 rfl (lv_at hl 2 rfl) ?_
            refine lv_iload hx hb dM_endOf_61 (lv_at hl 6 rfl) ?_
            obtain ⟨h_14, hf⟩ := m_gx hf
            refine m_iald hx hb hK hZ qk1.2 qk1.1 h_14 dM_endOf_63 ?_
            refine lv_iload hx hb dM_endOf_64 (lv_at hl 0 rfl) ?_
            refine lv_imul hx hb dM_endOf_66 ?_
            refine lv_iadd hx hb dM_endOf_67 ?_
            obtain ⟨x4_15, ex4_15, hf⟩ := m_lx hf
            refine m_topi ex4_15 ?_
            refine lv_istore (lv' := [(4, .int x4_15), (6, .int r_13), (0, .ref (ad 0)), (1, .ref (ad k1)), (2, .int x2), (3, .int x3), (5, .int x5)]) hx hb dM_endOf_68 hl (by decide) rfl (fun ls hl => ?_)
            obtain ⟨x5_16, ex5_16, hf⟩ := m_lx hf
            refine lv_iinc (v := x5_16) (lv' := [(5, .int x5_16), (4, .int x4_15), (6, .int r_13), (0, .ref (ad 0)), (1, .ref (ad k1)), (2, .int x2), (3, .int x3)]) hx hb dM_endOf_70 hl (k := 6) rfl (by rw [ex5_16]; rfl) (by decide) rfl (fun ls hl => ?_)
            refine lv_goto (tgt := 6) hx hb dM_endOf_73 (by decide) ?_
            exact ih6 _ _ hf _ _ _ hZ (lv_sub hl [3, 4, 5, 6, 1, 0] rfl)
          · have hf := m_t hf c_8
            refine lv_aload_n hx hb dM_endOf_39 rfl (lv_at hl 0 rfl) ?_
            refine lv_iload hx hb dM_endOf_40 (lv_at hl 5 rfl) ?_
            refine lv_iload_n hx hb dM_endOf_42 rfl (lv_at hl 2 rfl) ?_
            obtain ⟨r_9, hc, hf⟩ := m_b1x hf
            refine m_ci (va_runV (As := [.int x5, .int x2]) (rest := []) ⟨hx, hb, hml, hown, hts⟩ (cM_lowerPart l D ad c3 M x5 x2 hc) (cwV 2 hts (gV k4_2 k4_4 kp_23 k1_8 kc_M_lowerPart) rfl rfl rfl (by decide +kernel) ⟨by decide, by decide⟩) (m_preV hK hN hZ (by decide) rfl rfl) rfl rfl hl.1 rfl (lv_room (Nat.le_of_ble_eq_true rfl)) dM_endOf_43 ⟨Nat.zero_le _, Nat.zero_le _⟩) hZ (fun H locs hZ => ?_)
            refine lv_goto (tgt := 56) hx hb dM_endOf_46 (by decide) ?_
            refine lv_istore (lv' := [(6, .int r_9), (0, .ref (ad 0)), (1, .ref (ad k1)), (2, .int x2), (3, .int x3), (4, .int x4), (5, .int x5)]) hx hb dM_endOf_56 hl (by decide) rfl (fun ls hl => ?_)
            refine lv_iload hx hb dM_endOf_58 (lv_at hl 5 rfl) ?_
            refine lv_aload_n hx hb dM_endOf_60 rfl (lv_at hl 2 rfl) ?_
            refine lv_iload hx hb dM_endOf_61 (lv_at hl 6 rfl) ?_
            obtain ⟨h_10, hf⟩ := m_gx hf
            refine m_iald hx hb hK hZ qk1.2 qk1.1 h_10 dM_endOf_63 ?_
            refine lv_iload hx hb dM_endOf_64 (lv_at hl 0 rfl) ?_
            refine lv_imul hx hb dM_endOf_66 ?_
            refine lv_iadd hx hb dM_endOf_67 ?_
            obtain ⟨x4_11, ex4_11, hf⟩ := m_lx hf
            refine m_topi ex4_11 ?_
            refine lv_istore (lv' := [(4, .int x4_11), (6, .int r_9), (0, .ref (ad 0)), (1, .ref (ad k1)), (2, .int x2), (3, .int x3), (5, .int x5)]) hx hb dM_endOf_68 hl (by decide) rfl (fun ls hl => ?_)
            obtain ⟨x5_12, ex5_12, hf⟩ := m_lx hf
            refine lv_iinc (v := x5_12) (lv' := [(5, .int x5_12), (4, .int x4_11), (6, .int r_9), (0, .ref (ad 0)), (1, .ref (ad k1)), (2, .int x2), (3, .int x3)]) hx hb dM_endOf_70 hl (k := 6) rfl (by rw [ex5_12]; rfl) (by decide) rfl (fun ls hl => ?_)
            refine lv_goto (tgt := 6) hx hb dM_endOf_73 (by decide) ?_
            exact ih6 _ _ hf _ _ _ hZ (lv_sub hl [3, 4, 5, 6, 1, 0] rfl)
        · have hf := m_t hf c_2
          refine lv_aload_n hx hb dM_endOf_19 rfl (lv_at hl 0 rfl) ?_
          refine m_getR (k' := 8) hx hb hts in_M hown hK hZ (by decide) rfl rfl 9 (by decide) (hts _ k3_48) (fun _ h9 => h9) rfl dM_endOf_20 ?_
          refine lv_bipush (v := 6) hx hb dM_endOf_23 (by decide) ?_
          refine lv_iload hx hb dM_endOf_25 (lv_at hl 5 rfl) ?_
          refine lv_imul hx hb dM_endOf_27 ?_
          refine lv_iload_n hx hb dM_endOf_28 rfl (lv_at hl 2 rfl) ?_
          refine lv_iadd hx hb dM_endOf_29 ?_
          obtain ⟨h_3, hf⟩ := m_gx hf
          refine m_iald hx hb hK hZ (by decide) rfl h_3 dM_endOf_30 ?_
          refine lv_goto (tgt := 56) hx hb dM_endOf_31 (by decide) ?_
          obtain ⟨x6_4, ex6_4, hf⟩ := m_lx hf
          refine m_topi ex6_4 ?_
          refine lv_istore (lv' := [(6, .int x6_4), (0, .ref (ad 0)), (1, .ref (ad k1)), (2, .int x2), (3, .int x3), (4, .int x4), (5, .int x5)]) hx hb dM_endOf_56 hl (by decide) rfl (fun ls hl => ?_)
          refine lv_iload hx hb dM_endOf_58 (lv_at hl 5 rfl) ?_
          refine lv_aload_n hx hb dM_endOf_60 rfl (lv_at hl 2 rfl) ?_
          refine lv_iload hx hb dM_endOf_61 (lv_at hl 6 rfl) ?_
          obtain ⟨h_5, hf⟩ := m_gx hf
          refine m_iald hx hb hK hZ qk1.2 qk1.1 h_5 dM_endOf_63 ?_
          refine lv_iload hx hb dM_endOf_64 (lv_at hl 0 rfl) ?_
          refine lv_imul hx hb dM_endOf_66 ?_
          refine lv_iadd hx hb dM_endOf_67 ?_
          obtain ⟨x4_6, ex4_6, hf⟩ := m_lx hf
          refine m_topi ex4_6 ?_
          refine lv_istore (lv' := [(4, .int x4_6), (6, .int x6_4), (0, .ref (ad 0)), (1, .ref (ad k1)), (2, .int x2), (3, .int x3), (5, .int x5)]) hx hb dM_endOf_68 hl (by decide) rfl (fun ls hl => ?_)
          obtain ⟨x5_7, ex5_7, hf⟩ := m_lx hf
          refine lv_iinc (v := x5_7) (lv' := [(5, .int x5_7), (4, .int x4_6), (6, .int x6_4), (0, .ref (ad 0)), (1, .ref (ad k1)), (2, .int x2), (3, .int x3)]) hx hb dM_endOf_70 hl (k := 6) rfl (by rw [ex5_7]; rfl) (by decide) rfl (fun ls hl => ?_)
          refine lv_goto (tgt := 6) hx hb dM_endOf_73 (by decide) ?_
          exact ih6 _ _ hf _ _ _ hZ (lv_sub hl [3, 4, 5, 6, 1, 0] rfl)
  refine lv_iconst (v := 0) hx hb dM_endOf_0 (by decide) ?_
  refine lv_istore (lv' := [(4, .int 0), (0, .ref (ad 0)), (1, .ref (ad k1)), (2, .int x2), (3, .int x3)]) hx hb dM_endOf_1 hl (by decide) rfl (fun ls hl => ?_)
  refine lv_iconst (v := 0) hx hb dM_endOf_3 (by decide) ?_
  refine lv_istore (lv' := [(5, .int 0), (4, .int 0), (0, .ref (ad 0)), (1, .ref (ad k1)), (2, .int x2), (3, .int x3)]) hx hb dM_endOf_4 hl (by decide) rfl (fun ls hl => ?_)
  exact L6 128 0 0 hf _ _ _ hZ (lv_sub hl [2, 3, 4, 5, 1, 0] rfl)
abbrev rmM_missOf : Room := { frames := 2, cells := 0, slots := 0, locals := 49 }
set_option maxHeartbeats 4000000 in
set_option maxRecDepth 100000 in
theorem cM_missOf (l : Launch) (D : va_G) (ad : Nat → Nat) (c3 : ClassId × ClassId × ClassId) (M : mMem) (k1 : Nat) (x2 : Int32) (x3 : Int32) (x4 : Int32) (qk1 : isM_row 4 k1) {r : Int32} (hf : fM_missOf M k1 x2 x3 x4 = some r) : kPM l D ad c3 yM_missOf wM_missOf rmM_missOf [.ref (ad 0), .ref (ad k1), .int x2, .int x3, .int x4] M r := by
  refine m_oP (cc := bM_missOf) (maxL := 7) (ty := .int) (own := R_M) nestM (by decide) rfl (Nat.le_of_ble_eq_true rfl) rfl (fun p e s m args below meth c Q hx hb hml hown hts hK hN hret ls hZ hl => ?_)
  have hl : lv_has ls 7 [(0, .ref (ad 0)), (1, .ref (ad k1)), (2, .int x2), (3, .int x3), (4, .int x4)] := hl
  unfold fM_missOf at hf
  refine lv_bipush (v := 100) hx hb dM_missOf_0 (by decide) ?_
  refine lv_iload_n hx hb dM_missOf_2 rfl (lv_at hl 3 rfl) ?_
  refine lv_imul hx hb dM_missOf_3 ?_
  refine lv_aload_n hx hb dM_missOf_4 rfl (lv_at hl 0 rfl) ?_
  refine lv_aload_n hx hb dM_missOf_5 rfl (lv_at hl 1 rfl) ?_
  refine lv_iload_n hx hb dM_missOf_6 rfl (lv_at hl 2 rfl) ?_
  refine lv_iconst (v := 1) hx hb dM_missOf_7 (by decide) ?_
  obtain ⟨r_1, hc, hf⟩ := m_b1x hf
  refine m_ci (va_runV (As := [.ref (ad k1), .int x2, .int 1]) (rest := [.int (100 * x3)]) ⟨hx, hb, hml, hown, hts⟩ (cM_endOf l D ad c3 M k1 x2 1 ⟨qk1.1, qk1.2⟩ hc) (cwV 3 hts (gV k3_238 k4_0 kp_22 k1_8 kc_M_endOf) rfl rfl rfl (by decide +kernel) ⟨by decide, by decide⟩) (m_preV hK hN hZ (by decide) rfl rfl) rfl rfl hl.1 rfl (lv_room (Nat.le_of_ble_eq_true rfl)) dM_missOf_8 ⟨Nat.zero_le _, Nat.zero_le _⟩) hZ (fun H locs hZ => ?_)
  refine lv_isub hx hb dM_missOf_11 ?_
  obtain ⟨x5_2, ex5_2, hf⟩ := m_lx hf
  refine m_topi ex5_2 ?_
  refine lv_istore (lv' := [(5, .int x5_2), (0, .ref (ad 0)), (1, .ref (ad k1)), (2, .int x2), (3, .int x3), (4, .int x4)]) hx hb dM_missOf_12 hl (by decide) rfl (fun ls hl => ?_)
  refine lv_aload_n hx hb dM_missOf_14 rfl (lv_at hl 1 rfl) ?_
  refine lv_aload_n hx hb dM_missOf_15 rfl (lv_at hl 2 rfl) ?_
  refine lv_iload_n hx hb dM_missOf_16 rfl (lv_at hl 3 rfl) ?_
  refine lv_iconst (v := 2) hx hb dM_missOf_17 (by decide) ?_
  obtain ⟨r_3, hc, hf⟩ := m_b1x hf
  refine m_ci (va_runV (As := [.ref (ad k1), .int x2, .int 2]) (rest := []) ⟨hx, hb, hml, hown, hts⟩ (cM_endOf l D ad c3 M k1 x2 2 ⟨qk1.1, qk1.2⟩ hc) (cwV 3 hts (gV k3_238 k4_0 kp_22 k1_8 kc_M_endOf) rfl rfl rfl (by decide +kernel) ⟨by decide, by decide⟩) (m_preV hK hN hZ (by decide) rfl rfl) rfl rfl hl.1 rfl (lv_room (Nat.le_of_ble_eq_true rfl)) dM_missOf_18 ⟨Nat.zero_le _, Nat.zero_le _⟩) hZ (fun H locs hZ => ?_)
  refine lv_bipush (v := 100) hx hb dM_missOf_21 (by decide) ?_
  refine lv_iload hx hb dM_missOf_23 (lv_at hl 5 rfl) ?_
  refine lv_imul hx hb dM_missOf_25 ?_
  refine lv_isub hx hb dM_missOf_26 ?_
  obtain ⟨x6_4, ex6_4, hf⟩ := m_lx hf
  refine m_topi ex6_4 ?_
  refine lv_istore (lv' := [(6, .int x6_4), (5, .int x5_2), (0, .ref (ad 0)), (1, .ref (ad k1)), (2, .int x2), (3, .int x3), (4, .int x4)]) hx hb dM_missOf_27 hl (by decide) rfl (fun ls hl => ?_)
  refine lv_iload hx hb dM_missOf_29 (lv_at hl 1 rfl) ?_
  refine lv_if_le (tgt := 39) hx hb dM_missOf_31 (by decide) (fun c_5 => ?_) (fun c_5 => ?_)
  · have hf := m_t hf c_5
    refine lv_iconst (v := 0) hx hb dM_missOf_39 (by decide) ?_
    refine lv_iload hx hb dM_missOf_40 (lv_at hl 0 rfl) ?_
    refine lv_if_le (tgt := 50) hx hb dM_missOf_42 (by decide) (fun c_6 => ?_) (fun c_6 => ?_)
    · have hf := m_t hf c_6
      refine lv_iconst (v := 0) hx hb dM_missOf_50 (by decide) ?_
      refine lv_iadd hx hb dM_missOf_51 ?_
      exact hret _ _ _ _ _ (fun _ _ => 0) hf rfl hZ dM_missOf_52
    · have hf := m_f hf c_6
      refine lv_iload hx hb dM_missOf_45 (lv_at hl 0 rfl) ?_
      refine lv_goto (tgt := 51) hx hb dM_missOf_47 (by decide) ?_
      refine lv_iadd hx hb dM_missOf_51 ?_
      exact hret _ _ _ _ _ (fun _ _ => 0) hf rfl hZ dM_missOf_52
  · have hf := m_f hf c_5
    refine lv_iload hx hb dM_missOf_34 (lv_at hl 1 rfl) ?_
    refine lv_goto (tgt := 40) hx hb dM_missOf_36 (by decide) ?_
    refine lv_iload hx hb dM_missOf_40 (lv_at hl 0 rfl) ?_
    refine lv_if_le (tgt := 50) hx hb dM_missOf_42 (by decide) (fun c_7 => ?_) (fun c_7 => ?_)
    · have hf := m_t hf c_7
      refine lv_iconst (v := 0) hx hb dM_missOf_50 (by decide) ?_
      refine lv_iadd hx hb dM_missOf_51 ?_
      exact hret _ _ _ _ _ (fun _ _ => 0) hf rfl hZ dM_missOf_52
    · have hf := m_f hf c_7
      refine lv_iload hx hb dM_missOf_45 (lv_at hl 0 rfl) ?_
      refine lv_goto (tgt := 51) hx hb dM_missOf_47 (by decide) ?_
      refine lv_iadd hx hb dM_missOf_51 ?_
      exact hret _ _ _ _ _ (fun _ _ => 0) hf rfl hZ dM_missOf_52
abbrev rmM_costOf : Room := { frames := 0, cells := 0, slots := 0, locals := 0 }
set_option maxHeartbeats 4000000 in
set_option maxRecDepth 100000 in
theorem cM_costOf (l : Launch) (D : va_G) (ad : Nat → Nat) (c3 : ClassId × ClassId × ClassId) (M : mMem) (k1 : Nat) (qk1 : isM_row 4 k1) {r : Int32} (hf : fM_costOf M k1 = some r) : kPM l D ad c3 yM_costOf wM_costOf rmM_costOf [.ref (ad 0), .ref (ad k1)] M r := by
  refine m_oP (cc := bM_costOf) (maxL := 4) (ty := .int) (own := R_M) nestM (by decide) rfl (Nat.le_of_ble_eq_true rfl) rfl (fun p e s m args below meth c Q hx hb hml hown hts hK hN hret ls hZ hl => ?_)
  have hl : lv_has ls 4 [(0, .ref (ad 0)), (1, .ref (ad k1))] := hl
  unfold fM_costOf at hf
  have L4 : ∀ (n4 : Nat) (x2 : Int32) (x3 : Int32), fM_costOf_L4 k1 M n4 x2 x3 = some r → ∀ (H : Heap) (locs : List Loc) (ls : Array Slot), zM D ad c3 s H locs M → lv_has ls 4 [(0, .ref (ad 0)), (1, .ref (ad k1)), (2, .int x2), (3, .int x3)] → W p l e rmM_costOf s m args below meth c H locs 0 0 Q (F0 m 4 ls []) := by
    intro n4
    induction n4 with
    | zero => intro x2 x3 hf; exact m_none hf
    | succ n4 ih4 =>
      intro x2 x3 hf H locs ls hZ hl
      rw [fM_costOf_L4] at hf
      refine lv_iload_n hx hb dM_costOf_4 rfl (lv_at hl 3 rfl) ?_
      refine lv_aload_n hx hb dM_costOf_5 rfl (lv_at hl 0 rfl) ?_
      refine m_get hx hb hts in_M hown hK hZ (by decide) rfl rfl 3 (by decide) (hts _ k3_42) (fun _ h9 => h9) rfl dM_costOf_6 ?_
      refine lv_icmp_ge (tgt := 31) hx hb dM_costOf_9 (by decide) (fun c_1 => ?_) (fun c_1 => ?_)
      · have hf := m_t hf c_1
        refine lv_iload_n hx hb dM_costOf_31 rfl (lv_at hl 2 rfl) ?_
        exact hret _ _ _ _ _ (fun _ _ => 0) hf rfl hZ dM_costOf_32
      · have hf := m_f hf c_1
        refine lv_iload_n hx hb dM_costOf_12 rfl (lv_at hl 2 rfl) ?_
        refine lv_aload_n hx hb dM_costOf_13 rfl (lv_at hl 1 rfl) ?_
        refine lv_iload_n hx hb dM_costOf_14 rfl (lv_at hl 3 rfl) ?_
        obtain ⟨h_2, hf⟩ := m_gx hf
        refine m_iald hx hb hK hZ qk1.2 qk1.1 h_2 dM_costOf_15 ?_
        refine lv_aload_n hx hb dM_costOf_16 rfl (lv_at hl 0 rfl) ?_
        refine m_getR (k' := 3) hx hb hts in_M hown hK hZ (by decide) rfl rfl 4 (by decide) (hts _ k3_43) (fun _ h9 => h9) rfl dM_costOf_17 ?_
        refine lv_iload_n hx hb dM_costOf_20 rfl (lv_at hl 3 rfl) ?_
        refine m_iald hx hb hK hZ (by decide) rfl h_2 dM_costOf_21 ?_
        refine lv_imul hx hb dM_costOf_22 ?_
        refine lv_iadd hx hb dM_costOf_23 ?_
        obtain ⟨x2_3, ex2_3, hf⟩ := m_lx hf
        refine m_topi ex2_3 ?_
        refine lv_istore_n (lv' := [(2, .int x2_3), (0, .ref (ad 0)), (1, .ref (ad k1)), (3, .int x3)]) hx hb dM_costOf_24 rfl hl (by decide) rfl (fun ls hl => ?_)
        obtain ⟨x3_4, ex3_4, hf⟩ := m_lx hf
        refine lv_iinc (v := x3_4) (lv' := [(3, .int x3_4), (2, .int x2_3), (0, .ref (ad 0)), (1, .ref (ad k1))]) hx hb dM_costOf_25 hl (k := 3) rfl (by rw [ex3_4]; rfl) (by decide) rfl (fun ls hl => ?_)
        refine lv_goto (tgt := 4) hx hb dM_costOf_28 (by decide) ?_
        exact ih4 _ _ hf _ _ _ hZ (lv_sub hl [2, 3, 1, 0] rfl)
  refine lv_iconst (v := 0) hx hb dM_costOf_0 (by decide) ?_
  refine lv_istore_n (lv' := [(2, .int 0), (0, .ref (ad 0)), (1, .ref (ad k1))]) hx hb dM_costOf_1 rfl hl (by decide) rfl (fun ls hl => ?_)
  refine lv_iconst (v := 0) hx hb dM_costOf_2 (by decide) ?_
  refine lv_istore_n (lv' := [(3, .int 0), (2, .int 0), (0, .ref (ad 0)), (1, .ref (ad k1))]) hx hb dM_costOf_3 rfl hl (by decide) rfl (fun ls hl => ?_)
  exact L4 128 0 0 hf _ _ _ hZ (lv_sub hl [2, 3, 1, 0] rfl)
