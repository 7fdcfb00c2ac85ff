abbrev rmG_takeInHand : Room := { frames := 1, cells := 0, slots := 0, locals := 24 }
set_option maxHeartbeats 4000000 in
set_option maxRecDepth 100000 in
theorem cG_takeInHand (l : Launch) (D : va_G) (ad : Nat → Nat) (c3 : ClassId × ClassId × ClassId) (M : mMem) (k1 : Nat) (qk1 : isX_X k1) {r : Int32} {M' : mMem} (hf : fG_takeInHand M k1 = some (r, M')) : kIX l D ad c3 yG_takeInHand wG_takeInHand rmG_takeInHand [.ref (ad 0), .ref (ad k1)] M r M' := by
  refine m_oI (cc := bG_takeInHand) (maxL := 2) (ty := .boolean) (own := R_G) nestX (by decide) rfl (Nat.le_of_ble_eq_true rfl) rfl (fun p e s m args below meth c Q hx hb hml hown hts hK hN hret ls hZ hl => ?_)
  have hl : lv_has ls 2 [(0, .ref (ad 0)), (1, .ref (ad k1))] := hl
  unfold fG_takeInHand at hf
  refine lv_aload_n hx hb dG_takeInHand_0 rfl (lv_at hl 1 rfl) ?_
  refine m_get hx hb hts in_X hown hK hZ (qk1 0 (by decide)).2 (qk1 0 (by decide)).1 rfl 0 (by decide) (hts _ k1_110) (fun _ h9 => h9) rfl dG_takeInHand_1 ?_
  refine lv_if_ne (tgt := 9) hx hb dG_takeInHand_4 (by decide) (fun c_1 => ?_) (fun c_1 => ?_)
  · have hf := m_f hf c_1
    refine lv_aload_n hx hb dG_takeInHand_9 rfl (lv_at hl 0 rfl) ?_
    refine m_getR (k' := 66) hx hb hts in_G hown hK hZ (by decide) rfl rfl 4 (by decide) (hts _ k2_12) (fun _ h9 => h9) rfl dG_takeInHand_10 ?_
    refine lv_aload_n hx hb dG_takeInHand_13 rfl (lv_at hl 1 rfl) ?_
    refine m_getR (k' := (k1 + 1)) hx hb hts in_X hown hK hZ (qk1 0 (by decide)).2 (qk1 0 (by decide)).1 rfl 1 (by decide) (hts _ k1_114) (fun _ h9 => h9) rfl dG_takeInHand_14 ?_
    refine lv_aload_n hx hb dG_takeInHand_17 rfl (lv_at hl 1 rfl) ?_
    refine m_get hx hb hts in_X hown hK hZ (qk1 0 (by decide)).2 (qk1 0 (by decide)).1 rfl 2 (by decide) (hts _ k1_117) (fun _ h9 => h9) rfl dG_takeInHand_18 ?_
    refine lv_aload_n hx hb dG_takeInHand_21 rfl (lv_at hl 1 rfl) ?_
    refine m_get hx hb hts in_X hown hK hZ (qk1 0 (by decide)).2 (qk1 0 (by decide)).1 rfl 3 (by decide) (hts _ k1_120) (fun _ h9 => h9) rfl dG_takeInHand_22 ?_
    obtain ⟨M_2, hc, hf⟩ := m_b1x hf
    refine m_cv (va_runV (As := [.ref (ad (k1 + 1)), .int (M k1 2), .int (M k1 3)]) (rest := []) ⟨hx, hb, hml, hown, hts⟩ (cX_set l D ad c3 M 66 (k1 + 1) (M k1 2) (M k1 3) isX_X_66 ⟨(qk1 1 (by decide)).1, (qk1 1 (by decide)).2⟩ hc) (cwV 3 hts (gV k2_179 k2_168 k2_169 k1_4 kc_X_set) rfl rfl rfl (by decide +kernel) ⟨by decide, by decide⟩) (m_preV hK hN hZ (by decide) rfl rfl) rfl rfl hl.1 rfl (lv_room (Nat.le_of_ble_eq_true rfl)) dG_takeInHand_25 ⟨Nat.zero_le _, Nat.zero_le _⟩) hZ (fun H locs hZ => ?_)
    refine lv_aload_n hx hb dG_takeInHand_28 rfl (lv_at hl 0 rfl) ?_
    refine m_getR (k' := 68) hx hb hts in_G hown hK hZ (by decide) rfl rfl 5 (by decide) (hts _ k2_13) (fun _ h9 => h9) rfl dG_takeInHand_29 ?_
    refine lv_iconst (v := 0) hx hb dG_takeInHand_32 (by decide) ?_
    obtain ⟨M_3, eM_3, hf⟩ := m_lx hf
    refine m_put (ty := .boolean) hx hb hts in_B ⟨ty_B_ok, nm_B_ok⟩ hown hK hZ (by decide) rfl rfl 0 (by decide) (hts _ k1_202) (fun _ h9 => h9) rfl (by decide +kernel) rfl rfl rfl dG_takeInHand_33 eM_3 (fun H locs hZ => ?_)
    refine lv_iconst (v := 1) hx hb dG_takeInHand_36 (by decide) ?_
    exact hret _ _ _ _ _ _ hf rfl hZ dG_takeInHand_37
  · have hf := m_t hf c_1
    refine lv_iconst (v := 0) hx hb dG_takeInHand_7 (by decide) ?_
    exact hret _ _ _ _ _ _ hf rfl hZ dG_takeInHand_8
abbrev rmG_run : Room := { frames := 11, cells := 0, slots := 0, locals := 299 }
set_option maxHeartbeats 4000000 in
set_option maxRecDepth 100000 in
theorem cG_run (l : Launch) (D : va_G) (ad : Nat → Nat) (c3 : ClassId × ClassId × ClassId) (M : mMem)   {r : Int32} {M' : mMem} (hf : fG_run M  = some (r, M')) : kIX l D ad c3 yG_run wG_run rmG_run [.ref (ad 0)] M r M' := by
  refine m_oI (cc := bG_run) (maxL := 1) (ty := .int) (own := R_G) nestX (by decide) rfl (Nat.le_of_ble_eq_true rfl) rfl (fun p e s m args below meth c Q hx hb hml hown hts hK hN hret ls hZ hl => ?_)
  have hl : lv_has ls 1 [(0, .ref (ad 0))] := hl
  unfold fG_run at hf
  refine lv_aload_n hx hb dG_run_0 rfl (lv_at hl 0 rfl) ?_
  obtain ⟨M_1, hc, hf⟩ := m_b1x hf
  refine m_cv (va_runV (As := []) (rest := []) ⟨hx, hb, hml, hown, hts⟩ (cG_searchOnce l D ad c3 M hc) (cwV 0 hts (gV k2_140 k2_142 kp_4 k1_1 kc_G_searchOnce) rfl rfl rfl (by decide +kernel) ⟨by decide, by decide⟩) (m_preV hK hN hZ (by decide) rfl rfl) rfl rfl hl.1 rfl (lv_room (Nat.le_of_ble_eq_true rfl)) dG_run_1 ⟨Nat.zero_le _, Nat.zero_le _⟩) hZ (fun H locs hZ => ?_)
  refine lv_aload_n hx hb dG_run_4 rfl (lv_at hl 0 rfl) ?_
  refine lv_aload_n hx hb dG_run_5 rfl (lv_at hl 0 rfl) ?_
  refine m_getR (k' := 24) hx hb hts in_G hown hK hZ (by decide) rfl rfl 1 (by decide) (hts _ k2_9) (fun _ h9 => h9) rfl dG_run_6 ?_
  refine m_getR (k' := 39) hx hb hts in_S hown hK hZ (by decide) rfl rfl 7 (by decide) (hts _ k1_139) (fun _ h9 => h9) rfl dG_run_9 ?_
  obtain ⟨r_2, M_3, hc, hf⟩ := m_b2x hf
  refine m_ci (va_runV (As := [.ref (ad 39)]) (rest := []) ⟨hx, hb, hml, hown, hts⟩ (cG_takeInHand l D ad c3 M_1 39 isX_X_39 hc) (cwV 1 hts (gV k2_175 k2_177 kp_9 k1_1 kc_G_takeInHand) rfl rfl rfl (by decide +kernel) ⟨by decide, by decide⟩) (m_preV hK hN hZ (by decide) rfl rfl) rfl rfl hl.1 rfl (lv_room (Nat.le_of_ble_eq_true rfl)) dG_run_12 ⟨Nat.zero_le _, Nat.zero_le _⟩) hZ (fun H locs hZ => ?_)
  refine lv_if_eq (tgt := 28) hx hb dG_run_15 (by decide) (fun c_4 => ?_) (fun c_4 => ?_)
  · have hf := m_t hf c_4
    refine lv_iconst (v := (-1)) hx hb dG_run_28 (by decide) ?_
    exact hret _ _ _ _ _ _ hf rfl hZ dG_run_29
  · have hf := m_f hf c_4
    refine lv_aload_n hx hb dG_run_18 rfl (lv_at hl 0 rfl) ?_
    refine m_getR (k' := 66) hx hb hts in_G hown hK hZ (by decide) rfl rfl 4 (by decide) (hts _ k2_12) (fun _ h9 => h9) rfl dG_run_19 ?_
    refine m_get hx hb hts in_X hown hK hZ (by decide) rfl rfl 2 (by decide) (hts _ k1_117) (fun _ h9 => h9) rfl dG_run_22 ?_
    refine lv_goto (tgt := 29) hx hb dG_run_25 (by decide) ?_
    exact hret _ _ _ _ _ _ hf rfl hZ dG_run_29
abbrev rmG_near : Room := { frames := 11, cells := 0, slots := 0, locals := 299 }
set_option maxHeartbeats 4000000 in
set_option maxRecDepth 100000 in
theorem cG_near (l : Launch) (D : va_G) (ad : Nat → Nat) (c3 : ClassId × ClassId × ClassId) (M : mMem)   {r : Int32} {M' : mMem} (hf : fG_near M  = some (r, M')) : kIX l D ad c3 yG_near wG_near rmG_near [.ref (ad 0)] M r M' := by
  refine m_oI (cc := bG_near) (maxL := 1) (ty := .int) (own := R_G) nestX (by decide) rfl (Nat.le_of_ble_eq_true rfl) rfl (fun p e s m args below meth c Q hx hb hml hown hts hK hN hret ls hZ hl => ?_)
  have hl : lv_has ls 1 [(0, .ref (ad 0))] := hl
  unfold fG_near at hf
  refine lv_aload_n hx hb dG_near_0 rfl (lv_at hl 0 rfl) ?_
  obtain ⟨M_1, hc, hf⟩ := m_b1x hf
  refine m_cv (va_runV (As := []) (rest := []) ⟨hx, hb, hml, hown, hts⟩ (cG_searchOnce l D ad c3 M hc) (cwV 0 hts (gV k2_140 k2_142 kp_4 k1_1 kc_G_searchOnce) rfl rfl rfl (by decide +kernel) ⟨by decide, by decide⟩) (m_preV hK hN hZ (by decide) rfl rfl) rfl rfl hl.1 rfl (lv_room (Nat.le_of_ble_eq_true rfl)) dG_near_1 ⟨Nat.zero_le _, Nat.zero_le _⟩) hZ (fun H locs hZ => ?_)
  refine lv_aload_n hx hb dG_near_4 rfl (lv_at hl 0 rfl) ?_
  refine lv_aload_n hx hb dG_near_5 rfl (lv_at hl 0 rfl) ?_
  refine m_getR (k' := 24) hx hb hts in_G hown hK hZ (by decide) rfl rfl 1 (by decide) (hts _ k2_9) (fun _ h9 => h9) rfl dG_near_6 ?_
  refine m_getR (k' := 41) hx hb hts in_S hown hK hZ (by decide) rfl rfl 8 (by decide) (hts _ k1_141) (fun _ h9 => h9) rfl dG_near_9 ?_
  obtain ⟨r_2, M_3, hc, hf⟩ := m_b2x hf
  refine m_ci (va_runV (As := [.ref (ad 41)]) (rest := []) ⟨hx, hb, hml, hown, hts⟩ (cG_takeInHand l D ad c3 M_1 41 isX_X_41 hc) (cwV 1 hts (gV k2_175 k2_177 kp_9 k1_1 kc_G_takeInHand) rfl rfl rfl (by decide +kernel) ⟨by decide, by decide⟩) (m_preV hK hN hZ (by decide) rfl rfl) rfl rfl hl.1 rfl (lv_room (Nat.le_of_ble_eq_true rfl)) dG_near_12 ⟨Nat.zero_le _, Nat.zero_le _⟩) hZ (fun H locs hZ => ?_)
  refine lv_if_eq (tgt := 28) hx hb dG_near_15 (by decide) (fun c_4 => ?_) (fun c_4 => ?_)
  · have hf := m_t hf c_4
    refine lv_iconst (v := (-1)) hx hb dG_near_28 (by decide) ?_
    exact hret _ _ _ _ _ _ hf rfl hZ dG_near_29
  · have hf := m_f hf c_4
    refine lv_aload_n hx hb dG_near_18 rfl (lv_at hl 0 rfl) ?_
    refine m_getR (k' := 66) hx hb hts in_G hown hK hZ (by decide) rfl rfl 4 (by decide) (hts _ k2_12) (fun _ h9 => h9) rfl dG_near_19 ?_
    refine m_get hx hb hts in_X hown hK hZ (by decide) rfl rfl 3 (by decide) (hts _ k1_120) (fun _ h9 => h9) rfl dG_near_22 ?_
    refine lv_goto (tgt := 29) hx hb dG_near_25 (by decide) ?_
    exact hret _ _ _ _ _ _ hf rfl hZ dG_near_29
abbrev rmG_share : Room := { frames := 1, cells := 0, slots := 0, locals := 21 }
set_option maxHeartbeats 4000000 in
set_option maxRecDepth 100000 in
theorem cG_share (l : Launch) (D : va_G) (ad : Nat → Nat) (c3 : ClassId × ClassId × ClassId) (M : mMem) (x1 : Int32)  {r : Int32} (hf : fG_share M x1 = some r) : kPX l D ad c3 yG_share wG_share rmG_share [.ref (ad 0), .int x1] M r := by
  refine m_oP (cc := bG_share) (maxL := 2) (ty := .int) (own := R_G) nestX (by decide) rfl (Nat.le_of_ble_eq_true rfl) rfl (fun p e s m args below meth c Q hx hb hml hown hts hK hN hret ls hZ hl => ?_)
  have hl : lv_has ls 2 [(0, .ref (ad 0)), (1, .int x1)] := hl
  unfold fG_share at hf
  refine lv_aload_n hx hb dG_share_0 rfl (lv_at hl 0 rfl) ?_
  refine m_getR (k' := 66) hx hb hts in_G hown hK hZ (by decide) rfl rfl 4 (by decide) (hts _ k2_12) (fun _ h9 => h9) rfl dG_share_1 ?_
  refine m_get hx hb hts in_X hown hK hZ (by decide) rfl rfl 0 (by decide) (hts _ k1_110) (fun _ h9 => h9) rfl dG_share_4 ?_
  refine lv_if_eq (tgt := 21) hx hb dG_share_7 (by decide) (fun c_1 => ?_) (fun c_1 => ?_)
  · have hf := m_t hf c_1
    refine lv_iconst (v := (-1)) hx hb dG_share_21 (by decide) ?_
    exact hret _ _ _ _ _ (fun _ _ => 0) hf rfl hZ dG_share_22
  · have hf := m_f hf c_1
    refine lv_aload_n hx hb dG_share_10 rfl (lv_at hl 0 rfl) ?_
    refine m_getR (k' := 1) hx hb hts in_G hown hK hZ (by decide) rfl rfl 0 (by decide) (hts _ k2_8) (fun _ h9 => h9) rfl dG_share_11 ?_
    refine lv_iload_n hx hb dG_share_14 rfl (lv_at hl 1 rfl) ?_
    obtain ⟨r_2, hc, hf⟩ := m_b1x hf
    refine m_ci (va_runV (As := [.int x1]) (rest := []) ⟨hx, hb, hml, hown, hts⟩ (cP_hasStock l D ad c3 M x1 hc) (cwV 1 hts (gV k2_79 k2_80 k2_81 k1_2 kc_P_hasStock) rfl rfl rfl (by decide +kernel) ⟨by decide, by decide⟩) (m_preV hK hN hZ (by decide) rfl rfl) rfl rfl hl.1 rfl (lv_room (Nat.le_of_ble_eq_true rfl)) dG_share_15 ⟨Nat.zero_le _, Nat.zero_le _⟩) hZ (fun H locs hZ => ?_)
    refine lv_if_ne (tgt := 23) hx hb dG_share_18 (by decide) (fun c_3 => ?_) (fun c_3 => ?_)
    · have hf := m_f hf c_3
      refine lv_aload_n hx hb dG_share_23 rfl (lv_at hl 0 rfl) ?_
      refine m_getR (k' := 66) hx hb hts in_G hown hK hZ (by decide) rfl rfl 4 (by decide) (hts _ k2_12) (fun _ h9 => h9) rfl dG_share_24 ?_
      refine m_getR (k' := 67) hx hb hts in_X hown hK hZ (by decide) rfl rfl 1 (by decide) (hts _ k1_114) (fun _ h9 => h9) rfl dG_share_27 ?_
      refine lv_iload_n hx hb dG_share_30 rfl (lv_at hl 1 rfl) ?_
      obtain ⟨h_inb_x1_4, hf⟩ := m_gx hf
      refine m_iald hx hb hK hZ (by decide) rfl h_inb_x1_4 dG_share_31 ?_
      exact hret _ _ _ _ _ (fun _ _ => 0) hf rfl hZ dG_share_32
    · have hf := m_t hf c_3
      refine lv_iconst (v := (-1)) hx hb dG_share_21 (by decide) ?_
      exact hret _ _ _ _ _ (fun _ _ => 0) hf rfl hZ dG_share_22
abbrev rmP_sumAt : Room := { frames := 0, cells := 0, slots := 0, locals := 0 }
set_option maxHeartbeats 4000000 in
set_option maxRecDepth 100000 in
theorem cP_sumAt (l : Launch) (D : va_G) (ad : Nat → Nat) (c3 : ClassId × ClassId × ClassId) (M : mMem) (x1 : Int32) (k2 : Nat) (k3 : Nat) (qk2 : isX_grid 4 6 k2) (qk3 : isX_X k3) {r : Int32} (hf : fP_sumAt M x1 k2 k3 = some r) : kPX l D ad c3 yP_sumAt wP_sumAt rmP_sumAt [.ref (ad 1), .int x1, .ref (ad k2), .ref (ad k3)] M r := by
  refine m_oP (cc := bP_sumAt) (maxL := 6) (ty := .int) (own := R_P) nestX (by decide) rfl (Nat.le_of_ble_eq_true rfl) rfl (fun p e s m args below meth c Q hx hb hml hown hts hK hN hret ls hZ hl => ?_)
  have hl : lv_has ls 6 [(0, .ref (ad 1)), (1, .int x1), (2, .ref (ad k2)), (3, .ref (ad k3))] := hl
  unfold fP_sumAt at hf
  have L6 : ∀ (n6 : Nat) (x4 : Int32) (x5 : Int32), fP_sumAt_L6 x1 k2 k3 M n6 x4 x5 = some r → ∀ (H : Heap) (locs : List Loc) (ls : Array Slot), zX D ad c3 s H locs M → lv_has ls 6 [(0, .ref (ad 1)), (1, .int x1), (2, .ref (ad k2)), (3, .ref (ad k3)), (4, .int x4), (5, .int x5)] → W p l e rmP_sumAt s m args below meth c H locs 0 0 Q (F0 m 6 ls []) := by
    intro n6
    induction n6 with
    | zero => intro x4 x5 hf; exact m_none hf
    | succ n6 ih6 =>
      intro x4 x5 hf H locs ls hZ hl
      rw [fP_sumAt_L6] at hf
      refine lv_iload hx hb dP_sumAt_6 (lv_at hl 5 rfl) ?_
      refine lv_aload_n hx hb dP_sumAt_8 rfl (lv_at hl 0 rfl) ?_
      refine m_get hx hb hts in_P hown hK hZ (by decide) rfl rfl 1 (by decide) (hts _ k1_29) (fun _ h9 => h9) rfl dP_sumAt_9 ?_
      refine lv_icmp_ge (tgt := 40) hx hb dP_sumAt_12 (by decide) (fun c_1 => ?_) (fun c_1 => ?_)
      · have hf := m_t hf c_1
        refine lv_iload hx hb dP_sumAt_40 (lv_at hl 4 rfl) ?_
        exact hret _ _ _ _ _ (fun _ _ => 0) hf rfl hZ dP_sumAt_42
      · have hf := m_f hf c_1
        refine lv_iload hx hb dP_sumAt_15 (lv_at hl 4 rfl) ?_
        refine lv_aload_n hx hb dP_sumAt_17 rfl (lv_at hl 3 rfl) ?_
        refine m_getR (k' := (k3 + 1)) hx hb hts in_X hown hK hZ (qk3 0 (by decide)).2 (qk3 0 (by decide)).1 rfl 1 (by decide) (hts _ k1_113) (fun _ h9 => h9) rfl dP_sumAt_18 ?_
        refine lv_iload hx hb dP_sumAt_21 (lv_at hl 5 rfl) ?_
        obtain ⟨h_2, hf⟩ := m_gx hf
        refine m_iald hx hb hK hZ (qk3 1 (by decide)).2 (qk3 1 (by decide)).1 h_2 dP_sumAt_23 ?_
        refine lv_aload_n hx hb dP_sumAt_24 rfl (lv_at hl 2 rfl) ?_
        refine lv_iload hx hb dP_sumAt_25 (lv_at hl 5 rfl) ?_
        refine m_aald hx hb hK hZ qk2.2.1 qk2.1 h_2 dP_sumAt_27 ?_
        refine lv_iload_n hx hb dP_sumAt_28 rfl (lv_at hl 1 rfl) ?_
        obtain ⟨h_inb_x1_6, hf⟩ := m_gx hf
        refine m_iald hx hb hK hZ (qk2.2.2 _ (m_lt h_2)).2 (qk2.2.2 _ (m_lt h_2)).1 h_inb_x1_6 dP_sumAt_29 ?_
        refine lv_imul hx hb dP_sumAt_30 ?_
        refine lv_iadd hx hb dP_sumAt_31 ?_
        obtain ⟨x4_3, ex4_3, hf⟩ := m_lx hf
        refine m_topi ex4_3 ?_
        refine lv_istore (lv' := [(4, .int x4_3), (0, .ref (ad 1)), (1, .int x1), (2, .ref (ad k2)), (3, .ref (ad k3)), (5, .int x5)]) hx hb dP_sumAt_32 hl (by decide) rfl (fun ls hl => ?_)
        obtain ⟨x5_4, ex5_4, hf⟩ := m_lx hf
        refine lv_iinc (v := x5_4) (lv' := [(5, .int x5_4), (4, .int x4_3), (0, .ref (ad 1)), (1, .int x1), (2, .ref (ad k2)), (3, .ref (ad k3))]) hx hb dP_sumAt_34 hl (k := 5) rfl (by rw [ex5_4]; rfl) (by decide) rfl (fun ls hl => ?_)
        refine lv_goto (tgt := 6) hx hb dP_sumAt_37 (by decide) ?_
        exact ih6 _ _ hf _ _ _ hZ (lv_sub hl [2, 3, 4, 5, 1, 0] rfl)
  refine lv_iconst (v := 0) hx hb dP_sumAt_0 (by decide) ?_
  refine lv_istore (lv' := [(4, .int 0), (0, .ref (ad 1)), (1, .int x1), (2, .ref (ad k2)), (3, .ref (ad k3))]) hx hb dP_sumAt_1 hl (by decide) rfl (fun ls hl => ?_)
  refine lv_iconst (v := 0) hx hb dP_sumAt_3 (by decide) ?_
  refine lv_istore (lv' := [(5, .int 0), (4, .int 0), (0, .ref (ad 1)), (1, .int x1), (2, .ref (ad k2)), (3, .ref (ad k3))]) hx hb dP_sumAt_4 hl (by decide) rfl (fun ls hl => ?_)
  exact L6 128 0 0 hf _ _ _ hZ (lv_sub hl [2, 3, 4, 5, 1, 0] rfl)
abbrev rmP_missAt : Room := { frames := 1, cells := 0, slots := 0, locals := 25 }
set_option maxHeartbeats 4000000 in
set_option maxRecDepth 100000 in
theorem cP_missAt (l : Launch) (D : va_G) (ad : Nat → Nat) (c3 : ClassId × ClassId × ClassId) (M : mMem) (x1 : Int32) (k2 : Nat) (qk2 : isX_X k2) {r : Int32} (hf : fP_missAt M x1 k2 = some r) : kPX l D ad c3 yP_missAt wP_missAt rmP_missAt [.ref (ad 1), .int x1, .ref (ad k2)] M r := by
  refine m_oP (cc := bP_missAt) (maxL := 5) (ty := .int) (own := R_P) nestX (by decide) rfl (Nat.le_of_ble_eq_true rfl) rfl (fun p e s m args below meth c Q hx hb hml hown hts hK hN hret ls hZ hl => ?_)
  have hl : lv_has ls 5 [(0, .ref (ad 1)), (1, .int x1), (2, .ref (ad k2))] := hl
  unfold fP_missAt at hf
  refine lv_bipush (v := 100) hx hb dP_missAt_0 (by decide) ?_
  refine lv_aload_n hx hb dP_missAt_2 rfl (lv_at hl 0 rfl) ?_
  refine m_getR (k' := 2) hx hb hts in_P hown hK hZ (by decide) rfl rfl 4 (by decide) (hts _ k1_39) (fun _ h9 => h9) rfl dP_missAt_3 ?_
  refine lv_iload_n hx hb dP_missAt_6 rfl (lv_at hl 1 rfl) ?_
  obtain ⟨h_inb_x1_6, hf⟩ := m_gx hf
  refine m_iald hx hb hK hZ (by decide) rfl h_inb_x1_6 dP_missAt_7 ?_
  refine lv_imul hx hb dP_missAt_8 ?_
  refine lv_aload_n hx hb dP_missAt_9 rfl (lv_at hl 0 rfl) ?_
  refine lv_iload_n hx hb dP_missAt_10 rfl (lv_at hl 1 rfl) ?_
  refine lv_aload_n hx hb dP_missAt_11 rfl (lv_at hl 0 rfl) ?_
  refine m_getR (k' := 14) hx hb hts in_P hown hK hZ (by decide) rfl rfl 12 (by decide) (hts _ k1_58) (fun _ h9 => h9) rfl dP_missAt_12 ?_
  refine lv_aload_n hx hb dP_missAt_15 rfl (lv_at hl 2 rfl) ?_
  obtain ⟨r_1, hc, hf⟩ := m_b1x hf
  refine m_ci (va_runV (As := [.int x1, .ref (ad 14), .ref (ad k2)]) (rest := [.int (100 * (M 2 x1.toNatClampNeg))]) ⟨hx, hb, hml, hown, hts⟩ (cP_sumAt l D ad c3 M x1 14 k2 ⟨rfl, by decide, grX_14⟩ qk2 hc) (cwV 3 hts (gV k2_200 k2_193 k2_194 k1_2 kc_P_sumAt) rfl rfl rfl (by decide +kernel) ⟨by decide, by decide⟩) (m_preV hK hN hZ (by decide) rfl rfl) rfl rfl hl.1 rfl (lv_room (Nat.le_of_ble_eq_true rfl)) dP_missAt_16 ⟨Nat.zero_le _, Nat.zero_le _⟩) hZ (fun H locs hZ => ?_)
  refine lv_isub hx hb dP_missAt_19 ?_
  obtain ⟨x3_2, ex3_2, hf⟩ := m_lx hf
  refine m_topi ex3_2 ?_
  refine lv_istore_n (lv' := [(3, .int x3_2), (0, .ref (ad 1)), (1, .int x1), (2, .ref (ad k2))]) hx hb dP_missAt_20 rfl hl (by decide) rfl (fun ls hl => ?_)
  refine lv_aload_n hx hb dP_missAt_21 rfl (lv_at hl 1 rfl) ?_
  refine lv_iload_n hx hb dP_missAt_22 rfl (lv_at hl 2 rfl) ?_
  refine lv_aload_n hx hb dP_missAt_23 rfl (lv_at hl 1 rfl) ?_
  refine m_getR (k' := 19) hx hb hts in_P hown hK hZ (by decide) rfl rfl 13 (by decide) (hts _ k1_61) (fun _ h9 => h9) rfl dP_missAt_24 ?_
  refine lv_aload_n hx hb dP_missAt_27 rfl (lv_at hl 3 rfl) ?_
  obtain ⟨r_3, hc, hf⟩ := m_b1x hf
  refine m_ci (va_runV (As := [.int x1, .ref (ad 19), .ref (ad k2)]) (rest := []) ⟨hx, hb, hml, hown, hts⟩ (cP_sumAt l D ad c3 M x1 19 k2 ⟨rfl, by decide, grX_19⟩ qk2 hc) (cwV 3 hts (gV k2_200 k2_193 k2_194 k1_2 kc_P_sumAt) rfl rfl rfl (by decide +kernel) ⟨by decide, by decide⟩) (m_preV hK hN hZ (by decide) rfl rfl) rfl rfl hl.1 rfl (lv_room (Nat.le_of_ble_eq_true rfl)) dP_missAt_28 ⟨Nat.zero_le _, Nat.zero_le _⟩) hZ (fun H locs hZ => ?_)
  refine lv_bipush (v := 100) hx hb dP_missAt_31 (by decide) ?_
  refine lv_aload_n hx hb dP_missAt_33 rfl (lv_at hl 1 rfl) ?_
  refine m_getR (k' := 3) hx hb hts in_P hown hK hZ (by decide) rfl rfl 5 (by decide) (hts _ k1_42) (fun _ h9 => h9) rfl dP_missAt_34 ?_
  refine lv_iload_n hx hb dP_missAt_37 rfl (lv_at hl 2 rfl) ?_
  refine m_iald hx hb hK hZ (by decide) rfl h_inb_x1_6 dP_missAt_38 ?_
  refine lv_imul hx hb dP_missAt_39 ?_
  refine lv_isub hx hb dP_missAt_40 ?_
  obtain ⟨x4_4, ex4_4, hf⟩ := m_lx hf
  refine m_topi ex4_4 ?_
  refine lv_istore (lv' := [(4, .int x4_4), (3, .int x3_2), (0, .ref (ad 1)), (1, .int x1), (2, .ref (ad k2))]) hx hb dP_missAt_41 hl (by decide) rfl (fun ls hl => ?_)
  refine lv_iconst (v := 0) hx hb dP_missAt_43 (by decide) ?_
  refine lv_iload_n hx hb dP_missAt_44 rfl (lv_at hl 1 rfl) ?_
  refine va_mmax hx hb (hml.trans hl.1.symm) hown (hts _ k2_87) (hts _ k2_88) (hts _ k1_9) (hts _ kc_math_max) (by decide) (Nat.le_of_ble_eq_true rfl) (Nat.zero_le _) (Nat.zero_le _) dP_missAt_45 ?_
  refine lv_iconst (v := 0) hx hb dP_missAt_48 (by decide) ?_
  refine lv_iload hx hb dP_missAt_49 (lv_at hl 0 rfl) ?_
  refine va_mmax hx hb (hml.trans hl.1.symm) hown (hts _ k2_87) (hts _ k2_88) (hts _ k1_9) (hts _ kc_math_max) (by decide) (Nat.le_of_ble_eq_true rfl) (Nat.zero_le _) (Nat.zero_le _) dP_missAt_51 ?_
  refine lv_iadd hx hb dP_missAt_54 ?_
  exact hret _ _ _ _ _ (fun _ _ => 0) hf rfl hZ dP_missAt_55
abbrev rmG_told : Room := { frames := 2, cells := 0, slots := 0, locals := 49 }
set_option maxHeartbeats 4000000 in
set_option maxRecDepth 100000 in
theorem cG_told (l : Launch) (D : va_G) (ad : Nat → Nat) (c3 : ClassId × ClassId × ClassId) (M : mMem) (x1 : Int32) (x2 : Int32)  {r : Int32} (hf : fG_told M x1 x2 = some r) : kPX l D ad c3 yG_told wG_told rmG_told [.ref (ad 0), .int x1, .int x2] M r := by
  refine m_oP (cc := bG_told) (maxL := 3) (ty := .int) (own := R_G) nestX (by decide) rfl (Nat.le_of_ble_eq_true rfl) rfl (fun p e s m args below meth c Q hx hb hml hown hts hK hN hret ls hZ hl => ?_)
  have hl : lv_has ls 3 [(0, .ref (ad 0)), (1, .int x1), (2, .int x2)] := hl
  unfold fG_told at hf
  refine lv_aload_n hx hb dG_told_0 rfl (lv_at hl 0 rfl) ?_
  refine m_getR (k' := 66) hx hb hts in_G hown hK hZ (by decide) rfl rfl 4 (by decide) (hts _ k2_12) (fun _ h9 => h9) rfl dG_told_1 ?_
  refine m_get hx hb hts in_X hown hK hZ (by decide) rfl rfl 0 (by decide) (hts _ k1_110) (fun _ h9 => h9) rfl dG_told_4 ?_
  refine lv_if_eq (tgt := 21) hx hb dG_told_7 (by decide) (fun c_1 => ?_) (fun c_1 => ?_)
  · have hf := m_t hf c_1
    refine lv_iconst (v := (-1)) hx hb dG_told_21 (by decide) ?_
    exact hret _ _ _ _ _ (fun _ _ => 0) hf rfl hZ dG_told_22
  · have hf := m_f hf c_1
    refine lv_aload_n hx hb dG_told_10 rfl (lv_at hl 0 rfl) ?_
    refine m_getR (k' := 1) hx hb hts in_G hown hK hZ (by decide) rfl rfl 0 (by decide) (hts _ k2_8) (fun _ h9 => h9) rfl dG_told_11 ?_
    refine lv_iload_n hx hb dG_told_14 rfl (lv_at hl 1 rfl) ?_
    obtain ⟨r_2, hc, hf⟩ := m_b1x hf
    refine m_ci (va_runV (As := [.int x1]) (rest := []) ⟨hx, hb, hml, hown, hts⟩ (cP_hasSieve l D ad c3 M x1 hc) (cwV 1 hts (gV k2_59 k2_60 k2_61 k1_2 kc_P_hasSieve) rfl rfl rfl (by decide +kernel) ⟨by decide, by decide⟩) (m_preV hK hN hZ (by decide) rfl rfl) rfl rfl hl.1 rfl (lv_room (Nat.le_of_ble_eq_true rfl)) dG_told_15 ⟨Nat.zero_le _, Nat.zero_le _⟩) hZ (fun H locs hZ => ?_)
    refine lv_if_ne (tgt := 23) hx hb dG_told_18 (by decide) (fun c_3 => ?_) (fun c_3 => ?_)
    · have hf := m_f hf c_3
      refine lv_iload_n hx hb dG_told_23 rfl (lv_at hl 2 rfl) ?_
      by_cases c_4 : x2 = 0
      · have hf := m_t hf c_4
        refine lv_tableIn (tgt := 56) hx hb dG_told_24 (by rw [c_4]; decide) (by rw [c_4]; decide) (by rw [c_4]; rfl) (by decide) ?_
        refine lv_aload_n hx hb dG_told_56 rfl (lv_at hl 0 rfl) ?_
        refine m_getR (k' := 1) hx hb hts in_G hown hK hZ (by decide) rfl rfl 0 (by decide) (hts _ k2_8) (fun _ h9 => h9) rfl dG_told_57 ?_
        refine lv_iload_n hx hb dG_told_60 rfl (lv_at hl 1 rfl) ?_
        refine lv_aload_n hx hb dG_told_61 rfl (lv_at hl 0 rfl) ?_
        refine m_getR (k' := 1) hx hb hts in_G hown hK hZ (by decide) rfl rfl 0 (by decide) (hts _ k2_8) (fun _ h9 => h9) rfl dG_told_62 ?_
        refine m_getR (k' := 9) hx hb hts in_P hown hK hZ (by decide) rfl rfl 11 (by decide) (hts _ k1_57) (fun _ h9 => h9) rfl dG_told_65 ?_
        refine lv_aload_n hx hb dG_told_68 rfl (lv_at hl 0 rfl) ?_
        refine m_getR (k' := 66) hx hb hts in_G hown hK hZ (by decide) rfl rfl 4 (by decide) (hts _ k2_12) (fun _ h9 => h9) rfl dG_told_69 ?_
        obtain ⟨r_5, hc, hf⟩ := m_b1x hf
        refine m_ci (va_runV (As := [.int x1, .ref (ad 9), .ref (ad 66)]) (rest := []) ⟨hx, hb, hml, hown, hts⟩ (cP_sumAt l D ad c3 M x1 9 66 ⟨rfl, by decide, grX_9⟩ isX_X_66 hc) (cwV 3 hts (gV k2_192 k2_193 k2_194 k1_2 kc_P_sumAt) rfl rfl rfl (by decide +kernel) ⟨by decide, by decide⟩) (m_preV hK hN hZ (by decide) rfl rfl) rfl rfl hl.1 rfl (lv_room (Nat.le_of_ble_eq_true rfl)) dG_told_72 ⟨Nat.zero_le _, Nat.zero_le _⟩) hZ (fun H locs hZ => ?_)
        exact hret _ _ _ _ _ (fun _ _ => 0) hf rfl hZ dG_told_75
      have hf := m_f hf c_4
      by_cases c_6 : x2 = 1
      · have hf := m_t hf c_6
        refine lv_tableIn (tgt := 76) hx hb dG_told_24 (by rw [c_6]; decide) (by rw [c_6]; decide) (by rw [c_6]; rfl) (by decide) ?_
        refine lv_aload_n hx hb dG_told_76 rfl (lv_at hl 0 rfl) ?_
        refine m_getR (k' := 1) hx hb hts in_G hown hK hZ (by decide) rfl rfl 0 (by decide) (hts _ k2_8) (fun _ h9 => h9) rfl dG_told_77 ?_
        refine lv_iload_n hx hb dG_told_80 rfl (lv_at hl 1 rfl) ?_
        refine lv_aload_n hx hb dG_told_81 rfl (lv_at hl 0 rfl) ?_
        refine m_getR (k' := 1) hx hb hts in_G hown hK hZ (by decide) rfl rfl 0 (by decide) (hts _ k2_8) (fun _ h9 => h9) rfl dG_told_82 ?_
        refine m_getR (k' := 14) hx hb hts in_P hown hK hZ (by decide) rfl rfl 12 (by decide) (hts _ k1_60) (fun _ h9 => h9) rfl dG_told_85 ?_
        refine lv_aload_n hx hb dG_told_88 rfl (lv_at hl 0 rfl) ?_
        refine m_getR (k' := 66) hx hb hts in_G hown hK hZ (by decide) rfl rfl 4 (by decide) (hts _ k2_12) (fun _ h9 => h9) rfl dG_told_89 ?_
        obtain ⟨r_7, hc, hf⟩ := m_b1x hf
        refine m_ci (va_runV (As := [.int x1, .ref (ad 14), .ref (ad 66)]) (rest := []) ⟨hx, hb, hml, hown, hts⟩ (cP_sumAt l D ad c3 M x1 14 66 ⟨rfl, by decide, grX_14⟩ isX_X_66 hc) (cwV 3 hts (gV k2_192 k2_193 k2_194 k1_2 kc_P_sumAt) rfl rfl rfl (by decide +kernel) ⟨by decide, by decide⟩) (m_preV hK hN hZ (by decide) rfl rfl) rfl rfl hl.1 rfl (lv_room (Nat.le_of_ble_eq_true rfl)) dG_told_92 ⟨Nat.zero_le _, Nat.zero_le _⟩) hZ (fun H locs hZ => ?_)
        exact hret _ _ _ _ _ (fun _ _ => 0) hf rfl hZ dG_told_95
      have hf := m_f hf c_6
      by_cases c_8 : x2 = 2
      · have hf := m_t hf c_8
        refine lv_tableIn (tgt := 96) hx hb dG_told_24 (by rw [c_8]; decide) (by rw [c_8]; decide) (by rw [c_8]; rfl) (by decide) ?_
        refine lv_aload_n hx hb dG_told_96 rfl (lv_at hl 0 rfl) ?_
        refine m_getR (k' := 1) hx hb hts in_G hown hK hZ (by decide) rfl rfl 0 (by decide) (hts _ k2_8) (fun _ h9 => h9) rfl dG_told_97 ?_
        refine lv_iload_n hx hb dG_told_100 rfl (lv_at hl 1 rfl) ?_
        refine lv_aload_n hx hb dG_told_101 rfl (lv_at hl 0 rfl) ?_
        refine m_getR (k' := 1) hx hb hts in_G hown hK hZ (by decide) rfl rfl 0 (by decide) (hts _ k2_8) (fun _ h9 => h9) rfl dG_told_102 ?_
        refine m_getR (k' := 19) hx hb hts in_P hown hK hZ (by decide) rfl rfl 13 (by decide) (hts _ k1_63) (fun _ h9 => h9) rfl dG_told_105 ?_
        refine lv_aload_n hx hb dG_told_108 rfl (lv_at hl 0 rfl) ?_
        refine m_getR (k' := 66) hx hb hts in_G hown hK hZ (by decide) rfl rfl 4 (by decide) (hts _ k2_12) (fun _ h9 => h9) rfl dG_told_109 ?_
        obtain ⟨r_9, hc, hf⟩ := m_b1x hf
        refine m_ci (va_runV (As := [.int x1, .ref (ad 19), .ref (ad 66)]) (rest := []) ⟨hx, hb, hml, hown, hts⟩ (cP_sumAt l D ad c3 M x1 19 66 ⟨rfl, by decide, grX_19⟩ isX_X_66 hc) (cwV 3 hts (gV k2_192 k2_193 k2_194 k1_2 kc_P_sumAt) rfl rfl rfl (by decide +kernel) ⟨by decide, by decide⟩) (m_preV hK hN hZ (by decide) rfl rfl) rfl rfl hl.1 rfl (lv_room (Nat.le_of_ble_eq_true rfl)) dG_told_112 ⟨Nat.zero_le _, Nat.zero_le _⟩) hZ (fun H locs hZ => ?_)
        exact hret _ _ _ _ _ (fun _ _ => 0) hf rfl hZ dG_told_115
      have hf := m_f hf c_8
      by_cases c_10 : x2 = 3
      · have hf := m_t hf c_10
        refine lv_tableIn (tgt := 116) hx hb dG_told_24 (by rw [c_10]; decide) (by rw [c_10]; decide) (by rw [c_10]; rfl) (by decide) ?_
        refine lv_aload_n hx hb dG_told_116 rfl (lv_at hl 0 rfl) ?_
        refine m_getR (k' := 1) hx hb hts in_G hown hK hZ (by decide) rfl rfl 0 (by decide) (hts _ k2_8) (fun _ h9 => h9) rfl dG_told_117 ?_
        refine lv_iload_n hx hb dG_told_120 rfl (lv_at hl 1 rfl) ?_
        refine lv_aload_n hx hb dG_told_121 rfl (lv_at hl 0 rfl) ?_
        refine m_getR (k' := 66) hx hb hts in_G hown hK hZ (by decide) rfl rfl 4 (by decide) (hts _ k2_12) (fun _ h9 => h9) rfl dG_told_122 ?_
        obtain ⟨r_11, hc, hf⟩ := m_b1x hf
        refine m_ci (va_runV (As := [.int x1, .ref (ad 66)]) (rest := []) ⟨hx, hb, hml, hown, hts⟩ (cP_missAt l D ad c3 M x1 66 isX_X_66 hc) (cwV 2 hts (gV k2_196 k2_197 k2_198 k1_2 kc_P_missAt) rfl rfl rfl (by decide +kernel) ⟨by decide, by decide⟩) (m_preV hK hN hZ (by decide) rfl rfl) rfl rfl hl.1 rfl (lv_room (Nat.le_of_ble_eq_true rfl)) dG_told_125 ⟨Nat.zero_le _, Nat.zero_le _⟩) hZ (fun H locs hZ => ?_)
        exact hret _ _ _ _ _ (fun _ _ => 0) hf rfl hZ dG_told_128
      have hf := m_f hf c_10
      refine lv_tableOut (tgt := 129) hx hb dG_told_24 (m_sw0_3 c_4 c_6 c_8 c_10) (by decide) ?_
      refine lv_iconst (v := (-1)) hx hb dG_told_129 (by decide) ?_
      exact hret _ _ _ _ _ (fun _ _ => 0) hf rfl hZ dG_told_130
    · have hf := m_t hf c_3
      refine lv_iconst (v := (-1)) hx hb dG_told_21 (by decide) ?_
      exact hret _ _ _ _ _ (fun _ _ => 0) hf rfl hZ dG_told_22
