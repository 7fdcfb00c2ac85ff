abbrev rmM_near : Room := { frames := 5, cells := 0, slots := 0, locals := 130 }
set_option maxHeartbeats 4000000 in
set_option maxRecDepth 100000 in
theorem cM_near (l : Launch) (D : va_G) (ad : Nat → Nat) (c3 : ClassId × ClassId × ClassId) (M : mMem)   {r : Int32} {M' : mMem} (hf : fM_near M  = some (r, M')) : kIM l D ad c3 yM_near wM_near rmM_near [.ref (ad 0)] M r M' := by
  refine m_oI (cc := bM_near) (maxL := 1) (ty := .int) (own := R_M) nestM (by decide) rfl (Nat.le_of_ble_eq_true rfl) rfl (fun p e s m args below meth c Q hx hb hml hown hts hK hN hret ls hZ hl => ?_)
  have hl : lv_has ls 1 [(0, .ref (ad 0))] := hl
  unfold fM_near at hf
  refine lv_aload_n hx hb dM_near_0 rfl (lv_at hl 0 rfl) ?_
  refine lv_iconst (v := 1) hx hb dM_near_1 (by decide) ?_
  refine lv_iconst (v := (-1)) hx hb dM_near_2 (by decide) ?_
  refine lv_iconst (v := 0) hx hb dM_near_3 (by decide) ?_
  refine lv_iconst (v := 0) hx hb dM_near_4 (by decide) ?_
  obtain ⟨M_1, hc, hf⟩ := m_b1x hf
  refine m_cv (va_runV (As := [.int 1, .int (-1), .int 0, .int 0]) (rest := []) ⟨hx, hb, hml, hown, hts⟩ (cM_goThrough l D ad c3 M 1 (-1) 0 0 hc) (cwV 4 hts (gV k3_222 k3_224 kp_18 k1_8 kc_M_goThrough) rfl rfl rfl (by decide +kernel) ⟨by decide, by decide⟩) (m_preV hK hN hZ (by decide) rfl rfl) rfl rfl hl.1 rfl (lv_room (Nat.le_of_ble_eq_true rfl)) dM_near_5 ⟨Nat.zero_le _, Nat.zero_le _⟩) hZ (fun H locs hZ => ?_)
  refine lv_aload_n hx hb dM_near_8 rfl (lv_at hl 0 rfl) ?_
  refine m_get hx hb hts in_M hown hK hZ (by decide) rfl rfl 22 (by decide) (hts _ k3_61) (fun _ h9 => h9) rfl dM_near_9 ?_
  refine lv_if_ne (tgt := 17) hx hb dM_near_12 (by decide) (fun c_2 => ?_) (fun c_2 => ?_)
  · have hf := m_f hf c_2
    refine lv_aload_n hx hb dM_near_17 rfl (lv_at hl 0 rfl) ?_
    obtain ⟨M_3, hc, hf⟩ := m_b1x hf
    refine m_cv (va_runV (As := []) (rest := []) ⟨hx, hb, hml, hown, hts⟩ (cM_take l D ad c3 M_1 hc) (cwV 0 hts (gV k4_14 k4_16 kp_26 k1_8 kc_M_take) rfl rfl rfl (by decide +kernel) ⟨by decide, by decide⟩) (m_preV hK hN hZ (by decide) rfl rfl) rfl rfl hl.1 rfl (lv_room (Nat.le_of_ble_eq_true rfl)) dM_near_18 ⟨Nat.zero_le _, Nat.zero_le _⟩) hZ (fun H locs hZ => ?_)
    refine lv_aload_n hx hb dM_near_21 rfl (lv_at hl 0 rfl) ?_
    refine m_get hx hb hts in_M hown hK hZ (by decide) rfl rfl 23 (by decide) (hts _ k3_62) (fun _ h9 => h9) rfl dM_near_22 ?_
    exact hret _ _ _ _ _ _ hf rfl hZ dM_near_25
  · have hf := m_t hf c_2
    refine lv_iconst (v := (-1)) hx hb dM_near_15 (by decide) ?_
    exact hret _ _ _ _ _ _ hf rfl hZ dM_near_16
abbrev rmM_share : Room := { frames := 1, cells := 0, slots := 0, locals := 21 }
set_option maxHeartbeats 4000000 in
set_option maxRecDepth 100000 in
theorem cM_share (l : Launch) (D : va_G) (ad : Nat → Nat) (c3 : ClassId × ClassId × ClassId) (M : mMem) (x1 : Int32)  {r : Int32} (hf : fM_share M x1 = some r) : kPM l D ad c3 yM_share wM_share rmM_share [.ref (ad 0), .int x1] M r := by
  refine m_oP (cc := bM_share) (maxL := 2) (ty := .int) (own := R_M) nestM (by decide) rfl (Nat.le_of_ble_eq_true rfl) rfl (fun p e s m args below meth c Q hx hb hml hown hts hK hN hret ls hZ hl => ?_)
  have hl : lv_has ls 2 [(0, .ref (ad 0)), (1, .int x1)] := hl
  unfold fM_share at hf
  refine lv_aload_n hx hb dM_share_0 rfl (lv_at hl 0 rfl) ?_
  refine m_get hx hb hts in_M hown hK hZ (by decide) rfl rfl 18 (by decide) (hts _ k3_57) (fun _ h9 => h9) rfl dM_share_1 ?_
  refine lv_if_eq (tgt := 24) hx hb dM_share_4 (by decide) (fun c_1 => ?_) (fun c_1 => ?_)
  · have hf := m_t hf c_1
    refine lv_iconst (v := (-1)) hx hb dM_share_24 (by decide) ?_
    exact hret _ _ _ _ _ (fun _ _ => 0) hf rfl hZ dM_share_25
  · have hf := m_f hf c_1
    refine lv_aload_n hx hb dM_share_7 rfl (lv_at hl 0 rfl) ?_
    refine lv_iload_n hx hb dM_share_8 rfl (lv_at hl 1 rfl) ?_
    obtain ⟨r_2, hc, hf⟩ := m_b1x hf
    refine m_ci (va_runV (As := [.int x1]) (rest := []) ⟨hx, hb, hml, hown, hts⟩ (cM_isStock l D ad c3 M x1 hc) (cwV 1 hts (gV k3_182 k3_184 kp_13 k1_8 kc_M_isStock) rfl rfl rfl (by decide +kernel) ⟨by decide, by decide⟩) (m_preV hK hN hZ (by decide) rfl rfl) rfl rfl hl.1 rfl (lv_room (Nat.le_of_ble_eq_true rfl)) dM_share_9 ⟨Nat.zero_le _, Nat.zero_le _⟩) hZ (fun H locs hZ => ?_)
    refine lv_if_eq (tgt := 24) hx hb dM_share_12 (by decide) (fun c_3 => ?_) (fun c_3 => ?_)
    · have hf := m_t hf c_3
      refine lv_iconst (v := (-1)) hx hb dM_share_24 (by decide) ?_
      exact hret _ _ _ _ _ (fun _ _ => 0) hf rfl hZ dM_share_25
    · have hf := m_f hf c_3
      refine lv_aload_n hx hb dM_share_15 rfl (lv_at hl 0 rfl) ?_
      refine m_getR (k' := 13) hx hb hts in_M hown hK hZ (by decide) rfl rfl 19 (by decide) (hts _ k3_58) (fun _ h9 => h9) rfl dM_share_16 ?_
      refine lv_iload_n hx hb dM_share_19 rfl (lv_at hl 1 rfl) ?_
      obtain ⟨h_inb_x1_4, hf⟩ := m_gx hf
      refine m_iald hx hb hK hZ (by decide) rfl h_inb_x1_4 dM_share_20 ?_
      refine lv_goto (tgt := 25) hx hb dM_share_21 (by decide) ?_
      exact hret _ _ _ _ _ (fun _ _ => 0) hf rfl hZ dM_share_25
abbrev rmM_told : Room := { frames := 3, cells := 0, slots := 0, locals := 75 }
set_option maxHeartbeats 4000000 in
set_option maxRecDepth 100000 in
theorem cM_told (l : Launch) (D : va_G) (ad : Nat → Nat) (c3 : ClassId × ClassId × ClassId) (M : mMem) (x1 : Int32) (x2 : Int32)  {r : Int32} (hf : fM_told M x1 x2 = some r) : kPM l D ad c3 yM_told wM_told rmM_told [.ref (ad 0), .int x1, .int x2] M r := by
  refine m_oP (cc := bM_told) (maxL := 3) (ty := .int) (own := R_M) nestM (by decide) rfl (Nat.le_of_ble_eq_true rfl) rfl (fun p e s m args below meth c Q hx hb hml hown hts hK hN hret ls hZ hl => ?_)
  have hl : lv_has ls 3 [(0, .ref (ad 0)), (1, .int x1), (2, .int x2)] := hl
  unfold fM_told at hf
  refine lv_aload_n hx hb dM_told_0 rfl (lv_at hl 0 rfl) ?_
  refine m_get hx hb hts in_M hown hK hZ (by decide) rfl rfl 18 (by decide) (hts _ k3_57) (fun _ h9 => h9) rfl dM_told_1 ?_
  refine lv_if_eq (tgt := 24) hx hb dM_told_4 (by decide) (fun c_1 => ?_) (fun c_1 => ?_)
  · have hf := m_t hf c_1
    refine lv_iconst (v := (-1)) hx hb dM_told_24 (by decide) ?_
    exact hret _ _ _ _ _ (fun _ _ => 0) hf rfl hZ dM_told_25
  · have hf := m_f hf c_1
    refine lv_aload_n hx hb dM_told_7 rfl (lv_at hl 0 rfl) ?_
    refine lv_iload_n hx hb dM_told_8 rfl (lv_at hl 1 rfl) ?_
    obtain ⟨r_2, hc, hf⟩ := m_b1x hf
    refine m_ci (va_runV (As := [.int x1]) (rest := []) ⟨hx, hb, hml, hown, hts⟩ (cM_isSieve l D ad c3 M x1 hc) (cwV 1 hts (gV k3_166 k3_168 kp_12 k1_8 kc_M_isSieve) rfl rfl rfl (by decide +kernel) ⟨by decide, by decide⟩) (m_preV hK hN hZ (by decide) rfl rfl) rfl rfl hl.1 rfl (lv_room (Nat.le_of_ble_eq_true rfl)) dM_told_9 ⟨Nat.zero_le _, Nat.zero_le _⟩) hZ (fun H locs hZ => ?_)
    refine lv_if_eq (tgt := 24) hx hb dM_told_12 (by decide) (fun c_3 => ?_) (fun c_3 => ?_)
    · have hf := m_t hf c_3
      refine lv_iconst (v := (-1)) hx hb dM_told_24 (by decide) ?_
      exact hret _ _ _ _ _ (fun _ _ => 0) hf rfl hZ dM_told_25
    · have hf := m_f hf c_3
      refine lv_iload_n hx hb dM_told_15 rfl (lv_at hl 2 rfl) ?_
      refine lv_iconst (v := 0) hx hb dM_told_16 (by decide) ?_
      refine lv_iconst (v := 3) hx hb dM_told_17 (by decide) ?_
      obtain ⟨r_4, hc, hf⟩ := m_b1x hf
      refine m_ci (va_runS (As := [.int x2, .int 0, .int 3]) (rest := []) ⟨hx, hb, hml, hown, hts⟩ (cM_within l D ad c3 M x2 0 3 hc) (cwS 3 hts (gS9 k3_175 k3_176 k1_8 kc_M_within) rfl rfl rfl (by decide +kernel) ⟨by decide, by decide⟩) (m_preS hK hN hZ) rfl rfl hl.1 rfl (lv_room (Nat.le_of_ble_eq_true rfl)) dM_told_18 ⟨Nat.zero_le _, Nat.zero_le _⟩) hZ (fun H locs hZ => ?_)
      refine lv_if_ne (tgt := 26) hx hb dM_told_21 (by decide) (fun c_5 => ?_) (fun c_5 => ?_)
      · have hf := m_f hf c_5
        refine lv_iload_n hx hb dM_told_26 rfl (lv_at hl 2 rfl) ?_
        refine lv_iconst (v := 3) hx hb dM_told_27 (by decide) ?_
        refine lv_icmp_ne (tgt := 55) hx hb dM_told_28 (by decide) (fun c_6 => ?_) (fun c_6 => ?_)
        · have hf := m_f hf c_6
          refine lv_aload_n hx hb dM_told_55 rfl (lv_at hl 0 rfl) ?_
          refine lv_aload_n hx hb dM_told_56 rfl (lv_at hl 0 rfl) ?_
          refine m_getR (k' := 13) hx hb hts in_M hown hK hZ (by decide) rfl rfl 19 (by decide) (hts _ k3_58) (fun _ h9 => h9) rfl dM_told_57 ?_
          refine lv_iload_n hx hb dM_told_60 rfl (lv_at hl 1 rfl) ?_
          refine lv_iload_n hx hb dM_told_61 rfl (lv_at hl 2 rfl) ?_
          obtain ⟨r_8, hc, hf⟩ := m_b1x hf
          refine m_ci (va_runV (As := [.ref (ad 13), .int x1, .int x2]) (rest := []) ⟨hx, hb, hml, hown, hts⟩ (cM_endOf l D ad c3 M 13 x1 x2 ⟨rfl, (by decide)⟩ hc) (cwV 3 hts (gV k3_238 k4_0 kp_22 k1_8 kc_M_endOf) rfl rfl rfl (by decide +kernel) ⟨by decide, by decide⟩) (m_preV hK hN hZ (by decide) rfl rfl) rfl rfl hl.1 rfl (lv_room (Nat.le_of_ble_eq_true rfl)) dM_told_62 ⟨Nat.zero_le _, Nat.zero_le _⟩) hZ (fun H locs hZ => ?_)
          exact hret _ _ _ _ _ (fun _ _ => 0) hf rfl hZ dM_told_65
        · have hf := m_t hf c_6
          refine lv_aload_n hx hb dM_told_31 rfl (lv_at hl 0 rfl) ?_
          refine lv_aload_n hx hb dM_told_32 rfl (lv_at hl 0 rfl) ?_
          refine m_getR (k' := 13) hx hb hts in_M hown hK hZ (by decide) rfl rfl 19 (by decide) (hts _ k3_58) (fun _ h9 => h9) rfl dM_told_33 ?_
          refine lv_iload_n hx hb dM_told_36 rfl (lv_at hl 1 rfl) ?_
          refine lv_aload_n hx hb dM_told_37 rfl (lv_at hl 0 rfl) ?_
          refine m_getR (k' := 1) hx hb hts in_M hown hK hZ (by decide) rfl rfl 1 (by decide) (hts _ k3_40) (fun _ h9 => h9) rfl dM_told_38 ?_
          refine lv_iload_n hx hb dM_told_41 rfl (lv_at hl 1 rfl) ?_
          obtain ⟨h_inb_x1_6, hf⟩ := m_gx hf
          refine m_iald hx hb hK hZ (by decide) rfl h_inb_x1_6 dM_told_42 ?_
          refine lv_aload_n hx hb dM_told_43 rfl (lv_at hl 0 rfl) ?_
          refine m_getR (k' := 2) hx hb hts in_M hown hK hZ (by decide) rfl rfl 2 (by decide) (hts _ k3_41) (fun _ h9 => h9) rfl dM_told_44 ?_
          refine lv_iload_n hx hb dM_told_47 rfl (lv_at hl 1 rfl) ?_
          refine m_iald hx hb hK hZ (by decide) rfl h_inb_x1_6 dM_told_48 ?_
          obtain ⟨r_7, hc, hf⟩ := m_b1x hf
          refine m_ci (va_runV (As := [.ref (ad 13), .int x1, .int (M 1 x1.toNatClampNeg), .int (M 2 x1.toNatClampNeg)]) (rest := []) ⟨hx, hb, hml, hown, hts⟩ (cM_missOf l D ad c3 M 13 x1 (M 1 x1.toNatClampNeg) (M 2 x1.toNatClampNeg) ⟨rfl, (by decide)⟩ hc) (cwV 4 hts (gV k3_234 k3_236 kp_21 k1_8 kc_M_missOf) rfl rfl rfl (by decide +kernel) ⟨by decide, by decide⟩) (m_preV hK hN hZ (by decide) rfl rfl) rfl rfl hl.1 rfl (lv_room (Nat.le_of_ble_eq_true rfl)) dM_told_49 ⟨Nat.zero_le _, Nat.zero_le _⟩) hZ (fun H locs hZ => ?_)
          refine lv_goto (tgt := 65) hx hb dM_told_52 (by decide) ?_
          exact hret _ _ _ _ _ (fun _ _ => 0) hf rfl hZ dM_told_65
      · have hf := m_t hf c_5
        refine lv_iconst (v := (-1)) hx hb dM_told_24 (by decide) ?_
        exact hret _ _ _ _ _ (fun _ _ => 0) hf rfl hZ dM_told_25
abbrev rmM_cost : Room := { frames := 1, cells := 0, slots := 0, locals := 23 }
set_option maxHeartbeats 4000000 in
set_option maxRecDepth 100000 in
theorem cM_cost (l : Launch) (D : va_G) (ad : Nat → Nat) (c3 : ClassId × ClassId × ClassId) (M : mMem)   {r : Int32} (hf : fM_cost M  = some r) : kPM l D ad c3 yM_cost wM_cost rmM_cost [.ref (ad 0)] M r := by
  refine m_oP (cc := bM_cost) (maxL := 1) (ty := .int) (own := R_M) nestM (by decide) rfl (Nat.le_of_ble_eq_true rfl) rfl (fun p e s m args below meth c Q hx hb hml hown hts hK hN hret ls hZ hl => ?_)
  have hl : lv_has ls 1 [(0, .ref (ad 0))] := hl
  unfold fM_cost at hf
  refine lv_aload_n hx hb dM_cost_0 rfl (lv_at hl 0 rfl) ?_
  refine m_get hx hb hts in_M hown hK hZ (by decide) rfl rfl 18 (by decide) (hts _ k3_57) (fun _ h9 => h9) rfl dM_cost_1 ?_
  refine lv_if_eq (tgt := 18) hx hb dM_cost_4 (by decide) (fun c_1 => ?_) (fun c_1 => ?_)
  · have hf := m_t hf c_1
    refine lv_iconst (v := (-1)) hx hb dM_cost_18 (by decide) ?_
    exact hret _ _ _ _ _ (fun _ _ => 0) hf rfl hZ dM_cost_19
  · have hf := m_f hf c_1
    refine lv_aload_n hx hb dM_cost_7 rfl (lv_at hl 0 rfl) ?_
    refine lv_aload_n hx hb dM_cost_8 rfl (lv_at hl 0 rfl) ?_
    refine m_getR (k' := 13) hx hb hts in_M hown hK hZ (by decide) rfl rfl 19 (by decide) (hts _ k3_58) (fun _ h9 => h9) rfl dM_cost_9 ?_
    obtain ⟨r_2, hc, hf⟩ := m_b1x hf
    refine m_ci (va_runV (As := [.ref (ad 13)]) (rest := []) ⟨hx, hb, hml, hown, hts⟩ (cM_costOf l D ad c3 M 13 ⟨rfl, (by decide)⟩ hc) (cwV 1 hts (gV k4_10 k4_12 kp_25 k1_8 kc_M_costOf) rfl rfl rfl (by decide +kernel) ⟨by decide, by decide⟩) (m_preV hK hN hZ (by decide) rfl rfl) rfl rfl hl.1 rfl (lv_room (Nat.le_of_ble_eq_true rfl)) dM_cost_12 ⟨Nat.zero_le _, Nat.zero_le _⟩) hZ (fun H locs hZ => ?_)
    refine lv_goto (tgt := 19) hx hb dM_cost_15 (by decide) ?_
    exact hret _ _ _ _ _ (fun _ _ => 0) hf rfl hZ dM_cost_19
abbrev rmM_lonely : Room := { frames := 5, cells := 0, slots := 0, locals := 130 }
set_option maxHeartbeats 4000000 in
set_option maxRecDepth 100000 in
theorem cM_lonely (l : Launch) (D : va_G) (ad : Nat → Nat) (c3 : ClassId × ClassId × ClassId) (M : mMem) (x1 : Int32)  {r : Int32} {M' : mMem} (hf : fM_lonely M x1 = some (r, M')) : kIM l D ad c3 yM_lonely wM_lonely rmM_lonely [.ref (ad 0), .int x1] M r M' := by
  refine m_oI (cc := bM_lonely) (maxL := 4) (ty := .int) (own := R_M) nestM (by decide) rfl (Nat.le_of_ble_eq_true rfl) rfl (fun p e s m args below meth c Q hx hb hml hown hts hK hN hret ls hZ hl => ?_)
  have hl : lv_has ls 4 [(0, .ref (ad 0)), (1, .int x1)] := hl
  unfold fM_lonely at hf
  have L12 : ∀ (M : mMem) (n12 : Nat) (x2 : Int32) (x3 : Int32), fM_lonely_L12 M n12 x2 x3 = some (r, M') → ∀ (H : Heap) (locs : List Loc) (ls : Array Slot), zM D ad c3 s H locs M → lv_has ls 4 [(0, .ref (ad 0)), (2, .int x2), (3, .int x3)] → W p l e rmM_lonely s m args below meth c H locs 0 0 Q (F0 m 12 ls []) := by
    intro M n12
    induction n12 with
    | zero => intro x2 x3 hf; exact m_none hf
    | succ n12 ih12 =>
      intro x2 x3 hf H locs ls hZ hl
      rw [fM_lonely_L12] at hf
      refine lv_iload_n hx hb dM_lonely_12 rfl (lv_at hl 2 rfl) ?_
      refine lv_aload_n hx hb dM_lonely_13 rfl (lv_at hl 0 rfl) ?_
      refine m_get hx hb hts in_M hown hK hZ (by decide) rfl rfl 0 (by decide) (hts _ k3_39) (fun _ h9 => h9) rfl dM_lonely_14 ?_
      refine lv_icmp_ge (tgt := 55) hx hb dM_lonely_17 (by decide) (fun c_2 => ?_) (fun c_2 => ?_)
      · have hf := m_t hf c_2
        refine lv_iconst (v := (-1)) hx hb dM_lonely_55 (by decide) ?_
        exact hret _ _ _ _ _ _ hf rfl hZ dM_lonely_56
      · have hf := m_f hf c_2
        refine lv_iload_n hx hb dM_lonely_20 rfl (lv_at hl 1 rfl) ?_
        refine lv_if_lt (tgt := 55) hx hb dM_lonely_21 (by decide) (fun c_3 => ?_) (fun c_3 => ?_)
        · have hf := m_t hf c_3
          refine lv_iconst (v := (-1)) hx hb dM_lonely_55 (by decide) ?_
          exact hret _ _ _ _ _ _ hf rfl hZ dM_lonely_56
        · have hf := m_f hf c_3
          refine lv_aload_n hx hb dM_lonely_24 rfl (lv_at hl 0 rfl) ?_
          refine m_get hx hb hts in_M hown hK hZ (by decide) rfl rfl 25 (by decide) (hts _ k3_64) (fun _ h9 => h9) rfl dM_lonely_25 ?_
          refine lv_if_le (tgt := 55) hx hb dM_lonely_28 (by decide) (fun c_4 => ?_) (fun c_4 => ?_)
          · have hf := m_t hf c_4
            refine lv_iconst (v := (-1)) hx hb dM_lonely_55 (by decide) ?_
            exact hret _ _ _ _ _ _ hf rfl hZ dM_lonely_56
          · have hf := m_f hf c_4
            refine lv_aload_n hx hb dM_lonely_31 rfl (lv_at hl 0 rfl) ?_
            refine m_getR (k' := 16) hx hb hts in_M hown hK hZ (by decide) rfl rfl 27 (by decide) (hts _ k3_66) (fun _ h9 => h9) rfl dM_lonely_32 ?_
            refine lv_iload_n hx hb dM_lonely_35 rfl (lv_at hl 2 rfl) ?_
            obtain ⟨h_5, hf⟩ := m_gx hf
            refine m_zald hx hb hK hZ (by decide) rfl h_5 dM_lonely_36 ?_
            refine lv_if_ne (tgt := 49) hx hb dM_lonely_37 (by decide) (fun c_6 => ?_) (fun c_6 => ?_)
            · have hf := m_f hf c_6
              obtain ⟨x3_10, ex3_10, hf⟩ := m_lx hf
              refine lv_iinc (v := x3_10) (lv' := [(3, .int x3_10), (0, .ref (ad 0)), (2, .int x2)]) hx hb dM_lonely_49 hl (k := 2) rfl (by rw [ex3_10]; rfl) (by decide) rfl (fun ls hl => ?_)
              refine lv_goto (tgt := 12) hx hb dM_lonely_52 (by decide) ?_
              exact ih12 _ _ hf _ _ _ hZ (lv_sub hl [1, 2, 0] rfl)
            · have hf := m_t hf c_6
              refine lv_iload_n hx hb dM_lonely_40 rfl (lv_at hl 1 rfl) ?_
              refine lv_if_ne (tgt := 46) hx hb dM_lonely_41 (by decide) (fun c_7 => ?_) (fun c_7 => ?_)
              · have hf := m_f hf c_7
                obtain ⟨x2_8, ex2_8, hf⟩ := m_lx hf
                refine lv_iinc (v := x2_8) (lv' := [(2, .int x2_8), (0, .ref (ad 0)), (3, .int x3)]) hx hb dM_lonely_46 hl (k := 1) rfl (by rw [ex2_8]; rfl) (by decide) rfl (fun ls hl => ?_)
                obtain ⟨x3_9, ex3_9, hf⟩ := m_lx hf
                refine lv_iinc (v := x3_9) (lv' := [(3, .int x3_9), (2, .int x2_8), (0, .ref (ad 0))]) hx hb dM_lonely_49 hl (k := 2) rfl (by rw [ex3_9]; rfl) (by decide) rfl (fun ls hl => ?_)
                refine lv_goto (tgt := 12) hx hb dM_lonely_52 (by decide) ?_
                exact ih12 _ _ hf _ _ _ hZ (lv_sub hl [2, 1, 0] rfl)
              · have hf := m_t hf c_7
                refine lv_iload_n hx hb dM_lonely_44 rfl (lv_at hl 2 rfl) ?_
                exact hret _ _ _ _ _ _ hf rfl hZ dM_lonely_45
  refine lv_aload_n hx hb dM_lonely_0 rfl (lv_at hl 0 rfl) ?_
  refine lv_iconst (v := 1) hx hb dM_lonely_1 (by decide) ?_
  refine lv_iconst (v := (-1)) hx hb dM_lonely_2 (by decide) ?_
  refine lv_iconst (v := 0) hx hb dM_lonely_3 (by decide) ?_
  refine lv_iconst (v := 0) hx hb dM_lonely_4 (by decide) ?_
  obtain ⟨M_1, hc, hf⟩ := m_b1x hf
  refine m_cv (va_runV (As := [.int 1, .int (-1), .int 0, .int 0]) (rest := []) ⟨hx, hb, hml, hown, hts⟩ (cM_goThrough l D ad c3 M 1 (-1) 0 0 hc) (cwV 4 hts (gV k3_222 k3_224 kp_18 k1_8 kc_M_goThrough) rfl rfl rfl (by decide +kernel) ⟨by decide, by decide⟩) (m_preV hK hN hZ (by decide) rfl rfl) rfl rfl hl.1 rfl (lv_room (Nat.le_of_ble_eq_true rfl)) dM_lonely_5 ⟨Nat.zero_le _, Nat.zero_le _⟩) hZ (fun H locs hZ => ?_)
  refine lv_iload_n hx hb dM_lonely_8 rfl (lv_at hl 1 rfl) ?_
  refine lv_istore_n (lv' := [(2, .int x1), (0, .ref (ad 0)), (1, .int x1)]) hx hb dM_lonely_9 rfl hl (by decide) rfl (fun ls hl => ?_)
  refine lv_iconst (v := 0) hx hb dM_lonely_10 (by decide) ?_
  refine lv_istore_n (lv' := [(3, .int 0), (2, .int x1), (0, .ref (ad 0)), (1, .int x1)]) hx hb dM_lonely_11 rfl hl (by decide) rfl (fun ls hl => ?_)
  exact L12 M_1 128 x1 0 hf _ _ _ hZ (lv_sub hl [2, 1, 0] rfl)
