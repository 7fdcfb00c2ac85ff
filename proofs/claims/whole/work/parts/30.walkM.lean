abbrev rmM_within : Room := { frames := 0, cells := 0, slots := 0, locals := 0 }
set_option maxHeartbeats 4000000 in
set_option maxRecDepth 100000 in
theorem cM_within (l : Launch) (D : va_G) (ad : Nat → Nat) (c3 : ClassId × ClassId × ClassId) (M : mMem) (x0 : Int32) (x1 : Int32) (x2 : Int32)  {r : Int32} (hf : fM_within M x0 x1 x2 = some r) : kPM l D ad c3 yM_within wM_within rmM_within [.int x0, .int x1, .int x2] M r := by
  refine m_oP (cc := bM_within) (maxL := 3) (ty := .boolean) (own := R_M) nestM (by decide) rfl (Nat.le_of_ble_eq_true rfl) rfl (fun p e s m args below meth c Q hx hb hml hown hts hK hN hret ls hZ hl => ?_)
  have hl : lv_has ls 3 [(0, .int x0), (1, .int x1), (2, .int x2)] := hl
  unfold fM_within at hf
  refine lv_iload_n hx hb dM_within_0 rfl (lv_at hl 0 rfl) ?_
  refine lv_iload_n hx hb dM_within_1 rfl (lv_at hl 1 rfl) ?_
  refine lv_icmp_lt (tgt := 14) hx hb dM_within_2 (by decide) (fun c_1 => ?_) (fun c_1 => ?_)
  · have hf := m_t hf c_1
    refine lv_iconst (v := 0) hx hb dM_within_14 (by decide) ?_
    exact hret _ _ _ _ _ (fun _ _ => 0) hf rfl hZ dM_within_15
  · have hf := m_f hf c_1
    refine lv_iload_n hx hb dM_within_5 rfl (lv_at hl 0 rfl) ?_
    refine lv_iload_n hx hb dM_within_6 rfl (lv_at hl 2 rfl) ?_
    refine lv_icmp_gt (tgt := 14) hx hb dM_within_7 (by decide) (fun c_2 => ?_) (fun c_2 => ?_)
    · have hf := m_t hf c_2
      refine lv_iconst (v := 0) hx hb dM_within_14 (by decide) ?_
      exact hret _ _ _ _ _ (fun _ _ => 0) hf rfl hZ dM_within_15
    · have hf := m_f hf c_2
      refine lv_iconst (v := 1) hx hb dM_within_10 (by decide) ?_
      refine lv_goto (tgt := 15) hx hb dM_within_11 (by decide) ?_
      exact hret _ _ _ _ _ (fun _ _ => 0) hf rfl hZ dM_within_15
abbrev rmM_isSieve : Room := { frames := 0, cells := 0, slots := 0, locals := 0 }
set_option maxHeartbeats 4000000 in
set_option maxRecDepth 100000 in
theorem cM_isSieve (l : Launch) (D : va_G) (ad : Nat → Nat) (c3 : ClassId × ClassId × ClassId) (M : mMem) (x1 : Int32)  {r : Int32} (hf : fM_isSieve M x1 = some r) : kPM l D ad c3 yM_isSieve wM_isSieve rmM_isSieve [.ref (ad 0), .int x1] M r := by
  refine m_oP (cc := bM_isSieve) (maxL := 2) (ty := .boolean) (own := R_M) nestM (by decide) rfl (Nat.le_of_ble_eq_true rfl) rfl (fun p e s m args below meth c Q hx hb hml hown hts hK hN hret ls hZ hl => ?_)
  have hl : lv_has ls 2 [(0, .ref (ad 0)), (1, .int x1)] := hl
  unfold fM_isSieve at hf
  refine lv_iload_n hx hb dM_isSieve_0 rfl (lv_at hl 1 rfl) ?_
  refine lv_if_lt (tgt := 16) hx hb dM_isSieve_1 (by decide) (fun c_1 => ?_) (fun c_1 => ?_)
  · have hf := m_t hf c_1
    refine lv_iconst (v := 0) hx hb dM_isSieve_16 (by decide) ?_
    exact hret _ _ _ _ _ (fun _ _ => 0) hf rfl hZ dM_isSieve_17
  · have hf := m_f hf c_1
    refine lv_iload_n hx hb dM_isSieve_4 rfl (lv_at hl 1 rfl) ?_
    refine lv_aload_n hx hb dM_isSieve_5 rfl (lv_at hl 0 rfl) ?_
    refine m_get hx hb hts in_M hown hK hZ (by decide) rfl rfl 0 (by decide) (hts _ k3_39) (fun _ h9 => h9) rfl dM_isSieve_6 ?_
    refine lv_icmp_ge (tgt := 16) hx hb dM_isSieve_9 (by decide) (fun c_2 => ?_) (fun c_2 => ?_)
    · have hf := m_t hf c_2
      refine lv_iconst (v := 0) hx hb dM_isSieve_16 (by decide) ?_
      exact hret _ _ _ _ _ (fun _ _ => 0) hf rfl hZ dM_isSieve_17
    · have hf := m_f hf c_2
      refine lv_iconst (v := 1) hx hb dM_isSieve_12 (by decide) ?_
      refine lv_goto (tgt := 17) hx hb dM_isSieve_13 (by decide) ?_
      exact hret _ _ _ _ _ (fun _ _ => 0) hf rfl hZ dM_isSieve_17
abbrev rmM_isStock : Room := { frames := 0, cells := 0, slots := 0, locals := 0 }
set_option maxHeartbeats 4000000 in
set_option maxRecDepth 100000 in
theorem cM_isStock (l : Launch) (D : va_G) (ad : Nat → Nat) (c3 : ClassId × ClassId × ClassId) (M : mMem) (x1 : Int32)  {r : Int32} (hf : fM_isStock M x1 = some r) : kPM l D ad c3 yM_isStock wM_isStock rmM_isStock [.ref (ad 0), .int x1] M r := by
  refine m_oP (cc := bM_isStock) (maxL := 2) (ty := .boolean) (own := R_M) nestM (by decide) rfl (Nat.le_of_ble_eq_true rfl) rfl (fun p e s m args below meth c Q hx hb hml hown hts hK hN hret ls hZ hl => ?_)
  have hl : lv_has ls 2 [(0, .ref (ad 0)), (1, .int x1)] := hl
  unfold fM_isStock at hf
  refine lv_iload_n hx hb dM_isStock_0 rfl (lv_at hl 1 rfl) ?_
  refine lv_if_lt (tgt := 16) hx hb dM_isStock_1 (by decide) (fun c_1 => ?_) (fun c_1 => ?_)
  · have hf := m_t hf c_1
    refine lv_iconst (v := 0) hx hb dM_isStock_16 (by decide) ?_
    exact hret _ _ _ _ _ (fun _ _ => 0) hf rfl hZ dM_isStock_17
  · have hf := m_f hf c_1
    refine lv_iload_n hx hb dM_isStock_4 rfl (lv_at hl 1 rfl) ?_
    refine lv_aload_n hx hb dM_isStock_5 rfl (lv_at hl 0 rfl) ?_
    refine m_get hx hb hts in_M hown hK hZ (by decide) rfl rfl 3 (by decide) (hts _ k3_42) (fun _ h9 => h9) rfl dM_isStock_6 ?_
    refine lv_icmp_ge (tgt := 16) hx hb dM_isStock_9 (by decide) (fun c_2 => ?_) (fun c_2 => ?_)
    · have hf := m_t hf c_2
      refine lv_iconst (v := 0) hx hb dM_isStock_16 (by decide) ?_
      exact hret _ _ _ _ _ (fun _ _ => 0) hf rfl hZ dM_isStock_17
    · have hf := m_f hf c_2
      refine lv_iconst (v := 1) hx hb dM_isStock_12 (by decide) ?_
      refine lv_goto (tgt := 17) hx hb dM_isStock_13 (by decide) ?_
      exact hret _ _ _ _ _ (fun _ _ => 0) hf rfl hZ dM_isStock_17
abbrev rmM_isBand : Room := { frames := 0, cells := 0, slots := 0, locals := 0 }
set_option maxHeartbeats 4000000 in
set_option maxRecDepth 100000 in
theorem cM_isBand (l : Launch) (D : va_G) (ad : Nat → Nat) (c3 : ClassId × ClassId × ClassId) (M : mMem) (x0 : Int32) (x1 : Int32)  {r : Int32} (hf : fM_isBand M x0 x1 = some r) : kPM l D ad c3 yM_isBand wM_isBand rmM_isBand [.int x0, .int x1] M r := by
  refine m_oP (cc := bM_isBand) (maxL := 2) (ty := .boolean) (own := R_M) nestM (by decide) rfl (Nat.le_of_ble_eq_true rfl) rfl (fun p e s m args below meth c Q hx hb hml hown hts hK hN hret ls hZ hl => ?_)
  have hl : lv_has ls 2 [(0, .int x0), (1, .int x1)] := hl
  unfold fM_isBand at hf
  refine lv_iload_n hx hb dM_isBand_0 rfl (lv_at hl 0 rfl) ?_
  refine lv_if_lt (tgt := 20) hx hb dM_isBand_1 (by decide) (fun c_1 => ?_) (fun c_1 => ?_)
  · have hf := m_t hf c_1
    refine lv_iconst (v := 0) hx hb dM_isBand_20 (by decide) ?_
    exact hret _ _ _ _ _ (fun _ _ => 0) hf rfl hZ dM_isBand_21
  · have hf := m_f hf c_1
    refine lv_iload_n hx hb dM_isBand_4 rfl (lv_at hl 0 rfl) ?_
    refine lv_iload_n hx hb dM_isBand_5 rfl (lv_at hl 1 rfl) ?_
    refine lv_icmp_gt (tgt := 20) hx hb dM_isBand_6 (by decide) (fun c_2 => ?_) (fun c_2 => ?_)
    · have hf := m_t hf c_2
      refine lv_iconst (v := 0) hx hb dM_isBand_20 (by decide) ?_
      exact hret _ _ _ _ _ (fun _ _ => 0) hf rfl hZ dM_isBand_21
    · have hf := m_f hf c_2
      refine lv_iload_n hx hb dM_isBand_9 rfl (lv_at hl 1 rfl) ?_
      refine lv_sipush (v := 1000) hx hb dM_isBand_10 (by decide) ?_
      refine lv_icmp_gt (tgt := 20) hx hb dM_isBand_13 (by decide) (fun c_3 => ?_) (fun c_3 => ?_)
      · have hf := m_t hf c_3
        refine lv_iconst (v := 0) hx hb dM_isBand_20 (by decide) ?_
        exact hret _ _ _ _ _ (fun _ _ => 0) hf rfl hZ dM_isBand_21
      · have hf := m_f hf c_3
        refine lv_iconst (v := 1) hx hb dM_isBand_16 (by decide) ?_
        refine lv_goto (tgt := 21) hx hb dM_isBand_17 (by decide) ?_
        exact hret _ _ _ _ _ (fun _ _ => 0) hf rfl hZ dM_isBand_21
abbrev rmM_changed : Room := { frames := 0, cells := 0, slots := 0, locals := 0 }
set_option maxHeartbeats 4000000 in
set_option maxRecDepth 100000 in
theorem cM_changed (l : Launch) (D : va_G) (ad : Nat → Nat) (c3 : ClassId × ClassId × ClassId) (M : mMem)   {M' : mMem} (hf : fM_changed M  = some M') : kVM l D ad c3 yM_changed wM_changed rmM_changed [.ref (ad 0)] M M' := by
  refine m_oV (cc := bM_changed) (maxL := 1) (own := R_M) nestM (by decide) rfl (Nat.le_of_ble_eq_true rfl) rfl (fun p e s m args below meth c Q hx hb hml hown hts hK hN hret ls hZ hl => ?_)
  have hl : lv_has ls 1 [(0, .ref (ad 0))] := hl
  unfold fM_changed at hf
  refine lv_aload_n hx hb dM_changed_0 rfl (lv_at hl 0 rfl) ?_
  refine lv_iconst (v := 0) hx hb dM_changed_1 (by decide) ?_
  obtain ⟨M_1, eM_1, hf⟩ := m_lx hf
  refine m_put (ty := .boolean) hx hb hts in_M ⟨ty_M_ok, nm_M_ok⟩ hown hK hZ (by decide) rfl rfl 18 (by decide) (hts _ k3_57) (fun _ h9 => h9) rfl (by decide +kernel) rfl rfl rfl dM_changed_2 eM_1 (fun H locs hZ => ?_)
  refine lv_aload_n hx hb dM_changed_5 rfl (lv_at hl 0 rfl) ?_
  refine lv_iconst (v := 0) hx hb dM_changed_6 (by decide) ?_
  obtain ⟨M_2, eM_2, hf⟩ := m_lx hf
  refine m_put (ty := .boolean) hx hb hts in_M ⟨ty_M_ok, nm_M_ok⟩ hown hK hZ (by decide) rfl rfl 28 (by decide) (hts _ k3_67) (fun _ h9 => h9) rfl (by decide +kernel) rfl rfl rfl dM_changed_7 eM_2 (fun H locs hZ => ?_)
  refine lv_aload_n hx hb dM_changed_10 rfl (lv_at hl 0 rfl) ?_
  refine lv_iconst (v := 0) hx hb dM_changed_11 (by decide) ?_
  obtain ⟨M_3, eM_3, hf⟩ := m_lx hf
  refine m_put (ty := .int) hx hb hts in_M ⟨ty_M_ok, nm_M_ok⟩ hown hK hZ (by decide) rfl rfl 32 (by decide) (hts _ k3_71) (fun _ h9 => h9) rfl (by decide +kernel) rfl rfl rfl dM_changed_12 eM_3 (fun H locs hZ => ?_)
  exact hret _ _ _ _ _ hf hZ dM_changed_15
abbrev rmM_sieve : Room := { frames := 1, cells := 0, slots := 0, locals := 21 }
set_option maxHeartbeats 4000000 in
set_option maxRecDepth 100000 in
theorem cM_sieve (l : Launch) (D : va_G) (ad : Nat → Nat) (c3 : ClassId × ClassId × ClassId) (M : mMem) (x1 : Int32) (x2 : Int32)  {r : Int32} {M' : mMem} (hf : fM_sieve M x1 x2 = some (r, M')) : kIM l D ad c3 yM_sieve wM_sieve rmM_sieve [.ref (ad 0), .int x1, .int x2] M r M' := by
  refine m_oI (cc := bM_sieve) (maxL := 3) (ty := .int) (own := R_M) nestM (by decide) rfl (Nat.le_of_ble_eq_true rfl) rfl (fun p e s m args below meth c Q hx hb hml hown hts hK hN hret ls hZ hl => ?_)
  have hl : lv_has ls 3 [(0, .ref (ad 0)), (1, .int x1), (2, .int x2)] := hl
  unfold fM_sieve at hf
  refine lv_iload_n hx hb dM_sieve_0 rfl (lv_at hl 1 rfl) ?_
  refine lv_iload_n hx hb dM_sieve_1 rfl (lv_at hl 2 rfl) ?_
  obtain ⟨r_1, hc, hf⟩ := m_b1x hf
  refine m_ci (va_runS (As := [.int x1, .int x2]) (rest := []) ⟨hx, hb, hml, hown, hts⟩ (cM_isBand l D ad c3 M x1 x2 hc) (cwS 2 hts (gS9 k3_155 k3_156 k1_8 kc_M_isBand) rfl rfl rfl (by decide +kernel) ⟨by decide, by decide⟩) (m_preS hK hN hZ) rfl rfl hl.1 rfl (lv_room (Nat.le_of_ble_eq_true rfl)) dM_sieve_2 ⟨Nat.zero_le _, Nat.zero_le _⟩) hZ (fun H locs hZ => ?_)
  refine lv_if_eq (tgt := 17) hx hb dM_sieve_5 (by decide) (fun c_2 => ?_) (fun c_2 => ?_)
  · have hf := m_t hf c_2
    refine lv_iconst (v := (-1)) hx hb dM_sieve_17 (by decide) ?_
    exact hret _ _ _ _ _ _ hf rfl hZ dM_sieve_18
  · have hf := m_f hf c_2
    refine lv_aload_n hx hb dM_sieve_8 rfl (lv_at hl 0 rfl) ?_
    refine m_get hx hb hts in_M hown hK hZ (by decide) rfl rfl 0 (by decide) (hts _ k3_39) (fun _ h9 => h9) rfl dM_sieve_9 ?_
    refine lv_bipush (v := 6) hx hb dM_sieve_12 (by decide) ?_
    refine lv_icmp_ne (tgt := 19) hx hb dM_sieve_14 (by decide) (fun c_3 => ?_) (fun c_3 => ?_)
    · have hf := m_f hf c_3
      refine lv_aload_n hx hb dM_sieve_19 rfl (lv_at hl 0 rfl) ?_
      refine m_getR (k' := 1) hx hb hts in_M hown hK hZ (by decide) rfl rfl 1 (by decide) (hts _ k3_40) (fun _ h9 => h9) rfl dM_sieve_20 ?_
      refine lv_aload_n hx hb dM_sieve_23 rfl (lv_at hl 0 rfl) ?_
      refine m_get hx hb hts in_M hown hK hZ (by decide) rfl rfl 0 (by decide) (hts _ k3_39) (fun _ h9 => h9) rfl dM_sieve_24 ?_
      refine lv_iload_n hx hb dM_sieve_27 rfl (lv_at hl 1 rfl) ?_
      obtain ⟨h_4, hf⟩ := m_gx hf
      obtain ⟨M_5, eM_5, hf⟩ := m_lx hf
      refine m_iast hx hb hK hZ (by decide) rfl h_4 dM_sieve_28 eM_5 (fun H locs hZ => ?_)
      refine lv_aload_n hx hb dM_sieve_29 rfl (lv_at hl 0 rfl) ?_
      refine m_getR (k' := 2) hx hb hts in_M hown hK hZ (by decide) rfl rfl 2 (by decide) (hts _ k3_41) (fun _ h9 => h9) rfl dM_sieve_30 ?_
      refine lv_aload_n hx hb dM_sieve_33 rfl (lv_at hl 0 rfl) ?_
      refine m_get hx hb hts in_M hown hK hZ (by decide) rfl rfl 0 (by decide) (hts _ k3_39) (fun _ h9 => h9) rfl dM_sieve_34 ?_
      refine lv_iload_n hx hb dM_sieve_37 rfl (lv_at hl 2 rfl) ?_
      obtain ⟨h_6, hf⟩ := m_gx hf
      obtain ⟨M_7, eM_7, hf⟩ := m_lx hf
      refine m_iast hx hb hK hZ (by decide) rfl h_6 dM_sieve_38 eM_7 (fun H locs hZ => ?_)
      refine lv_aload_n hx hb dM_sieve_39 rfl (lv_at hl 0 rfl) ?_
      refine lv_dup hx hb dM_sieve_40 rfl ?_
      refine m_get hx hb hts in_M hown hK hZ (by decide) rfl rfl 0 (by decide) (hts _ k3_39) (fun _ h9 => h9) rfl dM_sieve_41 ?_
      refine lv_iconst (v := 1) hx hb dM_sieve_44 (by decide) ?_
      refine lv_iadd hx hb dM_sieve_45 ?_
      obtain ⟨M_8, eM_8, hf⟩ := m_lx hf
      refine m_put (ty := .int) hx hb hts in_M ⟨ty_M_ok, nm_M_ok⟩ hown hK hZ (by decide) rfl rfl 0 (by decide) (hts _ k3_39) (fun _ h9 => h9) rfl (by decide +kernel) rfl rfl rfl dM_sieve_46 eM_8 (fun H locs hZ => ?_)
      refine lv_aload_n hx hb dM_sieve_49 rfl (lv_at hl 0 rfl) ?_
      obtain ⟨M_9, hc, hf⟩ := m_b1x hf
      refine m_cv (va_runV (As := []) (rest := []) ⟨hx, hb, hml, hown, hts⟩ (cM_changed l D ad c3 M_8 hc) (cwV 0 hts (gV k3_158 k3_160 kp_11 k1_8 kc_M_changed) rfl rfl rfl (by decide +kernel) ⟨by decide, by decide⟩) (m_preV hK hN hZ (by decide) rfl rfl) rfl rfl hl.1 rfl (lv_room (Nat.le_of_ble_eq_true rfl)) dM_sieve_50 ⟨Nat.zero_le _, Nat.zero_le _⟩) hZ (fun H locs hZ => ?_)
      refine lv_aload_n hx hb dM_sieve_53 rfl (lv_at hl 0 rfl) ?_
      refine m_get hx hb hts in_M hown hK hZ (by decide) rfl rfl 0 (by decide) (hts _ k3_39) (fun _ h9 => h9) rfl dM_sieve_54 ?_
      refine lv_iconst (v := 1) hx hb dM_sieve_57 (by decide) ?_
      refine lv_isub hx hb dM_sieve_58 ?_
      exact hret _ _ _ _ _ _ hf rfl hZ dM_sieve_59
    · have hf := m_t hf c_3
      refine lv_iconst (v := (-1)) hx hb dM_sieve_17 (by decide) ?_
      exact hret _ _ _ _ _ _ hf rfl hZ dM_sieve_18
abbrev rmM_band : Room := { frames := 1, cells := 0, slots := 0, locals := 21 }
set_option maxHeartbeats 4000000 in
set_option maxRecDepth 100000 in
theorem cM_band (l : Launch) (D : va_G) (ad : Nat → Nat) (c3 : ClassId × ClassId × ClassId) (M : mMem) (x1 : Int32) (x2 : Int32) (x3 : Int32)  {r : Int32} {M' : mMem} (hf : fM_band M x1 x2 x3 = some (r, M')) : kIM l D ad c3 yM_band wM_band rmM_band [.ref (ad 0), .int x1, .int x2, .int x3] M r M' := by
  refine m_oI (cc := bM_band) (maxL := 4) (ty := .boolean) (own := R_M) nestM (by decide) rfl (Nat.le_of_ble_eq_true rfl) rfl (fun p e s m args below meth c Q hx hb hml hown hts hK hN hret ls hZ hl => ?_)
  have hl : lv_has ls 4 [(0, .ref (ad 0)), (1, .int x1), (2, .int x2), (3, .int x3)] := hl
  unfold fM_band at hf
  refine lv_aload_n hx hb dM_band_0 rfl (lv_at hl 0 rfl) ?_
  refine lv_iload_n hx hb dM_band_1 rfl (lv_at hl 1 rfl) ?_
  obtain ⟨r_1, hc, hf⟩ := m_b1x hf
  refine m_ci (va_runV (As := [.int x1]) (rest := []) ⟨hx, hb, hml, hown, hts⟩ (cM_isSieve l D ad c3 M x1 hc) (cwV 1 hts (gV k3_166 k3_168 kp_12 k1_8 kc_M_isSieve) rfl rfl rfl (by decide +kernel) ⟨by decide, by decide⟩) (m_preV hK hN hZ (by decide) rfl rfl) rfl rfl hl.1 rfl (lv_room (Nat.le_of_ble_eq_true rfl)) dM_band_2 ⟨Nat.zero_le _, Nat.zero_le _⟩) hZ (fun H locs hZ => ?_)
  refine lv_if_eq (tgt := 16) hx hb dM_band_5 (by decide) (fun c_2 => ?_) (fun c_2 => ?_)
  · have hf := m_t hf c_2
    refine lv_iconst (v := 0) hx hb dM_band_16 (by decide) ?_
    exact hret _ _ _ _ _ _ hf rfl hZ dM_band_17
  · have hf := m_f hf c_2
    refine lv_iload_n hx hb dM_band_8 rfl (lv_at hl 2 rfl) ?_
    refine lv_iload_n hx hb dM_band_9 rfl (lv_at hl 3 rfl) ?_
    obtain ⟨r_3, hc, hf⟩ := m_b1x hf
    refine m_ci (va_runS (As := [.int x2, .int x3]) (rest := []) ⟨hx, hb, hml, hown, hts⟩ (cM_isBand l D ad c3 M x2 x3 hc) (cwS 2 hts (gS9 k3_155 k3_156 k1_8 kc_M_isBand) rfl rfl rfl (by decide +kernel) ⟨by decide, by decide⟩) (m_preS hK hN hZ) rfl rfl hl.1 rfl (lv_room (Nat.le_of_ble_eq_true rfl)) dM_band_10 ⟨Nat.zero_le _, Nat.zero_le _⟩) hZ (fun H locs hZ => ?_)
    refine lv_if_ne (tgt := 18) hx hb dM_band_13 (by decide) (fun c_4 => ?_) (fun c_4 => ?_)
    · have hf := m_f hf c_4
      refine lv_aload_n hx hb dM_band_18 rfl (lv_at hl 0 rfl) ?_
      refine m_getR (k' := 1) hx hb hts in_M hown hK hZ (by decide) rfl rfl 1 (by decide) (hts _ k3_40) (fun _ h9 => h9) rfl dM_band_19 ?_
      refine lv_iload_n hx hb dM_band_22 rfl (lv_at hl 1 rfl) ?_
      refine lv_iload_n hx hb dM_band_23 rfl (lv_at hl 2 rfl) ?_
      obtain ⟨h_inb_x1_6, hf⟩ := m_gx hf
      obtain ⟨M_5, eM_5, hf⟩ := m_lx hf
      refine m_iast hx hb hK hZ (by decide) rfl h_inb_x1_6 dM_band_24 eM_5 (fun H locs hZ => ?_)
      refine lv_aload_n hx hb dM_band_25 rfl (lv_at hl 0 rfl) ?_
      refine m_getR (k' := 2) hx hb hts in_M hown hK hZ (by decide) rfl rfl 2 (by decide) (hts _ k3_41) (fun _ h9 => h9) rfl dM_band_26 ?_
      refine lv_iload_n hx hb dM_band_29 rfl (lv_at hl 1 rfl) ?_
      refine lv_iload_n hx hb dM_band_30 rfl (lv_at hl 3 rfl) ?_
      obtain ⟨M_6, eM_6, hf⟩ := m_lx hf
      refine m_iast hx hb hK hZ (by decide) rfl h_inb_x1_6 dM_band_31 eM_6 (fun H locs hZ => ?_)
      refine lv_aload_n hx hb dM_band_32 rfl (lv_at hl 0 rfl) ?_
      obtain ⟨M_7, hc, hf⟩ := m_b1x hf
      refine m_cv (va_runV (As := []) (rest := []) ⟨hx, hb, hml, hown, hts⟩ (cM_changed l D ad c3 M_6 hc) (cwV 0 hts (gV k3_158 k3_160 kp_11 k1_8 kc_M_changed) rfl rfl rfl (by decide +kernel) ⟨by decide, by decide⟩) (m_preV hK hN hZ (by decide) rfl rfl) rfl rfl hl.1 rfl (lv_room (Nat.le_of_ble_eq_true rfl)) dM_band_33 ⟨Nat.zero_le _, Nat.zero_le _⟩) hZ (fun H locs hZ => ?_)
      refine lv_iconst (v := 1) hx hb dM_band_36 (by decide) ?_
      exact hret _ _ _ _ _ _ hf rfl hZ dM_band_37
    · have hf := m_t hf c_4
      refine lv_iconst (v := 0) hx hb dM_band_16 (by decide) ?_
      exact hret _ _ _ _ _ _ hf rfl hZ dM_band_17
abbrev rmM_stock : Room := { frames := 1, cells := 0, slots := 0, locals := 22 }
set_option maxHeartbeats 4000000 in
set_option maxRecDepth 100000 in
theorem cM_stock (l : Launch) (D : va_G) (ad : Nat → Nat) (c3 : ClassId × ClassId × ClassId) (M : mMem) (x1 : Int32) (x2 : Int32) (x3 : Int32) (x4 : Int32)  {r : Int32} {M' : mMem} (hf : fM_stock M x1 x2 x3 x4 = some (r, M')) : kIM l D ad c3 yM_stock wM_stock rmM_stock [.ref (ad 0), .int x1, .int x2, .int x3, .int x4] M r M' := by
  refine m_oI (cc := bM_stock) (maxL := 5) (ty := .int) (own := R_M) nestM (by decide) rfl (Nat.le_of_ble_eq_true rfl) rfl (fun p e s m args below meth c Q hx hb hml hown hts hK hN hret ls hZ hl => ?_)
  have hl : lv_has ls 5 [(0, .ref (ad 0)), (1, .int x1), (2, .int x2), (3, .int x3), (4, .int x4)] := hl
  unfold fM_stock at hf
  refine lv_iload_n hx hb dM_stock_0 rfl (lv_at hl 1 rfl) ?_
  refine lv_iconst (v := 0) hx hb dM_stock_1 (by decide) ?_
  refine lv_ldc (v := 100000) hx hb hown (hts _ k3_174) dM_stock_2 ?_
  obtain ⟨r_1, hc, hf⟩ := m_b1x hf
  refine m_ci (va_runS (As := [.int x1, .int 0, .int 100000]) (rest := []) ⟨hx, hb, hml, hown, hts⟩ (cM_within l D ad c3 M x1 0 100000 hc) (cwS 3 hts (gS9 k3_175 k3_176 k1_8 kc_M_within) rfl rfl rfl (by decide +kernel) ⟨by decide, by decide⟩) (m_preS hK hN hZ) rfl rfl hl.1 rfl (lv_room (Nat.le_of_ble_eq_true rfl)) dM_stock_4 ⟨Nat.zero_le _, Nat.zero_le _⟩) hZ (fun H locs hZ => ?_)
  refine lv_if_eq (tgt := 33) hx hb dM_stock_7 (by decide) (fun c_2 => ?_) (fun c_2 => ?_)
  · have hf := m_t hf c_2
    refine lv_iconst (v := (-1)) hx hb dM_stock_33 (by decide) ?_
    exact hret _ _ _ _ _ _ hf rfl hZ dM_stock_34
  · have hf := m_f hf c_2
    refine lv_iload_n hx hb dM_stock_10 rfl (lv_at hl 2 rfl) ?_
    refine lv_if_lt (tgt := 33) hx hb dM_stock_11 (by decide) (fun c_3 => ?_) (fun c_3 => ?_)
    · have hf := m_t hf c_3
      refine lv_iconst (v := (-1)) hx hb dM_stock_33 (by decide) ?_
      exact hret _ _ _ _ _ _ hf rfl hZ dM_stock_34
    · have hf := m_f hf c_3
      refine lv_iload_n hx hb dM_stock_14 rfl (lv_at hl 2 rfl) ?_
      refine lv_iload_n hx hb dM_stock_15 rfl (lv_at hl 3 rfl) ?_
      refine lv_icmp_gt (tgt := 33) hx hb dM_stock_16 (by decide) (fun c_4 => ?_) (fun c_4 => ?_)
      · have hf := m_t hf c_4
        refine lv_iconst (v := (-1)) hx hb dM_stock_33 (by decide) ?_
        exact hret _ _ _ _ _ _ hf rfl hZ dM_stock_34
      · have hf := m_f hf c_4
        refine lv_iload_n hx hb dM_stock_19 rfl (lv_at hl 3 rfl) ?_
        refine lv_bipush (v := 100) hx hb dM_stock_20 (by decide) ?_
        refine lv_icmp_gt (tgt := 33) hx hb dM_stock_22 (by decide) (fun c_5 => ?_) (fun c_5 => ?_)
        · have hf := m_t hf c_5
          refine lv_iconst (v := (-1)) hx hb dM_stock_33 (by decide) ?_
          exact hret _ _ _ _ _ _ hf rfl hZ dM_stock_34
        · have hf := m_f hf c_5
          refine lv_aload_n hx hb dM_stock_25 rfl (lv_at hl 0 rfl) ?_
          refine m_get hx hb hts in_M hown hK hZ (by decide) rfl rfl 3 (by decide) (hts _ k3_42) (fun _ h9 => h9) rfl dM_stock_26 ?_
          refine lv_iconst (v := 4) hx hb dM_stock_29 (by decide) ?_
          refine lv_icmp_ne (tgt := 35) hx hb dM_stock_30 (by decide) (fun c_6 => ?_) (fun c_6 => ?_)
          · have hf := m_f hf c_6
            refine lv_aload_n hx hb dM_stock_35 rfl (lv_at hl 0 rfl) ?_
            refine m_getR (k' := 3) hx hb hts in_M hown hK hZ (by decide) rfl rfl 4 (by decide) (hts _ k3_43) (fun _ h9 => h9) rfl dM_stock_36 ?_
            refine lv_aload_n hx hb dM_stock_39 rfl (lv_at hl 0 rfl) ?_
            refine m_get hx hb hts in_M hown hK hZ (by decide) rfl rfl 3 (by decide) (hts _ k3_42) (fun _ h9 => h9) rfl dM_stock_40 ?_
            refine lv_iload_n hx hb dM_stock_43 rfl (lv_at hl 1 rfl) ?_
            obtain ⟨h_7, hf⟩ := m_gx hf
            obtain ⟨M_8, eM_8, hf⟩ := m_lx hf
            refine m_iast hx hb hK hZ (by decide) rfl h_7 dM_stock_44 eM_8 (fun H locs hZ => ?_)
            refine lv_aload_n hx hb dM_stock_45 rfl (lv_at hl 0 rfl) ?_
            refine m_getR (k' := 4) hx hb hts in_M hown hK hZ (by decide) rfl rfl 5 (by decide) (hts _ k3_44) (fun _ h9 => h9) rfl dM_stock_46 ?_
            refine lv_aload_n hx hb dM_stock_49 rfl (lv_at hl 0 rfl) ?_
            refine m_get hx hb hts in_M hown hK hZ (by decide) rfl rfl 3 (by decide) (hts _ k3_42) (fun _ h9 => h9) rfl dM_stock_50 ?_
            refine lv_iload_n hx hb dM_stock_53 rfl (lv_at hl 2 rfl) ?_
            obtain ⟨h_9, hf⟩ := m_gx hf
            obtain ⟨M_10, eM_10, hf⟩ := m_lx hf
            refine m_iast hx hb hK hZ (by decide) rfl h_9 dM_stock_54 eM_10 (fun H locs hZ => ?_)
            refine lv_aload_n hx hb dM_stock_55 rfl (lv_at hl 0 rfl) ?_
            refine m_getR (k' := 5) hx hb hts in_M hown hK hZ (by decide) rfl rfl 6 (by decide) (hts _ k3_45) (fun _ h9 => h9) rfl dM_stock_56 ?_
            refine lv_aload_n hx hb dM_stock_59 rfl (lv_at hl 0 rfl) ?_
            refine m_get hx hb hts in_M hown hK hZ (by decide) rfl rfl 3 (by decide) (hts _ k3_42) (fun _ h9 => h9) rfl dM_stock_60 ?_
            refine lv_iload_n hx hb dM_stock_63 rfl (lv_at hl 3 rfl) ?_
            obtain ⟨h_11, hf⟩ := m_gx hf
            obtain ⟨M_12, eM_12, hf⟩ := m_lx hf
            refine m_iast hx hb hK hZ (by decide) rfl h_11 dM_stock_64 eM_12 (fun H locs hZ => ?_)
            refine lv_aload_n hx hb dM_stock_65 rfl (lv_at hl 0 rfl) ?_
            refine m_getR (k' := 6) hx hb hts in_M hown hK hZ (by decide) rfl rfl 7 (by decide) (hts _ k3_46) (fun _ h9 => h9) rfl dM_stock_66 ?_
            refine lv_aload_n hx hb dM_stock_69 rfl (lv_at hl 0 rfl) ?_
            refine m_get hx hb hts in_M hown hK hZ (by decide) rfl rfl 3 (by decide) (hts _ k3_42) (fun _ h9 => h9) rfl dM_stock_70 ?_
            refine lv_iload hx hb dM_stock_73 (lv_at hl 4 rfl) ?_
            obtain ⟨h_13, hf⟩ := m_gx hf
            obtain ⟨M_14, eM_14, hf⟩ := m_lx hf
            refine m_zast hx hb hK hZ (by decide) rfl h_13 dM_stock_75 eM_14 rfl (fun H locs hZ => ?_)
            refine lv_aload_n hx hb dM_stock_76 rfl (lv_at hl 0 rfl) ?_
            refine lv_dup hx hb dM_stock_77 rfl ?_
            refine m_get hx hb hts in_M hown hK hZ (by decide) rfl rfl 3 (by decide) (hts _ k3_42) (fun _ h9 => h9) rfl dM_stock_78 ?_
            refine lv_iconst (v := 1) hx hb dM_stock_81 (by decide) ?_
            refine lv_iadd hx hb dM_stock_82 ?_
            obtain ⟨M_15, eM_15, hf⟩ := m_lx hf
            refine m_put (ty := .int) hx hb hts in_M ⟨ty_M_ok, nm_M_ok⟩ hown hK hZ (by decide) rfl rfl 3 (by decide) (hts _ k3_42) (fun _ h9 => h9) rfl (by decide +kernel) rfl rfl rfl dM_stock_83 eM_15 (fun H locs hZ => ?_)
            refine lv_aload_n hx hb dM_stock_86 rfl (lv_at hl 0 rfl) ?_
            obtain ⟨M_16, hc, hf⟩ := m_b1x hf
            refine m_cv (va_runV (As := []) (rest := []) ⟨hx, hb, hml, hown, hts⟩ (cM_changed l D ad c3 M_15 hc) (cwV 0 hts (gV k3_158 k3_160 kp_11 k1_8 kc_M_changed) rfl rfl rfl (by decide +kernel) ⟨by decide, by decide⟩) (m_preV hK hN hZ (by decide) rfl rfl) rfl rfl hl.1 rfl (lv_room (Nat.le_of_ble_eq_true rfl)) dM_stock_87 ⟨Nat.zero_le _, Nat.zero_le _⟩) hZ (fun H locs hZ => ?_)
            refine lv_aload_n hx hb dM_stock_90 rfl (lv_at hl 0 rfl) ?_
            refine m_get hx hb hts in_M hown hK hZ (by decide) rfl rfl 3 (by decide) (hts _ k3_42) (fun _ h9 => h9) rfl dM_stock_91 ?_
            refine lv_iconst (v := 1) hx hb dM_stock_94 (by decide) ?_
            refine lv_isub hx hb dM_stock_95 ?_
            exact hret _ _ _ _ _ _ hf rfl hZ dM_stock_96
          · have hf := m_t hf c_6
            refine lv_iconst (v := (-1)) hx hb dM_stock_33 (by decide) ?_
            exact hret _ _ _ _ _ _ hf rfl hZ dM_stock_34
