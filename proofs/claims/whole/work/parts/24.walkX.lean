abbrev rmX_set : Room := { frames := 0, cells := 0, slots := 0, locals := 0 }
set_option maxHeartbeats 4000000 in
set_option maxRecDepth 100000 in
theorem cX_set (l : Launch) (D : va_G) (ad : Nat → Nat) (c3 : ClassId × ClassId × ClassId) (M : mMem) (k : Nat) (k1 : Nat) (x2 : Int32) (x3 : Int32) (qk : isX_X k) (qk1 : isX_row 4 k1) {M' : mMem} (hf : fX_set M k k1 x2 x3 = some M') : kVX l D ad c3 yX_set wX_set rmX_set [.ref (ad k), .ref (ad k1), .int x2, .int x3] M M' := by
  refine m_oV (cc := bX_set) (maxL := 5) (own := R_X) nestX (by decide) rfl (Nat.le_of_ble_eq_true rfl) rfl (fun p e s m args below meth c Q hx hb hml hown hts hK hN hret ls hZ hl => ?_)
  have hl : lv_has ls 5 [(0, .ref (ad k)), (1, .ref (ad k1)), (2, .int x2), (3, .int x3)] := hl
  unfold fX_set at hf
  have B26 : ∀ (M : mMem), fX_set_B26 k x2 x3 M = some M' → ∀ (H : Heap) (locs : List Loc) (ls : Array Slot), zX D ad c3 s H locs M → lv_has ls 5 [(0, .ref (ad k)), (2, .int x2), (3, .int x3)] → W p l e rmX_set s m args below meth c H locs 0 0 Q (F0 m 26 ls []) := by
    intro M hf H locs ls hZ hl
    unfold fX_set_B26 at hf
    refine lv_aload_n hx hb dX_set_26 rfl (lv_at hl 0 rfl) ?_
    refine lv_iload_n hx hb dX_set_27 rfl (lv_at hl 1 rfl) ?_
    obtain ⟨M_2, eM_2, hf⟩ := m_lx hf
    refine m_put (ty := .int) hx hb hts in_X ⟨ty_X_ok, nm_X_ok⟩ hown hK hZ (qk 0 (by decide)).2 (qk 0 (by decide)).1 rfl 2 (by decide) (hts _ k1_115) (fun _ h9 => h9) rfl (by decide +kernel) rfl rfl rfl dX_set_28 eM_2 (fun H locs hZ => ?_)
    refine lv_aload_n hx hb dX_set_31 rfl (lv_at hl 0 rfl) ?_
    refine lv_iload_n hx hb dX_set_32 rfl (lv_at hl 2 rfl) ?_
    obtain ⟨M_3, eM_3, hf⟩ := m_lx hf
    refine m_put (ty := .int) hx hb hts in_X ⟨ty_X_ok, nm_X_ok⟩ hown hK hZ (qk 0 (by decide)).2 (qk 0 (by decide)).1 rfl 3 (by decide) (hts _ k1_118) (fun _ h9 => h9) rfl (by decide +kernel) rfl rfl rfl dX_set_33 eM_3 (fun H locs hZ => ?_)
    refine lv_aload_n hx hb dX_set_36 rfl (lv_at hl 0 rfl) ?_
    refine lv_iconst (v := 1) hx hb dX_set_37 (by decide) ?_
    obtain ⟨M_4, eM_4, hf⟩ := m_lx hf
    refine m_put (ty := .boolean) hx hb hts in_X ⟨ty_X_ok, nm_X_ok⟩ hown hK hZ (qk 0 (by decide)).2 (qk 0 (by decide)).1 rfl 0 (by decide) (hts _ k1_108) (fun _ h9 => h9) rfl (by decide +kernel) rfl rfl rfl dX_set_38 eM_4 (fun H locs hZ => ?_)
    exact hret _ _ _ _ _ hf hZ dX_set_41
  have L3 : ∀ (n3 : Nat) (M : mMem) (x4 : Int32), fX_set_L3 k k1 x2 x3 n3 M x4 = some M' → ∀ (H : Heap) (locs : List Loc) (ls : Array Slot), zX D ad c3 s H locs M → lv_has ls 5 [(0, .ref (ad k)), (1, .ref (ad k1)), (2, .int x2), (3, .int x3), (4, .int x4)] → W p l e rmX_set s m args below meth c H locs 0 0 Q (F0 m 3 ls []) := by
    intro n3
    induction n3 with
    | zero => intro M x4 hf; exact m_none hf
    | succ n3 ih3 =>
      intro M x4 hf H locs ls hZ hl
      rw [fX_set_L3] at hf
      refine lv_iload hx hb dX_set_3 (lv_at hl 4 rfl) ?_
      refine lv_iconst (v := 4) hx hb dX_set_5 (by decide) ?_
      refine lv_icmp_ge (tgt := 26) hx hb dX_set_6 (by decide) (fun c_1 => ?_) (fun c_1 => ?_)
      · have hf := m_t hf c_1
        exact B26 M hf _ _ _ hZ (lv_sub hl [0, 2, 3] rfl)
      · have hf := m_f hf c_1
        refine lv_aload_n hx hb dX_set_9 rfl (lv_at hl 0 rfl) ?_
        refine m_getR (k' := (k + 1)) hx hb hts in_X hown hK hZ (qk 0 (by decide)).2 (qk 0 (by decide)).1 rfl 1 (by decide) (hts _ k1_111) (fun _ h9 => h9) rfl dX_set_10 ?_
        refine lv_iload hx hb dX_set_13 (lv_at hl 4 rfl) ?_
        refine lv_aload_n hx hb dX_set_15 rfl (lv_at hl 1 rfl) ?_
        refine lv_iload hx hb dX_set_16 (lv_at hl 4 rfl) ?_
        obtain ⟨h_5, hf⟩ := m_gx hf
        refine m_iald hx hb hK hZ qk1.2 qk1.1 h_5 dX_set_18 ?_
        obtain ⟨M_6, eM_6, hf⟩ := m_lx hf
        refine m_iast hx hb hK hZ (qk 1 (by decide)).2 (qk 1 (by decide)).1 h_5 dX_set_19 eM_6 (fun H locs hZ => ?_)
        obtain ⟨x4_7, ex4_7, hf⟩ := m_lx hf
        refine lv_iinc (v := x4_7) (lv' := [(4, .int x4_7), (0, .ref (ad k)), (1, .ref (ad k1)), (2, .int x2), (3, .int x3)]) hx hb dX_set_20 hl (k := 4) rfl (by rw [ex4_7]; rfl) (by decide) rfl (fun ls hl => ?_)
        refine lv_goto (tgt := 3) hx hb dX_set_23 (by decide) ?_
        exact ih3 _ _ hf _ _ _ hZ (lv_sub hl [1, 2, 3, 4, 0] rfl)
  refine lv_iconst (v := 0) hx hb dX_set_0 (by decide) ?_
  refine lv_istore (lv' := [(4, .int 0), (0, .ref (ad k)), (1, .ref (ad k1)), (2, .int x2), (3, .int x3)]) hx hb dX_set_1 hl (by decide) rfl (fun ls hl => ?_)
  exact L3 128 M 0 hf _ _ _ hZ (lv_sub hl [1, 2, 3, 4, 0] rfl)
abbrev rmS_lookAt : Room := { frames := 1, cells := 0, slots := 0, locals := 24 }
set_option maxHeartbeats 4000000 in
set_option maxRecDepth 100000 in
theorem cS_lookAt (l : Launch) (D : va_G) (ad : Nat → Nat) (c3 : ClassId × ClassId × ClassId) (M : mMem) (b : Nat) (x1 : Int32) (x2 : Int32) (qb : isX_S b) {M' : mMem} (hf : fS_lookAt M b x1 x2 = some M') : kVX l D ad c3 yS_lookAt wS_lookAt rmS_lookAt [.ref (ad b), .int x1, .int x2] M M' := by
  refine m_oV (cc := bS_lookAt) (maxL := 3) (own := R_S) nestX (by decide) rfl (Nat.le_of_ble_eq_true rfl) rfl (fun p e s m args below meth c Q hx hb hml hown hts hK hN hret ls hZ hl => ?_)
  have hl : lv_has ls 3 [(0, .ref (ad b)), (1, .int x1), (2, .int x2)] := hl
  unfold fS_lookAt at hf
  have B58 : ∀ (M : mMem), fS_lookAt_B58 b x1 x2 M = some M' → ∀ (H : Heap) (locs : List Loc) (ls : Array Slot), zX D ad c3 s H locs M → lv_has ls 3 [(0, .ref (ad b)), (1, .int x1), (2, .int x2)] → W p l e rmS_lookAt s m args below meth c H locs 0 0 Q (F0 m 58 ls []) := by
    intro M hf H locs ls hZ hl
    unfold fS_lookAt_B58 at hf
    refine lv_aload_n hx hb dS_lookAt_58 rfl (lv_at hl 0 rfl) ?_
    refine m_getR (k' := (b + 17)) hx hb hts in_S hown hK hZ (qb 0 (by decide)).2 (qb 0 (by decide)).1 rfl 8 (by decide) (hts _ k1_140) (fun _ h9 => h9) rfl dS_lookAt_59 ?_
    refine m_get hx hb hts in_X hown hK hZ (qb 17 (by decide)).2 (qb 17 (by decide)).1 rfl 0 (by decide) (hts _ k1_109) (fun _ h9 => h9) rfl dS_lookAt_62 ?_
    refine lv_if_eq (tgt := 101) hx hb dS_lookAt_65 (by decide) (fun c_6 => ?_) (fun c_6 => ?_)
    · have hf := m_t hf c_6
      refine lv_aload_n hx hb dS_lookAt_101 rfl (lv_at hl 0 rfl) ?_
      refine m_getR (k' := (b + 17)) hx hb hts in_S hown hK hZ (qb 0 (by decide)).2 (qb 0 (by decide)).1 rfl 8 (by decide) (hts _ k1_140) (fun _ h9 => h9) rfl dS_lookAt_102 ?_
      refine lv_aload_n hx hb dS_lookAt_105 rfl (lv_at hl 0 rfl) ?_
      refine m_getR (k' := (b + 3)) hx hb hts in_S hown hK hZ (qb 0 (by decide)).2 (qb 0 (by decide)).1 rfl 3 (by decide) (hts _ k1_133) (fun _ h9 => h9) rfl dS_lookAt_106 ?_
      refine lv_iload_n hx hb dS_lookAt_109 rfl (lv_at hl 1 rfl) ?_
      refine lv_iload_n hx hb dS_lookAt_110 rfl (lv_at hl 2 rfl) ?_
      obtain ⟨M_7, hc, hf⟩ := m_b1x hf
      refine m_cv (va_runV (As := [.ref (ad (b + 3)), .int x1, .int x2]) (rest := []) ⟨hx, hb, hml, hown, hts⟩ (cX_set l D ad c3 M (b + 17) (b + 3) x1 x2 (isX_X_b_17 qb) ⟨(qb 3 (by decide)).1, (qb 3 (by decide)).2⟩ hc) (cwV 3 hts (gV k2_167 k2_168 k2_169 k1_4 kc_X_set) rfl rfl rfl (by decide +kernel) ⟨by decide, by decide⟩) (m_preV hK hN hZ (qb 17 (by decide)).2 (qb 17 (by decide)).1 rfl) rfl rfl hl.1 rfl (lv_room (Nat.le_of_ble_eq_true rfl)) dS_lookAt_111 ⟨Nat.zero_le _, Nat.zero_le _⟩) hZ (fun H locs hZ => ?_)
      exact hret _ _ _ _ _ hf hZ dS_lookAt_114
    · have hf := m_f hf c_6
      refine lv_iload_n hx hb dS_lookAt_68 rfl (lv_at hl 2 rfl) ?_
      refine lv_aload_n hx hb dS_lookAt_69 rfl (lv_at hl 0 rfl) ?_
      refine m_getR (k' := (b + 17)) hx hb hts in_S hown hK hZ (qb 0 (by decide)).2 (qb 0 (by decide)).1 rfl 8 (by decide) (hts _ k1_140) (fun _ h9 => h9) rfl dS_lookAt_70 ?_
      refine m_get hx hb hts in_X hown hK hZ (qb 17 (by decide)).2 (qb 17 (by decide)).1 rfl 3 (by decide) (hts _ k1_119) (fun _ h9 => h9) rfl dS_lookAt_73 ?_
      refine lv_icmp_lt (tgt := 101) hx hb dS_lookAt_76 (by decide) (fun c_8 => ?_) (fun c_8 => ?_)
      · have hf := m_t hf c_8
        refine lv_aload_n hx hb dS_lookAt_101 rfl (lv_at hl 0 rfl) ?_
        refine m_getR (k' := (b + 17)) hx hb hts in_S hown hK hZ (qb 0 (by decide)).2 (qb 0 (by decide)).1 rfl 8 (by decide) (hts _ k1_140) (fun _ h9 => h9) rfl dS_lookAt_102 ?_
        refine lv_aload_n hx hb dS_lookAt_105 rfl (lv_at hl 0 rfl) ?_
        refine m_getR (k' := (b + 3)) hx hb hts in_S hown hK hZ (qb 0 (by decide)).2 (qb 0 (by decide)).1 rfl 3 (by decide) (hts _ k1_133) (fun _ h9 => h9) rfl dS_lookAt_106 ?_
        refine lv_iload_n hx hb dS_lookAt_109 rfl (lv_at hl 1 rfl) ?_
        refine lv_iload_n hx hb dS_lookAt_110 rfl (lv_at hl 2 rfl) ?_
        obtain ⟨M_9, hc, hf⟩ := m_b1x hf
        refine m_cv (va_runV (As := [.ref (ad (b + 3)), .int x1, .int x2]) (rest := []) ⟨hx, hb, hml, hown, hts⟩ (cX_set l D ad c3 M (b + 17) (b + 3) x1 x2 (isX_X_b_17 qb) ⟨(qb 3 (by decide)).1, (qb 3 (by decide)).2⟩ hc) (cwV 3 hts (gV k2_167 k2_168 k2_169 k1_4 kc_X_set) rfl rfl rfl (by decide +kernel) ⟨by decide, by decide⟩) (m_preV hK hN hZ (qb 17 (by decide)).2 (qb 17 (by decide)).1 rfl) rfl rfl hl.1 rfl (lv_room (Nat.le_of_ble_eq_true rfl)) dS_lookAt_111 ⟨Nat.zero_le _, Nat.zero_le _⟩) hZ (fun H locs hZ => ?_)
        exact hret _ _ _ _ _ hf hZ dS_lookAt_114
      · have hf := m_f hf c_8
        refine lv_iload_n hx hb dS_lookAt_79 rfl (lv_at hl 2 rfl) ?_
        refine lv_aload_n hx hb dS_lookAt_80 rfl (lv_at hl 0 rfl) ?_
        refine m_getR (k' := (b + 17)) hx hb hts in_S hown hK hZ (qb 0 (by decide)).2 (qb 0 (by decide)).1 rfl 8 (by decide) (hts _ k1_140) (fun _ h9 => h9) rfl dS_lookAt_81 ?_
        refine m_get hx hb hts in_X hown hK hZ (qb 17 (by decide)).2 (qb 17 (by decide)).1 rfl 3 (by decide) (hts _ k1_119) (fun _ h9 => h9) rfl dS_lookAt_84 ?_
        refine lv_icmp_ne (tgt := 114) hx hb dS_lookAt_87 (by decide) (fun c_10 => ?_) (fun c_10 => ?_)
        · have hf := m_f hf c_10
          exact hret _ _ _ _ _ hf hZ dS_lookAt_114
        · have hf := m_t hf c_10
          refine lv_iload_n hx hb dS_lookAt_90 rfl (lv_at hl 1 rfl) ?_
          refine lv_aload_n hx hb dS_lookAt_91 rfl (lv_at hl 0 rfl) ?_
          refine m_getR (k' := (b + 17)) hx hb hts in_S hown hK hZ (qb 0 (by decide)).2 (qb 0 (by decide)).1 rfl 8 (by decide) (hts _ k1_140) (fun _ h9 => h9) rfl dS_lookAt_92 ?_
          refine m_get hx hb hts in_X hown hK hZ (qb 17 (by decide)).2 (qb 17 (by decide)).1 rfl 2 (by decide) (hts _ k1_116) (fun _ h9 => h9) rfl dS_lookAt_95 ?_
          refine lv_icmp_ge (tgt := 114) hx hb dS_lookAt_98 (by decide) (fun c_11 => ?_) (fun c_11 => ?_)
          · have hf := m_t hf c_11
            exact hret _ _ _ _ _ hf hZ dS_lookAt_114
          · have hf := m_f hf c_11
            refine lv_aload_n hx hb dS_lookAt_101 rfl (lv_at hl 0 rfl) ?_
            refine m_getR (k' := (b + 17)) hx hb hts in_S hown hK hZ (qb 0 (by decide)).2 (qb 0 (by decide)).1 rfl 8 (by decide) (hts _ k1_140) (fun _ h9 => h9) rfl dS_lookAt_102 ?_
            refine lv_aload_n hx hb dS_lookAt_105 rfl (lv_at hl 0 rfl) ?_
            refine m_getR (k' := (b + 3)) hx hb hts in_S hown hK hZ (qb 0 (by decide)).2 (qb 0 (by decide)).1 rfl 3 (by decide) (hts _ k1_133) (fun _ h9 => h9) rfl dS_lookAt_106 ?_
            refine lv_iload_n hx hb dS_lookAt_109 rfl (lv_at hl 1 rfl) ?_
            refine lv_iload_n hx hb dS_lookAt_110 rfl (lv_at hl 2 rfl) ?_
            obtain ⟨M_12, hc, hf⟩ := m_b1x hf
            refine m_cv (va_runV (As := [.ref (ad (b + 3)), .int x1, .int x2]) (rest := []) ⟨hx, hb, hml, hown, hts⟩ (cX_set l D ad c3 M (b + 17) (b + 3) x1 x2 (isX_X_b_17 qb) ⟨(qb 3 (by decide)).1, (qb 3 (by decide)).2⟩ hc) (cwV 3 hts (gV k2_167 k2_168 k2_169 k1_4 kc_X_set) rfl rfl rfl (by decide +kernel) ⟨by decide, by decide⟩) (m_preV hK hN hZ (qb 17 (by decide)).2 (qb 17 (by decide)).1 rfl) rfl rfl hl.1 rfl (lv_room (Nat.le_of_ble_eq_true rfl)) dS_lookAt_111 ⟨Nat.zero_le _, Nat.zero_le _⟩) hZ (fun H locs hZ => ?_)
            exact hret _ _ _ _ _ hf hZ dS_lookAt_114
  have B45 : ∀ (M : mMem), fS_lookAt_B45 b x1 x2 M = some M' → ∀ (H : Heap) (locs : List Loc) (ls : Array Slot), zX D ad c3 s H locs M → lv_has ls 3 [(0, .ref (ad b)), (1, .int x1), (2, .int x2)] → W p l e rmS_lookAt s m args below meth c H locs 0 0 Q (F0 m 45 ls []) := by
    intro M hf H locs ls hZ hl
    unfold fS_lookAt_B45 at hf
    refine lv_aload_n hx hb dS_lookAt_45 rfl (lv_at hl 0 rfl) ?_
    refine m_getR (k' := (b + 15)) hx hb hts in_S hown hK hZ (qb 0 (by decide)).2 (qb 0 (by decide)).1 rfl 7 (by decide) (hts _ k1_138) (fun _ h9 => h9) rfl dS_lookAt_46 ?_
    refine lv_aload_n hx hb dS_lookAt_49 rfl (lv_at hl 0 rfl) ?_
    refine m_getR (k' := (b + 3)) hx hb hts in_S hown hK hZ (qb 0 (by decide)).2 (qb 0 (by decide)).1 rfl 3 (by decide) (hts _ k1_133) (fun _ h9 => h9) rfl dS_lookAt_50 ?_
    refine lv_iload_n hx hb dS_lookAt_53 rfl (lv_at hl 1 rfl) ?_
    refine lv_iload_n hx hb dS_lookAt_54 rfl (lv_at hl 2 rfl) ?_
    obtain ⟨M_5, hc, hf⟩ := m_b1x hf
    refine m_cv (va_runV (As := [.ref (ad (b + 3)), .int x1, .int x2]) (rest := []) ⟨hx, hb, hml, hown, hts⟩ (cX_set l D ad c3 M (b + 15) (b + 3) x1 x2 (isX_X_b_15 qb) ⟨(qb 3 (by decide)).1, (qb 3 (by decide)).2⟩ hc) (cwV 3 hts (gV k2_167 k2_168 k2_169 k1_4 kc_X_set) rfl rfl rfl (by decide +kernel) ⟨by decide, by decide⟩) (m_preV hK hN hZ (qb 15 (by decide)).2 (qb 15 (by decide)).1 rfl) rfl rfl hl.1 rfl (lv_room (Nat.le_of_ble_eq_true rfl)) dS_lookAt_55 ⟨Nat.zero_le _, Nat.zero_le _⟩) hZ (fun H locs hZ => ?_)
    exact B58 M_5 hf _ _ _ hZ (lv_sub hl [0, 1, 2] rfl)
  refine lv_aload_n hx hb dS_lookAt_0 rfl (lv_at hl 0 rfl) ?_
  refine lv_dup hx hb dS_lookAt_1 rfl ?_
  refine m_get hx hb hts in_S hown hK hZ (qb 0 (by decide)).2 (qb 0 (by decide)).1 rfl 9 (by decide) (hts _ k1_142) (fun _ h9 => h9) rfl dS_lookAt_2 ?_
  refine lv_iconst (v := 1) hx hb dS_lookAt_5 (by decide) ?_
  refine lv_iadd hx hb dS_lookAt_6 ?_
  obtain ⟨M_1, eM_1, hf⟩ := m_lx hf
  refine m_put (ty := .int) hx hb hts in_S ⟨ty_S_ok, nm_S_ok⟩ hown hK hZ (qb 0 (by decide)).2 (qb 0 (by decide)).1 rfl 9 (by decide) (hts _ k1_142) (fun _ h9 => h9) rfl (by decide +kernel) rfl rfl rfl dS_lookAt_7 eM_1 (fun H locs hZ => ?_)
  refine lv_iload_n hx hb dS_lookAt_10 rfl (lv_at hl 2 rfl) ?_
  refine lv_if_ne (tgt := 58) hx hb dS_lookAt_11 (by decide) (fun c_2 => ?_) (fun c_2 => ?_)
  · have hf := m_f hf c_2
    exact B58 M_1 hf _ _ _ hZ (lv_sub hl [0, 1, 2] rfl)
  · have hf := m_t hf c_2
    refine lv_aload_n hx hb dS_lookAt_14 rfl (lv_at hl 0 rfl) ?_
    refine lv_dup hx hb dS_lookAt_15 rfl ?_
    refine m_get hx hb hts in_S hown hK hZ (qb 0 (by decide)).2 (qb 0 (by decide)).1 rfl 10 (by decide) (hts _ k1_144) (fun _ h9 => h9) rfl dS_lookAt_16 ?_
    refine lv_iconst (v := 1) hx hb dS_lookAt_19 (by decide) ?_
    refine lv_iadd hx hb dS_lookAt_20 ?_
    obtain ⟨M_3, eM_3, hf⟩ := m_lx hf
    refine m_put (ty := .int) hx hb hts in_S ⟨ty_S_ok, nm_S_ok⟩ hown hK hZ (qb 0 (by decide)).2 (qb 0 (by decide)).1 rfl 10 (by decide) (hts _ k1_144) (fun _ h9 => h9) rfl (by decide +kernel) rfl rfl rfl dS_lookAt_21 eM_3 (fun H locs hZ => ?_)
    refine lv_aload_n hx hb dS_lookAt_24 rfl (lv_at hl 0 rfl) ?_
    refine m_getR (k' := (b + 15)) hx hb hts in_S hown hK hZ (qb 0 (by decide)).2 (qb 0 (by decide)).1 rfl 7 (by decide) (hts _ k1_138) (fun _ h9 => h9) rfl dS_lookAt_25 ?_
    refine m_get hx hb hts in_X hown hK hZ (qb 15 (by decide)).2 (qb 15 (by decide)).1 rfl 0 (by decide) (hts _ k1_109) (fun _ h9 => h9) rfl dS_lookAt_28 ?_
    refine lv_if_eq (tgt := 45) hx hb dS_lookAt_31 (by decide) (fun c_4 => ?_) (fun c_4 => ?_)
    · have hf := m_t hf c_4
      exact B45 M_3 hf _ _ _ hZ (lv_sub hl [0, 1, 2] rfl)
    · have hf := m_f hf c_4
      refine lv_iload_n hx hb dS_lookAt_34 rfl (lv_at hl 1 rfl) ?_
      refine lv_aload_n hx hb dS_lookAt_35 rfl (lv_at hl 0 rfl) ?_
      refine m_getR (k' := (b + 15)) hx hb hts in_S hown hK hZ (qb 0 (by decide)).2 (qb 0 (by decide)).1 rfl 7 (by decide) (hts _ k1_138) (fun _ h9 => h9) rfl dS_lookAt_36 ?_
      refine m_get hx hb hts in_X hown hK hZ (qb 15 (by decide)).2 (qb 15 (by decide)).1 rfl 2 (by decide) (hts _ k1_116) (fun _ h9 => h9) rfl dS_lookAt_39 ?_
      refine lv_icmp_ge (tgt := 58) hx hb dS_lookAt_42 (by decide) (fun c_13 => ?_) (fun c_13 => ?_)
      · have hf := m_t hf c_13
        exact B58 M_3 hf _ _ _ hZ (lv_sub hl [0, 1, 2] rfl)
      · have hf := m_f hf c_13
        exact B45 M_3 hf _ _ _ hZ (lv_sub hl [0, 1, 2] rfl)
abbrev rmS_putShare : Room := { frames := 0, cells := 0, slots := 0, locals := 0 }
set_option maxHeartbeats 4000000 in
set_option maxRecDepth 100000 in
theorem cS_putShare (l : Launch) (D : va_G) (ad : Nat → Nat) (c3 : ClassId × ClassId × ClassId) (M : mMem) (b : Nat) (x1 : Int32) (x2 : Int32) (qb : isX_S b) {M' : mMem} (hf : fS_putShare M b x1 x2 = some M') : kVX l D ad c3 yS_putShare wS_putShare rmS_putShare [.ref (ad b), .int x1, .int x2] M M' := by
  refine m_oV (cc := bS_putShare) (maxL := 4) (own := R_S) nestX (by decide) rfl (Nat.le_of_ble_eq_true rfl) rfl (fun p e s m args below meth c Q hx hb hml hown hts hK hN hret ls hZ hl => ?_)
  have hl : lv_has ls 4 [(0, .ref (ad b)), (1, .int x1), (2, .int x2)] := hl
  unfold fS_putShare at hf
  have L9 : ∀ (n9 : Nat) (M : mMem) (x3 : Int32), fS_putShare_L9 b x1 x2 n9 M x3 = some M' → ∀ (H : Heap) (locs : List Loc) (ls : Array Slot), zX D ad c3 s H locs M → lv_has ls 4 [(0, .ref (ad b)), (1, .int x1), (2, .int x2), (3, .int x3)] → W p l e rmS_putShare s m args below meth c H locs 0 0 Q (F0 m 9 ls []) := by
    intro n9
    induction n9 with
    | zero => intro M x3 hf; exact m_none hf
    | succ n9 ih9 =>
      intro M x3 hf H locs ls hZ hl
      rw [fS_putShare_L9] at hf
      refine lv_iload_n hx hb dS_putShare_9 rfl (lv_at hl 3 rfl) ?_
      refine lv_aload_n hx hb dS_putShare_10 rfl (lv_at hl 0 rfl) ?_
      refine m_getR (k' := 1) hx hb hts in_S hown hK hZ (qb 0 (by decide)).2 (qb 0 (by decide)).1 rfl 0 (by decide) (hts _ k1_130) (fun _ h9 => h9) rfl dS_putShare_11 ?_
      refine m_get hx hb hts in_P hown hK hZ (by decide) rfl rfl 0 (by decide) (hts _ k1_27) (fun _ h9 => h9) rfl dS_putShare_14 ?_
      refine lv_icmp_ge (tgt := 90) hx hb dS_putShare_17 (by decide) (fun c_2 => ?_) (fun c_2 => ?_)
      · have hf := m_t hf c_2
        exact hret _ _ _ _ _ hf hZ dS_putShare_90
      · have hf := m_f hf c_2
        refine lv_aload_n hx hb dS_putShare_20 rfl (lv_at hl 0 rfl) ?_
        refine m_getR (k' := (b + 4)) hx hb hts in_S hown hK hZ (qb 0 (by decide)).2 (qb 0 (by decide)).1 rfl 4 (by decide) (hts _ k1_134) (fun _ h9 => h9) rfl dS_putShare_21 ?_
        refine lv_iload_n hx hb dS_putShare_24 rfl (lv_at hl 1 rfl) ?_
        refine lv_iconst (v := 1) hx hb dS_putShare_25 (by decide) ?_
        refine lv_iadd hx hb dS_putShare_26 ?_
        obtain ⟨h_3, hf⟩ := m_gx hf
        refine m_aald hx hb hK hZ (qb 4 (by decide)).2 (qb 4 (by decide)).1 h_3 dS_putShare_27 ?_
        refine lv_iload_n hx hb dS_putShare_28 rfl (lv_at hl 3 rfl) ?_
        refine lv_aload_n hx hb dS_putShare_29 rfl (lv_at hl 0 rfl) ?_
        refine m_getR (k' := (b + 4)) hx hb hts in_S hown hK hZ (qb 0 (by decide)).2 (qb 0 (by decide)).1 rfl 4 (by decide) (hts _ k1_134) (fun _ h9 => h9) rfl dS_putShare_30 ?_
        refine lv_iload_n hx hb dS_putShare_33 rfl (lv_at hl 1 rfl) ?_
        obtain ⟨h_inb_x1_4, hf⟩ := m_gx hf
        refine m_aald hx hb hK hZ (qb 4 (by decide)).2 (qb 4 (by decide)).1 h_inb_x1_4 dS_putShare_34 ?_
        refine lv_iload_n hx hb dS_putShare_35 rfl (lv_at hl 3 rfl) ?_
        obtain ⟨h_4, hf⟩ := m_gx hf
        refine m_iald hx hb hK hZ ((grX_S_4 qb) _ (m_lt h_inb_x1_4)).2 ((grX_S_4 qb) _ (m_lt h_inb_x1_4)).1 h_4 dS_putShare_36 ?_
        refine lv_iload_n hx hb dS_putShare_37 rfl (lv_at hl 2 rfl) ?_
        refine lv_aload_n hx hb dS_putShare_38 rfl (lv_at hl 0 rfl) ?_
        refine m_getR (k' := 1) hx hb hts in_S hown hK hZ (qb 0 (by decide)).2 (qb 0 (by decide)).1 rfl 0 (by decide) (hts _ k1_130) (fun _ h9 => h9) rfl dS_putShare_39 ?_
        refine m_getR (k' := 14) hx hb hts in_P hown hK hZ (by decide) rfl rfl 12 (by decide) (hts _ k1_59) (fun _ h9 => h9) rfl dS_putShare_42 ?_
        refine lv_iload_n hx hb dS_putShare_45 rfl (lv_at hl 1 rfl) ?_
        refine m_aald hx hb hK hZ (by decide) rfl h_inb_x1_4 dS_putShare_46 ?_
        refine lv_iload_n hx hb dS_putShare_47 rfl (lv_at hl 3 rfl) ?_
        refine m_iald hx hb hK hZ (grX_14 _ (m_lt h_inb_x1_4)).2 (grX_14 _ (m_lt h_inb_x1_4)).1 h_4 dS_putShare_48 ?_
        refine lv_imul hx hb dS_putShare_49 ?_
        refine lv_iadd hx hb dS_putShare_50 ?_
        obtain ⟨M_5, eM_5, hf⟩ := m_lx hf
        refine m_iast hx hb hK hZ ((grX_S_4 qb) _ (m_lt h_3)).2 ((grX_S_4 qb) _ (m_lt h_3)).1 h_4 dS_putShare_51 eM_5 (fun H locs hZ => ?_)
        refine lv_aload_n hx hb dS_putShare_52 rfl (lv_at hl 0 rfl) ?_
        refine m_getR (k' := (b + 9)) hx hb hts in_S hown hK hZ (qb 0 (by decide)).2 (qb 0 (by decide)).1 rfl 5 (by decide) (hts _ k1_135) (fun _ h9 => h9) rfl dS_putShare_53 ?_
        refine lv_iload_n hx hb dS_putShare_56 rfl (lv_at hl 1 rfl) ?_
        refine lv_iconst (v := 1) hx hb dS_putShare_57 (by decide) ?_
        refine lv_iadd hx hb dS_putShare_58 ?_
        refine m_aald hx hb hK hZ (qb 9 (by decide)).2 (qb 9 (by decide)).1 h_3 dS_putShare_59 ?_
        refine lv_iload_n hx hb dS_putShare_60 rfl (lv_at hl 3 rfl) ?_
        refine lv_aload_n hx hb dS_putShare_61 rfl (lv_at hl 0 rfl) ?_
        refine m_getR (k' := (b + 9)) hx hb hts in_S hown hK hZ (qb 0 (by decide)).2 (qb 0 (by decide)).1 rfl 5 (by decide) (hts _ k1_135) (fun _ h9 => h9) rfl dS_putShare_62 ?_
        refine lv_iload_n hx hb dS_putShare_65 rfl (lv_at hl 1 rfl) ?_
        refine m_aald hx hb hK hZ (qb 9 (by decide)).2 (qb 9 (by decide)).1 h_inb_x1_4 dS_putShare_66 ?_
        refine lv_iload_n hx hb dS_putShare_67 rfl (lv_at hl 3 rfl) ?_
        refine m_iald hx hb hK hZ ((grX_S_9 qb) _ (m_lt h_inb_x1_4)).2 ((grX_S_9 qb) _ (m_lt h_inb_x1_4)).1 h_4 dS_putShare_68 ?_
        refine lv_iload_n hx hb dS_putShare_69 rfl (lv_at hl 2 rfl) ?_
        refine lv_aload_n hx hb dS_putShare_70 rfl (lv_at hl 0 rfl) ?_
        refine m_getR (k' := 1) hx hb hts in_S hown hK hZ (qb 0 (by decide)).2 (qb 0 (by decide)).1 rfl 0 (by decide) (hts _ k1_130) (fun _ h9 => h9) rfl dS_putShare_71 ?_
        refine m_getR (k' := 19) hx hb hts in_P hown hK hZ (by decide) rfl rfl 13 (by decide) (hts _ k1_62) (fun _ h9 => h9) rfl dS_putShare_74 ?_
        refine lv_iload_n hx hb dS_putShare_77 rfl (lv_at hl 1 rfl) ?_
        refine m_aald hx hb hK hZ (by decide) rfl h_inb_x1_4 dS_putShare_78 ?_
        refine lv_iload_n hx hb dS_putShare_79 rfl (lv_at hl 3 rfl) ?_
        refine m_iald hx hb hK hZ (grX_19 _ (m_lt h_inb_x1_4)).2 (grX_19 _ (m_lt h_inb_x1_4)).1 h_4 dS_putShare_80 ?_
        refine lv_imul hx hb dS_putShare_81 ?_
        refine lv_iadd hx hb dS_putShare_82 ?_
        obtain ⟨M_6, eM_6, hf⟩ := m_lx hf
        refine m_iast hx hb hK hZ ((grX_S_9 qb) _ (m_lt h_3)).2 ((grX_S_9 qb) _ (m_lt h_3)).1 h_4 dS_putShare_83 eM_6 (fun H locs hZ => ?_)
        obtain ⟨x3_7, ex3_7, hf⟩ := m_lx hf
        refine lv_iinc (v := x3_7) (lv' := [(3, .int x3_7), (0, .ref (ad b)), (1, .int x1), (2, .int x2)]) hx hb dS_putShare_84 hl (k := 3) rfl (by rw [ex3_7]; rfl) (by decide) rfl (fun ls hl => ?_)
        refine lv_goto (tgt := 9) hx hb dS_putShare_87 (by decide) ?_
        exact ih9 _ _ hf _ _ _ hZ (lv_sub hl [1, 2, 3, 0] rfl)
  refine lv_aload_n hx hb dS_putShare_0 rfl (lv_at hl 0 rfl) ?_
  refine m_getR (k' := (b + 3)) hx hb hts in_S hown hK hZ (qb 0 (by decide)).2 (qb 0 (by decide)).1 rfl 3 (by decide) (hts _ k1_133) (fun _ h9 => h9) rfl dS_putShare_1 ?_
  refine lv_iload_n hx hb dS_putShare_4 rfl (lv_at hl 1 rfl) ?_
  refine lv_iload_n hx hb dS_putShare_5 rfl (lv_at hl 2 rfl) ?_
  obtain ⟨h_inb_x1_4, hf⟩ := m_gx hf
  obtain ⟨M_1, eM_1, hf⟩ := m_lx hf
  refine m_iast hx hb hK hZ (qb 3 (by decide)).2 (qb 3 (by decide)).1 h_inb_x1_4 dS_putShare_6 eM_1 (fun H locs hZ => ?_)
  refine lv_iconst (v := 0) hx hb dS_putShare_7 (by decide) ?_
  refine lv_istore_n (lv' := [(3, .int 0), (0, .ref (ad b)), (1, .int x1), (2, .int x2)]) hx hb dS_putShare_8 rfl hl (by decide) rfl (fun ls hl => ?_)
  exact L9 128 M_1 0 hf _ _ _ hZ (lv_sub hl [1, 2, 3, 0] rfl)
