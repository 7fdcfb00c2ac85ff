abbrev rmM_worth : Room := { frames := 5, cells := 0, slots := 0, locals := 130 }
set_option maxHeartbeats 4000000 in
set_option maxRecDepth 100000 in
theorem cM_worth (l : Launch) (D : va_G) (ad : Nat → Nat) (c3 : ClassId × ClassId × ClassId) (M : mMem) (x1 : Int32) (x2 : Int32) (x3 : Int32)  {r : Int32} {M' : mMem} (hf : fM_worth M x1 x2 x3 = some (r, M')) : kIM l D ad c3 yM_worth wM_worth rmM_worth [.ref (ad 0), .int x1, .int x2, .int x3] M r M' := by
  refine m_oI (cc := bM_worth) (maxL := 7) (ty := .int) (own := R_M) nestM (by decide) rfl (Nat.le_of_ble_eq_true rfl) rfl (fun p e s m args below meth c Q hx hb hml hown hts hK hN hret ls hZ hl => ?_)
  have hl : lv_has ls 7 [(0, .ref (ad 0)), (1, .int x1), (2, .int x2), (3, .int x3)] := hl
  unfold fM_worth at hf
  have B131 : ∀ (M : mMem) (x4 : Int32) (x5 : Int32) (s0 : Int32), fM_worth_B131 x1 M x4 x5 s0 = some (r, M') → ∀ (H : Heap) (locs : List Loc) (ls : Array Slot), zM D ad c3 s H locs M → lv_has ls 7 [(0, .ref (ad 0)), (1, .int x1), (4, .int x4), (5, .int x5)] → W p l e rmM_worth s m args below meth c H locs 0 0 Q (F0 m 131 ls [.int s0]) := by
    intro M x4 x5 s0 hf H locs ls hZ hl
    unfold fM_worth_B131 at hf
    refine lv_istore (lv' := [(6, .int s0), (0, .ref (ad 0)), (1, .int x1), (4, .int x4), (5, .int x5)]) hx hb dM_worth_131 hl (by decide) rfl (fun ls hl => ?_)
    refine lv_aload_n hx hb dM_worth_133 rfl (lv_at hl 1 rfl) ?_
    refine lv_iconst (v := 0) hx hb dM_worth_134 (by decide) ?_
    refine lv_iload_n hx hb dM_worth_135 rfl (lv_at hl 2 rfl) ?_
    refine lv_iload hx hb dM_worth_136 (lv_at hl 4 rfl) ?_
    refine lv_iload hx hb dM_worth_138 (lv_at hl 0 rfl) ?_
    obtain ⟨M_12, hc, hf⟩ := m_b1x hf
    refine m_cv (va_runV (As := [.int 0, .int x1, .int x5, .int s0]) (rest := []) ⟨hx, hb, hml, hown, hts⟩ (cM_goThrough l D ad c3 M 0 x1 x5 s0 hc) (cwV 4 hts (gV k3_222 k3_224 kp_18 k1_8 kc_M_goThrough) rfl rfl rfl (by decide +kernel) ⟨by decide, by decide⟩) (m_preV hK hN hZ (by decide) rfl rfl) rfl rfl hl.1 rfl (lv_room (Nat.le_of_ble_eq_true rfl)) dM_worth_140 ⟨Nat.zero_le _, Nat.zero_le _⟩) hZ (fun H locs hZ => ?_)
    refine lv_iload hx hb dM_worth_143 (lv_at hl 3 rfl) ?_
    refine lv_aload_n hx hb dM_worth_145 rfl (lv_at hl 1 rfl) ?_
    refine m_get hx hb hts in_M hown hK hZ (by decide) rfl rfl 24 (by decide) (hts _ k3_63) (fun _ h9 => h9) rfl dM_worth_146 ?_
    refine lv_isub hx hb dM_worth_149 ?_
    exact hret _ _ _ _ _ _ hf rfl hZ dM_worth_150
  have B104 : ∀ (M : mMem) (x4 : Int32) (x5 : Int32), fM_worth_B104 x1 x2 M x4 x5 = some (r, M') → ∀ (H : Heap) (locs : List Loc) (ls : Array Slot), zM D ad c3 s H locs M → lv_has ls 7 [(0, .ref (ad 0)), (1, .int x1), (2, .int x2), (4, .int x4), (5, .int x5)] → W p l e rmM_worth s m args below meth c H locs 0 0 Q (F0 m 104 ls []) := by
    intro M x4 x5 hf H locs ls hZ hl
    unfold fM_worth_B104 at hf
    refine lv_iload_n hx hb dM_worth_104 rfl (lv_at hl 2 rfl) ?_
    refine lv_if_eq (tgt := 114) hx hb dM_worth_105 (by decide) (fun c_11 => ?_) (fun c_11 => ?_)
    · have hf := m_t hf c_11
      refine lv_aload_n hx hb dM_worth_114 rfl (lv_at hl 0 rfl) ?_
      refine m_getR (k' := 2) hx hb hts in_M hown hK hZ (by decide) rfl rfl 2 (by decide) (hts _ k3_41) (fun _ h9 => h9) rfl dM_worth_115 ?_
      refine lv_iload_n hx hb dM_worth_118 rfl (lv_at hl 1 rfl) ?_
      obtain ⟨h_inb_x1_6, hf⟩ := m_gx hf
      refine m_iald hx hb hK hZ (by decide) rfl h_inb_x1_6 dM_worth_119 ?_
      refine lv_goto (tgt := 131) hx hb dM_worth_120 (by decide) ?_
      exact B131 M x4 x5 (M 2 x1.toNatClampNeg) hf _ _ _ hZ (lv_sub hl [0, 1, 3, 4] rfl)
    · have hf := m_f hf c_11
      refine lv_sipush (v := 1000) hx hb dM_worth_108 (by decide) ?_
      refine lv_goto (tgt := 131) hx hb dM_worth_111 (by decide) ?_
      exact B131 M x4 x5 1000 hf _ _ _ hZ (lv_sub hl [0, 1, 3, 4] rfl)
  have B84 : ∀ (M : mMem) (x4 : Int32) (s0 : Int32), fM_worth_B84 x1 x2 x3 M x4 s0 = some (r, M') → ∀ (H : Heap) (locs : List Loc) (ls : Array Slot), zM D ad c3 s H locs M → lv_has ls 7 [(0, .ref (ad 0)), (1, .int x1), (2, .int x2), (3, .int x3), (4, .int x4)] → W p l e rmM_worth s m args below meth c H locs 0 0 Q (F0 m 84 ls [.int s0]) := by
    intro M x4 s0 hf H locs ls hZ hl
    unfold fM_worth_B84 at hf
    refine lv_istore (lv' := [(5, .int s0), (0, .ref (ad 0)), (1, .int x1), (2, .int x2), (3, .int x3), (4, .int x4)]) hx hb dM_worth_84 hl (by decide) rfl (fun ls hl => ?_)
    refine lv_iload_n hx hb dM_worth_86 rfl (lv_at hl 3 rfl) ?_
    refine lv_if_eq (tgt := 104) hx hb dM_worth_87 (by decide) (fun c_10 => ?_) (fun c_10 => ?_)
    · have hf := m_t hf c_10
      exact B104 M x4 s0 hf _ _ _ hZ (lv_sub hl [1, 2, 3, 5, 0] rfl)
    · have hf := m_f hf c_10
      refine lv_aload_n hx hb dM_worth_90 rfl (lv_at hl 1 rfl) ?_
      refine m_getR (k' := 2) hx hb hts in_M hown hK hZ (by decide) rfl rfl 2 (by decide) (hts _ k3_41) (fun _ h9 => h9) rfl dM_worth_91 ?_
      refine lv_iload_n hx hb dM_worth_94 rfl (lv_at hl 2 rfl) ?_
      obtain ⟨h_inb_x1_6, hf⟩ := m_gx hf
      refine m_iald hx hb hK hZ (by decide) rfl h_inb_x1_6 dM_worth_95 ?_
      refine lv_iload_n hx hb dM_worth_96 rfl (lv_at hl 4 rfl) ?_
      refine lv_iadd hx hb dM_worth_97 ?_
      refine lv_sipush (v := 1000) hx hb dM_worth_98 (by decide) ?_
      refine lv_icmp_le (tgt := 123) hx hb dM_worth_101 (by decide) (fun c_13 => ?_) (fun c_13 => ?_)
      · have hf := m_t hf c_13
        refine lv_aload_n hx hb dM_worth_123 rfl (lv_at hl 1 rfl) ?_
        refine m_getR (k' := 2) hx hb hts in_M hown hK hZ (by decide) rfl rfl 2 (by decide) (hts _ k3_41) (fun _ h9 => h9) rfl dM_worth_124 ?_
        refine lv_iload_n hx hb dM_worth_127 rfl (lv_at hl 2 rfl) ?_
        refine m_iald hx hb hK hZ (by decide) rfl h_inb_x1_6 dM_worth_128 ?_
        refine lv_iload_n hx hb dM_worth_129 rfl (lv_at hl 4 rfl) ?_
        refine lv_iadd hx hb dM_worth_130 ?_
        exact B131 M x4 s0 ((M 2 x1.toNatClampNeg) + x3) hf _ _ _ hZ (lv_sub hl [1, 2, 5, 0] rfl)
      · have hf := m_f hf c_13
        exact B104 M x4 s0 hf _ _ _ hZ (lv_sub hl [1, 2, 3, 5, 0] rfl)
  have B59 : ∀ (M : mMem) (x4 : Int32), fM_worth_B59 x1 x2 x3 M x4 = some (r, M') → ∀ (H : Heap) (locs : List Loc) (ls : Array Slot), zM D ad c3 s H locs M → lv_has ls 7 [(0, .ref (ad 0)), (1, .int x1), (2, .int x2), (3, .int x3), (4, .int x4)] → W p l e rmM_worth s m args below meth c H locs 0 0 Q (F0 m 59 ls []) := by
    intro M x4 hf H locs ls hZ hl
    unfold fM_worth_B59 at hf
    refine lv_iload_n hx hb dM_worth_59 rfl (lv_at hl 2 rfl) ?_
    refine lv_if_eq (tgt := 72) hx hb dM_worth_60 (by decide) (fun c_14 => ?_) (fun c_14 => ?_)
    · have hf := m_t hf c_14
      refine lv_iconst (v := 0) hx hb dM_worth_72 (by decide) ?_
      refine lv_goto (tgt := 84) hx hb dM_worth_73 (by decide) ?_
      exact B84 M x4 0 hf _ _ _ hZ (lv_sub hl [0, 1, 2, 3, 4] rfl)
    · have hf := m_f hf c_14
      refine lv_aload_n hx hb dM_worth_63 rfl (lv_at hl 0 rfl) ?_
      refine m_getR (k' := 1) hx hb hts in_M hown hK hZ (by decide) rfl rfl 1 (by decide) (hts _ k3_40) (fun _ h9 => h9) rfl dM_worth_64 ?_
      refine lv_iload_n hx hb dM_worth_67 rfl (lv_at hl 1 rfl) ?_
      obtain ⟨h_inb_x1_6, hf⟩ := m_gx hf
      refine m_iald hx hb hK hZ (by decide) rfl h_inb_x1_6 dM_worth_68 ?_
      refine lv_goto (tgt := 84) hx hb dM_worth_69 (by decide) ?_
      exact B84 M x4 (M 1 x1.toNatClampNeg) hf _ _ _ hZ (lv_sub hl [0, 1, 2, 3, 4] rfl)
  refine lv_aload_n hx hb dM_worth_0 rfl (lv_at hl 0 rfl) ?_
  refine lv_iload_n hx hb dM_worth_1 rfl (lv_at hl 1 rfl) ?_
  obtain ⟨r_1, hc, hf⟩ := m_b1x hf
  refine m_ci (va_runV (As := [.int x1]) (rest := []) ⟨hx, hb, hml, hown, hts⟩ (cM_isSieve l D ad c3 M x1 hc) (cwV 1 hts (gV k3_166 k3_168 kp_12 k1_8 kc_M_isSieve) rfl rfl rfl (by decide +kernel) ⟨by decide, by decide⟩) (m_preV hK hN hZ (by decide) rfl rfl) rfl rfl hl.1 rfl (lv_room (Nat.le_of_ble_eq_true rfl)) dM_worth_2 ⟨Nat.zero_le _, Nat.zero_le _⟩) hZ (fun H locs hZ => ?_)
  refine lv_if_eq (tgt := 19) hx hb dM_worth_5 (by decide) (fun c_2 => ?_) (fun c_2 => ?_)
  · have hf := m_t hf c_2
    refine lv_iconst (v := (-1)) hx hb dM_worth_19 (by decide) ?_
    exact hret _ _ _ _ _ _ hf rfl hZ dM_worth_20
  · have hf := m_f hf c_2
    refine lv_iload_n hx hb dM_worth_8 rfl (lv_at hl 3 rfl) ?_
    refine lv_iconst (v := 0) hx hb dM_worth_9 (by decide) ?_
    refine lv_sipush (v := 1000) hx hb dM_worth_10 (by decide) ?_
    obtain ⟨r_3, hc, hf⟩ := m_b1x hf
    refine m_ci (va_runS (As := [.int x3, .int 0, .int 1000]) (rest := []) ⟨hx, hb, hml, hown, hts⟩ (cM_within l D ad c3 M x3 0 1000 hc) (cwS 3 hts (gS9 k3_175 k3_176 k1_8 kc_M_within) rfl rfl rfl (by decide +kernel) ⟨by decide, by decide⟩) (m_preS hK hN hZ) rfl rfl hl.1 rfl (lv_room (Nat.le_of_ble_eq_true rfl)) dM_worth_13 ⟨Nat.zero_le _, Nat.zero_le _⟩) hZ (fun H locs hZ => ?_)
    refine lv_if_ne (tgt := 21) hx hb dM_worth_16 (by decide) (fun c_4 => ?_) (fun c_4 => ?_)
    · have hf := m_f hf c_4
      refine lv_aload_n hx hb dM_worth_21 rfl (lv_at hl 0 rfl) ?_
      refine lv_iconst (v := 0) hx hb dM_worth_22 (by decide) ?_
      refine lv_iconst (v := (-1)) hx hb dM_worth_23 (by decide) ?_
      refine lv_iconst (v := 0) hx hb dM_worth_24 (by decide) ?_
      refine lv_iconst (v := 0) hx hb dM_worth_25 (by decide) ?_
      obtain ⟨M_5, hc, hf⟩ := m_b1x hf
      refine m_cv (va_runV (As := [.int 0, .int (-1), .int 0, .int 0]) (rest := []) ⟨hx, hb, hml, hown, hts⟩ (cM_goThrough l D ad c3 M 0 (-1) 0 0 hc) (cwV 4 hts (gV k3_222 k3_224 kp_18 k1_8 kc_M_goThrough) rfl rfl rfl (by decide +kernel) ⟨by decide, by decide⟩) (m_preV hK hN hZ (by decide) rfl rfl) rfl rfl hl.1 rfl (lv_room (Nat.le_of_ble_eq_true rfl)) dM_worth_26 ⟨Nat.zero_le _, Nat.zero_le _⟩) hZ (fun H locs hZ => ?_)
      refine lv_aload_n hx hb dM_worth_29 rfl (lv_at hl 0 rfl) ?_
      refine m_get hx hb hts in_M hown hK hZ (by decide) rfl rfl 22 (by decide) (hts _ k3_61) (fun _ h9 => h9) rfl dM_worth_30 ?_
      refine lv_if_ne (tgt := 38) hx hb dM_worth_33 (by decide) (fun c_6 => ?_) (fun c_6 => ?_)
      · have hf := m_f hf c_6
        refine lv_aload_n hx hb dM_worth_38 rfl (lv_at hl 0 rfl) ?_
        refine m_get hx hb hts in_M hown hK hZ (by decide) rfl rfl 24 (by decide) (hts _ k3_63) (fun _ h9 => h9) rfl dM_worth_39 ?_
        obtain ⟨x4_7, ex4_7, hf⟩ := m_lx hf
        refine m_topi ex4_7 ?_
        refine lv_istore (lv' := [(4, .int x4_7), (0, .ref (ad 0)), (1, .int x1), (2, .int x2), (3, .int x3)]) hx hb dM_worth_42 hl (by decide) rfl (fun ls hl => ?_)
        refine lv_iload_n hx hb dM_worth_44 rfl (lv_at hl 3 rfl) ?_
        refine lv_if_ne (tgt := 59) hx hb dM_worth_45 (by decide) (fun c_8 => ?_) (fun c_8 => ?_)
        · have hf := m_f hf c_8
          exact B59 M_5 x4_7 hf _ _ _ hZ (lv_sub hl [1, 2, 3, 4, 0] rfl)
        · have hf := m_t hf c_8
          refine lv_aload_n hx hb dM_worth_48 rfl (lv_at hl 1 rfl) ?_
          refine m_getR (k' := 1) hx hb hts in_M hown hK hZ (by decide) rfl rfl 1 (by decide) (hts _ k3_40) (fun _ h9 => h9) rfl dM_worth_49 ?_
          refine lv_iload_n hx hb dM_worth_52 rfl (lv_at hl 2 rfl) ?_
          obtain ⟨h_inb_x1_6, hf⟩ := m_gx hf
          refine m_iald hx hb hK hZ (by decide) rfl h_inb_x1_6 dM_worth_53 ?_
          refine lv_iload_n hx hb dM_worth_54 rfl (lv_at hl 4 rfl) ?_
          refine lv_isub hx hb dM_worth_55 ?_
          refine lv_if_ge (tgt := 76) hx hb dM_worth_56 (by decide) (fun c_9 => ?_) (fun c_9 => ?_)
          · have hf := m_t hf c_9
            refine lv_aload_n hx hb dM_worth_76 rfl (lv_at hl 1 rfl) ?_
            refine m_getR (k' := 1) hx hb hts in_M hown hK hZ (by decide) rfl rfl 1 (by decide) (hts _ k3_40) (fun _ h9 => h9) rfl dM_worth_77 ?_
            refine lv_iload_n hx hb dM_worth_80 rfl (lv_at hl 2 rfl) ?_
            refine m_iald hx hb hK hZ (by decide) rfl h_inb_x1_6 dM_worth_81 ?_
            refine lv_iload_n hx hb dM_worth_82 rfl (lv_at hl 4 rfl) ?_
            refine lv_isub hx hb dM_worth_83 ?_
            exact B84 M_5 x4_7 ((M_5 1 x1.toNatClampNeg) - x3) hf _ _ _ hZ (lv_sub hl [1, 2, 3, 4, 0] rfl)
          · have hf := m_f hf c_9
            exact B59 M_5 x4_7 hf _ _ _ hZ (lv_sub hl [1, 2, 3, 4, 0] rfl)
      · have hf := m_t hf c_6
        refine lv_iconst (v := (-1)) hx hb dM_worth_36 (by decide) ?_
        exact hret _ _ _ _ _ _ hf rfl hZ dM_worth_37
    · have hf := m_t hf c_4
      refine lv_iconst (v := (-1)) hx hb dM_worth_19 (by decide) ?_
      exact hret _ _ _ _ _ _ hf rfl hZ dM_worth_20
abbrev rmM_water : Room := { frames := 1, cells := 0, slots := 0, locals := 22 }
set_option maxHeartbeats 4000000 in
set_option maxRecDepth 100000 in
theorem cM_water (l : Launch) (D : va_G) (ad : Nat → Nat) (c3 : ClassId × ClassId × ClassId) (M : mMem) (x1 : Int32) (x2 : Int32)  {r : Int32} {M' : mMem} (hf : fM_water M x1 x2 = some (r, M')) : kIM l D ad c3 yM_water wM_water rmM_water [.ref (ad 0), .int x1, .int x2] M r M' := by
  refine m_oI (cc := bM_water) (maxL := 4) (ty := .int) (own := R_M) nestM (by decide) rfl (Nat.le_of_ble_eq_true rfl) rfl (fun p e s m args below meth c Q hx hb hml hown hts hK hN hret ls hZ hl => ?_)
  have hl : lv_has ls 4 [(0, .ref (ad 0)), (1, .int x1), (2, .int x2)] := hl
  unfold fM_water at hf
  refine lv_aload_n hx hb dM_water_0 rfl (lv_at hl 0 rfl) ?_
  refine lv_iload_n hx hb dM_water_1 rfl (lv_at hl 1 rfl) ?_
  obtain ⟨r_1, hc, hf⟩ := m_b1x hf
  refine m_ci (va_runV (As := [.int x1]) (rest := []) ⟨hx, hb, hml, hown, hts⟩ (cM_isStock l D ad c3 M x1 hc) (cwV 1 hts (gV k3_182 k3_184 kp_13 k1_8 kc_M_isStock) rfl rfl rfl (by decide +kernel) ⟨by decide, by decide⟩) (m_preV hK hN hZ (by decide) rfl rfl) rfl rfl hl.1 rfl (lv_room (Nat.le_of_ble_eq_true rfl)) dM_water_2 ⟨Nat.zero_le _, Nat.zero_le _⟩) hZ (fun H locs hZ => ?_)
  refine lv_if_eq (tgt := 19) hx hb dM_water_5 (by decide) (fun c_2 => ?_) (fun c_2 => ?_)
  · have hf := m_t hf c_2
    refine lv_iconst (v := (-1)) hx hb dM_water_19 (by decide) ?_
    exact hret _ _ _ _ _ _ hf rfl hZ dM_water_20
  · have hf := m_f hf c_2
    refine lv_iload_n hx hb dM_water_8 rfl (lv_at hl 2 rfl) ?_
    refine lv_iconst (v := 0) hx hb dM_water_9 (by decide) ?_
    refine lv_sipush (v := 300) hx hb dM_water_10 (by decide) ?_
    obtain ⟨r_3, hc, hf⟩ := m_b1x hf
    refine m_ci (va_runS (As := [.int x2, .int 0, .int 300]) (rest := []) ⟨hx, hb, hml, hown, hts⟩ (cM_within l D ad c3 M x2 0 300 hc) (cwS 3 hts (gS9 k3_175 k3_176 k1_8 kc_M_within) rfl rfl rfl (by decide +kernel) ⟨by decide, by decide⟩) (m_preS hK hN hZ) rfl rfl hl.1 rfl (lv_room (Nat.le_of_ble_eq_true rfl)) dM_water_13 ⟨Nat.zero_le _, Nat.zero_le _⟩) hZ (fun H locs hZ => ?_)
    refine lv_if_ne (tgt := 21) hx hb dM_water_16 (by decide) (fun c_4 => ?_) (fun c_4 => ?_)
    · have hf := m_f hf c_4
      refine lv_aload_n hx hb dM_water_21 rfl (lv_at hl 0 rfl) ?_
      refine m_getR (k' := 7) hx hb hts in_M hown hK hZ (by decide) rfl rfl 8 (by decide) (hts _ k3_47) (fun _ h9 => h9) rfl dM_water_22 ?_
      refine lv_iload_n hx hb dM_water_25 rfl (lv_at hl 1 rfl) ?_
      obtain ⟨h_inb_x1_4, hf⟩ := m_gx hf
      refine m_iald hx hb hK hZ (by decide) rfl h_inb_x1_4 dM_water_26 ?_
      obtain ⟨x3_5, ex3_5, hf⟩ := m_lx hf
      refine m_topi ex3_5 ?_
      refine lv_istore_n (lv' := [(3, .int x3_5), (0, .ref (ad 0)), (1, .int x1), (2, .int x2)]) hx hb dM_water_27 rfl hl (by decide) rfl (fun ls hl => ?_)
      refine lv_aload_n hx hb dM_water_28 rfl (lv_at hl 1 rfl) ?_
      refine m_getR (k' := 7) hx hb hts in_M hown hK hZ (by decide) rfl rfl 8 (by decide) (hts _ k3_47) (fun _ h9 => h9) rfl dM_water_29 ?_
      refine lv_iload_n hx hb dM_water_32 rfl (lv_at hl 2 rfl) ?_
      refine lv_iload_n hx hb dM_water_33 rfl (lv_at hl 3 rfl) ?_
      obtain ⟨M_6, eM_6, hf⟩ := m_lx hf
      refine m_iast hx hb hK hZ (by decide) rfl h_inb_x1_4 dM_water_34 eM_6 (fun H locs hZ => ?_)
      refine lv_iload_n hx hb dM_water_35 rfl (lv_at hl 0 rfl) ?_
      exact hret _ _ _ _ _ _ hf rfl hZ dM_water_36
    · have hf := m_t hf c_4
      refine lv_iconst (v := (-1)) hx hb dM_water_19 (by decide) ?_
      exact hret _ _ _ _ _ _ hf rfl hZ dM_water_20
abbrev rmM_batch : Room := { frames := 1, cells := 0, slots := 0, locals := 22 }
set_option maxHeartbeats 4000000 in
set_option maxRecDepth 100000 in
theorem cM_batch (l : Launch) (D : va_G) (ad : Nat → Nat) (c3 : ClassId × ClassId × ClassId) (M : mMem) (x1 : Int32)  {r : Int32} {M' : mMem} (hf : fM_batch M x1 = some (r, M')) : kIM l D ad c3 yM_batch wM_batch rmM_batch [.ref (ad 0), .int x1] M r M' := by
  refine m_oI (cc := bM_batch) (maxL := 8) (ty := .int) (own := R_M) nestM (by decide) rfl (Nat.le_of_ble_eq_true rfl) rfl (fun p e s m args below meth c Q hx hb hml hown hts hK hN hret ls hZ hl => ?_)
  have hl : lv_has ls 8 [(0, .ref (ad 0)), (1, .int x1)] := hl
  unfold fM_batch at hf
  have B128 : ∀ (M : mMem) (x4 : Int32), fM_batch_B128 M x4 = some (r, M') → ∀ (H : Heap) (locs : List Loc) (ls : Array Slot), zM D ad c3 s H locs M → lv_has ls 8 [(0, .ref (ad 0)), (4, .int x4)] → W p l e rmM_batch s m args below meth c H locs 0 0 Q (F0 m 128 ls []) := by
    intro M x4 hf H locs ls hZ hl
    unfold fM_batch_B128 at hf
    refine lv_aload_n hx hb dM_batch_128 rfl (lv_at hl 0 rfl) ?_
    refine lv_iconst (v := 1) hx hb dM_batch_129 (by decide) ?_
    obtain ⟨M_5, eM_5, hf⟩ := m_lx hf
    refine m_put (ty := .boolean) hx hb hts in_M ⟨ty_M_ok, nm_M_ok⟩ hown hK hZ (by decide) rfl rfl 28 (by decide) (hts _ k3_67) (fun _ h9 => h9) rfl (by decide +kernel) rfl rfl rfl dM_batch_130 eM_5 (fun H locs hZ => ?_)
    refine lv_iload hx hb dM_batch_133 (lv_at hl 1 rfl) ?_
    exact hret _ _ _ _ _ _ hf rfl hZ dM_batch_135
  have L29 : ∀ (n29 : Nat) (M : mMem) (x2 : Int32) (x3 : Int32) (x4 : Int32) (x5 : Int32), fM_batch_L29 x1 n29 M x2 x3 x4 x5 = some (r, M') → ∀ (H : Heap) (locs : List Loc) (ls : Array Slot), zM D ad c3 s H locs M → lv_has ls 8 [(0, .ref (ad 0)), (1, .int x1), (2, .int x2), (3, .int x3), (4, .int x4), (5, .int x5)] → W p l e rmM_batch s m args below meth c H locs 0 0 Q (F0 m 29 ls []) := by
    intro n29
    induction n29 with
    | zero => intro M x2 x3 x4 x5 hf; exact m_none hf
    | succ n29 ih29 =>
      intro M x2 x3 x4 x5 hf H locs ls hZ hl
      rw [fM_batch_L29] at hf
      refine lv_iload hx hb dM_batch_29 (lv_at hl 5 rfl) ?_
      refine lv_aload_n hx hb dM_batch_31 rfl (lv_at hl 0 rfl) ?_
      refine m_get hx hb hts in_M hown hK hZ (by decide) rfl rfl 3 (by decide) (hts _ k3_42) (fun _ h9 => h9) rfl dM_batch_32 ?_
      refine lv_icmp_ge (tgt := 128) hx hb dM_batch_35 (by decide) (fun c_4 => ?_) (fun c_4 => ?_)
      · have hf := m_t hf c_4
        exact B128 M x4 hf _ _ _ hZ (lv_sub hl [0, 4] rfl)
      · have hf := m_f hf c_4
        refine lv_iload_n hx hb dM_batch_38 rfl (lv_at hl 2 rfl) ?_
        refine lv_aload_n hx hb dM_batch_39 rfl (lv_at hl 0 rfl) ?_
        refine m_getR (k' := 13) hx hb hts in_M hown hK hZ (by decide) rfl rfl 19 (by decide) (hts _ k3_58) (fun _ h9 => h9) rfl dM_batch_40 ?_
        refine lv_iload hx hb dM_batch_43 (lv_at hl 5 rfl) ?_
        obtain ⟨h_6, hf⟩ := m_gx hf
        refine m_iald hx hb hK hZ (by decide) rfl h_6 dM_batch_45 ?_
        refine lv_iadd hx hb dM_batch_46 ?_
        obtain ⟨x2_7, ex2_7, hf⟩ := m_lx hf
        refine m_topi ex2_7 ?_
        refine lv_istore_n (lv' := [(2, .int x2_7), (0, .ref (ad 0)), (1, .int x1), (3, .int x3), (4, .int x4), (5, .int x5)]) hx hb dM_batch_47 rfl hl (by decide) rfl (fun ls hl => ?_)
        refine lv_iload_n hx hb dM_batch_48 rfl (lv_at hl 2 rfl) ?_
        refine lv_i2l hx hb dM_batch_49 rfl ?_
        refine lv_iload_n hx hb dM_batch_50 rfl (lv_at hl 0 rfl) ?_
        refine lv_i2l hx hb dM_batch_51 rfl ?_
        refine lv_lmul hx hb dM_batch_52 ?_
        refine lv_ldc2 (v := 100) hx hb hown (hts _ k4_51) dM_batch_53 ?_
        refine lv_ldiv hx hb dM_batch_56 (by decide) ?_
        refine lv_l2i hx hb dM_batch_57 rfl ?_
        obtain ⟨x6_8, ex6_8, hf⟩ := m_lx hf
        refine m_topi ex6_8 ?_
        refine lv_istore (lv' := [(6, .int x6_8), (2, .int x2_7), (0, .ref (ad 0)), (1, .int x1), (3, .int x3), (4, .int x4), (5, .int x5)]) hx hb dM_batch_58 hl (by decide) rfl (fun ls hl => ?_)
        refine lv_aload_n hx hb dM_batch_60 rfl (lv_at hl 2 rfl) ?_
        refine m_getR (k' := 17) hx hb hts in_M hown hK hZ (by decide) rfl rfl 29 (by decide) (hts _ k3_68) (fun _ h9 => h9) rfl dM_batch_61 ?_
        refine lv_iload hx hb dM_batch_64 (lv_at hl 6 rfl) ?_
        refine lv_iload hx hb dM_batch_66 (lv_at hl 0 rfl) ?_
        refine lv_iload_n hx hb dM_batch_68 rfl (lv_at hl 4 rfl) ?_
        refine lv_isub hx hb dM_batch_69 ?_
        obtain ⟨M_9, eM_9, hf⟩ := m_lx hf
        refine m_iast hx hb hK hZ (by decide) rfl h_6 dM_batch_70 eM_9 (fun H locs hZ => ?_)
        refine lv_iload hx hb dM_batch_71 (lv_at hl 0 rfl) ?_
        refine lv_istore_n (lv' := [(3, .int x6_8), (6, .int x6_8), (2, .int x2_7), (0, .ref (ad 0)), (1, .int x1), (4, .int x4), (5, .int x5)]) hx hb dM_batch_73 rfl hl (by decide) rfl (fun ls hl => ?_)
        refine lv_aload_n hx hb dM_batch_74 rfl (lv_at hl 3 rfl) ?_
        refine m_getR (k' := 17) hx hb hts in_M hown hK hZ (by decide) rfl rfl 29 (by decide) (hts _ k3_68) (fun _ h9 => h9) rfl dM_batch_75 ?_
        refine lv_iload hx hb dM_batch_78 (lv_at hl 6 rfl) ?_
        refine m_iald hx hb hK hZ (by decide) rfl h_6 dM_batch_80 ?_
        refine lv_i2l hx hb dM_batch_81 rfl ?_
        refine lv_aload_n hx hb dM_batch_82 rfl (lv_at hl 3 rfl) ?_
        refine m_getR (k' := 7) hx hb hts in_M hown hK hZ (by decide) rfl rfl 8 (by decide) (hts _ k3_47) (fun _ h9 => h9) rfl dM_batch_83 ?_
        refine lv_iload hx hb dM_batch_86 (lv_at hl 6 rfl) ?_
        refine m_iald hx hb hK hZ (by decide) rfl h_6 dM_batch_88 ?_
        refine lv_i2l hx hb dM_batch_89 rfl ?_
        refine lv_lmul hx hb dM_batch_90 ?_
        refine lv_ldc2 (v := 1000) hx hb hown (hts _ k4_52) dM_batch_91 ?_
        refine lv_ldiv hx hb dM_batch_94 (by decide) ?_
        refine lv_l2i hx hb dM_batch_95 rfl ?_
        obtain ⟨x7_10, ex7_10, hf⟩ := m_lx hf
        refine m_topi ex7_10 ?_
        refine lv_istore (lv' := [(7, .int x7_10), (3, .int x6_8), (6, .int x6_8), (2, .int x2_7), (0, .ref (ad 0)), (1, .int x1), (4, .int x4), (5, .int x5)]) hx hb dM_batch_96 hl (by decide) rfl (fun ls hl => ?_)
        refine lv_aload_n hx hb dM_batch_98 rfl (lv_at hl 4 rfl) ?_
        refine m_getR (k' := 18) hx hb hts in_M hown hK hZ (by decide) rfl rfl 30 (by decide) (hts _ k3_69) (fun _ h9 => h9) rfl dM_batch_99 ?_
        refine lv_iload hx hb dM_batch_102 (lv_at hl 7 rfl) ?_
        refine lv_aload_n hx hb dM_batch_104 rfl (lv_at hl 4 rfl) ?_
        refine m_getR (k' := 17) hx hb hts in_M hown hK hZ (by decide) rfl rfl 29 (by decide) (hts _ k3_68) (fun _ h9 => h9) rfl dM_batch_105 ?_
        refine lv_iload hx hb dM_batch_108 (lv_at hl 7 rfl) ?_
        refine m_iald hx hb hK hZ (by decide) rfl h_6 dM_batch_110 ?_
        refine lv_iload hx hb dM_batch_111 (lv_at hl 0 rfl) ?_
        refine lv_iadd hx hb dM_batch_113 ?_
        obtain ⟨M_11, eM_11, hf⟩ := m_lx hf
        refine m_iast hx hb hK hZ (by decide) rfl h_6 dM_batch_114 eM_11 (fun H locs hZ => ?_)
        refine lv_iload hx hb dM_batch_115 (lv_at hl 6 rfl) ?_
        refine lv_iload hx hb dM_batch_117 (lv_at hl 0 rfl) ?_
        refine lv_iadd hx hb dM_batch_119 ?_
        obtain ⟨x4_12, ex4_12, hf⟩ := m_lx hf
        refine m_topi ex4_12 ?_
        refine lv_istore (lv' := [(4, .int x4_12), (7, .int x7_10), (3, .int x6_8), (6, .int x6_8), (2, .int x2_7), (0, .ref (ad 0)), (1, .int x1), (5, .int x5)]) hx hb dM_batch_120 hl (by decide) rfl (fun ls hl => ?_)
        obtain ⟨x5_13, ex5_13, hf⟩ := m_lx hf
        refine lv_iinc (v := x5_13) (lv' := [(5, .int x5_13), (4, .int x4_12), (7, .int x7_10), (3, .int x6_8), (6, .int x6_8), (2, .int x2_7), (0, .ref (ad 0)), (1, .int x1)]) hx hb dM_batch_122 hl (k := 7) rfl (by rw [ex5_13]; rfl) (by decide) rfl (fun ls hl => ?_)
        refine lv_goto (tgt := 29) hx hb dM_batch_125 (by decide) ?_
        exact ih29 _ _ _ _ _ hf _ _ _ hZ (lv_sub hl [6, 7, 5, 3, 1, 0] rfl)
  refine lv_aload_n hx hb dM_batch_0 rfl (lv_at hl 0 rfl) ?_
  refine m_get hx hb hts in_M hown hK hZ (by decide) rfl rfl 18 (by decide) (hts _ k3_57) (fun _ h9 => h9) rfl dM_batch_1 ?_
  refine lv_if_eq (tgt := 17) hx hb dM_batch_4 (by decide) (fun c_1 => ?_) (fun c_1 => ?_)
  · have hf := m_t hf c_1
    refine lv_iconst (v := (-1)) hx hb dM_batch_17 (by decide) ?_
    exact hret _ _ _ _ _ _ hf rfl hZ dM_batch_18
  · have hf := m_f hf c_1
    refine lv_iload_n hx hb dM_batch_7 rfl (lv_at hl 1 rfl) ?_
    refine lv_iconst (v := 0) hx hb dM_batch_8 (by decide) ?_
    refine lv_ldc (v := 1000000) hx hb hown (hts _ k4_50) dM_batch_9 ?_
    obtain ⟨r_2, hc, hf⟩ := m_b1x hf
    refine m_ci (va_runS (As := [.int x1, .int 0, .int 1000000]) (rest := []) ⟨hx, hb, hml, hown, hts⟩ (cM_within l D ad c3 M x1 0 1000000 hc) (cwS 3 hts (gS9 k3_175 k3_176 k1_8 kc_M_within) rfl rfl rfl (by decide +kernel) ⟨by decide, by decide⟩) (m_preS hK hN hZ) rfl rfl hl.1 rfl (lv_room (Nat.le_of_ble_eq_true rfl)) dM_batch_11 ⟨Nat.zero_le _, Nat.zero_le _⟩) hZ (fun H locs hZ => ?_)
    refine lv_if_ne (tgt := 19) hx hb dM_batch_14 (by decide) (fun c_3 => ?_) (fun c_3 => ?_)
    · have hf := m_f hf c_3
      refine lv_iconst (v := 0) hx hb dM_batch_19 (by decide) ?_
      refine lv_istore_n (lv' := [(2, .int 0), (0, .ref (ad 0)), (1, .int x1)]) hx hb dM_batch_20 rfl hl (by decide) rfl (fun ls hl => ?_)
      refine lv_iconst (v := 0) hx hb dM_batch_21 (by decide) ?_
      refine lv_istore_n (lv' := [(3, .int 0), (2, .int 0), (0, .ref (ad 0)), (1, .int x1)]) hx hb dM_batch_22 rfl hl (by decide) rfl (fun ls hl => ?_)
      refine lv_iconst (v := 0) hx hb dM_batch_23 (by decide) ?_
      refine lv_istore (lv' := [(4, .int 0), (3, .int 0), (2, .int 0), (0, .ref (ad 0)), (1, .int x1)]) hx hb dM_batch_24 hl (by decide) rfl (fun ls hl => ?_)
      refine lv_iconst (v := 0) hx hb dM_batch_26 (by decide) ?_
      refine lv_istore (lv' := [(5, .int 0), (4, .int 0), (3, .int 0), (2, .int 0), (0, .ref (ad 0)), (1, .int x1)]) hx hb dM_batch_27 hl (by decide) rfl (fun ls hl => ?_)
      exact L29 128 M 0 0 0 0 hf _ _ _ hZ (lv_sub hl [4, 5, 3, 2, 1, 0] rfl)
    · have hf := m_t hf c_3
      refine lv_iconst (v := (-1)) hx hb dM_batch_17 (by decide) ?_
      exact hret _ _ _ _ _ _ hf rfl hZ dM_batch_18
abbrev rmM_mass : Room := { frames := 1, cells := 0, slots := 0, locals := 21 }
set_option maxHeartbeats 4000000 in
set_option maxRecDepth 100000 in
theorem cM_mass (l : Launch) (D : va_G) (ad : Nat → Nat) (c3 : ClassId × ClassId × ClassId) (M : mMem) (x1 : Int32) (x2 : Int32)  {r : Int32} (hf : fM_mass M x1 x2 = some r) : kPM l D ad c3 yM_mass wM_mass rmM_mass [.ref (ad 0), .int x1, .int x2] M r := by
  refine m_oP (cc := bM_mass) (maxL := 3) (ty := .int) (own := R_M) nestM (by decide) rfl (Nat.le_of_ble_eq_true rfl) rfl (fun p e s m args below meth c Q hx hb hml hown hts hK hN hret ls hZ hl => ?_)
  have hl : lv_has ls 3 [(0, .ref (ad 0)), (1, .int x1), (2, .int x2)] := hl
  unfold fM_mass at hf
  refine lv_aload_n hx hb dM_mass_0 rfl (lv_at hl 0 rfl) ?_
  refine m_get hx hb hts in_M hown hK hZ (by decide) rfl rfl 28 (by decide) (hts _ k3_67) (fun _ h9 => h9) rfl dM_mass_1 ?_
  refine lv_if_eq (tgt := 37) hx hb dM_mass_4 (by decide) (fun c_1 => ?_) (fun c_1 => ?_)
  · have hf := m_t hf c_1
    refine lv_iconst (v := (-1)) hx hb dM_mass_37 (by decide) ?_
    exact hret _ _ _ _ _ (fun _ _ => 0) hf rfl hZ dM_mass_38
  · have hf := m_f hf c_1
    refine lv_aload_n hx hb dM_mass_7 rfl (lv_at hl 0 rfl) ?_
    refine lv_iload_n hx hb dM_mass_8 rfl (lv_at hl 1 rfl) ?_
    obtain ⟨r_2, hc, hf⟩ := m_b1x hf
    refine m_ci (va_runV (As := [.int x1]) (rest := []) ⟨hx, hb, hml, hown, hts⟩ (cM_isStock l D ad c3 M x1 hc) (cwV 1 hts (gV k3_182 k3_184 kp_13 k1_8 kc_M_isStock) rfl rfl rfl (by decide +kernel) ⟨by decide, by decide⟩) (m_preV hK hN hZ (by decide) rfl rfl) rfl rfl hl.1 rfl (lv_room (Nat.le_of_ble_eq_true rfl)) dM_mass_9 ⟨Nat.zero_le _, Nat.zero_le _⟩) hZ (fun H locs hZ => ?_)
    refine lv_if_eq (tgt := 37) hx hb dM_mass_12 (by decide) (fun c_3 => ?_) (fun c_3 => ?_)
    · have hf := m_t hf c_3
      refine lv_iconst (v := (-1)) hx hb dM_mass_37 (by decide) ?_
      exact hret _ _ _ _ _ (fun _ _ => 0) hf rfl hZ dM_mass_38
    · have hf := m_f hf c_3
      refine lv_iload_n hx hb dM_mass_15 rfl (lv_at hl 2 rfl) ?_
      refine lv_if_eq (tgt := 28) hx hb dM_mass_16 (by decide) (fun c_4 => ?_) (fun c_4 => ?_)
      · have hf := m_t hf c_4
        refine lv_aload_n hx hb dM_mass_28 rfl (lv_at hl 0 rfl) ?_
        refine m_getR (k' := 17) hx hb hts in_M hown hK hZ (by decide) rfl rfl 29 (by decide) (hts _ k3_68) (fun _ h9 => h9) rfl dM_mass_29 ?_
        refine lv_iload_n hx hb dM_mass_32 rfl (lv_at hl 1 rfl) ?_
        obtain ⟨h_inb_x1_4, hf⟩ := m_gx hf
        refine m_iald hx hb hK hZ (by decide) rfl h_inb_x1_4 dM_mass_33 ?_
        refine lv_goto (tgt := 38) hx hb dM_mass_34 (by decide) ?_
        exact hret _ _ _ _ _ (fun _ _ => 0) hf rfl hZ dM_mass_38
      · have hf := m_f hf c_4
        refine lv_aload_n hx hb dM_mass_19 rfl (lv_at hl 0 rfl) ?_
        refine m_getR (k' := 18) hx hb hts in_M hown hK hZ (by decide) rfl rfl 30 (by decide) (hts _ k3_69) (fun _ h9 => h9) rfl dM_mass_20 ?_
        refine lv_iload_n hx hb dM_mass_23 rfl (lv_at hl 1 rfl) ?_
        obtain ⟨h_inb_x1_4, hf⟩ := m_gx hf
        refine m_iald hx hb hK hZ (by decide) rfl h_inb_x1_4 dM_mass_24 ?_
        refine lv_goto (tgt := 38) hx hb dM_mass_25 (by decide) ?_
        exact hret _ _ _ _ _ (fun _ _ => 0) hf rfl hZ dM_mass_38
