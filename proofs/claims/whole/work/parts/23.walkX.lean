abbrev rmG_read : Room := { frames := 4, cells := 0, slots := 0, locals := 94 }
set_option maxHeartbeats 4000000 in
set_option maxRecDepth 100000 in
theorem cG_read (l : Launch) (D : va_G) (ad : Nat → Nat) (c3 : ClassId × ClassId × ClassId) (M : mMem)   {r : Int32} {M' : mMem} (hf : fG_read M  = some (r, M')) : kIX l D ad c3 yG_read wG_read rmG_read [.ref (ad 0)] M r M' := by
  refine m_oI (cc := bG_read) (maxL := 3) (ty := .int) (own := R_G) nestX (by decide) rfl (Nat.le_of_ble_eq_true rfl) rfl (fun p e s m args below meth c Q hx hb hml hown hts hK hN hret ls hZ hl => ?_)
  have hl : lv_has ls 3 [(0, .ref (ad 0))] := hl
  unfold fG_read at hf
  have B73 : ∀ (M : mMem) (x1 : Int32), fG_read_B73 M x1 = some (r, M') → ∀ (H : Heap) (locs : List Loc) (ls : Array Slot), zX D ad c3 s H locs M → lv_has ls 3 [(0, .ref (ad 0)), (1, .int x1)] → W p l e rmG_read s m args below meth c H locs 0 0 Q (F0 m 73 ls []) := by
    intro M x1 hf H locs ls hZ hl
    unfold fG_read_B73 at hf
    refine lv_aload_n hx hb dG_read_73 rfl (lv_at hl 0 rfl) ?_
    obtain ⟨M_6, hc, hf⟩ := m_b1x hf
    refine m_cv (va_runV (As := []) (rest := []) ⟨hx, hb, hml, hown, hts⟩ (cG_forget l D ad c3 M hc) (cwV 0 hts (gV k2_47 k2_49 kp_0 k1_1 kc_G_forget) rfl rfl rfl (by decide +kernel) ⟨by decide, by decide⟩) (m_preV hK hN hZ (by decide) rfl rfl) rfl rfl hl.1 rfl (lv_room (Nat.le_of_ble_eq_true rfl)) dG_read_74 ⟨Nat.zero_le _, Nat.zero_le _⟩) hZ (fun H locs hZ => ?_)
    refine lv_iload_n hx hb dG_read_77 rfl (lv_at hl 1 rfl) ?_
    exact hret _ _ _ _ _ _ hf rfl hZ dG_read_78
  have L30 : ∀ (x1 : Int32) (n30 : Nat) (M : mMem) (x2 : Int32), fG_read_L30 x1 n30 M x2 = some (r, M') → ∀ (H : Heap) (locs : List Loc) (ls : Array Slot), zX D ad c3 s H locs M → lv_has ls 3 [(0, .ref (ad 0)), (1, .int x1), (2, .int x2)] → W p l e rmG_read s m args below meth c H locs 0 0 Q (F0 m 30 ls []) := by
    intro x1 n30
    induction n30 with
    | zero => intro M x2 hf; exact m_none hf
    | succ n30 ih30 =>
      intro M x2 hf H locs ls hZ hl
      rw [fG_read_L30] at hf
      refine lv_iload_n hx hb dG_read_30 rfl (lv_at hl 2 rfl) ?_
      refine lv_iload_n hx hb dG_read_31 rfl (lv_at hl 1 rfl) ?_
      refine lv_icmp_ge (tgt := 73) hx hb dG_read_32 (by decide) (fun c_5 => ?_) (fun c_5 => ?_)
      · have hf := m_t hf c_5
        exact B73 M x1 hf _ _ _ hZ (lv_sub hl [0, 1] rfl)
      · have hf := m_f hf c_5
        refine lv_iload_n hx hb dG_read_35 rfl (lv_at hl 2 rfl) ?_
        refine lv_bipush (v := 6) hx hb dG_read_36 (by decide) ?_
        refine lv_icmp_ge (tgt := 73) hx hb dG_read_38 (by decide) (fun c_7 => ?_) (fun c_7 => ?_)
        · have hf := m_t hf c_7
          exact B73 M x1 hf _ _ _ hZ (lv_sub hl [0, 1] rfl)
        · have hf := m_f hf c_7
          refine lv_aload_n hx hb dG_read_41 rfl (lv_at hl 0 rfl) ?_
          refine m_getR (k' := 1) hx hb hts in_G hown hK hZ (by decide) rfl rfl 0 (by decide) (hts _ k2_8) (fun _ h9 => h9) rfl dG_read_42 ?_
          refine lv_iload_n hx hb dG_read_45 rfl (lv_at hl 2 rfl) ?_
          refine lv_aload_n hx hb dG_read_46 rfl (lv_at hl 0 rfl) ?_
          refine m_getR (k' := 62) hx hb hts in_G hown hK hZ (by decide) rfl rfl 3 (by decide) (hts _ k2_11) (fun _ h9 => h9) rfl dG_read_47 ?_
          refine m_getR (k' := 63) hx hb hts in_T hown hK hZ (by decide) rfl rfl 0 (by decide) (hts _ k1_176) (fun _ h9 => h9) rfl dG_read_50 ?_
          refine lv_iload_n hx hb dG_read_53 rfl (lv_at hl 2 rfl) ?_
          obtain ⟨h_8, hf⟩ := m_gx hf
          refine m_iald hx hb hK hZ (by decide) rfl h_8 dG_read_54 ?_
          refine lv_aload_n hx hb dG_read_55 rfl (lv_at hl 0 rfl) ?_
          refine m_getR (k' := 62) hx hb hts in_G hown hK hZ (by decide) rfl rfl 3 (by decide) (hts _ k2_11) (fun _ h9 => h9) rfl dG_read_56 ?_
          refine m_getR (k' := 64) hx hb hts in_T hown hK hZ (by decide) rfl rfl 1 (by decide) (hts _ k1_178) (fun _ h9 => h9) rfl dG_read_59 ?_
          refine lv_iload_n hx hb dG_read_62 rfl (lv_at hl 2 rfl) ?_
          refine m_iald hx hb hK hZ (by decide) rfl h_8 dG_read_63 ?_
          obtain ⟨M_9, hc, hf⟩ := m_b1x hf
          refine m_cv (va_runV (As := [.int x2, .int (M 63 x2.toNatClampNeg), .int (M 64 x2.toNatClampNeg)]) (rest := []) ⟨hx, hb, hml, hown, hts⟩ (cP_setBand l D ad c3 M x2 (M 63 x2.toNatClampNeg) (M 64 x2.toNatClampNeg) hc) (cwV 3 hts (gV k2_43 k2_44 k2_45 k1_2 kc_P_setBand) rfl rfl rfl (by decide +kernel) ⟨by decide, by decide⟩) (m_preV hK hN hZ (by decide) rfl rfl) rfl rfl hl.1 rfl (lv_room (Nat.le_of_ble_eq_true rfl)) dG_read_64 ⟨Nat.zero_le _, Nat.zero_le _⟩) hZ (fun H locs hZ => ?_)
          obtain ⟨x2_10, ex2_10, hf⟩ := m_lx hf
          refine lv_iinc (v := x2_10) (lv' := [(2, .int x2_10), (0, .ref (ad 0)), (1, .int x1)]) hx hb dG_read_67 hl (k := 2) rfl (by rw [ex2_10]; rfl) (by decide) rfl (fun ls hl => ?_)
          refine lv_goto (tgt := 30) hx hb dG_read_70 (by decide) ?_
          exact ih30 _ _ hf _ _ _ hZ (lv_sub hl [1, 2, 0] rfl)
  refine lv_aload_n hx hb dG_read_0 rfl (lv_at hl 0 rfl) ?_
  refine m_getR (k' := 62) hx hb hts in_G hown hK hZ (by decide) rfl rfl 3 (by decide) (hts _ k2_11) (fun _ h9 => h9) rfl dG_read_1 ?_
  refine lv_aload_n hx hb dG_read_4 rfl (lv_at hl 0 rfl) ?_
  refine m_getR (k' := 1) hx hb hts in_G hown hK hZ (by decide) rfl rfl 0 (by decide) (hts _ k2_8) (fun _ h9 => h9) rfl dG_read_5 ?_
  refine m_get hx hb hts in_P hown hK hZ (by decide) rfl rfl 0 (by decide) (hts _ k1_28) (fun _ h9 => h9) rfl dG_read_8 ?_
  obtain ⟨r_1, M_2, hc, hf⟩ := m_b2x hf
  refine m_ci (va_runV (As := [.int (M 1 0)]) (rest := []) ⟨hx, hb, hml, hown, hts⟩ (cT_parse l D ad c3 M (M 1 0) hc) (cwV 1 hts (gV k2_114 k2_115 k2_116 k1_5 kc_T_parse) rfl rfl rfl (by decide +kernel) ⟨by decide, by decide⟩) (m_preV hK hN hZ (by decide) rfl rfl) rfl rfl hl.1 rfl (lv_room (Nat.le_of_ble_eq_true rfl)) dG_read_11 ⟨Nat.zero_le _, Nat.zero_le _⟩) hZ (fun H locs hZ => ?_)
  refine lv_istore_n (lv' := [(1, .int r_1), (0, .ref (ad 0))]) hx hb dG_read_14 rfl hl (by decide) rfl (fun ls hl => ?_)
  refine lv_aload_n hx hb dG_read_15 rfl (lv_at hl 1 rfl) ?_
  refine m_getR (k' := 62) hx hb hts in_G hown hK hZ (by decide) rfl rfl 3 (by decide) (hts _ k2_11) (fun _ h9 => h9) rfl dG_read_16 ?_
  obtain ⟨M_3, hc, hf⟩ := m_b1x hf
  refine m_cv (va_runV (As := []) (rest := []) ⟨hx, hb, hml, hown, hts⟩ (cT_clear l D ad c3 M_2 hc) (cwV 0 hts (gV k2_132 k2_133 k2_134 k1_5 kc_T_clear) rfl rfl rfl (by decide +kernel) ⟨by decide, by decide⟩) (m_preV hK hN hZ (by decide) rfl rfl) rfl rfl hl.1 rfl (lv_room (Nat.le_of_ble_eq_true rfl)) dG_read_19 ⟨Nat.zero_le _, Nat.zero_le _⟩) hZ (fun H locs hZ => ?_)
  refine lv_iload_n hx hb dG_read_22 rfl (lv_at hl 0 rfl) ?_
  refine lv_if_ge (tgt := 28) hx hb dG_read_23 (by decide) (fun c_4 => ?_) (fun c_4 => ?_)
  · have hf := m_t hf c_4
    refine lv_iconst (v := 0) hx hb dG_read_28 (by decide) ?_
    refine lv_istore_n (lv' := [(2, .int 0), (1, .int r_1), (0, .ref (ad 0))]) hx hb dG_read_29 rfl hl (by decide) rfl (fun ls hl => ?_)
    exact L30 r_1 128 M_3 0 hf _ _ _ hZ (lv_sub hl [2, 1, 0] rfl)
  · have hf := m_f hf c_4
    refine lv_iload_n hx hb dG_read_26 rfl (lv_at hl 0 rfl) ?_
    exact hret _ _ _ _ _ _ hf rfl hZ dG_read_27
abbrev rmS_useBands : Room := { frames := 0, cells := 0, slots := 0, locals := 0 }
set_option maxHeartbeats 4000000 in
set_option maxRecDepth 100000 in
theorem cS_useBands (l : Launch) (D : va_G) (ad : Nat → Nat) (c3 : ClassId × ClassId × ClassId) (M : mMem) (b : Nat) (qb : isX_S b) {M' : mMem} (hf : fS_useBands M b = some M') : kVX l D ad c3 yS_useBands wS_useBands rmS_useBands [.ref (ad b)] M M' := by
  refine m_oV (cc := bS_useBands) (maxL := 2) (own := R_S) nestX (by decide) rfl (Nat.le_of_ble_eq_true rfl) rfl (fun p e s m args below meth c Q hx hb hml hown hts hK hN hret ls hZ hl => ?_)
  have hl : lv_has ls 2 [(0, .ref (ad b))] := hl
  unfold fS_useBands at hf
  have L2 : ∀ (n2 : Nat) (M : mMem) (x1 : Int32), fS_useBands_L2 b n2 M x1 = some M' → ∀ (H : Heap) (locs : List Loc) (ls : Array Slot), zX D ad c3 s H locs M → lv_has ls 2 [(0, .ref (ad b)), (1, .int x1)] → W p l e rmS_useBands s m args below meth c H locs 0 0 Q (F0 m 2 ls []) := by
    intro n2
    induction n2 with
    | zero => intro M x1 hf; exact m_none hf
    | succ n2 ih2 =>
      intro M x1 hf H locs ls hZ hl
      rw [fS_useBands_L2] at hf
      refine lv_iload_n hx hb dS_useBands_2 rfl (lv_at hl 1 rfl) ?_
      refine lv_aload_n hx hb dS_useBands_3 rfl (lv_at hl 0 rfl) ?_
      refine m_getR (k' := 1) hx hb hts in_S hown hK hZ (qb 0 (by decide)).2 (qb 0 (by decide)).1 rfl 0 (by decide) (hts _ k1_130) (fun _ h9 => h9) rfl dS_useBands_4 ?_
      refine m_get hx hb hts in_P hown hK hZ (by decide) rfl rfl 0 (by decide) (hts _ k1_27) (fun _ h9 => h9) rfl dS_useBands_7 ?_
      refine lv_icmp_ge (tgt := 55) hx hb dS_useBands_10 (by decide) (fun c_1 => ?_) (fun c_1 => ?_)
      · have hf := m_t hf c_1
        exact hret _ _ _ _ _ hf hZ dS_useBands_55
      · have hf := m_f hf c_1
        refine lv_aload_n hx hb dS_useBands_13 rfl (lv_at hl 0 rfl) ?_
        refine m_getR (k' := (b + 1)) hx hb hts in_S hown hK hZ (qb 0 (by decide)).2 (qb 0 (by decide)).1 rfl 1 (by decide) (hts _ k1_131) (fun _ h9 => h9) rfl dS_useBands_14 ?_
        refine lv_iload_n hx hb dS_useBands_17 rfl (lv_at hl 1 rfl) ?_
        refine lv_bipush (v := 100) hx hb dS_useBands_18 (by decide) ?_
        refine lv_aload_n hx hb dS_useBands_20 rfl (lv_at hl 0 rfl) ?_
        refine m_getR (k' := 1) hx hb hts in_S hown hK hZ (qb 0 (by decide)).2 (qb 0 (by decide)).1 rfl 0 (by decide) (hts _ k1_130) (fun _ h9 => h9) rfl dS_useBands_21 ?_
        refine m_getR (k' := 2) hx hb hts in_P hown hK hZ (by decide) rfl rfl 4 (by decide) (hts _ k1_40) (fun _ h9 => h9) rfl dS_useBands_24 ?_
        refine lv_iload_n hx hb dS_useBands_27 rfl (lv_at hl 1 rfl) ?_
        obtain ⟨h_2, hf⟩ := m_gx hf
        refine m_iald hx hb hK hZ (by decide) rfl h_2 dS_useBands_28 ?_
        refine lv_imul hx hb dS_useBands_29 ?_
        obtain ⟨M_3, eM_3, hf⟩ := m_lx hf
        refine m_iast hx hb hK hZ (qb 1 (by decide)).2 (qb 1 (by decide)).1 h_2 dS_useBands_30 eM_3 (fun H locs hZ => ?_)
        refine lv_aload_n hx hb dS_useBands_31 rfl (lv_at hl 0 rfl) ?_
        refine m_getR (k' := (b + 2)) hx hb hts in_S hown hK hZ (qb 0 (by decide)).2 (qb 0 (by decide)).1 rfl 2 (by decide) (hts _ k1_132) (fun _ h9 => h9) rfl dS_useBands_32 ?_
        refine lv_iload_n hx hb dS_useBands_35 rfl (lv_at hl 1 rfl) ?_
        refine lv_bipush (v := 100) hx hb dS_useBands_36 (by decide) ?_
        refine lv_aload_n hx hb dS_useBands_38 rfl (lv_at hl 0 rfl) ?_
        refine m_getR (k' := 1) hx hb hts in_S hown hK hZ (qb 0 (by decide)).2 (qb 0 (by decide)).1 rfl 0 (by decide) (hts _ k1_130) (fun _ h9 => h9) rfl dS_useBands_39 ?_
        refine m_getR (k' := 3) hx hb hts in_P hown hK hZ (by decide) rfl rfl 5 (by decide) (hts _ k1_43) (fun _ h9 => h9) rfl dS_useBands_42 ?_
        refine lv_iload_n hx hb dS_useBands_45 rfl (lv_at hl 1 rfl) ?_
        refine m_iald hx hb hK hZ (by decide) rfl h_2 dS_useBands_46 ?_
        refine lv_imul hx hb dS_useBands_47 ?_
        obtain ⟨M_4, eM_4, hf⟩ := m_lx hf
        refine m_iast hx hb hK hZ (qb 2 (by decide)).2 (qb 2 (by decide)).1 h_2 dS_useBands_48 eM_4 (fun H locs hZ => ?_)
        obtain ⟨x1_5, ex1_5, hf⟩ := m_lx hf
        refine lv_iinc (v := x1_5) (lv' := [(1, .int x1_5), (0, .ref (ad b))]) hx hb dS_useBands_49 hl (k := 1) rfl (by rw [ex1_5]; rfl) (by decide) rfl (fun ls hl => ?_)
        refine lv_goto (tgt := 2) hx hb dS_useBands_52 (by decide) ?_
        exact ih2 _ _ hf _ _ _ hZ (lv_sub hl [1, 0] rfl)
  refine lv_iconst (v := 0) hx hb dS_useBands_0 (by decide) ?_
  refine lv_istore_n (lv' := [(1, .int 0), (0, .ref (ad b))]) hx hb dS_useBands_1 rfl hl (by decide) rfl (fun ls hl => ?_)
  exact L2 128 M 0 hf _ _ _ hZ (lv_sub hl [1, 0] rfl)
abbrev rmS_missOfAll : Room := { frames := 1, cells := 0, slots := 0, locals := 24 }
set_option maxHeartbeats 4000000 in
set_option maxRecDepth 100000 in
theorem cS_missOfAll (l : Launch) (D : va_G) (ad : Nat → Nat) (c3 : ClassId × ClassId × ClassId) (M : mMem) (b : Nat) (x1 : Int32) (x2 : Int32) (qb : isX_S b) {r : Int32} {M' : mMem} (hf : fS_missOfAll M b x1 x2 = some (r, M')) : kIX l D ad c3 yS_missOfAll wS_missOfAll rmS_missOfAll [.ref (ad b), .int x1, .int x2] M r M' := by
  refine m_oI (cc := bS_missOfAll) (maxL := 12) (ty := .int) (own := R_S) nestX (by decide) rfl (Nat.le_of_ble_eq_true rfl) rfl (fun p e s m args below meth c Q hx hb hml hown hts hK hN hret ls hZ hl => ?_)
  have hl : lv_has ls 12 [(0, .ref (ad b)), (1, .int x1), (2, .int x2)] := hl
  unfold fS_missOfAll at hf
  have L43 : inb x1 4 → ∀ (n43 : Nat) (M : mMem) (x7 : Int32) (x8 : Int32), fS_missOfAll_L43 b x1 x2 n43 M x7 x8 = some (r, M') → ∀ (H : Heap) (locs : List Loc) (ls : Array Slot), zX D ad c3 s H locs M → lv_has ls 12 [(0, .ref (ad b)), (2, .int x2), (3, .ref (ad ((b + 4) + 1 + x1.toNatClampNeg))), (4, .ref (ad ((b + 9) + 1 + x1.toNatClampNeg))), (5, .ref (ad (14 + 1 + x1.toNatClampNeg))), (6, .ref (ad (19 + 1 + x1.toNatClampNeg))), (7, .int x7), (8, .int x8)] → W p l e rmS_missOfAll s m args below meth c H locs 0 0 Q (F0 m 43 ls []) := by
    intro h_inb_x1_4 n43
    induction n43 with
    | zero => intro M x7 x8 hf; exact m_none hf
    | succ n43 ih43 =>
      intro M x7 x8 hf H locs ls hZ hl
      rw [fS_missOfAll_L43] at hf
      refine lv_iload hx hb dS_missOfAll_43 (lv_at hl 7 rfl) ?_
      refine lv_aload_n hx hb dS_missOfAll_45 rfl (lv_at hl 0 rfl) ?_
      refine m_getR (k' := 1) hx hb hts in_S hown hK hZ (qb 0 (by decide)).2 (qb 0 (by decide)).1 rfl 0 (by decide) (hts _ k1_130) (fun _ h9 => h9) rfl dS_missOfAll_46 ?_
      refine m_get hx hb hts in_P hown hK hZ (by decide) rfl rfl 0 (by decide) (hts _ k1_27) (fun _ h9 => h9) rfl dS_missOfAll_49 ?_
      refine lv_icmp_ge (tgt := 141) hx hb dS_missOfAll_52 (by decide) (fun c_1 => ?_) (fun c_1 => ?_)
      · have hf := m_t hf c_1
        refine lv_iload hx hb dS_missOfAll_141 (lv_at hl 6 rfl) ?_
        exact hret _ _ _ _ _ _ hf rfl hZ dS_missOfAll_143
      · have hf := m_f hf c_1
        refine lv_aload_n hx hb dS_missOfAll_55 rfl (lv_at hl 0 rfl) ?_
        refine m_getR (k' := (b + 1)) hx hb hts in_S hown hK hZ (qb 0 (by decide)).2 (qb 0 (by decide)).1 rfl 1 (by decide) (hts _ k1_131) (fun _ h9 => h9) rfl dS_missOfAll_56 ?_
        refine lv_iload hx hb dS_missOfAll_59 (lv_at hl 7 rfl) ?_
        obtain ⟨h_2, hf⟩ := m_gx hf
        refine m_iald hx hb hK hZ (qb 1 (by decide)).2 (qb 1 (by decide)).1 h_2 dS_missOfAll_61 ?_
        refine lv_aload_n hx hb dS_missOfAll_62 rfl (lv_at hl 2 rfl) ?_
        refine lv_iload hx hb dS_missOfAll_63 (lv_at hl 7 rfl) ?_
        refine m_iald hx hb hK hZ ((grX_S_4 qb) _ (m_lt h_inb_x1_4)).2 ((grX_S_4 qb) _ (m_lt h_inb_x1_4)).1 h_2 dS_missOfAll_65 ?_
        refine lv_isub hx hb dS_missOfAll_66 ?_
        refine lv_iload_n hx hb dS_missOfAll_67 rfl (lv_at hl 1 rfl) ?_
        refine lv_aload hx hb dS_missOfAll_68 (lv_at hl 4 rfl) ?_
        refine lv_iload hx hb dS_missOfAll_70 (lv_at hl 7 rfl) ?_
        refine m_iald hx hb hK hZ (grX_14 _ (m_lt h_inb_x1_4)).2 (grX_14 _ (m_lt h_inb_x1_4)).1 h_2 dS_missOfAll_72 ?_
        refine lv_imul hx hb dS_missOfAll_73 ?_
        refine lv_isub hx hb dS_missOfAll_74 ?_
        obtain ⟨x9_3, ex9_3, hf⟩ := m_lx hf
        refine m_topi ex9_3 ?_
        refine lv_istore (lv' := [(9, .int x9_3), (0, .ref (ad b)), (2, .int x2), (3, .ref (ad ((b + 4) + 1 + x1.toNatClampNeg))), (4, .ref (ad ((b + 9) + 1 + x1.toNatClampNeg))), (5, .ref (ad (14 + 1 + x1.toNatClampNeg))), (6, .ref (ad (19 + 1 + x1.toNatClampNeg))), (7, .int x7), (8, .int x8)]) hx hb dS_missOfAll_75 hl (by decide) rfl (fun ls hl => ?_)
        refine lv_aload hx hb dS_missOfAll_77 (lv_at hl 4 rfl) ?_
        refine lv_iload hx hb dS_missOfAll_79 (lv_at hl 8 rfl) ?_
        refine m_iald hx hb hK hZ ((grX_S_9 qb) _ (m_lt h_inb_x1_4)).2 ((grX_S_9 qb) _ (m_lt h_inb_x1_4)).1 h_2 dS_missOfAll_81 ?_
        refine lv_iload_n hx hb dS_missOfAll_82 rfl (lv_at hl 2 rfl) ?_
        refine lv_aload hx hb dS_missOfAll_83 (lv_at hl 6 rfl) ?_
        refine lv_iload hx hb dS_missOfAll_85 (lv_at hl 8 rfl) ?_
        refine m_iald hx hb hK hZ (grX_19 _ (m_lt h_inb_x1_4)).2 (grX_19 _ (m_lt h_inb_x1_4)).1 h_2 dS_missOfAll_87 ?_
        refine lv_imul hx hb dS_missOfAll_88 ?_
        refine lv_iadd hx hb dS_missOfAll_89 ?_
        refine lv_aload_n hx hb dS_missOfAll_90 rfl (lv_at hl 1 rfl) ?_
        refine m_getR (k' := (b + 2)) hx hb hts in_S hown hK hZ (qb 0 (by decide)).2 (qb 0 (by decide)).1 rfl 2 (by decide) (hts _ k1_132) (fun _ h9 => h9) rfl dS_missOfAll_91 ?_
        refine lv_iload hx hb dS_missOfAll_94 (lv_at hl 8 rfl) ?_
        refine m_iald hx hb hK hZ (qb 2 (by decide)).2 (qb 2 (by decide)).1 h_2 dS_missOfAll_96 ?_
        refine lv_isub hx hb dS_missOfAll_97 ?_
        obtain ⟨x10_4, ex10_4, hf⟩ := m_lx hf
        refine m_topi ex10_4 ?_
        refine lv_istore (lv' := [(10, .int x10_4), (9, .int x9_3), (0, .ref (ad b)), (2, .int x2), (3, .ref (ad ((b + 4) + 1 + x1.toNatClampNeg))), (4, .ref (ad ((b + 9) + 1 + x1.toNatClampNeg))), (5, .ref (ad (14 + 1 + x1.toNatClampNeg))), (6, .ref (ad (19 + 1 + x1.toNatClampNeg))), (7, .int x7), (8, .int x8)]) hx hb dS_missOfAll_98 hl (by decide) rfl (fun ls hl => ?_)
        refine lv_iconst (v := 0) hx hb dS_missOfAll_100 (by decide) ?_
        refine lv_iload hx hb dS_missOfAll_101 (lv_at hl 1 rfl) ?_
        refine va_mmax hx hb (hml.trans hl.1.symm) hown (hts _ k2_162) (hts _ k2_88) (hts _ k1_9) (hts _ kc_math_max) (by decide) (Nat.le_of_ble_eq_true rfl) (Nat.zero_le _) (Nat.zero_le _) dS_missOfAll_103 ?_
        refine lv_iconst (v := 0) hx hb dS_missOfAll_106 (by decide) ?_
        refine lv_iload hx hb dS_missOfAll_107 (lv_at hl 0 rfl) ?_
        refine va_mmax hx hb (hml.trans hl.1.symm) hown (hts _ k2_162) (hts _ k2_88) (hts _ k1_9) (hts _ kc_math_max) (by decide) (Nat.le_of_ble_eq_true rfl) (Nat.zero_le _) (Nat.zero_le _) dS_missOfAll_109 ?_
        refine lv_iadd hx hb dS_missOfAll_112 ?_
        obtain ⟨x11_5, ex11_5, hf⟩ := m_lx hf
        refine m_topi ex11_5 ?_
        refine lv_istore (lv' := [(11, .int x11_5), (10, .int x10_4), (9, .int x9_3), (0, .ref (ad b)), (2, .int x2), (3, .ref (ad ((b + 4) + 1 + x1.toNatClampNeg))), (4, .ref (ad ((b + 9) + 1 + x1.toNatClampNeg))), (5, .ref (ad (14 + 1 + x1.toNatClampNeg))), (6, .ref (ad (19 + 1 + x1.toNatClampNeg))), (7, .int x7), (8, .int x8)]) hx hb dS_missOfAll_113 hl (by decide) rfl (fun ls hl => ?_)
        refine lv_iload hx hb dS_missOfAll_115 (lv_at hl 0 rfl) ?_
        refine lv_if_ne (tgt := 128) hx hb dS_missOfAll_117 (by decide) (fun c_6 => ?_) (fun c_6 => ?_)
        · have hf := m_f hf c_6
          refine lv_iload hx hb dS_missOfAll_128 (lv_at hl 9 rfl) ?_
          refine lv_iload hx hb dS_missOfAll_130 (lv_at hl 0 rfl) ?_
          refine lv_iadd hx hb dS_missOfAll_132 ?_
          obtain ⟨x7_10, ex7_10, hf⟩ := m_lx hf
          refine m_topi ex7_10 ?_
          refine lv_istore (lv' := [(7, .int x7_10), (11, .int x11_5), (10, .int x10_4), (9, .int x9_3), (0, .ref (ad b)), (2, .int x2), (3, .ref (ad ((b + 4) + 1 + x1.toNatClampNeg))), (4, .ref (ad ((b + 9) + 1 + x1.toNatClampNeg))), (5, .ref (ad (14 + 1 + x1.toNatClampNeg))), (6, .ref (ad (19 + 1 + x1.toNatClampNeg))), (8, .int x8)]) hx hb dS_missOfAll_133 hl (by decide) rfl (fun ls hl => ?_)
          obtain ⟨x8_11, ex8_11, hf⟩ := m_lx hf
          refine lv_iinc (v := x8_11) (lv' := [(8, .int x8_11), (7, .int x7_10), (11, .int x11_5), (10, .int x10_4), (9, .int x9_3), (0, .ref (ad b)), (2, .int x2), (3, .ref (ad ((b + 4) + 1 + x1.toNatClampNeg))), (4, .ref (ad ((b + 9) + 1 + x1.toNatClampNeg))), (5, .ref (ad (14 + 1 + x1.toNatClampNeg))), (6, .ref (ad (19 + 1 + x1.toNatClampNeg)))]) hx hb dS_missOfAll_135 hl (k := 10) rfl (by rw [ex8_11]; rfl) (by decide) rfl (fun ls hl => ?_)
          refine lv_goto (tgt := 43) hx hb dS_missOfAll_138 (by decide) ?_
          exact ih43 _ _ _ hf _ _ _ hZ (lv_sub hl [5, 6, 7, 8, 9, 10, 1, 0] rfl)
        · have hf := m_t hf c_6
          refine lv_aload_n hx hb dS_missOfAll_120 rfl (lv_at hl 3 rfl) ?_
          refine m_getR (k' := (b + 14)) hx hb hts in_S hown hK hZ (qb 0 (by decide)).2 (qb 0 (by decide)).1 rfl 6 (by decide) (hts _ k1_136) (fun _ h9 => h9) rfl dS_missOfAll_121 ?_
          refine lv_iload hx hb dS_missOfAll_124 (lv_at hl 10 rfl) ?_
          refine lv_iconst (v := 1) hx hb dS_missOfAll_126 (by decide) ?_
          obtain ⟨M_7, eM_7, hf⟩ := m_lx hf
          refine m_zast hx hb hK hZ (qb 14 (by decide)).2 (qb 14 (by decide)).1 h_2 dS_missOfAll_127 eM_7 (by decide) (fun H locs hZ => ?_)
          refine lv_iload hx hb dS_missOfAll_128 (lv_at hl 9 rfl) ?_
          refine lv_iload hx hb dS_missOfAll_130 (lv_at hl 0 rfl) ?_
          refine lv_iadd hx hb dS_missOfAll_132 ?_
          obtain ⟨x7_8, ex7_8, hf⟩ := m_lx hf
          refine m_topi ex7_8 ?_
          refine lv_istore (lv' := [(7, .int x7_8), (11, .int x11_5), (10, .int x10_4), (9, .int x9_3), (0, .ref (ad b)), (2, .int x2), (3, .ref (ad ((b + 4) + 1 + x1.toNatClampNeg))), (4, .ref (ad ((b + 9) + 1 + x1.toNatClampNeg))), (5, .ref (ad (14 + 1 + x1.toNatClampNeg))), (6, .ref (ad (19 + 1 + x1.toNatClampNeg))), (8, .int x8)]) hx hb dS_missOfAll_133 hl (by decide) rfl (fun ls hl => ?_)
          obtain ⟨x8_9, ex8_9, hf⟩ := m_lx hf
          refine lv_iinc (v := x8_9) (lv' := [(8, .int x8_9), (7, .int x7_8), (11, .int x11_5), (10, .int x10_4), (9, .int x9_3), (0, .ref (ad b)), (2, .int x2), (3, .ref (ad ((b + 4) + 1 + x1.toNatClampNeg))), (4, .ref (ad ((b + 9) + 1 + x1.toNatClampNeg))), (5, .ref (ad (14 + 1 + x1.toNatClampNeg))), (6, .ref (ad (19 + 1 + x1.toNatClampNeg)))]) hx hb dS_missOfAll_135 hl (k := 10) rfl (by rw [ex8_9]; rfl) (by decide) rfl (fun ls hl => ?_)
          refine lv_goto (tgt := 43) hx hb dS_missOfAll_138 (by decide) ?_
          exact ih43 _ _ _ hf _ _ _ hZ (lv_sub hl [5, 6, 7, 8, 9, 10, 1, 0] rfl)
  refine lv_aload_n hx hb dS_missOfAll_0 rfl (lv_at hl 0 rfl) ?_
  refine m_getR (k' := (b + 4)) hx hb hts in_S hown hK hZ (qb 0 (by decide)).2 (qb 0 (by decide)).1 rfl 4 (by decide) (hts _ k1_134) (fun _ h9 => h9) rfl dS_missOfAll_1 ?_
  refine lv_iload_n hx hb dS_missOfAll_4 rfl (lv_at hl 1 rfl) ?_
  obtain ⟨h_inb_x1_4, hf⟩ := m_gx hf
  refine m_aald hx hb hK hZ (qb 4 (by decide)).2 (qb 4 (by decide)).1 h_inb_x1_4 dS_missOfAll_5 ?_
  refine lv_astore_n (lv' := [(3, .ref (ad ((b + 4) + 1 + x1.toNatClampNeg))), (0, .ref (ad b)), (1, .int x1), (2, .int x2)]) hx hb dS_missOfAll_6 rfl hl (by decide) rfl (fun ls hl => ?_)
  refine lv_aload_n hx hb dS_missOfAll_7 rfl (lv_at hl 1 rfl) ?_
  refine m_getR (k' := (b + 9)) hx hb hts in_S hown hK hZ (qb 0 (by decide)).2 (qb 0 (by decide)).1 rfl 5 (by decide) (hts _ k1_135) (fun _ h9 => h9) rfl dS_missOfAll_8 ?_
  refine lv_iload_n hx hb dS_missOfAll_11 rfl (lv_at hl 2 rfl) ?_
  refine m_aald hx hb hK hZ (qb 9 (by decide)).2 (qb 9 (by decide)).1 h_inb_x1_4 dS_missOfAll_12 ?_
  refine lv_astore (lv' := [(4, .ref (ad ((b + 9) + 1 + x1.toNatClampNeg))), (3, .ref (ad ((b + 4) + 1 + x1.toNatClampNeg))), (0, .ref (ad b)), (1, .int x1), (2, .int x2)]) hx hb dS_missOfAll_13 hl (by decide) rfl (fun ls hl => ?_)
  refine lv_aload_n hx hb dS_missOfAll_15 rfl (lv_at hl 2 rfl) ?_
  refine m_getR (k' := 1) hx hb hts in_S hown hK hZ (qb 0 (by decide)).2 (qb 0 (by decide)).1 rfl 0 (by decide) (hts _ k1_130) (fun _ h9 => h9) rfl dS_missOfAll_16 ?_
  refine m_getR (k' := 14) hx hb hts in_P hown hK hZ (by decide) rfl rfl 12 (by decide) (hts _ k1_59) (fun _ h9 => h9) rfl dS_missOfAll_19 ?_
  refine lv_iload_n hx hb dS_missOfAll_22 rfl (lv_at hl 3 rfl) ?_
  refine m_aald hx hb hK hZ (by decide) rfl h_inb_x1_4 dS_missOfAll_23 ?_
  refine lv_astore (lv' := [(5, .ref (ad (14 + 1 + x1.toNatClampNeg))), (4, .ref (ad ((b + 9) + 1 + x1.toNatClampNeg))), (3, .ref (ad ((b + 4) + 1 + x1.toNatClampNeg))), (0, .ref (ad b)), (1, .int x1), (2, .int x2)]) hx hb dS_missOfAll_24 hl (by decide) rfl (fun ls hl => ?_)
  refine lv_aload_n hx hb dS_missOfAll_26 rfl (lv_at hl 3 rfl) ?_
  refine m_getR (k' := 1) hx hb hts in_S hown hK hZ (qb 0 (by decide)).2 (qb 0 (by decide)).1 rfl 0 (by decide) (hts _ k1_130) (fun _ h9 => h9) rfl dS_missOfAll_27 ?_
  refine m_getR (k' := 19) hx hb hts in_P hown hK hZ (by decide) rfl rfl 13 (by decide) (hts _ k1_62) (fun _ h9 => h9) rfl dS_missOfAll_30 ?_
  refine lv_iload_n hx hb dS_missOfAll_33 rfl (lv_at hl 4 rfl) ?_
  refine m_aald hx hb hK hZ (by decide) rfl h_inb_x1_4 dS_missOfAll_34 ?_
  refine lv_astore (lv' := [(6, .ref (ad (19 + 1 + x1.toNatClampNeg))), (5, .ref (ad (14 + 1 + x1.toNatClampNeg))), (4, .ref (ad ((b + 9) + 1 + x1.toNatClampNeg))), (3, .ref (ad ((b + 4) + 1 + x1.toNatClampNeg))), (0, .ref (ad b)), (1, .int x1), (2, .int x2)]) hx hb dS_missOfAll_35 hl (by decide) rfl (fun ls hl => ?_)
  refine lv_iconst (v := 0) hx hb dS_missOfAll_37 (by decide) ?_
  refine lv_istore (lv' := [(7, .int 0), (6, .ref (ad (19 + 1 + x1.toNatClampNeg))), (5, .ref (ad (14 + 1 + x1.toNatClampNeg))), (4, .ref (ad ((b + 9) + 1 + x1.toNatClampNeg))), (3, .ref (ad ((b + 4) + 1 + x1.toNatClampNeg))), (0, .ref (ad b)), (1, .int x1), (2, .int x2)]) hx hb dS_missOfAll_38 hl (by decide) rfl (fun ls hl => ?_)
  refine lv_iconst (v := 0) hx hb dS_missOfAll_40 (by decide) ?_
  refine lv_istore (lv' := [(8, .int 0), (7, .int 0), (6, .ref (ad (19 + 1 + x1.toNatClampNeg))), (5, .ref (ad (14 + 1 + x1.toNatClampNeg))), (4, .ref (ad ((b + 9) + 1 + x1.toNatClampNeg))), (3, .ref (ad ((b + 4) + 1 + x1.toNatClampNeg))), (0, .ref (ad b)), (1, .int x1), (2, .int x2)]) hx hb dS_missOfAll_41 hl (by decide) rfl (fun ls hl => ?_)
  exact L43 h_inb_x1_4 128 M 0 0 hf _ _ _ hZ (lv_sub hl [6, 8, 5, 4, 3, 2, 1, 0] rfl)
